/-! ### what ticks would do -/
section QC
variable {v : TZ} {w : MZ} {T : Int}
theorem q_tick1 {σ : SZ} {Q : Int → SZ → Prop} (h : SOK σ T) (hT : T + 1 ≤ 5000000) (k : Q (Lz_dropped (Sz_log (tickS σ)) - Lz_dropped (Sz_log σ)) (tickS σ)) : Z_S_passTime 1 σ Q := by
  have g := q_passTime (n := 1) (Q := Q) h (by decide) (by omega) k
  exact g
theorem q_copyToTry {Q : TZ → Prop} (h : SOK (Tz_state v) T) (k : ∀ z, SEq z (Tz_state v) → Q (Tz_set_trial v z)) : Z_T_copyToTry v Q := by
  refine q_S_takeOver h (fun z hz => ?_)
  rintro _ rfl
  exact k z hz
def outD : Nat → Int → SZ → Int
  | 0, _, _ => -1
  | n + 1, i, σ => if Lz_dropped (Sz_log (tickS σ)) - Lz_dropped (Sz_log σ) ≤ 0 then outD n (i + 1) (tickS σ) else i
theorem q_dropIn {Q : Int → TZ → Prop} : ∀ (n : Nat) (i : Int) (σ : SZ) (T : Int), i + n = 301 → 0 ≤ i → SOK σ T → T + n ≤ 5000000 → (∀ z, Q (outD n i σ) (Tz_set_trial v z)) → ZL_T_droppedIn_7 (n + 1) i (Tz_set_trial v σ) Q := by
  intro n
  induction n with
  | zero =>
    intro i σ T hi h0 h hT k
    rw [ZL_T_droppedIn_7]
    exact ⟨fun _ => k σ, fun c => absurd c (by omega)⟩
  | succ n ih =>
    intro i σ T hi h0 h hT k
    rw [ZL_T_droppedIn_7]
    refine ⟨fun c => absurd c (by omega), fun _ => q_tick1 (σ := σ) h (by omega) ?_⟩
    rintro _ rfl
    refine ⟨fun c => ⟨by omega, ih (i + 1) (tickS σ) (T + 1) (by omega) (by omega) (h.tick (by omega)) (by omega) (fun z => ?_)⟩, fun c => ?_⟩
    · have g := k z
      rw [outD, if_pos c] at g
      exact g
    · have g := k (tickS σ)
      rw [outD, if_neg c] at g
      exact g
theorem m_dropIn {Q : Int → MZ → Prop} : ∀ (n : Nat) (i : Int) (σ : SZ) (V : Nat → Int) (T : Int), i + n = 301 → 0 ≤ i → SOK σ T → T + n ≤ 5000000 → Rel σ V → Mz_now w 617 = Lz_dropped (Sz_log σ) → (∀ V', Q (outD n i σ) (Mz_set_trial w V')) → ZL_M_droppedIn_18 (n + 1) i (Mz_set_trial w V) Q := by
  intro n
  induction n with
  | zero =>
    intro i σ V T hi h0 h hT r hd k
    rw [ZL_M_droppedIn_18]
    exact ⟨fun _ => k V, fun c => absurd c (by omega)⟩
  | succ n ih =>
    intro i σ V T hi h0 h hT r hd k
    rw [ZL_M_droppedIn_18]
    refine ⟨fun c => absurd c (by omega), fun _ => m_tick h (by omega) r (fun W' r' => ?_)⟩
    rintro _ rfl
    have e1 : W' 617 = Lz_dropped (Sz_log (tickS σ)) := r'.1.2.2.2.1
    have e2 := tick_dropped (σ := σ)
    refine ⟨by decide, by decide, fun c => ⟨by omega, ih (i + 1) (tickS σ) W' (T + 1) (by omega) (by omega) (h.tick (by omega)) (by omega) r' ?_ (fun z => ?_)⟩, fun c => ?_⟩
    · have c : W' 617 ≤ Mz_now w 617 := c
      omega
    · have c : W' 617 ≤ Mz_now w 617 := c
      have g := k z
      rw [outD, if_pos (by omega)] at g
      exact g
    · have c : ¬ W' 617 ≤ Mz_now w 617 := c
      have g := k W'
      rw [outD, if_neg (by omega)] at g
      exact g
theorem k_droppedIn (h : SimZ T v w) (hT : T + 300 ≤ 5000000) : Z_T_droppedIn v (fun r v' => Z_M_droppedIn w (finZ T 0 r v')) := by
  have h1 := h.1.1
  refine q_copyToTry h1 (fun z hz => ⟨_, q_dropIn 300 1 z T (by decide) (by decide) (h1.eq hz) (by omega) (fun z2 => ?_)⟩)
  rintro _ rfl
  refine m_copy (fun U hU => ?_)
  rintro _ rfl
  refine ⟨_, m_dropIn 300 1 z U T (by decide) (by decide) (h1.eq hz) (by omega) ((h.1.2.eq h1 hz).weq (h1.eq hz) hU) ?_ (fun V' => ⟨rfl, fun _ => rfl, h⟩)⟩
  exact h.1.2.1.2.2.2.1.trans hz.1.1.2.2.2.2.symm
theorem Rel.put {σ : SZ} {W : Nat → Int} {what x : Int} (h : SOK σ T) (r : Rel σ W) (h0 : 0 ≤ what) (h1 : what < 6) : Rel (stS σ what x) (updz W (610 + what).toNat x) :=
  (m_put (v := x) (Q := fun _ W' => Rel (stS σ what x) W') h r h0 h1 (fun _ g => g)).2.2.2 _ rfl
theorem q_ticksN {a : Int} {σ : SZ} {Q : Int → SZ → Prop} (h : SOK σ T) (h0 : 0 ≤ a ∧ a ≤ 999) (hT : T + a ≤ 5000000) (k : Q (Lz_dropped (Sz_log (ticksS a.toNat σ)) - Lz_dropped (Sz_log σ)) (ticksS a.toNat σ)) : Z_S_passTime a σ Q := by
  have e : ∀ a' : Int, a' = ((a.toNat : Nat) : Int) → Z_S_passTime a' σ Q := by
    intro a' e
    subst e
    exact q_passTime h (by omega) (by omega) k
  exact e a (by omega)
theorem m_ticksN {a : Int} {σ : SZ} {W : Nat → Int} {Q : Int → (Nat → Int) → Prop} (h : SOK σ T) (r : Rel σ W) (h0 : 0 ≤ a ∧ a ≤ 999) (hT : T + a ≤ 5000000) (k : ∀ W', Rel (ticksS a.toNat σ) W' → Q (Lz_dropped (Sz_log (ticksS a.toNat σ)) - Lz_dropped (Sz_log σ)) W') : Z_M_goTicks a W Q := by
  have e : ∀ a' : Int, a' = ((a.toNat : Nat) : Int) → Z_M_goTicks a' W Q := by
    intro a' e
    subst e
    exact m_goTicks h r (by omega) (by omega) k
  exact e a (by omega)
end QC
