/-! ### what ticks would do -/
section QC
variable {v : TZ} {w : MZ} {T : Int}
theorem q_tick1 {σ : SZ} {Q : Int → SZ → Prop} (h : SOK σ T) (hT : T + 1 ≤ 5000000) (k : Q (Lz_dropped (Sz_log (tickS σ)) - Lz_dropped (Sz_log σ)) (tickS σ)) : Z_S_passTime 1 σ Q := by
  have g := q_passTime (n := 1) (Q := Q) h (by decide) (by omega) k
  exact g
theorem q_copyToTry {Q : TZ → Prop} (h : SOK (Tz_state v) T) (k : ∀ z, SEq z (Tz_state v) → Q (Tz_set_trial v z)) : Z_T_copyToTry v Q := by
  refine q_S_takeOver h (fun z hz => ?_)
  rintro _ rfl
  exact k z hz
def outD : Nat → Int → SZ → Int
  | 0, _, _ => -1
  | n + 1, i, σ => if Lz_dropped (Sz_log (tickS σ)) - Lz_dropped (Sz_log σ) ≤ 0 then outD n (i + 1) (tickS σ) else i
theorem q_dropIn {Q : Int → TZ → Prop} : ∀ (n : Nat) (i : Int) (σ : SZ) (T : Int), i + n = 301 → 0 ≤ i → SOK σ T → T + n ≤ 5000000 → (∀ z, Q (outD n i σ) (Tz_set_trial v z)) → ZL_T_droppedIn_7 (n + 1) i (Tz_set_trial v σ) Q := by
  intro n
  induction n with
  | zero =>
    intro i σ T hi h0 h hT k
    rw [ZL_T_droppedIn_7]
    exact ⟨fun _ => k σ, fun c => absurd c (by omega)⟩
  | succ n ih =>
    intro i σ T hi h0 h hT k
    rw [ZL_T_droppedIn_7]
    refine ⟨fun c => absurd c (by omega), fun _ => q_tick1 (σ := σ) h (by omega) ?_⟩
    rintro _ rfl
    refine ⟨fun c => ⟨by omega, ih (i + 1) (tickS σ) (T + 1) (by omega) (by omega) (h.tick (by omega)) (by omega) (fun z => ?_)⟩, fun c => ?_⟩
    · have g := k z
      rw [outD, if_pos c] at g
      exact g
    · have g := k (tickS σ)
      rw [outD, if_neg c] at g
      exact g
theorem m_dropIn {Q : Int → MZ → Prop} : ∀ (n : Nat) (i : Int) (σ : SZ) (V : Nat → Int) (T : Int), i + n = 301 → 0 ≤ i → SOK σ T → T + n ≤ 5000000 → Rel σ V → Mz_now w 617 = Lz_dropped (Sz_log σ) → (∀ V', Q (outD n i σ) (Mz_set_trial w V')) → ZL_M_droppedIn_18 (n + 1) i (Mz_set_trial w V) Q := by
  intro n
  induction n with
  | zero =>
    intro i σ V T hi h0 h hT r hd k
    rw [ZL_M_droppedIn_18]
    exact ⟨fun _ => k V, fun c => absurd c (by omega)⟩
  | succ n ih =>
    intro i σ V T hi h0 h hT r hd k
    rw [ZL_M_droppedIn_18]
    refine ⟨fun c => absurd c (by omega), fun _ => m_tick h (by omega) r (fun W' r' => ?_)⟩
    rintro _ rfl
    have e1 : W' 617 = Lz_dropped (Sz_log (tickS σ)) := r'.1.2.2.2.1
    have e2 := tick_dropped (σ := σ)
    refine ⟨by decide, by decide, fun c => ⟨by omega, ih (i + 1) (tickS σ) W' (T + 1) (by omega) (by omega) (h.tick (by omega)) (by omega) r' ?_ (fun z => ?_)⟩, fun c => ?_⟩
    · have c : W' 617 ≤ Mz_now w 617 := c
      omega
    · have c : W' 617 ≤ Mz_now w 617 := c
      have g := k z
      rw [outD, if_pos (by omega)] at g
      exact g
    · have c : ¬ W' 617 ≤ Mz_now w 617 := c
      have g := k W'
      rw [outD, if_neg (by omega)] at g
      exact g
theorem k_droppedIn (h : SimZ T v w) (hT : T + 300 ≤ 5000000) : Z_T_droppedIn v (fun r v' => Z_M_droppedIn w (finZ T 0 r v')) := by
  have h1 := h.1.1
  refine q_copyToTry h1 (fun z hz => ⟨_, q_dropIn 300 1 z T (by decide) (by decide) (h1.eq hz) (by omega) (fun z2 => ?_)⟩)
  rintro _ rfl
  refine m_copy (fun U hU => ?_)
  rintro _ rfl
  refine ⟨_, m_dropIn 300 1 z U T (by decide) (by decide) (h1.eq hz) (by omega) ((h.1.2.eq h1 hz).weq (h1.eq hz) hU) ?_ (fun V' => ⟨rfl, fun _ => rfl, h⟩)⟩
  exact h.1.2.1.2.2.2.1.trans hz.1.1.2.2.2.2.symm
theorem Rel.put {σ : SZ} {W : Nat → Int} {what x : Int} (h : SOK σ T) (r : Rel σ W) (h0 : 0 ≤ what) (h1 : what < 6) : Rel (stS σ what x) (updz W (610 + what).toNat x) :=
  (m_put (v := x) (Q := fun _ W' => Rel (stS σ what x) W') h r h0 h1 (fun _ g => g)).2.2.2 _ rfl
theorem q_ticksN {a : Int} {σ : SZ} {Q : Int → SZ → Prop} (h : SOK σ T) (h0 : 0 ≤ a ∧ a ≤ 999) (hT : T + a ≤ 5000000) (k : Q (Lz_dropped (Sz_log (ticksS a.toNat σ)) - Lz_dropped (Sz_log σ)) (ticksS a.toNat σ)) : Z_S_passTime a σ Q := by
  have e : ∀ a' : Int, a' = ((a.toNat : Nat) : Int) → Z_S_passTime a' σ Q := by
    intro a' e
    subst e
    exact q_passTime h (by omega) (by omega) k
  exact e a (by omega)
theorem m_ticksN {a : Int} {σ : SZ} {W : Nat → Int} {Q : Int → (Nat → Int) → Prop} (h : SOK σ T) (r : Rel σ W) (h0 : 0 ≤ a ∧ a ≤ 999) (hT : T + a ≤ 5000000) (k : ∀ W', Rel (ticksS a.toNat σ) W' → Q (Lz_dropped (Sz_log (ticksS a.toNat σ)) - Lz_dropped (Sz_log σ)) W') : Z_M_goTicks a W Q := by
  have e : ∀ a' : Int, a' = ((a.toNat : Nat) : Int) → Z_M_goTicks a' W Q := by
    intro a' e
    subst e
    exact m_goTicks h r (by omega) (by omega) k
  exact e a (by omega)
abbrev diffN (z : SZ) (a b : Int) : Int := Lz_dropped (Sz_log (ticksS b.toNat (stS z 3 a))) - Lz_dropped (Sz_log z)
theorem q_dropsNone {a b : Int} {Q : Int → TZ → Prop} (h : SOK (Tz_state v) T) (hT : T + 300 ≤ 5000000) (ha : 0 ≤ a ∧ a ≤ 4000) (hb : 1 ≤ b ∧ b ≤ 200) (k : ∀ z t, SEq z (Tz_state v) → Q (if diffN z a b = 0 then 1 else 0) (Tz_set_trial v t)) : Z_T_dropsNone a b v Q := by
  refine q_copyToTry h (fun z hz => ?_)
  have hz1 := h.eq hz
  have o : setP 3 a := ⟨by decide, ha⟩
  have of : fltA z 5 3 a 0 = 0 := if_pos o
  refine q_attempt (c := 5) (by decide) hz1 (by omega) trivial (fun _ r σ' hr => ?_) (fun c => absurd of c)
  obtain ⟨e1, e2⟩ := hr
  subst e2
  rintro _ rfl
  refine q_ticksN (σ := stS z 3 a) (hz1.st (by decide) (by decide) o.2) (by omega) (by omega) ?_
  rintro _ rfl
  have g := fun t => k z t hz
  refine ⟨fun c => ?_, fun c => ?_⟩
  · have g := g (ticksS b.toNat (stS z 3 a))
    rw [if_neg c] at g
    exact g
  · have g := g (ticksS b.toNat (stS z 3 a))
    rw [if_pos c] at g
    exact g
theorem m_keepsAll {a b : Int} {z : SZ} {Q : Int → MZ → Prop} (h : SimZ T v w) (hz : SEq z (Tz_state v)) (hT : T + 300 ≤ 5000000) (ha : 0 ≤ a ∧ a ≤ 4000) (hb : 1 ≤ b ∧ b ≤ 200) (k : ∀ V, Q (if diffN z a b = 0 then 1 else 0) (Mz_set_trial w V)) : Z_M_keepsAll a b w Q := by
  have hz1 := h.1.1.eq hz
  have o : setP 3 a := ⟨by decide, ha⟩
  refine m_copy (fun U hU => ?_)
  have r : Rel z U := (h.1.2.eq h.1.1 hz).weq hz1 hU
  rintro _ rfl
  refine ⟨by decide, ?_⟩
  rintro _ rfl
  have r2 : Rel (stS z 3 a) (updz U (Int.toNat 613) a) := r.put (what := 3) (x := a) hz1 (by decide) (by decide)
  refine m_ticksN (σ := stS z 3 a) (hz1.st (by decide) (by decide) o.2) r2 (by omega) (by omega) (fun W' r' => ?_)
  rintro _ rfl
  refine ⟨fun c => ?_, fun c => ?_⟩
  · have g := k W'
    rw [if_neg c] at g
    exact g
  · have g := k W'
    rw [if_pos c] at g
    exact g
theorem k_leastRoom {a : Int} (h : SimZ T v w) (hT : T + 300 ≤ 5000000) : Z_T_leastRoom a v (fun E v' => exZ E False (Z_M_leastRoom a w (finZ T 1 0 v')) False) (fun r v' => Z_M_leastRoom a w (finZ T 0 r v')) := by
  have h1 := h.1.1
  have hl := h1.1.len
  obtain ⟨e1, e2, -⟩ := h.m400
  have st : ∀ {r : Int} {v' : TZ}, 1 ≤ a → a ≤ 200 → Z_M_keepsAll 0 a (Mz_set_refusal w 0) (fun r21_ v25_ => ((r21_ = 0 → ((4000 < Lz_length (Sz_log (Tz_state v)) → (finZ T 0 r v' (-1) v25_)) ∧ (¬ 4000 < Lz_length (Sz_log (Tz_state v)) → (Z_M_keepsAll (Lz_length (Sz_log (Tz_state v))) a v25_ (fun r31_ v35_ => ((r31_ = 0 → (finZ T 0 r v' (-1) v35_)) ∧ (¬ r31_ = 0 → (finZ T 0 r v' (Lz_length (Sz_log (Tz_state v))) v35_)))))))) ∧ (¬ r21_ = 0 → (finZ T 0 r v' 0 v25_)))) → Z_M_leastRoom a w (finZ T 0 r v') := by
    intro r v' a0 a1 g
    have go : ZJ_M_leastRoom_18 a a 0 w (finZ T 0 r v') := m_yes ⟨fun _ => ⟨by decide, by decide, m_sizesAll h1 h.1.2 g⟩, fun z => absurd rfl z⟩
    exact m_in (fun _ _ => ⟨fun z => absurd z (by decide), fun _ => go⟩) (fun z => absurd ⟨a0, a1⟩ z)
  refine q_isIn (fun a0 a1 => ⟨fun _ => q_dropsNone h1 hT (by decide) ⟨a0, a1⟩ (fun z t hz => ?_), fun c => absurd c (by decide)⟩) (fun c => ⟨fun c2 => absurd rfl c2, fun _ => ex_iae ?_⟩)
  · by_cases q : diffN z 0 a = 0
    · rw [if_pos q]
      refine ⟨fun c => absurd c (by decide), fun _ => st a0 a1 (m_keepsAll (w := Mz_set_refusal w 0) h hz hT (by decide) ⟨a0, a1⟩ (fun V => ?_))⟩
      rw [if_pos q]
      exact ⟨fun c => absurd c (by decide), fun _ => ⟨rfl, fun _ => rfl, h⟩⟩
    · rw [if_neg q]
      refine ⟨fun _ => ⟨fun c => ?_, fun c => ?_⟩, fun c => absurd rfl c⟩
      · refine st a0 a1 (m_keepsAll (w := Mz_set_refusal w 0) h hz hT (by decide) ⟨a0, a1⟩ (fun V => ?_))
        rw [if_neg q]
        exact ⟨fun _ => ⟨fun _ => ⟨rfl, fun _ => rfl, h⟩, fun z => absurd c z⟩, fun z => absurd rfl z⟩
      · have c : ¬ 4000 < Lz_length (Sz_log (Tz_state v)) := c
        refine q_dropsNone (v := Tz_set_trial v t) h1 hT ⟨hl.1, by omega⟩ ⟨a0, a1⟩ (fun z2 t2 hz2 => ?_)
        by_cases q2 : diffN z2 (Lz_length (Sz_log (Tz_state v))) a = 0
        · rw [if_pos q2]
          refine ⟨fun z => absurd z (by decide), fun _ => st a0 a1 (m_keepsAll (w := Mz_set_refusal w 0) h hz hT (by decide) ⟨a0, a1⟩ (fun V => ?_))⟩
          rw [if_neg q]
          refine ⟨fun _ => ⟨fun z => absurd z c, fun _ => m_keepsAll (v := v) (w := Mz_set_trial (Mz_set_refusal w 0) V) h hz2 hT ⟨hl.1, by omega⟩ ⟨a0, a1⟩ (fun V2 => ?_)⟩, fun z => absurd rfl z⟩
          rw [if_pos q2]
          exact ⟨fun z => absurd z (by decide), fun _ => ⟨rfl, fun _ => rfl, h⟩⟩
        · rw [if_neg q2]
          refine ⟨fun _ => st a0 a1 (m_keepsAll (w := Mz_set_refusal w 0) h hz hT (by decide) ⟨a0, a1⟩ (fun V => ?_)), fun z => absurd rfl z⟩
          rw [if_neg q]
          refine ⟨fun _ => ⟨fun z => absurd z c, fun _ => m_keepsAll (v := v) (w := Mz_set_trial (Mz_set_refusal w 0) V) h hz2 hT ⟨hl.1, by omega⟩ ⟨a0, a1⟩ (fun V2 => ?_)⟩, fun z => absurd rfl z⟩
          rw [if_neg q2]
          exact ⟨fun _ => ⟨rfl, fun _ => rfl, h⟩, fun z => absurd rfl z⟩
  · exact m_in (fun z1 z2 => absurd ⟨z1, z2⟩ c) (fun _ => ⟨fun _ => m_no (by decide) ⟨fun z => absurd z (by decide), fun _ => ⟨rfl, fun z => absurd z (by decide), h⟩⟩, fun z => absurd rfl z⟩)
end QC
