/-! ### runScript -/
theorem wl_id {n : Int} (h : -9223372036854775808 ≤ n ∧ n < 9223372036854775808) : wl n = n := by
  show Int.bmod n 18446744073709551616 = n
  rw [Int.bmod_def]
  omega
theorem wi_id {n : Int} (h : -2147483648 ≤ n ∧ n < 2147483648) : wi n = n := by
  show Int.bmod n 4294967296 = n
  rw [Int.bmod_def]
  omega
theorem lg_cmpZ_le {x y : Int} : (lg_cmpZ x y ≤ 0 ↔ x ≤ y) ∧ (lg_cmpZ x y < 0 ↔ x < y) := by
  unfold lg_cmpZ
  split
  · omega
  · split <;> omega
def p6 : Nat → Int
  | 0 => 1
  | 1 => 1000000
  | 2 => 1000000000000
  | _ => 1000000000000000000
theorem p6_in : ∀ j : Nat, 1 ≤ p6 j ∧ p6 j ≤ 1000000000000000000
  | 0 => by decide
  | 1 => by decide
  | 2 => by decide
  | _ + 3 => by
    show (1 : Int) ≤ 1000000000000000000 ∧ (1000000000000000000 : Int) ≤ 1000000000000000000
    decide
theorem p6_cmp {s : Int} (hs : 0 ≤ s) : ∀ j : Nat, (s / p6 j ≤ 0 ↔ s < p6 j) ∧ 0 ≤ s / p6 j ∧ s / p6 j ≤ s
  | 0 => by
    show (s / 1 ≤ 0 ↔ s < 1) ∧ 0 ≤ s / 1 ∧ s / 1 ≤ s
    omega
  | 1 => by
    show (s / 1000000 ≤ 0 ↔ s < 1000000) ∧ 0 ≤ s / 1000000 ∧ s / 1000000 ≤ s
    omega
  | 2 => by
    show (s / 1000000000000 ≤ 0 ↔ s < 1000000000000) ∧ 0 ≤ s / 1000000000000 ∧ s / 1000000000000 ≤ s
    omega
  | _ + 3 => by
    show (s / 1000000000000000000 ≤ 0 ↔ s < 1000000000000000000) ∧ 0 ≤ s / 1000000000000000000 ∧ s / 1000000000000000000 ≤ s
    omega
def dvN : Nat → Int → Int
  | 0, s => s
  | m + 1, s => dvN m (s / 1000000)
theorem dvN_p6 {s : Int} (hs : 0 ≤ s) : ∀ m : Nat, m ≤ 3 → dvN m s = s / p6 m
  | 0, _ => by
    show s = s / 1
    omega
  | 1, _ => rfl
  | 2, _ => by
    show s / 1000000 / 1000000 = s / 1000000000000
    omega
  | 3, _ => by
    show s / 1000000 / 1000000 / 1000000 = s / 1000000000000000000
    omega
  | m + 4, h => absurd h (by omega)
theorem q_withoutGroups {s a : Int} {Q : Int → Prop} (hs : 0 ≤ s) (hs2 : s < 9223372036854775808) (ha : 0 ≤ a ∧ a ≤ 3) (k : Q (s / p6 a.toNat)) : Z_T_withoutGroups s a Q := by
  have key : ∀ (m : Nat) (i t : Int), i + m = a → 0 ≤ i → 0 ≤ t → t < 9223372036854775808 → Q (dvN m t) → ZL_T_withoutGroups_5 (m + 1) s a a t i Q := by
    intro m
    induction m with
    | zero =>
      intro i t hi h0 t0 t1 kk
      rw [ZL_T_withoutGroups_5]
      exact ⟨fun _ => kk, fun c => absurd c (by omega)⟩
    | succ m ih =>
      intro i t hi h0 t0 t1 kk
      rw [ZL_T_withoutGroups_5]
      refine ⟨fun c => absurd c (by omega), fun _ => ⟨by omega, ?_⟩⟩
      rw [Int.tdiv_eq_ediv_of_nonneg t0, wl_id (by omega)]
      exact ih (i + 1) (t / 1000000) (by omega) (by omega) (by omega) (by omega) kk
  refine ⟨_, key a.toNat 0 s (by omega) (by decide) hs hs2 ?_⟩
  rw [dvN_p6 hs a.toNat (by omega)]
  exact k
def tnN : Nat → Int → Int
  | 0, t => t
  | m + 1, t => tnN m (t * 10)
theorem tnN_le : ∀ (m : Nat) {t : Int}, 0 ≤ t → t ≤ tnN m t
  | 0, _, _ => Int.le_refl _
  | m + 1, t, h => by
    have g := tnN_le m (t := t * 10) (by omega)
    show t ≤ tnN m (t * 10)
    omega
theorem m_tensN {a : Int} {Q : Int → Prop} : ∀ (m : Nat) (i t : Int), i + m = a → 0 ≤ i → a ≤ 100 → 0 ≤ t → tnN m t < 9223372036854775808 → Q (tnN m t) → ZL_M_tens_4 (m + 1) a a t i Q := by
  intro m
  induction m with
  | zero =>
    intro i t hi h0 ha t0 t1 kk
    rw [ZL_M_tens_4]
    exact ⟨fun _ => kk, fun c => absurd c (by omega)⟩
  | succ m ih =>
    intro i t hi h0 ha t0 t1 kk
    rw [ZL_M_tens_4]
    have t1 : tnN m (t * 10) < 9223372036854775808 := t1
    have g := tnN_le m (t := t * 10) (by omega)
    refine ⟨fun c => absurd c (by omega), fun _ => ⟨by omega, ?_⟩⟩
    rw [wl_id (by omega)]
    exact ih (i + 1) (t * 10) (by omega) (by omega) ha (by omega) t1 kk
theorem m_tens {a : Int} {Q : Int → Prop} (ha : 0 ≤ a ∧ a ≤ 3) (k : Q (p6 a.toNat)) : Z_M_tens (6 * a) Q := by
  rcases (show a = 0 ∨ a = 1 ∨ a = 2 ∨ a = 3 by omega) with e | e | e | e <;> subst e
  · exact ⟨_, m_tensN 0 0 1 (by decide) (by decide) (by decide) (by decide) (by decide) k⟩
  · exact ⟨_, m_tensN 6 0 1 (by decide) (by decide) (by decide) (by decide) (by decide) k⟩
  · exact ⟨_, m_tensN 12 0 1 (by decide) (by decide) (by decide) (by decide) (by decide) k⟩
  · exact ⟨_, m_tensN 18 0 1 (by decide) (by decide) (by decide) (by decide) (by decide) k⟩
/-- the group of a place, from the right -/
abbrev grp (s : Int) (j : Nat) : Int := s / p6 j % 1000000
theorem grp_in {s : Int} {j : Nat} : 0 ≤ grp s j ∧ grp s j < 1000000 := by
  show 0 ≤ s / p6 j % 1000000 ∧ s / p6 j % 1000000 < 1000000
  omega
theorem grp_wi {q : Int} (h : 0 ≤ q) : wi (zremlZ q 1000000) = q % 1000000 := by
  show wi (Int.tmod q 1000000) = _
  rw [Int.tmod_eq_emod_of_nonneg h]
  exact wi_id (by omega)
/-- the way of a script: its answer -/
def rsR (s n : Int) : Nat → Int → SZ → Int → Prop
  | 0, _, _, res => res = -1
  | m + 1, i, σ, res => ∃ r σ', cmdR σ (grp s (n - 1 - i).toNat) r σ' ∧ ((¬ r = 0 ∧ rsR s n m (i + 1) σ' res) ∨ (r = 0 ∧ res = i))
section QP
variable {v : TZ} {w : MZ} {T : Int}
theorem q_rsLoop {s n : Int} {X : String → TZ → Prop} {Q : Int → TZ → Prop} (hs : 0 ≤ s) (hs2 : s < 9223372036854775808) (hn : n ≤ 3) : ∀ (m : Nat) (i : Int) (σ : SZ) (T : Int), i + m = n → 0 ≤ i → SOK σ T → T + 99 * m ≤ 5000000 → (∀ res τ, rsR s n m i σ res → Q res (Tz_set_trial v τ)) → ZL_T_runScript_54 (m + 1) n s n s i (Tz_set_trial v σ) X Q := by
  intro m
  induction m with
  | zero =>
    intro i σ T hi h0 h hT k
    rw [ZL_T_runScript_54]
    exact ⟨fun _ => k _ _ rfl, fun c => absurd c (by omega)⟩
  | succ m ih =>
    intro i σ T hi h0 h hT k
    rw [ZL_T_runScript_54]
    refine ⟨fun c => absurd c (by omega), fun _ => ⟨by omega, by omega, q_withoutGroups hs hs2 (by omega) ⟨by decide, ?_⟩⟩⟩
    have g := (p6_cmp hs (n - 1 - i).toNat).2
    rw [grp_wi g.1]
    refine q_succeeds (σ := σ) (by omega) (by omega) h (by omega) (fun r σ' e => ?_)
    rintro _ rfl
    have e' := e.ok h (by omega) grp_in.1 grp_in.2
    exact ⟨fun c => ⟨by omega, ih (i + 1) σ' (T + 99) (by omega) (by omega) e'.1 (by omega) (fun res τ p => k res τ ⟨r, σ', e, Or.inl ⟨c, p⟩⟩)⟩, fun c => k i σ' ⟨r, σ', e, Or.inr ⟨c, rfl⟩⟩⟩
theorem m_rsLoop {s n res : Int} {Q : Int → MZ → Prop} (hs : 0 ≤ s) (hs2 : s < 9223372036854775808) (hn : n ≤ 3) : ∀ (m : Nat) (i : Int) (σ : SZ) (W : Nat → Int) (T : Int), i + m = n → 0 ≤ i → SOK σ T → T + 99 * m ≤ 5000000 → Rel σ W → rsR s n m i σ res → (∀ W', Q res (Mz_set_trial w W')) → ZL_M_runScript_57 (m + 1) n s n s i (Mz_set_trial w W) Q := by
  intro m
  induction m with
  | zero =>
    intro i σ W T hi h0 h hT r p k
    rw [ZL_M_runScript_57]
    have p : res = -1 := p
    subst p
    exact ⟨fun _ => k _, fun c => absurd c (by omega)⟩
  | succ m ih =>
    intro i σ W T hi h0 h hT r p k
    rw [ZL_M_runScript_57]
    obtain ⟨x, σ', e, p⟩ := p
    have g := (p6_cmp hs (n - 1 - i).toNat).2
    have gp := p6_in (n - 1 - i).toNat
    refine ⟨fun c => absurd c (by omega), fun _ => ⟨by omega, by omega, by omega, m_tens (by omega) ⟨by omega, by decide, ?_⟩⟩⟩
    rw [Int.tdiv_eq_ediv_of_nonneg hs, wl_id (by omega), grp_wi g.1]
    have e' := e.ok h (by omega) grp_in.1 grp_in.2
    refine g_command (σ := σ) (w := Mz_set_trial w W) (by omega) (by omega) h (by omega) r e (fun W' r' => ⟨fun c => ⟨by omega, ?_⟩, fun c => ?_⟩)
    · rcases p with ⟨-, p⟩ | ⟨d, -⟩
      · exact ih (i + 1) σ' W' (T + 99) (by omega) (by omega) e'.1 (by omega) r' p k
      · exact absurd d c
    · rcases p with ⟨d, -⟩ | ⟨-, p⟩
      · exact absurd c d
      · subst p
        exact k W'
theorem k_runScript {a s : Int} (hs : -9223372036854775808 ≤ s ∧ s < 9223372036854775808) (h : SimZ T v w) (hT : T + 300 ≤ 5000000) : Z_T_runScript a s v (fun E v' => exZ E False (Z_M_runScript a s w (finZ T 1 0 v')) False) (fun r v' => Z_M_runScript a s w (finZ T 0 r v')) := by
  have h1 := h.1.1
  have no : ∀ v' : TZ, SimZ T v' w → ZJ_M_runScript_34 a s a s w (finZ T 1 0 v') := fun v' hv => by
    unfold ZJ_M_runScript_34 ZJ_M_runScript_35
    exact m_no (by decide) ⟨fun z => absurd z (by decide), fun _ => ⟨rfl, fun z => absurd z (by decide), hv⟩⟩
  have p := p6_in a.toNat
  have bad : 1 ≤ a → a ≤ 3 → ¬ (0 ≤ s ∧ s < p6 a.toNat) → Z_M_runScript a s w (finZ T 1 0 v) := fun a0 a1 c => m_in (fun _ _ => ⟨fun z => absurd z (by decide), fun _ => ⟨by omega, m_tens (by omega) (by
    rw [wl_id (by omega)]
    exact m_in (fun z1 z2 => absurd ⟨z1, by omega⟩ c) (fun _ => ⟨fun _ => no v h, fun z => absurd rfl z⟩))⟩⟩) (fun z => absurd ⟨a0, a1⟩ z)
  refine q_isIn (fun a0 a1 => ⟨fun _ => ⟨fun c => ex_iae (bad a0 a1 (fun z => absurd (lg_cmpZ_le.2.mp c) (by omega))), fun c => ?_⟩, fun c => absurd c (by decide)⟩) (fun c => ⟨fun c2 => absurd rfl c2, fun _ => ex_iae (m_in (fun z1 z2 => absurd ⟨z1, z2⟩ c) (fun _ => ⟨fun _ => no v h, fun z => absurd rfl z⟩))⟩)
  have s0 : 0 ≤ s := by
    rcases Int.lt_or_le s 0 with z | z
    · exact absurd (lg_cmpZ_le.2.mpr z) c
    · exact z
  have pc := p6_cmp s0 a.toNat
  refine q_withoutGroups s0 hs.2 (by omega) ⟨fun d => ?_, fun d => ex_iae (bad a0 a1 (fun z => d (lg_cmpZ_le.1.mpr (pc.1.mpr z.2))))⟩
  have s1 : s < p6 a.toNat := pc.1.mp (lg_cmpZ_le.1.mp d)
  refine q_copyToTry h1 (fun z hz => ⟨_, q_rsLoop s0 hs.2 a1 a.toNat 0 z T (by omega) (by decide) (h1.eq hz) (by omega) (fun res τ pr => ?_)⟩)
  refine m_in (fun _ _ => ⟨fun z => absurd z (by decide), fun _ => ⟨by omega, m_tens (by omega) ?_⟩⟩) (fun z => absurd ⟨a0, a1⟩ z)
  rw [wl_id (by omega)]
  refine m_in (fun _ _ => ⟨fun z => absurd z (by decide), fun _ => m_yes ⟨fun _ => m_copy (fun U hU => ?_), fun y => absurd rfl y⟩⟩) (fun z => absurd ⟨s0, by omega⟩ z)
  rintro _ rfl
  exact ⟨_, m_rsLoop s0 hs.2 a1 a.toNat 0 z U T (by omega) (by decide) (h1.eq hz) (by omega) ((h.1.2.eq h1 hz).weq (h1.eq hz) hU) pr (fun W' => ⟨rfl, fun _ => rfl, h⟩)⟩
end QP
