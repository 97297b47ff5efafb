/-! ### a command of a script -/
abbrev noR (σ : SZ) (r : Int) (σ' : SZ) : Prop := r = 0 ∧ σ' = σ
def cmdD (σ : SZ) (g r : Int) (σ' : SZ) : Nat → Prop
  | 1 => attR σ 0 (g / 10000 % 10) (g / 100 % 100) (g % 100) r σ'
  | 2 => (g / 100 % 100 = 0 ∧ gfR σ (g / 10000 % 10) (g % 100) r σ') ∨ (¬ g / 100 % 100 = 0 ∧ noR σ r σ')
  | 3 => ((g / 10 % 100 = 0 ∧ g % 10 ≤ 1) ∧ attR σ 1 (g / 10000 % 10) (g / 1000 % 10) (g % 10) r σ') ∨ (¬ (g / 10 % 100 = 0 ∧ g % 10 ≤ 1) ∧ noR σ r σ')
  | 4 => (g % 10000 = 0 ∧ attR σ 3 (g / 10000 % 10) 0 0 r σ') ∨ (¬ g % 10000 = 0 ∧ noR σ r σ')
  | 5 => (g / 100 % 1000 = 0 ∧ attR σ 6 (g % 100) 0 0 r σ') ∨ (¬ g / 100 % 1000 = 0 ∧ noR σ r σ')
  | 6 => σ' = σ ∧ r = if g / 1000 % 10 = 0 ∧ isR σ (g / 10000 % 10) ∧ g % 1000 ≤ Rz_place (Sz_readers σ (g / 10000 % 10).toNat) then 1 else 0
  | 7 => σ' = σ ∧ r = if g / 100 % 100 = 0 ∧ g / 10000 % 10 < 8 ∧ toldX (Sz_log σ) (g / 10000 % 10) (Lz_end (Sz_log σ)) = g % 100 then 1 else 0
  | 8 => σ' = σ ∧ r = if g / 1000 % 100 = 0 ∧ g % 1000 ≤ Lz_first (Sz_log σ) then 1 else 0
  | 9 => σ' = σ ∧ r = if g / 10 % 1000 = 0 ∧ g % 10 ≤ 1 ∧ isR σ (g / 10000 % 10) ∧ Rz_held (Sz_readers σ (g / 10000 % 10).toNat) = g % 10 then 1 else 0
  | _ => noR σ r σ'
def cmdR (σ : SZ) (g r : Int) (σ' : SZ) : Prop := cmdD σ g r σ' (g / 100000).toNat
section QO
variable {σ σ' : SZ} {w : MZ} {T g r : Int}
theorem cmdR.get (e : cmdR σ g r σ') (i : Nat) (c : g / 100000 = i) : cmdD σ g r σ' i := by
  unfold cmdR at e
  rw [show (g / 100000).toNat = i by omega] at e
  exact e
theorem cmdR.put (i : Nat) (c : g / 100000 = i) (e : cmdD σ g r σ' i) : cmdR σ g r σ' := by
  unfold cmdR
  rw [show (g / 100000).toNat = i by omega]
  exact e
theorem cmdR.ok (h : SOK σ T) (hT : T + 99 ≤ 5000000) (hg : 0 ≤ g) (hg2 : g < 1000000) (e : cmdR σ g r σ') : SOK σ' (T + 99) ∧ (r = 0 ∨ r = 1) := by
  have no : r = 0 ∧ σ' = σ → SOK σ' (T + 99) ∧ (r = 0 ∨ r = 1) := fun ⟨e1, e2⟩ => by
    rw [e2]
    exact ⟨h.mono (by omega) hT, Or.inl e1⟩
  have is : ∀ P : Prop, [Decidable P] → σ' = σ ∧ r = (if P then 1 else 0) → SOK σ' (T + 99) ∧ (r = 0 ∨ r = 1) := fun P _ ⟨e1, e2⟩ => by
    rw [e1]
    refine ⟨h.mono (by omega) hT, ?_⟩
    rw [e2]
    split
    · exact Or.inr rfl
    · exact Or.inl rfl
  rcases (show g / 100000 = 0 ∨ g / 100000 = 1 ∨ g / 100000 = 2 ∨ g / 100000 = 3 ∨ g / 100000 = 4 ∨ g / 100000 = 5 ∨ g / 100000 = 6 ∨ g / 100000 = 7 ∨ g / 100000 = 8 ∨ g / 100000 = 9 by omega) with c | c | c | c | c | c | c | c | c | c
  · exact no (e.get 0 c)
  · have z := (e.get 1 c).ok h hT trivial
    exact ⟨z.1, z.2.2⟩
  · rcases e.get 2 c with ⟨-, e⟩ | ⟨-, e⟩
    · have z := e.ok h hT
      exact ⟨z.1, z.2.2⟩
    · exact no e
  · rcases e.get 3 c with ⟨d, e⟩ | ⟨-, e⟩
    · have z := e.ok h hT (show g % 10 = 0 ∨ g % 10 = 1 by omega)
      exact ⟨z.1, z.2.2⟩
    · exact no e
  · rcases e.get 4 c with ⟨-, e⟩ | ⟨-, e⟩
    · have z := e.ok h hT trivial
      exact ⟨z.1, z.2.2⟩
    · exact no e
  · rcases e.get 5 c with ⟨-, e⟩ | ⟨-, e⟩
    · have z := e.ok h hT trivial
      exact ⟨z.1, z.2.2⟩
    · exact no e
  · exact is _ (e.get 6 c)
  · exact is _ (e.get 7 c)
  · exact is _ (e.get 8 c)
  · exact is _ (e.get 9 c)
theorem q01 {Q : Int → SZ → Prop} (hr : r = 0 ∨ r = 1) (k : Q r σ') : (r = 0 → Q 0 σ') ∧ (¬ r = 0 → Q 1 σ') := by
  rcases hr with z | z
  · subst z
    exact ⟨fun _ => k, fun z => absurd rfl z⟩
  · subst z
    exact ⟨fun z => absurd z (by decide), fun _ => k⟩
theorem m01 {Q : Int → MZ → Prop} {w' : MZ} (hr : r = 0 ∨ r = 1) (k : Q r w') : (r = 0 → Q 0 w') ∧ (¬ r = 0 → Q 1 w') := by
  rcases hr with z | z
  · subst z
    exact ⟨fun _ => k, fun z => absurd rfl z⟩
  · subst z
    exact ⟨fun z => absurd z (by decide), fun _ => k⟩
theorem q_succeeds {Q : Int → SZ → Prop} (hg : 0 ≤ g) (hg2 : g < 1000000) (h : SOK σ T) (hT : T + 99 ≤ 5000000) (k : ∀ r σ', cmdR σ g r σ' → Q r σ') : Z_T_succeeds g σ Q := by
  have p1 : 0 ≤ g / 10 := by omega
  have p2 : 0 ≤ g / 100 := by omega
  have p3 : 0 ≤ g / 1000 := by omega
  have p4 : 0 ≤ g / 10000 := by omega
  have hL := h.1.1
  have J : ∀ u : Int, (u = 0 → ¬ g / 100 % 100 = 0) → (¬ u = 0 → g / 100 % 100 = 0) → ZJ_T_succeeds_42 g g (g / 10000 % 10) (g % 10) (g % 100) (g % 1000) u σ Q := by
    intro u hu0 hu1
    unfold ZJ_T_succeeds_42
    simp only [Int.tdiv_eq_ediv_of_nonneg hg, Int.tmod_eq_emod_of_nonneg hg, Int.tmod_eq_emod_of_nonneg p1, Int.tmod_eq_emod_of_nonneg p2, Int.tmod_eq_emod_of_nonneg p3, Int.tmod_eq_emod_of_nonneg p4]
    refine ⟨fun c => ?_, fun c1 => ⟨fun c => ?_, fun c2 => ⟨fun c => ?_, fun c3 => ⟨fun c => ?_, fun c4 => ⟨fun c => ?_, fun c5 => ⟨fun c => ?_, fun c6 => ⟨fun c => ?_, fun c7 => ⟨fun c => ?_, fun c8 => ⟨fun c => ?_, fun c9 => ?_⟩⟩⟩⟩⟩⟩⟩⟩⟩
    · exact q_attR (c := 0) (by decide) h hT trivial (fun r σ' e => ⟨(e.ok h hT trivial).2.2, k r σ' (cmdR.put 1 c e)⟩)
    · exact ⟨fun d => k 0 σ (cmdR.put 2 c (Or.inr ⟨hu0 d, rfl, rfl⟩)), fun d => q_gfR h hT (fun r σ' e => q01 (e.ok h hT).2.2 (k r σ' (cmdR.put 2 c (Or.inl ⟨hu1 d, e⟩))))⟩
    · exact ⟨fun d => k 0 σ (cmdR.put 3 c (Or.inr ⟨by omega, rfl, rfl⟩)), fun d => ⟨fun d2 => k 0 σ (cmdR.put 3 c (Or.inr ⟨by omega, rfl, rfl⟩)), fun d2 => q_attR (c := 1) (by decide) h hT (show g % 10 = 0 ∨ g % 10 = 1 by omega) (fun r σ' e => q01 (e.ok h hT (show g % 10 = 0 ∨ g % 10 = 1 by omega)).2.2 (k r σ' (cmdR.put 3 c (Or.inl ⟨by omega, e⟩))))⟩⟩
    · exact ⟨fun d => k 0 σ (cmdR.put 4 c (Or.inr ⟨d, rfl, rfl⟩)), fun d => q_attR (c := 3) (by decide) h hT trivial (fun r σ' e => q01 (e.ok h hT trivial).2.2 (k r σ' (cmdR.put 4 c (Or.inl ⟨d, e⟩))))⟩
    · exact ⟨fun d => k 0 σ (cmdR.put 5 c (Or.inr ⟨d, rfl, rfl⟩)), fun d => q_attR (c := 6) (by decide) h hT trivial (fun r σ' e => q01 (e.ok h hT trivial).2.2 (k r σ' (cmdR.put 5 c (Or.inl ⟨d, e⟩))))⟩
    · exact ⟨fun d => k 0 σ (cmdR.put 6 c ⟨rfl, (if_neg (fun z => d z.1)).symm⟩), fun d => q_isAtLeastAt h (fun p => ⟨fun z => absurd z (by decide), fun _ => k 1 σ (cmdR.put 6 c ⟨rfl, (if_pos ⟨d, p⟩).symm⟩)⟩) (fun p => ⟨fun _ => k 0 σ (cmdR.put 6 c ⟨rfl, (if_neg (fun z => p z.2)).symm⟩), fun z => absurd rfl z⟩)⟩
    · exact ⟨fun d => k 0 σ (cmdR.put 7 c ⟨rfl, (if_neg (fun z => hu0 d z.1)).symm⟩), fun d => ⟨fun d2 => k 0 σ (cmdR.put 7 c ⟨rfl, (if_neg (fun z => absurd z.2.1 (by omega))).symm⟩), fun d2 => q_toldForwards h.1 (by omega) (by omega) hL.2.1 (Int.le_refl _) ⟨fun d3 => k 0 σ (cmdR.put 7 c ⟨rfl, (if_neg (fun z => d3 z.2.2)).symm⟩), fun d3 => k 1 σ (cmdR.put 7 c ⟨rfl, (if_pos ⟨hu1 d, by omega, d3⟩).symm⟩)⟩⟩⟩
    · exact ⟨fun d => k 0 σ (cmdR.put 8 c ⟨rfl, (if_neg (fun z => d z.1)).symm⟩), fun d => ⟨fun d2 => k 0 σ (cmdR.put 8 c ⟨rfl, (if_neg (fun z => absurd z.2 (by omega))).symm⟩), fun d2 => k 1 σ (cmdR.put 8 c ⟨rfl, (if_pos ⟨d, by omega⟩).symm⟩)⟩⟩
    · refine ⟨fun d => k 0 σ (cmdR.put 9 c ⟨rfl, (if_neg (fun z => d z.1)).symm⟩), fun d => ⟨fun d2 => k 0 σ (cmdR.put 9 c ⟨rfl, (if_neg (fun z => absurd z.2.1 (by omega))).symm⟩), fun d2 => q_reader h (fun i hi hi8 hp => ⟨fun z => (nomatch z), fun j z => ?_⟩) (fun p => ⟨fun _ => k 0 σ (cmdR.put 9 c ⟨rfl, (if_neg (fun z => p z.2.2.1)).symm⟩), fun j z => (nomatch z)⟩)⟩⟩
      have hr : isR σ (g / 10000 % 10) := ⟨by omega, by rw [show (g / 10000 % 10).toNat = i by omega]; exact hp⟩
      have g3 := (h.2.2.2 (g / 10000 % 10).toNat (by omega)).2.2.1
      have yes : Rz_held (Sz_readers σ (g / 10000 % 10).toNat) = g % 10 → Q 1 σ := fun z => k 1 σ (cmdR.put 9 c ⟨rfl, (if_pos ⟨d, by omega, hr, z⟩).symm⟩)
      have no : ¬ Rz_held (Sz_readers σ (g / 10000 % 10).toNat) = g % 10 → Q 0 σ := fun z => k 0 σ (cmdR.put 9 c ⟨rfl, (if_neg (fun y => z y.2.2.2)).symm⟩)
      exact q_hasHold h (fun p => ⟨fun d3 => ⟨fun _ => no (by omega), fun z => absurd z (by decide)⟩, fun d3 => ⟨fun z => absurd rfl z, fun _ => yes (by omega)⟩⟩) (fun p => ⟨fun d3 => ⟨fun z => absurd rfl z, fun _ => yes (by have : ¬ Rz_held (Sz_readers σ (g / 10000 % 10).toNat) = 1 := fun z => p ⟨hr, z⟩; omega)⟩, fun d3 => ⟨fun _ => no (by have : ¬ Rz_held (Sz_readers σ (g / 10000 % 10).toNat) = 1 := fun z => p ⟨hr, z⟩; omega), fun z => absurd z (by decide)⟩⟩)
    · exact k 0 σ (cmdR.put 0 (by omega) ⟨rfl, rfl⟩)
  unfold Z_T_succeeds
  simp only [Int.tdiv_eq_ediv_of_nonneg hg, Int.tmod_eq_emod_of_nonneg hg, Int.tmod_eq_emod_of_nonneg p2, Int.tmod_eq_emod_of_nonneg p4]
  exact ⟨fun d => J 0 (fun _ => d) (fun z => absurd rfl z), fun d => J 1 (fun z => absurd z (by decide)) (fun _ => d)⟩
theorem g_command {Q : Int → MZ → Prop} (hg : 0 ≤ g) (hg2 : g < 1000000) (h : SOK σ T) (hT : T + 99 ≤ 5000000) (rl : Rel σ (Mz_trial w)) (e : cmdR σ g r σ') (k : ∀ W', Rel σ' W' → Q r (Mz_set_trial w W')) : Z_M_command g w Q := by
  have p1 : 0 ≤ g / 10 := by omega
  have p2 : 0 ≤ g / 100 := by omega
  have p3 : 0 ≤ g / 1000 := by omega
  have p4 : 0 ≤ g / 10000 := by omega
  have hL := h.1.1
  have noM : noR σ r σ' → Q 0 w := fun ⟨e1, e2⟩ => by
    subst e1; subst e2
    exact k _ rl
  have isM : ∀ P : Prop, [Decidable P] → σ' = σ ∧ r = (if P then 1 else 0) → (P → Q 1 w) ∧ (¬ P → Q 0 w) := fun P _ ⟨e1, e2⟩ => by
    subst e1; subst e2
    refine ⟨fun p => ?_, fun p => ?_⟩
    · have z := k _ rl
      rw [if_pos p] at z
      exact z
    · have z := k _ rl
      rw [if_neg p] at z
      exact z
  unfold Z_M_command
  simp only [Int.tdiv_eq_ediv_of_nonneg hg, Int.tmod_eq_emod_of_nonneg hg, Int.tmod_eq_emod_of_nonneg p1, Int.tmod_eq_emod_of_nonneg p2, Int.tmod_eq_emod_of_nonneg p3, Int.tmod_eq_emod_of_nonneg p4]
  refine ⟨fun c => ?_, fun c1 => ⟨fun c => ?_, fun c2 => ⟨fun c => ?_, fun c3 => ⟨fun c => ?_, fun c4 => ⟨fun c => ?_, fun c5 => ⟨fun c => ?_, fun c6 => ⟨fun c => ?_, fun c7 => ⟨fun c => ?_, fun c8 => ⟨fun c => ?_, fun c9 => ?_⟩⟩⟩⟩⟩⟩⟩⟩⟩
  · have e := e.get 1 c
    exact m_runWrite h hT rl e (fun W' r' => ⟨(e.ok h hT trivial).2.2, k W' r'⟩)
  · rcases e.get 2 c with ⟨d, e⟩ | ⟨d, e⟩
    · exact ⟨fun z => absurd z (by omega), fun _ => m_runRead h hT rl e (fun W' r' => m01 (e.ok h hT).2.2 (k W' r'))⟩
    · exact ⟨fun _ => noM e, fun z => absurd z (by omega)⟩
  · rcases e.get 3 c with ⟨d, e⟩ | ⟨d, e⟩
    · have v3 : valA 1 (g / 1000 % 10) (g % 10) := show g % 10 = 0 ∨ g % 10 = 1 by omega
      have go : ∀ b : Int, b = g % 10 → Z_M_runJoin (g / 10000 % 10) (g / 1000 % 10) b w (fun r24_ v28_ => ((r24_ = 0 → (Q 0 v28_)) ∧ (¬ r24_ = 0 → (Q 1 v28_)))) := by
        intro b hb
        subst hb
        exact m_runJoin v3 h hT rl e (fun W' r' => m01 (e.ok h hT v3).2.2 (k W' r'))
      exact ⟨fun z => absurd z (by omega), fun _ => ⟨fun z => go 0 (by omega), fun z => go 1 (by omega)⟩⟩
    · exact ⟨fun _ => noM e, fun z => absurd z (by omega)⟩
  · rcases e.get 4 c with ⟨d, e⟩ | ⟨d, e⟩
    · exact ⟨fun z => absurd d z, fun _ => m_runLeave h hT rl e (fun W' r' => m01 (e.ok h hT trivial).2.2 (k W' r'))⟩
    · exact ⟨fun _ => noM e, fun z => absurd z d⟩
  · rcases e.get 5 c with ⟨d, e⟩ | ⟨d, e⟩
    · exact ⟨fun z => absurd z (by omega), fun _ => m_runTicks h hT rl e (fun W' r' => m01 (e.ok h hT trivial).2.2 (k W' r'))⟩
    · exact ⟨fun _ => noM e, fun z => absurd z (by omega)⟩
  · obtain ⟨y, n⟩ := isM _ (e.get 6 c)
    refine ⟨fun z => n (fun q => absurd q.1 (by omega)), fun z => m_isReader h rl (fun p => ⟨fun z => absurd z (by decide), fun _ => m_reader p.1.1 p.1.2 ⟨by omega, by omega, ?_⟩⟩) (fun p => ⟨fun _ => n (fun q => p q.2.1), fun z => absurd rfl z⟩)⟩
    rw [((rl.2.2.2.2.2 (g / 10000 % 10) p.1.1 p.1.2).2.1 p.2).1]
    exact ⟨fun d => n (fun q => absurd q.2.2 (by omega)), fun d => y ⟨by omega, p, by omega⟩⟩
  · obtain ⟨y, n⟩ := isM _ (e.get 7 c)
    refine ⟨fun z => n (fun q => absurd q.1 (by omega)), fun z => m_isKey (fun a0 a1 => ⟨fun z => absurd z (by decide), fun _ => ⟨by decide, ?_⟩⟩) (fun p => ⟨fun _ => n (fun q => absurd q.2.1 (by omega)), fun z => absurd rfl z⟩)⟩
    rw [rl.1.2.1]
    exact m_told h rl a0 (by omega) hL.2.1 (Int.le_refl _) ⟨fun d => n (fun q => d q.2.2), fun d => y ⟨by omega, by omega, d⟩⟩
  · obtain ⟨y, n⟩ := isM _ (e.get 8 c)
    refine ⟨fun z => n (fun q => absurd q.1 (by omega)), fun z => ⟨by decide, ?_⟩⟩
    rw [rl.1.1]
    exact ⟨fun d => n (fun q => absurd q.2 (by omega)), fun d => y ⟨by omega, by omega⟩⟩
  · obtain ⟨y, n⟩ := isM _ (e.get 9 c)
    refine ⟨fun z => n (fun q => absurd q.1 (by omega)), fun z => m_isReader h rl (fun p => ⟨fun z => absurd z (by decide), fun _ => m_reader p.1.1 p.1.2 ⟨by omega, by omega, ?_⟩⟩) (fun p => ⟨fun _ => n (fun q => p q.2.2.1), fun z => absurd rfl z⟩)⟩
    rw [((rl.2.2.2.2.2 (g / 10000 % 10) p.1.1 p.1.2).2.1 p.2).2.1]
    exact ⟨fun d => n (fun q => d q.2.2.2), fun d => y ⟨by omega, by omega, p, d⟩⟩
  · exact noM (e.get 0 (by omega))
end QO
