/-! ### an action tried, on both sides -/
/-- an action tried: done, or left -/
def attR (σ : SZ) (c : Nat) (a b d r : Int) (σ' : SZ) : Prop := (fltA σ c a b d = 0 ∧ r = 1 ∧ ∃ x, resA σ c a b d x σ') ∨ (¬ fltA σ c a b d = 0 ∧ r = 0 ∧ σ' = σ)
/-- a reading that gets further -/
def gfR (σ : SZ) (a b r : Int) (σ' : SZ) : Prop := (fltA σ 2 a b 0 = 0 ∧ ∃ x, resA σ 2 a b 0 x σ' ∧ r = if x = 0 then 0 else 1) ∨ (¬ fltA σ 2 a b 0 = 0 ∧ r = 0 ∧ σ' = σ)
section QN
variable {σ σ' : SZ} {w : MZ} {T : Int}
theorem attR.yes {c : Nat} {a b d r : Int} (h : attR σ c a b d r σ') (o : fltA σ c a b d = 0) : r = 1 ∧ ∃ x, resA σ c a b d x σ' := by
  rcases h with ⟨-, h⟩ | ⟨n, -⟩
  · exact h
  · exact absurd o n
theorem attR.no {c : Nat} {a b d r : Int} (h : attR σ c a b d r σ') (o : ¬ fltA σ c a b d = 0) : r = 0 ∧ σ' = σ := by
  rcases h with ⟨n, -⟩ | ⟨-, h⟩
  · exact absurd n o
  · exact h
theorem attR.ok {c : Nat} {a b d r : Int} (h : SOK σ T) (hT : T + 99 ≤ 5000000) (e : attR σ c a b d r σ') (hv : valA c b d) : SOK σ' (T + 99) ∧ Sz_missed σ ≤ Sz_missed σ' ∧ (r = 0 ∨ r = 1) := by
  rcases e with ⟨o, e1, x, e2⟩ | ⟨o, e1, e2⟩
  · have g := h.res hT hv o e2
    exact ⟨g.1, g.2.1, Or.inr e1⟩
  · rw [e2]
    exact ⟨h.mono (by omega) hT, Int.le_refl _, Or.inl e1⟩
theorem gfR.ok {a b r : Int} (h : SOK σ T) (hT : T + 99 ≤ 5000000) (e : gfR σ a b r σ') : SOK σ' (T + 99) ∧ Sz_missed σ ≤ Sz_missed σ' ∧ (r = 0 ∨ r = 1) := by
  rcases e with ⟨o, x, e2, e1⟩ | ⟨o, e1, e2⟩
  · have g := h.res (c := 2) hT trivial o e2
    refine ⟨g.1, g.2.1, ?_⟩
    rw [e1]
    split
    · exact Or.inl rfl
    · exact Or.inr rfl
  · rw [e2]
    exact ⟨h.mono (by omega) hT, Int.le_refl _, Or.inl e1⟩
theorem q_attR {c : Nat} {a b d : Int} {Q : Int → SZ → Prop} (hc : c < 7) (h : SOK σ T) (hT : T + 99 ≤ 5000000) (hv : valA c b d) (k : ∀ r σ', attR σ c a b d r σ' → Q r σ') : Z_S_attempt c a b d σ Q :=
  q_attempt hc h hT hv (fun o x σ' e => k 1 σ' (Or.inl ⟨o, rfl, x, e⟩)) (fun o => k 0 σ (Or.inr ⟨o, rfl, rfl⟩))
theorem q_gfR {a b : Int} {Q : Int → SZ → Prop} (h : SOK σ T) (hT : T + 99 ≤ 5000000) (k : ∀ r σ', gfR σ a b r σ' → Q r σ') : Z_S_getsFurther a b σ Q :=
  q_getsFurther h hT (fun o x σ' e => k _ σ' (Or.inl ⟨o, x, e, rfl⟩)) (fun o => k 0 σ (Or.inr ⟨o, rfl, rfl⟩))
theorem m_runWrite {a b d r : Int} {Q : Int → MZ → Prop} (h : SOK σ T) (hT : T + 99 ≤ 5000000) (rl : Rel σ (Mz_trial w)) (e : attR σ 0 a b d r σ') (k : ∀ W', Rel σ' W' → Q r (Mz_set_trial w W')) : Z_M_runWrite a b d w Q := by
  have no : ¬ fltA σ 0 a b d = 0 → Q 0 w := fun o => by
    obtain ⟨e1, e2⟩ := e.no o
    subst e1; subst e2
    exact k _ rl
  have e1 : Mz_trial w (Int.toNat 401) = Lz_end (Sz_log σ) := rl.1.2.1
  refine m_isRow (fun p => ⟨fun z => absurd z (by decide), fun _ => ⟨by decide, ?_⟩⟩) (fun p => ⟨fun _ => no (fun o => p (ok0 o).1), fun z => absurd rfl z⟩)
  rw [e1]
  refine ⟨fun c => no (fun o => absurd (ok0 o).2 (by omega)), fun c => ?_⟩
  have o : fltA σ 0 a b d = 0 := by
    show (if rowP a b d then (if 200 ≤ Lz_end (Sz_log σ) then (3 : Int) else 0) else 2) = 0
    rw [if_pos p, if_neg c]
  obtain ⟨e2, x, e3⟩ := e.yes o
  subst e2
  have g := (h.res (c := 0) hT trivial o e3).2.2.2 (by decide)
  refine g_write h rl o e3 (fun W' r' => ?_)
  rintro _ rfl
  exact ⟨fun z => absurd z (by omega), fun _ => k W' r'⟩
theorem m_runJoin {a b d r : Int} {Q : Int → MZ → Prop} (hd : d = 0 ∨ d = 1) (h : SOK σ T) (hT : T + 99 ≤ 5000000) (rl : Rel σ (Mz_trial w)) (e : attR σ 1 a b d r σ') (k : ∀ W', Rel σ' W' → Q r (Mz_set_trial w W')) : Z_M_runJoin a b d w Q := by
  have no : ¬ fltA σ 1 a b d = 0 → Q 0 w := fun o => by
    obtain ⟨e1, e2⟩ := e.no o
    subst e1; subst e2
    exact k _ rl
  refine m_isName (fun a0 a1 => ⟨fun z => absurd z (by decide), fun _ => m_in (fun b0 b1 => ⟨fun z => absurd z (by decide), fun _ => m_canJoin h rl a0 (by omega) (fun p1 p2 => ⟨fun z => absurd z (by decide), fun _ => ?_⟩) (fun p => ⟨fun _ => no (fun o => ?_), fun z => absurd rfl z⟩)⟩) (fun p => ⟨fun _ => no (fun o => p (ok1 o).1.2), fun z => absurd rfl z⟩)⟩) (fun p => ⟨fun _ => no (fun o => p (by have := (ok1 o).1.1; omega)), fun z => absurd rfl z⟩)
  · have o : fltA σ 1 a b d = 0 := by
      show (if (0 ≤ a ∧ a < 8) ∧ (0 ≤ b ∧ b ≤ 2) then (if canJP σ a b d then (0 : Int) else 3) else 2) = 0
      rw [if_pos ⟨⟨a0, by omega⟩, b0, b1⟩, if_pos ⟨p1, p2⟩]
    obtain ⟨e2, x, e3⟩ := e.yes o
    subst e2
    have g := (h.res (c := 1) hT hd o e3).2.2.2 (by decide)
    refine g_join h rl hd o e3 (fun W' r' => ?_)
    rintro _ rfl
    exact ⟨fun z => absurd z (by omega), fun _ => k W' r'⟩
  · exact p (ok1 o).2
theorem m_runRead {a b r : Int} {Q : Int → MZ → Prop} (h : SOK σ T) (hT : T + 99 ≤ 5000000) (rl : Rel σ (Mz_trial w)) (e : gfR σ a b r σ') (k : ∀ W', Rel σ' W' → Q r (Mz_set_trial w W')) : Z_M_runRead a b w Q := by
  have no : ¬ fltA σ 2 a b 0 = 0 → Q 0 w := fun o => by
    rcases e with ⟨n, -⟩ | ⟨-, e1, e2⟩
    · exact absurd n o
    · subst e1; subst e2
      exact k _ rl
  refine m_isReader h rl (fun p => ⟨fun z => absurd z (by decide), fun _ => m_in (fun b0 b1 => ⟨fun z => absurd z (by decide), fun _ => ?_⟩) (fun q => ⟨fun _ => no (fun o => q (ok2 o).2), fun z => absurd rfl z⟩)⟩) (fun p => ⟨fun _ => no (fun o => p (ok2 o).1), fun z => absurd rfl z⟩)
  have o : fltA σ 2 a b 0 = 0 := by
    show (if isR σ a then (if 1 ≤ b ∧ b ≤ 50 then (0 : Int) else 2) else 1) = 0
    rw [if_pos p, if_pos ⟨b0, b1⟩]
  rcases e with ⟨-, x, e3, e1⟩ | ⟨n, -⟩
  · refine g_read h (by omega) rl o e3 (fun W' r' => ?_)
    rintro _ rfl
    have g := k W' r'
    refine ⟨fun z => ?_, fun z => ?_⟩
    · rw [e1, if_pos z] at g
      exact g
    · rw [e1, if_neg z] at g
      exact g
  · exact absurd o n
theorem attR.gf {a b d r : Int} (e : attR σ 2 a b d r σ') : ∃ r', gfR σ a b r' σ' := by
  rcases e with ⟨o, -, x, e3⟩ | ⟨o, -, e2⟩
  · exact ⟨_, Or.inl ⟨o, x, e3, rfl⟩⟩
  · exact ⟨0, Or.inr ⟨o, rfl, e2⟩⟩
theorem m_runLeave {a r : Int} {Q : Int → MZ → Prop} (h : SOK σ T) (hT : T + 99 ≤ 5000000) (rl : Rel σ (Mz_trial w)) (e : attR σ 3 a 0 0 r σ') (k : ∀ W', Rel σ' W' → Q r (Mz_set_trial w W')) : Z_M_runLeave a w Q := by
  have no : ¬ fltA σ 3 a 0 0 = 0 → Q 0 w := fun o => by
    obtain ⟨e1, e2⟩ := e.no o
    subst e1; subst e2
    exact k _ rl
  refine m_isReader h rl (fun p => ⟨fun z => absurd z (by decide), fun _ => ?_⟩) (fun p => ⟨fun _ => no (fun o => p (ok3 o)), fun z => absurd rfl z⟩)
  have o : fltA σ 3 a 0 0 = 0 := by
    show (if isR σ a then (0 : Int) else 1) = 0
    rw [if_pos p]
  obtain ⟨e2, x, e3⟩ := e.yes o
  subst e2
  have g := (h.res (c := 3) hT trivial o e3).2.2.2 (by decide)
  refine g_leave h rl o e3 (fun W' r' => ?_)
  rintro _ rfl
  exact ⟨fun z => absurd z (by omega), fun _ => k W' r'⟩
theorem m_runHold {a b r : Int} {Q : Int → MZ → Prop} (hb : b = 0 ∨ b = 1) (h : SOK σ T) (hT : T + 99 ≤ 5000000) (rl : Rel σ (Mz_trial w)) (e : attR σ 4 a b 0 r σ') (k : ∀ W', Rel σ' W' → Q r (Mz_set_trial w W')) : Z_M_runHold a b w Q := by
  have no : ¬ fltA σ 4 a b 0 = 0 → Q 0 w := fun o => by
    obtain ⟨e1, e2⟩ := e.no o
    subst e1; subst e2
    exact k _ rl
  refine m_isReader h rl (fun p => ⟨fun z => absurd z (by decide), fun _ => m_canHold rl p.1.1 p.1.2 p.2 (fun q => ⟨fun z => absurd z (by decide), fun _ => ?_⟩) (fun q => ⟨fun _ => no (fun o => q ?_), fun z => absurd rfl z⟩)⟩) (fun p => ⟨fun _ => no (fun o => p (ok4 o).1), fun z => absurd rfl z⟩)
  · have o : fltA σ 4 a b 0 = 0 := by
      show (if isR σ a then (if b = 1 ∧ Rz_place (Sz_readers σ a.toNat) < Lz_first (Sz_log σ) then (3 : Int) else 0) else 1) = 0
      rw [if_pos p, if_neg (by omega)]
    obtain ⟨e2, x, e3⟩ := e.yes o
    subst e2
    have g := (h.res (c := 4) hT hb o e3).2.2.2 (by decide)
    refine g_hold h rl hb o e3 (fun W' r' => ?_)
    rintro _ rfl
    exact ⟨fun z => absurd z (by omega), fun _ => k W' r'⟩
  · have := (ok4 o).2
    omega
theorem m_runTicks {a r : Int} {Q : Int → MZ → Prop} (h : SOK σ T) (hT : T + 99 ≤ 5000000) (rl : Rel σ (Mz_trial w)) (e : attR σ 6 a 0 0 r σ') (k : ∀ W', Rel σ' W' → Q r (Mz_set_trial w W')) : Z_M_runTicks a w Q := by
  have no : ¬ fltA σ 6 a 0 0 = 0 → Q 0 w := fun o => by
    obtain ⟨e1, e2⟩ := e.no o
    subst e1; subst e2
    exact k _ rl
  refine m_in (fun a0 a1 => ⟨fun z => absurd z (by decide), fun _ => ?_⟩) (fun p => ⟨fun _ => no (fun o => p (ok6 o)), fun z => absurd rfl z⟩)
  have o : fltA σ 6 a 0 0 = 0 := by
    show (if 1 ≤ a ∧ a ≤ 99 then (0 : Int) else 2) = 0
    rw [if_pos ⟨a0, a1⟩]
  obtain ⟨e2, x, e3⟩ := e.yes o
  subst e2
  have g := (h.res (c := 6) hT trivial o e3).2.2.2 (by decide)
  refine g_ticks h hT rl o e3 (fun W' r' => ?_)
  rintro _ rfl
  exact ⟨fun z => absurd z (by omega), fun _ => k W' r'⟩
end QN
