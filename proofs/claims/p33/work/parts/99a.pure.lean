/-! ### what would be is so: ticks, first drops, lost holds -/
section WB
variable {σ x : SZ} {T : Int}
theorem outD_some : ∀ (n : Nat) (i m : Int) {x : SZ}, outD n i x = m → m ≠ -1 → ∃ k : Nat, m = i + k ∧ k < n ∧ Lz_dropped (Sz_log (ticksS k x)) = Lz_dropped (Sz_log x) ∧ Lz_dropped (Sz_log x) < Lz_dropped (Sz_log (ticksS (k + 1) x)) := by
  intro n
  induction n with
  | zero => intro i m x e h; exact absurd e.symm h
  | succ n ih =>
    intro i m x e h
    have e : (if Lz_dropped (Sz_log (tickS x)) - Lz_dropped (Sz_log x) ≤ 0 then outD n (i + 1) (tickS x) else i) = m := e
    by_cases q : Lz_dropped (Sz_log (tickS x)) - Lz_dropped (Sz_log x) ≤ 0
    · rw [if_pos q] at e
      have g := tick_dropped (σ := x)
      obtain ⟨k, k1, k2, k3, k4⟩ := ih (i + 1) m e h
      exact ⟨k + 1, by omega, by omega, by show Lz_dropped (Sz_log (ticksS k (tickS x))) = _; omega, by show _ < Lz_dropped (Sz_log (ticksS (k + 1) (tickS x))); omega⟩
    · rw [if_neg q] at e
      exact ⟨0, by omega, by omega, rfl, by show _ < Lz_dropped (Sz_log (tickS x)); omega⟩
theorem outD_none : ∀ (n : Nat) (i : Int) {x : SZ}, 0 ≤ i → outD n i x = -1 → ∀ k : Nat, k ≤ n → Lz_dropped (Sz_log (ticksS k x)) = Lz_dropped (Sz_log x) := by
  intro n
  induction n with
  | zero =>
    intro i x _ _ k hk
    have e : k = 0 := by omega
    rw [e]
    rfl
  | succ n ih =>
    intro i x h0 e k hk
    have e : (if Lz_dropped (Sz_log (tickS x)) - Lz_dropped (Sz_log x) ≤ 0 then outD n (i + 1) (tickS x) else i) = -1 := e
    have g := tick_dropped (σ := x)
    by_cases q : Lz_dropped (Sz_log (tickS x)) - Lz_dropped (Sz_log x) ≤ 0
    · rw [if_pos q] at e
      match k, hk with
      | 0, _ => rfl
      | k + 1, hk =>
        have g2 := ih (i + 1) (by omega) e k (by omega)
        show Lz_dropped (Sz_log (ticksS k (tickS x))) = _
        omega
    · rw [if_neg q] at e
      omega
theorem dropAll_lost : ∀ (n : Nat) {σ : SZ}, Sz_lostByLength (dropAll n σ) = Sz_lostByLength σ ∧ Sz_lostBySleep (dropAll n σ) = Sz_lostBySleep σ := by
  intro n
  induction n with
  | zero => intro σ; exact ⟨rfl, rfl⟩
  | succ n ih =>
    intro σ
    show Sz_lostByLength (if whyS σ = 0 then dropAll n (dropS σ) else σ) = _ ∧ Sz_lostBySleep (if whyS σ = 0 then dropAll n (dropS σ) else σ) = _
    split
    · exact ih (σ := dropS σ)
    · exact ⟨rfl, rfl⟩
/-- what checking one hold does to another reader, and to the counts -/
theorem chk_other {e a : Nat} (h : a ≠ e) : Sz_readers (chk σ e) a = Sz_readers σ a := by
  unfold chk
  split
  · split
    · exact loseL_j h
    · split
      · exact loseT_j h
      · rfl
  · rfl
theorem chk_sum {e : Nat} : Sz_lostByLength σ + Sz_lostBySleep σ ≤ Sz_lostByLength (chk σ e) + Sz_lostBySleep (chk σ e) := by
  unfold chk
  split
  · split
    · show _ ≤ Sz_lostByLength σ + 1 + Sz_lostBySleep σ
      omega
    · split
      · show _ ≤ Sz_lostByLength σ + (Sz_lostBySleep σ + 1)
        omega
      · exact Int.le_refl _
  · exact Int.le_refl _
theorem chk_self {e : Nat} : Sz_readers (chk σ e) e = Sz_readers σ e ∨ (Rz_held (Sz_readers (chk σ e) e) = 0 ∧ 0 < Rz_lostBy (Sz_readers (chk σ e) e) ∧ Sz_lostByLength σ + Sz_lostBySleep σ + 1 ≤ Sz_lostByLength (chk σ e) + Sz_lostBySleep (chk σ e)) := by
  unfold chk
  split
  · split
    · refine Or.inr ⟨?_, ?_, ?_⟩
      · rw [loseL_e]
      · rw [loseL_e]
        show (0 : Int) < 1
        decide
      · show _ ≤ Sz_lostByLength σ + 1 + Sz_lostBySleep σ
        omega
    · split
      · refine Or.inr ⟨?_, ?_, ?_⟩
        · rw [loseT_e]
        · rw [loseT_e]
          show (0 : Int) < 2
          decide
        · show _ ≤ Sz_lostByLength σ + (Sz_lostBySleep σ + 1)
          omega
      · exact Or.inl rfl
  · exact Or.inl rfl
theorem chkAll_sum : ∀ n : Nat, Sz_lostByLength σ + Sz_lostBySleep σ ≤ Sz_lostByLength (chkAll σ n) + Sz_lostBySleep (chkAll σ n)
  | 0 => Int.le_refl _
  | n + 1 => Int.le_trans (chkAll_sum n) (chk_sum (σ := chkAll σ n) (e := n))
theorem chkAll_rd {a : Nat} : ∀ n : Nat, Sz_readers (chkAll σ n) a = Sz_readers σ a ∨ (Rz_held (Sz_readers (chkAll σ n) a) = 0 ∧ 0 < Rz_lostBy (Sz_readers (chkAll σ n) a) ∧ Sz_lostByLength σ + Sz_lostBySleep σ + 1 ≤ Sz_lostByLength (chkAll σ n) + Sz_lostBySleep (chkAll σ n)) := by
  intro n
  induction n with
  | zero => exact Or.inl rfl
  | succ n ih =>
    show Sz_readers (chk (chkAll σ n) n) a = Sz_readers σ a ∨ _
    have hs := chk_sum (σ := chkAll σ n) (e := n)
    by_cases q : a = n
    · subst q
      rcases ih with e | ⟨e1, e2, e3⟩
      · rcases chk_self (σ := chkAll σ a) (e := a) with f | ⟨f1, f2, f3⟩
        · exact Or.inl (f.trans e)
        · have := chkAll_sum (σ := σ) a
          exact Or.inr ⟨f1, f2, by show _ ≤ Sz_lostByLength (chk (chkAll σ a) a) + Sz_lostBySleep (chk (chkAll σ a) a); omega⟩
      · rcases chk_self (σ := chkAll σ a) (e := a) with f | ⟨f1, f2, f3⟩
        · refine Or.inr ⟨?_, ?_, ?_⟩
          · show Rz_held (Sz_readers (chk (chkAll σ a) a) a) = 0
            rw [f]
            exact e1
          · show 0 < Rz_lostBy (Sz_readers (chk (chkAll σ a) a) a)
            rw [f]
            exact e2
          · show _ ≤ Sz_lostByLength (chk (chkAll σ a) a) + Sz_lostBySleep (chk (chkAll σ a) a)
            omega
        · exact Or.inr ⟨f1, f2, by show _ ≤ Sz_lostByLength (chk (chkAll σ a) a) + Sz_lostBySleep (chk (chkAll σ a) a); omega⟩
    · have f := chk_other (σ := chkAll σ n) (e := n) (a := a) q
      rw [f]
      rcases ih with e | ⟨e1, e2, e3⟩
      · exact Or.inl e
      · refine Or.inr ⟨?_, ?_, ?_⟩
        · show Rz_held (Sz_readers (chk (chkAll σ n) n) a) = 0
          rw [f]
          exact e1
        · show 0 < Rz_lostBy (Sz_readers (chk (chkAll σ n) n) a)
          rw [f]
          exact e2
        · show _ ≤ Sz_lostByLength (chk (chkAll σ n) n) + Sz_lostBySleep (chk (chkAll σ n) n)
          omega
theorem tick_rd {a : Nat} : Sz_readers (tickS x) a = Sz_readers x a ∨ (Rz_held (Sz_readers (tickS x) a) = 0 ∧ 0 < Rz_lostBy (Sz_readers (tickS x) a) ∧ Sz_lostByLength x + Sz_lostBySleep x + 1 ≤ Sz_lostByLength (tickS x) + Sz_lostBySleep (tickS x)) := by
  have k := dropAll_keep 200 (σ := chkAll (Sz_set_time x (Sz_time x + 1)) 8)
  have l := dropAll_lost 200 (σ := chkAll (Sz_set_time x (Sz_time x + 1)) 8)
  have g := chkAll_rd (σ := Sz_set_time x (Sz_time x + 1)) (a := a) 8
  unfold tickS
  rw [k.1, l.1, l.2]
  exact g
theorem tick_sum : Sz_lostByLength x + Sz_lostBySleep x ≤ Sz_lostByLength (tickS x) + Sz_lostBySleep (tickS x) := by
  have l := dropAll_lost 200 (σ := chkAll (Sz_set_time x (Sz_time x + 1)) 8)
  have g := chkAll_sum (σ := Sz_set_time x (Sz_time x + 1)) 8
  unfold tickS
  rw [l.1, l.2]
  exact g
theorem outL_some {a : Int} : ∀ (n : Nat) (i m : Int) {x : SZ}, outL a n i x = m → m ≠ -1 → Rz_held (Sz_readers x a.toNat) = 1 → ∃ k : Nat, m = i + k ∧ k < n ∧ Rz_held (Sz_readers (ticksS (k + 1) x) a.toNat) = 0 ∧ 0 < Rz_lostBy (Sz_readers (ticksS (k + 1) x) a.toNat) ∧ Sz_lostByLength x + Sz_lostBySleep x < Sz_lostByLength (ticksS (k + 1) x) + Sz_lostBySleep (ticksS (k + 1) x) := by
  intro n
  induction n with
  | zero => intro i m x e h; exact absurd e.symm h
  | succ n ih =>
    intro i m x e h hh
    have e : (if Rz_held (Sz_readers (tickS x) a.toNat) = 1 then outL a n (i + 1) (tickS x) else i) = m := e
    by_cases q : Rz_held (Sz_readers (tickS x) a.toNat) = 1
    · rw [if_pos q] at e
      obtain ⟨k, k1, k2, k3, k4, k5⟩ := ih (i + 1) m e h q
      have := tick_sum (x := x)
      exact ⟨k + 1, by omega, by omega, k3, k4, by show _ < Sz_lostByLength (ticksS (k + 1) (tickS x)) + Sz_lostBySleep (ticksS (k + 1) (tickS x)); omega⟩
    · rw [if_neg q] at e
      rcases tick_rd (x := x) (a := a.toNat) with f | ⟨f1, f2, f3⟩
      · rw [f] at q
        exact absurd hh q
      · exact ⟨0, by omega, by omega, f1, f2, by show _ < Sz_lostByLength (tickS x) + Sz_lostBySleep (tickS x); omega⟩
theorem ticks_present {n : Nat} : ∀ (k : Nat) {x : SZ}, Rz_present (Sz_readers (ticksS k x) n) = Rz_present (Sz_readers x n)
  | 0, _ => rfl
  | k + 1, x => (ticks_present k (x := tickS x)).trans tick_present
/-! room: a smaller one below the log's length does what 0 does -/
abbrev ssS (x : SZ) (s : Nat → Int) : SZ := Sz_set_settings x s
theorem chk_ss {s : Nat → Int} {e : Nat} (h4 : s 4 = Sz_settings x 4) (h5 : s 5 = Sz_settings x 5) : chk (ssS x s) e = ssS (chk x e) s := by
  unfold chk
  show (if Rz_held (Sz_readers x e) = 1 then (if 0 < s 4 ∧ s 4 < lenFrom (Sz_log x) (Rz_place (Sz_readers x e)) then loseL (ssS x s) e else if 0 < s 5 ∧ s 5 ≤ Sz_time x - Rz_lastRead (Sz_readers x e) then loseT (ssS x s) e else ssS x s) else ssS x s) = _
  rw [h4, h5]
  split
  · split
    · rfl
    · split
      · rfl
      · rfl
  · rfl
theorem chkAll_ss {s : Nat → Int} (h4 : s 4 = Sz_settings x 4) (h5 : s 5 = Sz_settings x 5) : ∀ n : Nat, chkAll (ssS x s) n = ssS (chkAll x n) s
  | 0 => rfl
  | n + 1 => by
    show chk (chkAll (ssS x s) n) n = ssS (chk (chkAll x n) n) s
    rw [chkAll_ss h4 h5 n]
    have k := (chkAll_keep (σ := x) n).2.1
    exact chk_ss (by rw [k]; exact h4) (by rw [k]; exact h5)
theorem why_ss {s : Nat → Int} (h2 : s 2 = Sz_settings x 2) (h3 : Sz_settings x 3 < Lz_length (Sz_log x)) (g3 : s 3 < Lz_length (Sz_log x)) : whyS (ssS x s) = whyS x := by
  unfold whyS
  show (if Lz_begun (Sz_log x) - Lz_dropped (Sz_log x) < 2 then (1 : Int) else if ¬ dueS (ssS x s) (lnx (Sz_log x) (Lz_dropped (Sz_log x)) - 1) then 2 else if 0 < holders x (lnx (Sz_log x) (Lz_dropped (Sz_log x)) - 1) then 3 else 0) = _
  by_cases q : Lz_begun (Sz_log x) - Lz_dropped (Sz_log x) < 2
  · rw [if_pos q, if_pos q]
  · rw [if_neg q, if_neg q, if_neg (show ¬ ¬ dueS (ssS x s) (lnx (Sz_log x) (Lz_dropped (Sz_log x)) - 1) from fun k => k (Or.inl g3)), if_neg (show ¬ ¬ dueS x (lnx (Sz_log x) (Lz_dropped (Sz_log x)) - 1) from fun k => k (Or.inl h3))]
theorem dropAll_stay (h : whyS x ≠ 0) : dropAll 200 x = x := if_neg h
theorem dropAll_goes (h : whyS x = 0) : Lz_dropped (Sz_log x) < Lz_dropped (Sz_log (dropAll 200 x)) := by
  have e : dropAll 200 x = dropAll 199 (dropS x) := if_pos h
  rw [e]
  have g := (dropAll_keep 199 (σ := dropS x)).2.2.2.2.1
  have g2 : Lz_dropped (Sz_log (dropS x)) = Lz_dropped (Sz_log x) + 1 := rfl
  omega
theorem room_same : ∀ (n : Nat) {x : SZ} {s : Nat → Int}, s 2 = Sz_settings x 2 → s 4 = Sz_settings x 4 → s 5 = Sz_settings x 5 → Sz_settings x 3 < Lz_length (Sz_log x) → s 3 < Lz_length (Sz_log x) → Lz_dropped (Sz_log x) < Lz_dropped (Sz_log (ticksS n x)) → Lz_dropped (Sz_log x) < Lz_dropped (Sz_log (ticksS n (ssS x s))) := by
  intro n
  induction n with
  | zero => intro x s _ _ _ _ _ h; exact absurd h (Int.lt_irrefl _)
  | succ n ih =>
    intro x s h2 h4 h5 h3 g3 h
    have k := chkAll_keep (σ := Sz_set_time x (Sz_time x + 1)) 8
    have e1 : Sz_log (chkAll (Sz_set_time x (Sz_time x + 1)) 8) = Sz_log x := k.1
    have e2 : Sz_settings (chkAll (Sz_set_time x (Sz_time x + 1)) 8) = Sz_settings x := k.2.1
    have et : tickS (ssS x s) = dropAll 200 (ssS (chkAll (Sz_set_time x (Sz_time x + 1)) 8) s) := by
      show dropAll 200 (chkAll (ssS (Sz_set_time x (Sz_time x + 1)) s) 8) = _
      rw [chkAll_ss (x := Sz_set_time x (Sz_time x + 1)) h4 h5]
    have ex : tickS x = dropAll 200 (chkAll (Sz_set_time x (Sz_time x + 1)) 8) := rfl
    generalize chkAll (Sz_set_time x (Sz_time x + 1)) 8 = c at e1 e2 et ex
    have ew := why_ss (x := c) (s := s) (by rw [e2]; exact h2) (by rw [e2, e1]; exact h3) (by rw [e1]; exact g3)
    show Lz_dropped (Sz_log x) < Lz_dropped (Sz_log (ticksS n (tickS (ssS x s))))
    by_cases q : whyS c = 0
    · have g := dropAll_goes (x := ssS c s) (ew.trans q)
      rw [← et] at g
      have g2 : Lz_dropped (Sz_log (ssS c s)) = Lz_dropped (Sz_log x) := by
        show Lz_dropped (Sz_log c) = _
        rw [e1]
      have g4 := ticks_dropped n (σ := tickS (ssS x s))
      omega
    · rw [dropAll_stay q] at ex
      rw [dropAll_stay (x := ssS c s) (fun z => q (ew.symm.trans z))] at et
      rw [et]
      have h : Lz_dropped (Sz_log x) < Lz_dropped (Sz_log (ticksS n (tickS x))) := h
      rw [ex] at h
      rw [← e1] at h ⊢
      exact ih (by rw [e2]; exact h2) (by rw [e2]; exact h4) (by rw [e2]; exact h5) (by rw [e2, e1]; exact h3) (by rw [e1]; exact g3) h
end WB
