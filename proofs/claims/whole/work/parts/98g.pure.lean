/-! ### readers stay through ticks -/
section QI
variable {σ : SZ}
theorem chk_present {σ : SZ} {e n : Nat} : Rz_present (Sz_readers (chk σ e) n) = Rz_present (Sz_readers σ n) := by
  unfold chk
  split
  · split
    · by_cases q : n = e
      · subst q
        exact (congrArg (fun r => Rz_present r) (loseL_e (σ := σ) (e := n))).trans rfl
      · rw [loseL_j q]
    · split
      · by_cases q : n = e
        · subst q
          exact (congrArg (fun r => Rz_present r) (loseT_e (σ := σ) (e := n))).trans rfl
        · rw [loseT_j q]
      · rfl
  · rfl
theorem chkAll_present {σ : SZ} {n : Nat} : ∀ k : Nat, Rz_present (Sz_readers (chkAll σ k) n) = Rz_present (Sz_readers σ n)
  | 0 => rfl
  | k + 1 => chk_present.trans (chkAll_present k)
theorem tick_present {n : Nat} : Rz_present (Sz_readers (tickS σ) n) = Rz_present (Sz_readers σ n) := by
  have e1 := (dropAll_keep 200 (σ := chkAll (Sz_set_time σ (Sz_time σ + 1)) 8)).1
  have e2 := chkAll_present (σ := Sz_set_time σ (Sz_time σ + 1)) (n := n) 8
  exact (congrArg (fun f => Rz_present (f n)) e1).trans e2
end QI
