/-! ### the start -/
theorem freshS_S0 : FreshS (aS S0) := by
  refine ⟨⟨rfl, rfl, rfl, rfl, rfl, rfl, fun k hk => ?_⟩, fun n hn => ⟨rfl, rfl, rfl⟩, fun k hk => ?_, rfl⟩
  · match k, hk with
    | 0, _ => rfl
    | 1, _ => rfl
    | 2, _ => rfl
    | 3, _ => rfl
    | 4, _ => rfl
    | 5, _ => rfl
    | 6, _ => rfl
    | 7, _ => rfl
  · match k, hk with
    | 0, _ => rfl
    | 1, _ => rfl
    | 2, _ => rfl
    | 3, _ => rfl
    | 4, _ => rfl
    | 5, _ => rfl
theorem sim_start : P_M_fresh (fun _ => 0) (fun w => SimT 0 T0 (M_set_now M00 w)) := by
  refine z_M_fresh (Qz := FreshW) rfl (fun a0 h => ?_) (m_fresh (fun V hV => hV))
  have hs : SOK (aS S0) 0 := freshS_S0.ok (by decide)
  have hr : Rel (aS S0) (aA a0) := freshS_S0.rel h
  refine ⟨⟨hs, hr⟩, ⟨⟨?_, ?_, rfl⟩, fun j j0 j1 => absurd (show j < 0 from j1) (by omega)⟩, fun i hi => ⟨Or.inl rfl, rfl, fun z => absurd (show (0 : Int) = 1 from z) (by decide)⟩, rfl, ?_, fun k hk => absurd (show (k : Int) < 0 from hk) (by omega)⟩
  · show (0 : Int) ≤ 0 ∧ (0 : Int) < 14
    decide
  · show (0 : Int) ≤ 0 ∧ (0 : Int) ≤ 14
    decide
  · show (0 : Int) ≤ 0 ∧ (0 : Int) ≤ 120
    decide
/-- a bound of the time at a place of the script -/
def bdT (i : Nat) : Int := if i ≤ 3000 then 1500 * (i : Int) else 4500000
theorem bdT_le {i : Nat} : bdT i ≤ bdT (i + 4) ∧ bdT (i + 4) ≤ 4500000 := by
  unfold bdT
  split <;> split <;> omega
theorem bdT_go {i : Nat} (h : i ≤ 2048) : bdT i + 6000 ≤ bdT (i + 4) := by
  unfold bdT
  split <;> split <;> omega
