/-! ### the slowest holder -/
section QH
variable {v : TZ} {w : MZ} {σ : SZ} {T : Int}
abbrev slowS (σ : SZ) (i best : Int) : Int := if Rz_held (Sz_readers σ i.toNat) = 1 ∧ (best = -1 ∨ Rz_place (Sz_readers σ i.toNat) < Rz_place (Sz_readers σ best.toNat)) then i else best
def slowF (σ : SZ) : Nat → Int → Int → Int
  | 0, _, best => best
  | n + 1, i, best => slowF σ n (i + 1) (slowS σ i best)
theorem q_slowest {Q : Int → Prop} (h : SOK σ T) (k : Q (slowF σ 8 0 (-1))) : Z_S_slowestHolder σ Q := by
  have h1 := h.1.1
  have key : ∀ (n : Nat) (i best pl : Int), i + n = 8 → 0 ≤ i → (best = -1 → pl = Lz_end (Sz_log σ) + 1) → (best ≠ -1 → pl = Rz_place (Sz_readers σ best.toNat)) → Q (slowF σ n i best) → ZL_S_slowestHolder_14 (n + 1) σ best pl i Q := by
    intro n
    induction n with
    | zero =>
      intro i best pl hi h0 p1 p2 k
      rw [ZL_S_slowestHolder_14]
      exact ⟨fun _ => k, fun c => absurd c (by omega)⟩
    | succ n ih =>
      intro i best pl hi h0 p1 p2 k
      have g := h.2.2.2 i.toNat (by omega)
      rw [slowF] at k
      rw [ZL_S_slowestHolder_14]
      have skip : ¬ (Rz_held (Sz_readers σ i.toNat) = 1 ∧ (best = -1 ∨ Rz_place (Sz_readers σ i.toNat) < Rz_place (Sz_readers σ best.toNat))) → zin (i + 1) ∧ ZL_S_slowestHolder_14 (n + 1) σ best pl (i + 1) Q := by
        intro q
        have k := k
        rw [show slowS σ i best = best from if_neg q] at k
        exact ⟨by omega, ih (i + 1) best pl (by omega) (by omega) p1 p2 k⟩
      refine ⟨fun c => absurd c (by omega), fun _ => q_reader h (fun j hj hj8 hp => ⟨fun c => (nomatch c), fun m c => ?_⟩) (fun c => ⟨fun _ => skip (fun q => c ⟨⟨h0, by omega⟩, (g.2.2.2.1 q.1).1⟩), fun m c => (nomatch c)⟩)⟩
      cases c
      have e0 : j = i.toNat := by omega
      subst e0
      have g5 := g.2.2.2.2.1 (Or.inl hp)
      refine ⟨fun c => skip (fun q => by omega), fun c => ⟨fun c2 => skip (fun q => ?_), fun c2 => ?_⟩⟩
      · by_cases z : best = -1
        · have := p1 z
          omega
        · have := p2 z
          omega
      · have q : Rz_held (Sz_readers σ i.toNat) = 1 ∧ (best = -1 ∨ Rz_place (Sz_readers σ i.toNat) < Rz_place (Sz_readers σ best.toNat)) := by
          refine ⟨by rcases g.2.2.1 with z | z <;> omega, ?_⟩
          by_cases z : best = -1
          · exact Or.inl z
          · have := p2 z
            exact Or.inr (by omega)
        rw [show slowS σ i best = i from if_pos q] at k
        exact ⟨by omega, ih (i + 1) i _ (by omega) (by omega) (fun z => by omega) (fun _ => rfl) k⟩
  exact ⟨_, by omega, key 8 0 (-1) _ rfl (by decide) (fun _ => rfl) (fun z => absurd rfl z) k⟩
theorem k_slowest (h : SimZ T v w) : Z_T_slowest v (fun r => Z_M_slowest w (finZ T 0 r v)) := by
  refine q_slowest h.1.1 ?_
  rintro _ rfl
  have key : ∀ (n : Nat) (i best : Int), i + n = 8 → 0 ≤ i → (best ≠ -1 → (0 ≤ best ∧ best < 8) ∧ Rz_present (Sz_readers (Tz_state v) best.toNat) = 1) → ZL_M_slowest_9 (n + 1) best i (Mz_set_refusal w 0) (finZ T 0 (slowF (Tz_state v) n i best) v) := by
    intro n
    induction n with
    | zero =>
      intro i best hi h0 p
      rw [ZL_M_slowest_9]
      exact ⟨fun _ => ⟨rfl, fun _ => rfl, h⟩, fun c => absurd c (by omega)⟩
    | succ n ih =>
      intro i best hi h0 p
      have g := h.1.1.2.2.2 i.toNat (by omega)
      rw [ZL_M_slowest_9, slowF]
      have skip : ¬ (Rz_held (Sz_readers (Tz_state v) i.toNat) = 1 ∧ (best = -1 ∨ Rz_place (Sz_readers (Tz_state v) i.toNat) < Rz_place (Sz_readers (Tz_state v) best.toNat))) → zin (i + 1) ∧ ZL_M_slowest_9 (n + 1) best (i + 1) (Mz_set_refusal w 0) (finZ T 0 (slowF (Tz_state v) n (i + 1) (slowS (Tz_state v) i best)) v) := by
        intro q
        rw [show slowS (Tz_state v) i best = best from if_neg q]
        exact ⟨by omega, ih (i + 1) best (by omega) (by omega) p⟩
      have take : (Rz_held (Sz_readers (Tz_state v) i.toNat) = 1 ∧ (best = -1 ∨ Rz_place (Sz_readers (Tz_state v) i.toNat) < Rz_place (Sz_readers (Tz_state v) best.toNat))) → zin (i + 1) ∧ ZL_M_slowest_9 (n + 1) i (i + 1) (Mz_set_refusal w 0) (finZ T 0 (slowF (Tz_state v) n (i + 1) (slowS (Tz_state v) i best)) v) := by
        intro q
        rw [show slowS (Tz_state v) i best = i from if_pos q]
        exact ⟨by omega, ih (i + 1) i (by omega) (by omega) (fun _ => ⟨⟨h0, by omega⟩, (g.2.2.2.1 q.1).1⟩)⟩
      refine ⟨fun c => absurd c (by omega), fun _ => m_isReader h.1.1 h.1.2 (fun c => ⟨fun z => absurd z (by decide), fun _ => m_reader h0 (by omega) ⟨by omega, by omega, ?_⟩⟩) (fun c => ⟨fun _ => ⟨fun _ => skip (fun q => c ⟨⟨h0, by omega⟩, (g.2.2.2.1 q.1).1⟩), fun z => absurd rfl z⟩, fun z => absurd rfl z⟩)⟩
      have f := (h.1.2.2.2.2.2.2 i h0 (by omega)).2.1 c.2
      have f2 : Mz_now (Mz_set_refusal w 0) (Int.toNat (410 + 15 * i + 2)) = Rz_held (Sz_readers (Tz_state v) i.toNat) := f.2.1
      have f1 : Mz_now (Mz_set_refusal w 0) (Int.toNat (410 + 15 * i + 1)) = Rz_place (Sz_readers (Tz_state v) i.toNat) := f.1
      rw [f2]
      refine ⟨fun c2 => ⟨fun _ => skip (fun q => c2 q.1), fun z => absurd rfl z⟩, fun c2 => ⟨fun z => absurd z (by decide), fun _ => ⟨fun c3 => take ⟨c2, Or.inl c3⟩, fun c3 => m_reader h0 (by omega) ⟨by omega, by omega, ?_⟩⟩⟩⟩
      obtain ⟨p1, p2⟩ := p c3
      have d1 : Mz_now (Mz_set_refusal w 0) (Int.toNat (410 + 15 * best + 1)) = Rz_place (Sz_readers (Tz_state v) best.toNat) := ((h.1.2.2.2.2.2.2 best p1.1 p1.2).2.1 p2).1
      refine m_reader p1.1 p1.2 ⟨by omega, by omega, ?_⟩
      rw [f1, d1]
      exact ⟨fun c4 => skip (fun q => by omega), fun c4 => take ⟨c2, Or.inr (by omega)⟩⟩
  exact ⟨_, key 8 0 (-1) rfl (by decide) (fun z => absurd rfl z)⟩
end QH
