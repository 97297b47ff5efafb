/-! ### numbers of a row -/
section QE
variable {v : TZ} {w : MZ} {T : Int}
theorem k_rowOf {a b : Int} (h : SimZ T v w) : Z_T_rowOf a b v (fun E => exZ E (Z_M_rowOf a b w (finZ T 1 0 v)) (Z_M_rowOf a b w (finZ T 2 0 v)) False) (fun r => Z_M_rowOf a b w (finZ T 0 r v)) := by
  obtain ⟨e1, e2, -⟩ := h.m400
  have h3 := h.1.1.1.1
  have st : ∀ {k r : Int}, Z_M_in a (Lz_first (Sz_log (Tz_state v))) (Lz_end (Sz_log (Tz_state v)) - 1) (fun r3_ => ((¬ r3_ = 0 → (Z_M_in b 0 5 (fun r8_ => ((¬ r8_ = 0 → (ZJ_M_rowOf_50 a b a b 0 w (finZ T k r v))) ∧ (r8_ = 0 → (ZJ_M_rowOf_50 a b a b 2 w (finZ T k r v))))))) ∧ (r3_ = 0 → (ZJ_M_rowOf_50 a b a b 1 w (finZ T k r v))))) → Z_M_rowOf a b w (finZ T k r v) := by
    intro k r g
    refine ⟨by decide, by decide, ?_⟩
    rw [e1, e2]
    exact ⟨by omega, g⟩
  have no1 : ¬ (Lz_first (Sz_log (Tz_state v)) ≤ a ∧ a ≤ Lz_end (Sz_log (Tz_state v)) - 1) → Z_M_rowOf a b w (finZ T 1 0 v) := fun q => st (m_in (fun z1 z2 => absurd ⟨z1, z2⟩ q) (fun _ => ⟨fun z => absurd rfl z, fun _ => m_no (by decide) ⟨fun z => absurd z (by decide), fun _ => ⟨rfl, fun z => absurd z (by decide), h⟩⟩⟩))
  refine ⟨fun c => ⟨fun c2 => absurd rfl c2, fun _ => ex_iob (no1 (by omega))⟩, fun c => ⟨fun c2 => ⟨fun c3 => absurd rfl c3, fun _ => ex_iob (no1 (by omega))⟩, fun c2 => ⟨fun _ => ?_, fun c3 => absurd c3 (by decide)⟩⟩⟩
  have r1 : Lz_first (Sz_log (Tz_state v)) ≤ a := by omega
  have r2 : a < Lz_end (Sz_log (Tz_state v)) := by omega
  have ok : ∀ {r : Int}, 0 ≤ b → b ≤ 5 → ZJ_M_rowOf_50 a b a b 0 w (finZ T 0 r v) → Z_M_rowOf a b w (finZ T 0 r v) := fun b0 b1 g => st (m_in (fun _ _ => ⟨fun _ => m_in (fun _ _ => ⟨fun _ => g, fun z => absurd z (by decide)⟩) (fun z => absurd ⟨b0, b1⟩ z), fun z => absurd z (by decide)⟩) (fun z => absurd (by omega) z))
  refine q_isIn (fun b0 b1 => ⟨fun _ => ?_, fun c3 => absurd c3 (by decide)⟩) (fun c3 => ⟨fun c4 => absurd rfl c4, fun _ => ex_iae ?_⟩)
  · have e : b = 0 ∨ b = 1 ∨ b = 2 ∨ b = 3 ∨ b = 4 ∨ b = 5 := by omega
    have go : ∀ {r : Int}, ((b = 0 → (Z_M_key a (Mz_now w) (fun x => x = r))) ∧ (b = 1 → (Z_M_value a (Mz_now w) (fun x => x = r))) ∧ (b = 2 → (Z_M_size a (Mz_now w) (fun x => x = r)))) → True := fun _ => trivial
    rcases e with e | e | e | e | e | e <;> subst e
    · exact ⟨fun _ => ⟨fun _ => q_at (by decide) (by omega) (by omega) (ok b0 b1 (m_yes ⟨fun _ => ⟨fun _ => m_key h.1.1 h.1.2 (by omega) r2 ⟨rfl, fun _ => rfl, h⟩, fun z => absurd rfl z⟩, fun z => absurd rfl z⟩)), fun z => absurd rfl z⟩, fun z => absurd z (by decide)⟩
    · exact ⟨fun _ => ⟨fun z => absurd z (by decide), fun _ => ⟨fun _ => q_at (by decide) (by omega) (by omega) (ok b0 b1 (m_yes ⟨fun _ => ⟨fun z => absurd z (by decide), fun _ => ⟨fun _ => m_value h.1.1 h.1.2 (by omega) r2 ⟨rfl, fun _ => rfl, h⟩, fun z => absurd rfl z⟩⟩, fun z => absurd rfl z⟩)), fun z => absurd rfl z⟩⟩, fun z => absurd z (by decide)⟩
    · refine ⟨fun _ => ⟨fun z => absurd z (by decide), fun _ => ⟨fun z => absurd z (by decide), fun _ => ⟨fun _ => ⟨by omega, q_lengthOf h.1.1.1 (by omega) (by omega) (by omega) (by omega) (ok b0 b1 (m_yes ⟨fun _ => ⟨fun z => absurd z (by decide), fun _ => ⟨fun z => absurd z (by decide), fun _ => ⟨fun _ => m_size h.1.1 h.1.2 (by omega) r2 ⟨rfl, fun _ => ?_, h⟩, fun z => absurd rfl z⟩⟩⟩, fun z => absurd rfl z⟩))⟩, fun z => absurd rfl z⟩⟩⟩, fun z => absurd z (by decide)⟩
      rw [show a.toNat + 1 = (a + 1).toNat by omega]
    · exact ⟨fun _ => ⟨fun z => absurd z (by decide), fun _ => ⟨fun z => absurd z (by decide), fun _ => ⟨fun z => absurd z (by decide), fun _ => ⟨fun _ => q_at (by decide) (by omega) (by omega) (ok b0 b1 (m_yes ⟨fun _ => ⟨fun z => absurd z (by decide), fun _ => ⟨fun z => absurd z (by decide), fun _ => ⟨fun z => absurd z (by decide), fun _ => ⟨fun _ => ⟨by omega, by omega, rfl, fun _ => h.1.2.2.2.2.2.1 a (by omega) r2, h⟩, fun z => absurd rfl z⟩⟩⟩⟩, fun z => absurd rfl z⟩)), fun z => absurd rfl z⟩⟩⟩⟩, fun z => absurd z (by decide)⟩
    · obtain ⟨j, j1, j2, j3, j4⟩ := h.1.1.1.seg r1 r2
      exact ⟨fun _ => ⟨fun z => absurd z (by decide), fun _ => ⟨fun z => absurd z (by decide), fun _ => ⟨fun z => absurd z (by decide), fun _ => ⟨fun z => absurd z (by decide), fun _ => q_startAround h.1.1.1 j1 j2 j3 j4 (ok b0 b1 (m_yes ⟨fun _ => ⟨fun z => absurd z (by decide), fun _ => ⟨fun z => absurd z (by decide), fun _ => ⟨fun z => absurd z (by decide), fun _ => ⟨fun z => absurd z (by decide), fun _ => ⟨fun _ => m_segmentAt h.1.1 h.1.2 (by omega) j2 j3 j4 ⟨rfl, fun _ => rfl, h⟩, fun z => absurd rfl z⟩⟩⟩⟩⟩, fun z => absurd rfl z⟩))⟩⟩⟩⟩, fun z => absurd z (by decide)⟩
    · exact ⟨fun z => absurd rfl z, fun _ => q_holdersUpTo h.1.1 (ok b0 b1 (m_yes ⟨fun _ => ⟨fun z => absurd z (by decide), fun _ => ⟨fun z => absurd z (by decide), fun _ => ⟨fun z => absurd z (by decide), fun _ => ⟨fun z => absurd z (by decide), fun _ => ⟨fun z => absurd z (by decide), fun _ => m_holders h.1.1 h.1.2 ⟨rfl, fun _ => rfl, h⟩⟩⟩⟩⟩⟩, fun z => absurd rfl z⟩))⟩
  · exact st (m_in (fun _ _ => ⟨fun _ => m_in (fun z1 z2 => absurd ⟨z1, z2⟩ c3) (fun _ => ⟨fun z => absurd rfl z, fun _ => m_no (by decide) ⟨fun z => absurd z (by decide), fun _ => ⟨rfl, fun z => absurd z (by decide), h⟩⟩⟩), fun z => absurd z (by decide)⟩) (fun z => absurd (by omega) z))
end QE
