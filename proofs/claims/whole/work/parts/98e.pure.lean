/-! ### numbers of a reader -/
section QG
variable {v : TZ} {w : MZ} {T : Int}
theorem k_readerOf {a b : Int} (h : SimZ T v w) : Z_T_readerOf a b v (fun E => exZ E (Z_M_readerOf a b w (finZ T 1 0 v)) (Z_M_readerOf a b w (finZ T 2 0 v)) False) (fun r => Z_M_readerOf a b w (finZ T 0 r v)) := by
  refine q_reader h.1.1 (fun i hi hi8 hp => ⟨fun z => (nomatch z), fun j z => ?_⟩) (fun c => ⟨fun _ => ex_iob ?_, fun j z => (nomatch z)⟩)
  · cases z
    have e0 : i = a.toNat := by omega
    subst e0
    have hr : isR (Tz_state v) a := ⟨by omega, hp⟩
    refine q_isIn (fun b0 b1 => ⟨fun _ => ?_, fun z => absurd z (by decide)⟩) (fun c => ⟨fun z => absurd rfl z, fun _ => ex_iae ?_⟩)
    · obtain ⟨e1, e2, -⟩ := h.m400
      have h3 := h.1.1.1.1
      have g := h.1.1.2.2.2 a.toNat hi8
      have g5 := g.2.2.2.2.1 (Or.inl hp)
      obtain ⟨c1, c2, c3, c4, c5, c6, -⟩ := (h.1.2.2.2.2.2.2 a hr.1.1 hr.1.2).2.1 hp
      -- where the reader's rows begin
      have ok : ∀ {r : Int}, (∀ u : Int, u = zmaxZ (Rz_place (Sz_readers (Tz_state v) a.toNat)) (Lz_first (Sz_log (Tz_state v))) → ZJ_M_readerOf_76 a b b (410 + 15 * a) u (Mz_set_refusal w 0) (finZ T 0 r v)) → Z_M_readerOf a b w (finZ T 0 r v) := by
        intro r k
        refine m_isReader h.1.1 h.1.2 (fun _ => ⟨fun _ => m_in (fun _ _ => ⟨fun _ => m_yes ⟨fun _ => m_reader hr.1.1 hr.1.2 (m_hasGap h.1.2 hr.1.1 hr.1.2 hp (fun q => ⟨fun z => absurd z (by decide), fun _ => ⟨by decide, k _ ?_⟩⟩) (fun q => ⟨fun _ => ⟨by omega, by omega, k _ ?_⟩, fun z => absurd rfl z⟩)), fun z => absurd rfl z⟩, fun z => absurd z (by decide)⟩) (fun z => absurd ⟨b0, b1⟩ z), fun z => absurd z (by decide)⟩) (fun z => absurd hr z)
        · exact e1.trans (if_pos q).symm
        · exact c1.trans (if_neg q).symm
      have hm : zmaxZ (Rz_place (Sz_readers (Tz_state v) a.toNat)) (Lz_first (Sz_log (Tz_state v))) = if Rz_place (Sz_readers (Tz_state v) a.toNat) < Lz_first (Sz_log (Tz_state v)) then Lz_first (Sz_log (Tz_state v)) else Rz_place (Sz_readers (Tz_state v) a.toNat) := rfl
      have e : b = 0 ∨ b = 1 ∨ b = 2 ∨ b = 3 ∨ b = 4 ∨ b = 5 ∨ b = 6 ∨ b = 7 ∨ b = 8 := by omega
      have hmx : 0 ≤ zmaxZ (Rz_place (Sz_readers (Tz_state v) a.toNat)) (Lz_first (Sz_log (Tz_state v))) ∧ zmaxZ (Rz_place (Sz_readers (Tz_state v) a.toNat)) (Lz_first (Sz_log (Tz_state v))) ≤ Lz_end (Sz_log (Tz_state v)) := by
        rw [hm]
        split <;> omega
      rcases e with e | e | e | e | e | e | e | e | e <;> subst e
      · exact ⟨fun _ => ok (fun u _ => ⟨fun _ => ⟨by omega, by omega, rfl, fun _ => c1, h⟩, fun z => absurd rfl z⟩), fun z => absurd rfl z⟩
      · refine ⟨fun z => absurd z (by decide), fun _ => ⟨fun _ => ?_, fun z => absurd rfl z⟩⟩
        have gh := g.2.2.1
        have as : ∀ {Q : Int → Prop}, Q (Rz_held (Sz_readers (Tz_state v) a.toNat)) → Z_T_asNumber (Rz_held (Sz_readers (Tz_state v) a.toNat)) Q := by
          intro Q k
          rcases gh with y | y <;> rw [y] at k ⊢
          · exact q_asNumber (fun _ => k) (fun z => absurd rfl z)
          · exact q_asNumber (fun z => absurd z (by decide)) (fun _ => k)
        exact as (ok (fun u _ => ⟨fun z => absurd z (by decide), fun _ => ⟨fun _ => ⟨by omega, by omega, rfl, fun _ => c2, h⟩, fun z => absurd rfl z⟩⟩))
      · exact ⟨fun z => absurd z (by decide), fun _ => ⟨fun z => absurd z (by decide), fun _ => ⟨fun _ => ok (fun u _ => ⟨fun z => absurd z (by decide), fun _ => ⟨fun z => absurd z (by decide), fun _ => ⟨fun _ => ⟨by omega, by omega, rfl, fun _ => c3, h⟩, fun z => absurd rfl z⟩⟩⟩), fun z => absurd rfl z⟩⟩⟩
      · exact ⟨fun z => absurd z (by decide), fun _ => ⟨fun z => absurd z (by decide), fun _ => ⟨fun z => absurd z (by decide), fun _ => ⟨fun _ => ok (fun u _ => ⟨fun z => absurd z (by decide), fun _ => ⟨fun z => absurd z (by decide), fun _ => ⟨fun z => absurd z (by decide), fun _ => ⟨fun _ => ⟨by omega, by omega, rfl, fun _ => c4, h⟩, fun z => absurd rfl z⟩⟩⟩⟩), fun z => absurd rfl z⟩⟩⟩⟩
      · exact ⟨fun z => absurd z (by decide), fun _ => ⟨fun z => absurd z (by decide), fun _ => ⟨fun z => absurd z (by decide), fun _ => ⟨fun z => absurd z (by decide), fun _ => ⟨fun _ => ok (fun u _ => ⟨fun z => absurd z (by decide), fun _ => ⟨fun z => absurd z (by decide), fun _ => ⟨fun z => absurd z (by decide), fun _ => ⟨fun z => absurd z (by decide), fun _ => ⟨fun _ => ⟨by omega, by omega, rfl, fun _ => c5, h⟩, fun z => absurd rfl z⟩⟩⟩⟩⟩), fun z => absurd rfl z⟩⟩⟩⟩⟩
      · refine ⟨fun z => absurd z (by decide), fun _ => ⟨fun z => absurd z (by decide), fun _ => ⟨fun z => absurd z (by decide), fun _ => ⟨fun z => absurd z (by decide), fun _ => ⟨fun z => absurd z (by decide), fun _ => ⟨fun _ => ⟨?_, ok (fun u hu => ⟨fun z => absurd z (by decide), fun _ => ⟨fun z => absurd z (by decide), fun _ => ⟨fun z => absurd z (by decide), fun _ => ⟨fun z => absurd z (by decide), fun _ => ⟨fun z => absurd z (by decide), fun _ => ⟨fun _ => ⟨by decide, ?_⟩, fun z => absurd rfl z⟩⟩⟩⟩⟩⟩)⟩, fun z => absurd rfl z⟩⟩⟩⟩⟩⟩
        · generalize zmaxZ (Rz_place (Sz_readers (Tz_state v) a.toNat)) (Lz_first (Sz_log (Tz_state v))) = y at hmx
          omega
        · have e2' : Mz_now (Mz_set_refusal w 0) (Int.toNat 401) = Lz_end (Sz_log (Tz_state v)) := e2
          rw [e2', hu]
          refine ⟨?_, rfl, fun _ => rfl, h⟩
          generalize zmaxZ (Rz_place (Sz_readers (Tz_state v) a.toNat)) (Lz_first (Sz_log (Tz_state v))) = y at hmx
          omega
      · refine ⟨fun z => absurd z (by decide), fun _ => ⟨fun z => absurd z (by decide), fun _ => ⟨fun z => absurd z (by decide), fun _ => ⟨fun z => absurd z (by decide), fun _ => ⟨fun z => absurd z (by decide), fun _ => ⟨fun z => absurd z (by decide), fun _ => ⟨fun _ => q_lengthFrom h.1.1.1 g5.2 (ok (fun u hu => ⟨fun z => absurd z (by decide), fun _ => ⟨fun z => absurd z (by decide), fun _ => ⟨fun z => absurd z (by decide), fun _ => ⟨fun z => absurd z (by decide), fun _ => ⟨fun z => absurd z (by decide), fun _ => ⟨fun z => absurd z (by decide), fun _ => ⟨fun _ => ⟨by decide, ?_⟩, fun z => absurd rfl z⟩⟩⟩⟩⟩⟩⟩)), fun z => absurd rfl z⟩⟩⟩⟩⟩⟩⟩
        have e2' : Mz_now (Mz_set_refusal w 0) (Int.toNat 401) = Lz_end (Sz_log (Tz_state v)) := e2
        rw [e2', hu]
        refine m_sizes h.1.1 h.1.2 hmx.1 hmx.2 (Int.le_refl _) ⟨rfl, fun _ => ?_, h⟩
        have hl := h.1.1.1.2.1.2.2
        rw [hm]
        unfold lenFrom
        by_cases q : Rz_place (Sz_readers (Tz_state v) a.toNat) < Lz_first (Sz_log (Tz_state v))
        · rw [if_pos q, if_pos (by omega)]
          exact hl.symm
        · rw [if_neg q]
          by_cases q2 : Rz_place (Sz_readers (Tz_state v) a.toNat) ≤ Lz_first (Sz_log (Tz_state v))
          · rw [if_pos q2, show Rz_place (Sz_readers (Tz_state v) a.toNat) = Lz_first (Sz_log (Tz_state v)) by omega]
            exact hl.symm
          · rw [if_neg q2]
      · refine ⟨fun z => absurd z (by decide), fun _ => ⟨fun z => absurd z (by decide), fun _ => ⟨fun z => absurd z (by decide), fun _ => ⟨fun z => absurd z (by decide), fun _ => ⟨fun z => absurd z (by decide), fun _ => ⟨fun z => absurd z (by decide), fun _ => ⟨fun z => absurd z (by decide), fun _ => ⟨fun _ => ⟨by omega, ok (fun u hu => ⟨fun z => absurd z (by decide), fun _ => ⟨fun z => absurd z (by decide), fun _ => ⟨fun z => absurd z (by decide), fun _ => ⟨fun z => absurd z (by decide), fun _ => ⟨fun z => absurd z (by decide), fun _ => ⟨fun z => absurd z (by decide), fun _ => ⟨fun z => absurd z (by decide), fun _ => ⟨fun _ => ⟨by omega, by omega, ?_⟩, fun z => absurd rfl z⟩⟩⟩⟩⟩⟩⟩⟩)⟩, fun z => absurd rfl z⟩⟩⟩⟩⟩⟩⟩⟩
        have c1' : Mz_now (Mz_set_refusal w 0) (Int.toNat (410 + 15 * a + 1)) = Rz_place (Sz_readers (Tz_state v) a.toNat) := c1
        rw [c1', hu, hm]
        by_cases q : Rz_place (Sz_readers (Tz_state v) a.toNat) < Lz_first (Sz_log (Tz_state v))
        · rw [if_pos q]
          exact ⟨by omega, rfl, fun _ => (if_neg (by omega)).symm, h⟩
        · rw [if_neg q]
          refine ⟨by omega, rfl, fun _ => ?_, h⟩
          by_cases q2 : Lz_first (Sz_log (Tz_state v)) - Rz_place (Sz_readers (Tz_state v) a.toNat) < 0
          · rw [show zmaxZ (Lz_first (Sz_log (Tz_state v)) - Rz_place (Sz_readers (Tz_state v) a.toNat)) 0 = 0 from if_pos q2]
            omega
          · rw [show zmaxZ (Lz_first (Sz_log (Tz_state v)) - Rz_place (Sz_readers (Tz_state v) a.toNat)) 0 = Lz_first (Sz_log (Tz_state v)) - Rz_place (Sz_readers (Tz_state v) a.toNat) from if_neg q2]
            omega
      · exact ⟨fun z => absurd z (by decide), fun _ => ⟨fun z => absurd z (by decide), fun _ => ⟨fun z => absurd z (by decide), fun _ => ⟨fun z => absurd z (by decide), fun _ => ⟨fun z => absurd z (by decide), fun _ => ⟨fun z => absurd z (by decide), fun _ => ⟨fun z => absurd z (by decide), fun _ => ⟨fun z => absurd z (by decide), fun _ => ok (fun u _ => ⟨fun z => absurd z (by decide), fun _ => ⟨fun z => absurd z (by decide), fun _ => ⟨fun z => absurd z (by decide), fun _ => ⟨fun z => absurd z (by decide), fun _ => ⟨fun z => absurd z (by decide), fun _ => ⟨fun z => absurd z (by decide), fun _ => ⟨fun z => absurd z (by decide), fun _ => ⟨fun z => absurd z (by decide), fun _ => ⟨by omega, by omega, rfl, fun _ => c6, h⟩⟩⟩⟩⟩⟩⟩⟩⟩)⟩⟩⟩⟩⟩⟩⟩⟩
    · exact m_isReader h.1.1 h.1.2 (fun _ => ⟨fun _ => m_in (fun z1 z2 => absurd ⟨z1, z2⟩ c) (fun _ => ⟨fun z => absurd rfl z, fun _ => m_no (by decide) ⟨fun z => absurd z (by decide), fun _ => ⟨rfl, fun z => absurd z (by decide), h⟩⟩⟩), fun z => absurd z (by decide)⟩) (fun z => absurd hr z)
  · exact m_isReader h.1.1 h.1.2 (fun z => absurd z c) (fun _ => ⟨fun z => absurd rfl z, fun _ => m_no (by decide) ⟨fun z => absurd z (by decide), fun _ => ⟨rfl, fun z => absurd z (by decide), h⟩⟩⟩)
end QG
