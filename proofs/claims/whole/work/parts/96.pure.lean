/-! ### calls that ask -/
section QA
variable {v : TZ} {w : MZ} {T : Int}
theorem SimZ.m400 (h : SimZ T v w) : Mz_now w (Int.toNat 400) = Lz_first (Sz_log (Tz_state v)) ∧ Mz_now w (Int.toNat 401) = Lz_end (Sz_log (Tz_state v)) ∧ Mz_now w (Int.toNat 616) = Sz_time (Tz_state v) := ⟨h.1.2.1.1, h.1.2.1.2.1, h.1.2.1.2.2.1⟩
theorem k_append {a : Int} (ha : ∀ x : Int, 0 ≤ x → x ≤ 255 → zi2cZ x = x) (h : SimZ T v w) : Z_T_append a v (fun E v' => exZ E False (Z_M_append a w (finZ T 1 0 v')) (Z_M_append a w (finZ T 2 0 v'))) (fun r v' => Z_M_append a w (finZ T 0 r v')) := by
  obtain ⟨h1, h2, h3, x1, x2, x3⟩ := h
  refine q_isIn (fun a0 a1 => ⟨fun _ => ⟨fun c => ⟨fun _ => ?_, fun z => absurd rfl z⟩, fun c => ⟨fun z => absurd z (by decide), fun _ => ex_ise ?_⟩⟩, fun z => absurd z (by decide)⟩) (fun c => ⟨fun z => absurd rfl z, fun _ => ex_iae ?_⟩)
  · rw [ha a a0 a1]
    refine ⟨fun z => absurd z (by omega), fun _ => ⟨fun z => absurd z (by omega), fun _ => ⟨by omega, by omega, ?_⟩⟩⟩
    rintro _ rfl
    refine ⟨by show -2147483648 ≤ Xz_length (Tz_text v) + 1 ∧ Xz_length (Tz_text v) + 1 < 2147483648; omega, ?_⟩
    rintro _ rfl
    rintro _ rfl
    have go : ZJ_M_append_31 a a 0 w (finZ T 0 (Xz_length (Tz_text v) + 1) (Tz_set_text v (Xz_set_length (Xz_set_signs (Tz_text v) (updz (Xz_signs (Tz_text v)) (Int.toNat (Xz_length (Tz_text v))) a)) (Xz_length (Tz_text v) + 1)))) := by
      refine m_yes ⟨fun _ => ⟨by show 0 ≤ Mz_length w ∧ Mz_length w < 120; omega, ?_⟩, fun z => absurd rfl z⟩
      rintro _ rfl
      refine ⟨by show -2147483648 ≤ Mz_length w + 1 ∧ Mz_length w + 1 < 2147483648; omega, ?_⟩
      rintro _ rfl
      refine ⟨rfl, fun _ => ?_, h1, h2, h3, ?_, ?_, fun k hk => ?_⟩
      · show Mz_length w + 1 = Xz_length (Tz_text v) + 1
        omega
      · show Xz_length (Tz_text v) + 1 = Mz_length w + 1
        omega
      · show 0 ≤ Mz_length w + 1 ∧ Mz_length w + 1 ≤ 120
        omega
      · have hk : (k : Int) < Mz_length w + 1 := hk
        show updz (Xz_signs (Tz_text v)) (Int.toNat (Xz_length (Tz_text v))) a k = updz (Mz_text w) (Int.toNat (Mz_length w)) a k ∧ 0 ≤ updz (Mz_text w) (Int.toNat (Mz_length w)) a k ∧ updz (Mz_text w) (Int.toNat (Mz_length w)) a k ≤ 255
        by_cases q : k = Int.toNat (Mz_length w)
        · rw [x1, q, updz_eq, updz_eq]
          exact ⟨rfl, a0, a1⟩
        · rw [updz_ne q, updz_ne (by omega)]
          exact x3 k (by omega)
    exact m_in (fun _ _ => ⟨fun _ => ⟨fun _ => go, fun z => absurd z (by omega)⟩, fun z => absurd z (by decide)⟩) (fun z => absurd ⟨a0, a1⟩ z)
  · exact m_in (fun _ _ => ⟨fun _ => ⟨fun z => absurd (show Mz_length w = 120 by omega) z, fun _ => m_no (by decide) ⟨fun z => absurd z (by decide), fun _ => ⟨rfl, fun z => absurd z (by decide), h1, h2, h3, x1, x2, x3⟩⟩⟩, fun z => absurd z (by decide)⟩) (fun z => absurd ⟨a0, a1⟩ z)
  · exact m_in (fun z1 z2 => absurd ⟨z1, z2⟩ c) (fun _ => ⟨fun z => absurd rfl z, fun _ => m_no (by decide) ⟨fun z => absurd z (by decide), fun _ => ⟨rfl, fun z => absurd z (by decide), h1, h2, h3, x1, x2, x3⟩⟩⟩)
theorem k_clearText (h : SimZ T v w) : Z_T_clearText v (fun r v' => Z_M_clearText w (finZ T 0 r v')) := by
  obtain ⟨h1, h2, h3, x1, x2, x3⟩ := h
  rintro _ rfl _ rfl _ rfl _ rfl
  exact ⟨rfl, fun _ => x1.symm, h1, h2, h3, rfl, ⟨Int.le_refl 0, by show (0 : Int) ≤ 120; decide⟩, fun k hk => absurd (show (k : Int) < 0 from hk) (by omega)⟩
theorem k_table {a b : Int} (h : SimZ T v w) : Z_T_table a b v (fun E => exZ E (Z_M_table a b w (finZ T 1 0 v)) (Z_M_table a b w (finZ T 2 0 v)) False) (fun r => Z_M_table a b w (finZ T 0 r v)) := by
  refine q_reader h.1.1 (fun i hi hi8 hp => ⟨fun z => (nomatch z), fun j z => ?_⟩) (fun c => ⟨fun _ => ex_iob ?_, fun j z => (nomatch z)⟩)
  · cases z
    have e0 : i = a.toNat := by omega
    subst e0
    have hr : isR (Tz_state v) a := ⟨by omega, hp⟩
    refine q_isIn (fun b0 b1 => ⟨fun _ => q_at (by decide) b0 (by omega) ?_, fun z => absurd z (by decide)⟩) (fun c => ⟨fun z => absurd rfl z, fun _ => ex_iae ?_⟩)
    · have e := (h.1.2.2.2.2.2.2 a hr.1.1 hr.1.2).2.1 hp
      have go : ZJ_M_table_28 a b a b 0 w (finZ T 0 (Rz_values (Sz_readers (Tz_state v) a.toNat) b.toNat) v) := by
        refine m_yes ⟨fun _ => m_reader hr.1.1 hr.1.2 ⟨by omega, by omega, by omega, rfl, fun _ => ?_, h⟩, fun z => absurd rfl z⟩
        exact e.2.2.2.2.2.2 b b0 (by omega)
      exact m_isReader h.1.1 h.1.2 (fun _ => ⟨fun _ => m_isKey (fun _ _ => ⟨fun _ => go, fun z => absurd z (by decide)⟩) (fun z => absurd ⟨b0, b1⟩ z), fun z => absurd z (by decide)⟩) (fun z => absurd hr z)
    · exact m_isReader h.1.1 h.1.2 (fun _ => ⟨fun _ => m_isKey (fun z1 z2 => absurd ⟨z1, z2⟩ c) (fun _ => ⟨fun z => absurd rfl z, fun _ => m_no (by decide) ⟨fun z => absurd z (by decide), fun _ => ⟨rfl, fun z => absurd z (by decide), h⟩⟩⟩), fun z => absurd z (by decide)⟩) (fun z => absurd hr z)
  · exact m_isReader h.1.1 h.1.2 (fun z => absurd z c) (fun _ => ⟨fun z => absurd rfl z, fun _ => m_no (by decide) ⟨fun z => absurd z (by decide), fun _ => ⟨rfl, fun z => absurd z (by decide), h⟩⟩⟩)
theorem k_base {a : Int} (h : SimZ T v w) : Z_T_base a v (fun E => exZ E False (Z_M_base a w (finZ T 1 0 v)) False) (fun r => Z_M_base a w (finZ T 0 r v)) := by
  refine q_isIn (fun a0 a1 => ⟨fun _ => q_at (by decide) a0 (by omega) ?_, fun z => absurd z (by decide)⟩) (fun c => ⟨fun z => absurd rfl z, fun _ => ex_iae ?_⟩)
  · have go : ZJ_M_base_13 a a 0 w (finZ T 0 (Lz_dropValues (Sz_log (Tz_state v)) a.toNat) v) := m_yes ⟨fun _ => ⟨by omega, by omega, rfl, fun _ => h.1.2.2.1 a a0 (by omega), h⟩, fun z => absurd rfl z⟩
    exact m_isKey (fun _ _ => ⟨fun z => absurd z (by decide), fun _ => go⟩) (fun z => absurd ⟨a0, a1⟩ z)
  · exact m_isKey (fun z1 z2 => absurd ⟨z1, z2⟩ c) (fun _ => ⟨fun _ => m_no (by decide) ⟨fun z => absurd z (by decide), fun _ => ⟨rfl, fun z => absurd z (by decide), h⟩⟩, fun z => absurd rfl z⟩)
theorem k_setting {a : Int} (h : SimZ T v w) : Z_T_setting a v (fun E => exZ E False (Z_M_setting a w (finZ T 1 0 v)) False) (fun r => Z_M_setting a w (finZ T 0 r v)) := by
  refine q_isIn (fun a0 a1 => ⟨fun _ => q_at (by decide) a0 (by omega) ?_, fun z => absurd z (by decide)⟩) (fun c => ⟨fun z => absurd rfl z, fun _ => ex_iae ?_⟩)
  · have go : ZJ_M_setting_18 a a 0 w (finZ T 0 (Sz_settings (Tz_state v) a.toNat) v) := m_yes ⟨fun _ => ⟨by omega, by omega, rfl, fun _ => h.1.2.2.2.1 a a0 (by omega), h⟩, fun z => absurd rfl z⟩
    exact m_in (fun _ _ => ⟨fun z => absurd z (by decide), fun _ => go⟩) (fun z => absurd ⟨a0, a1⟩ z)
  · exact m_in (fun z1 z2 => absurd ⟨z1, z2⟩ c) (fun _ => ⟨fun _ => m_no (by decide) ⟨fun z => absurd z (by decide), fun _ => ⟨rfl, fun z => absurd z (by decide), h⟩⟩, fun z => absurd rfl z⟩)
theorem k_why (h : SimZ T v w) : Z_T_why v (fun r => Z_M_why w (finZ T 0 r v)) := by
  refine q_firstStays h.1.1 ?_
  rintro _ rfl
  exact m_whyStays h.1.1 h.1.2 ⟨rfl, fun _ => rfl, h⟩
theorem k_truth {a b d : Int} (h : SimZ T v w) : Z_T_truth a b d v (fun E => exZ E (Z_M_truth a b d w (finZ T 1 0 v)) (Z_M_truth a b d w (finZ T 2 0 v)) False) (fun r => Z_M_truth a b d w (finZ T 0 r v)) := by
  obtain ⟨e1, e2, -⟩ := h.m400
  have st : ∀ {k r : Int}, Z_M_in b (Lz_first (Sz_log (Tz_state v))) (Lz_end (Sz_log (Tz_state v))) (fun r3_ => ((¬ r3_ = 0 → (Z_M_isKey a (fun r8_ => ((r8_ = 0 → (ZJ_M_truth_48 a b d a b d w (finZ T k r v))) ∧ (¬ r8_ = 0 → (Z_M_in d 0 1 (fun r31_ => ((¬ r31_ = 0 → (ZJ_M_truth_53 a b d a b d 0 w (finZ T k r v))) ∧ (r31_ = 0 → (ZJ_M_truth_48 a b d a b d w (finZ T k r v))))))))))) ∧ (r3_ = 0 → (ZJ_M_truth_53 a b d a b d 1 w (finZ T k r v))))) → Z_M_truth a b d w (finZ T k r v) := by
    intro k r g
    refine ⟨by decide, by decide, ?_⟩
    rw [e1, e2]
    exact g
  have no2 : ZJ_M_truth_53 a b d a b d 2 w (finZ T 2 0 v) := m_no (by decide) ⟨fun z => absurd z (by decide), fun _ => ⟨rfl, fun z => absurd z (by decide), h⟩⟩
  refine q_isIn (fun b0 b1 => ⟨fun _ => q_isIn (fun a0 a1 => ⟨fun z => absurd z (by decide), fun _ => q_isIn (fun d0 d1 => ⟨fun _ => ⟨fun q => ?_, fun q => ?_⟩, fun z => absurd z (by decide)⟩) (fun c => ⟨fun z => absurd rfl z, fun _ => ex_iae ?_⟩)⟩) (fun c => ⟨fun _ => ex_iae ?_, fun z => absurd rfl z⟩), fun z => absurd z (by decide)⟩) (fun c => ⟨fun z => absurd rfl z, fun _ => ex_iob ?_⟩)
  · refine q_toldBackwards h.1.1.1 a0 (by omega) b0 b1 ?_
    have go : ZJ_M_truth_53 a b d a b d 0 w (finZ T 0 (backX (Sz_log (Tz_state v)) a b) v) := m_yes ⟨fun _ => ⟨fun _ => m_toldBack h.1.1 h.1.2 a0 (by omega) b0 b1 ⟨rfl, fun _ => rfl, h⟩, fun z => absurd z q⟩, fun z => absurd rfl z⟩
    exact st (m_in (fun _ _ => ⟨fun _ => m_isKey (fun _ _ => ⟨fun z => absurd z (by decide), fun _ => m_in (fun _ _ => ⟨fun _ => go, fun z => absurd z (by decide)⟩) (fun z => absurd ⟨d0, d1⟩ z)⟩) (fun z => absurd ⟨a0, a1⟩ z), fun z => absurd z (by decide)⟩) (fun z => absurd ⟨b0, b1⟩ z))
  · refine q_toldForwards h.1.1.1 a0 (by omega) b0 b1 ?_
    have go : ZJ_M_truth_53 a b d a b d 0 w (finZ T 0 (toldX (Sz_log (Tz_state v)) a b) v) := m_yes ⟨fun _ => ⟨fun z => absurd q z, fun _ => m_told h.1.1 h.1.2 a0 (by omega) b0 b1 ⟨rfl, fun _ => rfl, h⟩⟩, fun z => absurd rfl z⟩
    exact st (m_in (fun _ _ => ⟨fun _ => m_isKey (fun _ _ => ⟨fun z => absurd z (by decide), fun _ => m_in (fun _ _ => ⟨fun _ => go, fun z => absurd z (by decide)⟩) (fun z => absurd ⟨d0, d1⟩ z)⟩) (fun z => absurd ⟨a0, a1⟩ z), fun z => absurd z (by decide)⟩) (fun z => absurd ⟨b0, b1⟩ z))
  · exact st (m_in (fun _ _ => ⟨fun _ => m_isKey (fun _ _ => ⟨fun z => absurd z (by decide), fun _ => m_in (fun z1 z2 => absurd ⟨z1, z2⟩ c) (fun _ => ⟨fun z => absurd rfl z, fun _ => no2⟩)⟩) (fun z => absurd ⟨a0, a1⟩ z), fun z => absurd z (by decide)⟩) (fun z => absurd ⟨b0, b1⟩ z))
  · exact st (m_in (fun _ _ => ⟨fun _ => m_isKey (fun z1 z2 => absurd ⟨z1, z2⟩ c) (fun _ => ⟨fun _ => no2, fun z => absurd rfl z⟩), fun z => absurd z (by decide)⟩) (fun z => absurd ⟨b0, b1⟩ z))
  · exact st (m_in (fun z1 z2 => absurd ⟨z1, z2⟩ c) (fun _ => ⟨fun z => absurd rfl z, fun _ => m_no (by decide) ⟨fun z => absurd z (by decide), fun _ => ⟨rfl, fun z => absurd z (by decide), h⟩⟩⟩))
end QA
