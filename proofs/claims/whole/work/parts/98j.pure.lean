/-! ### lostIn -/
section QL
variable {v : TZ} {w : MZ} {T : Int}
theorem k_lostIn {a : Int} (h : SimZ T v w) (hT : T + 300 ≤ 5000000) : Z_T_lostIn a v (fun E v' => exZ E (Z_M_lostIn a w (finZ T 1 0 v')) False False) (fun r v' => Z_M_lostIn a w (finZ T 0 r v')) := by
  have h1 := h.1.1
  refine q_reader h1 (fun i hi hi8 hp => ⟨fun z => (nomatch z), fun j z => ?_⟩) (fun c => ⟨fun _ => ex_iob ?_, fun j z => (nomatch z)⟩)
  · cases z
    have e0 : i = a.toNat := by omega
    subst e0
    have hr : isR (Tz_state v) a := ⟨by omega, hp⟩
    refine q_copyToTry h1 (fun z hz => ?_)
    have hz1 := h1.eq hz
    have z5 := (hz.2.1 a.toNat hi8).2
    have p1 : Rz_present (Sz_readers z a.toNat) = 1 := (congrArg (fun q => q.1) z5).trans hp
    have p3 : Rz_held (Sz_readers z a.toNat) = Rz_held (Sz_readers (Tz_state v) a.toNat) := congrArg (fun q => q.2.2.1) z5
    have f2 : Mz_now (Mz_set_refusal w 0) (Int.toNat (410 + 15 * a + 2)) = Rz_held (Sz_readers (Tz_state v) a.toNat) := ((h.1.2.2.2.2.2.2 a hr.1.1 hr.1.2).2.1 hp).2.1
    have g6 := (h1.2.2.2 a.toNat hi8).2.2.1
    refine q_hasHold (σ := z) hz1 (fun c => ⟨fun _ => ⟨_, q_lostLoop hr.1 300 1 z T (by decide) (by decide) hz1 (by omega) p1 (fun z2 => ?_)⟩, fun y => absurd y (by decide)⟩) (fun c => ⟨fun y => absurd rfl y, fun _ => ?_⟩)
    · refine m_isReader h1 h.1.2 (fun _ => ⟨fun y => absurd y (by decide), fun _ => m_yes ⟨fun _ => m_reader hr.1.1 hr.1.2 ⟨by omega, by omega, ?_⟩, fun y => absurd rfl y⟩⟩) (fun y => absurd hr y)
      rw [f2]
      refine ⟨fun _ => m_copy (fun U hU => ?_), fun y => absurd y (by have := c.2; omega)⟩
      rintro _ rfl
      exact ⟨_, m_lostLoop hr.1 300 1 z U T (by decide) (by decide) hz1 (by omega) ((h.1.2.eq h1 hz).weq hz1 hU) p1 (fun V' => ⟨rfl, fun _ => rfl, h⟩)⟩
    · refine m_isReader h1 h.1.2 (fun _ => ⟨fun y => absurd y (by decide), fun _ => m_yes ⟨fun _ => m_reader hr.1.1 hr.1.2 ⟨by omega, by omega, ?_⟩, fun y => absurd rfl y⟩⟩) (fun y => absurd hr y)
      rw [f2]
      exact ⟨fun y => absurd ⟨hr.1, p1⟩ (fun q => c ⟨q, by omega⟩), fun _ => ⟨rfl, fun _ => rfl, h⟩⟩
  · exact m_isReader h1 h.1.2 (fun z => absurd z c) (fun _ => ⟨fun _ => m_no (by decide) ⟨fun z => absurd z (by decide), fun _ => ⟨rfl, fun z => absurd z (by decide), h⟩⟩, fun z => absurd rfl z⟩)
end QL
