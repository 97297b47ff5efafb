/-! ### errorPosition, load -/
def freshZ : SZ := ((fun _ => 0, fun _ => 0, fun _ => 0, fun _ => 0, fun _ => 0, fun _ => -1, 0, 0, 0, 0, 0), (fun _ => (fun _ => 0, 0, 0, 0, 0, 0, 0, 0, 0)), zSvz 0, 0, 0, 0, 0)
theorem freshZ_ok : FreshS freshZ := ⟨⟨rfl, rfl, rfl, rfl, rfl, rfl, fun _ _ => rfl⟩, fun _ _ => ⟨rfl, rfl, rfl⟩, fun _ _ => rfl, rfl⟩
section QX
variable {v : TZ} {w : MZ} {x : XZ} {T : Int}
abbrev csW (w : MZ) : Int → Int := sgF (Mz_text w) (Mz_length w)
theorem XRel.ok (h : XRel x w) : XOK x (csW w) ∧ MOK w (csW w) := by
  obtain ⟨h1, h2, h3⟩ := h
  have c1 : ∀ p : Int, ¬ (0 ≤ p ∧ p < Mz_length w) → csW w p = -1 := fun p q => if_neg q
  have c2 : ∀ p : Int, 0 ≤ p → p < Mz_length w → csW w p = Mz_text w p.toNat := fun p q q2 => if_pos ⟨q, q2⟩
  have c3 : ∀ p : Int, -1 ≤ csW w p ∧ csW w p ≤ 255 := by
    intro p
    by_cases q : 0 ≤ p ∧ p < Mz_length w
    · have g := h3 p.toNat (by omega)
      rw [c2 p q.1 q.2]
      omega
    · rw [c1 p q]
      decide
  refine ⟨⟨?_, fun p q q2 => ?_⟩, ⟨h2, c1, c3⟩, c2⟩
  · rw [h1]
    exact ⟨h2, c1, c3⟩
  · rw [h1] at q2
    have g := h3 p.toNat (by omega)
    rw [c2 p q q2]
    exact ⟨g.1.symm, g.2.1⟩
theorem k_errorPosition (h : SimZ T v w) : Z_T_errorPosition v (fun r v' => Z_M_errorPosition w (finZ T 0 r v')) := by
  obtain ⟨h1, h2, h3, h4⟩ := h
  obtain ⟨hx, hm⟩ := h4.ok
  refine q_findError hx (fun p' wr ac a b c => ?_)
  rintro _ rfl
  rintro _ rfl
  obtain ⟨l, τ, pr⟩ := ldR_ex (cs := csW w) (L := Mz_length w) 60 1 freshZ
  refine m_readAll (w := Mz_set_refusal w 0) hm freshZ_ok pr (fun W' p2 g2 l2 _ => ?_)
  refine ⟨rfl, fun _ => ?_, h1, h2, h3, h4⟩
  rw [h4.1]
theorem k_load (h : SimZ T v w) (hT : T + 6000 ≤ 5000000) : Z_T_load v (fun E v' => exZ E False False (Z_M_load w (finZ (T + 6000) 1 0 v'))) (fun r v' => Z_M_load w (finZ (T + 6000) 0 r v')) := by
  have h' := h.mono (T' := T + 6000) (by omega) hT
  obtain ⟨h1, h2, h3, h4⟩ := h
  obtain ⟨hx, hm⟩ := h4.ok
  have t0 := h1.1.2.1
  have e0 : Xz_length (Tz_text v) = Mz_length w := h4.1
  refine q_findError hx (fun p' wr ac a b c => ?_)
  rintro _ rfl
  rw [e0]
  refine ⟨fun er => ?_, fun er => ex_ise ?_⟩
  · refine q_S_renew (x := Tz_state v) h1.1.1.2.1.1 (fun z hz => ?_)
    rintro _ rfl
    unfold Z_H_forget
    rintro _ rfl _ rfl _ rfl
    have hs := hz.ok (T := 0) (by decide)
    have run : ∀ f : Nat → Int, f 0 = 0 → f 1 = 0 → Z_X_runOn (xS (Tz_text v) p' wr ac a b c) z (fun r39_ v43_ v44_ => ∀ v52_, v52_ = Tz_set_text (xS (Tz_text v) p' wr ac a b c, z, Tz_trial v, Hz_set_count (Hz_set_next (Tz_history v) 0) 0, Tz_slots v, f) v43_ → ∀ v57_, v57_ = Tz_set_state v52_ v44_ → Z_M_load w (finZ (T + 6000) 0 r39_ v57_)) := by
      intro f f0 f1
      have hx2 : XOK (xS (Tz_text v) p' wr ac a b c) (csW w) := hx
      refine q_runOn hx2 hs (by decide) (by show errA (csW w) (Xz_length (Tz_text v)) = -1; rw [e0]; exact er) (fun l τ p2 wr2 ac2 a2 b2 c2 pr sτ => ?_)
      have pr : ldR (csW w) (Xz_length (Tz_text v)) 60 1 z l τ := pr
      rw [e0] at pr
      rintro _ rfl _ rfl
      refine m_readAll hm hz pr (fun W' p3 g3 l3 hr => ?_)
      have c0 : csW w 0 = 71 := by
        by_cases q : csW w 0 = 71
        · exact q
        · unfold errA at er
          rw [if_neg q] at er
          exact absurd er (by decide)
      obtain ⟨r', el⟩ := hr c0
      subst el
      refine ⟨fun y => absurd er y, fun _ => m_yes ⟨fun _ => m_copy (fun U hU => ?_), fun y => absurd rfl y⟩⟩
      rintro _ rfl _ rfl
      refine ⟨by decide, ?_⟩
      rintro _ rfl
      refine ⟨by decide, ?_⟩
      rintro _ rfl
      have sτ2 : SOK τ (T + 6000) := sτ.mono (by omega) hT
      refine ⟨rfl, fun _ => rfl, ⟨sτ2, r'.weq sτ2 hU⟩, ⟨⟨?_, ?_, rfl⟩, fun j j0 j1 => absurd (show j < 0 from j1) (by omega)⟩, fun i hi => ?_, h4⟩
      · show (0 : Int) ≤ 0 ∧ (0 : Int) < 14
        decide
      · show (0 : Int) ≤ 0 ∧ (0 : Int) ≤ 14
        decide
      · show (f i = 0 ∨ f i = 1) ∧ updz (updz (Mz_isKept w) (Int.toNat 0) 0) (Int.toNat 1) 0 i = f i ∧ (f i = 1 → _)
        match i, hi with
        | 0, _ =>
          rw [f0]
          exact ⟨Or.inl rfl, rfl, fun y => absurd y (by decide)⟩
        | 1, _ =>
          rw [f1]
          exact ⟨Or.inl rfl, rfl, fun y => absurd y (by decide)⟩
    refine ⟨3, ?_⟩
    rw [ZL_T_load_37]
    refine ⟨fun y => absurd y (by decide), fun _ => ⟨by decide, ?_⟩⟩
    rintro _ rfl
    refine ⟨by decide, ?_⟩
    rw [ZL_T_load_37]
    refine ⟨fun y => absurd y (by decide), fun _ => ⟨by decide, ?_⟩⟩
    rintro _ rfl
    refine ⟨by decide, ?_⟩
    rw [ZL_T_load_37]
    refine ⟨fun _ => ?_, fun y => absurd (show (2 : Int) ≤ 0 + 1 + 1 by decide) y⟩
    exact run (updz (updz (Tz_filled v) (Int.toNat 0) 0) (Int.toNat (0 + 1)) 0) rfl rfl
  · obtain ⟨l, τ, pr⟩ := ldR_ex (cs := csW w) (L := Mz_length w) 60 1 freshZ
    refine m_readAll hm freshZ_ok pr (fun W' p2 g2 l2 _ => ⟨fun _ => ?_, fun y => absurd y er⟩)
    exact m_no (by decide) ⟨fun y => absurd y (by decide), fun _ => ⟨rfl, fun y => absurd y (by decide), h'⟩⟩
end QX
