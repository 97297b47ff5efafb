/-! ### an object: its history, its slots, its text; what calls make of it -/
abbrev IX : Int := -9000000000000000001
abbrev AR : Int := -9000000000000000002
abbrev STT : Int := -9000000000000000003
def topH (u : HZ) (j : Int) : SZ := Hz_states u ((Hz_next u + 13 - j) % 14).toNat
def HOK (u : HZ) (T : Int) : Prop := ((0 ≤ Hz_next u ∧ Hz_next u < 14) ∧ (0 ≤ Hz_count u ∧ Hz_count u ≤ 14)) ∧ ∀ j : Int, 0 ≤ j → j < Hz_count u → GOK (topH u j) T
def XOT (x : XZ) : Prop := (0 ≤ Xz_length x ∧ Xz_length x ≤ 120) ∧ ∀ k : Nat, (k : Int) < Xz_length x → 0 ≤ Xz_signs x k ∧ Xz_signs x k ≤ 255
def KT (v : TZ) (T : Int) : Prop := ∀ i : Nat, i < 2 → (Tz_filled v i = 0 ∨ Tz_filled v i = 1) ∧ (Tz_filled v i = 1 → GOK (Tz_slots v i) T)
def TOK (v : TZ) (T : Int) : Prop := GOK (Tz_state v) T ∧ HOK (Tz_history v) T ∧ KT v T ∧ XOT (Tz_text v)
def HEq' (u w : HZ) : Prop := (Hz_next u = Hz_next w ∧ Hz_count u = Hz_count w) ∧ ∀ j : Int, 0 ≤ j → j < Hz_count w → SEq (topH u j) (topH w j)
def XEq (x y : XZ) : Prop := Xz_length x = Xz_length y ∧ ∀ k : Nat, (k : Int) < Xz_length y → Xz_signs x k = Xz_signs y k
def KEq (v w : TZ) : Prop := ∀ i : Nat, i < 2 → Tz_filled v i = Tz_filled w i ∧ (Tz_filled w i = 1 → SEq (Tz_slots v i) (Tz_slots w i))
/-- two objects alike -/
def TEq (v w : TZ) : Prop := SEq (Tz_state v) (Tz_state w) ∧ HEq' (Tz_history v) (Tz_history w) ∧ KEq v w ∧ XEq (Tz_text v) (Tz_text w)
abbrev remH (u : HZ) (z : SZ) : HZ := Hz_set_count (Hz_set_next (Hz_seti_states u (Hz_next u).toNat z) ((Hz_next u + 1) % 14)) (zminZ (Hz_count u + 1) 14)
abbrev bkH (u : HZ) : HZ := Hz_set_count (Hz_set_next u ((Hz_next u + 13) % 14)) (Hz_count u - 1)
abbrev fgH (u : HZ) : HZ := Hz_set_count (Hz_set_next u 0) 0
def fcA (f : Int) : Int := if f = 1 then IX else if f = 2 then AR else STT
/-- an action's call -/
def actR (c : Nat) (a b d : Int) (v : TZ) (r : Int) (v' : TZ) : Prop :=
  (fltA (Tz_state v) c a b d = 0 ∧ ∃ z σ', SEq z (Tz_state v) ∧ resA (Tz_state v) c a b d r σ' ∧ v' = Tz_set_state (Tz_set_history v (remH (Tz_history v) z)) σ') ∨ (¬ fltA (Tz_state v) c a b d = 0 ∧ r = fcA (fltA (Tz_state v) c a b d) ∧ v' = v)
def undR (v : TZ) (r : Int) (v' : TZ) : Prop :=
  (Hz_count (Tz_history v) = 0 ∧ r = STT ∧ v' = v) ∨ (0 < Hz_count (Tz_history v) ∧ ∃ z, SEq z (topH (Tz_history v) 0) ∧ r = Hz_count (Tz_history v) - 1 ∧ v' = Tz_set_state (Tz_set_history v (bkH (Tz_history v))) z)
def savR (a : Int) (v : TZ) (r : Int) (v' : TZ) : Prop :=
  (¬ (0 ≤ a ∧ a ≤ 1) ∧ r = IX ∧ v' = v) ∨ ((0 ≤ a ∧ a ≤ 1) ∧ ∃ z, SEq z (Tz_state v) ∧ r = Sz_time (Tz_state v) ∧ v' = Tz_set_filled (Tz_seti_slots v a.toNat z) (updz (Tz_filled v) a.toNat 1))
def rstR (a : Int) (v : TZ) (r : Int) (v' : TZ) : Prop :=
  (¬ (0 ≤ a ∧ a ≤ 1) ∧ r = IX ∧ v' = v) ∨ ((0 ≤ a ∧ a ≤ 1) ∧ Tz_filled v a.toNat = 0 ∧ r = STT ∧ v' = v) ∨ ((0 ≤ a ∧ a ≤ 1) ∧ Tz_filled v a.toNat = 1 ∧ ∃ z, SEq z (Tz_slots v a.toNat) ∧ r = Sz_time z ∧ v' = Tz_set_history (Tz_set_state v z) (fgH (Tz_history v)))
theorem zmin14 {x : Int} : (x ≤ 14 → zminZ x 14 = x) ∧ (14 < x → zminZ x 14 = 14) := ⟨fun q => if_neg (by omega), fun q => if_pos q⟩
section HH
variable {u w : HZ} {z : SZ} {T : Int}
theorem top_rem0 (h : 0 ≤ Hz_next u ∧ Hz_next u < 14) : topH (remH u z) 0 = z := by
  show (if (((Hz_next u + 1) % 14 + 13 - 0) % 14).toNat = (Hz_next u).toNat then z else Hz_states u (((Hz_next u + 1) % 14 + 13 - 0) % 14).toNat) = z
  exact if_pos (by omega)
theorem top_remS {j : Int} (h : 0 ≤ Hz_next u ∧ Hz_next u < 14) (h0 : 0 ≤ j) (h1 : j ≤ 12) : topH (remH u z) (j + 1) = topH u j := by
  show (if (((Hz_next u + 1) % 14 + 13 - (j + 1)) % 14).toNat = (Hz_next u).toNat then z else Hz_states u (((Hz_next u + 1) % 14 + 13 - (j + 1)) % 14).toNat) = Hz_states u ((Hz_next u + 13 - j) % 14).toNat
  rw [if_neg (by omega), show ((Hz_next u + 1) % 14 + 13 - (j + 1)) % 14 = (Hz_next u + 13 - j) % 14 by omega]
theorem top_bk {j : Int} (h : 0 ≤ Hz_next u ∧ Hz_next u < 14) (h0 : 0 ≤ j) : topH (bkH u) j = topH u (j + 1) := by
  show Hz_states u (((Hz_next u + 13) % 14 + 13 - j) % 14).toNat = Hz_states u ((Hz_next u + 13 - (j + 1)) % 14).toNat
  rw [show ((Hz_next u + 13) % 14 + 13 - j) % 14 = (Hz_next u + 13 - (j + 1)) % 14 by omega]
theorem rem_count (h : 0 ≤ Hz_count u ∧ Hz_count u ≤ 14) : (Hz_count u < 14 → Hz_count (remH u z) = Hz_count u + 1) ∧ (Hz_count u = 14 → Hz_count (remH u z) = 14) := ⟨fun q => zmin14.1 (by omega), fun q => zmin14.2 (by omega)⟩
theorem HOK.rem (h : HOK u T) (g : GOK z T) : HOK (remH u z) T := by
  obtain ⟨⟨h1, h2⟩, h3⟩ := h
  have hc := rem_count (u := u) (z := z) h2
  have hn : Hz_next (remH u z) = (Hz_next u + 1) % 14 := rfl
  refine ⟨⟨by omega, by omega⟩, fun j j0 j1 => ?_⟩
  by_cases q : j = 0
  · rw [q, top_rem0 h1]
    exact g
  · have e := top_remS (u := u) (z := z) (j := j - 1) h1 (by omega) (by omega)
    rw [show j - 1 + 1 = j by omega] at e
    rw [e]
    exact h3 (j - 1) (by omega) (by omega)
theorem HOK.bk (h : HOK u T) (h0 : 0 < Hz_count u) : HOK (bkH u) T := by
  obtain ⟨⟨h1, h2⟩, h3⟩ := h
  have hn : Hz_next (bkH u) = (Hz_next u + 13) % 14 := rfl
  have hc : Hz_count (bkH u) = Hz_count u - 1 := rfl
  refine ⟨⟨by omega, by omega⟩, fun j j0 j1 => ?_⟩
  rw [top_bk h1 j0]
  exact h3 (j + 1) (by omega) (by omega)
theorem HOK.fg : HOK (fgH u) T := ⟨⟨⟨Int.le_refl 0, by show (0 : Int) < 14; decide⟩, ⟨Int.le_refl 0, by show (0 : Int) ≤ 14; decide⟩⟩, fun j j0 j1 => absurd (show j < 0 from j1) (by omega)⟩
theorem HOK.mono {T' : Int} (h : HOK u T) (e : T ≤ T') (hT : T' ≤ 5000000) : HOK u T' := ⟨h.1, fun j j0 j1 => (h.2 j j0 j1).mono e hT⟩
theorem HEq'.rem {z2 : SZ} (h : HEq' u w) (h1 : 0 ≤ Hz_next w ∧ Hz_next w < 14) (h2 : 0 ≤ Hz_count w ∧ Hz_count w ≤ 14) (e : SEq z z2) : HEq' (remH u z) (remH w z2) := by
  obtain ⟨⟨g1, g2⟩, g3⟩ := h
  have hc := rem_count (u := w) (z := z2) h2
  refine ⟨⟨by show (Hz_next u + 1) % 14 = (Hz_next w + 1) % 14; rw [g1], by show zminZ (Hz_count u + 1) 14 = zminZ (Hz_count w + 1) 14; rw [g2]⟩, fun j j0 j1 => ?_⟩
  by_cases q : j = 0
  · rw [q, top_rem0 (by omega), top_rem0 h1]
    exact e
  · have e1 := top_remS (u := u) (z := z) (j := j - 1) (by omega) (by omega) (by omega)
    have e2 := top_remS (u := w) (z := z2) (j := j - 1) h1 (by omega) (by omega)
    rw [show j - 1 + 1 = j by omega] at e1 e2
    rw [e1, e2]
    exact g3 (j - 1) (by omega) (by omega)
theorem HEq'.bk (h : HEq' u w) (h1 : 0 ≤ Hz_next w ∧ Hz_next w < 14) : HEq' (bkH u) (bkH w) := by
  obtain ⟨⟨g1, g2⟩, g3⟩ := h
  refine ⟨⟨by show (Hz_next u + 13) % 14 = (Hz_next w + 13) % 14; rw [g1], by show Hz_count u - 1 = Hz_count w - 1; rw [g2]⟩, fun j j0 j1 => ?_⟩
  have j1 : j < Hz_count w - 1 := j1
  rw [top_bk (by omega) j0, top_bk h1 j0]
  exact g3 (j + 1) (by omega) (by omega)
theorem HEq'.fg : HEq' (fgH u) (fgH w) := ⟨⟨rfl, rfl⟩, fun j j0 j1 => absurd (show j < 0 from j1) (by omega)⟩
end HH
section TT
variable {v w v' w' : TZ} {T r r2 : Int}
theorem KT.mono {T' : Int} (h : KT v T) (e : T ≤ T') (hT : T' ≤ 5000000) : KT v T' := fun i hi => ⟨(h i hi).1, fun q => ((h i hi).2 q).mono e hT⟩
theorem TOK.mono {T' : Int} (h : TOK v T) (e : T ≤ T') (hT : T' ≤ 5000000) : TOK v T' := ⟨h.1.mono e hT, h.2.1.mono e hT, h.2.2.1.mono e hT, h.2.2.2⟩
theorem TOK.act {c : Nat} {a b d : Int} (h : TOK v T) (hT : T + 99 ≤ 5000000) (hv : valA c b d) (e : actR c a b d v r v') : TOK v' (T + 99) := by
  have hm := h.mono (T' := T + 99) (by omega) hT
  rcases e with ⟨o, z, σ', ez, er, rfl⟩ | ⟨-, -, rfl⟩
  · exact ⟨h.1.res hT hv o er, hm.2.1.rem (hm.1.eq ez), hm.2.2.1, hm.2.2.2⟩
  · exact hm
theorem TOK.und (h : TOK v T) (e : undR v r v') : TOK v' T := by
  rcases e with ⟨-, -, rfl⟩ | ⟨h0, z, ez, -, rfl⟩
  · exact h
  · exact ⟨(h.2.1.2 0 (by omega) h0).eq ez, h.2.1.bk h0, h.2.2.1, h.2.2.2⟩
theorem TOK.sav {a : Int} (h : TOK v T) (e : savR a v r v') : TOK v' T := by
  rcases e with ⟨-, -, rfl⟩ | ⟨h0, z, ez, -, rfl⟩
  · exact h
  · refine ⟨h.1, h.2.1, fun i hi => ?_, h.2.2.2⟩
    show (updz (Tz_filled v) a.toNat 1 i = 0 ∨ updz (Tz_filled v) a.toNat 1 i = 1) ∧ (updz (Tz_filled v) a.toNat 1 i = 1 → GOK (if i = a.toNat then z else Tz_slots v i) T)
    by_cases q : i = a.toNat
    · rw [q, updz_eq, if_pos rfl]
      exact ⟨Or.inr rfl, fun _ => h.1.eq ez⟩
    · rw [updz_ne q, if_neg q]
      exact h.2.2.1 i hi
theorem TOK.rst {a : Int} (h : TOK v T) (e : rstR a v r v') : TOK v' T := by
  rcases e with ⟨-, -, rfl⟩ | ⟨-, -, -, rfl⟩ | ⟨h0, hf, z, ez, -, rfl⟩
  · exact h
  · exact h
  · exact ⟨((h.2.2.1 a.toNat (by omega)).2 hf).eq ez, HOK.fg, h.2.2.1, h.2.2.2⟩
theorem TEq.act {c : Nat} {a b d : Int} (e : TEq v w) (h : TOK w T) (hT : T + 99 ≤ 5000000) (hc : c < 7) (hv : valA c b d) (e1 : actR c a b d v r v') (e2 : actR c a b d w r2 w') : r = r2 ∧ TEq v' w' := by
  have ef := e.1.flt (c := c) (a := a) (b := b) (d := d) hc
  rcases e1 with ⟨o, z, σ', ez, er, rfl⟩ | ⟨o, er, rfl⟩
  · rcases e2 with ⟨o2, z2, σ2, ez2, er2, rfl⟩ | ⟨o2, -, -⟩
    · have g := SEq.res h.1.1 hT e.1 hv o2 er er2
      exact ⟨g.1, g.2, e.2.1.rem h.2.1.1.1 h.2.1.1.2 (ez.trans (e.1.trans ez2.symm)), e.2.2.1, e.2.2.2⟩
    · exact absurd (ef ▸ o) o2
  · rcases e2 with ⟨o2, -⟩ | ⟨o2, er2, rfl⟩
    · exact absurd (ef.symm ▸ o2) o
    · exact ⟨by rw [er, er2, ef], e⟩
theorem TEq.und (e : TEq v w) (h : TOK w T) (e1 : undR v r v') (e2 : undR w r2 w') : r = r2 ∧ TEq v' w' := by
  have ec := e.2.1.1.2
  rcases e1 with ⟨o, er, rfl⟩ | ⟨o, z, ez, er, rfl⟩
  · rcases e2 with ⟨o2, er2, rfl⟩ | ⟨o2, -⟩
    · exact ⟨er.trans er2.symm, e⟩
    · omega
  · rcases e2 with ⟨o2, -⟩ | ⟨o2, z2, ez2, er2, rfl⟩
    · omega
    · exact ⟨by rw [er, er2, ec], ez.trans ((e.2.1.2 0 (by omega) o2).trans ez2.symm), e.2.1.bk h.2.1.1.1, e.2.2.1, e.2.2.2⟩
theorem TEq.sav {a : Int} (e : TEq v w) (e1 : savR a v r v') (e2 : savR a w r2 w') : r = r2 ∧ TEq v' w' := by
  rcases e1 with ⟨o, er, rfl⟩ | ⟨o, z, ez, er, rfl⟩
  · rcases e2 with ⟨o2, er2, rfl⟩ | ⟨o2, -⟩
    · exact ⟨er.trans er2.symm, e⟩
    · exact absurd o2 o
  · rcases e2 with ⟨o2, -⟩ | ⟨o2, z2, ez2, er2, rfl⟩
    · exact absurd o o2
    · refine ⟨by rw [er, er2, e.1.time], e.1, e.2.1, fun i hi => ?_, e.2.2.2⟩
      show updz (Tz_filled v) a.toNat 1 i = updz (Tz_filled w) a.toNat 1 i ∧ (updz (Tz_filled w) a.toNat 1 i = 1 → SEq (if i = a.toNat then z else Tz_slots v i) (if i = a.toNat then z2 else Tz_slots w i))
      by_cases q : i = a.toNat
      · rw [q, updz_eq, updz_eq, if_pos rfl, if_pos rfl]
        exact ⟨rfl, fun _ => ez.trans (e.1.trans ez2.symm)⟩
      · rw [updz_ne q, updz_ne q, if_neg q, if_neg q]
        exact e.2.2.1 i hi
theorem TEq.rst {a : Int} (e : TEq v w) (e1 : rstR a v r v') (e2 : rstR a w r2 w') : r = r2 ∧ TEq v' w' := by
  rcases e1 with ⟨o, er, rfl⟩ | ⟨o, of, er, rfl⟩ | ⟨o, of, z, ez, er, rfl⟩
  · rcases e2 with ⟨o2, er2, rfl⟩ | ⟨o2, -⟩ | ⟨o2, -⟩
    · exact ⟨er.trans er2.symm, e⟩
    · exact absurd o2 o
    · exact absurd o2 o
  · have ek := e.2.2.1 a.toNat (by omega)
    rcases e2 with ⟨o2, -⟩ | ⟨o2, of2, er2, rfl⟩ | ⟨o2, of2, -⟩
    · exact absurd o o2
    · exact ⟨er.trans er2.symm, e⟩
    · omega
  · have ek := e.2.2.1 a.toNat (by omega)
    rcases e2 with ⟨o2, -⟩ | ⟨o2, of2, -⟩ | ⟨o2, of2, z2, ez2, er2, rfl⟩
    · exact absurd o o2
    · omega
    · have es := ez.trans ((ek.2 of2).trans ez2.symm)
      exact ⟨by rw [er, er2, es.time], es, HEq'.fg, e.2.2.1, e.2.2.2⟩
end TT
