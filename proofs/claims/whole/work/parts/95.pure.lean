/-! ### the class and the model, call by call -/
def XRel (x : XZ) (w : MZ) : Prop := Xz_length x = Mz_length w ∧ (0 ≤ Mz_length w ∧ Mz_length w ≤ 120) ∧ ∀ k : Nat, (k : Int) < Mz_length w → Xz_signs x k = Mz_text w k ∧ 0 ≤ Mz_text w k ∧ Mz_text w k ≤ 255
def KRel (v : TZ) (w : MZ) (T : Int) : Prop := ∀ i : Nat, i < 2 → (Tz_filled v i = 0 ∨ Tz_filled v i = 1) ∧ Mz_isKept w i = Tz_filled v i ∧ (Tz_filled v i = 1 → SOK (Tz_slots v i) T ∧ Rel (Tz_slots v i) (fun m => Mz_kept w (621 * i + m)))
def SimZ (T : Int) (v : TZ) (w : MZ) : Prop := (SOK (Tz_state v) T ∧ Rel (Tz_state v) (Mz_now w)) ∧ HRel (Tz_history v) (Mz_book w) (Mz_states w) T ∧ KRel v w T ∧ XRel (Tz_text v) w
abbrev finZ (T k r : Int) (v : TZ) (b : Int) (w : MZ) : Prop := Mz_refusal w = k ∧ (k = 0 → b = r) ∧ SimZ T v w
section PZ
variable {v : TZ} {w : MZ} {T : Int}
theorem KRel.mono {T' : Int} (h : KRel v w T) (e : T ≤ T') (hT : T' ≤ 5000000) : KRel v w T' := fun i hi => ⟨(h i hi).1, (h i hi).2.1, fun q => ⟨((h i hi).2.2 q).1.mono e hT, ((h i hi).2.2 q).2⟩⟩
theorem SimZ.mono {T' : Int} (h : SimZ T v w) (e : T ≤ T') (hT : T' ≤ 5000000) : SimZ T' v w := ⟨⟨h.1.1.mono e hT, h.1.2⟩, h.2.1.mono e hT, h.2.2.1.mono e hT, h.2.2.2⟩
theorem SimZ.ref {k : Int} (h : SimZ T v w) : SimZ T v (Mz_set_refusal w k) := h
theorem m_no {u : Int} {Q : Int → MZ → Prop} (hu : u ≠ 0) (k : Q 1 (Mz_set_refusal w u)) : Z_M_refused u w Q := by
  rintro _ rfl
  exact ⟨fun q => absurd q hu, fun _ => k⟩
theorem m_yes {Q : Int → MZ → Prop} (k : Q 0 (Mz_set_refusal w 0)) : Z_M_refused 0 w Q := by
  rintro _ rfl
  exact ⟨fun _ => k, fun q => absurd rfl q⟩
theorem q_act {c : Nat} {a b d : Int} {X : String → TZ → Prop} {Q : Int → TZ → Prop} (hc : c < 7) (h : SimZ T v w) (hT : T + 99 ≤ 5000000) (hv : valA c b d)
    (k0 : fltA (Tz_state v) c a b d = 0 → ∀ z r σ', SEq z (Tz_state v) → resA (Tz_state v) c a b d r σ' → Q r (Tz_set_state (Tz_set_history v (remH (Tz_history v) z)) σ'))
    (k1 : fltA (Tz_state v) c a b d = 1 → X "java/lang/IndexOutOfBoundsException" v) (k2 : fltA (Tz_state v) c a b d = 2 → X "java/lang/IllegalArgumentException" v) (k3 : fltA (Tz_state v) c a b d = 3 → X "java/lang/IllegalStateException" v) : Z_T_act c a b d v X Q := by
  unfold Z_T_act
  refine q_fault hc h.1.1 hv ⟨fun q1 => ⟨fun q2 => ⟨fun q3 => ?_, k3⟩, k2⟩, k1⟩
  have o : fltA (Tz_state v) c a b d = 0 := by
    rcases fltA_cases (σ := Tz_state v) (c := c) (a := a) (b := b) (d := d) with z | z | z | z
    · exact z
    · exact absurd z q1
    · exact absurd z q2
    · exact absurd z q3
  refine q_remember h.2.1 h.1.1 (fun z hz => ?_)
  rintro _ rfl
  refine q_go hc h.1.1 hT hv o (fun r σ' hr => ?_)
  rintro _ rfl
  exact k0 o z r σ' hz hr
theorem m_act {c : Nat} {a b d r : Int} {z σ' : SZ} {G : (Nat → Int) → (Int → (Nat → Int) → Prop) → Prop} (h : SimZ T v w) (hT : T + 99 ≤ 5000000) (hv : valA c b d) (o : fltA (Tz_state v) c a b d = 0) (hz : SEq z (Tz_state v)) (hr : resA (Tz_state v) c a b d r σ')
    (hG : ∀ (W : Nat → Int) (Q : Int → (Nat → Int) → Prop), Rel (Tz_state v) W → (∀ W', Rel σ' W' → Q r W') → G W Q) :
    Z_M_remember (Mz_set_refusal w 0) (fun v1 => G (Mz_now v1) (fun r2 v2 => ∀ v3, v3 = Mz_set_now v1 v2 → finZ (T + 99) 0 r (Tz_set_state (Tz_set_history v (remH (Tz_history v) z)) σ') r2 v3)) := by
  obtain ⟨⟨h1, h2⟩, h3, h4, h5⟩ := h
  have hn := h3.1
  refine m_remember (w := Mz_set_refusal w 0) (by show 0 ≤ Mz_states w ∧ Mz_states w ≤ 14; omega) (fun C hC => hG _ _ h2 (fun W' r' => ?_))
  rintro _ rfl
  have g := h1.res hT hv o hr
  exact ⟨rfl, fun _ => rfl, ⟨g.1, r'⟩, (h3.rem h1 h2 hz hC).mono (by omega) hT, h4.mono (by omega) hT, h5⟩
theorem m_isRow {a b d : Int} {Q : Int → Prop} (k1 : rowP a b d → Q 1) (k0 : ¬ rowP a b d → Q 0) : Z_M_isRow a b d Q := by
  refine m_isKey (fun a0 a1 => ⟨fun q => absurd q (by decide), fun _ => m_in (fun b0 b1 => ⟨fun q => absurd q (by decide), fun _ => m_in (fun d0 d1 => ⟨fun q => absurd q (by decide), fun _ => k1 ⟨⟨a0, a1⟩, ⟨b0, b1⟩, d0, d1⟩⟩) (fun q => ⟨fun _ => k0 (fun z => q z.2.2), fun z => absurd rfl z⟩)⟩) (fun q => ⟨fun _ => k0 (fun z => q z.2.1), fun z => absurd rfl z⟩)⟩) (fun q => ⟨fun _ => k0 (fun z => q z.1), fun z => absurd rfl z⟩)
theorem m_isSetting {a b : Int} {Q : Int → Prop} (k1 : setP a b → Q 1) (k0 : ¬ setP a b → Q 0) : Z_M_isSetting a b Q := by
  have k : ∀ (j : Nat), j ≤ 5 → a = (j : Int) → ∀ lo hi : Int, zSvz 1 j = lo → zSvz 2 j = hi → (lo ≤ b → b ≤ hi → Q 1) ∧ (¬ (lo ≤ b ∧ b ≤ hi) → Q 0) := by
    intro j hj e lo hi e1 e2
    subst e; subst e1; subst e2
    exact ⟨fun c c2 => k1 ⟨by omega, by rw [show ((j : Int)).toNat = j by omega]; exact ⟨c, c2⟩⟩, fun c => k0 (fun q => c (by have := q.2; rw [show ((j : Int)).toNat = j by omega] at this; exact this))⟩
  unfold Z_M_isSetting
  refine ⟨fun q => ?_, fun q0 => ⟨fun q => ?_, fun q1 => ⟨fun q => ?_, fun q2 => ⟨fun q => ?_, fun q3 => ⟨fun q => ?_, fun q4 => ⟨fun q5 => k0 (fun z => by omega), fun q => ?_⟩⟩⟩⟩⟩⟩
  · have e := k 0 (by decide) (by omega) 1 8 rfl rfl
    exact m_in (fun c c2 => ⟨Or.inr rfl, e.1 c c2⟩) (fun c => ⟨Or.inl rfl, e.2 c⟩)
  · have e := k 1 (by decide) (by omega) 40 200 rfl rfl
    exact m_in (fun c c2 => ⟨Or.inr rfl, e.1 c c2⟩) (fun c => ⟨Or.inl rfl, e.2 c⟩)
  · have e := k 2 (by decide) (by omega) 0 99 rfl rfl
    exact m_in (fun c c2 => ⟨Or.inr rfl, e.1 c c2⟩) (fun c => ⟨Or.inl rfl, e.2 c⟩)
  · have e := k 3 (by decide) (by omega) 0 4000 rfl rfl
    exact m_in (fun c c2 => ⟨Or.inr rfl, e.1 c c2⟩) (fun c => ⟨Or.inl rfl, e.2 c⟩)
  · have e := k 4 (by decide) (by omega) 0 4000 rfl rfl
    exact m_in (fun c c2 => ⟨Or.inr rfl, e.1 c c2⟩) (fun c => ⟨Or.inl rfl, e.2 c⟩)
  · have e := k 5 (by decide) (by omega) 0 99 rfl rfl
    exact m_in (fun c c2 => ⟨fun z => absurd z (by decide), fun _ => e.1 c c2⟩) (fun c => ⟨fun _ => e.2 c, fun z => absurd rfl z⟩)
/-- what becomes of the exceptions of a call -/
abbrev exZ (E : String) (IOB IAE ISE : Prop) : Prop := (E = "java/lang/IndexOutOfBoundsException" → IOB) ∧ (E = "java/lang/IllegalArgumentException" → IAE) ∧ (E = "java/lang/IllegalStateException" → ISE) ∧ (¬ (E = "java/lang/IndexOutOfBoundsException" ∨ E = "java/lang/IllegalArgumentException" ∨ E = "java/lang/IllegalStateException") → False)
theorem ex_iob {A B C : Prop} (h : A) : exZ "java/lang/IndexOutOfBoundsException" A B C := ⟨fun _ => h, fun q => absurd q (by decide), fun q => absurd q (by decide), fun q => q (Or.inl rfl)⟩
theorem ex_iae {A B C : Prop} (h : B) : exZ "java/lang/IllegalArgumentException" A B C := ⟨fun q => absurd q (by decide), fun _ => h, fun q => absurd q (by decide), fun q => q (Or.inr (Or.inl rfl))⟩
theorem ex_ise {A B C : Prop} (h : C) : exZ "java/lang/IllegalStateException" A B C := ⟨fun q => absurd q (by decide), fun q => absurd q (by decide), fun _ => h, fun q => q (Or.inr (Or.inr rfl))⟩
theorem k_write {a b d : Int} (h : SimZ T v w) (hT : T + 99 ≤ 5000000) : Z_T_write a b d v (fun E v' => exZ E False (Z_M_write a b d w (finZ (T + 99) 1 0 v')) (Z_M_write a b d w (finZ (T + 99) 2 0 v'))) (fun r v' => Z_M_write a b d w (finZ (T + 99) 0 r v')) := by
  have h' := h.mono (T' := T + 99) (by omega) hT
  have e1 := h.1.2.1.2.1
  have bad : ¬ rowP a b d → Z_M_write a b d w (finZ (T + 99) 1 0 v) := fun q => m_isRow (fun z => absurd z q) (fun _ => ⟨fun z => absurd rfl z, fun _ => m_no (by decide) ⟨fun z => absurd z (by decide), fun _ => ⟨rfl, fun z => absurd z (by decide), h'⟩⟩⟩)
  have full : rowP a b d → Lz_end (Sz_log (Tz_state v)) = 200 → Z_M_write a b d w (finZ (T + 99) 2 0 v) := fun q q2 => m_isRow (fun _ => ⟨fun _ => ⟨by decide, by rw [e1]; exact ⟨fun z => absurd q2 z, fun _ => m_no (by decide) ⟨fun z => absurd z (by decide), fun _ => ⟨rfl, fun z => absurd z (by decide), h'⟩⟩⟩⟩, fun z => absurd z (by decide)⟩) (fun z => absurd q z)
  have hE := h.1.1.1.1
  refine q_act (c := 0) (by decide) h hT trivial (fun o z r σ' hz hr => ?_) (fun o => ?_) (fun o => ex_iae (bad (fun q => ?_))) (fun o => ex_ise ?_)
  · obtain ⟨o1, o2⟩ := ok0 o
    have fin := m_act (c := 0) (a := a) (b := b) (d := d) (G := Z_M_goWrite a b d) h hT trivial o hz hr (fun W Q r1 k => g_write h.1.1 r1 o hr k)
    exact m_isRow (fun _ => ⟨fun _ => ⟨by decide, by rw [e1]; exact ⟨fun _ => m_yes ⟨fun _ => fin, fun z => absurd rfl z⟩, fun z => absurd z (by omega)⟩⟩, fun z => absurd z (by decide)⟩) (fun z => absurd o1 z)
  · have o : (if rowP a b d then (if 200 ≤ Lz_end (Sz_log (Tz_state v)) then (3 : Int) else 0) else 2) = 1 := o
    split at o
    · split at o <;> exact absurd o (by decide)
    · exact absurd o (by decide)
  · have o : (if rowP a b d then (if 200 ≤ Lz_end (Sz_log (Tz_state v)) then (3 : Int) else 0) else 2) = 2 := o
    rw [if_pos q] at o
    split at o <;> exact absurd o (by decide)
  · have o : (if rowP a b d then (if 200 ≤ Lz_end (Sz_log (Tz_state v)) then (3 : Int) else 0) else 2) = 3 := o
    split at o
    · rename_i q
      split at o
      · exact full q (by omega)
      · exact absurd o (by decide)
    · exact absurd o (by decide)
theorem fz1 {P : Prop} [Decidable P] {x y n : Int} (o : (if P then x else y) = n) : (P ∧ x = n) ∨ (¬ P ∧ y = n) := by
  split at o
  · exact Or.inl ⟨by assumption, o⟩
  · exact Or.inr ⟨by assumption, o⟩
theorem k_join {a b d : Int} (hd : d = 0 ∨ d = 1) (h : SimZ T v w) (hT : T + 99 ≤ 5000000) : Z_T_join a b d v (fun E v' => exZ E False (Z_M_join a b d w (finZ (T + 99) 1 0 v')) (Z_M_join a b d w (finZ (T + 99) 2 0 v'))) (fun r v' => Z_M_join a b d w (finZ (T + 99) 0 r v')) := by
  have h' := h.mono (T' := T + 99) (by omega) hT
  have main : Z_T_act 1 a b d v (fun E v' => exZ E False (Z_M_join a b d w (finZ (T + 99) 1 0 v')) (Z_M_join a b d w (finZ (T + 99) 2 0 v'))) (fun r v' => Z_M_join a b d w (finZ (T + 99) 0 r v')) := by
    refine q_act (c := 1) (by decide) h hT hd (fun o z r σ' hz hr => ?_) (fun o => ?_) (fun o => ex_iae ?_) (fun o => ex_ise ?_)
    · obtain ⟨⟨o1, o2⟩, o3⟩ := ok1 o
      have fin := m_act (c := 1) (a := a) (b := b) (d := d) (G := Z_M_goJoin a b d) h hT hd o hz hr (fun W Q r1 k => g_join h.1.1 r1 hd o hr k)
      exact m_isName (fun _ _ => ⟨fun z => absurd z (by decide), fun _ => m_in (fun _ _ => ⟨fun _ => m_canJoin h.1.1 h.1.2 o1.1 o1.2 (fun _ _ => ⟨fun _ => m_yes ⟨fun _ => fin, fun z => absurd rfl z⟩, fun z => absurd z (by decide)⟩) (fun z => absurd o3 z), fun z => absurd z (by decide)⟩) (fun z => absurd o2 z)⟩) (fun z => absurd ⟨o1.1, by omega⟩ z)
    · rcases fz1 (show (if (0 ≤ a ∧ a < 8) ∧ (0 ≤ b ∧ b ≤ 2) then (if canJP (Tz_state v) a b d then (0 : Int) else 3) else 2) = 1 from o) with ⟨q, q2⟩ | ⟨q, q2⟩
      · rcases fz1 q2 with ⟨y, y2⟩ | ⟨y, y2⟩ <;> exact absurd y2 (by decide)
      · exact absurd q2 (by decide)
    · rcases fz1 (show (if (0 ≤ a ∧ a < 8) ∧ (0 ≤ b ∧ b ≤ 2) then (if canJP (Tz_state v) a b d then (0 : Int) else 3) else 2) = 2 from o) with ⟨q, q2⟩ | ⟨q, q2⟩
      · rcases fz1 q2 with ⟨y, y2⟩ | ⟨y, y2⟩ <;> exact absurd y2 (by decide)
      · have no : ZJ_M_join_42 a b d a b d 1 w (finZ (T + 99) 1 0 v) := m_no (by decide) ⟨fun z => absurd z (by decide), fun _ => ⟨rfl, fun z => absurd z (by decide), h'⟩⟩
        exact m_isName (fun a0 a1 => ⟨fun z => absurd z (by decide), fun _ => m_in (fun b0 b1 => absurd ⟨⟨a0, by omega⟩, b0, b1⟩ q) (fun z => ⟨fun y => absurd rfl y, fun _ => no⟩)⟩) (fun z => ⟨fun _ => no, fun y => absurd rfl y⟩)
    · rcases fz1 (show (if (0 ≤ a ∧ a < 8) ∧ (0 ≤ b ∧ b ≤ 2) then (if canJP (Tz_state v) a b d then (0 : Int) else 3) else 2) = 3 from o) with ⟨⟨o1, o2⟩, q2⟩ | ⟨q, q2⟩
      · rcases fz1 q2 with ⟨y, y2⟩ | ⟨y, y2⟩
        · exact absurd y2 (by decide)
        · have no : ZJ_M_join_42 a b d a b d 2 w (finZ (T + 99) 2 0 v) := m_no (by decide) ⟨fun z => absurd z (by decide), fun _ => ⟨rfl, fun z => absurd z (by decide), h'⟩⟩
          exact m_isName (fun _ _ => ⟨fun z => absurd z (by decide), fun _ => m_in (fun _ _ => ⟨fun _ => m_canJoin h.1.1 h.1.2 o1.1 o1.2 (fun z1 z2 => absurd ⟨z1, z2⟩ y) (fun z => ⟨fun x => absurd rfl x, fun _ => no⟩), fun z => absurd z (by decide)⟩) (fun z => absurd o2 z)⟩) (fun z => absurd ⟨o1.1, by omega⟩ z)
      · exact absurd q2 (by decide)
  refine q_asNumber (fun q => ?_) (fun q => ?_)
  · have main := main
    rw [show d = 0 from q] at main ⊢
    exact main
  · have e : d = 1 := by omega
    rw [e] at main ⊢
    exact main
theorem k_read {a b : Int} (h : SimZ T v w) (hT : T + 99 ≤ 5000000) : Z_T_read a b v (fun E v' => exZ E (Z_M_read a b w (finZ (T + 99) 1 0 v')) (Z_M_read a b w (finZ (T + 99) 2 0 v')) False) (fun r v' => Z_M_read a b w (finZ (T + 99) 0 r v')) := by
  have h' := h.mono (T' := T + 99) (by omega) hT
  refine q_act (c := 2) (by decide) h hT trivial (fun o z r σ' hz hr => ?_) (fun o => ex_iob ?_) (fun o => ex_iae ?_) (fun o => ?_)
  · obtain ⟨o1, o2⟩ := ok2 o
    have fin := m_act (c := 2) (a := a) (b := b) (d := 0) (G := Z_M_goRead a b) h hT trivial o hz hr (fun W Q r1 k => g_read h.1.1 (by omega) r1 o hr k)
    exact m_isReader h.1.1 h.1.2 (fun _ => ⟨fun _ => m_in (fun _ _ => ⟨fun _ => m_yes ⟨fun _ => fin, fun z => absurd rfl z⟩, fun z => absurd z (by decide)⟩) (fun z => absurd o2 z), fun z => absurd z (by decide)⟩) (fun z => absurd o1 z)
  · rcases fz1 (show (if isR (Tz_state v) a then (if 1 ≤ b ∧ b ≤ 50 then (0 : Int) else 2) else 1) = 1 from o) with ⟨q, q2⟩ | ⟨q, q2⟩
    · rcases fz1 q2 with ⟨y, y2⟩ | ⟨y, y2⟩ <;> exact absurd y2 (by decide)
    · exact m_isReader h.1.1 h.1.2 (fun z => absurd z q) (fun _ => ⟨fun z => absurd rfl z, fun _ => m_no (by decide) ⟨fun z => absurd z (by decide), fun _ => ⟨rfl, fun z => absurd z (by decide), h'⟩⟩⟩)
  · rcases fz1 (show (if isR (Tz_state v) a then (if 1 ≤ b ∧ b ≤ 50 then (0 : Int) else 2) else 1) = 2 from o) with ⟨q, q2⟩ | ⟨q, q2⟩
    · rcases fz1 q2 with ⟨y, y2⟩ | ⟨y, y2⟩
      · exact absurd y2 (by decide)
      · exact m_isReader h.1.1 h.1.2 (fun _ => ⟨fun _ => m_in (fun b0 b1 => absurd ⟨b0, b1⟩ y) (fun _ => ⟨fun z => absurd rfl z, fun _ => m_no (by decide) ⟨fun z => absurd z (by decide), fun _ => ⟨rfl, fun z => absurd z (by decide), h'⟩⟩⟩), fun z => absurd z (by decide)⟩) (fun z => absurd q z)
    · exact absurd q2 (by decide)
  · rcases fz1 (show (if isR (Tz_state v) a then (if 1 ≤ b ∧ b ≤ 50 then (0 : Int) else 2) else 1) = 3 from o) with ⟨q, q2⟩ | ⟨q, q2⟩
    · rcases fz1 q2 with ⟨y, y2⟩ | ⟨y, y2⟩ <;> exact absurd y2 (by decide)
    · exact absurd q2 (by decide)
theorem k_leave {a : Int} (h : SimZ T v w) (hT : T + 99 ≤ 5000000) : Z_T_leave a v (fun E v' => exZ E (Z_M_leave a w (finZ (T + 99) 1 0 v')) False False) (fun r v' => Z_M_leave a w (finZ (T + 99) 0 r v')) := by
  have h' := h.mono (T' := T + 99) (by omega) hT
  refine q_act (c := 3) (by decide) h hT trivial (fun o z r σ' hz hr => ?_) (fun o => ex_iob ?_) (fun o => ?_) (fun o => ?_)
  · have o1 := ok3 o
    have fin := m_act (c := 3) (a := a) (b := 0) (d := 0) (G := Z_M_goLeave a) h hT trivial o hz hr (fun W Q r1 k => g_leave h.1.1 r1 o hr k)
    exact m_isReader h.1.1 h.1.2 (fun _ => ⟨fun z => absurd z (by decide), fun _ => m_yes ⟨fun _ => fin, fun z => absurd rfl z⟩⟩) (fun z => absurd o1 z)
  · rcases fz1 (show (if isR (Tz_state v) a then (0 : Int) else 1) = 1 from o) with ⟨q, q2⟩ | ⟨q, q2⟩
    · exact absurd q2 (by decide)
    · exact m_isReader h.1.1 h.1.2 (fun z => absurd z q) (fun _ => ⟨fun _ => m_no (by decide) ⟨fun z => absurd z (by decide), fun _ => ⟨rfl, fun z => absurd z (by decide), h'⟩⟩, fun z => absurd rfl z⟩)
  · rcases fz1 (show (if isR (Tz_state v) a then (0 : Int) else 1) = 2 from o) with ⟨q, q2⟩ | ⟨q, q2⟩ <;> exact absurd q2 (by decide)
  · rcases fz1 (show (if isR (Tz_state v) a then (0 : Int) else 1) = 3 from o) with ⟨q, q2⟩ | ⟨q, q2⟩ <;> exact absurd q2 (by decide)
theorem k_hold {a b : Int} (hb : b = 0 ∨ b = 1) (h : SimZ T v w) (hT : T + 99 ≤ 5000000) : Z_T_hold a b v (fun E v' => exZ E (Z_M_hold a b w (finZ (T + 99) 1 0 v')) False (Z_M_hold a b w (finZ (T + 99) 2 0 v'))) (fun r v' => Z_M_hold a b w (finZ (T + 99) 0 r v')) := by
  have h' := h.mono (T' := T + 99) (by omega) hT
  have main : Z_T_act 4 a b 0 v (fun E v' => exZ E (Z_M_hold a b w (finZ (T + 99) 1 0 v')) False (Z_M_hold a b w (finZ (T + 99) 2 0 v'))) (fun r v' => Z_M_hold a b w (finZ (T + 99) 0 r v')) := by
    refine q_act (c := 4) (by decide) h hT hb (fun o z r σ' hz hr => ?_) (fun o => ex_iob ?_) (fun o => ?_) (fun o => ex_ise ?_)
    · obtain ⟨o1, o2⟩ := ok4 o
      have fin := m_act (c := 4) (a := a) (b := b) (d := 0) (G := Z_M_goHold a b) h hT hb o hz hr (fun W Q r1 k => g_hold h.1.1 r1 hb o hr k)
      exact m_isReader h.1.1 h.1.2 (fun _ => ⟨fun _ => m_canHold h.1.2 o1.1.1 o1.1.2 o1.2 (fun _ => ⟨fun _ => m_yes ⟨fun _ => fin, fun z => absurd rfl z⟩, fun z => absurd z (by decide)⟩) (fun z => absurd (by omega) z), fun z => absurd z (by decide)⟩) (fun z => absurd o1 z)
    · rcases fz1 (show (if isR (Tz_state v) a then (if b = 1 ∧ Rz_place (Sz_readers (Tz_state v) a.toNat) < Lz_first (Sz_log (Tz_state v)) then (3 : Int) else 0) else 1) = 1 from o) with ⟨q, q2⟩ | ⟨q, q2⟩
      · rcases fz1 q2 with ⟨y, y2⟩ | ⟨y, y2⟩ <;> exact absurd y2 (by decide)
      · exact m_isReader h.1.1 h.1.2 (fun z => absurd z q) (fun _ => ⟨fun z => absurd rfl z, fun _ => m_no (by decide) ⟨fun z => absurd z (by decide), fun _ => ⟨rfl, fun z => absurd z (by decide), h'⟩⟩⟩)
    · rcases fz1 (show (if isR (Tz_state v) a then (if b = 1 ∧ Rz_place (Sz_readers (Tz_state v) a.toNat) < Lz_first (Sz_log (Tz_state v)) then (3 : Int) else 0) else 1) = 2 from o) with ⟨q, q2⟩ | ⟨q, q2⟩
      · rcases fz1 q2 with ⟨y, y2⟩ | ⟨y, y2⟩ <;> exact absurd y2 (by decide)
      · exact absurd q2 (by decide)
    · rcases fz1 (show (if isR (Tz_state v) a then (if b = 1 ∧ Rz_place (Sz_readers (Tz_state v) a.toNat) < Lz_first (Sz_log (Tz_state v)) then (3 : Int) else 0) else 1) = 3 from o) with ⟨q, q2⟩ | ⟨q, q2⟩
      · rcases fz1 q2 with ⟨y, y2⟩ | ⟨y, y2⟩
        · exact m_isReader h.1.1 h.1.2 (fun _ => ⟨fun _ => m_canHold h.1.2 q.1.1 q.1.2 q.2 (fun z => absurd z (by omega)) (fun _ => ⟨fun z => absurd rfl z, fun _ => m_no (by decide) ⟨fun z => absurd z (by decide), fun _ => ⟨rfl, fun z => absurd z (by decide), h'⟩⟩⟩), fun z => absurd z (by decide)⟩) (fun z => absurd q z)
        · exact absurd y2 (by decide)
      · exact absurd q2 (by decide)
  refine q_asNumber (fun q => ?_) (fun q => ?_)
  · have main := main
    rw [show b = 0 from q] at main ⊢
    exact main
  · have e : b = 1 := by omega
    rw [e] at main ⊢
    exact main
theorem k_set {a b : Int} (h : SimZ T v w) (hT : T + 99 ≤ 5000000) : Z_T_set a b v (fun E v' => exZ E False (Z_M_set a b w (finZ (T + 99) 1 0 v')) False) (fun r v' => Z_M_set a b w (finZ (T + 99) 0 r v')) := by
  have h' := h.mono (T' := T + 99) (by omega) hT
  refine q_act (c := 5) (by decide) h hT trivial (fun o z r σ' hz hr => ?_) (fun o => ?_) (fun o => ex_iae ?_) (fun o => ?_)
  · have o1 := ok5 o
    have fin := m_act (c := 5) (a := a) (b := b) (d := 0) (G := Z_M_put a b) h hT trivial o hz hr (fun W Q r1 k => g_put h.1.1 r1 o hr k)
    exact m_isSetting (fun _ => ⟨fun z => absurd z (by decide), fun _ => m_yes ⟨fun _ => fin, fun z => absurd rfl z⟩⟩) (fun z => absurd o1 z)
  · rcases fz1 (show (if setP a b then (0 : Int) else 2) = 1 from o) with ⟨q, q2⟩ | ⟨q, q2⟩ <;> exact absurd q2 (by decide)
  · rcases fz1 (show (if setP a b then (0 : Int) else 2) = 2 from o) with ⟨q, q2⟩ | ⟨q, q2⟩
    · exact absurd q2 (by decide)
    · exact m_isSetting (fun z => absurd z q) (fun _ => ⟨fun _ => m_no (by decide) ⟨fun z => absurd z (by decide), fun _ => ⟨rfl, fun z => absurd z (by decide), h'⟩⟩, fun z => absurd rfl z⟩)
  · rcases fz1 (show (if setP a b then (0 : Int) else 2) = 3 from o) with ⟨q, q2⟩ | ⟨q, q2⟩ <;> exact absurd q2 (by decide)
theorem k_ticks {a : Int} (h : SimZ T v w) (hT : T + 99 ≤ 5000000) : Z_T_ticks a v (fun E v' => exZ E False (Z_M_ticks a w (finZ (T + 99) 1 0 v')) False) (fun r v' => Z_M_ticks a w (finZ (T + 99) 0 r v')) := by
  have h' := h.mono (T' := T + 99) (by omega) hT
  refine q_act (c := 6) (by decide) h hT trivial (fun o z r σ' hz hr => ?_) (fun o => ?_) (fun o => ex_iae ?_) (fun o => ?_)
  · have o1 := ok6 o
    have fin := m_act (c := 6) (a := a) (b := 0) (d := 0) (G := Z_M_goTicks a) h hT trivial o hz hr (fun W Q r1 k => g_ticks h.1.1 hT r1 o hr k)
    exact m_in (fun _ _ => ⟨fun z => absurd z (by decide), fun _ => m_yes ⟨fun _ => fin, fun z => absurd rfl z⟩⟩) (fun z => absurd o1 z)
  · rcases fz1 (show (if 1 ≤ a ∧ a ≤ 99 then (0 : Int) else 2) = 1 from o) with ⟨q, q2⟩ | ⟨q, q2⟩ <;> exact absurd q2 (by decide)
  · rcases fz1 (show (if 1 ≤ a ∧ a ≤ 99 then (0 : Int) else 2) = 2 from o) with ⟨q, q2⟩ | ⟨q, q2⟩
    · exact absurd q2 (by decide)
    · exact m_in (fun z1 z2 => absurd ⟨z1, z2⟩ q) (fun _ => ⟨fun _ => m_no (by decide) ⟨fun z => absurd z (by decide), fun _ => ⟨rfl, fun z => absurd z (by decide), h'⟩⟩, fun z => absurd rfl z⟩)
  · rcases fz1 (show (if 1 ≤ a ∧ a ≤ 99 then (0 : Int) else 2) = 3 from o) with ⟨q, q2⟩ | ⟨q, q2⟩ <;> exact absurd q2 (by decide)
end PZ
