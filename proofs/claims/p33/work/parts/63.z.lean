def Z_X_add (x1 : Int) (v0 : XZ) (Q : (Int → XZ → Prop)) : Prop := (((Xz_length v0) < 0 → (Q (Xz_length v0) v0)) ∧ (¬ (Xz_length v0) < 0 → ((120 ≤ (Xz_length v0) → (Q (Xz_length v0) v0)) ∧ (¬ 120 ≤ (Xz_length v0) → ((0 : Int) ≤ (Xz_length v0) ∧ ((Xz_length v0) : Int) < 120) ∧ ((0 ≤ x1 ∧ x1 ≤ 65535) ∧ ((∀ v11_, v11_ = (Xz_set_signs v0 (updz (Xz_signs v0) (Int.toNat (Xz_length v0)) x1)) → (zin ((Xz_length v11_) + 1) ∧ (∀ v19_, v19_ = (Xz_set_length v11_ ((Xz_length v11_) + 1)) → ((Q (Xz_length v19_) v19_)))))))))))
set_option maxRecDepth 100000 in
theorem z_X_add {x1 : Int32} {x1z : Int} {v0 : XT} {v0z : XZ}  {Q : Int32 → XT → Prop} {Qz : (Int → XZ → Prop)} (e_x1 : x1.toInt = x1z) (e_v0 : (aX v0) = v0z) (h_Q : ∀ (a0 : Int32) (a1 : XT), Qz a0.toInt (aX a1) → Q a0 a1) (h : Z_X_add x1z v0z Qz) : P_X_add x1 v0 Q := by
  subst e_x1
  subst e_v0
  unfold Z_X_add at h
  unfold P_X_add
  refine ⟨fun c5q => ?_, fun c5q => ?_⟩
  · have h := h.1 ((zt_lt rfl rfl).mp c5q)
    exact h_Q _ _ h
  · have h := h.2 (fun k => c5q ((zt_lt rfl rfl).mpr k))
    refine ⟨fun c4q => ?_, fun c4q => ?_⟩
    · have h := h.1 ((zt_le rfl rfl).mp c4q)
      exact h_Q _ _ h
    · have h := h.2 (fun k => c4q ((zt_le rfl rfl).mpr k))
      obtain ⟨i1q, h⟩ := h
      refine ⟨zt_in rfl i1q, ?_⟩
      obtain ⟨i2q, h⟩ := h
      refine ⟨zt_zc rfl i2q, ?_⟩
      intro v11_ ev11_
      have h := h (aX v11_) (by rw [ev11_]; exact (show (aX (X_set_signs v0 (upd (X_signs v0) (Int32.toNatClampNeg (X_length v0)) x1))) = (Xz_set_signs (aX v0) (updz (Xz_signs (aX v0)) (Int.toNat (Xz_length (aX v0))) x1.toInt)) from (congrArg (fun k => Xz_set_signs (aX v0) k) (show (aA (upd (X_signs v0) (Int32.toNatClampNeg (X_length v0)) x1)) = (updz (Xz_signs (aX v0)) (Int.toNat (Xz_length (aX v0))) x1.toInt) from (zt_upd rfl rfl rfl)))))
      obtain ⟨o3q, h⟩ := h
      intro v19_ ev19_
      have h := h (aX v19_) (by rw [ev19_]; exact (show (aX (X_set_length v11_ ((X_length v11_) + 1))) = (Xz_set_length (aX v11_) ((Xz_length (aX v11_)) + 1)) from (congrArg (fun k => Xz_set_length (aX v11_) k) (show ((((X_length v11_) + 1) : Int32)).toInt = (((Xz_length (aX v11_)) + 1) : Int) from (zt_add rfl rfl o3q)))))
      exact h_Q _ _ h

def Z_X_empty (v0 : XZ) (Q : (Int → XZ → Prop)) : Prop := (∀ v6_, v6_ = (Xz_set_length v0 0) → ((Q (Xz_length v0) v6_)))
set_option maxRecDepth 100000 in
theorem z_X_empty {v0 : XT} {v0z : XZ}  {Q : Int32 → XT → Prop} {Qz : (Int → XZ → Prop)} (e_v0 : (aX v0) = v0z) (h_Q : ∀ (a0 : Int32) (a1 : XT), Qz a0.toInt (aX a1) → Q a0 a1) (h : Z_X_empty v0z Qz) : P_X_empty v0 Q := by
  subst e_v0
  unfold Z_X_empty at h
  unfold P_X_empty
  intro v6_ ev6_
  have h := h (aX v6_) (by rw [ev6_]; exact rfl)
  exact h_Q _ _ h

def Z_X_sign (v0 : XZ) (Q : (Int → Prop)) : Prop := (((Xz_position v0) < 0 → (Q 0)) ∧ (¬ (Xz_position v0) < 0 → (((Xz_length v0) ≤ (Xz_position v0) → (Q 0)) ∧ (¬ (Xz_length v0) ≤ (Xz_position v0) → ((120 ≤ (Xz_position v0) → (Q 0)) ∧ (¬ 120 ≤ (Xz_position v0) → ((0 : Int) ≤ (Xz_position v0) ∧ ((Xz_position v0) : Int) < 120) ∧ ((0 ≤ (Xz_signs v0 (Int.toNat (Xz_position v0))) ∧ (Xz_signs v0 (Int.toNat (Xz_position v0))) ≤ 65535) ∧ ((Q (Xz_signs v0 (Int.toNat (Xz_position v0))))))))))))
set_option maxRecDepth 100000 in
theorem z_X_sign {v0 : XT} {v0z : XZ}  {Q : Int32 → Prop} {Qz : (Int → Prop)} (e_v0 : (aX v0) = v0z) (h_Q : ∀ (a0 : Int32), Qz a0.toInt → Q a0) (h : Z_X_sign v0z Qz) : P_X_sign v0 Q := by
  subst e_v0
  unfold Z_X_sign at h
  unfold P_X_sign
  refine ⟨fun c5q => ?_, fun c5q => ?_⟩
  · have h := h.1 ((zt_lt rfl rfl).mp c5q)
    exact h_Q _ h
  · have h := h.2 (fun k => c5q ((zt_lt rfl rfl).mpr k))
    refine ⟨fun c4q => ?_, fun c4q => ?_⟩
    · have h := h.1 ((zt_le rfl rfl).mp c4q)
      exact h_Q _ h
    · have h := h.2 (fun k => c4q ((zt_le rfl rfl).mpr k))
      refine ⟨fun c3q => ?_, fun c3q => ?_⟩
      · have h := h.1 ((zt_le rfl rfl).mp c3q)
        exact h_Q _ h
      · have h := h.2 (fun k => c3q ((zt_le rfl rfl).mpr k))
        obtain ⟨i1q, h⟩ := h
        refine ⟨zt_in rfl i1q, ?_⟩
        obtain ⟨i2q, h⟩ := h
        refine ⟨zt_zc rfl i2q, ?_⟩
        exact h_Q _ h

def ZJ_X_begin_20 (u0 : Int) (v0 : XZ) (Q : (XZ → Prop)) : Prop := (u0 = 0 ∨ u0 = 1) ∧ ((∀ v20_, v20_ = (Xz_set_wrong v0 u0) → (((¬ (Xz_wrong v20_) = 0 → (Q v20_)) ∧ ((Xz_wrong v20_) = 0 → zin ((Xz_position v20_) + 1) ∧ (∀ v29_, v29_ = (Xz_set_position v20_ ((Xz_position v20_) + 1)) → ((Q v29_))))))))
set_option maxRecDepth 100000 in
theorem zJ_X_begin_20 {u0 : Int32} {u0z : Int} {v0 : XT} {v0z : XZ}  {Q : XT → Prop} {Qz : (XZ → Prop)} (e_u0 : u0.toInt = u0z) (e_v0 : (aX v0) = v0z) (h_Q : ∀ (a0 : XT), Qz (aX a0) → Q a0) (h : ZJ_X_begin_20 u0z v0z Qz) : PJ_X_begin_20 u0 v0 Q := by
  subst e_u0
  subst e_v0
  unfold ZJ_X_begin_20 at h
  unfold PJ_X_begin_20
  obtain ⟨i1q, h⟩ := h
  refine ⟨zt_zb rfl i1q, ?_⟩
  intro v20_ ev20_
  have h := h (aX v20_) (by rw [ev20_]; exact rfl)
  refine ⟨fun c3q => ?_, fun c3q => ?_⟩
  · have h := h.1 (fun k => c3q ((zt_eq rfl rfl).mpr k))
    exact h_Q _ h
  · have h := h.2 ((zt_eq rfl rfl).mp c3q)
    obtain ⟨o2q, h⟩ := h
    intro v29_ ev29_
    have h := h (aX v29_) (by rw [ev29_]; exact (show (aX (X_set_position v20_ ((X_position v20_) + 1))) = (Xz_set_position (aX v20_) ((Xz_position (aX v20_)) + 1)) from (congrArg (fun k => Xz_set_position (aX v20_) k) (show ((((X_position v20_) + 1) : Int32)).toInt = (((Xz_position (aX v20_)) + 1) : Int) from (zt_add rfl rfl o2q)))))
    exact h_Q _ h
def Z_X_begin (v0 : XZ) (Q : (XZ → Prop)) : Prop := (∀ v6_, v6_ = (Xz_set_position v0 0) → ((Z_X_sign v6_ (fun r9_ => ((r9_ = 71 → (ZJ_X_begin_20 0 v6_ Q)) ∧ (¬ r9_ = 71 → (ZJ_X_begin_20 1 v6_ Q)))))))
set_option maxRecDepth 100000 in
theorem z_X_begin {v0 : XT} {v0z : XZ}  {Q : XT → Prop} {Qz : (XZ → Prop)} (e_v0 : (aX v0) = v0z) (h_Q : ∀ (a0 : XT), Qz (aX a0) → Q a0) (h : Z_X_begin v0z Qz) : P_X_begin v0 Q := by
  subst e_v0
  unfold Z_X_begin at h
  unfold P_X_begin
  intro v6_ ev6_
  have h := h (aX v6_) (by rw [ev6_]; exact rfl)
  refine z_X_sign rfl (fun r9_ h => ?_) h
  refine ⟨fun c1q => ?_, fun c1q => ?_⟩
  · have h := h.1 ((zt_eq rfl rfl).mp c1q)
    refine zJ_X_begin_20 rfl rfl h_Q h
  · have h := h.2 (fun k => c1q ((zt_eq rfl rfl).mpr k))
    refine zJ_X_begin_20 rfl rfl h_Q h

def Z_X_hasMore (v0 : XZ) (Q : (Int → Prop)) : Prop := ((¬ (Xz_wrong v0) = 0 → (Q 0)) ∧ ((Xz_wrong v0) = 0 → (((Xz_length v0) ≤ (Xz_position v0) → (Q 0)) ∧ (¬ (Xz_length v0) ≤ (Xz_position v0) → (Q 1)))))
set_option maxRecDepth 100000 in
theorem z_X_hasMore {v0 : XT} {v0z : XZ}  {Q : Int32 → Prop} {Qz : (Int → Prop)} (e_v0 : (aX v0) = v0z) (h_Q : ∀ (a0 : Int32), Qz a0.toInt → Q a0) (h : Z_X_hasMore v0z Qz) : P_X_hasMore v0 Q := by
  subst e_v0
  unfold Z_X_hasMore at h
  unfold P_X_hasMore
  refine ⟨fun c2q => ?_, fun c2q => ?_⟩
  · have h := h.1 (fun k => c2q ((zt_eq rfl rfl).mpr k))
    exact h_Q _ h
  · have h := h.2 ((zt_eq rfl rfl).mp c2q)
    refine ⟨fun c1q => ?_, fun c1q => ?_⟩
    · have h := h.1 ((zt_le rfl rfl).mp c1q)
      exact h_Q _ h
    · have h := h.2 (fun k => c1q ((zt_le rfl rfl).mpr k))
      exact h_Q _ h

def Z_X_actionOf (x1 : Int) (v0 : XZ) (Q : (Int → Prop)) : Prop := ((x1 = 104 → (Q 4)) ∧ (¬ x1 = 104 → ((x1 = 105 → (Q (-1))) ∧ (¬ x1 = 105 → ((x1 = 106 → (Q 1)) ∧ (¬ x1 = 106 → ((x1 = 107 → (Q (-1))) ∧ (¬ x1 = 107 → ((x1 = 108 → (Q 3)) ∧ (¬ x1 = 108 → ((x1 = 109 → (Q (-1))) ∧ (¬ x1 = 109 → ((x1 = 110 → (Q (-1))) ∧ (¬ x1 = 110 → ((x1 = 111 → (Q (-1))) ∧ (¬ x1 = 111 → ((x1 = 112 → (Q (-1))) ∧ (¬ x1 = 112 → ((x1 = 113 → (Q (-1))) ∧ (¬ x1 = 113 → ((x1 = 114 → (Q 2)) ∧ (¬ x1 = 114 → ((x1 = 115 → (Q 5)) ∧ (¬ x1 = 115 → ((x1 = 116 → (Q 6)) ∧ (¬ x1 = 116 → ((x1 = 117 → (Q (-1))) ∧ (¬ x1 = 117 → ((x1 = 118 → (Q (-1))) ∧ (¬ x1 = 118 → ((x1 = 119 → (Q 0)) ∧ (¬ x1 = 119 → (Q (-1))))))))))))))))))))))))))))))))))
set_option maxRecDepth 100000 in
theorem z_X_actionOf {x1 : Int32} {x1z : Int} {v0 : XT} {v0z : XZ}  {Q : Int32 → Prop} {Qz : (Int → Prop)} (e_x1 : x1.toInt = x1z) (e_v0 : (aX v0) = v0z) (h_Q : ∀ (a0 : Int32), Qz a0.toInt → Q a0) (h : Z_X_actionOf x1z v0z Qz) : P_X_actionOf x1 v0 Q := by
  subst e_x1
  subst e_v0
  unfold Z_X_actionOf at h
  unfold P_X_actionOf
  refine ⟨fun c16q => ?_, fun c16q => ?_⟩
  · have h := h.1 ((zt_eq rfl rfl).mp c16q)
    exact h_Q _ h
  · have h := h.2 (fun k => c16q ((zt_eq rfl rfl).mpr k))
    refine ⟨fun c15q => ?_, fun c15q => ?_⟩
    · have h := h.1 ((zt_eq rfl rfl).mp c15q)
      exact h_Q _ h
    · have h := h.2 (fun k => c15q ((zt_eq rfl rfl).mpr k))
      refine ⟨fun c14q => ?_, fun c14q => ?_⟩
      · have h := h.1 ((zt_eq rfl rfl).mp c14q)
        exact h_Q _ h
      · have h := h.2 (fun k => c14q ((zt_eq rfl rfl).mpr k))
        refine ⟨fun c13q => ?_, fun c13q => ?_⟩
        · have h := h.1 ((zt_eq rfl rfl).mp c13q)
          exact h_Q _ h
        · have h := h.2 (fun k => c13q ((zt_eq rfl rfl).mpr k))
          refine ⟨fun c12q => ?_, fun c12q => ?_⟩
          · have h := h.1 ((zt_eq rfl rfl).mp c12q)
            exact h_Q _ h
          · have h := h.2 (fun k => c12q ((zt_eq rfl rfl).mpr k))
            refine ⟨fun c11q => ?_, fun c11q => ?_⟩
            · have h := h.1 ((zt_eq rfl rfl).mp c11q)
              exact h_Q _ h
            · have h := h.2 (fun k => c11q ((zt_eq rfl rfl).mpr k))
              refine ⟨fun c10q => ?_, fun c10q => ?_⟩
              · have h := h.1 ((zt_eq rfl rfl).mp c10q)
                exact h_Q _ h
              · have h := h.2 (fun k => c10q ((zt_eq rfl rfl).mpr k))
                refine ⟨fun c9q => ?_, fun c9q => ?_⟩
                · have h := h.1 ((zt_eq rfl rfl).mp c9q)
                  exact h_Q _ h
                · have h := h.2 (fun k => c9q ((zt_eq rfl rfl).mpr k))
                  refine ⟨fun c8q => ?_, fun c8q => ?_⟩
                  · have h := h.1 ((zt_eq rfl rfl).mp c8q)
                    exact h_Q _ h
                  · have h := h.2 (fun k => c8q ((zt_eq rfl rfl).mpr k))
                    refine ⟨fun c7q => ?_, fun c7q => ?_⟩
                    · have h := h.1 ((zt_eq rfl rfl).mp c7q)
                      exact h_Q _ h
                    · have h := h.2 (fun k => c7q ((zt_eq rfl rfl).mpr k))
                      refine ⟨fun c6q => ?_, fun c6q => ?_⟩
                      · have h := h.1 ((zt_eq rfl rfl).mp c6q)
                        exact h_Q _ h
                      · have h := h.2 (fun k => c6q ((zt_eq rfl rfl).mpr k))
                        refine ⟨fun c5q => ?_, fun c5q => ?_⟩
                        · have h := h.1 ((zt_eq rfl rfl).mp c5q)
                          exact h_Q _ h
                        · have h := h.2 (fun k => c5q ((zt_eq rfl rfl).mpr k))
                          refine ⟨fun c4q => ?_, fun c4q => ?_⟩
                          · have h := h.1 ((zt_eq rfl rfl).mp c4q)
                            exact h_Q _ h
                          · have h := h.2 (fun k => c4q ((zt_eq rfl rfl).mpr k))
                            refine ⟨fun c3q => ?_, fun c3q => ?_⟩
                            · have h := h.1 ((zt_eq rfl rfl).mp c3q)
                              exact h_Q _ h
                            · have h := h.2 (fun k => c3q ((zt_eq rfl rfl).mpr k))
                              refine ⟨fun c2q => ?_, fun c2q => ?_⟩
                              · have h := h.1 ((zt_eq rfl rfl).mp c2q)
                                exact h_Q _ h
                              · have h := h.2 (fun k => c2q ((zt_eq rfl rfl).mpr k))
                                refine ⟨fun c1q => ?_, fun c1q => ?_⟩
                                · have h := h.1 ((zt_eq rfl rfl).mp c1q)
                                  exact h_Q _ h
                                · have h := h.2 (fun k => c1q ((zt_eq rfl rfl).mpr k))
                                  exact h_Q _ h

def ZL_X_digits_31 : Nat → Int → Int → Int → Int → Int → Int → Int → Int → Int → XZ → (Int → XZ → Prop) → Prop
  | 0, _, _, _, _, _, _, _, _, _, _, _ => False
  | n + 1, x1, x2, x3, y1, y2, y3, y4, y5, y6, v0, Q => ((y1 ≤ y6 → (Q y4 v0)) ∧ (¬ y1 ≤ y6 → ((¬ (Xz_wrong v0) = 0 → (Q y4 v0)) ∧ ((Xz_wrong v0) = 0 → (Z_X_sign v0 (fun r4_ => ((r4_ < 48 → (∀ v14_, v14_ = (Xz_set_wrong v0 1) → (zin (y6 + 1) ∧ (ZL_X_digits_31 n x1 x2 x3 y1 y2 y3 y4 (Int.tdiv y5 10) (y6 + 1) v14_ Q)))) ∧ (¬ r4_ < 48 → ((57 < r4_ → (∀ v23_, v23_ = (Xz_set_wrong v0 1) → (zin (y6 + 1) ∧ (ZL_X_digits_31 n x1 x2 x3 y1 y2 y3 y4 (Int.tdiv y5 10) (y6 + 1) v23_ Q)))) ∧ (¬ 57 < r4_ → zin (y4 * 10) ∧ zin (r4_ - 48) ∧ zin ((y4 * 10) + (r4_ - 48)) ∧ zin (((y4 * 10) + (r4_ - 48)) * (Int.tdiv y5 10)) ∧ ((y3 < (((y4 * 10) + (r4_ - 48)) * (Int.tdiv y5 10)) → (∀ v32_, v32_ = (Xz_set_wrong v0 1) → (zin (y6 + 1) ∧ (ZL_X_digits_31 n x1 x2 x3 y1 y2 y3 y4 (Int.tdiv y5 10) (y6 + 1) v32_ Q)))) ∧ (¬ y3 < (((y4 * 10) + (r4_ - 48)) * (Int.tdiv y5 10)) → zin ((((y4 * 10) + (r4_ - 48)) * (Int.tdiv y5 10)) + (Int.tdiv y5 10)) ∧ zin (((((y4 * 10) + (r4_ - 48)) * (Int.tdiv y5 10)) + (Int.tdiv y5 10)) - 1) ∧ ((y2 ≤ (((((y4 * 10) + (r4_ - 48)) * (Int.tdiv y5 10)) + (Int.tdiv y5 10)) - 1) → zin ((Xz_position v0) + 1) ∧ (∀ v41_, v41_ = (Xz_set_position v0 ((Xz_position v0) + 1)) → (zin (y6 + 1) ∧ (ZL_X_digits_31 n x1 x2 x3 y1 y2 y3 ((y4 * 10) + (r4_ - 48)) (Int.tdiv y5 10) (y6 + 1) v41_ Q)))) ∧ (¬ y2 ≤ (((((y4 * 10) + (r4_ - 48)) * (Int.tdiv y5 10)) + (Int.tdiv y5 10)) - 1) → (∀ v49_, v49_ = (Xz_set_wrong v0 1) → (zin (y6 + 1) ∧ (ZL_X_digits_31 n x1 x2 x3 y1 y2 y3 y4 (Int.tdiv y5 10) (y6 + 1) v49_ Q)))))))))))))))))
set_option maxRecDepth 100000 in
theorem zL_X_digits_31 (n : Nat) : ∀ {x1 : Int32} {x1z : Int} {x2 : Int32} {x2z : Int} {x3 : Int32} {x3z : Int} {y1 : Int32} {y1z : Int} {y2 : Int32} {y2z : Int} {y3 : Int32} {y3z : Int} {y4 : Int32} {y4z : Int} {y5 : Int32} {y5z : Int} {y6 : Int32} {y6z : Int} {v0 : XT} {v0z : XZ}  {Q : Int32 → XT → Prop} {Qz : (Int → XZ → Prop)} (e_x1 : x1.toInt = x1z) (e_x2 : x2.toInt = x2z) (e_x3 : x3.toInt = x3z) (e_y1 : y1.toInt = y1z) (e_y2 : y2.toInt = y2z) (e_y3 : y3.toInt = y3z) (e_y4 : y4.toInt = y4z) (e_y5 : y5.toInt = y5z) (e_y6 : y6.toInt = y6z) (e_v0 : (aX v0) = v0z) (h_Q : ∀ (a0 : Int32) (a1 : XT), Qz a0.toInt (aX a1) → Q a0 a1) (h : ZL_X_digits_31 n x1z x2z x3z y1z y2z y3z y4z y5z y6z v0z Qz), PL_X_digits_31 n x1 x2 x3 y1 y2 y3 y4 y5 y6 v0 Q := by
  induction n with
  | zero =>
    intro x1 x1z x2 x2z x3 x3z y1 y1z y2 y2z y3 y3z y4 y4z y5 y5z y6 y6z v0 v0z Q Qz e_x1 e_x2 e_x3 e_y1 e_y2 e_y3 e_y4 e_y5 e_y6 e_v0 h_Q h
    exact (h : False).elim
  | succ n ih =>
    intro x1 x1z x2 x2z x3 x3z y1 y1z y2 y2z y3 y3z y4 y4z y5 y5z y6 y6z v0 v0z Q Qz e_x1 e_x2 e_x3 e_y1 e_y2 e_y3 e_y4 e_y5 e_y6 e_v0 h_Q h
    subst e_x1
    subst e_x2
    subst e_x3
    subst e_y1
    subst e_y2
    subst e_y3
    subst e_y4
    subst e_y5
    subst e_y6
    subst e_v0
    rw [ZL_X_digits_31] at h
    rw [PL_X_digits_31]
    refine ⟨fun c18q => ?_, fun c18q => ?_⟩
    · have h := h.1 ((zt_le rfl rfl).mp c18q)
      exact h_Q _ _ h
    · have h := h.2 (fun k => c18q ((zt_le rfl rfl).mpr k))
      refine ⟨fun c17q => ?_, fun c17q => ?_⟩
      · have h := h.1 (fun k => c17q ((zt_eq rfl rfl).mpr k))
        exact h_Q _ _ h
      · have h := h.2 ((zt_eq rfl rfl).mp c17q)
        refine z_X_sign rfl (fun r4_ h => ?_) h
        refine ⟨fun c16q => ?_, fun c16q => ?_⟩
        · have h := h.1 ((zt_lt rfl rfl).mp c16q)
          intro v14_ ev14_
          have h := h (aX v14_) (by rw [ev14_]; exact rfl)
          obtain ⟨o1q, h⟩ := h
          refine ih rfl rfl rfl rfl rfl rfl rfl (show (((y5 / 10) : Int32)).toInt = ((Int.tdiv y5.toInt 10) : Int) from (zt_div rfl rfl (by decide))) (show (((y6 + 1) : Int32)).toInt = ((y6.toInt + 1) : Int) from (zt_add rfl rfl o1q)) rfl h_Q h
        · have h := h.2 (fun k => c16q ((zt_lt rfl rfl).mpr k))
          refine ⟨fun c15q => ?_, fun c15q => ?_⟩
          · have h := h.1 ((zt_lt rfl rfl).mp c15q)
            intro v23_ ev23_
            have h := h (aX v23_) (by rw [ev23_]; exact rfl)
            obtain ⟨o2q, h⟩ := h
            refine ih rfl rfl rfl rfl rfl rfl rfl (show (((y5 / 10) : Int32)).toInt = ((Int.tdiv y5.toInt 10) : Int) from (zt_div rfl rfl (by decide))) (show (((y6 + 1) : Int32)).toInt = ((y6.toInt + 1) : Int) from (zt_add rfl rfl o2q)) rfl h_Q h
          · have h := h.2 (fun k => c15q ((zt_lt rfl rfl).mpr k))
            obtain ⟨o3q, h⟩ := h
            obtain ⟨o4q, h⟩ := h
            obtain ⟨o5q, h⟩ := h
            obtain ⟨o6q, h⟩ := h
            refine ⟨fun c14q => ?_, fun c14q => ?_⟩
            · have h := h.1 ((zt_lt rfl (show (((((y4 * 10) + (r4_ - 48)) * (y5 / 10)) : Int32)).toInt = ((((y4.toInt * 10) + (r4_.toInt - 48)) * (Int.tdiv y5.toInt 10)) : Int) from (zt_mul (show ((((y4 * 10) + (r4_ - 48)) : Int32)).toInt = (((y4.toInt * 10) + (r4_.toInt - 48)) : Int) from (zt_add (show (((y4 * 10) : Int32)).toInt = ((y4.toInt * 10) : Int) from (zt_mul rfl rfl o3q)) (show (((r4_ - 48) : Int32)).toInt = ((r4_.toInt - 48) : Int) from (zt_sub rfl rfl o4q)) o5q)) (show (((y5 / 10) : Int32)).toInt = ((Int.tdiv y5.toInt 10) : Int) from (zt_div rfl rfl (by decide))) o6q))).mp c14q)
              intro v32_ ev32_
              have h := h (aX v32_) (by rw [ev32_]; exact rfl)
              obtain ⟨o7q, h⟩ := h
              refine ih rfl rfl rfl rfl rfl rfl rfl (show (((y5 / 10) : Int32)).toInt = ((Int.tdiv y5.toInt 10) : Int) from (zt_div rfl rfl (by decide))) (show (((y6 + 1) : Int32)).toInt = ((y6.toInt + 1) : Int) from (zt_add rfl rfl o7q)) rfl h_Q h
            · have h := h.2 (fun k => c14q ((zt_lt rfl (show (((((y4 * 10) + (r4_ - 48)) * (y5 / 10)) : Int32)).toInt = ((((y4.toInt * 10) + (r4_.toInt - 48)) * (Int.tdiv y5.toInt 10)) : Int) from (zt_mul (show ((((y4 * 10) + (r4_ - 48)) : Int32)).toInt = (((y4.toInt * 10) + (r4_.toInt - 48)) : Int) from (zt_add (show (((y4 * 10) : Int32)).toInt = ((y4.toInt * 10) : Int) from (zt_mul rfl rfl o3q)) (show (((r4_ - 48) : Int32)).toInt = ((r4_.toInt - 48) : Int) from (zt_sub rfl rfl o4q)) o5q)) (show (((y5 / 10) : Int32)).toInt = ((Int.tdiv y5.toInt 10) : Int) from (zt_div rfl rfl (by decide))) o6q))).mpr k))
              obtain ⟨o8q, h⟩ := h
              obtain ⟨o9q, h⟩ := h
              refine ⟨fun c13q => ?_, fun c13q => ?_⟩
              · have h := h.1 ((zt_le rfl (show (((((((y4 * 10) + (r4_ - 48)) * (y5 / 10)) + (y5 / 10)) - 1) : Int32)).toInt = ((((((y4.toInt * 10) + (r4_.toInt - 48)) * (Int.tdiv y5.toInt 10)) + (Int.tdiv y5.toInt 10)) - 1) : Int) from (zt_sub (show ((((((y4 * 10) + (r4_ - 48)) * (y5 / 10)) + (y5 / 10)) : Int32)).toInt = (((((y4.toInt * 10) + (r4_.toInt - 48)) * (Int.tdiv y5.toInt 10)) + (Int.tdiv y5.toInt 10)) : Int) from (zt_add (show (((((y4 * 10) + (r4_ - 48)) * (y5 / 10)) : Int32)).toInt = ((((y4.toInt * 10) + (r4_.toInt - 48)) * (Int.tdiv y5.toInt 10)) : Int) from (zt_mul (show ((((y4 * 10) + (r4_ - 48)) : Int32)).toInt = (((y4.toInt * 10) + (r4_.toInt - 48)) : Int) from (zt_add (show (((y4 * 10) : Int32)).toInt = ((y4.toInt * 10) : Int) from (zt_mul rfl rfl o3q)) (show (((r4_ - 48) : Int32)).toInt = ((r4_.toInt - 48) : Int) from (zt_sub rfl rfl o4q)) o5q)) (show (((y5 / 10) : Int32)).toInt = ((Int.tdiv y5.toInt 10) : Int) from (zt_div rfl rfl (by decide))) o6q)) (show (((y5 / 10) : Int32)).toInt = ((Int.tdiv y5.toInt 10) : Int) from (zt_div rfl rfl (by decide))) o8q)) rfl o9q))).mp c13q)
                obtain ⟨o10q, h⟩ := h
                intro v41_ ev41_
                have h := h (aX v41_) (by rw [ev41_]; exact (show (aX (X_set_position v0 ((X_position v0) + 1))) = (Xz_set_position (aX v0) ((Xz_position (aX v0)) + 1)) from (congrArg (fun k => Xz_set_position (aX v0) k) (show ((((X_position v0) + 1) : Int32)).toInt = (((Xz_position (aX v0)) + 1) : Int) from (zt_add rfl rfl o10q)))))
                obtain ⟨o11q, h⟩ := h
                refine ih rfl rfl rfl rfl rfl rfl (show ((((y4 * 10) + (r4_ - 48)) : Int32)).toInt = (((y4.toInt * 10) + (r4_.toInt - 48)) : Int) from (zt_add (show (((y4 * 10) : Int32)).toInt = ((y4.toInt * 10) : Int) from (zt_mul rfl rfl o3q)) (show (((r4_ - 48) : Int32)).toInt = ((r4_.toInt - 48) : Int) from (zt_sub rfl rfl o4q)) o5q)) (show (((y5 / 10) : Int32)).toInt = ((Int.tdiv y5.toInt 10) : Int) from (zt_div rfl rfl (by decide))) (show (((y6 + 1) : Int32)).toInt = ((y6.toInt + 1) : Int) from (zt_add rfl rfl o11q)) rfl h_Q h
              · have h := h.2 (fun k => c13q ((zt_le rfl (show (((((((y4 * 10) + (r4_ - 48)) * (y5 / 10)) + (y5 / 10)) - 1) : Int32)).toInt = ((((((y4.toInt * 10) + (r4_.toInt - 48)) * (Int.tdiv y5.toInt 10)) + (Int.tdiv y5.toInt 10)) - 1) : Int) from (zt_sub (show ((((((y4 * 10) + (r4_ - 48)) * (y5 / 10)) + (y5 / 10)) : Int32)).toInt = (((((y4.toInt * 10) + (r4_.toInt - 48)) * (Int.tdiv y5.toInt 10)) + (Int.tdiv y5.toInt 10)) : Int) from (zt_add (show (((((y4 * 10) + (r4_ - 48)) * (y5 / 10)) : Int32)).toInt = ((((y4.toInt * 10) + (r4_.toInt - 48)) * (Int.tdiv y5.toInt 10)) : Int) from (zt_mul (show ((((y4 * 10) + (r4_ - 48)) : Int32)).toInt = (((y4.toInt * 10) + (r4_.toInt - 48)) : Int) from (zt_add (show (((y4 * 10) : Int32)).toInt = ((y4.toInt * 10) : Int) from (zt_mul rfl rfl o3q)) (show (((r4_ - 48) : Int32)).toInt = ((r4_.toInt - 48) : Int) from (zt_sub rfl rfl o4q)) o5q)) (show (((y5 / 10) : Int32)).toInt = ((Int.tdiv y5.toInt 10) : Int) from (zt_div rfl rfl (by decide))) o6q)) (show (((y5 / 10) : Int32)).toInt = ((Int.tdiv y5.toInt 10) : Int) from (zt_div rfl rfl (by decide))) o8q)) rfl o9q))).mpr k))
                intro v49_ ev49_
                have h := h (aX v49_) (by rw [ev49_]; exact rfl)
                obtain ⟨o12q, h⟩ := h
                refine ih rfl rfl rfl rfl rfl rfl rfl (show (((y5 / 10) : Int32)).toInt = ((Int.tdiv y5.toInt 10) : Int) from (zt_div rfl rfl (by decide))) (show (((y6 + 1) : Int32)).toInt = ((y6.toInt + 1) : Int) from (zt_add rfl rfl o12q)) rfl h_Q h
def ZL_X_digits_9 : Nat → Int → Int → Int → Int → Int → Int → Int → Int → Int → XZ → (Int → XZ → Prop) → Prop
  | 0, _, _, _, _, _, _, _, _, _, _, _ => False
  | n + 1, x1, x2, x3, y1, y2, y3, y4, y5, y6, v0, Q => ((y1 ≤ y6 → (∃ n52_, (ZL_X_digits_31 n52_ x1 x2 x3 y1 y2 y3 y4 y5 0 v0 Q))) ∧ (¬ y1 ≤ y6 → zin (y5 * 10) ∧ zin (y6 + 1) ∧ (ZL_X_digits_9 n x1 x2 x3 y1 y2 y3 y4 (y5 * 10) (y6 + 1) v0 Q)))
set_option maxRecDepth 100000 in
theorem zL_X_digits_9 (n : Nat) : ∀ {x1 : Int32} {x1z : Int} {x2 : Int32} {x2z : Int} {x3 : Int32} {x3z : Int} {y1 : Int32} {y1z : Int} {y2 : Int32} {y2z : Int} {y3 : Int32} {y3z : Int} {y4 : Int32} {y4z : Int} {y5 : Int32} {y5z : Int} {y6 : Int32} {y6z : Int} {v0 : XT} {v0z : XZ}  {Q : Int32 → XT → Prop} {Qz : (Int → XZ → Prop)} (e_x1 : x1.toInt = x1z) (e_x2 : x2.toInt = x2z) (e_x3 : x3.toInt = x3z) (e_y1 : y1.toInt = y1z) (e_y2 : y2.toInt = y2z) (e_y3 : y3.toInt = y3z) (e_y4 : y4.toInt = y4z) (e_y5 : y5.toInt = y5z) (e_y6 : y6.toInt = y6z) (e_v0 : (aX v0) = v0z) (h_Q : ∀ (a0 : Int32) (a1 : XT), Qz a0.toInt (aX a1) → Q a0 a1) (h : ZL_X_digits_9 n x1z x2z x3z y1z y2z y3z y4z y5z y6z v0z Qz), PL_X_digits_9 n x1 x2 x3 y1 y2 y3 y4 y5 y6 v0 Q := by
  induction n with
  | zero =>
    intro x1 x1z x2 x2z x3 x3z y1 y1z y2 y2z y3 y3z y4 y4z y5 y5z y6 y6z v0 v0z Q Qz e_x1 e_x2 e_x3 e_y1 e_y2 e_y3 e_y4 e_y5 e_y6 e_v0 h_Q h
    exact (h : False).elim
  | succ n ih =>
    intro x1 x1z x2 x2z x3 x3z y1 y1z y2 y2z y3 y3z y4 y4z y5 y5z y6 y6z v0 v0z Q Qz e_x1 e_x2 e_x3 e_y1 e_y2 e_y3 e_y4 e_y5 e_y6 e_v0 h_Q h
    subst e_x1
    subst e_x2
    subst e_x3
    subst e_y1
    subst e_y2
    subst e_y3
    subst e_y4
    subst e_y5
    subst e_y6
    subst e_v0
    rw [ZL_X_digits_9] at h
    rw [PL_X_digits_9]
    refine ⟨fun c3q => ?_, fun c3q => ?_⟩
    · have h := h.1 ((zt_le rfl rfl).mp c3q)
      obtain ⟨n52_, h⟩ := h
      refine ⟨n52_, ?_⟩
      refine zL_X_digits_31 n52_ rfl rfl rfl rfl rfl rfl rfl rfl rfl rfl h_Q h
    · have h := h.2 (fun k => c3q ((zt_le rfl rfl).mpr k))
      obtain ⟨o1q, h⟩ := h
      obtain ⟨o2q, h⟩ := h
      refine ih rfl rfl rfl rfl rfl rfl rfl (show (((y5 * 10) : Int32)).toInt = ((y5.toInt * 10) : Int) from (zt_mul rfl rfl o1q)) (show (((y6 + 1) : Int32)).toInt = ((y6.toInt + 1) : Int) from (zt_add rfl rfl o2q)) rfl h_Q h
def Z_X_digits (x1 : Int) (x2 : Int) (x3 : Int) (v0 : XZ) (Q : (Int → XZ → Prop)) : Prop := (∃ n53_, (ZL_X_digits_9 n53_ x1 x2 x3 x1 x2 x3 0 1 0 v0 Q))
set_option maxRecDepth 100000 in
theorem z_X_digits {x1 : Int32} {x1z : Int} {x2 : Int32} {x2z : Int} {x3 : Int32} {x3z : Int} {v0 : XT} {v0z : XZ}  {Q : Int32 → XT → Prop} {Qz : (Int → XZ → Prop)} (e_x1 : x1.toInt = x1z) (e_x2 : x2.toInt = x2z) (e_x3 : x3.toInt = x3z) (e_v0 : (aX v0) = v0z) (h_Q : ∀ (a0 : Int32) (a1 : XT), Qz a0.toInt (aX a1) → Q a0 a1) (h : Z_X_digits x1z x2z x3z v0z Qz) : P_X_digits x1 x2 x3 v0 Q := by
  subst e_x1
  subst e_x2
  subst e_x3
  subst e_v0
  unfold Z_X_digits at h
  unfold P_X_digits
  obtain ⟨n53_, h⟩ := h
  refine ⟨n53_, ?_⟩
  refine zL_X_digits_9 n53_ rfl rfl rfl rfl rfl rfl rfl rfl rfl rfl h_Q h

def ZJ_X_plusOrMinus_31 (y1 : Int) (v0 : XZ) (Q : (Int → XZ → Prop)) : Prop := zin ((Xz_position v0) + 1) ∧ (∀ v20_, v20_ = (Xz_set_position v0 ((Xz_position v0) + 1)) → (((¬ y1 = 43 → (Z_T_asNumber 0 (fun r24_ => (Q r24_ v20_)))) ∧ (y1 = 43 → (Z_T_asNumber 1 (fun r28_ => (Q r28_ v20_)))))))
set_option maxRecDepth 100000 in
theorem zJ_X_plusOrMinus_31 {y1 : Int32} {y1z : Int} {v0 : XT} {v0z : XZ}  {Q : Int32 → XT → Prop} {Qz : (Int → XZ → Prop)} (e_y1 : y1.toInt = y1z) (e_v0 : (aX v0) = v0z) (h_Q : ∀ (a0 : Int32) (a1 : XT), Qz a0.toInt (aX a1) → Q a0 a1) (h : ZJ_X_plusOrMinus_31 y1z v0z Qz) : PJ_X_plusOrMinus_31 y1 v0 Q := by
  subst e_y1
  subst e_v0
  unfold ZJ_X_plusOrMinus_31 at h
  unfold PJ_X_plusOrMinus_31
  obtain ⟨o1q, h⟩ := h
  intro v20_ ev20_
  have h := h (aX v20_) (by rw [ev20_]; exact (show (aX (X_set_position v0 ((X_position v0) + 1))) = (Xz_set_position (aX v0) ((Xz_position (aX v0)) + 1)) from (congrArg (fun k => Xz_set_position (aX v0) k) (show ((((X_position v0) + 1) : Int32)).toInt = (((Xz_position (aX v0)) + 1) : Int) from (zt_add rfl rfl o1q)))))
  refine ⟨fun c2q => ?_, fun c2q => ?_⟩
  · have h := h.1 (fun k => c2q ((zt_eq rfl rfl).mpr k))
    refine z_T_asNumber rfl (fun r24_ h => ?_) h
    exact h_Q _ _ h
  · have h := h.2 ((zt_eq rfl rfl).mp c2q)
    refine z_T_asNumber rfl (fun r28_ h => ?_) h
    exact h_Q _ _ h
def Z_X_plusOrMinus (v0 : XZ) (Q : (Int → XZ → Prop)) : Prop := (Z_X_sign v0 (fun r1_ => ((¬ (Xz_wrong v0) = 0 → (∀ v11_, v11_ = (Xz_set_wrong v0 1) → ((Q 0 v11_)))) ∧ ((Xz_wrong v0) = 0 → ((r1_ = 43 → (ZJ_X_plusOrMinus_31 r1_ v0 Q)) ∧ (¬ r1_ = 43 → ((r1_ = 45 → (ZJ_X_plusOrMinus_31 r1_ v0 Q)) ∧ (¬ r1_ = 45 → (∀ v38_, v38_ = (Xz_set_wrong v0 1) → ((Q 0 v38_)))))))))))
set_option maxRecDepth 100000 in
theorem z_X_plusOrMinus {v0 : XT} {v0z : XZ}  {Q : Int32 → XT → Prop} {Qz : (Int → XZ → Prop)} (e_v0 : (aX v0) = v0z) (h_Q : ∀ (a0 : Int32) (a1 : XT), Qz a0.toInt (aX a1) → Q a0 a1) (h : Z_X_plusOrMinus v0z Qz) : P_X_plusOrMinus v0 Q := by
  subst e_v0
  unfold Z_X_plusOrMinus at h
  unfold P_X_plusOrMinus
  refine z_X_sign rfl (fun r1_ h => ?_) h
  refine ⟨fun c3q => ?_, fun c3q => ?_⟩
  · have h := h.1 (fun k => c3q ((zt_eq rfl rfl).mpr k))
    intro v11_ ev11_
    have h := h (aX v11_) (by rw [ev11_]; exact rfl)
    exact h_Q _ _ h
  · have h := h.2 ((zt_eq rfl rfl).mp c3q)
    refine ⟨fun c2q => ?_, fun c2q => ?_⟩
    · have h := h.1 ((zt_eq rfl rfl).mp c2q)
      refine zJ_X_plusOrMinus_31 rfl rfl h_Q h
    · have h := h.2 (fun k => c2q ((zt_eq rfl rfl).mpr k))
      refine ⟨fun c1q => ?_, fun c1q => ?_⟩
      · have h := h.1 ((zt_eq rfl rfl).mp c1q)
        refine zJ_X_plusOrMinus_31 rfl rfl h_Q h
      · have h := h.2 (fun k => c1q ((zt_eq rfl rfl).mpr k))
        intro v38_ ev38_
        have h := h (aX v38_) (by rw [ev38_]; exact rfl)
        exact h_Q _ _ h

def Z_X_understandRest (v0 : XZ) (Q : (XZ → Prop)) : Prop := ((¬ (Xz_action v0) = 0 → ((¬ (Xz_action v0) = 1 → ((¬ (Xz_action v0) = 2 → ((¬ (Xz_action v0) = 4 → (Q v0)) ∧ ((Xz_action v0) = 4 → (Z_X_plusOrMinus v0 (fun r5_ v9_ => (∀ v18_, v18_ = (Xz_set_b v9_ r5_) → ((Q v18_)))))))) ∧ ((Xz_action v0) = 2 → (Z_X_digits 2 1 50 v0 (fun r21_ v25_ => (∀ v34_, v34_ = (Xz_set_b v25_ r21_) → ((Q v34_)))))))) ∧ ((Xz_action v0) = 1 → (Z_X_digits 1 0 2 v0 (fun r37_ v41_ => (∀ v50_, v50_ = (Xz_set_b v41_ r37_) → ((Z_X_plusOrMinus v50_ (fun r53_ v57_ => (∀ v66_, v66_ = (Xz_set_c v57_ r53_) → ((Q v66_)))))))))))) ∧ ((Xz_action v0) = 0 → (Z_X_digits 2 0 99 v0 (fun r69_ v73_ => (∀ v82_, v82_ = (Xz_set_b v73_ r69_) → ((Z_X_digits 2 1 40 v82_ (fun r85_ v89_ => (∀ v98_, v98_ = (Xz_set_c v89_ r85_) → ((Q v98_)))))))))))
set_option maxRecDepth 100000 in
theorem z_X_understandRest {v0 : XT} {v0z : XZ}  {Q : XT → Prop} {Qz : (XZ → Prop)} (e_v0 : (aX v0) = v0z) (h_Q : ∀ (a0 : XT), Qz (aX a0) → Q a0) (h : Z_X_understandRest v0z Qz) : P_X_understandRest v0 Q := by
  subst e_v0
  unfold Z_X_understandRest at h
  unfold P_X_understandRest
  refine ⟨fun c4q => ?_, fun c4q => ?_⟩
  · have h := h.1 (fun k => c4q ((zt_eq rfl rfl).mpr k))
    refine ⟨fun c3q => ?_, fun c3q => ?_⟩
    · have h := h.1 (fun k => c3q ((zt_eq rfl rfl).mpr k))
      refine ⟨fun c2q => ?_, fun c2q => ?_⟩
      · have h := h.1 (fun k => c2q ((zt_eq rfl rfl).mpr k))
        refine ⟨fun c1q => ?_, fun c1q => ?_⟩
        · have h := h.1 (fun k => c1q ((zt_eq rfl rfl).mpr k))
          exact h_Q _ h
        · have h := h.2 ((zt_eq rfl rfl).mp c1q)
          refine z_X_plusOrMinus rfl (fun r5_ v9_ h => ?_) h
          intro v18_ ev18_
          have h := h (aX v18_) (by rw [ev18_]; exact rfl)
          exact h_Q _ h
      · have h := h.2 ((zt_eq rfl rfl).mp c2q)
        refine z_X_digits rfl rfl rfl rfl (fun r21_ v25_ h => ?_) h
        intro v34_ ev34_
        have h := h (aX v34_) (by rw [ev34_]; exact rfl)
        exact h_Q _ h
    · have h := h.2 ((zt_eq rfl rfl).mp c3q)
      refine z_X_digits rfl rfl rfl rfl (fun r37_ v41_ h => ?_) h
      intro v50_ ev50_
      have h := h (aX v50_) (by rw [ev50_]; exact rfl)
      refine z_X_plusOrMinus rfl (fun r53_ v57_ h => ?_) h
      intro v66_ ev66_
      have h := h (aX v66_) (by rw [ev66_]; exact rfl)
      exact h_Q _ h
  · have h := h.2 ((zt_eq rfl rfl).mp c4q)
    refine z_X_digits rfl rfl rfl rfl (fun r69_ v73_ h => ?_) h
    intro v82_ ev82_
    have h := h (aX v82_) (by rw [ev82_]; exact rfl)
    refine z_X_digits rfl rfl rfl rfl (fun r85_ v89_ h => ?_) h
    intro v98_ ev98_
    have h := h (aX v98_) (by rw [ev98_]; exact rfl)
    exact h_Q _ h

def Z_X_understand (v0 : XZ) (Q : (XZ → Prop)) : Prop := (Z_X_sign v0 (fun r1_ => (Z_X_actionOf r1_ v0 (fun r5_ => (∀ v14_, v14_ = (Xz_set_action v0 r5_) → (((¬ (Xz_action v14_) = (-1) → zin ((Xz_position v14_) + 1) ∧ (∀ v23_, v23_ = (Xz_set_position v14_ ((Xz_position v14_) + 1)) → ((∀ v31_, v31_ = (Xz_set_b v23_ 0) → ((∀ v39_, v39_ = (Xz_set_c v31_ 0) → (((¬ (Xz_action v39_) = 6 → ((¬ (Xz_action v39_) = 5 → (Z_X_digits 1 0 7 v39_ (fun r44_ v48_ => (∀ v57_, v57_ = (Xz_set_a v48_ r44_) → ((Z_X_understandRest v57_ (fun v64_ => (Q v64_)))))))) ∧ ((Xz_action v39_) = 5 → (Z_X_digits 1 0 5 v39_ (fun r68_ v72_ => (∀ v81_, v81_ = (Xz_set_a v72_ r68_) → ((Z_X_digits 4 0 4000 v81_ (fun r84_ v88_ => (∀ v97_, v97_ = (Xz_set_b v88_ r84_) → ((Q v97_)))))))))))) ∧ ((Xz_action v39_) = 6 → (Z_X_digits 2 1 99 v39_ (fun r100_ v104_ => (∀ v113_, v113_ = (Xz_set_a v104_ r100_) → ((Q v113_)))))))))))))) ∧ ((Xz_action v14_) = (-1) → (∀ v121_, v121_ = (Xz_set_wrong v14_ 1) → ((Q v121_)))))))))))
set_option maxRecDepth 100000 in
theorem z_X_understand {v0 : XT} {v0z : XZ}  {Q : XT → Prop} {Qz : (XZ → Prop)} (e_v0 : (aX v0) = v0z) (h_Q : ∀ (a0 : XT), Qz (aX a0) → Q a0) (h : Z_X_understand v0z Qz) : P_X_understand v0 Q := by
  subst e_v0
  unfold Z_X_understand at h
  unfold P_X_understand
  refine z_X_sign rfl (fun r1_ h => ?_) h
  refine z_X_actionOf rfl rfl (fun r5_ h => ?_) h
  intro v14_ ev14_
  have h := h (aX v14_) (by rw [ev14_]; exact rfl)
  refine ⟨fun c4q => ?_, fun c4q => ?_⟩
  · have h := h.1 (fun k => c4q ((zt_eq rfl rfl).mpr k))
    obtain ⟨o1q, h⟩ := h
    intro v23_ ev23_
    have h := h (aX v23_) (by rw [ev23_]; exact (show (aX (X_set_position v14_ ((X_position v14_) + 1))) = (Xz_set_position (aX v14_) ((Xz_position (aX v14_)) + 1)) from (congrArg (fun k => Xz_set_position (aX v14_) k) (show ((((X_position v14_) + 1) : Int32)).toInt = (((Xz_position (aX v14_)) + 1) : Int) from (zt_add rfl rfl o1q)))))
    intro v31_ ev31_
    have h := h (aX v31_) (by rw [ev31_]; exact rfl)
    intro v39_ ev39_
    have h := h (aX v39_) (by rw [ev39_]; exact rfl)
    refine ⟨fun c3q => ?_, fun c3q => ?_⟩
    · have h := h.1 (fun k => c3q ((zt_eq rfl rfl).mpr k))
      refine ⟨fun c2q => ?_, fun c2q => ?_⟩
      · have h := h.1 (fun k => c2q ((zt_eq rfl rfl).mpr k))
        refine z_X_digits rfl rfl rfl rfl (fun r44_ v48_ h => ?_) h
        intro v57_ ev57_
        have h := h (aX v57_) (by rw [ev57_]; exact rfl)
        refine z_X_understandRest rfl (fun v64_ h => ?_) h
        exact h_Q _ h
      · have h := h.2 ((zt_eq rfl rfl).mp c2q)
        refine z_X_digits rfl rfl rfl rfl (fun r68_ v72_ h => ?_) h
        intro v81_ ev81_
        have h := h (aX v81_) (by rw [ev81_]; exact rfl)
        refine z_X_digits rfl rfl rfl rfl (fun r84_ v88_ h => ?_) h
        intro v97_ ev97_
        have h := h (aX v97_) (by rw [ev97_]; exact rfl)
        exact h_Q _ h
    · have h := h.2 ((zt_eq rfl rfl).mp c3q)
      refine z_X_digits rfl rfl rfl rfl (fun r100_ v104_ h => ?_) h
      intro v113_ ev113_
      have h := h (aX v113_) (by rw [ev113_]; exact rfl)
      exact h_Q _ h
  · have h := h.2 ((zt_eq rfl rfl).mp c4q)
    intro v121_ ev121_
    have h := h (aX v121_) (by rw [ev121_]; exact rfl)
    exact h_Q _ h

def ZL_X_findError_6 : Nat → Int → XZ → (Int → XZ → Prop) → Prop
  | 0, _, _, _ => False
  | n + 1, y1, v0, Q => ((120 ≤ y1 → (((Xz_wrong v0) = 0 → (Q (-1) v0)) ∧ (¬ (Xz_wrong v0) = 0 → (Q (Xz_position v0) v0)))) ∧ (¬ 120 ≤ y1 → (Z_X_hasMore v0 (fun r11_ => ((r11_ = 0 → (((Xz_wrong v0) = 0 → (Q (-1) v0)) ∧ (¬ (Xz_wrong v0) = 0 → (Q (Xz_position v0) v0)))) ∧ (¬ r11_ = 0 → (Z_X_understand v0 (fun v21_ => zin (y1 + 1) ∧ (ZL_X_findError_6 n (y1 + 1) v21_ Q)))))))))
set_option maxRecDepth 100000 in
theorem zL_X_findError_6 (n : Nat) : ∀ {y1 : Int32} {y1z : Int} {v0 : XT} {v0z : XZ}  {Q : Int32 → XT → Prop} {Qz : (Int → XZ → Prop)} (e_y1 : y1.toInt = y1z) (e_v0 : (aX v0) = v0z) (h_Q : ∀ (a0 : Int32) (a1 : XT), Qz a0.toInt (aX a1) → Q a0 a1) (h : ZL_X_findError_6 n y1z v0z Qz), PL_X_findError_6 n y1 v0 Q := by
  induction n with
  | zero =>
    intro y1 y1z v0 v0z Q Qz e_y1 e_v0 h_Q h
    exact (h : False).elim
  | succ n ih =>
    intro y1 y1z v0 v0z Q Qz e_y1 e_v0 h_Q h
    subst e_y1
    subst e_v0
    rw [ZL_X_findError_6] at h
    rw [PL_X_findError_6]
    refine ⟨fun c5q => ?_, fun c5q => ?_⟩
    · have h := h.1 ((zt_le rfl rfl).mp c5q)
      refine ⟨fun c1q => ?_, fun c1q => ?_⟩
      · have h := h.1 ((zt_eq rfl rfl).mp c1q)
        exact h_Q _ _ h
      · have h := h.2 (fun k => c1q ((zt_eq rfl rfl).mpr k))
        exact h_Q _ _ h
    · have h := h.2 (fun k => c5q ((zt_le rfl rfl).mpr k))
      refine z_X_hasMore rfl (fun r11_ h => ?_) h
      refine ⟨fun c4q => ?_, fun c4q => ?_⟩
      · have h := h.1 ((zt_eq rfl rfl).mp c4q)
        refine ⟨fun c2q => ?_, fun c2q => ?_⟩
        · have h := h.1 ((zt_eq rfl rfl).mp c2q)
          exact h_Q _ _ h
        · have h := h.2 (fun k => c2q ((zt_eq rfl rfl).mpr k))
          exact h_Q _ _ h
      · have h := h.2 (fun k => c4q ((zt_eq rfl rfl).mpr k))
        refine z_X_understand rfl (fun v21_ h => ?_) h
        obtain ⟨o3q, h⟩ := h
        refine ih (show (((y1 + 1) : Int32)).toInt = ((y1.toInt + 1) : Int) from (zt_add rfl rfl o3q)) rfl h_Q h
def Z_X_findError (v0 : XZ) (Q : (Int → XZ → Prop)) : Prop := (Z_X_begin v0 (fun v5_ => (∃ n25_, (ZL_X_findError_6 n25_ 0 v5_ Q))))
set_option maxRecDepth 100000 in
theorem z_X_findError {v0 : XT} {v0z : XZ}  {Q : Int32 → XT → Prop} {Qz : (Int → XZ → Prop)} (e_v0 : (aX v0) = v0z) (h_Q : ∀ (a0 : Int32) (a1 : XT), Qz a0.toInt (aX a1) → Q a0 a1) (h : Z_X_findError v0z Qz) : P_X_findError v0 Q := by
  subst e_v0
  unfold Z_X_findError at h
  unfold P_X_findError
  refine z_X_begin rfl (fun v5_ h => ?_) h
  obtain ⟨n25_, h⟩ := h
  refine ⟨n25_, ?_⟩
  refine zL_X_findError_6 n25_ rfl rfl h_Q h

def ZL_X_runOn_8 : Nat → Int → Int → XZ → SZ → (Int → XZ → SZ → Prop) → Prop
  | 0, _, _, _, _, _ => False
  | n + 1, y2, y3, v0, v1, Q => ((120 ≤ y3 → (Q y2 v0 v1)) ∧ (¬ 120 ≤ y3 → (Z_X_hasMore v0 (fun r11_ => ((r11_ = 0 → (Q y2 v0 v1)) ∧ (¬ r11_ = 0 → (Z_X_understand v0 (fun v20_ => ((¬ (Xz_wrong v20_) = 0 → (Z_T_asNumber 0 (fun r26_ => zin (y2 + r26_) ∧ zin (y3 + 1) ∧ (ZL_X_runOn_8 n (y2 + r26_) (y3 + 1) v20_ v1 Q)))) ∧ ((Xz_wrong v20_) = 0 → (Z_S_attempt (Xz_action v20_) (Xz_a v20_) (Xz_b v20_) (Xz_c v20_) v1 (fun r30_ v34_ => ((¬ r30_ = 0 → (Z_T_asNumber 0 (fun r40_ => zin (y2 + r40_) ∧ zin (y3 + 1) ∧ (ZL_X_runOn_8 n (y2 + r40_) (y3 + 1) v20_ v34_ Q)))) ∧ (r30_ = 0 → (Z_T_asNumber 1 (fun r44_ => zin (y2 + r44_) ∧ zin (y3 + 1) ∧ (ZL_X_runOn_8 n (y2 + r44_) (y3 + 1) v20_ v34_ Q)))))))))))))))))
set_option maxRecDepth 100000 in
theorem zL_X_runOn_8 (n : Nat) : ∀ {y2 : Int32} {y2z : Int} {y3 : Int32} {y3z : Int} {v0 : XT} {v0z : XZ} {v1 : ST} {v1z : SZ}  {Q : Int32 → XT → ST → Prop} {Qz : (Int → XZ → SZ → Prop)} (e_y2 : y2.toInt = y2z) (e_y3 : y3.toInt = y3z) (e_v0 : (aX v0) = v0z) (e_v1 : (aS v1) = v1z) (h_Q : ∀ (a0 : Int32) (a1 : XT) (a2 : ST), Qz a0.toInt (aX a1) (aS a2) → Q a0 a1 a2) (h : ZL_X_runOn_8 n y2z y3z v0z v1z Qz), PL_X_runOn_8 n y2 y3 v0 v1 Q := by
  induction n with
  | zero =>
    intro y2 y2z y3 y3z v0 v0z v1 v1z Q Qz e_y2 e_y3 e_v0 e_v1 h_Q h
    exact (h : False).elim
  | succ n ih =>
    intro y2 y2z y3 y3z v0 v0z v1 v1z Q Qz e_y2 e_y3 e_v0 e_v1 h_Q h
    subst e_y2
    subst e_y3
    subst e_v0
    subst e_v1
    rw [ZL_X_runOn_8] at h
    rw [PL_X_runOn_8]
    refine ⟨fun c10q => ?_, fun c10q => ?_⟩
    · have h := h.1 ((zt_le rfl rfl).mp c10q)
      exact h_Q _ _ _ h
    · have h := h.2 (fun k => c10q ((zt_le rfl rfl).mpr k))
      refine z_X_hasMore rfl (fun r11_ h => ?_) h
      refine ⟨fun c9q => ?_, fun c9q => ?_⟩
      · have h := h.1 ((zt_eq rfl rfl).mp c9q)
        exact h_Q _ _ _ h
      · have h := h.2 (fun k => c9q ((zt_eq rfl rfl).mpr k))
        refine z_X_understand rfl (fun v20_ h => ?_) h
        refine ⟨fun c8q => ?_, fun c8q => ?_⟩
        · have h := h.1 (fun k => c8q ((zt_eq rfl rfl).mpr k))
          refine z_T_asNumber rfl (fun r26_ h => ?_) h
          obtain ⟨o1q, h⟩ := h
          obtain ⟨o2q, h⟩ := h
          refine ih (show (((y2 + r26_) : Int32)).toInt = ((y2.toInt + r26_.toInt) : Int) from (zt_add rfl rfl o1q)) (show (((y3 + 1) : Int32)).toInt = ((y3.toInt + 1) : Int) from (zt_add rfl rfl o2q)) rfl rfl h_Q h
        · have h := h.2 ((zt_eq rfl rfl).mp c8q)
          refine z_S_attempt rfl rfl rfl rfl rfl (fun r30_ v34_ h => ?_) h
          refine ⟨fun c7q => ?_, fun c7q => ?_⟩
          · have h := h.1 (fun k => c7q ((zt_eq rfl rfl).mpr k))
            refine z_T_asNumber rfl (fun r40_ h => ?_) h
            obtain ⟨o3q, h⟩ := h
            obtain ⟨o4q, h⟩ := h
            refine ih (show (((y2 + r40_) : Int32)).toInt = ((y2.toInt + r40_.toInt) : Int) from (zt_add rfl rfl o3q)) (show (((y3 + 1) : Int32)).toInt = ((y3.toInt + 1) : Int) from (zt_add rfl rfl o4q)) rfl rfl h_Q h
          · have h := h.2 ((zt_eq rfl rfl).mp c7q)
            refine z_T_asNumber rfl (fun r44_ h => ?_) h
            obtain ⟨o5q, h⟩ := h
            obtain ⟨o6q, h⟩ := h
            refine ih (show (((y2 + r44_) : Int32)).toInt = ((y2.toInt + r44_.toInt) : Int) from (zt_add rfl rfl o5q)) (show (((y3 + 1) : Int32)).toInt = ((y3.toInt + 1) : Int) from (zt_add rfl rfl o6q)) rfl rfl h_Q h
def Z_X_runOn (v0 : XZ) (v1 : SZ) (Q : (Int → XZ → SZ → Prop)) : Prop := (Z_X_begin v0 (fun v5_ => (∃ n48_, (ZL_X_runOn_8 n48_ 0 0 v5_ v1 Q))))
set_option maxRecDepth 100000 in
theorem z_X_runOn {v0 : XT} {v0z : XZ} {v1 : ST} {v1z : SZ}  {Q : Int32 → XT → ST → Prop} {Qz : (Int → XZ → SZ → Prop)} (e_v0 : (aX v0) = v0z) (e_v1 : (aS v1) = v1z) (h_Q : ∀ (a0 : Int32) (a1 : XT) (a2 : ST), Qz a0.toInt (aX a1) (aS a2) → Q a0 a1 a2) (h : Z_X_runOn v0z v1z Qz) : P_X_runOn v0 v1 Q := by
  subst e_v0
  subst e_v1
  unfold Z_X_runOn at h
  unfold P_X_runOn
  refine z_X_begin rfl (fun v5_ h => ?_) h
  obtain ⟨n48_, h⟩ := h
  refine ⟨n48_, ?_⟩
  refine zL_X_runOn_8 n48_ rfl rfl rfl rfl h_Q h

def Z_H_forget (v0 : HZ) (Q : (HZ → Prop)) : Prop := (∀ v6_, v6_ = (Hz_set_next v0 0) → ((∀ v14_, v14_ = (Hz_set_count v6_ 0) → ((Q v14_)))))
set_option maxRecDepth 100000 in
theorem z_H_forget {v0 : HT} {v0z : HZ}  {Q : HT → Prop} {Qz : (HZ → Prop)} (e_v0 : (aH v0) = v0z) (h_Q : ∀ (a0 : HT), Qz (aH a0) → Q a0) (h : Z_H_forget v0z Qz) : P_H_forget v0 Q := by
  subst e_v0
  unfold Z_H_forget at h
  unfold P_H_forget
  intro v6_ ev6_
  have h := h (aH v6_) (by rw [ev6_]; exact rfl)
  intro v14_ ev14_
  have h := h (aH v14_) (by rw [ev14_]; exact rfl)
  exact h_Q _ h

def Z_H_stateAt (x1 : Int) (v0 : HZ) (Q : (Option Nat → Prop)) : Prop := ((x1 < 0 → (Q none)) ∧ (¬ x1 < 0 → ((14 ≤ x1 → (Q none)) ∧ (¬ 14 ≤ x1 → ((0 : Int) ≤ x1 ∧ (x1 : Int) < 14) ∧ ((Q (some (Int.toNat x1))))))))
set_option maxRecDepth 100000 in
theorem z_H_stateAt {x1 : Int32} {x1z : Int} {v0 : HT} {v0z : HZ}  {Q : Option Nat → Prop} {Qz : (Option Nat → Prop)} (e_x1 : x1.toInt = x1z) (e_v0 : (aH v0) = v0z) (h_Q : ∀ (a0 : Option Nat), Qz a0 → Q a0) (h : Z_H_stateAt x1z v0z Qz) : P_H_stateAt x1 v0 Q := by
  subst e_x1
  subst e_v0
  unfold Z_H_stateAt at h
  unfold P_H_stateAt
  refine ⟨fun c3q => ?_, fun c3q => ?_⟩
  · have h := h.1 ((zt_lt rfl rfl).mp c3q)
    exact h_Q _ h
  · have h := h.2 (fun k => c3q ((zt_lt rfl rfl).mpr k))
    refine ⟨fun c2q => ?_, fun c2q => ?_⟩
    · have h := h.1 ((zt_le rfl rfl).mp c2q)
      exact h_Q _ h
    · have h := h.2 (fun k => c2q ((zt_le rfl rfl).mpr k))
      obtain ⟨i1q, h⟩ := h
      refine ⟨zt_in rfl i1q, ?_⟩
      exact h_Q _ h

def ZJ_H_remember_18 (v1 : SZ) (v0 : HZ) (Q : (HZ → Prop)) : Prop := zin ((Hz_next v0) + 1) ∧ (∀ v14_, v14_ = (Hz_set_next v0 (Int.tmod ((Hz_next v0) + 1) 14)) → (zin ((Hz_count v14_) + 1) ∧ (∀ v23_, v23_ = (Hz_set_count v14_ (zminZ ((Hz_count v14_) + 1) 14)) → ((Q v23_)))))
set_option maxRecDepth 100000 in
theorem zJ_H_remember_18 {v1 : ST} {v1z : SZ} {v0 : HT} {v0z : HZ}  {Q : HT → Prop} {Qz : (HZ → Prop)} (e_v1 : (aS v1) = v1z) (e_v0 : (aH v0) = v0z) (h_Q : ∀ (a0 : HT), Qz (aH a0) → Q a0) (h : ZJ_H_remember_18 v1z v0z Qz) : PJ_H_remember_18 v1 v0 Q := by
  subst e_v1
  subst e_v0
  unfold ZJ_H_remember_18 at h
  unfold PJ_H_remember_18
  obtain ⟨o1q, h⟩ := h
  intro v14_ ev14_
  have h := h (aH v14_) (by rw [ev14_]; exact (show (aH (H_set_next v0 (zrem ((H_next v0) + 1) 14))) = (Hz_set_next (aH v0) (Int.tmod ((Hz_next (aH v0)) + 1) 14)) from (congrArg (fun k => Hz_set_next (aH v0) k) (show (((zrem ((H_next v0) + 1) 14) : Int32)).toInt = ((Int.tmod ((Hz_next (aH v0)) + 1) 14) : Int) from (zt_rem (show ((((H_next v0) + 1) : Int32)).toInt = (((Hz_next (aH v0)) + 1) : Int) from (zt_add rfl rfl o1q)) rfl (by decide) (by decide))))))
  obtain ⟨o2q, h⟩ := h
  intro v23_ ev23_
  have h := h (aH v23_) (by rw [ev23_]; exact (show (aH (H_set_count v14_ (zmin ((H_count v14_) + 1) 14))) = (Hz_set_count (aH v14_) (zminZ ((Hz_count (aH v14_)) + 1) 14)) from (congrArg (fun k => Hz_set_count (aH v14_) k) (show (((zmin ((H_count v14_) + 1) 14) : Int32)).toInt = ((zminZ ((Hz_count (aH v14_)) + 1) 14) : Int) from (zt_min (show ((((H_count v14_) + 1) : Int32)).toInt = (((Hz_count (aH v14_)) + 1) : Int) from (zt_add rfl rfl o2q)) rfl)))))
  exact h_Q _ h
def Z_H_remember (v0 : HZ) (v1 : SZ) (Q : (HZ → Prop)) : Prop := (Z_H_stateAt (Hz_next v0) v0 (fun r5_ => ((r5_ = none → (ZJ_H_remember_18 v1 v0 Q)) ∧ (∀ i7_, r5_ = some i7_ → (Z_S_takeOver (Hz_states v0 i7_) v1 (fun v31_ => (∀ v36_, v36_ = (Hz_seti_states v0 i7_ v31_) → ((ZJ_H_remember_18 v1 v36_ Q)))))))))
set_option maxRecDepth 100000 in
theorem z_H_remember {v0 : HT} {v0z : HZ} {v1 : ST} {v1z : SZ}  {Q : HT → Prop} {Qz : (HZ → Prop)} (e_v0 : (aH v0) = v0z) (e_v1 : (aS v1) = v1z) (h_Q : ∀ (a0 : HT), Qz (aH a0) → Q a0) (h : Z_H_remember v0z v1z Qz) : P_H_remember v0 v1 Q := by
  subst e_v0
  subst e_v1
  unfold Z_H_remember at h
  unfold P_H_remember
  refine z_H_stateAt rfl rfl (fun r5_ h => ?_) h
  refine ⟨fun c => ?_, fun i7_ c => ?_⟩
  · have h := h.1 c
    refine zJ_H_remember_18 rfl rfl h_Q h
  · have h := h.2 i7_ c
    refine z_S_takeOver rfl rfl (fun v31_ h => ?_) h
    intro v36_ ev36_
    have h := h (aH v36_) (by rw [ev36_]; exact (show (aH (H_seti_states v0 i7_ v31_)) = (Hz_seti_states (aH v0) i7_ (aS v31_)) from (zt_seti_H_states rfl rfl rfl)))
    refine zJ_H_remember_18 rfl rfl h_Q h

def Z_H_takeBack (v0 : HZ) (v1 : SZ) (Q : (Int → HZ → SZ → Prop)) : Prop := zin ((Hz_next v0) + 14) ∧ zin (((Hz_next v0) + 14) - 1) ∧ (∀ v6_, v6_ = (Hz_set_next v0 (Int.tmod (((Hz_next v0) + 14) - 1) 14)) → ((Z_H_stateAt (Hz_next v6_) v6_ (fun r14_ => ((r14_ = none → False) ∧ (∀ i16_, r14_ = some i16_ → (Z_S_takeOver v1 (Hz_states v6_ i16_) (fun v22_ => zin ((Hz_count v6_) - 1) ∧ (∀ v32_, v32_ = (Hz_set_count v6_ ((Hz_count v6_) - 1)) → ((Q (Hz_count v32_) v32_ v22_)))))))))))
set_option maxRecDepth 100000 in
theorem z_H_takeBack {v0 : HT} {v0z : HZ} {v1 : ST} {v1z : SZ}  {Q : Int32 → HT → ST → Prop} {Qz : (Int → HZ → SZ → Prop)} (e_v0 : (aH v0) = v0z) (e_v1 : (aS v1) = v1z) (h_Q : ∀ (a0 : Int32) (a1 : HT) (a2 : ST), Qz a0.toInt (aH a1) (aS a2) → Q a0 a1 a2) (h : Z_H_takeBack v0z v1z Qz) : P_H_takeBack v0 v1 Q := by
  subst e_v0
  subst e_v1
  unfold Z_H_takeBack at h
  unfold P_H_takeBack
  obtain ⟨o1q, h⟩ := h
  obtain ⟨o2q, h⟩ := h
  intro v6_ ev6_
  have h := h (aH v6_) (by rw [ev6_]; exact (show (aH (H_set_next v0 (zrem (((H_next v0) + 14) - 1) 14))) = (Hz_set_next (aH v0) (Int.tmod (((Hz_next (aH v0)) + 14) - 1) 14)) from (congrArg (fun k => Hz_set_next (aH v0) k) (show (((zrem (((H_next v0) + 14) - 1) 14) : Int32)).toInt = ((Int.tmod (((Hz_next (aH v0)) + 14) - 1) 14) : Int) from (zt_rem (show (((((H_next v0) + 14) - 1) : Int32)).toInt = ((((Hz_next (aH v0)) + 14) - 1) : Int) from (zt_sub (show ((((H_next v0) + 14) : Int32)).toInt = (((Hz_next (aH v0)) + 14) : Int) from (zt_add rfl rfl o1q)) rfl o2q)) rfl (by decide) (by decide))))))
  refine z_H_stateAt rfl rfl (fun r14_ h => ?_) h
  refine ⟨fun c => ?_, fun i16_ c => ?_⟩
  · have h := h.1 c
    exact h
  · have h := h.2 i16_ c
    refine z_S_takeOver rfl rfl (fun v22_ h => ?_) h
    obtain ⟨o3q, h⟩ := h
    intro v32_ ev32_
    have h := h (aH v32_) (by rw [ev32_]; exact (show (aH (H_set_count v6_ ((H_count v6_) - 1))) = (Hz_set_count (aH v6_) ((Hz_count (aH v6_)) - 1)) from (congrArg (fun k => Hz_set_count (aH v6_) k) (show ((((H_count v6_) - 1) : Int32)).toInt = (((Hz_count (aH v6_)) - 1) : Int) from (zt_sub rfl rfl o3q)))))
    exact h_Q _ _ _ h

def Z_T_append (x1 : Int) (v0 : TZ) (X : (String → TZ → Prop)) (Q : (Int → TZ → Prop)) : Prop := (Z_T_isIn x1 0 255 (fun r1_ => ((¬ r1_ = 0 → (Z_X_isFull (Tz_text v0) (fun r6_ => ((r6_ = 0 → (Z_X_add (zi2cZ x1) (Tz_text v0) (fun r11_ v15_ => (∀ v20_, v20_ = (Tz_set_text v0 v15_) → ((Q r11_ v20_)))))) ∧ (¬ r6_ = 0 → (X ("java/lang/IllegalStateException") v0)))))) ∧ (r1_ = 0 → (X ("java/lang/IllegalArgumentException") v0)))))
set_option maxRecDepth 100000 in
theorem z_T_append {x1 : Int32} {x1z : Int} {v0 : TT} {v0z : TZ}  {X : String → TT → Prop} {Xz : (String → TZ → Prop)} {Q : Int32 → TT → Prop} {Qz : (Int → TZ → Prop)} (e_x1 : x1.toInt = x1z) (e_v0 : (aT v0) = v0z) (h_X : ∀ (a0 : String) (a1 : TT), Xz a0 (aT a1) → X a0 a1) (h_Q : ∀ (a0 : Int32) (a1 : TT), Qz a0.toInt (aT a1) → Q a0 a1) (h : Z_T_append x1z v0z Xz Qz) : P_T_append x1 v0 X Q := by
  subst e_x1
  subst e_v0
  unfold Z_T_append at h
  unfold P_T_append
  refine z_T_isIn rfl rfl rfl (fun r1_ h => ?_) h
  refine ⟨fun c2q => ?_, fun c2q => ?_⟩
  · have h := h.1 (fun k => c2q ((zt_eq rfl rfl).mpr k))
    refine z_X_isFull rfl (fun r6_ h => ?_) h
    refine ⟨fun c1q => ?_, fun c1q => ?_⟩
    · have h := h.1 ((zt_eq rfl rfl).mp c1q)
      refine z_X_add (show (((zi2c x1) : Int32)).toInt = ((zi2cZ x1.toInt) : Int) from (zt_zi2c rfl)) rfl (fun r11_ v15_ h => ?_) h
      intro v20_ ev20_
      have h := h (aT v20_) (by rw [ev20_]; exact rfl)
      exact h_Q _ _ h
    · have h := h.2 (fun k => c1q ((zt_eq rfl rfl).mpr k))
      exact h_X _ _ h
  · have h := h.2 ((zt_eq rfl rfl).mp c2q)
    exact h_X _ _ h

def Z_T_clearText (v0 : TZ) (Q : (Int → TZ → Prop)) : Prop := (Z_X_empty (Tz_text v0) (fun r1_ v5_ => (∀ v10_, v10_ = (Tz_set_text v0 v5_) → ((Q r1_ v10_)))))
set_option maxRecDepth 100000 in
theorem z_T_clearText {v0 : TT} {v0z : TZ}  {Q : Int32 → TT → Prop} {Qz : (Int → TZ → Prop)} (e_v0 : (aT v0) = v0z) (h_Q : ∀ (a0 : Int32) (a1 : TT), Qz a0.toInt (aT a1) → Q a0 a1) (h : Z_T_clearText v0z Qz) : P_T_clearText v0 Q := by
  subst e_v0
  unfold Z_T_clearText at h
  unfold P_T_clearText
  refine z_X_empty rfl (fun r1_ v5_ h => ?_) h
  intro v10_ ev10_
  have h := h (aT v10_) (by rw [ev10_]; exact rfl)
  exact h_Q _ _ h

def Z_T_errorPosition (v0 : TZ) (Q : (Int → TZ → Prop)) : Prop := (Z_X_findError (Tz_text v0) (fun r1_ v5_ => (∀ v10_, v10_ = (Tz_set_text v0 v5_) → ((Q r1_ v10_)))))
set_option maxRecDepth 100000 in
theorem z_T_errorPosition {v0 : TT} {v0z : TZ}  {Q : Int32 → TT → Prop} {Qz : (Int → TZ → Prop)} (e_v0 : (aT v0) = v0z) (h_Q : ∀ (a0 : Int32) (a1 : TT), Qz a0.toInt (aT a1) → Q a0 a1) (h : Z_T_errorPosition v0z Qz) : P_T_errorPosition v0 Q := by
  subst e_v0
  unfold Z_T_errorPosition at h
  unfold P_T_errorPosition
  refine z_X_findError rfl (fun r1_ v5_ h => ?_) h
  intro v10_ ev10_
  have h := h (aT v10_) (by rw [ev10_]; exact rfl)
  exact h_Q _ _ h

def ZL_T_load_37 : Nat → Int → TZ → (String → TZ → Prop) → (Int → TZ → Prop) → Prop
  | 0, _, _, _, _ => False
  | n + 1, y1, v0, X, Q => ((2 ≤ y1 → (Z_X_runOn (Tz_text v0) (Tz_state v0) (fun r39_ v43_ v44_ => (∀ v52_, v52_ = (Tz_set_text v0 v43_) → ((∀ v57_, v57_ = (Tz_set_state v52_ v44_) → ((Q r39_ v57_)))))))) ∧ (¬ 2 ≤ y1 → ((0 : Int) ≤ y1 ∧ (y1 : Int) < 2) ∧ ((∀ v67_, v67_ = (Tz_set_filled v0 (updz (Tz_filled v0) (Int.toNat y1) 0)) → (zin (y1 + 1) ∧ (ZL_T_load_37 n (y1 + 1) v67_ X Q))))))
set_option maxRecDepth 100000 in
theorem zL_T_load_37 (n : Nat) : ∀ {y1 : Int32} {y1z : Int} {v0 : TT} {v0z : TZ}  {X : String → TT → Prop} {Xz : (String → TZ → Prop)} {Q : Int32 → TT → Prop} {Qz : (Int → TZ → Prop)} (e_y1 : y1.toInt = y1z) (e_v0 : (aT v0) = v0z) (h_X : ∀ (a0 : String) (a1 : TT), Xz a0 (aT a1) → X a0 a1) (h_Q : ∀ (a0 : Int32) (a1 : TT), Qz a0.toInt (aT a1) → Q a0 a1) (h : ZL_T_load_37 n y1z v0z Xz Qz), PL_T_load_37 n y1 v0 X Q := by
  induction n with
  | zero =>
    intro y1 y1z v0 v0z X Xz Q Qz e_y1 e_v0 h_X h_Q h
    exact (h : False).elim
  | succ n ih =>
    intro y1 y1z v0 v0z X Xz Q Qz e_y1 e_v0 h_X h_Q h
    subst e_y1
    subst e_v0
    rw [ZL_T_load_37] at h
    rw [PL_T_load_37]
    refine ⟨fun c3q => ?_, fun c3q => ?_⟩
    · have h := h.1 ((zt_le rfl rfl).mp c3q)
      refine z_X_runOn rfl rfl (fun r39_ v43_ v44_ h => ?_) h
      intro v52_ ev52_
      have h := h (aT v52_) (by rw [ev52_]; exact rfl)
      intro v57_ ev57_
      have h := h (aT v57_) (by rw [ev57_]; exact rfl)
      exact h_Q _ _ h
    · have h := h.2 (fun k => c3q ((zt_le rfl rfl).mpr k))
      obtain ⟨i1q, h⟩ := h
      refine ⟨zt_in rfl i1q, ?_⟩
      intro v67_ ev67_
      have h := h (aT v67_) (by rw [ev67_]; exact (show (aT (T_set_filled v0 (upd (T_filled v0) (Int32.toNatClampNeg y1) 0))) = (Tz_set_filled (aT v0) (updz (Tz_filled (aT v0)) (Int.toNat y1.toInt) 0)) from (congrArg (fun k => Tz_set_filled (aT v0) k) (show (aA (upd (T_filled v0) (Int32.toNatClampNeg y1) 0)) = (updz (Tz_filled (aT v0)) (Int.toNat y1.toInt) 0) from (zt_upd rfl rfl rfl)))))
      obtain ⟨o2q, h⟩ := h
      refine ih (show (((y1 + 1) : Int32)).toInt = ((y1.toInt + 1) : Int) from (zt_add rfl rfl o2q)) rfl h_X h_Q h
def Z_T_load (v0 : TZ) (X : (String → TZ → Prop)) (Q : (Int → TZ → Prop)) : Prop := (Z_X_findError (Tz_text v0) (fun r1_ v5_ => (∀ v10_, v10_ = (Tz_set_text v0 v5_) → (((r1_ = (-1) → (Z_S_renew (Tz_state v10_) (fun v18_ => (∀ v23_, v23_ = (Tz_set_state v10_ v18_) → ((Z_H_forget (Tz_history v23_) (fun v30_ => (∀ v35_, v35_ = (Tz_set_history v23_ v30_) → ((∃ n70_, (ZL_T_load_37 n70_ 0 v35_ X Q))))))))))) ∧ (¬ r1_ = (-1) → (X ("java/lang/IllegalStateException") v10_)))))))
set_option maxRecDepth 100000 in
theorem z_T_load {v0 : TT} {v0z : TZ}  {X : String → TT → Prop} {Xz : (String → TZ → Prop)} {Q : Int32 → TT → Prop} {Qz : (Int → TZ → Prop)} (e_v0 : (aT v0) = v0z) (h_X : ∀ (a0 : String) (a1 : TT), Xz a0 (aT a1) → X a0 a1) (h_Q : ∀ (a0 : Int32) (a1 : TT), Qz a0.toInt (aT a1) → Q a0 a1) (h : Z_T_load v0z Xz Qz) : P_T_load v0 X Q := by
  subst e_v0
  unfold Z_T_load at h
  unfold P_T_load
  refine z_X_findError rfl (fun r1_ v5_ h => ?_) h
  intro v10_ ev10_
  have h := h (aT v10_) (by rw [ev10_]; exact rfl)
  refine ⟨fun c1q => ?_, fun c1q => ?_⟩
  · have h := h.1 ((zt_eq rfl rfl).mp c1q)
    refine z_S_renew rfl (fun v18_ h => ?_) h
    intro v23_ ev23_
    have h := h (aT v23_) (by rw [ev23_]; exact rfl)
    refine z_H_forget rfl (fun v30_ h => ?_) h
    intro v35_ ev35_
    have h := h (aT v35_) (by rw [ev35_]; exact rfl)
    obtain ⟨n70_, h⟩ := h
    refine ⟨n70_, ?_⟩
    refine zL_T_load_37 n70_ rfl rfl h_X h_Q h
  · have h := h.2 (fun k => c1q ((zt_eq rfl rfl).mpr k))
    exact h_X _ _ h

def Z_T_about (x1 : Int) (v0 : TZ) (X : (String → Prop)) (Q : (Int → Prop)) : Prop := (Z_T_isIn x1 0 11 (fun r1_ => ((¬ r1_ = 0 → (Z_S_number x1 (Tz_state v0) (fun r6_ => (Q r6_)))) ∧ (r1_ = 0 → (X ("java/lang/IllegalArgumentException"))))))
set_option maxRecDepth 100000 in
theorem z_T_about {x1 : Int32} {x1z : Int} {v0 : TT} {v0z : TZ}  {X : String → Prop} {Xz : (String → Prop)} {Q : Int32 → Prop} {Qz : (Int → Prop)} (e_x1 : x1.toInt = x1z) (e_v0 : (aT v0) = v0z) (h_X : ∀ (a0 : String), Xz a0 → X a0) (h_Q : ∀ (a0 : Int32), Qz a0.toInt → Q a0) (h : Z_T_about x1z v0z Xz Qz) : P_T_about x1 v0 X Q := by
  subst e_x1
  subst e_v0
  unfold Z_T_about at h
  unfold P_T_about
  refine z_T_isIn rfl rfl rfl (fun r1_ h => ?_) h
  refine ⟨fun c1q => ?_, fun c1q => ?_⟩
  · have h := h.1 (fun k => c1q ((zt_eq rfl rfl).mpr k))
    refine z_S_number rfl rfl (fun r6_ h => ?_) h
    exact h_Q _ h
  · have h := h.2 ((zt_eq rfl rfl).mp c1q)
    exact h_X _ h

def Z_T_rowOf (x1 : Int) (x2 : Int) (v0 : TZ) (X : (String → Prop)) (Q : (Int → Prop)) : Prop := (Z_L_hasRow x1 (Sz_log (Tz_state v0)) (fun r1_ => ((¬ r1_ = 0 → (Z_T_isIn x2 0 5 (fun r6_ => ((¬ r6_ = 0 → ((¬ x2 = 5 → (Z_L_rowNumber x1 x2 (Sz_log (Tz_state v0)) (fun r12_ => (Q r12_)))) ∧ (x2 = 5 → (Z_S_holdersUpTo x1 (Tz_state v0) (fun r16_ => (Q r16_)))))) ∧ (r6_ = 0 → (X ("java/lang/IllegalArgumentException"))))))) ∧ (r1_ = 0 → (X ("java/lang/IndexOutOfBoundsException"))))))
set_option maxRecDepth 100000 in
theorem z_T_rowOf {x1 : Int32} {x1z : Int} {x2 : Int32} {x2z : Int} {v0 : TT} {v0z : TZ}  {X : String → Prop} {Xz : (String → Prop)} {Q : Int32 → Prop} {Qz : (Int → Prop)} (e_x1 : x1.toInt = x1z) (e_x2 : x2.toInt = x2z) (e_v0 : (aT v0) = v0z) (h_X : ∀ (a0 : String), Xz a0 → X a0) (h_Q : ∀ (a0 : Int32), Qz a0.toInt → Q a0) (h : Z_T_rowOf x1z x2z v0z Xz Qz) : P_T_rowOf x1 x2 v0 X Q := by
  subst e_x1
  subst e_x2
  subst e_v0
  unfold Z_T_rowOf at h
  unfold P_T_rowOf
  refine z_L_hasRow rfl rfl (fun r1_ h => ?_) h
  refine ⟨fun c3q => ?_, fun c3q => ?_⟩
  · have h := h.1 (fun k => c3q ((zt_eq rfl rfl).mpr k))
    refine z_T_isIn rfl rfl rfl (fun r6_ h => ?_) h
    refine ⟨fun c2q => ?_, fun c2q => ?_⟩
    · have h := h.1 (fun k => c2q ((zt_eq rfl rfl).mpr k))
      refine ⟨fun c1q => ?_, fun c1q => ?_⟩
      · have h := h.1 (fun k => c1q ((zt_eq rfl rfl).mpr k))
        refine z_L_rowNumber rfl rfl rfl (fun r12_ h => ?_) h
        exact h_Q _ h
      · have h := h.2 ((zt_eq rfl rfl).mp c1q)
        refine z_S_holdersUpTo rfl rfl (fun r16_ h => ?_) h
        exact h_Q _ h
    · have h := h.2 ((zt_eq rfl rfl).mp c2q)
      exact h_X _ h
  · have h := h.2 ((zt_eq rfl rfl).mp c3q)
    exact h_X _ h

def Z_T_segmentOf (x1 : Int) (x2 : Int) (v0 : TZ) (X : (String → Prop)) (Q : (Int → Prop)) : Prop := (Z_L_segments (Sz_log (Tz_state v0)) (fun r1_ => zin (r1_ - 1) ∧ (Z_T_isIn x1 0 (r1_ - 1) (fun r5_ => ((¬ r5_ = 0 → (Z_T_isIn x2 0 5 (fun r10_ => ((¬ r10_ = 0 → (Z_S_segmentNumber x1 x2 (Tz_state v0) (fun r15_ => (Q r15_)))) ∧ (r10_ = 0 → (X ("java/lang/IllegalArgumentException"))))))) ∧ (r5_ = 0 → (X ("java/lang/IndexOutOfBoundsException"))))))))
set_option maxRecDepth 100000 in
theorem z_T_segmentOf {x1 : Int32} {x1z : Int} {x2 : Int32} {x2z : Int} {v0 : TT} {v0z : TZ}  {X : String → Prop} {Xz : (String → Prop)} {Q : Int32 → Prop} {Qz : (Int → Prop)} (e_x1 : x1.toInt = x1z) (e_x2 : x2.toInt = x2z) (e_v0 : (aT v0) = v0z) (h_X : ∀ (a0 : String), Xz a0 → X a0) (h_Q : ∀ (a0 : Int32), Qz a0.toInt → Q a0) (h : Z_T_segmentOf x1z x2z v0z Xz Qz) : P_T_segmentOf x1 x2 v0 X Q := by
  subst e_x1
  subst e_x2
  subst e_v0
  unfold Z_T_segmentOf at h
  unfold P_T_segmentOf
  refine z_L_segments rfl (fun r1_ h => ?_) h
  obtain ⟨o1q, h⟩ := h
  refine z_T_isIn rfl rfl (show (((r1_ - 1) : Int32)).toInt = ((r1_.toInt - 1) : Int) from (zt_sub rfl rfl o1q)) (fun r5_ h => ?_) h
  refine ⟨fun c3q => ?_, fun c3q => ?_⟩
  · have h := h.1 (fun k => c3q ((zt_eq rfl rfl).mpr k))
    refine z_T_isIn rfl rfl rfl (fun r10_ h => ?_) h
    refine ⟨fun c2q => ?_, fun c2q => ?_⟩
    · have h := h.1 (fun k => c2q ((zt_eq rfl rfl).mpr k))
      refine z_S_segmentNumber rfl rfl rfl (fun r15_ h => ?_) h
      exact h_Q _ h
    · have h := h.2 ((zt_eq rfl rfl).mp c2q)
      exact h_X _ h
  · have h := h.2 ((zt_eq rfl rfl).mp c3q)
    exact h_X _ h

def Z_T_readerOf (x1 : Int) (x2 : Int) (v0 : TZ) (X : (String → Prop)) (Q : (Int → Prop)) : Prop := (Z_S_reader x1 (Tz_state v0) (fun r5_ => ((r5_ = none → (X ("java/lang/IndexOutOfBoundsException"))) ∧ (∀ i7_, r5_ = some i7_ → (Z_T_isIn x2 0 8 (fun r9_ => ((¬ r9_ = 0 → (Z_S_readerNumber i7_ x2 (Tz_state v0) (fun r14_ => (Q r14_)))) ∧ (r9_ = 0 → (X ("java/lang/IllegalArgumentException"))))))))))
set_option maxRecDepth 100000 in
theorem z_T_readerOf {x1 : Int32} {x1z : Int} {x2 : Int32} {x2z : Int} {v0 : TT} {v0z : TZ}  {X : String → Prop} {Xz : (String → Prop)} {Q : Int32 → Prop} {Qz : (Int → Prop)} (e_x1 : x1.toInt = x1z) (e_x2 : x2.toInt = x2z) (e_v0 : (aT v0) = v0z) (h_X : ∀ (a0 : String), Xz a0 → X a0) (h_Q : ∀ (a0 : Int32), Qz a0.toInt → Q a0) (h : Z_T_readerOf x1z x2z v0z Xz Qz) : P_T_readerOf x1 x2 v0 X Q := by
  subst e_x1
  subst e_x2
  subst e_v0
  unfold Z_T_readerOf at h
  unfold P_T_readerOf
  refine z_S_reader rfl rfl (fun r5_ h => ?_) h
  refine ⟨fun c => ?_, fun i7_ c => ?_⟩
  · have h := h.1 c
    exact h_X _ h
  · have h := h.2 i7_ c
    refine z_T_isIn rfl rfl rfl (fun r9_ h => ?_) h
    refine ⟨fun c1q => ?_, fun c1q => ?_⟩
    · have h := h.1 (fun k => c1q ((zt_eq rfl rfl).mpr k))
      refine z_S_readerNumber rfl rfl rfl (fun r14_ h => ?_) h
      exact h_Q _ h
    · have h := h.2 ((zt_eq rfl rfl).mp c1q)
      exact h_X _ h

def Z_T_table (x1 : Int) (x2 : Int) (v0 : TZ) (X : (String → Prop)) (Q : (Int → Prop)) : Prop := (Z_S_reader x1 (Tz_state v0) (fun r5_ => ((r5_ = none → (X ("java/lang/IndexOutOfBoundsException"))) ∧ (∀ i7_, r5_ = some i7_ → (Z_T_isIn x2 0 7 (fun r9_ => ((¬ r9_ = 0 → (Z_T_at 8 x2 (Rz_values (Sz_readers (Tz_state v0) i7_)) (fun r14_ => (Q r14_)))) ∧ (r9_ = 0 → (X ("java/lang/IllegalArgumentException"))))))))))
set_option maxRecDepth 100000 in
theorem z_T_table {x1 : Int32} {x1z : Int} {x2 : Int32} {x2z : Int} {v0 : TT} {v0z : TZ}  {X : String → Prop} {Xz : (String → Prop)} {Q : Int32 → Prop} {Qz : (Int → Prop)} (e_x1 : x1.toInt = x1z) (e_x2 : x2.toInt = x2z) (e_v0 : (aT v0) = v0z) (h_X : ∀ (a0 : String), Xz a0 → X a0) (h_Q : ∀ (a0 : Int32), Qz a0.toInt → Q a0) (h : Z_T_table x1z x2z v0z Xz Qz) : P_T_table x1 x2 v0 X Q := by
  subst e_x1
  subst e_x2
  subst e_v0
  unfold Z_T_table at h
  unfold P_T_table
  refine z_S_reader rfl rfl (fun r5_ h => ?_) h
  refine ⟨fun c => ?_, fun i7_ c => ?_⟩
  · have h := h.1 c
    exact h_X _ h
  · have h := h.2 i7_ c
    refine z_T_isIn rfl rfl rfl (fun r9_ h => ?_) h
    refine ⟨fun c1q => ?_, fun c1q => ?_⟩
    · have h := h.1 (fun k => c1q ((zt_eq rfl rfl).mpr k))
      refine z_T_at rfl rfl rfl (fun r14_ h => ?_) h
      exact h_Q _ h
    · have h := h.2 ((zt_eq rfl rfl).mp c1q)
      exact h_X _ h

def Z_T_base (x1 : Int) (v0 : TZ) (X : (String → Prop)) (Q : (Int → Prop)) : Prop := (Z_T_isIn x1 0 7 (fun r1_ => ((¬ r1_ = 0 → (Z_T_at 8 x1 (Lz_dropValues (Sz_log (Tz_state v0))) (fun r6_ => (Q r6_)))) ∧ (r1_ = 0 → (X ("java/lang/IllegalArgumentException"))))))
set_option maxRecDepth 100000 in
theorem z_T_base {x1 : Int32} {x1z : Int} {v0 : TT} {v0z : TZ}  {X : String → Prop} {Xz : (String → Prop)} {Q : Int32 → Prop} {Qz : (Int → Prop)} (e_x1 : x1.toInt = x1z) (e_v0 : (aT v0) = v0z) (h_X : ∀ (a0 : String), Xz a0 → X a0) (h_Q : ∀ (a0 : Int32), Qz a0.toInt → Q a0) (h : Z_T_base x1z v0z Xz Qz) : P_T_base x1 v0 X Q := by
  subst e_x1
  subst e_v0
  unfold Z_T_base at h
  unfold P_T_base
  refine z_T_isIn rfl rfl rfl (fun r1_ h => ?_) h
  refine ⟨fun c1q => ?_, fun c1q => ?_⟩
  · have h := h.1 (fun k => c1q ((zt_eq rfl rfl).mpr k))
    refine z_T_at rfl rfl rfl (fun r6_ h => ?_) h
    exact h_Q _ h
  · have h := h.2 ((zt_eq rfl rfl).mp c1q)
    exact h_X _ h

def Z_T_setting (x1 : Int) (v0 : TZ) (X : (String → Prop)) (Q : (Int → Prop)) : Prop := (Z_T_isIn x1 0 5 (fun r1_ => ((¬ r1_ = 0 → (Z_T_at 6 x1 (Sz_settings (Tz_state v0)) (fun r6_ => (Q r6_)))) ∧ (r1_ = 0 → (X ("java/lang/IllegalArgumentException"))))))
set_option maxRecDepth 100000 in
theorem z_T_setting {x1 : Int32} {x1z : Int} {v0 : TT} {v0z : TZ}  {X : String → Prop} {Xz : (String → Prop)} {Q : Int32 → Prop} {Qz : (Int → Prop)} (e_x1 : x1.toInt = x1z) (e_v0 : (aT v0) = v0z) (h_X : ∀ (a0 : String), Xz a0 → X a0) (h_Q : ∀ (a0 : Int32), Qz a0.toInt → Q a0) (h : Z_T_setting x1z v0z Xz Qz) : P_T_setting x1 v0 X Q := by
  subst e_x1
  subst e_v0
  unfold Z_T_setting at h
  unfold P_T_setting
  refine z_T_isIn rfl rfl rfl (fun r1_ h => ?_) h
  refine ⟨fun c1q => ?_, fun c1q => ?_⟩
  · have h := h.1 (fun k => c1q ((zt_eq rfl rfl).mpr k))
    refine z_T_at rfl rfl rfl (fun r6_ h => ?_) h
    exact h_Q _ h
  · have h := h.2 ((zt_eq rfl rfl).mp c1q)
    exact h_X _ h

def Z_T_act (x1 : Int) (x2 : Int) (x3 : Int) (x4 : Int) (v0 : TZ) (X : (String → TZ → Prop)) (Q : (Int → TZ → Prop)) : Prop := (Z_S_faultOf x1 x2 x3 x4 (Tz_state v0) (fun r1_ => ((¬ r1_ = 1 → ((¬ r1_ = 2 → ((¬ r1_ = 3 → (Z_H_remember (Tz_history v0) (Tz_state v0) (fun v12_ => (∀ v17_, v17_ = (Tz_set_history v0 v12_) → ((Z_S_perform x1 x2 x3 x4 (Tz_state v17_) (fun r20_ v24_ => (∀ v29_, v29_ = (Tz_set_state v17_ v24_) → ((Q r20_ v29_)))))))))) ∧ (r1_ = 3 → (X ("java/lang/IllegalStateException") v0)))) ∧ (r1_ = 2 → (X ("java/lang/IllegalArgumentException") v0)))) ∧ (r1_ = 1 → (X ("java/lang/IndexOutOfBoundsException") v0)))))
set_option maxRecDepth 100000 in
theorem z_T_act {x1 : Int32} {x1z : Int} {x2 : Int32} {x2z : Int} {x3 : Int32} {x3z : Int} {x4 : Int32} {x4z : Int} {v0 : TT} {v0z : TZ}  {X : String → TT → Prop} {Xz : (String → TZ → Prop)} {Q : Int32 → TT → Prop} {Qz : (Int → TZ → Prop)} (e_x1 : x1.toInt = x1z) (e_x2 : x2.toInt = x2z) (e_x3 : x3.toInt = x3z) (e_x4 : x4.toInt = x4z) (e_v0 : (aT v0) = v0z) (h_X : ∀ (a0 : String) (a1 : TT), Xz a0 (aT a1) → X a0 a1) (h_Q : ∀ (a0 : Int32) (a1 : TT), Qz a0.toInt (aT a1) → Q a0 a1) (h : Z_T_act x1z x2z x3z x4z v0z Xz Qz) : P_T_act x1 x2 x3 x4 v0 X Q := by
  subst e_x1
  subst e_x2
  subst e_x3
  subst e_x4
  subst e_v0
  unfold Z_T_act at h
  unfold P_T_act
  refine z_S_faultOf rfl rfl rfl rfl rfl (fun r1_ h => ?_) h
  refine ⟨fun c3q => ?_, fun c3q => ?_⟩
  · have h := h.1 (fun k => c3q ((zt_eq rfl rfl).mpr k))
    refine ⟨fun c2q => ?_, fun c2q => ?_⟩
    · have h := h.1 (fun k => c2q ((zt_eq rfl rfl).mpr k))
      refine ⟨fun c1q => ?_, fun c1q => ?_⟩
      · have h := h.1 (fun k => c1q ((zt_eq rfl rfl).mpr k))
        refine z_H_remember rfl rfl (fun v12_ h => ?_) h
        intro v17_ ev17_
        have h := h (aT v17_) (by rw [ev17_]; exact rfl)
        refine z_S_perform rfl rfl rfl rfl rfl (fun r20_ v24_ h => ?_) h
        intro v29_ ev29_
        have h := h (aT v29_) (by rw [ev29_]; exact rfl)
        exact h_Q _ _ h
      · have h := h.2 ((zt_eq rfl rfl).mp c1q)
        exact h_X _ _ h
    · have h := h.2 ((zt_eq rfl rfl).mp c2q)
      exact h_X _ _ h
  · have h := h.2 ((zt_eq rfl rfl).mp c3q)
    exact h_X _ _ h

def Z_T_write (x1 : Int) (x2 : Int) (x3 : Int) (v0 : TZ) (X : (String → TZ → Prop)) (Q : (Int → TZ → Prop)) : Prop := (Z_T_act 0 x1 x2 x3 v0 X (fun r1_ v5_ => (Q r1_ v5_)))
set_option maxRecDepth 100000 in
theorem z_T_write {x1 : Int32} {x1z : Int} {x2 : Int32} {x2z : Int} {x3 : Int32} {x3z : Int} {v0 : TT} {v0z : TZ}  {X : String → TT → Prop} {Xz : (String → TZ → Prop)} {Q : Int32 → TT → Prop} {Qz : (Int → TZ → Prop)} (e_x1 : x1.toInt = x1z) (e_x2 : x2.toInt = x2z) (e_x3 : x3.toInt = x3z) (e_v0 : (aT v0) = v0z) (h_X : ∀ (a0 : String) (a1 : TT), Xz a0 (aT a1) → X a0 a1) (h_Q : ∀ (a0 : Int32) (a1 : TT), Qz a0.toInt (aT a1) → Q a0 a1) (h : Z_T_write x1z x2z x3z v0z Xz Qz) : P_T_write x1 x2 x3 v0 X Q := by
  subst e_x1
  subst e_x2
  subst e_x3
  subst e_v0
  unfold Z_T_write at h
  unfold P_T_write
  refine z_T_act rfl rfl rfl rfl rfl h_X (fun r1_ v5_ h => ?_) h
  exact h_Q _ _ h

def Z_T_join (x1 : Int) (x2 : Int) (x3 : Int) (v0 : TZ) (X : (String → TZ → Prop)) (Q : (Int → TZ → Prop)) : Prop := (Z_T_asNumber x3 (fun r1_ => (Z_T_act 1 x1 x2 r1_ v0 X (fun r5_ v9_ => (Q r5_ v9_)))))
set_option maxRecDepth 100000 in
theorem z_T_join {x1 : Int32} {x1z : Int} {x2 : Int32} {x2z : Int} {x3 : Int32} {x3z : Int} {v0 : TT} {v0z : TZ}  {X : String → TT → Prop} {Xz : (String → TZ → Prop)} {Q : Int32 → TT → Prop} {Qz : (Int → TZ → Prop)} (e_x1 : x1.toInt = x1z) (e_x2 : x2.toInt = x2z) (e_x3 : x3.toInt = x3z) (e_v0 : (aT v0) = v0z) (h_X : ∀ (a0 : String) (a1 : TT), Xz a0 (aT a1) → X a0 a1) (h_Q : ∀ (a0 : Int32) (a1 : TT), Qz a0.toInt (aT a1) → Q a0 a1) (h : Z_T_join x1z x2z x3z v0z Xz Qz) : P_T_join x1 x2 x3 v0 X Q := by
  subst e_x1
  subst e_x2
  subst e_x3
  subst e_v0
  unfold Z_T_join at h
  unfold P_T_join
  refine z_T_asNumber rfl (fun r1_ h => ?_) h
  refine z_T_act rfl rfl rfl rfl rfl h_X (fun r5_ v9_ h => ?_) h
  exact h_Q _ _ h

def Z_T_read (x1 : Int) (x2 : Int) (v0 : TZ) (X : (String → TZ → Prop)) (Q : (Int → TZ → Prop)) : Prop := (Z_T_act 2 x1 x2 0 v0 X (fun r1_ v5_ => (Q r1_ v5_)))
set_option maxRecDepth 100000 in
theorem z_T_read {x1 : Int32} {x1z : Int} {x2 : Int32} {x2z : Int} {v0 : TT} {v0z : TZ}  {X : String → TT → Prop} {Xz : (String → TZ → Prop)} {Q : Int32 → TT → Prop} {Qz : (Int → TZ → Prop)} (e_x1 : x1.toInt = x1z) (e_x2 : x2.toInt = x2z) (e_v0 : (aT v0) = v0z) (h_X : ∀ (a0 : String) (a1 : TT), Xz a0 (aT a1) → X a0 a1) (h_Q : ∀ (a0 : Int32) (a1 : TT), Qz a0.toInt (aT a1) → Q a0 a1) (h : Z_T_read x1z x2z v0z Xz Qz) : P_T_read x1 x2 v0 X Q := by
  subst e_x1
  subst e_x2
  subst e_v0
  unfold Z_T_read at h
  unfold P_T_read
  refine z_T_act rfl rfl rfl rfl rfl h_X (fun r1_ v5_ h => ?_) h
  exact h_Q _ _ h

def Z_T_leave (x1 : Int) (v0 : TZ) (X : (String → TZ → Prop)) (Q : (Int → TZ → Prop)) : Prop := (Z_T_act 3 x1 0 0 v0 X (fun r1_ v5_ => (Q r1_ v5_)))
set_option maxRecDepth 100000 in
theorem z_T_leave {x1 : Int32} {x1z : Int} {v0 : TT} {v0z : TZ}  {X : String → TT → Prop} {Xz : (String → TZ → Prop)} {Q : Int32 → TT → Prop} {Qz : (Int → TZ → Prop)} (e_x1 : x1.toInt = x1z) (e_v0 : (aT v0) = v0z) (h_X : ∀ (a0 : String) (a1 : TT), Xz a0 (aT a1) → X a0 a1) (h_Q : ∀ (a0 : Int32) (a1 : TT), Qz a0.toInt (aT a1) → Q a0 a1) (h : Z_T_leave x1z v0z Xz Qz) : P_T_leave x1 v0 X Q := by
  subst e_x1
  subst e_v0
  unfold Z_T_leave at h
  unfold P_T_leave
  refine z_T_act rfl rfl rfl rfl rfl h_X (fun r1_ v5_ h => ?_) h
  exact h_Q _ _ h

def Z_T_hold (x1 : Int) (x2 : Int) (v0 : TZ) (X : (String → TZ → Prop)) (Q : (Int → TZ → Prop)) : Prop := (Z_T_asNumber x2 (fun r1_ => (Z_T_act 4 x1 r1_ 0 v0 X (fun r5_ v9_ => (Q r5_ v9_)))))
set_option maxRecDepth 100000 in
theorem z_T_hold {x1 : Int32} {x1z : Int} {x2 : Int32} {x2z : Int} {v0 : TT} {v0z : TZ}  {X : String → TT → Prop} {Xz : (String → TZ → Prop)} {Q : Int32 → TT → Prop} {Qz : (Int → TZ → Prop)} (e_x1 : x1.toInt = x1z) (e_x2 : x2.toInt = x2z) (e_v0 : (aT v0) = v0z) (h_X : ∀ (a0 : String) (a1 : TT), Xz a0 (aT a1) → X a0 a1) (h_Q : ∀ (a0 : Int32) (a1 : TT), Qz a0.toInt (aT a1) → Q a0 a1) (h : Z_T_hold x1z x2z v0z Xz Qz) : P_T_hold x1 x2 v0 X Q := by
  subst e_x1
  subst e_x2
  subst e_v0
  unfold Z_T_hold at h
  unfold P_T_hold
  refine z_T_asNumber rfl (fun r1_ h => ?_) h
  refine z_T_act rfl rfl rfl rfl rfl h_X (fun r5_ v9_ h => ?_) h
  exact h_Q _ _ h

def Z_T_set (x1 : Int) (x2 : Int) (v0 : TZ) (X : (String → TZ → Prop)) (Q : (Int → TZ → Prop)) : Prop := (Z_T_act 5 x1 x2 0 v0 X (fun r1_ v5_ => (Q r1_ v5_)))
set_option maxRecDepth 100000 in
theorem z_T_set {x1 : Int32} {x1z : Int} {x2 : Int32} {x2z : Int} {v0 : TT} {v0z : TZ}  {X : String → TT → Prop} {Xz : (String → TZ → Prop)} {Q : Int32 → TT → Prop} {Qz : (Int → TZ → Prop)} (e_x1 : x1.toInt = x1z) (e_x2 : x2.toInt = x2z) (e_v0 : (aT v0) = v0z) (h_X : ∀ (a0 : String) (a1 : TT), Xz a0 (aT a1) → X a0 a1) (h_Q : ∀ (a0 : Int32) (a1 : TT), Qz a0.toInt (aT a1) → Q a0 a1) (h : Z_T_set x1z x2z v0z Xz Qz) : P_T_set x1 x2 v0 X Q := by
  subst e_x1
  subst e_x2
  subst e_v0
  unfold Z_T_set at h
  unfold P_T_set
  refine z_T_act rfl rfl rfl rfl rfl h_X (fun r1_ v5_ h => ?_) h
  exact h_Q _ _ h
