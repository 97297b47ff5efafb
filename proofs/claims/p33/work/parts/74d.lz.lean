def ZJ_LAW_kept_782 (v0 : TZ) (y17 : Int) (Q : (Int → Prop)) : Prop := ((¬ y17 = 2 → (Q 1)) ∧ (y17 = 2 → (Z_LAW_segmentOf 0 4 v0 (fun r65_ => ((¬ (lg_cmpZ r65_ 0) = 0 → (Q 0)) ∧ ((lg_cmpZ r65_ 0) = 0 → (Q 1)))))))
set_option maxRecDepth 100000 in
theorem zJ_LAW_kept_782 {v0 : TT} {v0z : TZ} {y17 : Int32} {y17z : Int}  {Q : Int32 → Prop} {Qz : (Int → Prop)} (e_v0 : (aT v0) = v0z) (e_y17 : y17.toInt = y17z) (h_Q : ∀ (a0 : Int32), Qz a0.toInt → Q a0) (h : ZJ_LAW_kept_782 v0z y17z Qz) : PJ_LAW_kept_782 v0 y17 Q := by
  subst e_v0
  subst e_y17
  unfold ZJ_LAW_kept_782 at h
  unfold PJ_LAW_kept_782
  refine ⟨fun c2q => ?_, fun c2q => ?_⟩
  · have h := h.1 (fun k => c2q ((zt_eq rfl rfl).mpr k))
    exact h_Q _ h
  · have h := h.2 ((zt_eq rfl rfl).mp c2q)
    refine z_LAW_segmentOf rfl rfl rfl (fun r65_ h => ?_) h
    refine ⟨fun c1q => ?_, fun c1q => ?_⟩
    · have h := h.1 (fun k => c1q ((zt_eq (show (((lg_cmp r65_ 0) : Int32)).toInt = ((lg_cmpZ r65_.toInt 0) : Int) from (zt_lg_cmp rfl rfl)) rfl).mpr k))
      exact h_Q _ h
    · have h := h.2 ((zt_eq (show (((lg_cmp r65_ 0) : Int32)).toInt = ((lg_cmpZ r65_.toInt 0) : Int) from (zt_lg_cmp rfl rfl)) rfl).mp c1q)
      exact h_Q _ h
def ZJ_LAW_kept_768 (v0 : TZ) (y12 : Int) (y17 : Int) (u0 : Int) (u1 : Int) (Q : (Int → Prop)) : Prop := ((¬ u1 = u0 → (Q 0)) ∧ (u1 = u0 → ((¬ y17 = 3 → (ZJ_LAW_kept_782 v0 y17 Q)) ∧ (y17 = 3 → ((y12 ≤ 0 → (Q 0)) ∧ (¬ y12 ≤ 0 → (ZJ_LAW_kept_782 v0 y17 Q)))))))
set_option maxRecDepth 100000 in
theorem zJ_LAW_kept_768 {v0 : TT} {v0z : TZ} {y12 : Int32} {y12z : Int} {y17 : Int32} {y17z : Int} {u0 : Int32} {u0z : Int} {u1 : Int32} {u1z : Int}  {Q : Int32 → Prop} {Qz : (Int → Prop)} (e_v0 : (aT v0) = v0z) (e_y12 : y12.toInt = y12z) (e_y17 : y17.toInt = y17z) (e_u0 : u0.toInt = u0z) (e_u1 : u1.toInt = u1z) (h_Q : ∀ (a0 : Int32), Qz a0.toInt → Q a0) (h : ZJ_LAW_kept_768 v0z y12z y17z u0z u1z Qz) : PJ_LAW_kept_768 v0 y12 y17 u0 u1 Q := by
  subst e_v0
  subst e_y12
  subst e_y17
  subst e_u0
  subst e_u1
  unfold ZJ_LAW_kept_768 at h
  unfold PJ_LAW_kept_768
  refine ⟨fun c3q => ?_, fun c3q => ?_⟩
  · have h := h.1 (fun k => c3q ((zt_eq rfl rfl).mpr k))
    exact h_Q _ h
  · have h := h.2 ((zt_eq rfl rfl).mp c3q)
    refine ⟨fun c2q => ?_, fun c2q => ?_⟩
    · have h := h.1 (fun k => c2q ((zt_eq rfl rfl).mpr k))
      refine zJ_LAW_kept_782 rfl rfl h_Q h
    · have h := h.2 ((zt_eq rfl rfl).mp c2q)
      refine ⟨fun c1q => ?_, fun c1q => ?_⟩
      · have h := h.1 ((zt_le rfl rfl).mp c1q)
        exact h_Q _ h
      · have h := h.2 (fun k => c1q ((zt_le rfl rfl).mpr k))
        refine zJ_LAW_kept_782 rfl rfl h_Q h
def ZJ_LAW_kept_757 (v0 : TZ) (y12 : Int) (y17 : Int) (u0 : Int) (Q : (Int → Prop)) : Prop := ((¬ y17 = 1 → (ZJ_LAW_kept_768 v0 y12 y17 0 u0 Q)) ∧ (y17 = 1 → (ZJ_LAW_kept_768 v0 y12 y17 1 u0 Q)))
set_option maxRecDepth 100000 in
theorem zJ_LAW_kept_757 {v0 : TT} {v0z : TZ} {y12 : Int32} {y12z : Int} {y17 : Int32} {y17z : Int} {u0 : Int32} {u0z : Int}  {Q : Int32 → Prop} {Qz : (Int → Prop)} (e_v0 : (aT v0) = v0z) (e_y12 : y12.toInt = y12z) (e_y17 : y17.toInt = y17z) (e_u0 : u0.toInt = u0z) (h_Q : ∀ (a0 : Int32), Qz a0.toInt → Q a0) (h : ZJ_LAW_kept_757 v0z y12z y17z u0z Qz) : PJ_LAW_kept_757 v0 y12 y17 u0 Q := by
  subst e_v0
  subst e_y12
  subst e_y17
  subst e_u0
  unfold ZJ_LAW_kept_757 at h
  unfold PJ_LAW_kept_757
  refine ⟨fun c1q => ?_, fun c1q => ?_⟩
  · have h := h.1 (fun k => c1q ((zt_eq rfl rfl).mpr k))
    refine zJ_LAW_kept_768 rfl rfl rfl rfl rfl h_Q h
  · have h := h.2 ((zt_eq rfl rfl).mp c1q)
    refine zJ_LAW_kept_768 rfl rfl rfl rfl rfl h_Q h
def ZJ_LAW_kept_746 (v0 : TZ) (y9 : Int) (y12 : Int) (y17 : Int) (Q : (Int → Prop)) : Prop := ((2 ≤ y9 → (ZJ_LAW_kept_757 v0 y12 y17 0 Q)) ∧ (¬ 2 ≤ y9 → (ZJ_LAW_kept_757 v0 y12 y17 1 Q)))
set_option maxRecDepth 100000 in
theorem zJ_LAW_kept_746 {v0 : TT} {v0z : TZ} {y9 : Int32} {y9z : Int} {y12 : Int32} {y12z : Int} {y17 : Int32} {y17z : Int}  {Q : Int32 → Prop} {Qz : (Int → Prop)} (e_v0 : (aT v0) = v0z) (e_y9 : y9.toInt = y9z) (e_y12 : y12.toInt = y12z) (e_y17 : y17.toInt = y17z) (h_Q : ∀ (a0 : Int32), Qz a0.toInt → Q a0) (h : ZJ_LAW_kept_746 v0z y9z y12z y17z Qz) : PJ_LAW_kept_746 v0 y9 y12 y17 Q := by
  subst e_v0
  subst e_y9
  subst e_y12
  subst e_y17
  unfold ZJ_LAW_kept_746 at h
  unfold PJ_LAW_kept_746
  refine ⟨fun c1q => ?_, fun c1q => ?_⟩
  · have h := h.1 ((zt_le rfl rfl).mp c1q)
    refine zJ_LAW_kept_757 rfl rfl rfl rfl h_Q h
  · have h := h.2 (fun k => c1q ((zt_le rfl rfl).mpr k))
    refine zJ_LAW_kept_757 rfl rfl rfl rfl h_Q h
def ZJ_LAW_kept_653 (v0 : TZ) (y9 : Int) (y10 : Int) (y11 : Int) (y12 : Int) (y13 : Int) (y14 : Int) (Q : (Int → Prop)) : Prop := (Z_T_slowest v0 (fun r20_ => (Z_T_why v0 (fun r24_ => ((y10 = 0 → (Q 0)) ∧ (¬ y10 = 0 → (Z_LAW_about 4 v0 (fun r29_ => ((¬ (lg_cmpZ r29_ y11) = 0 → (Q 0)) ∧ ((lg_cmpZ r29_ y11) = 0 → (Z_LAW_about 5 v0 (fun r35_ => ((¬ (lg_cmpZ r35_ y12) = 0 → (Q 0)) ∧ ((lg_cmpZ r35_ y12) = 0 → (Z_LAW_about 6 v0 (fun r41_ => ((¬ (lg_cmpZ r41_ y13) = 0 → (Q 0)) ∧ ((lg_cmpZ r41_ y13) = 0 → ((¬ y12 = 0 → (Z_LAW_readerOf r20_ 0 v0 (fun r48_ => ((¬ (lg_cmpZ r48_ y14) = 0 → (Q 0)) ∧ ((lg_cmpZ r48_ y14) = 0 → (Z_LAW_readerOf r20_ 1 v0 (fun r54_ => ((¬ (lg_cmpZ r54_ 1) = 0 → (Q 0)) ∧ ((lg_cmpZ r54_ 1) = 0 → (ZJ_LAW_kept_746 v0 y9 y12 r24_ Q)))))))))) ∧ (y12 = 0 → ((¬ r20_ = (-1) → (Q 0)) ∧ (r20_ = (-1) → (ZJ_LAW_kept_746 v0 y9 y12 r24_ Q)))))))))))))))))))))))
set_option maxRecDepth 100000 in
theorem zJ_LAW_kept_653 {v0 : TT} {v0z : TZ} {y9 : Int32} {y9z : Int} {y10 : Int32} {y10z : Int} {y11 : Int32} {y11z : Int} {y12 : Int32} {y12z : Int} {y13 : Int32} {y13z : Int} {y14 : Int64} {y14z : Int}  {Q : Int32 → Prop} {Qz : (Int → Prop)} (e_v0 : (aT v0) = v0z) (e_y9 : y9.toInt = y9z) (e_y10 : y10.toInt = y10z) (e_y11 : y11.toInt = y11z) (e_y12 : y12.toInt = y12z) (e_y13 : y13.toInt = y13z) (e_y14 : y14.toInt = y14z) (h_Q : ∀ (a0 : Int32), Qz a0.toInt → Q a0) (h : ZJ_LAW_kept_653 v0z y9z y10z y11z y12z y13z y14z Qz) : PJ_LAW_kept_653 v0 y9 y10 y11 y12 y13 y14 Q := by
  subst e_v0
  subst e_y9
  subst e_y10
  subst e_y11
  subst e_y12
  subst e_y13
  subst e_y14
  unfold ZJ_LAW_kept_653 at h
  unfold PJ_LAW_kept_653
  refine z_T_slowest rfl (fun r20_ h => ?_) h
  refine z_T_why rfl (fun r24_ h => ?_) h
  refine ⟨fun c8q => ?_, fun c8q => ?_⟩
  · have h := h.1 ((zt_eq rfl rfl).mp c8q)
    exact h_Q _ h
  · have h := h.2 (fun k => c8q ((zt_eq rfl rfl).mpr k))
    refine z_LAW_about rfl rfl (fun r29_ h => ?_) h
    refine ⟨fun c7q => ?_, fun c7q => ?_⟩
    · have h := h.1 (fun k => c7q ((zt_eq (show (((lg_cmp r29_ (Int32.toInt64 y11)) : Int32)).toInt = ((lg_cmpZ r29_.toInt y11.toInt) : Int) from (zt_lg_cmp rfl (show (Int32.toInt64 y11).toInt = (y11.toInt : Int) from (zt_i2l rfl)))) rfl).mpr k))
      exact h_Q _ h
    · have h := h.2 ((zt_eq (show (((lg_cmp r29_ (Int32.toInt64 y11)) : Int32)).toInt = ((lg_cmpZ r29_.toInt y11.toInt) : Int) from (zt_lg_cmp rfl (show (Int32.toInt64 y11).toInt = (y11.toInt : Int) from (zt_i2l rfl)))) rfl).mp c7q)
      refine z_LAW_about rfl rfl (fun r35_ h => ?_) h
      refine ⟨fun c6q => ?_, fun c6q => ?_⟩
      · have h := h.1 (fun k => c6q ((zt_eq (show (((lg_cmp r35_ (Int32.toInt64 y12)) : Int32)).toInt = ((lg_cmpZ r35_.toInt y12.toInt) : Int) from (zt_lg_cmp rfl (show (Int32.toInt64 y12).toInt = (y12.toInt : Int) from (zt_i2l rfl)))) rfl).mpr k))
        exact h_Q _ h
      · have h := h.2 ((zt_eq (show (((lg_cmp r35_ (Int32.toInt64 y12)) : Int32)).toInt = ((lg_cmpZ r35_.toInt y12.toInt) : Int) from (zt_lg_cmp rfl (show (Int32.toInt64 y12).toInt = (y12.toInt : Int) from (zt_i2l rfl)))) rfl).mp c6q)
        refine z_LAW_about rfl rfl (fun r41_ h => ?_) h
        refine ⟨fun c5q => ?_, fun c5q => ?_⟩
        · have h := h.1 (fun k => c5q ((zt_eq (show (((lg_cmp r41_ (Int32.toInt64 y13)) : Int32)).toInt = ((lg_cmpZ r41_.toInt y13.toInt) : Int) from (zt_lg_cmp rfl (show (Int32.toInt64 y13).toInt = (y13.toInt : Int) from (zt_i2l rfl)))) rfl).mpr k))
          exact h_Q _ h
        · have h := h.2 ((zt_eq (show (((lg_cmp r41_ (Int32.toInt64 y13)) : Int32)).toInt = ((lg_cmpZ r41_.toInt y13.toInt) : Int) from (zt_lg_cmp rfl (show (Int32.toInt64 y13).toInt = (y13.toInt : Int) from (zt_i2l rfl)))) rfl).mp c5q)
          refine ⟨fun c4q => ?_, fun c4q => ?_⟩
          · have h := h.1 (fun k => c4q ((zt_eq rfl rfl).mpr k))
            refine z_LAW_readerOf rfl rfl rfl (fun r48_ h => ?_) h
            refine ⟨fun c2q => ?_, fun c2q => ?_⟩
            · have h := h.1 (fun k => c2q ((zt_eq (show (((lg_cmp r48_ y14) : Int32)).toInt = ((lg_cmpZ r48_.toInt y14.toInt) : Int) from (zt_lg_cmp rfl rfl)) rfl).mpr k))
              exact h_Q _ h
            · have h := h.2 ((zt_eq (show (((lg_cmp r48_ y14) : Int32)).toInt = ((lg_cmpZ r48_.toInt y14.toInt) : Int) from (zt_lg_cmp rfl rfl)) rfl).mp c2q)
              refine z_LAW_readerOf rfl rfl rfl (fun r54_ h => ?_) h
              refine ⟨fun c1q => ?_, fun c1q => ?_⟩
              · have h := h.1 (fun k => c1q ((zt_eq (show (((lg_cmp r54_ 1) : Int32)).toInt = ((lg_cmpZ r54_.toInt 1) : Int) from (zt_lg_cmp rfl rfl)) rfl).mpr k))
                exact h_Q _ h
              · have h := h.2 ((zt_eq (show (((lg_cmp r54_ 1) : Int32)).toInt = ((lg_cmpZ r54_.toInt 1) : Int) from (zt_lg_cmp rfl rfl)) rfl).mp c1q)
                refine zJ_LAW_kept_746 rfl rfl rfl rfl h_Q h
          · have h := h.2 ((zt_eq rfl rfl).mp c4q)
            refine ⟨fun c3q => ?_, fun c3q => ?_⟩
            · have h := h.1 (fun k => c3q ((zt_eq rfl rfl).mpr k))
              exact h_Q _ h
            · have h := h.2 ((zt_eq rfl rfl).mp c3q)
              refine zJ_LAW_kept_746 rfl rfl rfl rfl h_Q h
def ZL_LAW_kept_592 : Nat → TZ → Int → Int → Int → Int → Int → Int → Int → Int → Int → Int → Int → Int → (Int → Int → Int → Int → Int → Int → Int → Int → Int → Prop) → (Int → Prop) → Prop
  | 0, _, _, _, _, _, _, _, _, _, _, _, _, _, _, _ => False
  | n + 1, v0, y1, y3, y9, y10, y11, y12, y13, y14, y16, y17, y20, y21, K363, Q => ((8 ≤ y21 → zin (y16 + 1) ∧ (K363 y1 y3 y9 y10 y11 y12 y13 y14 (y16 + 1))) ∧ (¬ 8 ≤ y21 → ((y10 = 0 → zin (y16 + 1) ∧ (K363 y1 y3 y9 y10 y11 y12 y13 y14 (y16 + 1))) ∧ (¬ y10 = 0 → ((¬ y20 = 0 → zin (y16 + 1) ∧ (K363 y1 y3 y9 y10 y11 y12 y13 y14 (y16 + 1))) ∧ (y20 = 0 → (Z_LAW_table y16 y21 v0 (fun r94_ => (Z_LAW_truth y21 (wi y17) (Int.tmod y21 2) v0 (fun r99_ => ((¬ (lg_cmpZ r94_ r99_) = 0 → zin (y21 + 1) ∧ (ZL_LAW_kept_592 n v0 y1 y3 y9 0 y11 y12 y13 y14 y16 y17 y20 (y21 + 1) K363 Q)) ∧ ((lg_cmpZ r94_ r99_) = 0 → zin (y21 + 1) ∧ (ZL_LAW_kept_592 n v0 y1 y3 y9 1 y11 y12 y13 y14 y16 y17 y20 (y21 + 1) K363 Q)))))))))))))
set_option maxRecDepth 100000 in
theorem zL_LAW_kept_592 (n : Nat) : ∀ {v0 : TT} {v0z : TZ} {y1 : Int64} {y1z : Int} {y3 : Int64} {y3z : Int} {y9 : Int32} {y9z : Int} {y10 : Int32} {y10z : Int} {y11 : Int32} {y11z : Int} {y12 : Int32} {y12z : Int} {y13 : Int32} {y13z : Int} {y14 : Int64} {y14z : Int} {y16 : Int32} {y16z : Int} {y17 : Int64} {y17z : Int} {y20 : Int32} {y20z : Int} {y21 : Int32} {y21z : Int}  {K363 : Int64 → Int64 → Int32 → Int32 → Int32 → Int32 → Int32 → Int64 → Int32 → Prop} {K363z : (Int → Int → Int → Int → Int → Int → Int → Int → Int → Prop)} {Q : Int32 → Prop} {Qz : (Int → Prop)} (e_v0 : (aT v0) = v0z) (e_y1 : y1.toInt = y1z) (e_y3 : y3.toInt = y3z) (e_y9 : y9.toInt = y9z) (e_y10 : y10.toInt = y10z) (e_y11 : y11.toInt = y11z) (e_y12 : y12.toInt = y12z) (e_y13 : y13.toInt = y13z) (e_y14 : y14.toInt = y14z) (e_y16 : y16.toInt = y16z) (e_y17 : y17.toInt = y17z) (e_y20 : y20.toInt = y20z) (e_y21 : y21.toInt = y21z) (h_K363 : ∀ (a0 : Int64) (a1 : Int64) (a2 : Int32) (a3 : Int32) (a4 : Int32) (a5 : Int32) (a6 : Int32) (a7 : Int64) (a8 : Int32), K363z a0.toInt a1.toInt a2.toInt a3.toInt a4.toInt a5.toInt a6.toInt a7.toInt a8.toInt → K363 a0 a1 a2 a3 a4 a5 a6 a7 a8) (h_Q : ∀ (a0 : Int32), Qz a0.toInt → Q a0) (h : ZL_LAW_kept_592 n v0z y1z y3z y9z y10z y11z y12z y13z y14z y16z y17z y20z y21z K363z Qz), PL_LAW_kept_592 n v0 y1 y3 y9 y10 y11 y12 y13 y14 y16 y17 y20 y21 K363 Q := by
  induction n with
  | zero =>
    intro v0 v0z y1 y1z y3 y3z y9 y9z y10 y10z y11 y11z y12 y12z y13 y13z y14 y14z y16 y16z y17 y17z y20 y20z y21 y21z K363 K363z Q Qz e_v0 e_y1 e_y3 e_y9 e_y10 e_y11 e_y12 e_y13 e_y14 e_y16 e_y17 e_y20 e_y21 h_K363 h_Q h
    exact (h : False).elim
  | succ n ih =>
    intro v0 v0z y1 y1z y3 y3z y9 y9z y10 y10z y11 y11z y12 y12z y13 y13z y14 y14z y16 y16z y17 y17z y20 y20z y21 y21z K363 K363z Q Qz e_v0 e_y1 e_y3 e_y9 e_y10 e_y11 e_y12 e_y13 e_y14 e_y16 e_y17 e_y20 e_y21 h_K363 h_Q h
    subst e_v0
    subst e_y1
    subst e_y3
    subst e_y9
    subst e_y10
    subst e_y11
    subst e_y12
    subst e_y13
    subst e_y14
    subst e_y16
    subst e_y17
    subst e_y20
    subst e_y21
    rw [ZL_LAW_kept_592] at h
    rw [PL_LAW_kept_592]
    refine ⟨fun c9q => ?_, fun c9q => ?_⟩
    · have h := h.1 ((zt_le rfl rfl).mp c9q)
      obtain ⟨o1q, h⟩ := h
      exact h_K363 _ _ _ _ _ _ _ _ _ (Eq.mpr (congrArg (fun k => K363z y1.toInt y3.toInt y9.toInt y10.toInt y11.toInt y12.toInt y13.toInt y14.toInt k) (show (((y16 + 1) : Int32)).toInt = ((y16.toInt + 1) : Int) from (zt_add rfl rfl o1q))) h)
    · have h := h.2 (fun k => c9q ((zt_le rfl rfl).mpr k))
      refine ⟨fun c8q => ?_, fun c8q => ?_⟩
      · have h := h.1 ((zt_eq rfl rfl).mp c8q)
        obtain ⟨o2q, h⟩ := h
        exact h_K363 _ _ _ _ _ _ _ _ _ (Eq.mpr (congrArg (fun k => K363z y1.toInt y3.toInt y9.toInt y10.toInt y11.toInt y12.toInt y13.toInt y14.toInt k) (show (((y16 + 1) : Int32)).toInt = ((y16.toInt + 1) : Int) from (zt_add rfl rfl o2q))) h)
      · have h := h.2 (fun k => c8q ((zt_eq rfl rfl).mpr k))
        refine ⟨fun c7q => ?_, fun c7q => ?_⟩
        · have h := h.1 (fun k => c7q ((zt_eq rfl rfl).mpr k))
          obtain ⟨o3q, h⟩ := h
          exact h_K363 _ _ _ _ _ _ _ _ _ (Eq.mpr (congrArg (fun k => K363z y1.toInt y3.toInt y9.toInt y10.toInt y11.toInt y12.toInt y13.toInt y14.toInt k) (show (((y16 + 1) : Int32)).toInt = ((y16.toInt + 1) : Int) from (zt_add rfl rfl o3q))) h)
        · have h := h.2 ((zt_eq rfl rfl).mp c7q)
          refine z_LAW_table rfl rfl rfl (fun r94_ h => ?_) h
          refine z_LAW_truth rfl (show (((Int64.toInt32 y17) : Int32)).toInt = ((wi y17.toInt) : Int) from (zt_l2i rfl)) (show (((zrem y21 2) : Int32)).toInt = ((Int.tmod y21.toInt 2) : Int) from (zt_rem rfl rfl (by decide) (by decide))) rfl (fun r99_ h => ?_) h
          refine ⟨fun c6q => ?_, fun c6q => ?_⟩
          · have h := h.1 (fun k => c6q ((zt_eq (show (((lg_cmp r94_ r99_) : Int32)).toInt = ((lg_cmpZ r94_.toInt r99_.toInt) : Int) from (zt_lg_cmp rfl rfl)) rfl).mpr k))
            obtain ⟨o4q, h⟩ := h
            refine ih rfl rfl rfl rfl rfl rfl rfl rfl rfl rfl rfl rfl (show (((y21 + 1) : Int32)).toInt = ((y21.toInt + 1) : Int) from (zt_add rfl rfl o4q)) h_K363 h_Q h
          · have h := h.2 ((zt_eq (show (((lg_cmp r94_ r99_) : Int32)).toInt = ((lg_cmpZ r94_.toInt r99_.toInt) : Int) from (zt_lg_cmp rfl rfl)) rfl).mp c6q)
            obtain ⟨o5q, h⟩ := h
            refine ih rfl rfl rfl rfl rfl rfl rfl rfl rfl rfl rfl rfl (show (((y21 + 1) : Int32)).toInt = ((y21.toInt + 1) : Int) from (zt_add rfl rfl o5q)) h_K363 h_Q h
def ZJ_LAW_kept_542 (v0 : TZ) (y1 : Int) (y3 : Int) (y9 : Int) (y11 : Int) (y12 : Int) (y13 : Int) (y14 : Int) (y16 : Int) (y17 : Int) (y19 : Int) (y20 : Int) (u0 : Int) (u1 : Int) (u2 : Int) (K363 : (Int → Int → Int → Int → Int → Int → Int → Int → Int → Prop)) (Q : (Int → Prop)) : Prop := ((¬ (lg_cmpZ u2 (wl (u1 - u0))) = 0 → (∃ n122_, n122_ ≤ 9 ∧ ((ZL_LAW_kept_592 n122_ v0 y1 y3 y9 0 y11 y12 y13 y14 y16 y17 y20 0 (fun a0 a1 a2 a3 a4 a5 a6 a7 a8 => (K363 a0 a1 a2 a3 a4 a5 a6 a7 a8)) Q)))) ∧ ((lg_cmpZ u2 (wl (u1 - u0))) = 0 → (Z_LAW_readerOf y16 4 v0 (fun r123_ => (Z_LAW_about 7 v0 (fun r128_ => ((0 < (lg_cmpZ r123_ r128_) → (∃ n134_, n134_ ≤ 9 ∧ ((ZL_LAW_kept_592 n134_ v0 y1 y3 y9 0 y11 y12 y13 y14 y16 y17 y20 0 (fun a0 a1 a2 a3 a4 a5 a6 a7 a8 => (K363 a0 a1 a2 a3 a4 a5 a6 a7 a8)) Q)))) ∧ (¬ 0 < (lg_cmpZ r123_ r128_) → ((y19 = 0 → (∃ n136_, n136_ ≤ 9 ∧ ((ZL_LAW_kept_592 n136_ v0 y1 y3 y9 1 y11 y12 y13 y14 y16 y17 y20 0 (fun a0 a1 a2 a3 a4 a5 a6 a7 a8 => (K363 a0 a1 a2 a3 a4 a5 a6 a7 a8)) Q)))) ∧ (¬ y19 = 0 → (Z_LAW_readerOf y16 8 v0 (fun r137_ => ((¬ (lg_cmpZ r137_ 0) = 0 → (∃ n143_, n143_ ≤ 9 ∧ ((ZL_LAW_kept_592 n143_ v0 y1 y3 y9 0 y11 y12 y13 y14 y16 y17 y20 0 (fun a0 a1 a2 a3 a4 a5 a6 a7 a8 => (K363 a0 a1 a2 a3 a4 a5 a6 a7 a8)) Q)))) ∧ ((lg_cmpZ r137_ 0) = 0 → (∃ n144_, n144_ ≤ 9 ∧ ((ZL_LAW_kept_592 n144_ v0 y1 y3 y9 1 y11 y12 y13 y14 y16 y17 y20 0 (fun a0 a1 a2 a3 a4 a5 a6 a7 a8 => (K363 a0 a1 a2 a3 a4 a5 a6 a7 a8)) Q)))))))))))))))))
set_option maxRecDepth 100000 in
theorem zJ_LAW_kept_542 {v0 : TT} {v0z : TZ} {y1 : Int64} {y1z : Int} {y3 : Int64} {y3z : Int} {y9 : Int32} {y9z : Int} {y11 : Int32} {y11z : Int} {y12 : Int32} {y12z : Int} {y13 : Int32} {y13z : Int} {y14 : Int64} {y14z : Int} {y16 : Int32} {y16z : Int} {y17 : Int64} {y17z : Int} {y19 : Int32} {y19z : Int} {y20 : Int32} {y20z : Int} {u0 : Int64} {u0z : Int} {u1 : Int64} {u1z : Int} {u2 : Int64} {u2z : Int}  {K363 : Int64 → Int64 → Int32 → Int32 → Int32 → Int32 → Int32 → Int64 → Int32 → Prop} {K363z : (Int → Int → Int → Int → Int → Int → Int → Int → Int → Prop)} {Q : Int32 → Prop} {Qz : (Int → Prop)} (e_v0 : (aT v0) = v0z) (e_y1 : y1.toInt = y1z) (e_y3 : y3.toInt = y3z) (e_y9 : y9.toInt = y9z) (e_y11 : y11.toInt = y11z) (e_y12 : y12.toInt = y12z) (e_y13 : y13.toInt = y13z) (e_y14 : y14.toInt = y14z) (e_y16 : y16.toInt = y16z) (e_y17 : y17.toInt = y17z) (e_y19 : y19.toInt = y19z) (e_y20 : y20.toInt = y20z) (e_u0 : u0.toInt = u0z) (e_u1 : u1.toInt = u1z) (e_u2 : u2.toInt = u2z) (h_K363 : ∀ (a0 : Int64) (a1 : Int64) (a2 : Int32) (a3 : Int32) (a4 : Int32) (a5 : Int32) (a6 : Int32) (a7 : Int64) (a8 : Int32), K363z a0.toInt a1.toInt a2.toInt a3.toInt a4.toInt a5.toInt a6.toInt a7.toInt a8.toInt → K363 a0 a1 a2 a3 a4 a5 a6 a7 a8) (h_Q : ∀ (a0 : Int32), Qz a0.toInt → Q a0) (h : ZJ_LAW_kept_542 v0z y1z y3z y9z y11z y12z y13z y14z y16z y17z y19z y20z u0z u1z u2z K363z Qz) : PJ_LAW_kept_542 v0 y1 y3 y9 y11 y12 y13 y14 y16 y17 y19 y20 u0 u1 u2 K363 Q := by
  subst e_v0
  subst e_y1
  subst e_y3
  subst e_y9
  subst e_y11
  subst e_y12
  subst e_y13
  subst e_y14
  subst e_y16
  subst e_y17
  subst e_y19
  subst e_y20
  subst e_u0
  subst e_u1
  subst e_u2
  unfold ZJ_LAW_kept_542 at h
  unfold PJ_LAW_kept_542
  refine ⟨fun c9q => ?_, fun c9q => ?_⟩
  · have h := h.1 (fun k => c9q ((zt_eq (show (((lg_cmp u2 (u1 - u0)) : Int32)).toInt = ((lg_cmpZ u2.toInt (wl (u1.toInt - u0.toInt))) : Int) from (zt_lg_cmp rfl (show (u1 - u0).toInt = ((wl (u1.toInt - u0.toInt)) : Int) from (zt_lsub rfl rfl)))) rfl).mpr k))
    obtain ⟨n122_, h⟩ := h
    refine ⟨n122_, ?_⟩
    obtain ⟨b1q, h⟩ := h
    refine ⟨b1q, ?_⟩
    refine zL_LAW_kept_592 n122_ rfl rfl rfl rfl rfl rfl rfl rfl rfl rfl rfl rfl rfl (fun a0 a1 a2 a3 a4 a5 a6 a7 a8 h => ?_) h_Q h
    exact h_K363 _ _ _ _ _ _ _ _ _ h
  · have h := h.2 ((zt_eq (show (((lg_cmp u2 (u1 - u0)) : Int32)).toInt = ((lg_cmpZ u2.toInt (wl (u1.toInt - u0.toInt))) : Int) from (zt_lg_cmp rfl (show (u1 - u0).toInt = ((wl (u1.toInt - u0.toInt)) : Int) from (zt_lsub rfl rfl)))) rfl).mp c9q)
    refine z_LAW_readerOf rfl rfl rfl (fun r123_ h => ?_) h
    refine z_LAW_about rfl rfl (fun r128_ h => ?_) h
    refine ⟨fun c8q => ?_, fun c8q => ?_⟩
    · have h := h.1 ((zt_lt rfl (show (((lg_cmp r123_ r128_) : Int32)).toInt = ((lg_cmpZ r123_.toInt r128_.toInt) : Int) from (zt_lg_cmp rfl rfl))).mp c8q)
      obtain ⟨n134_, h⟩ := h
      refine ⟨n134_, ?_⟩
      obtain ⟨b2q, h⟩ := h
      refine ⟨b2q, ?_⟩
      refine zL_LAW_kept_592 n134_ rfl rfl rfl rfl rfl rfl rfl rfl rfl rfl rfl rfl rfl (fun a0 a1 a2 a3 a4 a5 a6 a7 a8 h => ?_) h_Q h
      exact h_K363 _ _ _ _ _ _ _ _ _ h
    · have h := h.2 (fun k => c8q ((zt_lt rfl (show (((lg_cmp r123_ r128_) : Int32)).toInt = ((lg_cmpZ r123_.toInt r128_.toInt) : Int) from (zt_lg_cmp rfl rfl))).mpr k))
      refine ⟨fun c7q => ?_, fun c7q => ?_⟩
      · have h := h.1 ((zt_eq rfl rfl).mp c7q)
        obtain ⟨n136_, h⟩ := h
        refine ⟨n136_, ?_⟩
        obtain ⟨b3q, h⟩ := h
        refine ⟨b3q, ?_⟩
        refine zL_LAW_kept_592 n136_ rfl rfl rfl rfl rfl rfl rfl rfl rfl rfl rfl rfl rfl (fun a0 a1 a2 a3 a4 a5 a6 a7 a8 h => ?_) h_Q h
        exact h_K363 _ _ _ _ _ _ _ _ _ h
      · have h := h.2 (fun k => c7q ((zt_eq rfl rfl).mpr k))
        refine z_LAW_readerOf rfl rfl rfl (fun r137_ h => ?_) h
        refine ⟨fun c6q => ?_, fun c6q => ?_⟩
        · have h := h.1 (fun k => c6q ((zt_eq (show (((lg_cmp r137_ 0) : Int32)).toInt = ((lg_cmpZ r137_.toInt 0) : Int) from (zt_lg_cmp rfl rfl)) rfl).mpr k))
          obtain ⟨n143_, h⟩ := h
          refine ⟨n143_, ?_⟩
          obtain ⟨b4q, h⟩ := h
          refine ⟨b4q, ?_⟩
          refine zL_LAW_kept_592 n143_ rfl rfl rfl rfl rfl rfl rfl rfl rfl rfl rfl rfl rfl (fun a0 a1 a2 a3 a4 a5 a6 a7 a8 h => ?_) h_Q h
          exact h_K363 _ _ _ _ _ _ _ _ _ h
        · have h := h.2 ((zt_eq (show (((lg_cmp r137_ 0) : Int32)).toInt = ((lg_cmpZ r137_.toInt 0) : Int) from (zt_lg_cmp rfl rfl)) rfl).mp c6q)
          obtain ⟨n144_, h⟩ := h
          refine ⟨n144_, ?_⟩
          obtain ⟨b5q, h⟩ := h
          refine ⟨b5q, ?_⟩
          refine zL_LAW_kept_592 n144_ rfl rfl rfl rfl rfl rfl rfl rfl rfl rfl rfl rfl rfl (fun a0 a1 a2 a3 a4 a5 a6 a7 a8 h => ?_) h_Q h
          exact h_K363 _ _ _ _ _ _ _ _ _ h
def ZJ_LAW_kept_519 (v0 : TZ) (y1 : Int) (y3 : Int) (y9 : Int) (y11 : Int) (y12 : Int) (y13 : Int) (y14 : Int) (y16 : Int) (y17 : Int) (y19 : Int) (y20 : Int) (u0 : Int) (u1 : Int) (K363 : (Int → Int → Int → Int → Int → Int → Int → Int → Int → Prop)) (Q : (Int → Prop)) : Prop := ((¬ (lg_cmpZ u1 u0) = 0 → (∃ n114_, n114_ ≤ 9 ∧ ((ZL_LAW_kept_592 n114_ v0 y1 y3 y9 0 y11 y12 y13 y14 y16 y17 y20 0 (fun a0 a1 a2 a3 a4 a5 a6 a7 a8 => (K363 a0 a1 a2 a3 a4 a5 a6 a7 a8)) Q)))) ∧ ((lg_cmpZ u1 u0) = 0 → (Z_LAW_readerOf y16 5 v0 (fun r115_ => ((y20 = 0 → (ZJ_LAW_kept_542 v0 y1 y3 y9 y11 y12 y13 y14 y16 y17 y19 y20 y17 y3 r115_ (fun a0 a1 a2 a3 a4 a5 a6 a7 a8 => (K363 a0 a1 a2 a3 a4 a5 a6 a7 a8)) Q)) ∧ (¬ y20 = 0 → (ZJ_LAW_kept_542 v0 y1 y3 y9 y11 y12 y13 y14 y16 y17 y19 y20 y1 y3 r115_ (fun a0 a1 a2 a3 a4 a5 a6 a7 a8 => (K363 a0 a1 a2 a3 a4 a5 a6 a7 a8)) Q)))))))
set_option maxRecDepth 100000 in
theorem zJ_LAW_kept_519 {v0 : TT} {v0z : TZ} {y1 : Int64} {y1z : Int} {y3 : Int64} {y3z : Int} {y9 : Int32} {y9z : Int} {y11 : Int32} {y11z : Int} {y12 : Int32} {y12z : Int} {y13 : Int32} {y13z : Int} {y14 : Int64} {y14z : Int} {y16 : Int32} {y16z : Int} {y17 : Int64} {y17z : Int} {y19 : Int32} {y19z : Int} {y20 : Int32} {y20z : Int} {u0 : Int64} {u0z : Int} {u1 : Int64} {u1z : Int}  {K363 : Int64 → Int64 → Int32 → Int32 → Int32 → Int32 → Int32 → Int64 → Int32 → Prop} {K363z : (Int → Int → Int → Int → Int → Int → Int → Int → Int → Prop)} {Q : Int32 → Prop} {Qz : (Int → Prop)} (e_v0 : (aT v0) = v0z) (e_y1 : y1.toInt = y1z) (e_y3 : y3.toInt = y3z) (e_y9 : y9.toInt = y9z) (e_y11 : y11.toInt = y11z) (e_y12 : y12.toInt = y12z) (e_y13 : y13.toInt = y13z) (e_y14 : y14.toInt = y14z) (e_y16 : y16.toInt = y16z) (e_y17 : y17.toInt = y17z) (e_y19 : y19.toInt = y19z) (e_y20 : y20.toInt = y20z) (e_u0 : u0.toInt = u0z) (e_u1 : u1.toInt = u1z) (h_K363 : ∀ (a0 : Int64) (a1 : Int64) (a2 : Int32) (a3 : Int32) (a4 : Int32) (a5 : Int32) (a6 : Int32) (a7 : Int64) (a8 : Int32), K363z a0.toInt a1.toInt a2.toInt a3.toInt a4.toInt a5.toInt a6.toInt a7.toInt a8.toInt → K363 a0 a1 a2 a3 a4 a5 a6 a7 a8) (h_Q : ∀ (a0 : Int32), Qz a0.toInt → Q a0) (h : ZJ_LAW_kept_519 v0z y1z y3z y9z y11z y12z y13z y14z y16z y17z y19z y20z u0z u1z K363z Qz) : PJ_LAW_kept_519 v0 y1 y3 y9 y11 y12 y13 y14 y16 y17 y19 y20 u0 u1 K363 Q := by
  subst e_v0
  subst e_y1
  subst e_y3
  subst e_y9
  subst e_y11
  subst e_y12
  subst e_y13
  subst e_y14
  subst e_y16
  subst e_y17
  subst e_y19
  subst e_y20
  subst e_u0
  subst e_u1
  unfold ZJ_LAW_kept_519 at h
  unfold PJ_LAW_kept_519
  refine ⟨fun c3q => ?_, fun c3q => ?_⟩
  · have h := h.1 (fun k => c3q ((zt_eq (show (((lg_cmp u1 u0) : Int32)).toInt = ((lg_cmpZ u1.toInt u0.toInt) : Int) from (zt_lg_cmp rfl rfl)) rfl).mpr k))
    obtain ⟨n114_, h⟩ := h
    refine ⟨n114_, ?_⟩
    obtain ⟨b1q, h⟩ := h
    refine ⟨b1q, ?_⟩
    refine zL_LAW_kept_592 n114_ rfl rfl rfl rfl rfl rfl rfl rfl rfl rfl rfl rfl rfl (fun a0 a1 a2 a3 a4 a5 a6 a7 a8 h => ?_) h_Q h
    exact h_K363 _ _ _ _ _ _ _ _ _ h
  · have h := h.2 ((zt_eq (show (((lg_cmp u1 u0) : Int32)).toInt = ((lg_cmpZ u1.toInt u0.toInt) : Int) from (zt_lg_cmp rfl rfl)) rfl).mp c3q)
    refine z_LAW_readerOf rfl rfl rfl (fun r115_ h => ?_) h
    refine ⟨fun c2q => ?_, fun c2q => ?_⟩
    · have h := h.1 ((zt_eq rfl rfl).mp c2q)
      refine zJ_LAW_kept_542 rfl rfl rfl rfl rfl rfl rfl rfl rfl rfl rfl rfl rfl rfl rfl (fun a0 a1 a2 a3 a4 a5 a6 a7 a8 h => ?_) h_Q h
      exact h_K363 _ _ _ _ _ _ _ _ _ h
    · have h := h.2 (fun k => c2q ((zt_eq rfl rfl).mpr k))
      refine zJ_LAW_kept_542 rfl rfl rfl rfl rfl rfl rfl rfl rfl rfl rfl rfl rfl rfl rfl (fun a0 a1 a2 a3 a4 a5 a6 a7 a8 h => ?_) h_Q h
      exact h_K363 _ _ _ _ _ _ _ _ _ h
def ZJ_LAW_kept_498 (v0 : TZ) (y1 : Int) (y3 : Int) (y9 : Int) (y11 : Int) (y12 : Int) (y13 : Int) (y14 : Int) (y16 : Int) (y17 : Int) (y19 : Int) (y20 : Int) (K363 : (Int → Int → Int → Int → Int → Int → Int → Int → Int → Prop)) (Q : (Int → Prop)) : Prop := (Z_LAW_readerOf y16 7 v0 (fun r107_ => ((y20 = 0 → (ZJ_LAW_kept_519 v0 y1 y3 y9 y11 y12 y13 y14 y16 y17 y19 y20 0 r107_ (fun a0 a1 a2 a3 a4 a5 a6 a7 a8 => (K363 a0 a1 a2 a3 a4 a5 a6 a7 a8)) Q)) ∧ (¬ y20 = 0 → (ZJ_LAW_kept_519 v0 y1 y3 y9 y11 y12 y13 y14 y16 y17 y19 y20 (wl (y1 - y17)) r107_ (fun a0 a1 a2 a3 a4 a5 a6 a7 a8 => (K363 a0 a1 a2 a3 a4 a5 a6 a7 a8)) Q)))))
set_option maxRecDepth 100000 in
theorem zJ_LAW_kept_498 {v0 : TT} {v0z : TZ} {y1 : Int64} {y1z : Int} {y3 : Int64} {y3z : Int} {y9 : Int32} {y9z : Int} {y11 : Int32} {y11z : Int} {y12 : Int32} {y12z : Int} {y13 : Int32} {y13z : Int} {y14 : Int64} {y14z : Int} {y16 : Int32} {y16z : Int} {y17 : Int64} {y17z : Int} {y19 : Int32} {y19z : Int} {y20 : Int32} {y20z : Int}  {K363 : Int64 → Int64 → Int32 → Int32 → Int32 → Int32 → Int32 → Int64 → Int32 → Prop} {K363z : (Int → Int → Int → Int → Int → Int → Int → Int → Int → Prop)} {Q : Int32 → Prop} {Qz : (Int → Prop)} (e_v0 : (aT v0) = v0z) (e_y1 : y1.toInt = y1z) (e_y3 : y3.toInt = y3z) (e_y9 : y9.toInt = y9z) (e_y11 : y11.toInt = y11z) (e_y12 : y12.toInt = y12z) (e_y13 : y13.toInt = y13z) (e_y14 : y14.toInt = y14z) (e_y16 : y16.toInt = y16z) (e_y17 : y17.toInt = y17z) (e_y19 : y19.toInt = y19z) (e_y20 : y20.toInt = y20z) (h_K363 : ∀ (a0 : Int64) (a1 : Int64) (a2 : Int32) (a3 : Int32) (a4 : Int32) (a5 : Int32) (a6 : Int32) (a7 : Int64) (a8 : Int32), K363z a0.toInt a1.toInt a2.toInt a3.toInt a4.toInt a5.toInt a6.toInt a7.toInt a8.toInt → K363 a0 a1 a2 a3 a4 a5 a6 a7 a8) (h_Q : ∀ (a0 : Int32), Qz a0.toInt → Q a0) (h : ZJ_LAW_kept_498 v0z y1z y3z y9z y11z y12z y13z y14z y16z y17z y19z y20z K363z Qz) : PJ_LAW_kept_498 v0 y1 y3 y9 y11 y12 y13 y14 y16 y17 y19 y20 K363 Q := by
  subst e_v0
  subst e_y1
  subst e_y3
  subst e_y9
  subst e_y11
  subst e_y12
  subst e_y13
  subst e_y14
  subst e_y16
  subst e_y17
  subst e_y19
  subst e_y20
  unfold ZJ_LAW_kept_498 at h
  unfold PJ_LAW_kept_498
  refine z_LAW_readerOf rfl rfl rfl (fun r107_ h => ?_) h
  refine ⟨fun c1q => ?_, fun c1q => ?_⟩
  · have h := h.1 ((zt_eq rfl rfl).mp c1q)
    refine zJ_LAW_kept_519 rfl rfl rfl rfl rfl rfl rfl rfl rfl rfl rfl rfl rfl rfl (fun a0 a1 a2 a3 a4 a5 a6 a7 a8 h => ?_) h_Q h
    exact h_K363 _ _ _ _ _ _ _ _ _ h
  · have h := h.2 (fun k => c1q ((zt_eq rfl rfl).mpr k))
    refine zJ_LAW_kept_519 rfl rfl rfl rfl rfl rfl rfl rfl rfl rfl rfl rfl (show (y1 - y17).toInt = ((wl (y1.toInt - y17.toInt)) : Int) from (zt_lsub rfl rfl)) rfl (fun a0 a1 a2 a3 a4 a5 a6 a7 a8 h => ?_) h_Q h
    exact h_K363 _ _ _ _ _ _ _ _ _ h
def ZJ_LAW_kept_479 (v0 : TZ) (y1 : Int) (y3 : Int) (y9 : Int) (y11 : Int) (y12 : Int) (y13 : Int) (y16 : Int) (y17 : Int) (y19 : Int) (y20 : Int) (u0 : Int) (K363 : (Int → Int → Int → Int → Int → Int → Int → Int → Int → Prop)) (Q : (Int → Prop)) : Prop := ((0 < (lg_cmpZ y17 y3) → (∃ n105_, n105_ ≤ 9 ∧ ((ZL_LAW_kept_592 n105_ v0 y1 y3 y9 0 y11 y12 y13 u0 y16 y17 y20 0 (fun a0 a1 a2 a3 a4 a5 a6 a7 a8 => (K363 a0 a1 a2 a3 a4 a5 a6 a7 a8)) Q)))) ∧ (¬ 0 < (lg_cmpZ y17 y3) → ((y19 = 0 → (ZJ_LAW_kept_498 v0 y1 y3 y9 y11 y12 y13 u0 y16 y17 y19 y20 (fun a0 a1 a2 a3 a4 a5 a6 a7 a8 => (K363 a0 a1 a2 a3 a4 a5 a6 a7 a8)) Q)) ∧ (¬ y19 = 0 → ((¬ y20 = 0 → (∃ n146_, n146_ ≤ 9 ∧ ((ZL_LAW_kept_592 n146_ v0 y1 y3 y9 0 y11 y12 y13 u0 y16 y17 y20 0 (fun a0 a1 a2 a3 a4 a5 a6 a7 a8 => (K363 a0 a1 a2 a3 a4 a5 a6 a7 a8)) Q)))) ∧ (y20 = 0 → (ZJ_LAW_kept_498 v0 y1 y3 y9 y11 y12 y13 u0 y16 y17 y19 y20 (fun a0 a1 a2 a3 a4 a5 a6 a7 a8 => (K363 a0 a1 a2 a3 a4 a5 a6 a7 a8)) Q)))))))
set_option maxRecDepth 100000 in
theorem zJ_LAW_kept_479 {v0 : TT} {v0z : TZ} {y1 : Int64} {y1z : Int} {y3 : Int64} {y3z : Int} {y9 : Int32} {y9z : Int} {y11 : Int32} {y11z : Int} {y12 : Int32} {y12z : Int} {y13 : Int32} {y13z : Int} {y16 : Int32} {y16z : Int} {y17 : Int64} {y17z : Int} {y19 : Int32} {y19z : Int} {y20 : Int32} {y20z : Int} {u0 : Int64} {u0z : Int}  {K363 : Int64 → Int64 → Int32 → Int32 → Int32 → Int32 → Int32 → Int64 → Int32 → Prop} {K363z : (Int → Int → Int → Int → Int → Int → Int → Int → Int → Prop)} {Q : Int32 → Prop} {Qz : (Int → Prop)} (e_v0 : (aT v0) = v0z) (e_y1 : y1.toInt = y1z) (e_y3 : y3.toInt = y3z) (e_y9 : y9.toInt = y9z) (e_y11 : y11.toInt = y11z) (e_y12 : y12.toInt = y12z) (e_y13 : y13.toInt = y13z) (e_y16 : y16.toInt = y16z) (e_y17 : y17.toInt = y17z) (e_y19 : y19.toInt = y19z) (e_y20 : y20.toInt = y20z) (e_u0 : u0.toInt = u0z) (h_K363 : ∀ (a0 : Int64) (a1 : Int64) (a2 : Int32) (a3 : Int32) (a4 : Int32) (a5 : Int32) (a6 : Int32) (a7 : Int64) (a8 : Int32), K363z a0.toInt a1.toInt a2.toInt a3.toInt a4.toInt a5.toInt a6.toInt a7.toInt a8.toInt → K363 a0 a1 a2 a3 a4 a5 a6 a7 a8) (h_Q : ∀ (a0 : Int32), Qz a0.toInt → Q a0) (h : ZJ_LAW_kept_479 v0z y1z y3z y9z y11z y12z y13z y16z y17z y19z y20z u0z K363z Qz) : PJ_LAW_kept_479 v0 y1 y3 y9 y11 y12 y13 y16 y17 y19 y20 u0 K363 Q := by
  subst e_v0
  subst e_y1
  subst e_y3
  subst e_y9
  subst e_y11
  subst e_y12
  subst e_y13
  subst e_y16
  subst e_y17
  subst e_y19
  subst e_y20
  subst e_u0
  unfold ZJ_LAW_kept_479 at h
  unfold PJ_LAW_kept_479
  refine ⟨fun c5q => ?_, fun c5q => ?_⟩
  · have h := h.1 ((zt_lt rfl (show (((lg_cmp y17 y3) : Int32)).toInt = ((lg_cmpZ y17.toInt y3.toInt) : Int) from (zt_lg_cmp rfl rfl))).mp c5q)
    obtain ⟨n105_, h⟩ := h
    refine ⟨n105_, ?_⟩
    obtain ⟨b1q, h⟩ := h
    refine ⟨b1q, ?_⟩
    refine zL_LAW_kept_592 n105_ rfl rfl rfl rfl rfl rfl rfl rfl rfl rfl rfl rfl rfl (fun a0 a1 a2 a3 a4 a5 a6 a7 a8 h => ?_) h_Q h
    exact h_K363 _ _ _ _ _ _ _ _ _ h
  · have h := h.2 (fun k => c5q ((zt_lt rfl (show (((lg_cmp y17 y3) : Int32)).toInt = ((lg_cmpZ y17.toInt y3.toInt) : Int) from (zt_lg_cmp rfl rfl))).mpr k))
    refine ⟨fun c4q => ?_, fun c4q => ?_⟩
    · have h := h.1 ((zt_eq rfl rfl).mp c4q)
      refine zJ_LAW_kept_498 rfl rfl rfl rfl rfl rfl rfl rfl rfl rfl rfl rfl (fun a0 a1 a2 a3 a4 a5 a6 a7 a8 h => ?_) h_Q h
      exact h_K363 _ _ _ _ _ _ _ _ _ h
    · have h := h.2 (fun k => c4q ((zt_eq rfl rfl).mpr k))
      refine ⟨fun c3q => ?_, fun c3q => ?_⟩
      · have h := h.1 (fun k => c3q ((zt_eq rfl rfl).mpr k))
        obtain ⟨n146_, h⟩ := h
        refine ⟨n146_, ?_⟩
        obtain ⟨b2q, h⟩ := h
        refine ⟨b2q, ?_⟩
        refine zL_LAW_kept_592 n146_ rfl rfl rfl rfl rfl rfl rfl rfl rfl rfl rfl rfl rfl (fun a0 a1 a2 a3 a4 a5 a6 a7 a8 h => ?_) h_Q h
        exact h_K363 _ _ _ _ _ _ _ _ _ h
      · have h := h.2 ((zt_eq rfl rfl).mp c3q)
        refine zJ_LAW_kept_498 rfl rfl rfl rfl rfl rfl rfl rfl rfl rfl rfl rfl (fun a0 a1 a2 a3 a4 a5 a6 a7 a8 h => ?_) h_Q h
        exact h_K363 _ _ _ _ _ _ _ _ _ h
def ZJ_LAW_kept_477 (v0 : TZ) (y1 : Int) (y3 : Int) (y9 : Int) (y11 : Int) (y12 : Int) (y13 : Int) (y14 : Int) (y16 : Int) (y17 : Int) (y19 : Int) (y20 : Int) (K363 : (Int → Int → Int → Int → Int → Int → Int → Int → Int → Prop)) (Q : (Int → Prop)) : Prop := (ZJ_LAW_kept_479 v0 y1 y3 y9 y11 y12 y13 y16 y17 y19 y20 y14 (fun a0 a1 a2 a3 a4 a5 a6 a7 a8 => (K363 a0 a1 a2 a3 a4 a5 a6 a7 a8)) Q)
set_option maxRecDepth 100000 in
theorem zJ_LAW_kept_477 {v0 : TT} {v0z : TZ} {y1 : Int64} {y1z : Int} {y3 : Int64} {y3z : Int} {y9 : Int32} {y9z : Int} {y11 : Int32} {y11z : Int} {y12 : Int32} {y12z : Int} {y13 : Int32} {y13z : Int} {y14 : Int64} {y14z : Int} {y16 : Int32} {y16z : Int} {y17 : Int64} {y17z : Int} {y19 : Int32} {y19z : Int} {y20 : Int32} {y20z : Int}  {K363 : Int64 → Int64 → Int32 → Int32 → Int32 → Int32 → Int32 → Int64 → Int32 → Prop} {K363z : (Int → Int → Int → Int → Int → Int → Int → Int → Int → Prop)} {Q : Int32 → Prop} {Qz : (Int → Prop)} (e_v0 : (aT v0) = v0z) (e_y1 : y1.toInt = y1z) (e_y3 : y3.toInt = y3z) (e_y9 : y9.toInt = y9z) (e_y11 : y11.toInt = y11z) (e_y12 : y12.toInt = y12z) (e_y13 : y13.toInt = y13z) (e_y14 : y14.toInt = y14z) (e_y16 : y16.toInt = y16z) (e_y17 : y17.toInt = y17z) (e_y19 : y19.toInt = y19z) (e_y20 : y20.toInt = y20z) (h_K363 : ∀ (a0 : Int64) (a1 : Int64) (a2 : Int32) (a3 : Int32) (a4 : Int32) (a5 : Int32) (a6 : Int32) (a7 : Int64) (a8 : Int32), K363z a0.toInt a1.toInt a2.toInt a3.toInt a4.toInt a5.toInt a6.toInt a7.toInt a8.toInt → K363 a0 a1 a2 a3 a4 a5 a6 a7 a8) (h_Q : ∀ (a0 : Int32), Qz a0.toInt → Q a0) (h : ZJ_LAW_kept_477 v0z y1z y3z y9z y11z y12z y13z y14z y16z y17z y19z y20z K363z Qz) : PJ_LAW_kept_477 v0 y1 y3 y9 y11 y12 y13 y14 y16 y17 y19 y20 K363 Q := by
  subst e_v0
  subst e_y1
  subst e_y3
  subst e_y9
  subst e_y11
  subst e_y12
  subst e_y13
  subst e_y14
  subst e_y16
  subst e_y17
  subst e_y19
  subst e_y20
  unfold ZJ_LAW_kept_477 at h
  unfold PJ_LAW_kept_477
  refine zJ_LAW_kept_479 rfl rfl rfl rfl rfl rfl rfl rfl rfl rfl rfl rfl (fun a0 a1 a2 a3 a4 a5 a6 a7 a8 h => ?_) h_Q h
  exact h_K363 _ _ _ _ _ _ _ _ _ h
def ZJ_LAW_kept_456 (v0 : TZ) (y1 : Int) (y3 : Int) (y9 : Int) (y11 : Int) (y12 : Int) (y14 : Int) (y16 : Int) (y17 : Int) (y19 : Int) (y20 : Int) (u0 : Int) (u1 : Int) (K363 : (Int → Int → Int → Int → Int → Int → Int → Int → Int → Prop)) (Q : (Int → Prop)) : Prop := ((y19 = 0 → zin (u1 + u0) ∧ (ZJ_LAW_kept_477 v0 y1 y3 y9 y11 y12 (u1 + u0) y14 y16 y17 y19 y20 (fun a0 a1 a2 a3 a4 a5 a6 a7 a8 => (K363 a0 a1 a2 a3 a4 a5 a6 a7 a8)) Q)) ∧ (¬ y19 = 0 → ((0 ≤ (lg_cmpZ y17 y14) → zin (u1 + u0) ∧ (ZJ_LAW_kept_477 v0 y1 y3 y9 y11 y12 (u1 + u0) y14 y16 y17 y19 y20 (fun a0 a1 a2 a3 a4 a5 a6 a7 a8 => (K363 a0 a1 a2 a3 a4 a5 a6 a7 a8)) Q)) ∧ (¬ 0 ≤ (lg_cmpZ y17 y14) → zin (u1 + u0) ∧ (ZJ_LAW_kept_479 v0 y1 y3 y9 y11 y12 (u1 + u0) y16 y17 y19 y20 y17 (fun a0 a1 a2 a3 a4 a5 a6 a7 a8 => (K363 a0 a1 a2 a3 a4 a5 a6 a7 a8)) Q)))))
set_option maxRecDepth 100000 in
theorem zJ_LAW_kept_456 {v0 : TT} {v0z : TZ} {y1 : Int64} {y1z : Int} {y3 : Int64} {y3z : Int} {y9 : Int32} {y9z : Int} {y11 : Int32} {y11z : Int} {y12 : Int32} {y12z : Int} {y14 : Int64} {y14z : Int} {y16 : Int32} {y16z : Int} {y17 : Int64} {y17z : Int} {y19 : Int32} {y19z : Int} {y20 : Int32} {y20z : Int} {u0 : Int32} {u0z : Int} {u1 : Int32} {u1z : Int}  {K363 : Int64 → Int64 → Int32 → Int32 → Int32 → Int32 → Int32 → Int64 → Int32 → Prop} {K363z : (Int → Int → Int → Int → Int → Int → Int → Int → Int → Prop)} {Q : Int32 → Prop} {Qz : (Int → Prop)} (e_v0 : (aT v0) = v0z) (e_y1 : y1.toInt = y1z) (e_y3 : y3.toInt = y3z) (e_y9 : y9.toInt = y9z) (e_y11 : y11.toInt = y11z) (e_y12 : y12.toInt = y12z) (e_y14 : y14.toInt = y14z) (e_y16 : y16.toInt = y16z) (e_y17 : y17.toInt = y17z) (e_y19 : y19.toInt = y19z) (e_y20 : y20.toInt = y20z) (e_u0 : u0.toInt = u0z) (e_u1 : u1.toInt = u1z) (h_K363 : ∀ (a0 : Int64) (a1 : Int64) (a2 : Int32) (a3 : Int32) (a4 : Int32) (a5 : Int32) (a6 : Int32) (a7 : Int64) (a8 : Int32), K363z a0.toInt a1.toInt a2.toInt a3.toInt a4.toInt a5.toInt a6.toInt a7.toInt a8.toInt → K363 a0 a1 a2 a3 a4 a5 a6 a7 a8) (h_Q : ∀ (a0 : Int32), Qz a0.toInt → Q a0) (h : ZJ_LAW_kept_456 v0z y1z y3z y9z y11z y12z y14z y16z y17z y19z y20z u0z u1z K363z Qz) : PJ_LAW_kept_456 v0 y1 y3 y9 y11 y12 y14 y16 y17 y19 y20 u0 u1 K363 Q := by
  subst e_v0
  subst e_y1
  subst e_y3
  subst e_y9
  subst e_y11
  subst e_y12
  subst e_y14
  subst e_y16
  subst e_y17
  subst e_y19
  subst e_y20
  subst e_u0
  subst e_u1
  unfold ZJ_LAW_kept_456 at h
  unfold PJ_LAW_kept_456
  refine ⟨fun c5q => ?_, fun c5q => ?_⟩
  · have h := h.1 ((zt_eq rfl rfl).mp c5q)
    obtain ⟨o1q, h⟩ := h
    refine zJ_LAW_kept_477 rfl rfl rfl rfl rfl rfl (show (((u1 + u0) : Int32)).toInt = ((u1.toInt + u0.toInt) : Int) from (zt_add rfl rfl o1q)) rfl rfl rfl rfl rfl (fun a0 a1 a2 a3 a4 a5 a6 a7 a8 h => ?_) h_Q h
    exact h_K363 _ _ _ _ _ _ _ _ _ h
  · have h := h.2 (fun k => c5q ((zt_eq rfl rfl).mpr k))
    refine ⟨fun c4q => ?_, fun c4q => ?_⟩
    · have h := h.1 ((zt_le rfl (show (((lg_cmp y17 y14) : Int32)).toInt = ((lg_cmpZ y17.toInt y14.toInt) : Int) from (zt_lg_cmp rfl rfl))).mp c4q)
      obtain ⟨o2q, h⟩ := h
      refine zJ_LAW_kept_477 rfl rfl rfl rfl rfl rfl (show (((u1 + u0) : Int32)).toInt = ((u1.toInt + u0.toInt) : Int) from (zt_add rfl rfl o2q)) rfl rfl rfl rfl rfl (fun a0 a1 a2 a3 a4 a5 a6 a7 a8 h => ?_) h_Q h
      exact h_K363 _ _ _ _ _ _ _ _ _ h
    · have h := h.2 (fun k => c4q ((zt_le rfl (show (((lg_cmp y17 y14) : Int32)).toInt = ((lg_cmpZ y17.toInt y14.toInt) : Int) from (zt_lg_cmp rfl rfl))).mpr k))
      obtain ⟨o3q, h⟩ := h
      refine zJ_LAW_kept_479 rfl rfl rfl rfl rfl rfl (show (((u1 + u0) : Int32)).toInt = ((u1.toInt + u0.toInt) : Int) from (zt_add rfl rfl o3q)) rfl rfl rfl rfl rfl (fun a0 a1 a2 a3 a4 a5 a6 a7 a8 h => ?_) h_Q h
      exact h_K363 _ _ _ _ _ _ _ _ _ h
def ZJ_LAW_kept_441 (v0 : TZ) (y1 : Int) (y3 : Int) (y9 : Int) (y11 : Int) (y13 : Int) (y14 : Int) (y16 : Int) (y17 : Int) (y19 : Int) (y20 : Int) (u0 : Int) (u1 : Int) (K363 : (Int → Int → Int → Int → Int → Int → Int → Int → Int → Prop)) (Q : (Int → Prop)) : Prop := ((y20 = 0 → zin (u1 + u0) ∧ (ZJ_LAW_kept_456 v0 y1 y3 y9 y11 (u1 + u0) y14 y16 y17 y19 y20 0 y13 (fun a0 a1 a2 a3 a4 a5 a6 a7 a8 => (K363 a0 a1 a2 a3 a4 a5 a6 a7 a8)) Q)) ∧ (¬ y20 = 0 → zin (u1 + u0) ∧ (ZJ_LAW_kept_456 v0 y1 y3 y9 y11 (u1 + u0) y14 y16 y17 y19 y20 1 y13 (fun a0 a1 a2 a3 a4 a5 a6 a7 a8 => (K363 a0 a1 a2 a3 a4 a5 a6 a7 a8)) Q)))
set_option maxRecDepth 100000 in
theorem zJ_LAW_kept_441 {v0 : TT} {v0z : TZ} {y1 : Int64} {y1z : Int} {y3 : Int64} {y3z : Int} {y9 : Int32} {y9z : Int} {y11 : Int32} {y11z : Int} {y13 : Int32} {y13z : Int} {y14 : Int64} {y14z : Int} {y16 : Int32} {y16z : Int} {y17 : Int64} {y17z : Int} {y19 : Int32} {y19z : Int} {y20 : Int32} {y20z : Int} {u0 : Int32} {u0z : Int} {u1 : Int32} {u1z : Int}  {K363 : Int64 → Int64 → Int32 → Int32 → Int32 → Int32 → Int32 → Int64 → Int32 → Prop} {K363z : (Int → Int → Int → Int → Int → Int → Int → Int → Int → Prop)} {Q : Int32 → Prop} {Qz : (Int → Prop)} (e_v0 : (aT v0) = v0z) (e_y1 : y1.toInt = y1z) (e_y3 : y3.toInt = y3z) (e_y9 : y9.toInt = y9z) (e_y11 : y11.toInt = y11z) (e_y13 : y13.toInt = y13z) (e_y14 : y14.toInt = y14z) (e_y16 : y16.toInt = y16z) (e_y17 : y17.toInt = y17z) (e_y19 : y19.toInt = y19z) (e_y20 : y20.toInt = y20z) (e_u0 : u0.toInt = u0z) (e_u1 : u1.toInt = u1z) (h_K363 : ∀ (a0 : Int64) (a1 : Int64) (a2 : Int32) (a3 : Int32) (a4 : Int32) (a5 : Int32) (a6 : Int32) (a7 : Int64) (a8 : Int32), K363z a0.toInt a1.toInt a2.toInt a3.toInt a4.toInt a5.toInt a6.toInt a7.toInt a8.toInt → K363 a0 a1 a2 a3 a4 a5 a6 a7 a8) (h_Q : ∀ (a0 : Int32), Qz a0.toInt → Q a0) (h : ZJ_LAW_kept_441 v0z y1z y3z y9z y11z y13z y14z y16z y17z y19z y20z u0z u1z K363z Qz) : PJ_LAW_kept_441 v0 y1 y3 y9 y11 y13 y14 y16 y17 y19 y20 u0 u1 K363 Q := by
  subst e_v0
  subst e_y1
  subst e_y3
  subst e_y9
  subst e_y11
  subst e_y13
  subst e_y14
  subst e_y16
  subst e_y17
  subst e_y19
  subst e_y20
  subst e_u0
  subst e_u1
  unfold ZJ_LAW_kept_441 at h
  unfold PJ_LAW_kept_441
  refine ⟨fun c3q => ?_, fun c3q => ?_⟩
  · have h := h.1 ((zt_eq rfl rfl).mp c3q)
    obtain ⟨o1q, h⟩ := h
    refine zJ_LAW_kept_456 rfl rfl rfl rfl rfl (show (((u1 + u0) : Int32)).toInt = ((u1.toInt + u0.toInt) : Int) from (zt_add rfl rfl o1q)) rfl rfl rfl rfl rfl rfl rfl (fun a0 a1 a2 a3 a4 a5 a6 a7 a8 h => ?_) h_Q h
    exact h_K363 _ _ _ _ _ _ _ _ _ h
  · have h := h.2 (fun k => c3q ((zt_eq rfl rfl).mpr k))
    obtain ⟨o2q, h⟩ := h
    refine zJ_LAW_kept_456 rfl rfl rfl rfl rfl (show (((u1 + u0) : Int32)).toInt = ((u1.toInt + u0.toInt) : Int) from (zt_add rfl rfl o2q)) rfl rfl rfl rfl rfl rfl rfl (fun a0 a1 a2 a3 a4 a5 a6 a7 a8 h => ?_) h_Q h
    exact h_K363 _ _ _ _ _ _ _ _ _ h
def ZJ_LAW_kept_424 (v0 : TZ) (y1 : Int) (y3 : Int) (y9 : Int) (y11 : Int) (y12 : Int) (y13 : Int) (y14 : Int) (y16 : Int) (y17 : Int) (y19 : Int) (u0 : Int) (K363 : (Int → Int → Int → Int → Int → Int → Int → Int → Int → Prop)) (Q : (Int → Prop)) : Prop := ((y19 = 0 → zin (y11 + 1) ∧ (ZJ_LAW_kept_441 v0 y1 y3 y9 (y11 + 1) y13 y14 y16 y17 y19 u0 0 y12 (fun a0 a1 a2 a3 a4 a5 a6 a7 a8 => (K363 a0 a1 a2 a3 a4 a5 a6 a7 a8)) Q)) ∧ (¬ y19 = 0 → zin (y11 + 1) ∧ (ZJ_LAW_kept_441 v0 y1 y3 y9 (y11 + 1) y13 y14 y16 y17 y19 u0 1 y12 (fun a0 a1 a2 a3 a4 a5 a6 a7 a8 => (K363 a0 a1 a2 a3 a4 a5 a6 a7 a8)) Q)))
set_option maxRecDepth 100000 in
theorem zJ_LAW_kept_424 {v0 : TT} {v0z : TZ} {y1 : Int64} {y1z : Int} {y3 : Int64} {y3z : Int} {y9 : Int32} {y9z : Int} {y11 : Int32} {y11z : Int} {y12 : Int32} {y12z : Int} {y13 : Int32} {y13z : Int} {y14 : Int64} {y14z : Int} {y16 : Int32} {y16z : Int} {y17 : Int64} {y17z : Int} {y19 : Int32} {y19z : Int} {u0 : Int32} {u0z : Int}  {K363 : Int64 → Int64 → Int32 → Int32 → Int32 → Int32 → Int32 → Int64 → Int32 → Prop} {K363z : (Int → Int → Int → Int → Int → Int → Int → Int → Int → Prop)} {Q : Int32 → Prop} {Qz : (Int → Prop)} (e_v0 : (aT v0) = v0z) (e_y1 : y1.toInt = y1z) (e_y3 : y3.toInt = y3z) (e_y9 : y9.toInt = y9z) (e_y11 : y11.toInt = y11z) (e_y12 : y12.toInt = y12z) (e_y13 : y13.toInt = y13z) (e_y14 : y14.toInt = y14z) (e_y16 : y16.toInt = y16z) (e_y17 : y17.toInt = y17z) (e_y19 : y19.toInt = y19z) (e_u0 : u0.toInt = u0z) (h_K363 : ∀ (a0 : Int64) (a1 : Int64) (a2 : Int32) (a3 : Int32) (a4 : Int32) (a5 : Int32) (a6 : Int32) (a7 : Int64) (a8 : Int32), K363z a0.toInt a1.toInt a2.toInt a3.toInt a4.toInt a5.toInt a6.toInt a7.toInt a8.toInt → K363 a0 a1 a2 a3 a4 a5 a6 a7 a8) (h_Q : ∀ (a0 : Int32), Qz a0.toInt → Q a0) (h : ZJ_LAW_kept_424 v0z y1z y3z y9z y11z y12z y13z y14z y16z y17z y19z u0z K363z Qz) : PJ_LAW_kept_424 v0 y1 y3 y9 y11 y12 y13 y14 y16 y17 y19 u0 K363 Q := by
  subst e_v0
  subst e_y1
  subst e_y3
  subst e_y9
  subst e_y11
  subst e_y12
  subst e_y13
  subst e_y14
  subst e_y16
  subst e_y17
  subst e_y19
  subst e_u0
  unfold ZJ_LAW_kept_424 at h
  unfold PJ_LAW_kept_424
  refine ⟨fun c3q => ?_, fun c3q => ?_⟩
  · have h := h.1 ((zt_eq rfl rfl).mp c3q)
    obtain ⟨o1q, h⟩ := h
    refine zJ_LAW_kept_441 rfl rfl rfl rfl (show (((y11 + 1) : Int32)).toInt = ((y11.toInt + 1) : Int) from (zt_add rfl rfl o1q)) rfl rfl rfl rfl rfl rfl rfl rfl (fun a0 a1 a2 a3 a4 a5 a6 a7 a8 h => ?_) h_Q h
    exact h_K363 _ _ _ _ _ _ _ _ _ h
  · have h := h.2 (fun k => c3q ((zt_eq rfl rfl).mpr k))
    obtain ⟨o2q, h⟩ := h
    refine zJ_LAW_kept_441 rfl rfl rfl rfl (show (((y11 + 1) : Int32)).toInt = ((y11.toInt + 1) : Int) from (zt_add rfl rfl o2q)) rfl rfl rfl rfl rfl rfl rfl rfl (fun a0 a1 a2 a3 a4 a5 a6 a7 a8 h => ?_) h_Q h
    exact h_K363 _ _ _ _ _ _ _ _ _ h
def ZJ_LAW_kept_410 (v0 : TZ) (y1 : Int) (y3 : Int) (y9 : Int) (y11 : Int) (y12 : Int) (y13 : Int) (y14 : Int) (y16 : Int) (y17 : Int) (u0 : Int) (K363 : (Int → Int → Int → Int → Int → Int → Int → Int → Int → Prop)) (Q : (Int → Prop)) : Prop := ((0 ≤ (lg_cmpZ y17 y1) → (ZJ_LAW_kept_424 v0 y1 y3 y9 y11 y12 y13 y14 y16 y17 u0 0 (fun a0 a1 a2 a3 a4 a5 a6 a7 a8 => (K363 a0 a1 a2 a3 a4 a5 a6 a7 a8)) Q)) ∧ (¬ 0 ≤ (lg_cmpZ y17 y1) → (ZJ_LAW_kept_424 v0 y1 y3 y9 y11 y12 y13 y14 y16 y17 u0 1 (fun a0 a1 a2 a3 a4 a5 a6 a7 a8 => (K363 a0 a1 a2 a3 a4 a5 a6 a7 a8)) Q)))
set_option maxRecDepth 100000 in
theorem zJ_LAW_kept_410 {v0 : TT} {v0z : TZ} {y1 : Int64} {y1z : Int} {y3 : Int64} {y3z : Int} {y9 : Int32} {y9z : Int} {y11 : Int32} {y11z : Int} {y12 : Int32} {y12z : Int} {y13 : Int32} {y13z : Int} {y14 : Int64} {y14z : Int} {y16 : Int32} {y16z : Int} {y17 : Int64} {y17z : Int} {u0 : Int32} {u0z : Int}  {K363 : Int64 → Int64 → Int32 → Int32 → Int32 → Int32 → Int32 → Int64 → Int32 → Prop} {K363z : (Int → Int → Int → Int → Int → Int → Int → Int → Int → Prop)} {Q : Int32 → Prop} {Qz : (Int → Prop)} (e_v0 : (aT v0) = v0z) (e_y1 : y1.toInt = y1z) (e_y3 : y3.toInt = y3z) (e_y9 : y9.toInt = y9z) (e_y11 : y11.toInt = y11z) (e_y12 : y12.toInt = y12z) (e_y13 : y13.toInt = y13z) (e_y14 : y14.toInt = y14z) (e_y16 : y16.toInt = y16z) (e_y17 : y17.toInt = y17z) (e_u0 : u0.toInt = u0z) (h_K363 : ∀ (a0 : Int64) (a1 : Int64) (a2 : Int32) (a3 : Int32) (a4 : Int32) (a5 : Int32) (a6 : Int32) (a7 : Int64) (a8 : Int32), K363z a0.toInt a1.toInt a2.toInt a3.toInt a4.toInt a5.toInt a6.toInt a7.toInt a8.toInt → K363 a0 a1 a2 a3 a4 a5 a6 a7 a8) (h_Q : ∀ (a0 : Int32), Qz a0.toInt → Q a0) (h : ZJ_LAW_kept_410 v0z y1z y3z y9z y11z y12z y13z y14z y16z y17z u0z K363z Qz) : PJ_LAW_kept_410 v0 y1 y3 y9 y11 y12 y13 y14 y16 y17 u0 K363 Q := by
  subst e_v0
  subst e_y1
  subst e_y3
  subst e_y9
  subst e_y11
  subst e_y12
  subst e_y13
  subst e_y14
  subst e_y16
  subst e_y17
  subst e_u0
  unfold ZJ_LAW_kept_410 at h
  unfold PJ_LAW_kept_410
  refine ⟨fun c1q => ?_, fun c1q => ?_⟩
  · have h := h.1 ((zt_le rfl (show (((lg_cmp y17 y1) : Int32)).toInt = ((lg_cmpZ y17.toInt y1.toInt) : Int) from (zt_lg_cmp rfl rfl))).mp c1q)
    refine zJ_LAW_kept_424 rfl rfl rfl rfl rfl rfl rfl rfl rfl rfl rfl rfl (fun a0 a1 a2 a3 a4 a5 a6 a7 a8 h => ?_) h_Q h
    exact h_K363 _ _ _ _ _ _ _ _ _ h
  · have h := h.2 (fun k => c1q ((zt_le rfl (show (((lg_cmp y17 y1) : Int32)).toInt = ((lg_cmpZ y17.toInt y1.toInt) : Int) from (zt_lg_cmp rfl rfl))).mpr k))
    refine zJ_LAW_kept_424 rfl rfl rfl rfl rfl rfl rfl rfl rfl rfl rfl rfl (fun a0 a1 a2 a3 a4 a5 a6 a7 a8 h => ?_) h_Q h
    exact h_K363 _ _ _ _ _ _ _ _ _ h
def ZL_LAW_kept_363 : Nat → TZ → Int → Int → Int → Int → Int → Int → Int → Int → Int → (Int → Prop) → Prop
  | 0, _, _, _, _, _, _, _, _, _, _, _ => False
  | n + 1, v0, y1, y3, y9, y10, y11, y12, y13, y14, y16, Q => ((8 ≤ y16 → (ZJ_LAW_kept_653 v0 y9 y10 y11 y12 y13 y14 Q)) ∧ (¬ 8 ≤ y16 → ((y10 = 0 → (ZJ_LAW_kept_653 v0 y9 y10 y11 y12 y13 y14 Q)) ∧ (¬ y10 = 0 → (Z_LAW_readerOf y16 0 v0 (fun r74_ => (((lg_cmpZ r74_ (-9000000000000000001)) = 0 → zin (y16 + 1) ∧ (ZL_LAW_kept_363 n v0 y1 y3 y9 y10 y11 y12 y13 y14 (y16 + 1) Q)) ∧ (¬ (lg_cmpZ r74_ (-9000000000000000001)) = 0 → (Z_LAW_readerOf y16 1 v0 (fun r80_ => ((¬ (lg_cmpZ r80_ 1) = 0 → (ZJ_LAW_kept_410 v0 y1 y3 y9 y11 y12 y13 y14 y16 r74_ 0 (fun a0 a1 a2 a3 a4 a5 a6 a7 a8 => (ZL_LAW_kept_363 n v0 a0 a1 a2 a3 a4 a5 a6 a7 a8 Q)) Q)) ∧ ((lg_cmpZ r80_ 1) = 0 → (ZJ_LAW_kept_410 v0 y1 y3 y9 y11 y12 y13 y14 y16 r74_ 1 (fun a0 a1 a2 a3 a4 a5 a6 a7 a8 => (ZL_LAW_kept_363 n v0 a0 a1 a2 a3 a4 a5 a6 a7 a8 Q)) Q)))))))))))))
set_option maxRecDepth 100000 in
theorem zL_LAW_kept_363 (n : Nat) : ∀ {v0 : TT} {v0z : TZ} {y1 : Int64} {y1z : Int} {y3 : Int64} {y3z : Int} {y9 : Int32} {y9z : Int} {y10 : Int32} {y10z : Int} {y11 : Int32} {y11z : Int} {y12 : Int32} {y12z : Int} {y13 : Int32} {y13z : Int} {y14 : Int64} {y14z : Int} {y16 : Int32} {y16z : Int}  {Q : Int32 → Prop} {Qz : (Int → Prop)} (e_v0 : (aT v0) = v0z) (e_y1 : y1.toInt = y1z) (e_y3 : y3.toInt = y3z) (e_y9 : y9.toInt = y9z) (e_y10 : y10.toInt = y10z) (e_y11 : y11.toInt = y11z) (e_y12 : y12.toInt = y12z) (e_y13 : y13.toInt = y13z) (e_y14 : y14.toInt = y14z) (e_y16 : y16.toInt = y16z) (h_Q : ∀ (a0 : Int32), Qz a0.toInt → Q a0) (h : ZL_LAW_kept_363 n v0z y1z y3z y9z y10z y11z y12z y13z y14z y16z Qz), PL_LAW_kept_363 n v0 y1 y3 y9 y10 y11 y12 y13 y14 y16 Q := by
  induction n with
  | zero =>
    intro v0 v0z y1 y1z y3 y3z y9 y9z y10 y10z y11 y11z y12 y12z y13 y13z y14 y14z y16 y16z Q Qz e_v0 e_y1 e_y3 e_y9 e_y10 e_y11 e_y12 e_y13 e_y14 e_y16 h_Q h
    exact (h : False).elim
  | succ n ih =>
    intro v0 v0z y1 y1z y3 y3z y9 y9z y10 y10z y11 y11z y12 y12z y13 y13z y14 y14z y16 y16z Q Qz e_v0 e_y1 e_y3 e_y9 e_y10 e_y11 e_y12 e_y13 e_y14 e_y16 h_Q h
    subst e_v0
    subst e_y1
    subst e_y3
    subst e_y9
    subst e_y10
    subst e_y11
    subst e_y12
    subst e_y13
    subst e_y14
    subst e_y16
    rw [ZL_LAW_kept_363] at h
    rw [PL_LAW_kept_363]
    refine ⟨fun c5q => ?_, fun c5q => ?_⟩
    · have h := h.1 ((zt_le rfl rfl).mp c5q)
      refine zJ_LAW_kept_653 rfl rfl rfl rfl rfl rfl rfl h_Q h
    · have h := h.2 (fun k => c5q ((zt_le rfl rfl).mpr k))
      refine ⟨fun c4q => ?_, fun c4q => ?_⟩
      · have h := h.1 ((zt_eq rfl rfl).mp c4q)
        refine zJ_LAW_kept_653 rfl rfl rfl rfl rfl rfl rfl h_Q h
      · have h := h.2 (fun k => c4q ((zt_eq rfl rfl).mpr k))
        refine z_LAW_readerOf rfl rfl rfl (fun r74_ h => ?_) h
        refine ⟨fun c3q => ?_, fun c3q => ?_⟩
        · have h := h.1 ((zt_eq (show (((lg_cmp r74_ (-9000000000000000001)) : Int32)).toInt = ((lg_cmpZ r74_.toInt (-9000000000000000001)) : Int) from (zt_lg_cmp rfl rfl)) rfl).mp c3q)
          obtain ⟨o1q, h⟩ := h
          refine ih rfl rfl rfl rfl rfl rfl rfl rfl rfl (show (((y16 + 1) : Int32)).toInt = ((y16.toInt + 1) : Int) from (zt_add rfl rfl o1q)) h_Q h
        · have h := h.2 (fun k => c3q ((zt_eq (show (((lg_cmp r74_ (-9000000000000000001)) : Int32)).toInt = ((lg_cmpZ r74_.toInt (-9000000000000000001)) : Int) from (zt_lg_cmp rfl rfl)) rfl).mpr k))
          refine z_LAW_readerOf rfl rfl rfl (fun r80_ h => ?_) h
          refine ⟨fun c2q => ?_, fun c2q => ?_⟩
          · have h := h.1 (fun k => c2q ((zt_eq (show (((lg_cmp r80_ 1) : Int32)).toInt = ((lg_cmpZ r80_.toInt 1) : Int) from (zt_lg_cmp rfl rfl)) rfl).mpr k))
            refine zJ_LAW_kept_410 rfl rfl rfl rfl rfl rfl rfl rfl rfl rfl rfl (fun a0 a1 a2 a3 a4 a5 a6 a7 a8 h => ?_) h_Q h
            refine ih rfl rfl rfl rfl rfl rfl rfl rfl rfl rfl h_Q h
          · have h := h.2 ((zt_eq (show (((lg_cmp r80_ 1) : Int32)).toInt = ((lg_cmpZ r80_.toInt 1) : Int) from (zt_lg_cmp rfl rfl)) rfl).mp c2q)
            refine zJ_LAW_kept_410 rfl rfl rfl rfl rfl rfl rfl rfl rfl rfl rfl (fun a0 a1 a2 a3 a4 a5 a6 a7 a8 h => ?_) h_Q h
            refine ih rfl rfl rfl rfl rfl rfl rfl rfl rfl rfl h_Q h
def ZJ_LAW_kept_348 (v0 : TZ) (y1 : Int) (y3 : Int) (y9 : Int) (y10 : Int) (Q : (Int → Prop)) : Prop := (∃ n148_, n148_ ≤ 9 ∧ ((ZL_LAW_kept_363 n148_ v0 y1 y3 y9 y10 0 0 0 y3 0 Q)))
set_option maxRecDepth 100000 in
theorem zJ_LAW_kept_348 {v0 : TT} {v0z : TZ} {y1 : Int64} {y1z : Int} {y3 : Int64} {y3z : Int} {y9 : Int32} {y9z : Int} {y10 : Int32} {y10z : Int}  {Q : Int32 → Prop} {Qz : (Int → Prop)} (e_v0 : (aT v0) = v0z) (e_y1 : y1.toInt = y1z) (e_y3 : y3.toInt = y3z) (e_y9 : y9.toInt = y9z) (e_y10 : y10.toInt = y10z) (h_Q : ∀ (a0 : Int32), Qz a0.toInt → Q a0) (h : ZJ_LAW_kept_348 v0z y1z y3z y9z y10z Qz) : PJ_LAW_kept_348 v0 y1 y3 y9 y10 Q := by
  subst e_v0
  subst e_y1
  subst e_y3
  subst e_y9
  subst e_y10
  unfold ZJ_LAW_kept_348 at h
  unfold PJ_LAW_kept_348
  obtain ⟨n148_, h⟩ := h
  refine ⟨n148_, ?_⟩
  obtain ⟨b1q, h⟩ := h
  refine ⟨b1q, ?_⟩
  refine zL_LAW_kept_363 n148_ rfl rfl rfl rfl rfl rfl rfl rfl rfl rfl h_Q h
def ZL_LAW_kept_282 : Nat → TZ → Int → Int → Int → Int → Int → (Int → Prop) → Prop
  | 0, _, _, _, _, _, _, _ => False
  | n + 1, v0, y1, y3, y9, y10, y11, Q => ((8 ≤ y11 → (ZJ_LAW_kept_348 v0 y1 y3 y9 y10 Q)) ∧ (¬ 8 ≤ y11 → ((y10 = 0 → (ZJ_LAW_kept_348 v0 y1 y3 y9 y10 Q)) ∧ (¬ y10 = 0 → (Z_LAW_truth y11 (wi y1) 0 v0 (fun r150_ => (Z_LAW_base y11 v0 (fun r155_ => ((¬ (lg_cmpZ r150_ r155_) = 0 → zin (y11 + 1) ∧ (ZL_LAW_kept_282 n v0 y1 y3 y9 0 (y11 + 1) Q)) ∧ ((lg_cmpZ r150_ r155_) = 0 → (Z_LAW_truth y11 (wi y3) 0 v0 (fun r161_ => (Z_LAW_truth y11 (wi y3) 1 v0 (fun r166_ => ((¬ (lg_cmpZ r161_ r166_) = 0 → zin (y11 + 1) ∧ (ZL_LAW_kept_282 n v0 y1 y3 y9 0 (y11 + 1) Q)) ∧ ((lg_cmpZ r161_ r166_) = 0 → zin (y11 + 1) ∧ (ZL_LAW_kept_282 n v0 y1 y3 y9 1 (y11 + 1) Q)))))))))))))))))
set_option maxRecDepth 100000 in
theorem zL_LAW_kept_282 (n : Nat) : ∀ {v0 : TT} {v0z : TZ} {y1 : Int64} {y1z : Int} {y3 : Int64} {y3z : Int} {y9 : Int32} {y9z : Int} {y10 : Int32} {y10z : Int} {y11 : Int32} {y11z : Int}  {Q : Int32 → Prop} {Qz : (Int → Prop)} (e_v0 : (aT v0) = v0z) (e_y1 : y1.toInt = y1z) (e_y3 : y3.toInt = y3z) (e_y9 : y9.toInt = y9z) (e_y10 : y10.toInt = y10z) (e_y11 : y11.toInt = y11z) (h_Q : ∀ (a0 : Int32), Qz a0.toInt → Q a0) (h : ZL_LAW_kept_282 n v0z y1z y3z y9z y10z y11z Qz), PL_LAW_kept_282 n v0 y1 y3 y9 y10 y11 Q := by
  induction n with
  | zero =>
    intro v0 v0z y1 y1z y3 y3z y9 y9z y10 y10z y11 y11z Q Qz e_v0 e_y1 e_y3 e_y9 e_y10 e_y11 h_Q h
    exact (h : False).elim
  | succ n ih =>
    intro v0 v0z y1 y1z y3 y3z y9 y9z y10 y10z y11 y11z Q Qz e_v0 e_y1 e_y3 e_y9 e_y10 e_y11 h_Q h
    subst e_v0
    subst e_y1
    subst e_y3
    subst e_y9
    subst e_y10
    subst e_y11
    rw [ZL_LAW_kept_282] at h
    rw [PL_LAW_kept_282]
    refine ⟨fun c7q => ?_, fun c7q => ?_⟩
    · have h := h.1 ((zt_le rfl rfl).mp c7q)
      refine zJ_LAW_kept_348 rfl rfl rfl rfl rfl h_Q h
    · have h := h.2 (fun k => c7q ((zt_le rfl rfl).mpr k))
      refine ⟨fun c6q => ?_, fun c6q => ?_⟩
      · have h := h.1 ((zt_eq rfl rfl).mp c6q)
        refine zJ_LAW_kept_348 rfl rfl rfl rfl rfl h_Q h
      · have h := h.2 (fun k => c6q ((zt_eq rfl rfl).mpr k))
        refine z_LAW_truth rfl (show (((Int64.toInt32 y1) : Int32)).toInt = ((wi y1.toInt) : Int) from (zt_l2i rfl)) rfl rfl (fun r150_ h => ?_) h
        refine z_LAW_base rfl rfl (fun r155_ h => ?_) h
        refine ⟨fun c5q => ?_, fun c5q => ?_⟩
        · have h := h.1 (fun k => c5q ((zt_eq (show (((lg_cmp r150_ r155_) : Int32)).toInt = ((lg_cmpZ r150_.toInt r155_.toInt) : Int) from (zt_lg_cmp rfl rfl)) rfl).mpr k))
          obtain ⟨o1q, h⟩ := h
          refine ih rfl rfl rfl rfl rfl (show (((y11 + 1) : Int32)).toInt = ((y11.toInt + 1) : Int) from (zt_add rfl rfl o1q)) h_Q h
        · have h := h.2 ((zt_eq (show (((lg_cmp r150_ r155_) : Int32)).toInt = ((lg_cmpZ r150_.toInt r155_.toInt) : Int) from (zt_lg_cmp rfl rfl)) rfl).mp c5q)
          refine z_LAW_truth rfl (show (((Int64.toInt32 y3) : Int32)).toInt = ((wi y3.toInt) : Int) from (zt_l2i rfl)) rfl rfl (fun r161_ h => ?_) h
          refine z_LAW_truth rfl (show (((Int64.toInt32 y3) : Int32)).toInt = ((wi y3.toInt) : Int) from (zt_l2i rfl)) rfl rfl (fun r166_ h => ?_) h
          refine ⟨fun c4q => ?_, fun c4q => ?_⟩
          · have h := h.1 (fun k => c4q ((zt_eq (show (((lg_cmp r161_ r166_) : Int32)).toInt = ((lg_cmpZ r161_.toInt r166_.toInt) : Int) from (zt_lg_cmp rfl rfl)) rfl).mpr k))
            obtain ⟨o2q, h⟩ := h
            refine ih rfl rfl rfl rfl rfl (show (((y11 + 1) : Int32)).toInt = ((y11.toInt + 1) : Int) from (zt_add rfl rfl o2q)) h_Q h
          · have h := h.2 ((zt_eq (show (((lg_cmp r161_ r166_) : Int32)).toInt = ((lg_cmpZ r161_.toInt r166_.toInt) : Int) from (zt_lg_cmp rfl rfl)) rfl).mp c4q)
            obtain ⟨o3q, h⟩ := h
            refine ih rfl rfl rfl rfl rfl (show (((y11 + 1) : Int32)).toInt = ((y11.toInt + 1) : Int) from (zt_add rfl rfl o3q)) h_Q h
def ZJ_LAW_kept_249 (v0 : TZ) (y1 : Int) (y3 : Int) (y5 : Int) (y7 : Int) (y9 : Int) (y10 : Int) (Q : (Int → Prop)) : Prop := ((y10 = 0 → (∃ n172_, n172_ ≤ 9 ∧ ((ZL_LAW_kept_282 n172_ v0 y1 y3 y9 0 0 Q)))) ∧ (¬ y10 = 0 → ((¬ (lg_cmpZ y5 y3) = 0 → (∃ n174_, n174_ ≤ 9 ∧ ((ZL_LAW_kept_282 n174_ v0 y1 y3 y9 0 0 Q)))) ∧ ((lg_cmpZ y5 y3) = 0 → (Z_LAW_about 3 v0 (fun r175_ => ((¬ (lg_cmpZ r175_ y7) = 0 → (∃ n181_, n181_ ≤ 9 ∧ ((ZL_LAW_kept_282 n181_ v0 y1 y3 y9 0 0 Q)))) ∧ ((lg_cmpZ r175_ y7) = 0 → (∃ n182_, n182_ ≤ 9 ∧ ((ZL_LAW_kept_282 n182_ v0 y1 y3 y9 1 0 Q)))))))))))
set_option maxRecDepth 100000 in
theorem zJ_LAW_kept_249 {v0 : TT} {v0z : TZ} {y1 : Int64} {y1z : Int} {y3 : Int64} {y3z : Int} {y5 : Int64} {y5z : Int} {y7 : Int64} {y7z : Int} {y9 : Int32} {y9z : Int} {y10 : Int32} {y10z : Int}  {Q : Int32 → Prop} {Qz : (Int → Prop)} (e_v0 : (aT v0) = v0z) (e_y1 : y1.toInt = y1z) (e_y3 : y3.toInt = y3z) (e_y5 : y5.toInt = y5z) (e_y7 : y7.toInt = y7z) (e_y9 : y9.toInt = y9z) (e_y10 : y10.toInt = y10z) (h_Q : ∀ (a0 : Int32), Qz a0.toInt → Q a0) (h : ZJ_LAW_kept_249 v0z y1z y3z y5z y7z y9z y10z Qz) : PJ_LAW_kept_249 v0 y1 y3 y5 y7 y9 y10 Q := by
  subst e_v0
  subst e_y1
  subst e_y3
  subst e_y5
  subst e_y7
  subst e_y9
  subst e_y10
  unfold ZJ_LAW_kept_249 at h
  unfold PJ_LAW_kept_249
  refine ⟨fun c7q => ?_, fun c7q => ?_⟩
  · have h := h.1 ((zt_eq rfl rfl).mp c7q)
    obtain ⟨n172_, h⟩ := h
    refine ⟨n172_, ?_⟩
    obtain ⟨b1q, h⟩ := h
    refine ⟨b1q, ?_⟩
    refine zL_LAW_kept_282 n172_ rfl rfl rfl rfl rfl rfl h_Q h
  · have h := h.2 (fun k => c7q ((zt_eq rfl rfl).mpr k))
    refine ⟨fun c6q => ?_, fun c6q => ?_⟩
    · have h := h.1 (fun k => c6q ((zt_eq (show (((lg_cmp y5 y3) : Int32)).toInt = ((lg_cmpZ y5.toInt y3.toInt) : Int) from (zt_lg_cmp rfl rfl)) rfl).mpr k))
      obtain ⟨n174_, h⟩ := h
      refine ⟨n174_, ?_⟩
      obtain ⟨b2q, h⟩ := h
      refine ⟨b2q, ?_⟩
      refine zL_LAW_kept_282 n174_ rfl rfl rfl rfl rfl rfl h_Q h
    · have h := h.2 ((zt_eq (show (((lg_cmp y5 y3) : Int32)).toInt = ((lg_cmpZ y5.toInt y3.toInt) : Int) from (zt_lg_cmp rfl rfl)) rfl).mp c6q)
      refine z_LAW_about rfl rfl (fun r175_ h => ?_) h
      refine ⟨fun c5q => ?_, fun c5q => ?_⟩
      · have h := h.1 (fun k => c5q ((zt_eq (show (((lg_cmp r175_ y7) : Int32)).toInt = ((lg_cmpZ r175_.toInt y7.toInt) : Int) from (zt_lg_cmp rfl rfl)) rfl).mpr k))
        obtain ⟨n181_, h⟩ := h
        refine ⟨n181_, ?_⟩
        obtain ⟨b3q, h⟩ := h
        refine ⟨b3q, ?_⟩
        refine zL_LAW_kept_282 n181_ rfl rfl rfl rfl rfl rfl h_Q h
      · have h := h.2 ((zt_eq (show (((lg_cmp r175_ y7) : Int32)).toInt = ((lg_cmpZ r175_.toInt y7.toInt) : Int) from (zt_lg_cmp rfl rfl)) rfl).mp c5q)
        obtain ⟨n182_, h⟩ := h
        refine ⟨n182_, ?_⟩
        obtain ⟨b4q, h⟩ := h
        refine ⟨b4q, ?_⟩
        refine zL_LAW_kept_282 n182_ rfl rfl rfl rfl rfl rfl h_Q h
def ZJ_LAW_kept_227 (v0 : TZ) (y1 : Int) (y3 : Int) (y5 : Int) (y7 : Int) (y9 : Int) (y11 : Int) (y12 : Int) (y14 : Int) (u0 : Int) (K32 : (Int → Int → Int → Int → Int → Int → Int → Prop)) (Q : (Int → Prop)) : Prop := zin (y11 + 1) ∧ (K32 y1 y3 (wl (y5 + y12)) (wl (y7 + y14)) y9 u0 (y11 + 1))
set_option maxRecDepth 100000 in
theorem zJ_LAW_kept_227 {v0 : TT} {v0z : TZ} {y1 : Int64} {y1z : Int} {y3 : Int64} {y3z : Int} {y5 : Int64} {y5z : Int} {y7 : Int64} {y7z : Int} {y9 : Int32} {y9z : Int} {y11 : Int32} {y11z : Int} {y12 : Int64} {y12z : Int} {y14 : Int64} {y14z : Int} {u0 : Int32} {u0z : Int}  {K32 : Int64 → Int64 → Int64 → Int64 → Int32 → Int32 → Int32 → Prop} {K32z : (Int → Int → Int → Int → Int → Int → Int → Prop)} {Q : Int32 → Prop} {Qz : (Int → Prop)} (e_v0 : (aT v0) = v0z) (e_y1 : y1.toInt = y1z) (e_y3 : y3.toInt = y3z) (e_y5 : y5.toInt = y5z) (e_y7 : y7.toInt = y7z) (e_y9 : y9.toInt = y9z) (e_y11 : y11.toInt = y11z) (e_y12 : y12.toInt = y12z) (e_y14 : y14.toInt = y14z) (e_u0 : u0.toInt = u0z) (h_K32 : ∀ (a0 : Int64) (a1 : Int64) (a2 : Int64) (a3 : Int64) (a4 : Int32) (a5 : Int32) (a6 : Int32), K32z a0.toInt a1.toInt a2.toInt a3.toInt a4.toInt a5.toInt a6.toInt → K32 a0 a1 a2 a3 a4 a5 a6) (h_Q : ∀ (a0 : Int32), Qz a0.toInt → Q a0) (h : ZJ_LAW_kept_227 v0z y1z y3z y5z y7z y9z y11z y12z y14z u0z K32z Qz) : PJ_LAW_kept_227 v0 y1 y3 y5 y7 y9 y11 y12 y14 u0 K32 Q := by
  subst e_v0
  subst e_y1
  subst e_y3
  subst e_y5
  subst e_y7
  subst e_y9
  subst e_y11
  subst e_y12
  subst e_y14
  subst e_u0
  unfold ZJ_LAW_kept_227 at h
  unfold PJ_LAW_kept_227
  obtain ⟨o1q, h⟩ := h
  exact h_K32 _ _ _ _ _ _ _ (Eq.mpr (Eq.trans (Eq.trans (congrArg (fun k => K32z y1.toInt y3.toInt k ((y7 + y14).toInt) (((y9 : Int32)).toInt) (((u0 : Int32)).toInt) ((((y11 + 1) : Int32)).toInt)) (show (y5 + y12).toInt = ((wl (y5.toInt + y12.toInt)) : Int) from (zt_ladd rfl rfl))) (congrArg (fun k => K32z y1.toInt y3.toInt (wl (y5.toInt + y12.toInt)) k (((y9 : Int32)).toInt) (((u0 : Int32)).toInt) ((((y11 + 1) : Int32)).toInt)) (show (y7 + y14).toInt = ((wl (y7.toInt + y14.toInt)) : Int) from (zt_ladd rfl rfl)))) (congrArg (fun k => K32z y1.toInt y3.toInt (wl (y5.toInt + y12.toInt)) (wl (y7.toInt + y14.toInt)) y9.toInt u0.toInt k) (show (((y11 + 1) : Int32)).toInt = ((y11.toInt + 1) : Int) from (zt_add rfl rfl o1q)))) h)
def ZJ_LAW_kept_226 (v0 : TZ) (y1 : Int) (y3 : Int) (y5 : Int) (y7 : Int) (y9 : Int) (y11 : Int) (y12 : Int) (y14 : Int) (K32 : (Int → Int → Int → Int → Int → Int → Int → Prop)) (Q : (Int → Prop)) : Prop := (ZJ_LAW_kept_227 v0 y1 y3 y5 y7 y9 y11 y12 y14 0 (fun a0 a1 a2 a3 a4 a5 a6 => (K32 a0 a1 a2 a3 a4 a5 a6)) Q)
set_option maxRecDepth 100000 in
theorem zJ_LAW_kept_226 {v0 : TT} {v0z : TZ} {y1 : Int64} {y1z : Int} {y3 : Int64} {y3z : Int} {y5 : Int64} {y5z : Int} {y7 : Int64} {y7z : Int} {y9 : Int32} {y9z : Int} {y11 : Int32} {y11z : Int} {y12 : Int64} {y12z : Int} {y14 : Int64} {y14z : Int}  {K32 : Int64 → Int64 → Int64 → Int64 → Int32 → Int32 → Int32 → Prop} {K32z : (Int → Int → Int → Int → Int → Int → Int → Prop)} {Q : Int32 → Prop} {Qz : (Int → Prop)} (e_v0 : (aT v0) = v0z) (e_y1 : y1.toInt = y1z) (e_y3 : y3.toInt = y3z) (e_y5 : y5.toInt = y5z) (e_y7 : y7.toInt = y7z) (e_y9 : y9.toInt = y9z) (e_y11 : y11.toInt = y11z) (e_y12 : y12.toInt = y12z) (e_y14 : y14.toInt = y14z) (h_K32 : ∀ (a0 : Int64) (a1 : Int64) (a2 : Int64) (a3 : Int64) (a4 : Int32) (a5 : Int32) (a6 : Int32), K32z a0.toInt a1.toInt a2.toInt a3.toInt a4.toInt a5.toInt a6.toInt → K32 a0 a1 a2 a3 a4 a5 a6) (h_Q : ∀ (a0 : Int32), Qz a0.toInt → Q a0) (h : ZJ_LAW_kept_226 v0z y1z y3z y5z y7z y9z y11z y12z y14z K32z Qz) : PJ_LAW_kept_226 v0 y1 y3 y5 y7 y9 y11 y12 y14 K32 Q := by
  subst e_v0
  subst e_y1
  subst e_y3
  subst e_y5
  subst e_y7
  subst e_y9
  subst e_y11
  subst e_y12
  subst e_y14
  unfold ZJ_LAW_kept_226 at h
  unfold PJ_LAW_kept_226
  refine zJ_LAW_kept_227 rfl rfl rfl rfl rfl rfl rfl rfl rfl rfl (fun a0 a1 a2 a3 a4 a5 a6 h => ?_) h_Q h
  exact h_K32 _ _ _ _ _ _ _ h
def ZJ_LAW_kept_218 (v0 : TZ) (y1 : Int) (y3 : Int) (y5 : Int) (y7 : Int) (y9 : Int) (y11 : Int) (y12 : Int) (y14 : Int) (u0 : Int) (u1 : Int) (K32 : (Int → Int → Int → Int → Int → Int → Int → Prop)) (Q : (Int → Prop)) : Prop := ((¬ (lg_cmpZ u1 u0) = 0 → (ZJ_LAW_kept_226 v0 y1 y3 y5 y7 y9 y11 y12 y14 (fun a0 a1 a2 a3 a4 a5 a6 => (K32 a0 a1 a2 a3 a4 a5 a6)) Q)) ∧ ((lg_cmpZ u1 u0) = 0 → (ZJ_LAW_kept_227 v0 y1 y3 y5 y7 y9 y11 y12 y14 1 (fun a0 a1 a2 a3 a4 a5 a6 => (K32 a0 a1 a2 a3 a4 a5 a6)) Q)))
set_option maxRecDepth 100000 in
theorem zJ_LAW_kept_218 {v0 : TT} {v0z : TZ} {y1 : Int64} {y1z : Int} {y3 : Int64} {y3z : Int} {y5 : Int64} {y5z : Int} {y7 : Int64} {y7z : Int} {y9 : Int32} {y9z : Int} {y11 : Int32} {y11z : Int} {y12 : Int64} {y12z : Int} {y14 : Int64} {y14z : Int} {u0 : Int64} {u0z : Int} {u1 : Int64} {u1z : Int}  {K32 : Int64 → Int64 → Int64 → Int64 → Int32 → Int32 → Int32 → Prop} {K32z : (Int → Int → Int → Int → Int → Int → Int → Prop)} {Q : Int32 → Prop} {Qz : (Int → Prop)} (e_v0 : (aT v0) = v0z) (e_y1 : y1.toInt = y1z) (e_y3 : y3.toInt = y3z) (e_y5 : y5.toInt = y5z) (e_y7 : y7.toInt = y7z) (e_y9 : y9.toInt = y9z) (e_y11 : y11.toInt = y11z) (e_y12 : y12.toInt = y12z) (e_y14 : y14.toInt = y14z) (e_u0 : u0.toInt = u0z) (e_u1 : u1.toInt = u1z) (h_K32 : ∀ (a0 : Int64) (a1 : Int64) (a2 : Int64) (a3 : Int64) (a4 : Int32) (a5 : Int32) (a6 : Int32), K32z a0.toInt a1.toInt a2.toInt a3.toInt a4.toInt a5.toInt a6.toInt → K32 a0 a1 a2 a3 a4 a5 a6) (h_Q : ∀ (a0 : Int32), Qz a0.toInt → Q a0) (h : ZJ_LAW_kept_218 v0z y1z y3z y5z y7z y9z y11z y12z y14z u0z u1z K32z Qz) : PJ_LAW_kept_218 v0 y1 y3 y5 y7 y9 y11 y12 y14 u0 u1 K32 Q := by
  subst e_v0
  subst e_y1
  subst e_y3
  subst e_y5
  subst e_y7
  subst e_y9
  subst e_y11
  subst e_y12
  subst e_y14
  subst e_u0
  subst e_u1
  unfold ZJ_LAW_kept_218 at h
  unfold PJ_LAW_kept_218
  refine ⟨fun c1q => ?_, fun c1q => ?_⟩
  · have h := h.1 (fun k => c1q ((zt_eq (show (((lg_cmp u1 u0) : Int32)).toInt = ((lg_cmpZ u1.toInt u0.toInt) : Int) from (zt_lg_cmp rfl rfl)) rfl).mpr k))
    refine zJ_LAW_kept_226 rfl rfl rfl rfl rfl rfl rfl rfl rfl (fun a0 a1 a2 a3 a4 a5 a6 h => ?_) h_Q h
    exact h_K32 _ _ _ _ _ _ _ h
  · have h := h.2 ((zt_eq (show (((lg_cmp u1 u0) : Int32)).toInt = ((lg_cmpZ u1.toInt u0.toInt) : Int) from (zt_lg_cmp rfl rfl)) rfl).mp c1q)
    refine zJ_LAW_kept_227 rfl rfl rfl rfl rfl rfl rfl rfl rfl rfl (fun a0 a1 a2 a3 a4 a5 a6 h => ?_) h_Q h
    exact h_K32 _ _ _ _ _ _ _ h
def ZJ_LAW_kept_184 (v0 : TZ) (y1 : Int) (y3 : Int) (y5 : Int) (y7 : Int) (y9 : Int) (y11 : Int) (y12 : Int) (y14 : Int) (u0 : Int) (u1 : Int) (K32 : (Int → Int → Int → Int → Int → Int → Int → Prop)) (Q : (Int → Prop)) : Prop := ((¬ (lg_cmpZ u1 u0) = 0 → (ZJ_LAW_kept_226 v0 y1 y3 y5 y7 y9 y11 y12 y14 (fun a0 a1 a2 a3 a4 a5 a6 => (K32 a0 a1 a2 a3 a4 a5 a6)) Q)) ∧ ((lg_cmpZ u1 u0) = 0 → (Z_LAW_segmentOf y11 5 v0 (fun r212_ => zin ((wi (wl (y5 + y12))) - 1) ∧ (Z_LAW_rowOf ((wi (wl (y5 + y12))) - 1) 5 v0 (fun r217_ => (((lg_cmpZ r217_ 0) ≤ 0 → (ZJ_LAW_kept_218 v0 y1 y3 y5 y7 y9 y11 y12 y14 0 r212_ (fun a0 a1 a2 a3 a4 a5 a6 => (K32 a0 a1 a2 a3 a4 a5 a6)) Q)) ∧ (¬ (lg_cmpZ r217_ 0) ≤ 0 → (ZJ_LAW_kept_218 v0 y1 y3 y5 y7 y9 y11 y12 y14 1 r212_ (fun a0 a1 a2 a3 a4 a5 a6 => (K32 a0 a1 a2 a3 a4 a5 a6)) Q)))))))))
set_option maxRecDepth 100000 in
theorem zJ_LAW_kept_184 {v0 : TT} {v0z : TZ} {y1 : Int64} {y1z : Int} {y3 : Int64} {y3z : Int} {y5 : Int64} {y5z : Int} {y7 : Int64} {y7z : Int} {y9 : Int32} {y9z : Int} {y11 : Int32} {y11z : Int} {y12 : Int64} {y12z : Int} {y14 : Int64} {y14z : Int} {u0 : Int64} {u0z : Int} {u1 : Int64} {u1z : Int}  {K32 : Int64 → Int64 → Int64 → Int64 → Int32 → Int32 → Int32 → Prop} {K32z : (Int → Int → Int → Int → Int → Int → Int → Prop)} {Q : Int32 → Prop} {Qz : (Int → Prop)} (e_v0 : (aT v0) = v0z) (e_y1 : y1.toInt = y1z) (e_y3 : y3.toInt = y3z) (e_y5 : y5.toInt = y5z) (e_y7 : y7.toInt = y7z) (e_y9 : y9.toInt = y9z) (e_y11 : y11.toInt = y11z) (e_y12 : y12.toInt = y12z) (e_y14 : y14.toInt = y14z) (e_u0 : u0.toInt = u0z) (e_u1 : u1.toInt = u1z) (h_K32 : ∀ (a0 : Int64) (a1 : Int64) (a2 : Int64) (a3 : Int64) (a4 : Int32) (a5 : Int32) (a6 : Int32), K32z a0.toInt a1.toInt a2.toInt a3.toInt a4.toInt a5.toInt a6.toInt → K32 a0 a1 a2 a3 a4 a5 a6) (h_Q : ∀ (a0 : Int32), Qz a0.toInt → Q a0) (h : ZJ_LAW_kept_184 v0z y1z y3z y5z y7z y9z y11z y12z y14z u0z u1z K32z Qz) : PJ_LAW_kept_184 v0 y1 y3 y5 y7 y9 y11 y12 y14 u0 u1 K32 Q := by
  subst e_v0
  subst e_y1
  subst e_y3
  subst e_y5
  subst e_y7
  subst e_y9
  subst e_y11
  subst e_y12
  subst e_y14
  subst e_u0
  subst e_u1
  unfold ZJ_LAW_kept_184 at h
  unfold PJ_LAW_kept_184
  refine ⟨fun c3q => ?_, fun c3q => ?_⟩
  · have h := h.1 (fun k => c3q ((zt_eq (show (((lg_cmp u1 u0) : Int32)).toInt = ((lg_cmpZ u1.toInt u0.toInt) : Int) from (zt_lg_cmp rfl rfl)) rfl).mpr k))
    refine zJ_LAW_kept_226 rfl rfl rfl rfl rfl rfl rfl rfl rfl (fun a0 a1 a2 a3 a4 a5 a6 h => ?_) h_Q h
    exact h_K32 _ _ _ _ _ _ _ h
  · have h := h.2 ((zt_eq (show (((lg_cmp u1 u0) : Int32)).toInt = ((lg_cmpZ u1.toInt u0.toInt) : Int) from (zt_lg_cmp rfl rfl)) rfl).mp c3q)
    refine z_LAW_segmentOf rfl rfl rfl (fun r212_ h => ?_) h
    obtain ⟨o1q, h⟩ := h
    refine z_LAW_rowOf (show ((((Int64.toInt32 (y5 + y12)) - 1) : Int32)).toInt = (((wi (wl (y5.toInt + y12.toInt))) - 1) : Int) from (zt_sub (show (((Int64.toInt32 (y5 + y12)) : Int32)).toInt = ((wi (wl (y5.toInt + y12.toInt))) : Int) from (zt_l2i (show (y5 + y12).toInt = ((wl (y5.toInt + y12.toInt)) : Int) from (zt_ladd rfl rfl)))) rfl o1q)) rfl rfl (fun r217_ h => ?_) h
    refine ⟨fun c2q => ?_, fun c2q => ?_⟩
    · have h := h.1 ((zt_le (show (((lg_cmp r217_ 0) : Int32)).toInt = ((lg_cmpZ r217_.toInt 0) : Int) from (zt_lg_cmp rfl rfl)) rfl).mp c2q)
      refine zJ_LAW_kept_218 rfl rfl rfl rfl rfl rfl rfl rfl rfl rfl rfl (fun a0 a1 a2 a3 a4 a5 a6 h => ?_) h_Q h
      exact h_K32 _ _ _ _ _ _ _ h
    · have h := h.2 (fun k => c2q ((zt_le (show (((lg_cmp r217_ 0) : Int32)).toInt = ((lg_cmpZ r217_.toInt 0) : Int) from (zt_lg_cmp rfl rfl)) rfl).mpr k))
      refine zJ_LAW_kept_218 rfl rfl rfl rfl rfl rfl rfl rfl rfl rfl rfl (fun a0 a1 a2 a3 a4 a5 a6 h => ?_) h_Q h
      exact h_K32 _ _ _ _ _ _ _ h
def ZL_LAW_kept_61 : Nat → TZ → Int → Int → Int → Int → Int → Int → Int → Int → Int → Int → (Int → Int → Int → Int → Int → Int → Int → Prop) → (Int → Prop) → Prop
  | 0, _, _, _, _, _, _, _, _, _, _, _, _, _ => False
  | n + 1, v0, y1, y3, y5, y7, y9, y10, y11, y12, y14, y16, K32, Q => ((0 ≤ (lg_cmpZ y16 (wl (y5 + y12))) → ((y10 = 0 → (ZJ_LAW_kept_226 v0 y1 y3 y5 y7 y9 y11 y12 y14 (fun a0 a1 a2 a3 a4 a5 a6 => (K32 a0 a1 a2 a3 a4 a5 a6)) Q)) ∧ (¬ y10 = 0 → (Z_LAW_segmentOf y11 0 v0 (fun r191_ => ((¬ (lg_cmpZ r191_ y5) = 0 → (ZJ_LAW_kept_226 v0 y1 y3 y5 y7 y9 y11 y12 y14 (fun a0 a1 a2 a3 a4 a5 a6 => (K32 a0 a1 a2 a3 a4 a5 a6)) Q)) ∧ ((lg_cmpZ r191_ y5) = 0 → (((lg_cmpZ y12 0) ≤ 0 → (ZJ_LAW_kept_226 v0 y1 y3 y5 y7 y9 y11 y12 y14 (fun a0 a1 a2 a3 a4 a5 a6 => (K32 a0 a1 a2 a3 a4 a5 a6)) Q)) ∧ (¬ (lg_cmpZ y12 0) ≤ 0 → (Z_LAW_segmentOf y11 2 v0 (fun r198_ => ((¬ (lg_cmpZ r198_ y14) = 0 → (ZJ_LAW_kept_226 v0 y1 y3 y5 y7 y9 y11 y12 y14 (fun a0 a1 a2 a3 a4 a5 a6 => (K32 a0 a1 a2 a3 a4 a5 a6)) Q)) ∧ ((lg_cmpZ r198_ y14) = 0 → ((0 < (lg_cmpZ y14 200) → (ZJ_LAW_kept_226 v0 y1 y3 y5 y7 y9 y11 y12 y14 (fun a0 a1 a2 a3 a4 a5 a6 => (K32 a0 a1 a2 a3 a4 a5 a6)) Q)) ∧ (¬ 0 < (lg_cmpZ y14 200) → (Z_LAW_segmentOf y11 3 v0 (fun r205_ => zin (y11 + 1) ∧ ((y9 ≤ (y11 + 1) → (ZJ_LAW_kept_184 v0 y1 y3 y5 y7 y9 y11 y12 y14 0 r205_ (fun a0 a1 a2 a3 a4 a5 a6 => (K32 a0 a1 a2 a3 a4 a5 a6)) Q)) ∧ (¬ y9 ≤ (y11 + 1) → (ZJ_LAW_kept_184 v0 y1 y3 y5 y7 y9 y11 y12 y14 1 r205_ (fun a0 a1 a2 a3 a4 a5 a6 => (K32 a0 a1 a2 a3 a4 a5 a6)) Q)))))))))))))))))))) ∧ (¬ 0 ≤ (lg_cmpZ y16 (wl (y5 + y12))) → (Z_LAW_rowOf y16 2 v0 (fun r224_ => ((y10 = 0 → zin (y16 + 1) ∧ (ZL_LAW_kept_61 n v0 y1 y3 y5 y7 y9 0 y11 y12 (wl (y14 + r224_)) (y16 + 1) K32 Q)) ∧ (¬ y10 = 0 → (Z_LAW_rowOf y16 4 v0 (fun r230_ => ((¬ (lg_cmpZ r230_ y5) = 0 → zin (y16 + 1) ∧ (ZL_LAW_kept_61 n v0 y1 y3 y5 y7 y9 0 y11 y12 (wl (y14 + r224_)) (y16 + 1) K32 Q)) ∧ ((lg_cmpZ r230_ y5) = 0 → zin (y16 + 1) ∧ (ZL_LAW_kept_61 n v0 y1 y3 y5 y7 y9 1 y11 y12 (wl (y14 + r224_)) (y16 + 1) K32 Q)))))))))))
set_option maxRecDepth 100000 in
theorem zL_LAW_kept_61 (n : Nat) : ∀ {v0 : TT} {v0z : TZ} {y1 : Int64} {y1z : Int} {y3 : Int64} {y3z : Int} {y5 : Int64} {y5z : Int} {y7 : Int64} {y7z : Int} {y9 : Int32} {y9z : Int} {y10 : Int32} {y10z : Int} {y11 : Int32} {y11z : Int} {y12 : Int64} {y12z : Int} {y14 : Int64} {y14z : Int} {y16 : Int32} {y16z : Int}  {K32 : Int64 → Int64 → Int64 → Int64 → Int32 → Int32 → Int32 → Prop} {K32z : (Int → Int → Int → Int → Int → Int → Int → Prop)} {Q : Int32 → Prop} {Qz : (Int → Prop)} (e_v0 : (aT v0) = v0z) (e_y1 : y1.toInt = y1z) (e_y3 : y3.toInt = y3z) (e_y5 : y5.toInt = y5z) (e_y7 : y7.toInt = y7z) (e_y9 : y9.toInt = y9z) (e_y10 : y10.toInt = y10z) (e_y11 : y11.toInt = y11z) (e_y12 : y12.toInt = y12z) (e_y14 : y14.toInt = y14z) (e_y16 : y16.toInt = y16z) (h_K32 : ∀ (a0 : Int64) (a1 : Int64) (a2 : Int64) (a3 : Int64) (a4 : Int32) (a5 : Int32) (a6 : Int32), K32z a0.toInt a1.toInt a2.toInt a3.toInt a4.toInt a5.toInt a6.toInt → K32 a0 a1 a2 a3 a4 a5 a6) (h_Q : ∀ (a0 : Int32), Qz a0.toInt → Q a0) (h : ZL_LAW_kept_61 n v0z y1z y3z y5z y7z y9z y10z y11z y12z y14z y16z K32z Qz), PL_LAW_kept_61 n v0 y1 y3 y5 y7 y9 y10 y11 y12 y14 y16 K32 Q := by
  induction n with
  | zero =>
    intro v0 v0z y1 y1z y3 y3z y5 y5z y7 y7z y9 y9z y10 y10z y11 y11z y12 y12z y14 y14z y16 y16z K32 K32z Q Qz e_v0 e_y1 e_y3 e_y5 e_y7 e_y9 e_y10 e_y11 e_y12 e_y14 e_y16 h_K32 h_Q h
    exact (h : False).elim
  | succ n ih =>
    intro v0 v0z y1 y1z y3 y3z y5 y5z y7 y7z y9 y9z y10 y10z y11 y11z y12 y12z y14 y14z y16 y16z K32 K32z Q Qz e_v0 e_y1 e_y3 e_y5 e_y7 e_y9 e_y10 e_y11 e_y12 e_y14 e_y16 h_K32 h_Q h
    subst e_v0
    subst e_y1
    subst e_y3
    subst e_y5
    subst e_y7
    subst e_y9
    subst e_y10
    subst e_y11
    subst e_y12
    subst e_y14
    subst e_y16
    rw [ZL_LAW_kept_61] at h
    rw [PL_LAW_kept_61]
    refine ⟨fun c13q => ?_, fun c13q => ?_⟩
    · have h := h.1 ((zt_le rfl (show (((lg_cmp (Int32.toInt64 y16) (y5 + y12)) : Int32)).toInt = ((lg_cmpZ y16.toInt (wl (y5.toInt + y12.toInt))) : Int) from (zt_lg_cmp (show (Int32.toInt64 y16).toInt = (y16.toInt : Int) from (zt_i2l rfl)) (show (y5 + y12).toInt = ((wl (y5.toInt + y12.toInt)) : Int) from (zt_ladd rfl rfl))))).mp c13q)
      refine ⟨fun c7q => ?_, fun c7q => ?_⟩
      · have h := h.1 ((zt_eq rfl rfl).mp c7q)
        refine zJ_LAW_kept_226 rfl rfl rfl rfl rfl rfl rfl rfl rfl (fun a0 a1 a2 a3 a4 a5 a6 h => ?_) h_Q h
        exact h_K32 _ _ _ _ _ _ _ h
      · have h := h.2 (fun k => c7q ((zt_eq rfl rfl).mpr k))
        refine z_LAW_segmentOf rfl rfl rfl (fun r191_ h => ?_) h
        refine ⟨fun c6q => ?_, fun c6q => ?_⟩
        · have h := h.1 (fun k => c6q ((zt_eq (show (((lg_cmp r191_ y5) : Int32)).toInt = ((lg_cmpZ r191_.toInt y5.toInt) : Int) from (zt_lg_cmp rfl rfl)) rfl).mpr k))
          refine zJ_LAW_kept_226 rfl rfl rfl rfl rfl rfl rfl rfl rfl (fun a0 a1 a2 a3 a4 a5 a6 h => ?_) h_Q h
          exact h_K32 _ _ _ _ _ _ _ h
        · have h := h.2 ((zt_eq (show (((lg_cmp r191_ y5) : Int32)).toInt = ((lg_cmpZ r191_.toInt y5.toInt) : Int) from (zt_lg_cmp rfl rfl)) rfl).mp c6q)
          refine ⟨fun c5q => ?_, fun c5q => ?_⟩
          · have h := h.1 ((zt_le (show (((lg_cmp y12 0) : Int32)).toInt = ((lg_cmpZ y12.toInt 0) : Int) from (zt_lg_cmp rfl rfl)) rfl).mp c5q)
            refine zJ_LAW_kept_226 rfl rfl rfl rfl rfl rfl rfl rfl rfl (fun a0 a1 a2 a3 a4 a5 a6 h => ?_) h_Q h
            exact h_K32 _ _ _ _ _ _ _ h
          · have h := h.2 (fun k => c5q ((zt_le (show (((lg_cmp y12 0) : Int32)).toInt = ((lg_cmpZ y12.toInt 0) : Int) from (zt_lg_cmp rfl rfl)) rfl).mpr k))
            refine z_LAW_segmentOf rfl rfl rfl (fun r198_ h => ?_) h
            refine ⟨fun c4q => ?_, fun c4q => ?_⟩
            · have h := h.1 (fun k => c4q ((zt_eq (show (((lg_cmp r198_ y14) : Int32)).toInt = ((lg_cmpZ r198_.toInt y14.toInt) : Int) from (zt_lg_cmp rfl rfl)) rfl).mpr k))
              refine zJ_LAW_kept_226 rfl rfl rfl rfl rfl rfl rfl rfl rfl (fun a0 a1 a2 a3 a4 a5 a6 h => ?_) h_Q h
              exact h_K32 _ _ _ _ _ _ _ h
            · have h := h.2 ((zt_eq (show (((lg_cmp r198_ y14) : Int32)).toInt = ((lg_cmpZ r198_.toInt y14.toInt) : Int) from (zt_lg_cmp rfl rfl)) rfl).mp c4q)
              refine ⟨fun c3q => ?_, fun c3q => ?_⟩
              · have h := h.1 ((zt_lt rfl (show (((lg_cmp y14 200) : Int32)).toInt = ((lg_cmpZ y14.toInt 200) : Int) from (zt_lg_cmp rfl rfl))).mp c3q)
                refine zJ_LAW_kept_226 rfl rfl rfl rfl rfl rfl rfl rfl rfl (fun a0 a1 a2 a3 a4 a5 a6 h => ?_) h_Q h
                exact h_K32 _ _ _ _ _ _ _ h
              · have h := h.2 (fun k => c3q ((zt_lt rfl (show (((lg_cmp y14 200) : Int32)).toInt = ((lg_cmpZ y14.toInt 200) : Int) from (zt_lg_cmp rfl rfl))).mpr k))
                refine z_LAW_segmentOf rfl rfl rfl (fun r205_ h => ?_) h
                obtain ⟨o1q, h⟩ := h
                refine ⟨fun c2q => ?_, fun c2q => ?_⟩
                · have h := h.1 ((zt_le rfl (show (((y11 + 1) : Int32)).toInt = ((y11.toInt + 1) : Int) from (zt_add rfl rfl o1q))).mp c2q)
                  refine zJ_LAW_kept_184 rfl rfl rfl rfl rfl rfl rfl rfl rfl rfl rfl (fun a0 a1 a2 a3 a4 a5 a6 h => ?_) h_Q h
                  exact h_K32 _ _ _ _ _ _ _ h
                · have h := h.2 (fun k => c2q ((zt_le rfl (show (((y11 + 1) : Int32)).toInt = ((y11.toInt + 1) : Int) from (zt_add rfl rfl o1q))).mpr k))
                  refine zJ_LAW_kept_184 rfl rfl rfl rfl rfl rfl rfl rfl rfl rfl rfl (fun a0 a1 a2 a3 a4 a5 a6 h => ?_) h_Q h
                  exact h_K32 _ _ _ _ _ _ _ h
    · have h := h.2 (fun k => c13q ((zt_le rfl (show (((lg_cmp (Int32.toInt64 y16) (y5 + y12)) : Int32)).toInt = ((lg_cmpZ y16.toInt (wl (y5.toInt + y12.toInt))) : Int) from (zt_lg_cmp (show (Int32.toInt64 y16).toInt = (y16.toInt : Int) from (zt_i2l rfl)) (show (y5 + y12).toInt = ((wl (y5.toInt + y12.toInt)) : Int) from (zt_ladd rfl rfl))))).mpr k))
      refine z_LAW_rowOf rfl rfl rfl (fun r224_ h => ?_) h
      refine ⟨fun c12q => ?_, fun c12q => ?_⟩
      · have h := h.1 ((zt_eq rfl rfl).mp c12q)
        obtain ⟨o8q, h⟩ := h
        refine ih rfl rfl rfl rfl rfl rfl rfl rfl rfl (show (y14 + r224_).toInt = ((wl (y14.toInt + r224_.toInt)) : Int) from (zt_ladd rfl rfl)) (show (((y16 + 1) : Int32)).toInt = ((y16.toInt + 1) : Int) from (zt_add rfl rfl o8q)) h_K32 h_Q h
      · have h := h.2 (fun k => c12q ((zt_eq rfl rfl).mpr k))
        refine z_LAW_rowOf rfl rfl rfl (fun r230_ h => ?_) h
        refine ⟨fun c11q => ?_, fun c11q => ?_⟩
        · have h := h.1 (fun k => c11q ((zt_eq (show (((lg_cmp r230_ y5) : Int32)).toInt = ((lg_cmpZ r230_.toInt y5.toInt) : Int) from (zt_lg_cmp rfl rfl)) rfl).mpr k))
          obtain ⟨o9q, h⟩ := h
          refine ih rfl rfl rfl rfl rfl rfl rfl rfl rfl (show (y14 + r224_).toInt = ((wl (y14.toInt + r224_.toInt)) : Int) from (zt_ladd rfl rfl)) (show (((y16 + 1) : Int32)).toInt = ((y16.toInt + 1) : Int) from (zt_add rfl rfl o9q)) h_K32 h_Q h
        · have h := h.2 ((zt_eq (show (((lg_cmp r230_ y5) : Int32)).toInt = ((lg_cmpZ r230_.toInt y5.toInt) : Int) from (zt_lg_cmp rfl rfl)) rfl).mp c11q)
          obtain ⟨o10q, h⟩ := h
          refine ih rfl rfl rfl rfl rfl rfl rfl rfl rfl (show (y14 + r224_).toInt = ((wl (y14.toInt + r224_.toInt)) : Int) from (zt_ladd rfl rfl)) (show (((y16 + 1) : Int32)).toInt = ((y16.toInt + 1) : Int) from (zt_add rfl rfl o10q)) h_K32 h_Q h
def ZL_LAW_kept_32 : Nat → TZ → Int → Int → Int → Int → Int → Int → Int → (Int → Prop) → Prop
  | 0, _, _, _, _, _, _, _, _, _ => False
  | n + 1, v0, y1, y3, y5, y7, y9, y10, y11, Q => ((y9 ≤ y11 → (ZJ_LAW_kept_249 v0 y1 y3 y5 y7 y9 y10 Q)) ∧ (¬ y9 ≤ y11 → ((y10 = 0 → (ZJ_LAW_kept_249 v0 y1 y3 y5 y7 y9 y10 Q)) ∧ (¬ y10 = 0 → (Z_LAW_segmentOf y11 1 v0 (fun r184_ => (∃ n236_, n236_ ≤ 201 ∧ ((ZL_LAW_kept_61 n236_ v0 y1 y3 y5 y7 y9 y10 y11 r184_ 0 (wi y5) (fun a0 a1 a2 a3 a4 a5 a6 => (ZL_LAW_kept_32 n v0 a0 a1 a2 a3 a4 a5 a6 Q)) Q)))))))))
set_option maxRecDepth 100000 in
theorem zL_LAW_kept_32 (n : Nat) : ∀ {v0 : TT} {v0z : TZ} {y1 : Int64} {y1z : Int} {y3 : Int64} {y3z : Int} {y5 : Int64} {y5z : Int} {y7 : Int64} {y7z : Int} {y9 : Int32} {y9z : Int} {y10 : Int32} {y10z : Int} {y11 : Int32} {y11z : Int}  {Q : Int32 → Prop} {Qz : (Int → Prop)} (e_v0 : (aT v0) = v0z) (e_y1 : y1.toInt = y1z) (e_y3 : y3.toInt = y3z) (e_y5 : y5.toInt = y5z) (e_y7 : y7.toInt = y7z) (e_y9 : y9.toInt = y9z) (e_y10 : y10.toInt = y10z) (e_y11 : y11.toInt = y11z) (h_Q : ∀ (a0 : Int32), Qz a0.toInt → Q a0) (h : ZL_LAW_kept_32 n v0z y1z y3z y5z y7z y9z y10z y11z Qz), PL_LAW_kept_32 n v0 y1 y3 y5 y7 y9 y10 y11 Q := by
  induction n with
  | zero =>
    intro v0 v0z y1 y1z y3 y3z y5 y5z y7 y7z y9 y9z y10 y10z y11 y11z Q Qz e_v0 e_y1 e_y3 e_y5 e_y7 e_y9 e_y10 e_y11 h_Q h
    exact (h : False).elim
  | succ n ih =>
    intro v0 v0z y1 y1z y3 y3z y5 y5z y7 y7z y9 y9z y10 y10z y11 y11z Q Qz e_v0 e_y1 e_y3 e_y5 e_y7 e_y9 e_y10 e_y11 h_Q h
    subst e_v0
    subst e_y1
    subst e_y3
    subst e_y5
    subst e_y7
    subst e_y9
    subst e_y10
    subst e_y11
    rw [ZL_LAW_kept_32] at h
    rw [PL_LAW_kept_32]
    refine ⟨fun c3q => ?_, fun c3q => ?_⟩
    · have h := h.1 ((zt_le rfl rfl).mp c3q)
      refine zJ_LAW_kept_249 rfl rfl rfl rfl rfl rfl rfl h_Q h
    · have h := h.2 (fun k => c3q ((zt_le rfl rfl).mpr k))
      refine ⟨fun c2q => ?_, fun c2q => ?_⟩
      · have h := h.1 ((zt_eq rfl rfl).mp c2q)
        refine zJ_LAW_kept_249 rfl rfl rfl rfl rfl rfl rfl h_Q h
      · have h := h.2 (fun k => c2q ((zt_eq rfl rfl).mpr k))
        refine z_LAW_segmentOf rfl rfl rfl (fun r184_ h => ?_) h
        obtain ⟨n236_, h⟩ := h
        refine ⟨n236_, ?_⟩
        obtain ⟨b1q, h⟩ := h
        refine ⟨b1q, ?_⟩
        refine zL_LAW_kept_61 n236_ rfl rfl rfl rfl rfl rfl rfl rfl rfl rfl (show (((Int64.toInt32 y5) : Int32)).toInt = ((wi y5.toInt) : Int) from (zt_l2i rfl)) (fun a0 a1 a2 a3 a4 a5 a6 h => ?_) h_Q h
        refine ih rfl rfl rfl rfl rfl rfl rfl rfl h_Q h
def Z_LAW_kept (v0 : TZ) (Q : (Int → Prop)) : Prop := (Z_LAW_about 1 v0 (fun r1_ => (Z_LAW_about 0 v0 (fun r6_ => (Z_LAW_about 2 v0 (fun r11_ => (∃ n237_, n237_ ≤ 201 ∧ ((ZL_LAW_kept_32 n237_ v0 r1_ r6_ r1_ 0 (wi r11_) 1 0 Q)))))))))
set_option maxRecDepth 100000 in
theorem z_LAW_kept {v0 : TT} {v0z : TZ}  {Q : Int32 → Prop} {Qz : (Int → Prop)} (e_v0 : (aT v0) = v0z) (h_Q : ∀ (a0 : Int32), Qz a0.toInt → Q a0) (h : Z_LAW_kept v0z Qz) : P_LAW_kept v0 Q := by
  subst e_v0
  unfold Z_LAW_kept at h
  unfold P_LAW_kept
  refine z_LAW_about rfl rfl (fun r1_ h => ?_) h
  refine z_LAW_about rfl rfl (fun r6_ h => ?_) h
  refine z_LAW_about rfl rfl (fun r11_ h => ?_) h
  obtain ⟨n237_, h⟩ := h
  refine ⟨n237_, ?_⟩
  obtain ⟨b1q, h⟩ := h
  refine ⟨b1q, ?_⟩
  refine zL_LAW_kept_32 n237_ rfl rfl rfl rfl rfl (show (((Int64.toInt32 r11_) : Int32)).toInt = ((wi r11_.toInt) : Int) from (zt_l2i rfl)) rfl rfl h_Q h
