def Z_R_renew (v0 : RZ) (Q : (RZ → Prop)) : Prop := (∀ v6_, v6_ = (Rz_set_present v0 0) → ((∀ v14_, v14_ = (Rz_set_hasLeft v6_ 0) → ((∀ v22_, v22_ = (Rz_set_held v14_ 0) → ((Q v22_)))))))
set_option maxRecDepth 100000 in
theorem z_R_renew {v0 : RT} {v0z : RZ}  {Q : RT → Prop} {Qz : (RZ → Prop)} (e_v0 : (aR v0) = v0z) (h_Q : ∀ (a0 : RT), Qz (aR a0) → Q a0) (h : Z_R_renew v0z Qz) : P_R_renew v0 Q := by
  subst e_v0
  unfold Z_R_renew at h
  unfold P_R_renew
  intro v6_ ev6_
  have h := h (aR v6_) (by rw [ev6_]; exact rfl)
  intro v14_ ev14_
  have h := h (aR v14_) (by rw [ev14_]; exact rfl)
  intro v22_ ev22_
  have h := h (aR v22_) (by rw [ev22_]; exact rfl)
  exact h_Q _ h

def Z_R_takeOver (v0 : RZ) (v1 : RZ) (Q : (RZ → Prop)) : Prop := (Z_T_copy 8 8 (Rz_values v1) (Rz_values v0) (fun v5_ => (∀ v10_, v10_ = (Rz_set_values v0 v5_) → (((Rz_present v1) = 0 ∨ (Rz_present v1) = 1) ∧ ((∀ v20_, v20_ = (Rz_set_present v10_ (Rz_present v1)) → (((Rz_hasLeft v1) = 0 ∨ (Rz_hasLeft v1) = 1) ∧ ((∀ v30_, v30_ = (Rz_set_hasLeft v20_ (Rz_hasLeft v1)) → (((Rz_held v1) = 0 ∨ (Rz_held v1) = 1) ∧ ((∀ v40_, v40_ = (Rz_set_held v30_ (Rz_held v1)) → ((∀ v49_, v49_ = (Rz_set_place v40_ (Rz_place v1)) → ((∀ v58_, v58_ = (Rz_set_readSoFar v49_ (Rz_readSoFar v1)) → ((∀ v67_, v67_ = (Rz_set_missedSoFar v58_ (Rz_missedSoFar v1)) → ((∀ v76_, v76_ = (Rz_set_lastRead v67_ (Rz_lastRead v1)) → ((∀ v85_, v85_ = (Rz_set_lostBy v76_ (Rz_lostBy v1)) → ((Q v85_))))))))))))))))))))))))
set_option maxRecDepth 100000 in
theorem z_R_takeOver {v0 : RT} {v0z : RZ} {v1 : RT} {v1z : RZ}  {Q : RT → Prop} {Qz : (RZ → Prop)} (e_v0 : (aR v0) = v0z) (e_v1 : (aR v1) = v1z) (h_Q : ∀ (a0 : RT), Qz (aR a0) → Q a0) (h : Z_R_takeOver v0z v1z Qz) : P_R_takeOver v0 v1 Q := by
  subst e_v0
  subst e_v1
  unfold Z_R_takeOver at h
  unfold P_R_takeOver
  refine z_T_copy rfl rfl rfl rfl (fun v5_ h => ?_) h
  intro v10_ ev10_
  have h := h (aR v10_) (by rw [ev10_]; exact rfl)
  obtain ⟨i1q, h⟩ := h
  refine ⟨zt_zb rfl i1q, ?_⟩
  intro v20_ ev20_
  have h := h (aR v20_) (by rw [ev20_]; exact rfl)
  obtain ⟨i2q, h⟩ := h
  refine ⟨zt_zb rfl i2q, ?_⟩
  intro v30_ ev30_
  have h := h (aR v30_) (by rw [ev30_]; exact rfl)
  obtain ⟨i3q, h⟩ := h
  refine ⟨zt_zb rfl i3q, ?_⟩
  intro v40_ ev40_
  have h := h (aR v40_) (by rw [ev40_]; exact rfl)
  intro v49_ ev49_
  have h := h (aR v49_) (by rw [ev49_]; exact rfl)
  intro v58_ ev58_
  have h := h (aR v58_) (by rw [ev58_]; exact rfl)
  intro v67_ ev67_
  have h := h (aR v67_) (by rw [ev67_]; exact rfl)
  intro v76_ ev76_
  have h := h (aR v76_) (by rw [ev76_]; exact rfl)
  intro v85_ ev85_
  have h := h (aR v85_) (by rw [ev85_]; exact rfl)
  exact h_Q _ h

def Z_R_arrive (x1 : Int) (x2 : Int) (v0 : RZ) (Q : (RZ → Prop)) : Prop := (∀ v6_, v6_ = (Rz_set_present v0 1) → ((x2 = 0 ∨ x2 = 1) ∧ ((∀ v15_, v15_ = (Rz_set_held v6_ x2) → ((∀ v23_, v23_ = (Rz_set_readSoFar v15_ 0) → ((∀ v31_, v31_ = (Rz_set_missedSoFar v23_ 0) → ((∀ v39_, v39_ = (Rz_set_lastRead v31_ x1) → ((∀ v47_, v47_ = (Rz_set_lostBy v39_ 0) → ((Q v47_))))))))))))))
set_option maxRecDepth 100000 in
theorem z_R_arrive {x1 : Int32} {x1z : Int} {x2 : Int32} {x2z : Int} {v0 : RT} {v0z : RZ}  {Q : RT → Prop} {Qz : (RZ → Prop)} (e_x1 : x1.toInt = x1z) (e_x2 : x2.toInt = x2z) (e_v0 : (aR v0) = v0z) (h_Q : ∀ (a0 : RT), Qz (aR a0) → Q a0) (h : Z_R_arrive x1z x2z v0z Qz) : P_R_arrive x1 x2 v0 Q := by
  subst e_x1
  subst e_x2
  subst e_v0
  unfold Z_R_arrive at h
  unfold P_R_arrive
  intro v6_ ev6_
  have h := h (aR v6_) (by rw [ev6_]; exact rfl)
  obtain ⟨i1q, h⟩ := h
  refine ⟨zt_zb rfl i1q, ?_⟩
  intro v15_ ev15_
  have h := h (aR v15_) (by rw [ev15_]; exact rfl)
  intro v23_ ev23_
  have h := h (aR v23_) (by rw [ev23_]; exact rfl)
  intro v31_ ev31_
  have h := h (aR v31_) (by rw [ev31_]; exact rfl)
  intro v39_ ev39_
  have h := h (aR v39_) (by rw [ev39_]; exact rfl)
  intro v47_ ev47_
  have h := h (aR v47_) (by rw [ev47_]; exact rfl)
  exact h_Q _ h

def Z_R_depart (v0 : RZ) (Q : (RZ → Prop)) : Prop := (∀ v6_, v6_ = (Rz_set_present v0 0) → ((∀ v14_, v14_ = (Rz_set_hasLeft v6_ 1) → ((∀ v22_, v22_ = (Rz_set_held v14_ 0) → ((Q v22_)))))))
set_option maxRecDepth 100000 in
theorem z_R_depart {v0 : RT} {v0z : RZ}  {Q : RT → Prop} {Qz : (RZ → Prop)} (e_v0 : (aR v0) = v0z) (h_Q : ∀ (a0 : RT), Qz (aR a0) → Q a0) (h : Z_R_depart v0z Qz) : P_R_depart v0 Q := by
  subst e_v0
  unfold Z_R_depart at h
  unfold P_R_depart
  intro v6_ ev6_
  have h := h (aR v6_) (by rw [ev6_]; exact rfl)
  intro v14_ ev14_
  have h := h (aR v14_) (by rw [ev14_]; exact rfl)
  intro v22_ ev22_
  have h := h (aR v22_) (by rw [ev22_]; exact rfl)
  exact h_Q _ h

def ZL_L_renew_27 : Nat → Int → LZ → (LZ → Prop) → Prop
  | 0, _, _, _ => False
  | n + 1, y1, v0, Q => ((8 ≤ y1 → (Q v0)) ∧ (¬ 8 ≤ y1 → ((0 : Int) ≤ y1 ∧ (y1 : Int) < 8) ∧ ((∀ v49_, v49_ = (Lz_set_dropValues v0 (updz (Lz_dropValues v0) (Int.toNat y1) (-1))) → (zin (y1 + 1) ∧ (ZL_L_renew_27 n (y1 + 1) v49_ Q))))))
set_option maxRecDepth 100000 in
theorem zL_L_renew_27 (n : Nat) : ∀ {y1 : Int32} {y1z : Int} {v0 : LT} {v0z : LZ}  {Q : LT → Prop} {Qz : (LZ → Prop)} (e_y1 : y1.toInt = y1z) (e_v0 : (aL v0) = v0z) (h_Q : ∀ (a0 : LT), Qz (aL a0) → Q a0) (h : ZL_L_renew_27 n y1z v0z Qz), PL_L_renew_27 n y1 v0 Q := by
  induction n with
  | zero =>
    intro y1 y1z v0 v0z Q Qz e_y1 e_v0 h_Q h
    exact (h : False).elim
  | succ n ih =>
    intro y1 y1z v0 v0z Q Qz e_y1 e_v0 h_Q h
    subst e_y1
    subst e_v0
    rw [ZL_L_renew_27] at h
    rw [PL_L_renew_27]
    refine ⟨fun c3q => ?_, fun c3q => ?_⟩
    · have h := h.1 ((zt_le rfl rfl).mp c3q)
      exact h_Q _ h
    · have h := h.2 (fun k => c3q ((zt_le rfl rfl).mpr k))
      obtain ⟨i1q, h⟩ := h
      refine ⟨zt_in rfl i1q, ?_⟩
      intro v49_ ev49_
      have h := h (aL v49_) (by rw [ev49_]; exact (show (aL (L_set_dropValues v0 (upd (L_dropValues v0) (Int32.toNatClampNeg y1) (-1)))) = (Lz_set_dropValues (aL v0) (updz (Lz_dropValues (aL v0)) (Int.toNat y1.toInt) (-1))) from (congrArg (fun k => Lz_set_dropValues (aL v0) k) (show (aA (upd (L_dropValues v0) (Int32.toNatClampNeg y1) (-1))) = (updz (Lz_dropValues (aL v0)) (Int.toNat y1.toInt) (-1)) from (zt_upd rfl rfl rfl)))))
      obtain ⟨o2q, h⟩ := h
      refine ih (show (((y1 + 1) : Int32)).toInt = ((y1.toInt + 1) : Int) from (zt_add rfl rfl o2q)) rfl h_Q h
def Z_L_renew (v0 : LZ) (Q : (LZ → Prop)) : Prop := (∀ v6_, v6_ = (Lz_set_first v0 0) → ((∀ v14_, v14_ = (Lz_set_end v6_ 0) → ((∀ v22_, v22_ = (Lz_set_length v14_ 0) → ((∀ v30_, v30_ = (Lz_set_begun v22_ 0) → ((∀ v38_, v38_ = (Lz_set_dropped v30_ 0) → ((∃ n52_, (ZL_L_renew_27 n52_ 0 v38_ Q))))))))))))
set_option maxRecDepth 100000 in
theorem z_L_renew {v0 : LT} {v0z : LZ}  {Q : LT → Prop} {Qz : (LZ → Prop)} (e_v0 : (aL v0) = v0z) (h_Q : ∀ (a0 : LT), Qz (aL a0) → Q a0) (h : Z_L_renew v0z Qz) : P_L_renew v0 Q := by
  subst e_v0
  unfold Z_L_renew at h
  unfold P_L_renew
  intro v6_ ev6_
  have h := h (aL v6_) (by rw [ev6_]; exact rfl)
  intro v14_ ev14_
  have h := h (aL v14_) (by rw [ev14_]; exact rfl)
  intro v22_ ev22_
  have h := h (aL v22_) (by rw [ev22_]; exact rfl)
  intro v30_ ev30_
  have h := h (aL v30_) (by rw [ev30_]; exact rfl)
  intro v38_ ev38_
  have h := h (aL v38_) (by rw [ev38_]; exact rfl)
  obtain ⟨n52_, h⟩ := h
  refine ⟨n52_, ?_⟩
  refine zL_L_renew_27 n52_ rfl rfl h_Q h

def Z_L_takeOver (v0 : LZ) (v1 : LZ) (Q : (LZ → Prop)) : Prop := (Z_T_copy 200 200 (Lz_keys v1) (Lz_keys v0) (fun v5_ => (∀ v10_, v10_ = (Lz_set_keys v0 v5_) → ((Z_T_copy 200 200 (Lz_values v1) (Lz_values v10_) (fun v18_ => (∀ v23_, v23_ = (Lz_set_values v10_ v18_) → ((Z_T_copy 200 200 (Lz_times v1) (Lz_times v23_) (fun v31_ => (∀ v36_, v36_ = (Lz_set_times v23_ v31_) → ((Z_T_copy 201 201 (Lz_lengthsBelow v1) (Lz_lengthsBelow v36_) (fun v44_ => (∀ v49_, v49_ = (Lz_set_lengthsBelow v36_ v44_) → ((Z_T_copy 200 200 (Lz_starts v1) (Lz_starts v49_) (fun v57_ => (∀ v62_, v62_ = (Lz_set_starts v49_ v57_) → ((Z_T_copy 8 8 (Lz_dropValues v1) (Lz_dropValues v62_) (fun v70_ => (∀ v75_, v75_ = (Lz_set_dropValues v62_ v70_) → ((∀ v84_, v84_ = (Lz_set_first v75_ (Lz_first v1)) → ((∀ v93_, v93_ = (Lz_set_end v84_ (Lz_end v1)) → ((∀ v102_, v102_ = (Lz_set_length v93_ (Lz_length v1)) → ((∀ v111_, v111_ = (Lz_set_begun v102_ (Lz_begun v1)) → ((∀ v120_, v120_ = (Lz_set_dropped v111_ (Lz_dropped v1)) → ((Q v120_)))))))))))))))))))))))))))))))))))
set_option maxRecDepth 100000 in
theorem z_L_takeOver {v0 : LT} {v0z : LZ} {v1 : LT} {v1z : LZ}  {Q : LT → Prop} {Qz : (LZ → Prop)} (e_v0 : (aL v0) = v0z) (e_v1 : (aL v1) = v1z) (h_Q : ∀ (a0 : LT), Qz (aL a0) → Q a0) (h : Z_L_takeOver v0z v1z Qz) : P_L_takeOver v0 v1 Q := by
  subst e_v0
  subst e_v1
  unfold Z_L_takeOver at h
  unfold P_L_takeOver
  refine z_T_copy rfl rfl rfl rfl (fun v5_ h => ?_) h
  intro v10_ ev10_
  have h := h (aL v10_) (by rw [ev10_]; exact rfl)
  refine z_T_copy rfl rfl rfl rfl (fun v18_ h => ?_) h
  intro v23_ ev23_
  have h := h (aL v23_) (by rw [ev23_]; exact rfl)
  refine z_T_copy rfl rfl rfl rfl (fun v31_ h => ?_) h
  intro v36_ ev36_
  have h := h (aL v36_) (by rw [ev36_]; exact rfl)
  refine z_T_copy rfl rfl rfl rfl (fun v44_ h => ?_) h
  intro v49_ ev49_
  have h := h (aL v49_) (by rw [ev49_]; exact rfl)
  refine z_T_copy rfl rfl rfl rfl (fun v57_ h => ?_) h
  intro v62_ ev62_
  have h := h (aL v62_) (by rw [ev62_]; exact rfl)
  refine z_T_copy rfl rfl rfl rfl (fun v70_ h => ?_) h
  intro v75_ ev75_
  have h := h (aL v75_) (by rw [ev75_]; exact rfl)
  intro v84_ ev84_
  have h := h (aL v84_) (by rw [ev84_]; exact rfl)
  intro v93_ ev93_
  have h := h (aL v93_) (by rw [ev93_]; exact rfl)
  intro v102_ ev102_
  have h := h (aL v102_) (by rw [ev102_]; exact rfl)
  intro v111_ ev111_
  have h := h (aL v111_) (by rw [ev111_]; exact rfl)
  intro v120_ ev120_
  have h := h (aL v120_) (by rw [ev120_]; exact rfl)
  exact h_Q _ h

def Z_L_segments (v0 : LZ) (Q : (Int → Prop)) : Prop := zin ((Lz_begun v0) - (Lz_dropped v0)) ∧ (Q ((Lz_begun v0) - (Lz_dropped v0)))
set_option maxRecDepth 100000 in
theorem z_L_segments {v0 : LT} {v0z : LZ}  {Q : Int32 → Prop} {Qz : (Int → Prop)} (e_v0 : (aL v0) = v0z) (h_Q : ∀ (a0 : Int32), Qz a0.toInt → Q a0) (h : Z_L_segments v0z Qz) : P_L_segments v0 Q := by
  subst e_v0
  unfold Z_L_segments at h
  unfold P_L_segments
  obtain ⟨o1q, h⟩ := h
  exact h_Q _ (Eq.mpr (congrArg (fun k => Qz k) (show ((((L_begun v0) - (L_dropped v0)) : Int32)).toInt = (((Lz_begun (aL v0)) - (Lz_dropped (aL v0))) : Int) from (zt_sub rfl rfl o1q))) h)

def Z_L_hasRow (x1 : Int) (v0 : LZ) (Q : (Int → Prop)) : Prop := ((x1 < (Lz_first v0) → (Q 0)) ∧ (¬ x1 < (Lz_first v0) → (((Lz_end v0) ≤ x1 → (Q 0)) ∧ (¬ (Lz_end v0) ≤ x1 → (Q 1)))))
set_option maxRecDepth 100000 in
theorem z_L_hasRow {x1 : Int32} {x1z : Int} {v0 : LT} {v0z : LZ}  {Q : Int32 → Prop} {Qz : (Int → Prop)} (e_x1 : x1.toInt = x1z) (e_v0 : (aL v0) = v0z) (h_Q : ∀ (a0 : Int32), Qz a0.toInt → Q a0) (h : Z_L_hasRow x1z v0z Qz) : P_L_hasRow x1 v0 Q := by
  subst e_x1
  subst e_v0
  unfold Z_L_hasRow at h
  unfold P_L_hasRow
  refine ⟨fun c2q => ?_, fun c2q => ?_⟩
  · have h := h.1 ((zt_lt rfl rfl).mp c2q)
    exact h_Q _ h
  · have h := h.2 (fun k => c2q ((zt_lt rfl rfl).mpr k))
    refine ⟨fun c1q => ?_, fun c1q => ?_⟩
    · have h := h.1 ((zt_le rfl rfl).mp c1q)
      exact h_Q _ h
    · have h := h.2 (fun k => c1q ((zt_le rfl rfl).mpr k))
      exact h_Q _ h

def Z_L_startOf (x1 : Int) (v0 : LZ) (Q : (Int → Prop)) : Prop := zin ((Lz_dropped v0) + x1) ∧ ((((Lz_dropped v0) + x1) < 0 → (Q (Lz_end v0))) ∧ (¬ ((Lz_dropped v0) + x1) < 0 → (((Lz_begun v0) ≤ ((Lz_dropped v0) + x1) → (Q (Lz_end v0))) ∧ (¬ (Lz_begun v0) ≤ ((Lz_dropped v0) + x1) → ((200 ≤ ((Lz_dropped v0) + x1) → (Q (Lz_end v0))) ∧ (¬ 200 ≤ ((Lz_dropped v0) + x1) → ((0 : Int) ≤ ((Lz_dropped v0) + x1) ∧ (((Lz_dropped v0) + x1) : Int) < 200) ∧ ((Q (Lz_starts v0 (Int.toNat ((Lz_dropped v0) + x1)))))))))))
set_option maxRecDepth 100000 in
theorem z_L_startOf {x1 : Int32} {x1z : Int} {v0 : LT} {v0z : LZ}  {Q : Int32 → Prop} {Qz : (Int → Prop)} (e_x1 : x1.toInt = x1z) (e_v0 : (aL v0) = v0z) (h_Q : ∀ (a0 : Int32), Qz a0.toInt → Q a0) (h : Z_L_startOf x1z v0z Qz) : P_L_startOf x1 v0 Q := by
  subst e_x1
  subst e_v0
  unfold Z_L_startOf at h
  unfold P_L_startOf
  obtain ⟨o1q, h⟩ := h
  refine ⟨fun c5q => ?_, fun c5q => ?_⟩
  · have h := h.1 ((zt_lt (show ((((L_dropped v0) + x1) : Int32)).toInt = (((Lz_dropped (aL v0)) + x1.toInt) : Int) from (zt_add rfl rfl o1q)) rfl).mp c5q)
    exact h_Q _ h
  · have h := h.2 (fun k => c5q ((zt_lt (show ((((L_dropped v0) + x1) : Int32)).toInt = (((Lz_dropped (aL v0)) + x1.toInt) : Int) from (zt_add rfl rfl o1q)) rfl).mpr k))
    refine ⟨fun c4q => ?_, fun c4q => ?_⟩
    · have h := h.1 ((zt_le rfl (show ((((L_dropped v0) + x1) : Int32)).toInt = (((Lz_dropped (aL v0)) + x1.toInt) : Int) from (zt_add rfl rfl o1q))).mp c4q)
      exact h_Q _ h
    · have h := h.2 (fun k => c4q ((zt_le rfl (show ((((L_dropped v0) + x1) : Int32)).toInt = (((Lz_dropped (aL v0)) + x1.toInt) : Int) from (zt_add rfl rfl o1q))).mpr k))
      refine ⟨fun c3q => ?_, fun c3q => ?_⟩
      · have h := h.1 ((zt_le rfl (show ((((L_dropped v0) + x1) : Int32)).toInt = (((Lz_dropped (aL v0)) + x1.toInt) : Int) from (zt_add rfl rfl o1q))).mp c3q)
        exact h_Q _ h
      · have h := h.2 (fun k => c3q ((zt_le rfl (show ((((L_dropped v0) + x1) : Int32)).toInt = (((Lz_dropped (aL v0)) + x1.toInt) : Int) from (zt_add rfl rfl o1q))).mpr k))
        obtain ⟨i2q, h⟩ := h
        refine ⟨zt_in (show ((((L_dropped v0) + x1) : Int32)).toInt = (((Lz_dropped (aL v0)) + x1.toInt) : Int) from (zt_add rfl rfl o1q)) i2q, ?_⟩
        exact h_Q _ (Eq.mpr (congrArg (fun k => Qz k) (show (((L_starts v0 (Int32.toNatClampNeg ((L_dropped v0) + x1))) : Int32)).toInt = ((Lz_starts (aL v0) (Int.toNat ((Lz_dropped (aL v0)) + x1.toInt))) : Int) from (congrArg (fun k => Lz_starts (aL v0) k) (show (Int32.toNatClampNeg ((L_dropped v0) + x1)) = (Int.toNat ((Lz_dropped (aL v0)) + x1.toInt)) from (congrArg Int.toNat (show ((((L_dropped v0) + x1) : Int32)).toInt = (((Lz_dropped (aL v0)) + x1.toInt) : Int) from (zt_add rfl rfl o1q))))))) h)

def Z_L_endOf (x1 : Int) (v0 : LZ) (Q : (Int → Prop)) : Prop := zin (x1 + 1) ∧ (Z_L_startOf (x1 + 1) v0 (fun r1_ => (Q r1_)))
set_option maxRecDepth 100000 in
theorem z_L_endOf {x1 : Int32} {x1z : Int} {v0 : LT} {v0z : LZ}  {Q : Int32 → Prop} {Qz : (Int → Prop)} (e_x1 : x1.toInt = x1z) (e_v0 : (aL v0) = v0z) (h_Q : ∀ (a0 : Int32), Qz a0.toInt → Q a0) (h : Z_L_endOf x1z v0z Qz) : P_L_endOf x1 v0 Q := by
  subst e_x1
  subst e_v0
  unfold Z_L_endOf at h
  unfold P_L_endOf
  obtain ⟨o1q, h⟩ := h
  refine z_L_startOf (show (((x1 + 1) : Int32)).toInt = ((x1.toInt + 1) : Int) from (zt_add rfl rfl o1q)) rfl (fun r1_ h => ?_) h
  exact h_Q _ h

def Z_T_at (N0 : Nat) (x1 : Int) (v0 : (Nat → Int)) (Q : (Int → Prop)) : Prop := ((x1 < 0 → (Q (-1))) ∧ (¬ x1 < 0 → N0 < 2147483648 ∧ ((((N0 : Nat) : Int) ≤ x1 → (Q (-1))) ∧ (¬ ((N0 : Nat) : Int) ≤ x1 → ((0 : Int) ≤ x1 ∧ (x1 : Int) < ((N0 : Nat) : Int)) ∧ ((Q (v0 (Int.toNat x1))))))))
set_option maxRecDepth 100000 in
theorem z_T_at {x1 : Int32} {x1z : Int} {v0 : Nat → Int32} {v0z : (Nat → Int)} {N0 N0z : Nat} {Q : Int32 → Prop} {Qz : (Int → Prop)} (e_N0 : N0 = N0z) (e_x1 : x1.toInt = x1z) (e_v0 : (aA v0) = v0z) (h_Q : ∀ (a0 : Int32), Qz a0.toInt → Q a0) (h : Z_T_at N0z x1z v0z Qz) : P_T_at N0 x1 v0 Q := by
  subst e_N0
  subst e_x1
  subst e_v0
  unfold Z_T_at at h
  unfold P_T_at
  refine ⟨fun c4q => ?_, fun c4q => ?_⟩
  · have h := h.1 ((zt_lt rfl rfl).mp c4q)
    exact h_Q _ h
  · have h := h.2 (fun k => c4q ((zt_lt rfl rfl).mpr k))
    obtain ⟨o1q, h⟩ := h
    refine ⟨fun c3q => ?_, fun c3q => ?_⟩
    · have h := h.1 ((zt_le (show (((Int32.ofNat N0) : Int32)).toInt = (((N0 : Nat) : Int) : Int) from (zt_ofNat o1q)) rfl).mp c3q)
      exact h_Q _ h
    · have h := h.2 (fun k => c3q ((zt_le (show (((Int32.ofNat N0) : Int32)).toInt = (((N0 : Nat) : Int) : Int) from (zt_ofNat o1q)) rfl).mpr k))
      obtain ⟨i2q, h⟩ := h
      refine ⟨zt_in rfl i2q, ?_⟩
      exact h_Q _ h

def Z_L_lengthOf (x1 : Int) (x2 : Int) (v0 : LZ) (Q : (Int → Prop)) : Prop := (Z_T_at 201 x2 (Lz_lengthsBelow v0) (fun r1_ => (Z_T_at 201 x1 (Lz_lengthsBelow v0) (fun r5_ => zin (r1_ - r5_) ∧ (Q (r1_ - r5_))))))
set_option maxRecDepth 100000 in
theorem z_L_lengthOf {x1 : Int32} {x1z : Int} {x2 : Int32} {x2z : Int} {v0 : LT} {v0z : LZ}  {Q : Int32 → Prop} {Qz : (Int → Prop)} (e_x1 : x1.toInt = x1z) (e_x2 : x2.toInt = x2z) (e_v0 : (aL v0) = v0z) (h_Q : ∀ (a0 : Int32), Qz a0.toInt → Q a0) (h : Z_L_lengthOf x1z x2z v0z Qz) : P_L_lengthOf x1 x2 v0 Q := by
  subst e_x1
  subst e_x2
  subst e_v0
  unfold Z_L_lengthOf at h
  unfold P_L_lengthOf
  refine z_T_at rfl rfl rfl (fun r1_ h => ?_) h
  refine z_T_at rfl rfl rfl (fun r5_ h => ?_) h
  obtain ⟨o1q, h⟩ := h
  exact h_Q _ (Eq.mpr (congrArg (fun k => Qz k) (show (((r1_ - r5_) : Int32)).toInt = ((r1_.toInt - r5_.toInt) : Int) from (zt_sub rfl rfl o1q))) h)

def Z_L_lengthFrom (x1 : Int) (v0 : LZ) (Q : (Int → Prop)) : Prop := ((x1 ≤ (Lz_first v0) → (Q (Lz_length v0))) ∧ (¬ x1 ≤ (Lz_first v0) → (Z_T_at 201 (Lz_end v0) (Lz_lengthsBelow v0) (fun r2_ => (Z_T_at 201 x1 (Lz_lengthsBelow v0) (fun r6_ => zin (r2_ - r6_) ∧ (Q (r2_ - r6_))))))))
set_option maxRecDepth 100000 in
theorem z_L_lengthFrom {x1 : Int32} {x1z : Int} {v0 : LT} {v0z : LZ}  {Q : Int32 → Prop} {Qz : (Int → Prop)} (e_x1 : x1.toInt = x1z) (e_v0 : (aL v0) = v0z) (h_Q : ∀ (a0 : Int32), Qz a0.toInt → Q a0) (h : Z_L_lengthFrom x1z v0z Qz) : P_L_lengthFrom x1 v0 Q := by
  subst e_x1
  subst e_v0
  unfold Z_L_lengthFrom at h
  unfold P_L_lengthFrom
  refine ⟨fun c2q => ?_, fun c2q => ?_⟩
  · have h := h.1 ((zt_le rfl rfl).mp c2q)
    exact h_Q _ h
  · have h := h.2 (fun k => c2q ((zt_le rfl rfl).mpr k))
    refine z_T_at rfl rfl rfl (fun r2_ h => ?_) h
    refine z_T_at rfl rfl rfl (fun r6_ h => ?_) h
    obtain ⟨o1q, h⟩ := h
    exact h_Q _ (Eq.mpr (congrArg (fun k => Qz k) (show (((r2_ - r6_) : Int32)).toInt = ((r2_.toInt - r6_.toInt) : Int) from (zt_sub rfl rfl o1q))) h)

def ZL_L_startAround_7 : Nat → Int → LZ → Int → Int → Int → (Int → Prop) → Prop
  | 0, _, _, _, _, _, _ => False
  | n + 1, x1, v0, y1, y2, y3, Q => (Z_L_segments v0 (fun r1_ => ((r1_ ≤ y3 → (Q y2)) ∧ (¬ r1_ ≤ y3 → (Z_L_startOf y3 v0 (fun r6_ => ((y1 < r6_ → (Q y2)) ∧ (¬ y1 < r6_ → (Z_L_startOf y3 v0 (fun r11_ => zin (y3 + 1) ∧ (ZL_L_startAround_7 n x1 v0 y1 r11_ (y3 + 1) Q)))))))))))
set_option maxRecDepth 100000 in
theorem zL_L_startAround_7 (n : Nat) : ∀ {x1 : Int32} {x1z : Int} {v0 : LT} {v0z : LZ} {y1 : Int32} {y1z : Int} {y2 : Int32} {y2z : Int} {y3 : Int32} {y3z : Int}  {Q : Int32 → Prop} {Qz : (Int → Prop)} (e_x1 : x1.toInt = x1z) (e_v0 : (aL v0) = v0z) (e_y1 : y1.toInt = y1z) (e_y2 : y2.toInt = y2z) (e_y3 : y3.toInt = y3z) (h_Q : ∀ (a0 : Int32), Qz a0.toInt → Q a0) (h : ZL_L_startAround_7 n x1z v0z y1z y2z y3z Qz), PL_L_startAround_7 n x1 v0 y1 y2 y3 Q := by
  induction n with
  | zero =>
    intro x1 x1z v0 v0z y1 y1z y2 y2z y3 y3z Q Qz e_x1 e_v0 e_y1 e_y2 e_y3 h_Q h
    exact (h : False).elim
  | succ n ih =>
    intro x1 x1z v0 v0z y1 y1z y2 y2z y3 y3z Q Qz e_x1 e_v0 e_y1 e_y2 e_y3 h_Q h
    subst e_x1
    subst e_v0
    subst e_y1
    subst e_y2
    subst e_y3
    rw [ZL_L_startAround_7] at h
    rw [PL_L_startAround_7]
    refine z_L_segments rfl (fun r1_ h => ?_) h
    refine ⟨fun c3q => ?_, fun c3q => ?_⟩
    · have h := h.1 ((zt_le rfl rfl).mp c3q)
      exact h_Q _ h
    · have h := h.2 (fun k => c3q ((zt_le rfl rfl).mpr k))
      refine z_L_startOf rfl rfl (fun r6_ h => ?_) h
      refine ⟨fun c2q => ?_, fun c2q => ?_⟩
      · have h := h.1 ((zt_lt rfl rfl).mp c2q)
        exact h_Q _ h
      · have h := h.2 (fun k => c2q ((zt_lt rfl rfl).mpr k))
        refine z_L_startOf rfl rfl (fun r11_ h => ?_) h
        obtain ⟨o1q, h⟩ := h
        refine ih rfl rfl rfl rfl (show (((y3 + 1) : Int32)).toInt = ((y3.toInt + 1) : Int) from (zt_add rfl rfl o1q)) h_Q h
def Z_L_startAround (x1 : Int) (v0 : LZ) (Q : (Int → Prop)) : Prop := (∃ n15_, (ZL_L_startAround_7 n15_ x1 v0 x1 (Lz_first v0) 0 Q))
set_option maxRecDepth 100000 in
theorem z_L_startAround {x1 : Int32} {x1z : Int} {v0 : LT} {v0z : LZ}  {Q : Int32 → Prop} {Qz : (Int → Prop)} (e_x1 : x1.toInt = x1z) (e_v0 : (aL v0) = v0z) (h_Q : ∀ (a0 : Int32), Qz a0.toInt → Q a0) (h : Z_L_startAround x1z v0z Qz) : P_L_startAround x1 v0 Q := by
  subst e_x1
  subst e_v0
  unfold Z_L_startAround at h
  unfold P_L_startAround
  obtain ⟨n15_, h⟩ := h
  refine ⟨n15_, ?_⟩
  refine zL_L_startAround_7 n15_ rfl rfl rfl rfl rfl h_Q h

def Z_L_rowNumber (x1 : Int) (x2 : Int) (v0 : LZ) (Q : (Int → Prop)) : Prop := ((x2 = 0 → (Z_T_at 200 x1 (Lz_keys v0) (fun r2_ => (Q r2_)))) ∧ (¬ x2 = 0 → ((x2 = 1 → (Z_T_at 200 x1 (Lz_values v0) (fun r7_ => (Q r7_)))) ∧ (¬ x2 = 1 → ((x2 = 2 → zin (x1 + 1) ∧ (Z_L_lengthOf x1 (x1 + 1) v0 (fun r12_ => (Q r12_)))) ∧ (¬ x2 = 2 → ((x2 = 3 → (Z_T_at 200 x1 (Lz_times v0) (fun r17_ => (Q r17_)))) ∧ (¬ x2 = 3 → (Z_L_startAround x1 v0 (fun r21_ => (Q r21_)))))))))))
set_option maxRecDepth 100000 in
theorem z_L_rowNumber {x1 : Int32} {x1z : Int} {x2 : Int32} {x2z : Int} {v0 : LT} {v0z : LZ}  {Q : Int32 → Prop} {Qz : (Int → Prop)} (e_x1 : x1.toInt = x1z) (e_x2 : x2.toInt = x2z) (e_v0 : (aL v0) = v0z) (h_Q : ∀ (a0 : Int32), Qz a0.toInt → Q a0) (h : Z_L_rowNumber x1z x2z v0z Qz) : P_L_rowNumber x1 x2 v0 Q := by
  subst e_x1
  subst e_x2
  subst e_v0
  unfold Z_L_rowNumber at h
  unfold P_L_rowNumber
  refine ⟨fun c5q => ?_, fun c5q => ?_⟩
  · have h := h.1 ((zt_eq rfl rfl).mp c5q)
    refine z_T_at rfl rfl rfl (fun r2_ h => ?_) h
    exact h_Q _ h
  · have h := h.2 (fun k => c5q ((zt_eq rfl rfl).mpr k))
    refine ⟨fun c4q => ?_, fun c4q => ?_⟩
    · have h := h.1 ((zt_eq rfl rfl).mp c4q)
      refine z_T_at rfl rfl rfl (fun r7_ h => ?_) h
      exact h_Q _ h
    · have h := h.2 (fun k => c4q ((zt_eq rfl rfl).mpr k))
      refine ⟨fun c3q => ?_, fun c3q => ?_⟩
      · have h := h.1 ((zt_eq rfl rfl).mp c3q)
        obtain ⟨o1q, h⟩ := h
        refine z_L_lengthOf rfl (show (((x1 + 1) : Int32)).toInt = ((x1.toInt + 1) : Int) from (zt_add rfl rfl o1q)) rfl (fun r12_ h => ?_) h
        exact h_Q _ h
      · have h := h.2 (fun k => c3q ((zt_eq rfl rfl).mpr k))
        refine ⟨fun c2q => ?_, fun c2q => ?_⟩
        · have h := h.1 ((zt_eq rfl rfl).mp c2q)
          refine z_T_at rfl rfl rfl (fun r17_ h => ?_) h
          exact h_Q _ h
        · have h := h.2 (fun k => c2q ((zt_eq rfl rfl).mpr k))
          refine z_L_startAround rfl rfl (fun r21_ h => ?_) h
          exact h_Q _ h

def Z_T_put (N0 : Nat) (x1 : Int) (x2 : Int) (v0 : (Nat → Int)) (Q : ((Nat → Int) → Prop)) : Prop := ((x1 < 0 → (Q v0)) ∧ (¬ x1 < 0 → N0 < 2147483648 ∧ ((((N0 : Nat) : Int) ≤ x1 → (Q v0)) ∧ (¬ ((N0 : Nat) : Int) ≤ x1 → ((0 : Int) ≤ x1 ∧ (x1 : Int) < ((N0 : Nat) : Int)) ∧ ((∀ v8_, v8_ = (updz v0 (Int.toNat x1) x2) → ((Q v8_))))))))
set_option maxRecDepth 100000 in
theorem z_T_put {x1 : Int32} {x1z : Int} {x2 : Int32} {x2z : Int} {v0 : Nat → Int32} {v0z : (Nat → Int)} {N0 N0z : Nat} {Q : (Nat → Int32) → Prop} {Qz : ((Nat → Int) → Prop)} (e_N0 : N0 = N0z) (e_x1 : x1.toInt = x1z) (e_x2 : x2.toInt = x2z) (e_v0 : (aA v0) = v0z) (h_Q : ∀ (a0 : Nat → Int32), Qz (aA a0) → Q a0) (h : Z_T_put N0z x1z x2z v0z Qz) : P_T_put N0 x1 x2 v0 Q := by
  subst e_N0
  subst e_x1
  subst e_x2
  subst e_v0
  unfold Z_T_put at h
  unfold P_T_put
  refine ⟨fun c4q => ?_, fun c4q => ?_⟩
  · have h := h.1 ((zt_lt rfl rfl).mp c4q)
    exact h_Q _ h
  · have h := h.2 (fun k => c4q ((zt_lt rfl rfl).mpr k))
    obtain ⟨o1q, h⟩ := h
    refine ⟨fun c3q => ?_, fun c3q => ?_⟩
    · have h := h.1 ((zt_le (show (((Int32.ofNat N0) : Int32)).toInt = (((N0 : Nat) : Int) : Int) from (zt_ofNat o1q)) rfl).mp c3q)
      exact h_Q _ h
    · have h := h.2 (fun k => c3q ((zt_le (show (((Int32.ofNat N0) : Int32)).toInt = (((N0 : Nat) : Int) : Int) from (zt_ofNat o1q)) rfl).mpr k))
      obtain ⟨i2q, h⟩ := h
      refine ⟨zt_in rfl i2q, ?_⟩
      intro v8_ ev8_
      have h := h (aA v8_) (by rw [ev8_]; exact (show (aA (upd v0 (Int32.toNatClampNeg x1) x2)) = (updz (aA v0) (Int.toNat x1.toInt) x2.toInt) from (zt_upd rfl rfl rfl)))
      exact h_Q _ h

def Z_L_add (x1 : Int) (x2 : Int) (x3 : Int) (x4 : Int) (v0 : LZ) (Q : (Int → LZ → Prop)) : Prop := (Z_T_put 200 (Lz_end v0) x1 (Lz_keys v0) (fun v5_ => (∀ v10_, v10_ = (Lz_set_keys v0 v5_) → ((Z_T_put 200 (Lz_end v0) x2 (Lz_values v10_) (fun v17_ => (∀ v22_, v22_ = (Lz_set_values v10_ v17_) → ((Z_T_put 200 (Lz_end v0) x4 (Lz_times v22_) (fun v29_ => (∀ v34_, v34_ = (Lz_set_times v22_ v29_) → ((Z_T_at 201 (Lz_end v0) (Lz_lengthsBelow v34_) (fun r37_ => zin ((Lz_end v0) + 1) ∧ zin (r37_ + x3) ∧ (Z_T_put 201 ((Lz_end v0) + 1) (r37_ + x3) (Lz_lengthsBelow v34_) (fun v45_ => (∀ v50_, v50_ = (Lz_set_lengthsBelow v34_ v45_) → ((∀ v58_, v58_ = (Lz_set_end v50_ ((Lz_end v0) + 1)) → (zin ((Lz_length v58_) + x3) ∧ (∀ v66_, v66_ = (Lz_set_length v58_ ((Lz_length v58_) + x3)) → ((Q (Lz_end v0) v66_)))))))))))))))))))))))
set_option maxRecDepth 100000 in
theorem z_L_add {x1 : Int32} {x1z : Int} {x2 : Int32} {x2z : Int} {x3 : Int32} {x3z : Int} {x4 : Int32} {x4z : Int} {v0 : LT} {v0z : LZ}  {Q : Int32 → LT → Prop} {Qz : (Int → LZ → Prop)} (e_x1 : x1.toInt = x1z) (e_x2 : x2.toInt = x2z) (e_x3 : x3.toInt = x3z) (e_x4 : x4.toInt = x4z) (e_v0 : (aL v0) = v0z) (h_Q : ∀ (a0 : Int32) (a1 : LT), Qz a0.toInt (aL a1) → Q a0 a1) (h : Z_L_add x1z x2z x3z x4z v0z Qz) : P_L_add x1 x2 x3 x4 v0 Q := by
  subst e_x1
  subst e_x2
  subst e_x3
  subst e_x4
  subst e_v0
  unfold Z_L_add at h
  unfold P_L_add
  refine z_T_put rfl rfl rfl rfl (fun v5_ h => ?_) h
  intro v10_ ev10_
  have h := h (aL v10_) (by rw [ev10_]; exact rfl)
  refine z_T_put rfl rfl rfl rfl (fun v17_ h => ?_) h
  intro v22_ ev22_
  have h := h (aL v22_) (by rw [ev22_]; exact rfl)
  refine z_T_put rfl rfl rfl rfl (fun v29_ h => ?_) h
  intro v34_ ev34_
  have h := h (aL v34_) (by rw [ev34_]; exact rfl)
  refine z_T_at rfl rfl rfl (fun r37_ h => ?_) h
  obtain ⟨o1q, h⟩ := h
  obtain ⟨o2q, h⟩ := h
  refine z_T_put rfl (show ((((L_end v0) + 1) : Int32)).toInt = (((Lz_end (aL v0)) + 1) : Int) from (zt_add rfl rfl o1q)) (show (((r37_ + x3) : Int32)).toInt = ((r37_.toInt + x3.toInt) : Int) from (zt_add rfl rfl o2q)) rfl (fun v45_ h => ?_) h
  intro v50_ ev50_
  have h := h (aL v50_) (by rw [ev50_]; exact rfl)
  intro v58_ ev58_
  have h := h (aL v58_) (by rw [ev58_]; exact (show (aL (L_set_end v50_ ((L_end v0) + 1))) = (Lz_set_end (aL v50_) ((Lz_end (aL v0)) + 1)) from (congrArg (fun k => Lz_set_end (aL v50_) k) (show ((((L_end v0) + 1) : Int32)).toInt = (((Lz_end (aL v0)) + 1) : Int) from (zt_add rfl rfl o1q)))))
  obtain ⟨o3q, h⟩ := h
  intro v66_ ev66_
  have h := h (aL v66_) (by rw [ev66_]; exact (show (aL (L_set_length v58_ ((L_length v58_) + x3))) = (Lz_set_length (aL v58_) ((Lz_length (aL v58_)) + x3.toInt)) from (congrArg (fun k => Lz_set_length (aL v58_) k) (show ((((L_length v58_) + x3) : Int32)).toInt = (((Lz_length (aL v58_)) + x3.toInt) : Int) from (zt_add rfl rfl o3q)))))
  exact h_Q _ _ h

def ZJ_L_makeRoomFor_49 (x1 : Int) (x2 : Int) (x3 : Int) (v0 : LZ) (Q : (LZ → Prop)) : Prop := (Z_T_put 200 (Lz_begun v0) (Lz_end v0) (Lz_starts v0) (fun v10_ => (∀ v15_, v15_ = (Lz_set_starts v0 v10_) → (zin ((Lz_begun v15_) + 1) ∧ (∀ v23_, v23_ = (Lz_set_begun v15_ ((Lz_begun v15_) + 1)) → ((Q v23_)))))))
set_option maxRecDepth 100000 in
theorem zJ_L_makeRoomFor_49 {x1 : Int32} {x1z : Int} {x2 : Int32} {x2z : Int} {x3 : Int32} {x3z : Int} {v0 : LT} {v0z : LZ}  {Q : LT → Prop} {Qz : (LZ → Prop)} (e_x1 : x1.toInt = x1z) (e_x2 : x2.toInt = x2z) (e_x3 : x3.toInt = x3z) (e_v0 : (aL v0) = v0z) (h_Q : ∀ (a0 : LT), Qz (aL a0) → Q a0) (h : ZJ_L_makeRoomFor_49 x1z x2z x3z v0z Qz) : PJ_L_makeRoomFor_49 x1 x2 x3 v0 Q := by
  subst e_x1
  subst e_x2
  subst e_x3
  subst e_v0
  unfold ZJ_L_makeRoomFor_49 at h
  unfold PJ_L_makeRoomFor_49
  refine z_T_put rfl rfl rfl rfl (fun v10_ h => ?_) h
  intro v15_ ev15_
  have h := h (aL v15_) (by rw [ev15_]; exact rfl)
  obtain ⟨o1q, h⟩ := h
  intro v23_ ev23_
  have h := h (aL v23_) (by rw [ev23_]; exact (show (aL (L_set_begun v15_ ((L_begun v15_) + 1))) = (Lz_set_begun (aL v15_) ((Lz_begun (aL v15_)) + 1)) from (congrArg (fun k => Lz_set_begun (aL v15_) k) (show ((((L_begun v15_) + 1) : Int32)).toInt = (((Lz_begun (aL v15_)) + 1) : Int) from (zt_add rfl rfl o1q)))))
  exact h_Q _ h
def Z_L_makeRoomFor (x1 : Int) (x2 : Int) (x3 : Int) (v0 : LZ) (Q : (LZ → Prop)) : Prop := zin ((Lz_begun v0) - 1) ∧ (Z_T_at 200 ((Lz_begun v0) - 1) (Lz_starts v0) (fun r1_ => (((Lz_begun v0) = 0 → (ZJ_L_makeRoomFor_49 x1 x2 x3 v0 Q)) ∧ (¬ (Lz_begun v0) = 0 → zin ((Lz_end v0) - r1_) ∧ ((x2 ≤ ((Lz_end v0) - r1_) → (ZJ_L_makeRoomFor_49 x1 x2 x3 v0 Q)) ∧ (¬ x2 ≤ ((Lz_end v0) - r1_) → (Z_L_lengthOf r1_ (Lz_end v0) v0 (fun r27_ => zin (r27_ + x1) ∧ (((r27_ + x1) ≤ x3 → (Q v0)) ∧ (¬ (r27_ + x1) ≤ x3 → (ZJ_L_makeRoomFor_49 x1 x2 x3 v0 Q)))))))))))
set_option maxRecDepth 100000 in
theorem z_L_makeRoomFor {x1 : Int32} {x1z : Int} {x2 : Int32} {x2z : Int} {x3 : Int32} {x3z : Int} {v0 : LT} {v0z : LZ}  {Q : LT → Prop} {Qz : (LZ → Prop)} (e_x1 : x1.toInt = x1z) (e_x2 : x2.toInt = x2z) (e_x3 : x3.toInt = x3z) (e_v0 : (aL v0) = v0z) (h_Q : ∀ (a0 : LT), Qz (aL a0) → Q a0) (h : Z_L_makeRoomFor x1z x2z x3z v0z Qz) : P_L_makeRoomFor x1 x2 x3 v0 Q := by
  subst e_x1
  subst e_x2
  subst e_x3
  subst e_v0
  unfold Z_L_makeRoomFor at h
  unfold P_L_makeRoomFor
  obtain ⟨o1q, h⟩ := h
  refine z_T_at rfl (show ((((L_begun v0) - 1) : Int32)).toInt = (((Lz_begun (aL v0)) - 1) : Int) from (zt_sub rfl rfl o1q)) rfl (fun r1_ h => ?_) h
  refine ⟨fun c6q => ?_, fun c6q => ?_⟩
  · have h := h.1 ((zt_eq rfl rfl).mp c6q)
    refine zJ_L_makeRoomFor_49 rfl rfl rfl rfl h_Q h
  · have h := h.2 (fun k => c6q ((zt_eq rfl rfl).mpr k))
    obtain ⟨o2q, h⟩ := h
    refine ⟨fun c5q => ?_, fun c5q => ?_⟩
    · have h := h.1 ((zt_le rfl (show ((((L_end v0) - r1_) : Int32)).toInt = (((Lz_end (aL v0)) - r1_.toInt) : Int) from (zt_sub rfl rfl o2q))).mp c5q)
      refine zJ_L_makeRoomFor_49 rfl rfl rfl rfl h_Q h
    · have h := h.2 (fun k => c5q ((zt_le rfl (show ((((L_end v0) - r1_) : Int32)).toInt = (((Lz_end (aL v0)) - r1_.toInt) : Int) from (zt_sub rfl rfl o2q))).mpr k))
      refine z_L_lengthOf rfl rfl rfl (fun r27_ h => ?_) h
      obtain ⟨o3q, h⟩ := h
      refine ⟨fun c4q => ?_, fun c4q => ?_⟩
      · have h := h.1 ((zt_le (show (((r27_ + x1) : Int32)).toInt = ((r27_.toInt + x1.toInt) : Int) from (zt_add rfl rfl o3q)) rfl).mp c4q)
        exact h_Q _ h
      · have h := h.2 (fun k => c4q ((zt_le (show (((r27_ + x1) : Int32)).toInt = ((r27_.toInt + x1.toInt) : Int) from (zt_add rfl rfl o3q)) rfl).mpr k))
        refine zJ_L_makeRoomFor_49 rfl rfl rfl rfl h_Q h

def ZL_L_dropFirst_11 : Nat → Int → Int → LZ → (LZ → Prop) → Prop
  | 0, _, _, _, _ => False
  | n + 1, y1, y2, v0, Q => ((y1 ≤ y2 → (Z_L_lengthOf (Lz_first v0) y1 v0 (fun r6_ => zin ((Lz_length v0) - r6_) ∧ (∀ v15_, v15_ = (Lz_set_length v0 ((Lz_length v0) - r6_)) → ((∀ v23_, v23_ = (Lz_set_first v15_ y1) → (zin ((Lz_dropped v23_) + 1) ∧ (∀ v31_, v31_ = (Lz_set_dropped v23_ ((Lz_dropped v23_) + 1)) → ((Q v31_)))))))))) ∧ (¬ y1 ≤ y2 → (Z_T_at 200 y2 (Lz_keys v0) (fun r34_ => (Z_T_at 200 y2 (Lz_values v0) (fun r38_ => (Z_T_put 8 r34_ r38_ (Lz_dropValues v0) (fun v46_ => (∀ v51_, v51_ = (Lz_set_dropValues v0 v46_) → (zin (y2 + 1) ∧ (ZL_L_dropFirst_11 n y1 (y2 + 1) v51_ Q)))))))))))
set_option maxRecDepth 100000 in
theorem zL_L_dropFirst_11 (n : Nat) : ∀ {y1 : Int32} {y1z : Int} {y2 : Int32} {y2z : Int} {v0 : LT} {v0z : LZ}  {Q : LT → Prop} {Qz : (LZ → Prop)} (e_y1 : y1.toInt = y1z) (e_y2 : y2.toInt = y2z) (e_v0 : (aL v0) = v0z) (h_Q : ∀ (a0 : LT), Qz (aL a0) → Q a0) (h : ZL_L_dropFirst_11 n y1z y2z v0z Qz), PL_L_dropFirst_11 n y1 y2 v0 Q := by
  induction n with
  | zero =>
    intro y1 y1z y2 y2z v0 v0z Q Qz e_y1 e_y2 e_v0 h_Q h
    exact (h : False).elim
  | succ n ih =>
    intro y1 y1z y2 y2z v0 v0z Q Qz e_y1 e_y2 e_v0 h_Q h
    subst e_y1
    subst e_y2
    subst e_v0
    rw [ZL_L_dropFirst_11] at h
    rw [PL_L_dropFirst_11]
    refine ⟨fun c4q => ?_, fun c4q => ?_⟩
    · have h := h.1 ((zt_le rfl rfl).mp c4q)
      refine z_L_lengthOf rfl rfl rfl (fun r6_ h => ?_) h
      obtain ⟨o1q, h⟩ := h
      intro v15_ ev15_
      have h := h (aL v15_) (by rw [ev15_]; exact (show (aL (L_set_length v0 ((L_length v0) - r6_))) = (Lz_set_length (aL v0) ((Lz_length (aL v0)) - r6_.toInt)) from (congrArg (fun k => Lz_set_length (aL v0) k) (show ((((L_length v0) - r6_) : Int32)).toInt = (((Lz_length (aL v0)) - r6_.toInt) : Int) from (zt_sub rfl rfl o1q)))))
      intro v23_ ev23_
      have h := h (aL v23_) (by rw [ev23_]; exact rfl)
      obtain ⟨o2q, h⟩ := h
      intro v31_ ev31_
      have h := h (aL v31_) (by rw [ev31_]; exact (show (aL (L_set_dropped v23_ ((L_dropped v23_) + 1))) = (Lz_set_dropped (aL v23_) ((Lz_dropped (aL v23_)) + 1)) from (congrArg (fun k => Lz_set_dropped (aL v23_) k) (show ((((L_dropped v23_) + 1) : Int32)).toInt = (((Lz_dropped (aL v23_)) + 1) : Int) from (zt_add rfl rfl o2q)))))
      exact h_Q _ h
    · have h := h.2 (fun k => c4q ((zt_le rfl rfl).mpr k))
      refine z_T_at rfl rfl rfl (fun r34_ h => ?_) h
      refine z_T_at rfl rfl rfl (fun r38_ h => ?_) h
      refine z_T_put rfl rfl rfl rfl (fun v46_ h => ?_) h
      intro v51_ ev51_
      have h := h (aL v51_) (by rw [ev51_]; exact rfl)
      obtain ⟨o3q, h⟩ := h
      refine ih rfl (show (((y2 + 1) : Int32)).toInt = ((y2.toInt + 1) : Int) from (zt_add rfl rfl o3q)) rfl h_Q h
def Z_L_dropFirst (v0 : LZ) (Q : (LZ → Prop)) : Prop := (Z_L_endOf 0 v0 (fun r1_ => (∃ n54_, (ZL_L_dropFirst_11 n54_ r1_ (Lz_first v0) v0 Q))))
set_option maxRecDepth 100000 in
theorem z_L_dropFirst {v0 : LT} {v0z : LZ}  {Q : LT → Prop} {Qz : (LZ → Prop)} (e_v0 : (aL v0) = v0z) (h_Q : ∀ (a0 : LT), Qz (aL a0) → Q a0) (h : Z_L_dropFirst v0z Qz) : P_L_dropFirst v0 Q := by
  subst e_v0
  unfold Z_L_dropFirst at h
  unfold P_L_dropFirst
  refine z_L_endOf rfl rfl (fun r1_ h => ?_) h
  obtain ⟨n54_, h⟩ := h
  refine ⟨n54_, ?_⟩
  refine zL_L_dropFirst_11 n54_ rfl rfl rfl h_Q h

def ZL_L_toldForwards_15 : Nat → Int → Int → LZ → Int → Int → Int → Int → (Int → Prop) → Prop
  | 0, _, _, _, _, _, _, _, _ => False
  | n + 1, x1, x2, v0, y1, y2, y3, y4, Q => ((y2 ≤ y4 → (Q y3)) ∧ (¬ y2 ≤ y4 → (Z_T_at 200 y4 (Lz_keys v0) (fun r6_ => ((¬ r6_ = y1 → zin (y4 + 1) ∧ (ZL_L_toldForwards_15 n x1 x2 v0 y1 y2 y3 (y4 + 1) Q)) ∧ (r6_ = y1 → (Z_T_at 200 y4 (Lz_values v0) (fun r11_ => zin (y4 + 1) ∧ (ZL_L_toldForwards_15 n x1 x2 v0 y1 y2 r11_ (y4 + 1) Q)))))))))
set_option maxRecDepth 100000 in
theorem zL_L_toldForwards_15 (n : Nat) : ∀ {x1 : Int32} {x1z : Int} {x2 : Int32} {x2z : Int} {v0 : LT} {v0z : LZ} {y1 : Int32} {y1z : Int} {y2 : Int32} {y2z : Int} {y3 : Int32} {y3z : Int} {y4 : Int32} {y4z : Int}  {Q : Int32 → Prop} {Qz : (Int → Prop)} (e_x1 : x1.toInt = x1z) (e_x2 : x2.toInt = x2z) (e_v0 : (aL v0) = v0z) (e_y1 : y1.toInt = y1z) (e_y2 : y2.toInt = y2z) (e_y3 : y3.toInt = y3z) (e_y4 : y4.toInt = y4z) (h_Q : ∀ (a0 : Int32), Qz a0.toInt → Q a0) (h : ZL_L_toldForwards_15 n x1z x2z v0z y1z y2z y3z y4z Qz), PL_L_toldForwards_15 n x1 x2 v0 y1 y2 y3 y4 Q := by
  induction n with
  | zero =>
    intro x1 x1z x2 x2z v0 v0z y1 y1z y2 y2z y3 y3z y4 y4z Q Qz e_x1 e_x2 e_v0 e_y1 e_y2 e_y3 e_y4 h_Q h
    exact (h : False).elim
  | succ n ih =>
    intro x1 x1z x2 x2z v0 v0z y1 y1z y2 y2z y3 y3z y4 y4z Q Qz e_x1 e_x2 e_v0 e_y1 e_y2 e_y3 e_y4 h_Q h
    subst e_x1
    subst e_x2
    subst e_v0
    subst e_y1
    subst e_y2
    subst e_y3
    subst e_y4
    rw [ZL_L_toldForwards_15] at h
    rw [PL_L_toldForwards_15]
    refine ⟨fun c4q => ?_, fun c4q => ?_⟩
    · have h := h.1 ((zt_le rfl rfl).mp c4q)
      exact h_Q _ h
    · have h := h.2 (fun k => c4q ((zt_le rfl rfl).mpr k))
      refine z_T_at rfl rfl rfl (fun r6_ h => ?_) h
      refine ⟨fun c3q => ?_, fun c3q => ?_⟩
      · have h := h.1 (fun k => c3q ((zt_eq rfl rfl).mpr k))
        obtain ⟨o1q, h⟩ := h
        refine ih rfl rfl rfl rfl rfl rfl (show (((y4 + 1) : Int32)).toInt = ((y4.toInt + 1) : Int) from (zt_add rfl rfl o1q)) h_Q h
      · have h := h.2 ((zt_eq rfl rfl).mp c3q)
        refine z_T_at rfl rfl rfl (fun r11_ h => ?_) h
        obtain ⟨o2q, h⟩ := h
        refine ih rfl rfl rfl rfl rfl rfl (show (((y4 + 1) : Int32)).toInt = ((y4.toInt + 1) : Int) from (zt_add rfl rfl o2q)) h_Q h
def Z_L_toldForwards (x1 : Int) (x2 : Int) (v0 : LZ) (Q : (Int → Prop)) : Prop := (Z_T_at 8 x1 (Lz_dropValues v0) (fun r1_ => (∃ n15_, (ZL_L_toldForwards_15 n15_ x1 x2 v0 x1 x2 r1_ (Lz_first v0) Q))))
set_option maxRecDepth 100000 in
theorem z_L_toldForwards {x1 : Int32} {x1z : Int} {x2 : Int32} {x2z : Int} {v0 : LT} {v0z : LZ}  {Q : Int32 → Prop} {Qz : (Int → Prop)} (e_x1 : x1.toInt = x1z) (e_x2 : x2.toInt = x2z) (e_v0 : (aL v0) = v0z) (h_Q : ∀ (a0 : Int32), Qz a0.toInt → Q a0) (h : Z_L_toldForwards x1z x2z v0z Qz) : P_L_toldForwards x1 x2 v0 Q := by
  subst e_x1
  subst e_x2
  subst e_v0
  unfold Z_L_toldForwards at h
  unfold P_L_toldForwards
  refine z_T_at rfl rfl rfl (fun r1_ h => ?_) h
  obtain ⟨n15_, h⟩ := h
  refine ⟨n15_, ?_⟩
  refine zL_L_toldForwards_15 n15_ rfl rfl rfl rfl rfl rfl rfl h_Q h

def ZL_L_toldBackwards_4 : Nat → Int → Int → LZ → Int → Int → (Int → Prop) → Prop
  | 0, _, _, _, _, _, _ => False
  | n + 1, x1, x2, v0, y1, y3, Q => ((y3 < (Lz_first v0) → (Z_T_at 8 y1 (Lz_dropValues v0) (fun r2_ => (Q r2_)))) ∧ (¬ y3 < (Lz_first v0) → (Z_T_at 200 y3 (Lz_keys v0) (fun r6_ => ((¬ r6_ = y1 → zin (y3 + (-1)) ∧ (ZL_L_toldBackwards_4 n x1 x2 v0 y1 (y3 + (-1)) Q)) ∧ (r6_ = y1 → (Z_T_at 200 y3 (Lz_values v0) (fun r11_ => (Q r11_)))))))))
set_option maxRecDepth 100000 in
theorem zL_L_toldBackwards_4 (n : Nat) : ∀ {x1 : Int32} {x1z : Int} {x2 : Int32} {x2z : Int} {v0 : LT} {v0z : LZ} {y1 : Int32} {y1z : Int} {y3 : Int32} {y3z : Int}  {Q : Int32 → Prop} {Qz : (Int → Prop)} (e_x1 : x1.toInt = x1z) (e_x2 : x2.toInt = x2z) (e_v0 : (aL v0) = v0z) (e_y1 : y1.toInt = y1z) (e_y3 : y3.toInt = y3z) (h_Q : ∀ (a0 : Int32), Qz a0.toInt → Q a0) (h : ZL_L_toldBackwards_4 n x1z x2z v0z y1z y3z Qz), PL_L_toldBackwards_4 n x1 x2 v0 y1 y3 Q := by
  induction n with
  | zero =>
    intro x1 x1z x2 x2z v0 v0z y1 y1z y3 y3z Q Qz e_x1 e_x2 e_v0 e_y1 e_y3 h_Q h
    exact (h : False).elim
  | succ n ih =>
    intro x1 x1z x2 x2z v0 v0z y1 y1z y3 y3z Q Qz e_x1 e_x2 e_v0 e_y1 e_y3 h_Q h
    subst e_x1
    subst e_x2
    subst e_v0
    subst e_y1
    subst e_y3
    rw [ZL_L_toldBackwards_4] at h
    rw [PL_L_toldBackwards_4]
    refine ⟨fun c3q => ?_, fun c3q => ?_⟩
    · have h := h.1 ((zt_lt rfl rfl).mp c3q)
      refine z_T_at rfl rfl rfl (fun r2_ h => ?_) h
      exact h_Q _ h
    · have h := h.2 (fun k => c3q ((zt_lt rfl rfl).mpr k))
      refine z_T_at rfl rfl rfl (fun r6_ h => ?_) h
      refine ⟨fun c2q => ?_, fun c2q => ?_⟩
      · have h := h.1 (fun k => c2q ((zt_eq rfl rfl).mpr k))
        obtain ⟨o1q, h⟩ := h
        refine ih rfl rfl rfl rfl (show (((y3 + (-1)) : Int32)).toInt = ((y3.toInt + (-1)) : Int) from (zt_add rfl rfl o1q)) h_Q h
      · have h := h.2 ((zt_eq rfl rfl).mp c2q)
        refine z_T_at rfl rfl rfl (fun r11_ h => ?_) h
        exact h_Q _ h
def Z_L_toldBackwards (x1 : Int) (x2 : Int) (v0 : LZ) (Q : (Int → Prop)) : Prop := (∃ n15_, zin (x2 - 1) ∧ (ZL_L_toldBackwards_4 n15_ x1 x2 v0 x1 (x2 - 1) Q))
set_option maxRecDepth 100000 in
theorem z_L_toldBackwards {x1 : Int32} {x1z : Int} {x2 : Int32} {x2z : Int} {v0 : LT} {v0z : LZ}  {Q : Int32 → Prop} {Qz : (Int → Prop)} (e_x1 : x1.toInt = x1z) (e_x2 : x2.toInt = x2z) (e_v0 : (aL v0) = v0z) (h_Q : ∀ (a0 : Int32), Qz a0.toInt → Q a0) (h : Z_L_toldBackwards x1z x2z v0z Qz) : P_L_toldBackwards x1 x2 v0 Q := by
  subst e_x1
  subst e_x2
  subst e_v0
  unfold Z_L_toldBackwards at h
  unfold P_L_toldBackwards
  obtain ⟨n15_, h⟩ := h
  refine ⟨n15_, ?_⟩
  obtain ⟨o1q, h⟩ := h
  refine zL_L_toldBackwards_4 n15_ rfl rfl rfl rfl (show (((x2 - 1) : Int32)).toInt = ((x2.toInt - 1) : Int) from (zt_sub rfl rfl o1q)) h_Q h

def ZL_S_renew_9 : Nat → Int → SZ → (SZ → Prop) → Prop
  | 0, _, _, _ => False
  | n + 1, y1, v0, Q => ((8 ≤ y1 → (Z_T_copy 6 6 (zSvz 0) (Sz_settings v0) (fun v18_ => (∀ v23_, v23_ = (Sz_set_settings v0 v18_) → ((∀ v31_, v31_ = (Sz_set_time v23_ 0) → ((∀ v39_, v39_ = (Sz_set_lostByLength v31_ 0) → ((∀ v47_, v47_ = (Sz_set_lostBySleep v39_ 0) → ((∀ v55_, v55_ = (Sz_set_missed v47_ 0) → ((Q v55_)))))))))))))) ∧ (¬ 8 ≤ y1 → ((0 : Int) ≤ y1 ∧ (y1 : Int) < 8) ∧ ((Z_R_renew (Sz_readers v0 (Int.toNat y1)) (fun v63_ => (∀ v68_, v68_ = (Sz_seti_readers v0 (Int.toNat y1) v63_) → (zin (y1 + 1) ∧ (ZL_S_renew_9 n (y1 + 1) v68_ Q))))))))
set_option maxRecDepth 100000 in
theorem zL_S_renew_9 (n : Nat) : ∀ {y1 : Int32} {y1z : Int} {v0 : ST} {v0z : SZ}  {Q : ST → Prop} {Qz : (SZ → Prop)} (e_y1 : y1.toInt = y1z) (e_v0 : (aS v0) = v0z) (h_Q : ∀ (a0 : ST), Qz (aS a0) → Q a0) (h : ZL_S_renew_9 n y1z v0z Qz), PL_S_renew_9 n y1 v0 Q := by
  induction n with
  | zero =>
    intro y1 y1z v0 v0z Q Qz e_y1 e_v0 h_Q h
    exact (h : False).elim
  | succ n ih =>
    intro y1 y1z v0 v0z Q Qz e_y1 e_v0 h_Q h
    subst e_y1
    subst e_v0
    rw [ZL_S_renew_9] at h
    rw [PL_S_renew_9]
    refine ⟨fun c3q => ?_, fun c3q => ?_⟩
    · have h := h.1 ((zt_le rfl rfl).mp c3q)
      refine z_T_copy rfl rfl (show (aA (zSv 0)) = (zSvz 0) from zt_Sv) rfl (fun v18_ h => ?_) h
      intro v23_ ev23_
      have h := h (aS v23_) (by rw [ev23_]; exact rfl)
      intro v31_ ev31_
      have h := h (aS v31_) (by rw [ev31_]; exact rfl)
      intro v39_ ev39_
      have h := h (aS v39_) (by rw [ev39_]; exact rfl)
      intro v47_ ev47_
      have h := h (aS v47_) (by rw [ev47_]; exact rfl)
      intro v55_ ev55_
      have h := h (aS v55_) (by rw [ev55_]; exact rfl)
      exact h_Q _ h
    · have h := h.2 (fun k => c3q ((zt_le rfl rfl).mpr k))
      obtain ⟨i1q, h⟩ := h
      refine ⟨zt_in rfl i1q, ?_⟩
      refine z_R_renew rfl (fun v63_ h => ?_) h
      intro v68_ ev68_
      have h := h (aS v68_) (by rw [ev68_]; exact (show (aS (S_seti_readers v0 (Int32.toNatClampNeg y1) v63_)) = (Sz_seti_readers (aS v0) (Int.toNat y1.toInt) (aR v63_)) from (zt_seti_S_readers rfl rfl rfl)))
      obtain ⟨o2q, h⟩ := h
      refine ih (show (((y1 + 1) : Int32)).toInt = ((y1.toInt + 1) : Int) from (zt_add rfl rfl o2q)) rfl h_Q h
def Z_S_renew (v0 : SZ) (Q : (SZ → Prop)) : Prop := (Z_L_renew (Sz_log v0) (fun v5_ => (∀ v10_, v10_ = (Sz_set_log v0 v5_) → ((∃ n71_, (ZL_S_renew_9 n71_ 0 v10_ Q))))))
set_option maxRecDepth 100000 in
theorem z_S_renew {v0 : ST} {v0z : SZ}  {Q : ST → Prop} {Qz : (SZ → Prop)} (e_v0 : (aS v0) = v0z) (h_Q : ∀ (a0 : ST), Qz (aS a0) → Q a0) (h : Z_S_renew v0z Qz) : P_S_renew v0 Q := by
  subst e_v0
  unfold Z_S_renew at h
  unfold P_S_renew
  refine z_L_renew rfl (fun v5_ h => ?_) h
  intro v10_ ev10_
  have h := h (aS v10_) (by rw [ev10_]; exact rfl)
  obtain ⟨n71_, h⟩ := h
  refine ⟨n71_, ?_⟩
  refine zL_S_renew_9 n71_ rfl rfl h_Q h

def ZL_S_takeOver_18 : Nat → SZ → Int → SZ → (SZ → Prop) → Prop
  | 0, _, _, _, _ => False
  | n + 1, v1, y2, v0, Q => ((8 ≤ y2 → (Z_T_copy 6 6 (Sz_settings v1) (Sz_settings v0) (fun v19_ => (∀ v24_, v24_ = (Sz_set_settings v0 v19_) → ((∀ v33_, v33_ = (Sz_set_time v24_ (Sz_time v1)) → ((∀ v42_, v42_ = (Sz_set_lostByLength v33_ (Sz_lostByLength v1)) → ((∀ v51_, v51_ = (Sz_set_lostBySleep v42_ (Sz_lostBySleep v1)) → ((∀ v60_, v60_ = (Sz_set_missed v51_ (Sz_missed v1)) → ((Q v60_)))))))))))))) ∧ (¬ 8 ≤ y2 → ((0 : Int) ≤ y2 ∧ (y2 : Int) < 8) ∧ (((0 : Int) ≤ y2 ∧ (y2 : Int) < 8) ∧ ((Z_R_takeOver (Sz_readers v0 (Int.toNat y2)) (Sz_readers v1 (Int.toNat y2)) (fun v70_ => (∀ v75_, v75_ = (Sz_seti_readers v0 (Int.toNat y2) v70_) → (zin (y2 + 1) ∧ (ZL_S_takeOver_18 n v1 (y2 + 1) v75_ Q)))))))))
set_option maxRecDepth 100000 in
theorem zL_S_takeOver_18 (n : Nat) : ∀ {v1 : ST} {v1z : SZ} {y2 : Int32} {y2z : Int} {v0 : ST} {v0z : SZ}  {Q : ST → Prop} {Qz : (SZ → Prop)} (e_v1 : (aS v1) = v1z) (e_y2 : y2.toInt = y2z) (e_v0 : (aS v0) = v0z) (h_Q : ∀ (a0 : ST), Qz (aS a0) → Q a0) (h : ZL_S_takeOver_18 n v1z y2z v0z Qz), PL_S_takeOver_18 n v1 y2 v0 Q := by
  induction n with
  | zero =>
    intro v1 v1z y2 y2z v0 v0z Q Qz e_v1 e_y2 e_v0 h_Q h
    exact (h : False).elim
  | succ n ih =>
    intro v1 v1z y2 y2z v0 v0z Q Qz e_v1 e_y2 e_v0 h_Q h
    subst e_v1
    subst e_y2
    subst e_v0
    rw [ZL_S_takeOver_18] at h
    rw [PL_S_takeOver_18]
    refine ⟨fun c4q => ?_, fun c4q => ?_⟩
    · have h := h.1 ((zt_le rfl rfl).mp c4q)
      refine z_T_copy rfl rfl rfl rfl (fun v19_ h => ?_) h
      intro v24_ ev24_
      have h := h (aS v24_) (by rw [ev24_]; exact rfl)
      intro v33_ ev33_
      have h := h (aS v33_) (by rw [ev33_]; exact rfl)
      intro v42_ ev42_
      have h := h (aS v42_) (by rw [ev42_]; exact rfl)
      intro v51_ ev51_
      have h := h (aS v51_) (by rw [ev51_]; exact rfl)
      intro v60_ ev60_
      have h := h (aS v60_) (by rw [ev60_]; exact rfl)
      exact h_Q _ h
    · have h := h.2 (fun k => c4q ((zt_le rfl rfl).mpr k))
      obtain ⟨i1q, h⟩ := h
      refine ⟨zt_in rfl i1q, ?_⟩
      obtain ⟨i2q, h⟩ := h
      refine ⟨zt_in rfl i2q, ?_⟩
      refine z_R_takeOver rfl rfl (fun v70_ h => ?_) h
      intro v75_ ev75_
      have h := h (aS v75_) (by rw [ev75_]; exact (show (aS (S_seti_readers v0 (Int32.toNatClampNeg y2) v70_)) = (Sz_seti_readers (aS v0) (Int.toNat y2.toInt) (aR v70_)) from (zt_seti_S_readers rfl rfl rfl)))
      obtain ⟨o3q, h⟩ := h
      refine ih rfl (show (((y2 + 1) : Int32)).toInt = ((y2.toInt + 1) : Int) from (zt_add rfl rfl o3q)) rfl h_Q h
def Z_S_takeOver (v0 : SZ) (v1 : SZ) (Q : (SZ → Prop)) : Prop := (Z_L_takeOver (Sz_log v0) (Sz_log v1) (fun v5_ => (∀ v10_, v10_ = (Sz_set_log v0 v5_) → ((∃ n79_, (ZL_S_takeOver_18 n79_ v1 0 v10_ Q))))))
set_option maxRecDepth 100000 in
theorem z_S_takeOver {v0 : ST} {v0z : SZ} {v1 : ST} {v1z : SZ}  {Q : ST → Prop} {Qz : (SZ → Prop)} (e_v0 : (aS v0) = v0z) (e_v1 : (aS v1) = v1z) (h_Q : ∀ (a0 : ST), Qz (aS a0) → Q a0) (h : Z_S_takeOver v0z v1z Qz) : P_S_takeOver v0 v1 Q := by
  subst e_v0
  subst e_v1
  unfold Z_S_takeOver at h
  unfold P_S_takeOver
  refine z_L_takeOver rfl rfl (fun v5_ h => ?_) h
  intro v10_ ev10_
  have h := h (aS v10_) (by rw [ev10_]; exact rfl)
  obtain ⟨n79_, h⟩ := h
  refine ⟨n79_, ?_⟩
  refine zL_S_takeOver_18 n79_ rfl rfl rfl h_Q h

def Z_S_named (x1 : Int) (v0 : SZ) (Q : (Option Nat → Prop)) : Prop := ((x1 < 0 → (Q none)) ∧ (¬ x1 < 0 → ((8 ≤ x1 → (Q none)) ∧ (¬ 8 ≤ x1 → ((0 : Int) ≤ x1 ∧ (x1 : Int) < 8) ∧ ((Q (some (Int.toNat x1))))))))
set_option maxRecDepth 100000 in
theorem z_S_named {x1 : Int32} {x1z : Int} {v0 : ST} {v0z : SZ}  {Q : Option Nat → Prop} {Qz : (Option Nat → Prop)} (e_x1 : x1.toInt = x1z) (e_v0 : (aS v0) = v0z) (h_Q : ∀ (a0 : Option Nat), Qz a0 → Q a0) (h : Z_S_named x1z v0z Qz) : P_S_named x1 v0 Q := by
  subst e_x1
  subst e_v0
  unfold Z_S_named at h
  unfold P_S_named
  refine ⟨fun c3q => ?_, fun c3q => ?_⟩
  · have h := h.1 ((zt_lt rfl rfl).mp c3q)
    exact h_Q _ h
  · have h := h.2 (fun k => c3q ((zt_lt rfl rfl).mpr k))
    refine ⟨fun c2q => ?_, fun c2q => ?_⟩
    · have h := h.1 ((zt_le rfl rfl).mp c2q)
      exact h_Q _ h
    · have h := h.2 (fun k => c2q ((zt_le rfl rfl).mpr k))
      obtain ⟨i1q, h⟩ := h
      refine ⟨zt_in rfl i1q, ?_⟩
      exact h_Q _ h

def Z_S_reader (x1 : Int) (v0 : SZ) (Q : (Option Nat → Prop)) : Prop := (Z_S_named x1 v0 (fun r5_ => ((r5_ = none → (Q none)) ∧ (∀ i7_, r5_ = some i7_ → (((Rz_present (Sz_readers v0 i7_)) = 0 → (Q none)) ∧ (¬ (Rz_present (Sz_readers v0 i7_)) = 0 → (Q (some i7_))))))))
set_option maxRecDepth 100000 in
theorem z_S_reader {x1 : Int32} {x1z : Int} {v0 : ST} {v0z : SZ}  {Q : Option Nat → Prop} {Qz : (Option Nat → Prop)} (e_x1 : x1.toInt = x1z) (e_v0 : (aS v0) = v0z) (h_Q : ∀ (a0 : Option Nat), Qz a0 → Q a0) (h : Z_S_reader x1z v0z Qz) : P_S_reader x1 v0 Q := by
  subst e_x1
  subst e_v0
  unfold Z_S_reader at h
  unfold P_S_reader
  refine z_S_named rfl rfl (fun r5_ h => ?_) h
  refine ⟨fun c => ?_, fun i7_ c => ?_⟩
  · have h := h.1 c
    exact h_Q _ h
  · have h := h.2 i7_ c
    refine ⟨fun c1q => ?_, fun c1q => ?_⟩
    · have h := h.1 ((zt_eq rfl rfl).mp c1q)
      exact h_Q _ h
    · have h := h.2 (fun k => c1q ((zt_eq rfl rfl).mpr k))
      exact h_Q _ h

def Z_S_hasHold (x1 : Int) (v0 : SZ) (Q : (Int → Prop)) : Prop := (Z_S_reader x1 v0 (fun r5_ => ((r5_ = none → (Q 0)) ∧ (∀ i7_, r5_ = some i7_ → (((Rz_held (Sz_readers v0 i7_)) = 0 → (Q 0)) ∧ (¬ (Rz_held (Sz_readers v0 i7_)) = 0 → (Q 1)))))))
set_option maxRecDepth 100000 in
theorem z_S_hasHold {x1 : Int32} {x1z : Int} {v0 : ST} {v0z : SZ}  {Q : Int32 → Prop} {Qz : (Int → Prop)} (e_x1 : x1.toInt = x1z) (e_v0 : (aS v0) = v0z) (h_Q : ∀ (a0 : Int32), Qz a0.toInt → Q a0) (h : Z_S_hasHold x1z v0z Qz) : P_S_hasHold x1 v0 Q := by
  subst e_x1
  subst e_v0
  unfold Z_S_hasHold at h
  unfold P_S_hasHold
  refine z_S_reader rfl rfl (fun r5_ h => ?_) h
  refine ⟨fun c => ?_, fun i7_ c => ?_⟩
  · have h := h.1 c
    exact h_Q _ h
  · have h := h.2 i7_ c
    refine ⟨fun c1q => ?_, fun c1q => ?_⟩
    · have h := h.1 ((zt_eq rfl rfl).mp c1q)
      exact h_Q _ h
    · have h := h.2 (fun k => c1q ((zt_eq rfl rfl).mpr k))
      exact h_Q _ h

def Z_S_hasGap (x1 : Int) (v0 : SZ) (Q : (Int → Prop)) : Prop := (Z_S_reader x1 v0 (fun r5_ => ((r5_ = none → (Q 0)) ∧ (∀ i7_, r5_ = some i7_ → (((Lz_first (Sz_log v0)) ≤ (Rz_place (Sz_readers v0 i7_)) → (Q 0)) ∧ (¬ (Lz_first (Sz_log v0)) ≤ (Rz_place (Sz_readers v0 i7_)) → (Q 1)))))))
set_option maxRecDepth 100000 in
theorem z_S_hasGap {x1 : Int32} {x1z : Int} {v0 : ST} {v0z : SZ}  {Q : Int32 → Prop} {Qz : (Int → Prop)} (e_x1 : x1.toInt = x1z) (e_v0 : (aS v0) = v0z) (h_Q : ∀ (a0 : Int32), Qz a0.toInt → Q a0) (h : Z_S_hasGap x1z v0z Qz) : P_S_hasGap x1 v0 Q := by
  subst e_x1
  subst e_v0
  unfold Z_S_hasGap at h
  unfold P_S_hasGap
  refine z_S_reader rfl rfl (fun r5_ h => ?_) h
  refine ⟨fun c => ?_, fun i7_ c => ?_⟩
  · have h := h.1 c
    exact h_Q _ h
  · have h := h.2 i7_ c
    refine ⟨fun c1q => ?_, fun c1q => ?_⟩
    · have h := h.1 ((zt_le rfl rfl).mp c1q)
      exact h_Q _ h
    · have h := h.2 (fun k => c1q ((zt_le rfl rfl).mpr k))
      exact h_Q _ h

def Z_S_isAtLeastAt (x1 : Int) (x2 : Int) (v0 : SZ) (Q : (Int → Prop)) : Prop := (Z_S_reader x1 v0 (fun r5_ => ((r5_ = none → (Q 0)) ∧ (∀ i7_, r5_ = some i7_ → (((Rz_place (Sz_readers v0 i7_)) < x2 → (Q 0)) ∧ (¬ (Rz_place (Sz_readers v0 i7_)) < x2 → (Q 1)))))))
set_option maxRecDepth 100000 in
theorem z_S_isAtLeastAt {x1 : Int32} {x1z : Int} {x2 : Int32} {x2z : Int} {v0 : ST} {v0z : SZ}  {Q : Int32 → Prop} {Qz : (Int → Prop)} (e_x1 : x1.toInt = x1z) (e_x2 : x2.toInt = x2z) (e_v0 : (aS v0) = v0z) (h_Q : ∀ (a0 : Int32), Qz a0.toInt → Q a0) (h : Z_S_isAtLeastAt x1z x2z v0z Qz) : P_S_isAtLeastAt x1 x2 v0 Q := by
  subst e_x1
  subst e_x2
  subst e_v0
  unfold Z_S_isAtLeastAt at h
  unfold P_S_isAtLeastAt
  refine z_S_reader rfl rfl (fun r5_ h => ?_) h
  refine ⟨fun c => ?_, fun i7_ c => ?_⟩
  · have h := h.1 c
    exact h_Q _ h
  · have h := h.2 i7_ c
    refine ⟨fun c1q => ?_, fun c1q => ?_⟩
    · have h := h.1 ((zt_lt rfl rfl).mp c1q)
      exact h_Q _ h
    · have h := h.2 (fun k => c1q ((zt_lt rfl rfl).mpr k))
      exact h_Q _ h

def Z_T_asNumber (x1 : Int) (Q : (Int → Prop)) : Prop := ((x1 = 0 → (Q 0)) ∧ (¬ x1 = 0 → (Q 1)))
set_option maxRecDepth 100000 in
theorem z_T_asNumber {x1 : Int32} {x1z : Int}  {Q : Int32 → Prop} {Qz : (Int → Prop)} (e_x1 : x1.toInt = x1z) (h_Q : ∀ (a0 : Int32), Qz a0.toInt → Q a0) (h : Z_T_asNumber x1z Qz) : P_T_asNumber x1 Q := by
  subst e_x1
  unfold Z_T_asNumber at h
  unfold P_T_asNumber
  refine ⟨fun c1q => ?_, fun c1q => ?_⟩
  · have h := h.1 ((zt_eq rfl rfl).mp c1q)
    exact h_Q _ h
  · have h := h.2 (fun k => c1q ((zt_eq rfl rfl).mpr k))
    exact h_Q _ h

def ZL_S_readerCount_4 : Nat → SZ → Int → Int → (Int → Prop) → Prop
  | 0, _, _, _, _ => False
  | n + 1, v0, y1, y2, Q => ((8 ≤ y2 → (Q y1)) ∧ (¬ 8 ≤ y2 → (Z_S_reader y2 v0 (fun r6_ => ((r6_ = none → (Z_T_asNumber 0 (fun r10_ => zin (y1 + r10_) ∧ zin (y2 + 1) ∧ (ZL_S_readerCount_4 n v0 (y1 + r10_) (y2 + 1) Q)))) ∧ (∀ i8_, r6_ = some i8_ → (Z_T_asNumber 1 (fun r14_ => zin (y1 + r14_) ∧ zin (y2 + 1) ∧ (ZL_S_readerCount_4 n v0 (y1 + r14_) (y2 + 1) Q)))))))))
set_option maxRecDepth 100000 in
theorem zL_S_readerCount_4 (n : Nat) : ∀ {v0 : ST} {v0z : SZ} {y1 : Int32} {y1z : Int} {y2 : Int32} {y2z : Int}  {Q : Int32 → Prop} {Qz : (Int → Prop)} (e_v0 : (aS v0) = v0z) (e_y1 : y1.toInt = y1z) (e_y2 : y2.toInt = y2z) (h_Q : ∀ (a0 : Int32), Qz a0.toInt → Q a0) (h : ZL_S_readerCount_4 n v0z y1z y2z Qz), PL_S_readerCount_4 n v0 y1 y2 Q := by
  induction n with
  | zero =>
    intro v0 v0z y1 y1z y2 y2z Q Qz e_v0 e_y1 e_y2 h_Q h
    exact (h : False).elim
  | succ n ih =>
    intro v0 v0z y1 y1z y2 y2z Q Qz e_v0 e_y1 e_y2 h_Q h
    subst e_v0
    subst e_y1
    subst e_y2
    rw [ZL_S_readerCount_4] at h
    rw [PL_S_readerCount_4]
    refine ⟨fun c5q => ?_, fun c5q => ?_⟩
    · have h := h.1 ((zt_le rfl rfl).mp c5q)
      exact h_Q _ h
    · have h := h.2 (fun k => c5q ((zt_le rfl rfl).mpr k))
      refine z_S_reader rfl rfl (fun r6_ h => ?_) h
      refine ⟨fun c => ?_, fun i8_ c => ?_⟩
      · have h := h.1 c
        refine z_T_asNumber rfl (fun r10_ h => ?_) h
        obtain ⟨o1q, h⟩ := h
        obtain ⟨o2q, h⟩ := h
        refine ih rfl (show (((y1 + r10_) : Int32)).toInt = ((y1.toInt + r10_.toInt) : Int) from (zt_add rfl rfl o1q)) (show (((y2 + 1) : Int32)).toInt = ((y2.toInt + 1) : Int) from (zt_add rfl rfl o2q)) h_Q h
      · have h := h.2 i8_ c
        refine z_T_asNumber rfl (fun r14_ h => ?_) h
        obtain ⟨o3q, h⟩ := h
        obtain ⟨o4q, h⟩ := h
        refine ih rfl (show (((y1 + r14_) : Int32)).toInt = ((y1.toInt + r14_.toInt) : Int) from (zt_add rfl rfl o3q)) (show (((y2 + 1) : Int32)).toInt = ((y2.toInt + 1) : Int) from (zt_add rfl rfl o4q)) h_Q h
def Z_S_readerCount (v0 : SZ) (Q : (Int → Prop)) : Prop := (∃ n18_, (ZL_S_readerCount_4 n18_ v0 0 0 Q))
set_option maxRecDepth 100000 in
theorem z_S_readerCount {v0 : ST} {v0z : SZ}  {Q : Int32 → Prop} {Qz : (Int → Prop)} (e_v0 : (aS v0) = v0z) (h_Q : ∀ (a0 : Int32), Qz a0.toInt → Q a0) (h : Z_S_readerCount v0z Qz) : P_S_readerCount v0 Q := by
  subst e_v0
  unfold Z_S_readerCount at h
  unfold P_S_readerCount
  obtain ⟨n18_, h⟩ := h
  refine ⟨n18_, ?_⟩
  refine zL_S_readerCount_4 n18_ rfl rfl rfl h_Q h

def ZL_S_gapCount_4 : Nat → SZ → Int → Int → (Int → Prop) → Prop
  | 0, _, _, _, _ => False
  | n + 1, v0, y1, y2, Q => ((8 ≤ y2 → (Q y1)) ∧ (¬ 8 ≤ y2 → (Z_S_hasGap y2 v0 (fun r2_ => (Z_T_asNumber r2_ (fun r6_ => zin (y1 + r6_) ∧ zin (y2 + 1) ∧ (ZL_S_gapCount_4 n v0 (y1 + r6_) (y2 + 1) Q)))))))
set_option maxRecDepth 100000 in
theorem zL_S_gapCount_4 (n : Nat) : ∀ {v0 : ST} {v0z : SZ} {y1 : Int32} {y1z : Int} {y2 : Int32} {y2z : Int}  {Q : Int32 → Prop} {Qz : (Int → Prop)} (e_v0 : (aS v0) = v0z) (e_y1 : y1.toInt = y1z) (e_y2 : y2.toInt = y2z) (h_Q : ∀ (a0 : Int32), Qz a0.toInt → Q a0) (h : ZL_S_gapCount_4 n v0z y1z y2z Qz), PL_S_gapCount_4 n v0 y1 y2 Q := by
  induction n with
  | zero =>
    intro v0 v0z y1 y1z y2 y2z Q Qz e_v0 e_y1 e_y2 h_Q h
    exact (h : False).elim
  | succ n ih =>
    intro v0 v0z y1 y1z y2 y2z Q Qz e_v0 e_y1 e_y2 h_Q h
    subst e_v0
    subst e_y1
    subst e_y2
    rw [ZL_S_gapCount_4] at h
    rw [PL_S_gapCount_4]
    refine ⟨fun c3q => ?_, fun c3q => ?_⟩
    · have h := h.1 ((zt_le rfl rfl).mp c3q)
      exact h_Q _ h
    · have h := h.2 (fun k => c3q ((zt_le rfl rfl).mpr k))
      refine z_S_hasGap rfl rfl (fun r2_ h => ?_) h
      refine z_T_asNumber rfl (fun r6_ h => ?_) h
      obtain ⟨o1q, h⟩ := h
      obtain ⟨o2q, h⟩ := h
      refine ih rfl (show (((y1 + r6_) : Int32)).toInt = ((y1.toInt + r6_.toInt) : Int) from (zt_add rfl rfl o1q)) (show (((y2 + 1) : Int32)).toInt = ((y2.toInt + 1) : Int) from (zt_add rfl rfl o2q)) h_Q h
def Z_S_gapCount (v0 : SZ) (Q : (Int → Prop)) : Prop := (∃ n10_, (ZL_S_gapCount_4 n10_ v0 0 0 Q))
set_option maxRecDepth 100000 in
theorem z_S_gapCount {v0 : ST} {v0z : SZ}  {Q : Int32 → Prop} {Qz : (Int → Prop)} (e_v0 : (aS v0) = v0z) (h_Q : ∀ (a0 : Int32), Qz a0.toInt → Q a0) (h : Z_S_gapCount v0z Qz) : P_S_gapCount v0 Q := by
  subst e_v0
  unfold Z_S_gapCount at h
  unfold P_S_gapCount
  obtain ⟨n10_, h⟩ := h
  refine ⟨n10_, ?_⟩
  refine zL_S_gapCount_4 n10_ rfl rfl rfl h_Q h

def ZL_S_holdersUpTo_4 : Nat → Int → SZ → Int → Int → Int → (Int → Prop) → Prop
  | 0, _, _, _, _, _, _ => False
  | n + 1, x1, v0, y1, y2, y3, Q => ((8 ≤ y3 → (Q y2)) ∧ (¬ 8 ≤ y3 → ((0 : Int) ≤ y3 ∧ (y3 : Int) < 8) ∧ ((((Rz_held (Sz_readers v0 (Int.toNat y3))) = 0 → (Z_T_asNumber 0 (fun r4_ => zin (y2 + r4_) ∧ zin (y3 + 1) ∧ (ZL_S_holdersUpTo_4 n x1 v0 y1 (y2 + r4_) (y3 + 1) Q)))) ∧ (¬ (Rz_held (Sz_readers v0 (Int.toNat y3))) = 0 → ((y1 < (Rz_place (Sz_readers v0 (Int.toNat y3))) → (Z_T_asNumber 0 (fun r9_ => zin (y2 + r9_) ∧ zin (y3 + 1) ∧ (ZL_S_holdersUpTo_4 n x1 v0 y1 (y2 + r9_) (y3 + 1) Q)))) ∧ (¬ y1 < (Rz_place (Sz_readers v0 (Int.toNat y3))) → (Z_T_asNumber 1 (fun r13_ => zin (y2 + r13_) ∧ zin (y3 + 1) ∧ (ZL_S_holdersUpTo_4 n x1 v0 y1 (y2 + r13_) (y3 + 1) Q))))))))))
set_option maxRecDepth 100000 in
theorem zL_S_holdersUpTo_4 (n : Nat) : ∀ {x1 : Int32} {x1z : Int} {v0 : ST} {v0z : SZ} {y1 : Int32} {y1z : Int} {y2 : Int32} {y2z : Int} {y3 : Int32} {y3z : Int}  {Q : Int32 → Prop} {Qz : (Int → Prop)} (e_x1 : x1.toInt = x1z) (e_v0 : (aS v0) = v0z) (e_y1 : y1.toInt = y1z) (e_y2 : y2.toInt = y2z) (e_y3 : y3.toInt = y3z) (h_Q : ∀ (a0 : Int32), Qz a0.toInt → Q a0) (h : ZL_S_holdersUpTo_4 n x1z v0z y1z y2z y3z Qz), PL_S_holdersUpTo_4 n x1 v0 y1 y2 y3 Q := by
  induction n with
  | zero =>
    intro x1 x1z v0 v0z y1 y1z y2 y2z y3 y3z Q Qz e_x1 e_v0 e_y1 e_y2 e_y3 h_Q h
    exact (h : False).elim
  | succ n ih =>
    intro x1 x1z v0 v0z y1 y1z y2 y2z y3 y3z Q Qz e_x1 e_v0 e_y1 e_y2 e_y3 h_Q h
    subst e_x1
    subst e_v0
    subst e_y1
    subst e_y2
    subst e_y3
    rw [ZL_S_holdersUpTo_4] at h
    rw [PL_S_holdersUpTo_4]
    refine ⟨fun c10q => ?_, fun c10q => ?_⟩
    · have h := h.1 ((zt_le rfl rfl).mp c10q)
      exact h_Q _ h
    · have h := h.2 (fun k => c10q ((zt_le rfl rfl).mpr k))
      obtain ⟨i1q, h⟩ := h
      refine ⟨zt_in rfl i1q, ?_⟩
      refine ⟨fun c9q => ?_, fun c9q => ?_⟩
      · have h := h.1 ((zt_eq rfl rfl).mp c9q)
        refine z_T_asNumber rfl (fun r4_ h => ?_) h
        obtain ⟨o2q, h⟩ := h
        obtain ⟨o3q, h⟩ := h
        refine ih rfl rfl rfl (show (((y2 + r4_) : Int32)).toInt = ((y2.toInt + r4_.toInt) : Int) from (zt_add rfl rfl o2q)) (show (((y3 + 1) : Int32)).toInt = ((y3.toInt + 1) : Int) from (zt_add rfl rfl o3q)) h_Q h
      · have h := h.2 (fun k => c9q ((zt_eq rfl rfl).mpr k))
        refine ⟨fun c8q => ?_, fun c8q => ?_⟩
        · have h := h.1 ((zt_lt rfl rfl).mp c8q)
          refine z_T_asNumber rfl (fun r9_ h => ?_) h
          obtain ⟨o4q, h⟩ := h
          obtain ⟨o5q, h⟩ := h
          refine ih rfl rfl rfl (show (((y2 + r9_) : Int32)).toInt = ((y2.toInt + r9_.toInt) : Int) from (zt_add rfl rfl o4q)) (show (((y3 + 1) : Int32)).toInt = ((y3.toInt + 1) : Int) from (zt_add rfl rfl o5q)) h_Q h
        · have h := h.2 (fun k => c8q ((zt_lt rfl rfl).mpr k))
          refine z_T_asNumber rfl (fun r13_ h => ?_) h
          obtain ⟨o6q, h⟩ := h
          obtain ⟨o7q, h⟩ := h
          refine ih rfl rfl rfl (show (((y2 + r13_) : Int32)).toInt = ((y2.toInt + r13_.toInt) : Int) from (zt_add rfl rfl o6q)) (show (((y3 + 1) : Int32)).toInt = ((y3.toInt + 1) : Int) from (zt_add rfl rfl o7q)) h_Q h
def Z_S_holdersUpTo (x1 : Int) (v0 : SZ) (Q : (Int → Prop)) : Prop := (∃ n17_, (ZL_S_holdersUpTo_4 n17_ x1 v0 x1 0 0 Q))
set_option maxRecDepth 100000 in
theorem z_S_holdersUpTo {x1 : Int32} {x1z : Int} {v0 : ST} {v0z : SZ}  {Q : Int32 → Prop} {Qz : (Int → Prop)} (e_x1 : x1.toInt = x1z) (e_v0 : (aS v0) = v0z) (h_Q : ∀ (a0 : Int32), Qz a0.toInt → Q a0) (h : Z_S_holdersUpTo x1z v0z Qz) : P_S_holdersUpTo x1 v0 Q := by
  subst e_x1
  subst e_v0
  unfold Z_S_holdersUpTo at h
  unfold P_S_holdersUpTo
  obtain ⟨n17_, h⟩ := h
  refine ⟨n17_, ?_⟩
  refine zL_S_holdersUpTo_4 n17_ rfl rfl rfl rfl rfl h_Q h

def ZL_S_slowestHolder_14 : Nat → SZ → Int → Int → Int → (Int → Prop) → Prop
  | 0, _, _, _, _, _ => False
  | n + 1, v0, y1, y2, y3, Q => ((8 ≤ y3 → (Q y1)) ∧ (¬ 8 ≤ y3 → (Z_S_reader y3 v0 (fun r6_ => ((r6_ = none → zin (y3 + 1) ∧ (ZL_S_slowestHolder_14 n v0 y1 y2 (y3 + 1) Q)) ∧ (∀ i8_, r6_ = some i8_ → (((Rz_held (Sz_readers v0 i8_)) = 0 → zin (y3 + 1) ∧ (ZL_S_slowestHolder_14 n v0 y1 y2 (y3 + 1) Q)) ∧ (¬ (Rz_held (Sz_readers v0 i8_)) = 0 → ((y2 ≤ (Rz_place (Sz_readers v0 i8_)) → zin (y3 + 1) ∧ (ZL_S_slowestHolder_14 n v0 y1 y2 (y3 + 1) Q)) ∧ (¬ y2 ≤ (Rz_place (Sz_readers v0 i8_)) → zin (y3 + 1) ∧ (ZL_S_slowestHolder_14 n v0 y3 (Rz_place (Sz_readers v0 i8_)) (y3 + 1) Q)))))))))))
set_option maxRecDepth 100000 in
theorem zL_S_slowestHolder_14 (n : Nat) : ∀ {v0 : ST} {v0z : SZ} {y1 : Int32} {y1z : Int} {y2 : Int32} {y2z : Int} {y3 : Int32} {y3z : Int}  {Q : Int32 → Prop} {Qz : (Int → Prop)} (e_v0 : (aS v0) = v0z) (e_y1 : y1.toInt = y1z) (e_y2 : y2.toInt = y2z) (e_y3 : y3.toInt = y3z) (h_Q : ∀ (a0 : Int32), Qz a0.toInt → Q a0) (h : ZL_S_slowestHolder_14 n v0z y1z y2z y3z Qz), PL_S_slowestHolder_14 n v0 y1 y2 y3 Q := by
  induction n with
  | zero =>
    intro v0 v0z y1 y1z y2 y2z y3 y3z Q Qz e_v0 e_y1 e_y2 e_y3 h_Q h
    exact (h : False).elim
  | succ n ih =>
    intro v0 v0z y1 y1z y2 y2z y3 y3z Q Qz e_v0 e_y1 e_y2 e_y3 h_Q h
    subst e_v0
    subst e_y1
    subst e_y2
    subst e_y3
    rw [ZL_S_slowestHolder_14] at h
    rw [PL_S_slowestHolder_14]
    refine ⟨fun c7q => ?_, fun c7q => ?_⟩
    · have h := h.1 ((zt_le rfl rfl).mp c7q)
      exact h_Q _ h
    · have h := h.2 (fun k => c7q ((zt_le rfl rfl).mpr k))
      refine z_S_reader rfl rfl (fun r6_ h => ?_) h
      refine ⟨fun c => ?_, fun i8_ c => ?_⟩
      · have h := h.1 c
        obtain ⟨o1q, h⟩ := h
        refine ih rfl rfl rfl (show (((y3 + 1) : Int32)).toInt = ((y3.toInt + 1) : Int) from (zt_add rfl rfl o1q)) h_Q h
      · have h := h.2 i8_ c
        refine ⟨fun c6q => ?_, fun c6q => ?_⟩
        · have h := h.1 ((zt_eq rfl rfl).mp c6q)
          obtain ⟨o2q, h⟩ := h
          refine ih rfl rfl rfl (show (((y3 + 1) : Int32)).toInt = ((y3.toInt + 1) : Int) from (zt_add rfl rfl o2q)) h_Q h
        · have h := h.2 (fun k => c6q ((zt_eq rfl rfl).mpr k))
          refine ⟨fun c5q => ?_, fun c5q => ?_⟩
          · have h := h.1 ((zt_le rfl rfl).mp c5q)
            obtain ⟨o3q, h⟩ := h
            refine ih rfl rfl rfl (show (((y3 + 1) : Int32)).toInt = ((y3.toInt + 1) : Int) from (zt_add rfl rfl o3q)) h_Q h
          · have h := h.2 (fun k => c5q ((zt_le rfl rfl).mpr k))
            obtain ⟨o4q, h⟩ := h
            refine ih rfl rfl rfl (show (((y3 + 1) : Int32)).toInt = ((y3.toInt + 1) : Int) from (zt_add rfl rfl o4q)) h_Q h
def Z_S_slowestHolder (v0 : SZ) (Q : (Int → Prop)) : Prop := (∃ n12_, zin ((Lz_end (Sz_log v0)) + 1) ∧ (ZL_S_slowestHolder_14 n12_ v0 (-1) ((Lz_end (Sz_log v0)) + 1) 0 Q))
set_option maxRecDepth 100000 in
theorem z_S_slowestHolder {v0 : ST} {v0z : SZ}  {Q : Int32 → Prop} {Qz : (Int → Prop)} (e_v0 : (aS v0) = v0z) (h_Q : ∀ (a0 : Int32), Qz a0.toInt → Q a0) (h : Z_S_slowestHolder v0z Qz) : P_S_slowestHolder v0 Q := by
  subst e_v0
  unfold Z_S_slowestHolder at h
  unfold P_S_slowestHolder
  obtain ⟨n12_, h⟩ := h
  refine ⟨n12_, ?_⟩
  obtain ⟨o1q, h⟩ := h
  refine zL_S_slowestHolder_14 n12_ rfl rfl (show ((((L_end (S_log v0)) + 1) : Int32)).toInt = (((Lz_end (Sz_log (aS v0))) + 1) : Int) from (zt_add rfl rfl o1q)) rfl h_Q h

def Z_S_number (x1 : Int) (v0 : SZ) (Q : (Int → Prop)) : Prop := ((x1 = 0 → (Q (Lz_end (Sz_log v0)))) ∧ (¬ x1 = 0 → ((x1 = 1 → (Q (Lz_first (Sz_log v0)))) ∧ (¬ x1 = 1 → ((x1 = 2 → (Z_L_segments (Sz_log v0) (fun r4_ => (Q r4_)))) ∧ (¬ x1 = 2 → ((x1 = 3 → (Q (Lz_length (Sz_log v0)))) ∧ (¬ x1 = 3 → ((x1 = 4 → (Z_S_readerCount v0 (fun r10_ => (Q r10_)))) ∧ (¬ x1 = 4 → ((x1 = 5 → (Z_S_holdersUpTo (Lz_end (Sz_log v0)) v0 (fun r15_ => (Q r15_)))) ∧ (¬ x1 = 5 → ((x1 = 6 → (Z_S_gapCount v0 (fun r20_ => (Q r20_)))) ∧ (¬ x1 = 6 → ((x1 = 7 → (Q (Sz_time v0))) ∧ (¬ x1 = 7 → ((x1 = 8 → (Q (Lz_dropped (Sz_log v0)))) ∧ (¬ x1 = 8 → ((x1 = 9 → (Q (Sz_lostByLength v0))) ∧ (¬ x1 = 9 → ((x1 = 10 → (Q (Sz_lostBySleep v0))) ∧ (¬ x1 = 10 → (Q (Sz_missed v0))))))))))))))))))))))))
set_option maxRecDepth 100000 in
theorem z_S_number {x1 : Int32} {x1z : Int} {v0 : ST} {v0z : SZ}  {Q : Int32 → Prop} {Qz : (Int → Prop)} (e_x1 : x1.toInt = x1z) (e_v0 : (aS v0) = v0z) (h_Q : ∀ (a0 : Int32), Qz a0.toInt → Q a0) (h : Z_S_number x1z v0z Qz) : P_S_number x1 v0 Q := by
  subst e_x1
  subst e_v0
  unfold Z_S_number at h
  unfold P_S_number
  refine ⟨fun c11q => ?_, fun c11q => ?_⟩
  · have h := h.1 ((zt_eq rfl rfl).mp c11q)
    exact h_Q _ h
  · have h := h.2 (fun k => c11q ((zt_eq rfl rfl).mpr k))
    refine ⟨fun c10q => ?_, fun c10q => ?_⟩
    · have h := h.1 ((zt_eq rfl rfl).mp c10q)
      exact h_Q _ h
    · have h := h.2 (fun k => c10q ((zt_eq rfl rfl).mpr k))
      refine ⟨fun c9q => ?_, fun c9q => ?_⟩
      · have h := h.1 ((zt_eq rfl rfl).mp c9q)
        refine z_L_segments rfl (fun r4_ h => ?_) h
        exact h_Q _ h
      · have h := h.2 (fun k => c9q ((zt_eq rfl rfl).mpr k))
        refine ⟨fun c8q => ?_, fun c8q => ?_⟩
        · have h := h.1 ((zt_eq rfl rfl).mp c8q)
          exact h_Q _ h
        · have h := h.2 (fun k => c8q ((zt_eq rfl rfl).mpr k))
          refine ⟨fun c7q => ?_, fun c7q => ?_⟩
          · have h := h.1 ((zt_eq rfl rfl).mp c7q)
            refine z_S_readerCount rfl (fun r10_ h => ?_) h
            exact h_Q _ h
          · have h := h.2 (fun k => c7q ((zt_eq rfl rfl).mpr k))
            refine ⟨fun c6q => ?_, fun c6q => ?_⟩
            · have h := h.1 ((zt_eq rfl rfl).mp c6q)
              refine z_S_holdersUpTo rfl rfl (fun r15_ h => ?_) h
              exact h_Q _ h
            · have h := h.2 (fun k => c6q ((zt_eq rfl rfl).mpr k))
              refine ⟨fun c5q => ?_, fun c5q => ?_⟩
              · have h := h.1 ((zt_eq rfl rfl).mp c5q)
                refine z_S_gapCount rfl (fun r20_ h => ?_) h
                exact h_Q _ h
              · have h := h.2 (fun k => c5q ((zt_eq rfl rfl).mpr k))
                refine ⟨fun c4q => ?_, fun c4q => ?_⟩
                · have h := h.1 ((zt_eq rfl rfl).mp c4q)
                  exact h_Q _ h
                · have h := h.2 (fun k => c4q ((zt_eq rfl rfl).mpr k))
                  refine ⟨fun c3q => ?_, fun c3q => ?_⟩
                  · have h := h.1 ((zt_eq rfl rfl).mp c3q)
                    exact h_Q _ h
                  · have h := h.2 (fun k => c3q ((zt_eq rfl rfl).mpr k))
                    refine ⟨fun c2q => ?_, fun c2q => ?_⟩
                    · have h := h.1 ((zt_eq rfl rfl).mp c2q)
                      exact h_Q _ h
                    · have h := h.2 (fun k => c2q ((zt_eq rfl rfl).mpr k))
                      refine ⟨fun c1q => ?_, fun c1q => ?_⟩
                      · have h := h.1 ((zt_eq rfl rfl).mp c1q)
                        exact h_Q _ h
                      · have h := h.2 (fun k => c1q ((zt_eq rfl rfl).mpr k))
                        exact h_Q _ h

def Z_S_isDue (x1 : Int) (v0 : SZ) (Q : (Int → Prop)) : Prop := (Z_T_at 6 2 (Sz_settings v0) (fun r1_ => (Z_T_at 6 3 (Sz_settings v0) (fun r5_ => ((r5_ < (Lz_length (Sz_log v0)) → (Q 1)) ∧ (¬ r5_ < (Lz_length (Sz_log v0)) → ((r1_ ≤ 0 → (Q 0)) ∧ (¬ r1_ ≤ 0 → (Z_T_at 200 x1 (Lz_times (Sz_log v0)) (fun r11_ => zin ((Sz_time v0) - r11_) ∧ ((((Sz_time v0) - r11_) < r1_ → (Q 0)) ∧ (¬ ((Sz_time v0) - r11_) < r1_ → (Q 1)))))))))))))
set_option maxRecDepth 100000 in
theorem z_S_isDue {x1 : Int32} {x1z : Int} {v0 : ST} {v0z : SZ}  {Q : Int32 → Prop} {Qz : (Int → Prop)} (e_x1 : x1.toInt = x1z) (e_v0 : (aS v0) = v0z) (h_Q : ∀ (a0 : Int32), Qz a0.toInt → Q a0) (h : Z_S_isDue x1z v0z Qz) : P_S_isDue x1 v0 Q := by
  subst e_x1
  subst e_v0
  unfold Z_S_isDue at h
  unfold P_S_isDue
  refine z_T_at rfl rfl rfl (fun r1_ h => ?_) h
  refine z_T_at rfl rfl rfl (fun r5_ h => ?_) h
  refine ⟨fun c4q => ?_, fun c4q => ?_⟩
  · have h := h.1 ((zt_lt rfl rfl).mp c4q)
    exact h_Q _ h
  · have h := h.2 (fun k => c4q ((zt_lt rfl rfl).mpr k))
    refine ⟨fun c3q => ?_, fun c3q => ?_⟩
    · have h := h.1 ((zt_le rfl rfl).mp c3q)
      exact h_Q _ h
    · have h := h.2 (fun k => c3q ((zt_le rfl rfl).mpr k))
      refine z_T_at rfl rfl rfl (fun r11_ h => ?_) h
      obtain ⟨o1q, h⟩ := h
      refine ⟨fun c2q => ?_, fun c2q => ?_⟩
      · have h := h.1 ((zt_lt (show ((((S_time v0) - r11_) : Int32)).toInt = (((Sz_time (aS v0)) - r11_.toInt) : Int) from (zt_sub rfl rfl o1q)) rfl).mp c2q)
        exact h_Q _ h
      · have h := h.2 (fun k => c2q ((zt_lt (show ((((S_time v0) - r11_) : Int32)).toInt = (((Sz_time (aS v0)) - r11_.toInt) : Int) from (zt_sub rfl rfl o1q)) rfl).mpr k))
        exact h_Q _ h
