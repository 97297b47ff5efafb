def ZJ_M_readWrite_44 (y1 : Int) (y2 : Int) (y3 : Int) (u0 : Int) (v0 : MZ) (Q : (MZ → Prop)) : Prop := (Z_M_goes u0 v0 (fun r27_ v31_ => ((r27_ = 0 → (Q v31_)) ∧ (¬ r27_ = 0 → (Z_M_goWrite y1 y2 y3 (Mz_read v31_) (fun r36_ v40_ => (∀ v45_, v45_ = (Mz_set_read v31_ v40_) → ((Q v45_)))))))))
set_option maxRecDepth 100000 in
theorem zJ_M_readWrite_44 {y1 : Int32} {y1z : Int} {y2 : Int32} {y2z : Int} {y3 : Int32} {y3z : Int} {u0 : Int32} {u0z : Int} {v0 : MT} {v0z : MZ}  {Q : MT → Prop} {Qz : (MZ → Prop)} (e_y1 : y1.toInt = y1z) (e_y2 : y2.toInt = y2z) (e_y3 : y3.toInt = y3z) (e_u0 : u0.toInt = u0z) (e_v0 : (aM v0) = v0z) (h_Q : ∀ (a0 : MT), Qz (aM a0) → Q a0) (h : ZJ_M_readWrite_44 y1z y2z y3z u0z v0z Qz) : PJ_M_readWrite_44 y1 y2 y3 u0 v0 Q := by
  subst e_y1
  subst e_y2
  subst e_y3
  subst e_u0
  subst e_v0
  unfold ZJ_M_readWrite_44 at h
  unfold PJ_M_readWrite_44
  refine z_M_goes rfl rfl (fun r27_ v31_ h => ?_) h
  refine ⟨fun c1q => ?_, fun c1q => ?_⟩
  · have h := h.1 ((zt_eq rfl rfl).mp c1q)
    exact h_Q _ h
  · have h := h.2 (fun k => c1q ((zt_eq rfl rfl).mpr k))
    refine z_M_goWrite rfl rfl rfl rfl (fun r36_ v40_ h => ?_) h
    intro v45_ ev45_
    have h := h (aM v45_) (by rw [ev45_]; exact rfl)
    exact h_Q _ h
def Z_M_readWrite (v0 : MZ) (Q : (MZ → Prop)) : Prop := (Z_M_digit 0 7 v0 (fun r1_ v5_ => (Z_M_two 0 99 v5_ (fun r9_ v13_ => (Z_M_two 1 40 v13_ (fun r17_ v21_ => ((0 : Int) ≤ 401 ∧ (401 : Int) < 621) ∧ (((200 ≤ (Mz_read v21_ (Int.toNat 401)) → (ZJ_M_readWrite_44 r1_ r9_ r17_ 0 v21_ Q)) ∧ (¬ 200 ≤ (Mz_read v21_ (Int.toNat 401)) → (ZJ_M_readWrite_44 r1_ r9_ r17_ 1 v21_ Q))))))))))
set_option maxRecDepth 100000 in
theorem z_M_readWrite {v0 : MT} {v0z : MZ}  {Q : MT → Prop} {Qz : (MZ → Prop)} (e_v0 : (aM v0) = v0z) (h_Q : ∀ (a0 : MT), Qz (aM a0) → Q a0) (h : Z_M_readWrite v0z Qz) : P_M_readWrite v0 Q := by
  subst e_v0
  unfold Z_M_readWrite at h
  unfold P_M_readWrite
  refine z_M_digit rfl rfl rfl (fun r1_ v5_ h => ?_) h
  refine z_M_two rfl rfl rfl (fun r9_ v13_ h => ?_) h
  refine z_M_two rfl rfl rfl (fun r17_ v21_ h => ?_) h
  obtain ⟨i1q, h⟩ := h
  refine ⟨zt_in (show (401 : Int32).toInt = 401 from by decide) i1q, ?_⟩
  refine ⟨fun c2q => ?_, fun c2q => ?_⟩
  · have h := h.1 ((zt_le rfl rfl).mp c2q)
    refine zJ_M_readWrite_44 rfl rfl rfl rfl rfl h_Q h
  · have h := h.2 (fun k => c2q ((zt_le rfl rfl).mpr k))
    refine zJ_M_readWrite_44 rfl rfl rfl rfl rfl h_Q h

def Z_M_readJoin (v0 : MZ) (Q : (MZ → Prop)) : Prop := (Z_M_digit 0 7 v0 (fun r1_ v5_ => (Z_M_digit 0 2 v5_ (fun r9_ v13_ => (Z_M_sign v13_ (fun r17_ v21_ => (Z_M_canJoin r1_ r9_ r17_ (Mz_read v21_) (fun r25_ => (Z_M_goes r25_ v21_ (fun r29_ v33_ => ((r29_ = 0 → (Q v33_)) ∧ (¬ r29_ = 0 → (Z_M_goJoin r1_ r9_ r17_ (Mz_read v33_) (fun r38_ v42_ => (∀ v47_, v47_ = (Mz_set_read v33_ v42_) → ((Q v47_)))))))))))))))))
set_option maxRecDepth 100000 in
theorem z_M_readJoin {v0 : MT} {v0z : MZ}  {Q : MT → Prop} {Qz : (MZ → Prop)} (e_v0 : (aM v0) = v0z) (h_Q : ∀ (a0 : MT), Qz (aM a0) → Q a0) (h : Z_M_readJoin v0z Qz) : P_M_readJoin v0 Q := by
  subst e_v0
  unfold Z_M_readJoin at h
  unfold P_M_readJoin
  refine z_M_digit rfl rfl rfl (fun r1_ v5_ h => ?_) h
  refine z_M_digit rfl rfl rfl (fun r9_ v13_ h => ?_) h
  refine z_M_sign rfl (fun r17_ v21_ h => ?_) h
  refine z_M_canJoin rfl rfl rfl rfl (fun r25_ h => ?_) h
  refine z_M_goes rfl rfl (fun r29_ v33_ h => ?_) h
  refine ⟨fun c1q => ?_, fun c1q => ?_⟩
  · have h := h.1 ((zt_eq rfl rfl).mp c1q)
    exact h_Q _ h
  · have h := h.2 (fun k => c1q ((zt_eq rfl rfl).mpr k))
    refine z_M_goJoin rfl rfl rfl rfl (fun r38_ v42_ h => ?_) h
    intro v47_ ev47_
    have h := h (aM v47_) (by rw [ev47_]; exact rfl)
    exact h_Q _ h

def ZJ_M_readHold_42 (y1 : Int) (y2 : Int) (u0 : Int) (v0 : MZ) (Q : (MZ → Prop)) : Prop := (Z_M_goes u0 v0 (fun r22_ v26_ => ((r22_ = 0 → (Q v26_)) ∧ (¬ r22_ = 0 → (Z_M_goHold y1 y2 (Mz_read v26_) (fun r31_ v35_ => (∀ v40_, v40_ = (Mz_set_read v26_ v35_) → ((Q v40_)))))))))
set_option maxRecDepth 100000 in
theorem zJ_M_readHold_42 {y1 : Int32} {y1z : Int} {y2 : Int32} {y2z : Int} {u0 : Int32} {u0z : Int} {v0 : MT} {v0z : MZ}  {Q : MT → Prop} {Qz : (MZ → Prop)} (e_y1 : y1.toInt = y1z) (e_y2 : y2.toInt = y2z) (e_u0 : u0.toInt = u0z) (e_v0 : (aM v0) = v0z) (h_Q : ∀ (a0 : MT), Qz (aM a0) → Q a0) (h : ZJ_M_readHold_42 y1z y2z u0z v0z Qz) : PJ_M_readHold_42 y1 y2 u0 v0 Q := by
  subst e_y1
  subst e_y2
  subst e_u0
  subst e_v0
  unfold ZJ_M_readHold_42 at h
  unfold PJ_M_readHold_42
  refine z_M_goes rfl rfl (fun r22_ v26_ h => ?_) h
  refine ⟨fun c1q => ?_, fun c1q => ?_⟩
  · have h := h.1 ((zt_eq rfl rfl).mp c1q)
    exact h_Q _ h
  · have h := h.2 (fun k => c1q ((zt_eq rfl rfl).mpr k))
    refine z_M_goHold rfl rfl rfl (fun r31_ v35_ h => ?_) h
    intro v40_ ev40_
    have h := h (aM v40_) (by rw [ev40_]; exact rfl)
    exact h_Q _ h
def ZJ_M_readHold_41 (y1 : Int) (y2 : Int) (v0 : MZ) (Q : (MZ → Prop)) : Prop := (ZJ_M_readHold_42 y1 y2 0 v0 Q)
set_option maxRecDepth 100000 in
theorem zJ_M_readHold_41 {y1 : Int32} {y1z : Int} {y2 : Int32} {y2z : Int} {v0 : MT} {v0z : MZ}  {Q : MT → Prop} {Qz : (MZ → Prop)} (e_y1 : y1.toInt = y1z) (e_y2 : y2.toInt = y2z) (e_v0 : (aM v0) = v0z) (h_Q : ∀ (a0 : MT), Qz (aM a0) → Q a0) (h : ZJ_M_readHold_41 y1z y2z v0z Qz) : PJ_M_readHold_41 y1 y2 v0 Q := by
  subst e_y1
  subst e_y2
  subst e_v0
  unfold ZJ_M_readHold_41 at h
  unfold PJ_M_readHold_41
  refine zJ_M_readHold_42 rfl rfl rfl rfl h_Q h
def Z_M_readHold (v0 : MZ) (Q : (MZ → Prop)) : Prop := (Z_M_digit 0 7 v0 (fun r1_ v5_ => (Z_M_sign v5_ (fun r9_ v13_ => (Z_M_isReader r1_ (Mz_read v13_) (fun r17_ => ((r17_ = 0 → (ZJ_M_readHold_41 r1_ r9_ v13_ Q)) ∧ (¬ r17_ = 0 → (Z_M_canHold r1_ r9_ (Mz_read v13_) (fun r43_ => ((r43_ = 0 → (ZJ_M_readHold_41 r1_ r9_ v13_ Q)) ∧ (¬ r43_ = 0 → (ZJ_M_readHold_42 r1_ r9_ 1 v13_ Q)))))))))))))
set_option maxRecDepth 100000 in
theorem z_M_readHold {v0 : MT} {v0z : MZ}  {Q : MT → Prop} {Qz : (MZ → Prop)} (e_v0 : (aM v0) = v0z) (h_Q : ∀ (a0 : MT), Qz (aM a0) → Q a0) (h : Z_M_readHold v0z Qz) : P_M_readHold v0 Q := by
  subst e_v0
  unfold Z_M_readHold at h
  unfold P_M_readHold
  refine z_M_digit rfl rfl rfl (fun r1_ v5_ h => ?_) h
  refine z_M_sign rfl (fun r9_ v13_ h => ?_) h
  refine z_M_isReader rfl rfl (fun r17_ h => ?_) h
  refine ⟨fun c2q => ?_, fun c2q => ?_⟩
  · have h := h.1 ((zt_eq rfl rfl).mp c2q)
    refine zJ_M_readHold_41 rfl rfl rfl h_Q h
  · have h := h.2 (fun k => c2q ((zt_eq rfl rfl).mpr k))
    refine z_M_canHold rfl rfl rfl (fun r43_ h => ?_) h
    refine ⟨fun c1q => ?_, fun c1q => ?_⟩
    · have h := h.1 ((zt_eq rfl rfl).mp c1q)
      refine zJ_M_readHold_41 rfl rfl rfl h_Q h
    · have h := h.2 (fun k => c1q ((zt_eq rfl rfl).mpr k))
      refine zJ_M_readHold_42 rfl rfl rfl rfl h_Q h

def ZL_M_readSet_29 : Nat → Int → Int → Int → Int → MZ → (MZ → Prop) → Prop
  | 0, _, _, _, _, _, _ => False
  | n + 1, y1, y2, y3, y4, v0, Q => ((3 ≤ y4 → (Z_M_isSetting y1 y2 (fun r19_ => (Z_M_goes r19_ v0 (fun r23_ v27_ => ((r23_ = 0 → (Q v27_)) ∧ (¬ r23_ = 0 → (Z_M_put y1 y2 (Mz_read v27_) (fun r32_ v36_ => (∀ v41_, v41_ = (Mz_set_read v27_ v36_) → ((Q v41_)))))))))))) ∧ (¬ 3 ≤ y4 → (Z_M_digit 0 y3 v0 (fun r44_ v48_ => zin (10 * y2) ∧ zin ((10 * y2) + r44_) ∧ zin (y4 + 1) ∧ (ZL_M_readSet_29 n y1 ((10 * y2) + r44_) y3 (y4 + 1) v48_ Q)))))
set_option maxRecDepth 100000 in
theorem zL_M_readSet_29 (n : Nat) : ∀ {y1 : Int32} {y1z : Int} {y2 : Int32} {y2z : Int} {y3 : Int32} {y3z : Int} {y4 : Int32} {y4z : Int} {v0 : MT} {v0z : MZ}  {Q : MT → Prop} {Qz : (MZ → Prop)} (e_y1 : y1.toInt = y1z) (e_y2 : y2.toInt = y2z) (e_y3 : y3.toInt = y3z) (e_y4 : y4.toInt = y4z) (e_v0 : (aM v0) = v0z) (h_Q : ∀ (a0 : MT), Qz (aM a0) → Q a0) (h : ZL_M_readSet_29 n y1z y2z y3z y4z v0z Qz), PL_M_readSet_29 n y1 y2 y3 y4 v0 Q := by
  induction n with
  | zero =>
    intro y1 y1z y2 y2z y3 y3z y4 y4z v0 v0z Q Qz e_y1 e_y2 e_y3 e_y4 e_v0 h_Q h
    exact (h : False).elim
  | succ n ih =>
    intro y1 y1z y2 y2z y3 y3z y4 y4z v0 v0z Q Qz e_y1 e_y2 e_y3 e_y4 e_v0 h_Q h
    subst e_y1
    subst e_y2
    subst e_y3
    subst e_y4
    subst e_v0
    rw [ZL_M_readSet_29] at h
    rw [PL_M_readSet_29]
    refine ⟨fun c5q => ?_, fun c5q => ?_⟩
    · have h := h.1 ((zt_le rfl rfl).mp c5q)
      refine z_M_isSetting rfl rfl (fun r19_ h => ?_) h
      refine z_M_goes rfl rfl (fun r23_ v27_ h => ?_) h
      refine ⟨fun c1q => ?_, fun c1q => ?_⟩
      · have h := h.1 ((zt_eq rfl rfl).mp c1q)
        exact h_Q _ h
      · have h := h.2 (fun k => c1q ((zt_eq rfl rfl).mpr k))
        refine z_M_put rfl rfl rfl (fun r32_ v36_ h => ?_) h
        intro v41_ ev41_
        have h := h (aM v41_) (by rw [ev41_]; exact rfl)
        exact h_Q _ h
    · have h := h.2 (fun k => c5q ((zt_le rfl rfl).mpr k))
      refine z_M_digit rfl rfl rfl (fun r44_ v48_ h => ?_) h
      obtain ⟨o2q, h⟩ := h
      obtain ⟨o3q, h⟩ := h
      obtain ⟨o4q, h⟩ := h
      refine ih rfl (show ((((10 * y2) + r44_) : Int32)).toInt = (((10 * y2.toInt) + r44_.toInt) : Int) from (zt_add (show (((10 * y2) : Int32)).toInt = ((10 * y2.toInt) : Int) from (zt_mul rfl rfl o2q)) rfl o3q)) rfl (show (((y4 + 1) : Int32)).toInt = ((y4.toInt + 1) : Int) from (zt_add rfl rfl o4q)) rfl h_Q h
def Z_M_readSet (v0 : MZ) (Q : (MZ → Prop)) : Prop := (Z_M_digit 0 5 v0 (fun r1_ v5_ => (Z_M_digit 0 4 v5_ (fun r9_ v13_ => ((¬ r9_ = 4 → (∃ n52_, (ZL_M_readSet_29 n52_ r1_ r9_ 9 0 v13_ Q))) ∧ (r9_ = 4 → (∃ n53_, (ZL_M_readSet_29 n53_ r1_ r9_ 0 0 v13_ Q))))))))
set_option maxRecDepth 100000 in
theorem z_M_readSet {v0 : MT} {v0z : MZ}  {Q : MT → Prop} {Qz : (MZ → Prop)} (e_v0 : (aM v0) = v0z) (h_Q : ∀ (a0 : MT), Qz (aM a0) → Q a0) (h : Z_M_readSet v0z Qz) : P_M_readSet v0 Q := by
  subst e_v0
  unfold Z_M_readSet at h
  unfold P_M_readSet
  refine z_M_digit rfl rfl rfl (fun r1_ v5_ h => ?_) h
  refine z_M_digit rfl rfl rfl (fun r9_ v13_ h => ?_) h
  refine ⟨fun c1q => ?_, fun c1q => ?_⟩
  · have h := h.1 (fun k => c1q ((zt_eq rfl rfl).mpr k))
    obtain ⟨n52_, h⟩ := h
    refine ⟨n52_, ?_⟩
    refine zL_M_readSet_29 n52_ rfl rfl rfl rfl rfl h_Q h
  · have h := h.2 ((zt_eq rfl rfl).mp c1q)
    obtain ⟨n53_, h⟩ := h
    refine ⟨n53_, ?_⟩
    refine zL_M_readSet_29 n53_ rfl rfl rfl rfl rfl h_Q h

def Z_M_readNumber (x1 : Int) (v0 : MZ) (Q : (MZ → Prop)) : Prop := ((x1 = 108 → (Z_M_digit 0 7 v0 (fun r2_ v6_ => (Z_M_isReader r2_ (Mz_read v6_) (fun r10_ => (Z_M_goes r10_ v6_ (fun r14_ v18_ => ((r14_ = 0 → (Q v18_)) ∧ (¬ r14_ = 0 → (Z_M_goLeave r2_ (Mz_read v18_) (fun r23_ v27_ => (∀ v32_, v32_ = (Mz_set_read v18_ v27_) → ((Q v32_)))))))))))))) ∧ (¬ x1 = 108 → ((x1 = 114 → (Z_M_digit 0 7 v0 (fun r36_ v40_ => (Z_M_two 1 50 v40_ (fun r44_ v48_ => (Z_M_isReader r36_ (Mz_read v48_) (fun r52_ => (Z_M_goes r52_ v48_ (fun r56_ v60_ => ((r56_ = 0 → (Q v60_)) ∧ (¬ r56_ = 0 → (Z_M_goRead r36_ r44_ (Mz_read v60_) (fun r65_ v69_ => (∀ v74_, v74_ = (Mz_set_read v60_ v69_) → ((Q v74_)))))))))))))))) ∧ (¬ x1 = 114 → (Z_M_two 1 99 v0 (fun r77_ v81_ => (((Mz_good v81_) = 0 → (Q v81_)) ∧ (¬ (Mz_good v81_) = 0 → (Z_M_goTicks r77_ (Mz_read v81_) (fun r86_ v90_ => (∀ v95_, v95_ = (Mz_set_read v81_ v90_) → ((Q v95_)))))))))))))
set_option maxRecDepth 100000 in
theorem z_M_readNumber {x1 : Int32} {x1z : Int} {v0 : MT} {v0z : MZ}  {Q : MT → Prop} {Qz : (MZ → Prop)} (e_x1 : x1.toInt = x1z) (e_v0 : (aM v0) = v0z) (h_Q : ∀ (a0 : MT), Qz (aM a0) → Q a0) (h : Z_M_readNumber x1z v0z Qz) : P_M_readNumber x1 v0 Q := by
  subst e_x1
  subst e_v0
  unfold Z_M_readNumber at h
  unfold P_M_readNumber
  refine ⟨fun c5q => ?_, fun c5q => ?_⟩
  · have h := h.1 ((zt_eq rfl rfl).mp c5q)
    refine z_M_digit rfl rfl rfl (fun r2_ v6_ h => ?_) h
    refine z_M_isReader rfl rfl (fun r10_ h => ?_) h
    refine z_M_goes rfl rfl (fun r14_ v18_ h => ?_) h
    refine ⟨fun c1q => ?_, fun c1q => ?_⟩
    · have h := h.1 ((zt_eq rfl rfl).mp c1q)
      exact h_Q _ h
    · have h := h.2 (fun k => c1q ((zt_eq rfl rfl).mpr k))
      refine z_M_goLeave rfl rfl (fun r23_ v27_ h => ?_) h
      intro v32_ ev32_
      have h := h (aM v32_) (by rw [ev32_]; exact rfl)
      exact h_Q _ h
  · have h := h.2 (fun k => c5q ((zt_eq rfl rfl).mpr k))
    refine ⟨fun c4q => ?_, fun c4q => ?_⟩
    · have h := h.1 ((zt_eq rfl rfl).mp c4q)
      refine z_M_digit rfl rfl rfl (fun r36_ v40_ h => ?_) h
      refine z_M_two rfl rfl rfl (fun r44_ v48_ h => ?_) h
      refine z_M_isReader rfl rfl (fun r52_ h => ?_) h
      refine z_M_goes rfl rfl (fun r56_ v60_ h => ?_) h
      refine ⟨fun c2q => ?_, fun c2q => ?_⟩
      · have h := h.1 ((zt_eq rfl rfl).mp c2q)
        exact h_Q _ h
      · have h := h.2 (fun k => c2q ((zt_eq rfl rfl).mpr k))
        refine z_M_goRead rfl rfl rfl (fun r65_ v69_ h => ?_) h
        intro v74_ ev74_
        have h := h (aM v74_) (by rw [ev74_]; exact rfl)
        exact h_Q _ h
    · have h := h.2 (fun k => c4q ((zt_eq rfl rfl).mpr k))
      refine z_M_two rfl rfl rfl (fun r77_ v81_ h => ?_) h
      refine ⟨fun c3q => ?_, fun c3q => ?_⟩
      · have h := h.1 ((zt_eq rfl rfl).mp c3q)
        exact h_Q _ h
      · have h := h.2 (fun k => c3q ((zt_eq rfl rfl).mpr k))
        refine z_M_goTicks rfl rfl (fun r86_ v90_ h => ?_) h
        intro v95_ ev95_
        have h := h (aM v95_) (by rw [ev95_]; exact rfl)
        exact h_Q _ h

def ZJ_M_readCommand_53 (y1 : Int) (u0 : Int) (v0 : MZ) (Q : (MZ → Prop)) : Prop := (Z_M_take u0 v0 (fun v10_ => ((¬ (Mz_good v10_) = 0 → ((y1 = 104 → (Z_M_readHold v10_ (fun v20_ => (Q v20_)))) ∧ (¬ y1 = 104 → ((y1 = 106 → (Z_M_readJoin v10_ (fun v29_ => (Q v29_)))) ∧ (¬ y1 = 106 → ((y1 = 115 → (Z_M_readSet v10_ (fun v38_ => (Q v38_)))) ∧ (¬ y1 = 115 → ((y1 = 119 → (Z_M_readWrite v10_ (fun v47_ => (Q v47_)))) ∧ (¬ y1 = 119 → (Z_M_readNumber y1 v10_ (fun v55_ => (Q v55_)))))))))))) ∧ ((Mz_good v10_) = 0 → (Q v10_)))))
set_option maxRecDepth 100000 in
theorem zJ_M_readCommand_53 {y1 : Int32} {y1z : Int} {u0 : Int32} {u0z : Int} {v0 : MT} {v0z : MZ}  {Q : MT → Prop} {Qz : (MZ → Prop)} (e_y1 : y1.toInt = y1z) (e_u0 : u0.toInt = u0z) (e_v0 : (aM v0) = v0z) (h_Q : ∀ (a0 : MT), Qz (aM a0) → Q a0) (h : ZJ_M_readCommand_53 y1z u0z v0z Qz) : PJ_M_readCommand_53 y1 u0 v0 Q := by
  subst e_y1
  subst e_u0
  subst e_v0
  unfold ZJ_M_readCommand_53 at h
  unfold PJ_M_readCommand_53
  refine z_M_take rfl rfl (fun v10_ h => ?_) h
  refine ⟨fun c5q => ?_, fun c5q => ?_⟩
  · have h := h.1 (fun k => c5q ((zt_eq rfl rfl).mpr k))
    refine ⟨fun c4q => ?_, fun c4q => ?_⟩
    · have h := h.1 ((zt_eq rfl rfl).mp c4q)
      refine z_M_readHold rfl (fun v20_ h => ?_) h
      exact h_Q _ h
    · have h := h.2 (fun k => c4q ((zt_eq rfl rfl).mpr k))
      refine ⟨fun c3q => ?_, fun c3q => ?_⟩
      · have h := h.1 ((zt_eq rfl rfl).mp c3q)
        refine z_M_readJoin rfl (fun v29_ h => ?_) h
        exact h_Q _ h
      · have h := h.2 (fun k => c3q ((zt_eq rfl rfl).mpr k))
        refine ⟨fun c2q => ?_, fun c2q => ?_⟩
        · have h := h.1 ((zt_eq rfl rfl).mp c2q)
          refine z_M_readSet rfl (fun v38_ h => ?_) h
          exact h_Q _ h
        · have h := h.2 (fun k => c2q ((zt_eq rfl rfl).mpr k))
          refine ⟨fun c1q => ?_, fun c1q => ?_⟩
          · have h := h.1 ((zt_eq rfl rfl).mp c1q)
            refine z_M_readWrite rfl (fun v47_ h => ?_) h
            exact h_Q _ h
          · have h := h.2 (fun k => c1q ((zt_eq rfl rfl).mpr k))
            refine z_M_readNumber rfl rfl (fun v55_ h => ?_) h
            exact h_Q _ h
  · have h := h.2 ((zt_eq rfl rfl).mp c5q)
    exact h_Q _ h
def ZJ_M_readCommand_48 (y1 : Int) (v0 : MZ) (Q : (MZ → Prop)) : Prop := (ZJ_M_readCommand_53 y1 1 v0 Q)
set_option maxRecDepth 100000 in
theorem zJ_M_readCommand_48 {y1 : Int32} {y1z : Int} {v0 : MT} {v0z : MZ}  {Q : MT → Prop} {Qz : (MZ → Prop)} (e_y1 : y1.toInt = y1z) (e_v0 : (aM v0) = v0z) (h_Q : ∀ (a0 : MT), Qz (aM a0) → Q a0) (h : ZJ_M_readCommand_48 y1z v0z Qz) : PJ_M_readCommand_48 y1 v0 Q := by
  subst e_y1
  subst e_v0
  unfold ZJ_M_readCommand_48 at h
  unfold PJ_M_readCommand_48
  refine zJ_M_readCommand_53 rfl rfl rfl h_Q h
def Z_M_readCommand (v0 : MZ) (Q : (MZ → Prop)) : Prop := (Z_M_here v0 (fun r1_ => ((r1_ = 119 → (ZJ_M_readCommand_48 r1_ v0 Q)) ∧ (¬ r1_ = 119 → ((r1_ = 106 → (ZJ_M_readCommand_48 r1_ v0 Q)) ∧ (¬ r1_ = 106 → ((r1_ = 114 → (ZJ_M_readCommand_48 r1_ v0 Q)) ∧ (¬ r1_ = 114 → ((r1_ = 108 → (ZJ_M_readCommand_48 r1_ v0 Q)) ∧ (¬ r1_ = 108 → ((r1_ = 104 → (ZJ_M_readCommand_48 r1_ v0 Q)) ∧ (¬ r1_ = 104 → ((r1_ = 115 → (ZJ_M_readCommand_48 r1_ v0 Q)) ∧ (¬ r1_ = 115 → ((¬ r1_ = 116 → (ZJ_M_readCommand_53 r1_ 0 v0 Q)) ∧ (r1_ = 116 → (ZJ_M_readCommand_48 r1_ v0 Q)))))))))))))))))
set_option maxRecDepth 100000 in
theorem z_M_readCommand {v0 : MT} {v0z : MZ}  {Q : MT → Prop} {Qz : (MZ → Prop)} (e_v0 : (aM v0) = v0z) (h_Q : ∀ (a0 : MT), Qz (aM a0) → Q a0) (h : Z_M_readCommand v0z Qz) : P_M_readCommand v0 Q := by
  subst e_v0
  unfold Z_M_readCommand at h
  unfold P_M_readCommand
  refine z_M_here rfl (fun r1_ h => ?_) h
  refine ⟨fun c7q => ?_, fun c7q => ?_⟩
  · have h := h.1 ((zt_eq rfl rfl).mp c7q)
    refine zJ_M_readCommand_48 rfl rfl h_Q h
  · have h := h.2 (fun k => c7q ((zt_eq rfl rfl).mpr k))
    refine ⟨fun c6q => ?_, fun c6q => ?_⟩
    · have h := h.1 ((zt_eq rfl rfl).mp c6q)
      refine zJ_M_readCommand_48 rfl rfl h_Q h
    · have h := h.2 (fun k => c6q ((zt_eq rfl rfl).mpr k))
      refine ⟨fun c5q => ?_, fun c5q => ?_⟩
      · have h := h.1 ((zt_eq rfl rfl).mp c5q)
        refine zJ_M_readCommand_48 rfl rfl h_Q h
      · have h := h.2 (fun k => c5q ((zt_eq rfl rfl).mpr k))
        refine ⟨fun c4q => ?_, fun c4q => ?_⟩
        · have h := h.1 ((zt_eq rfl rfl).mp c4q)
          refine zJ_M_readCommand_48 rfl rfl h_Q h
        · have h := h.2 (fun k => c4q ((zt_eq rfl rfl).mpr k))
          refine ⟨fun c3q => ?_, fun c3q => ?_⟩
          · have h := h.1 ((zt_eq rfl rfl).mp c3q)
            refine zJ_M_readCommand_48 rfl rfl h_Q h
          · have h := h.2 (fun k => c3q ((zt_eq rfl rfl).mpr k))
            refine ⟨fun c2q => ?_, fun c2q => ?_⟩
            · have h := h.1 ((zt_eq rfl rfl).mp c2q)
              refine zJ_M_readCommand_48 rfl rfl h_Q h
            · have h := h.2 (fun k => c2q ((zt_eq rfl rfl).mpr k))
              refine ⟨fun c1q => ?_, fun c1q => ?_⟩
              · have h := h.1 (fun k => c1q ((zt_eq rfl rfl).mpr k))
                refine zJ_M_readCommand_53 rfl rfl rfl h_Q h
              · have h := h.2 ((zt_eq rfl rfl).mp c1q)
                refine zJ_M_readCommand_48 rfl rfl h_Q h

def ZL_M_readAll_40 : Nat → MZ → (Int → MZ → Prop) → Prop
  | 0, _, _ => False
  | n + 1, v0, Q => (((Mz_good v0) = 0 → (((Mz_good v0) = 0 → (Q (Mz_at v0) v0)) ∧ (¬ (Mz_good v0) = 0 → (Q (-1) v0)))) ∧ (¬ (Mz_good v0) = 0 → (((Mz_length v0) ≤ (Mz_at v0) → (((Mz_good v0) = 0 → (Q (Mz_at v0) v0)) ∧ (¬ (Mz_good v0) = 0 → (Q (-1) v0)))) ∧ (¬ (Mz_length v0) ≤ (Mz_at v0) → (Z_M_readCommand v0 (fun v58_ => (ZL_M_readAll_40 n v58_ Q)))))))
set_option maxRecDepth 100000 in
theorem zL_M_readAll_40 (n : Nat) : ∀ {v0 : MT} {v0z : MZ}  {Q : Int32 → MT → Prop} {Qz : (Int → MZ → Prop)} (e_v0 : (aM v0) = v0z) (h_Q : ∀ (a0 : Int32) (a1 : MT), Qz a0.toInt (aM a1) → Q a0 a1) (h : ZL_M_readAll_40 n v0z Qz), PL_M_readAll_40 n v0 Q := by
  induction n with
  | zero =>
    intro v0 v0z Q Qz e_v0 h_Q h
    exact (h : False).elim
  | succ n ih =>
    intro v0 v0z Q Qz e_v0 h_Q h
    subst e_v0
    rw [ZL_M_readAll_40] at h
    rw [PL_M_readAll_40]
    refine ⟨fun c4q => ?_, fun c4q => ?_⟩
    · have h := h.1 ((zt_eq rfl rfl).mp c4q)
      refine ⟨fun c1q => ?_, fun c1q => ?_⟩
      · have h := h.1 ((zt_eq rfl rfl).mp c1q)
        exact h_Q _ _ h
      · have h := h.2 (fun k => c1q ((zt_eq rfl rfl).mpr k))
        exact h_Q _ _ h
    · have h := h.2 (fun k => c4q ((zt_eq rfl rfl).mpr k))
      refine ⟨fun c3q => ?_, fun c3q => ?_⟩
      · have h := h.1 ((zt_le rfl rfl).mp c3q)
        refine ⟨fun c2q => ?_, fun c2q => ?_⟩
        · have h := h.1 ((zt_eq rfl rfl).mp c2q)
          exact h_Q _ _ h
        · have h := h.2 (fun k => c2q ((zt_eq rfl rfl).mpr k))
          exact h_Q _ _ h
      · have h := h.2 (fun k => c3q ((zt_le rfl rfl).mpr k))
        refine z_M_readCommand rfl (fun v58_ h => ?_) h
        refine ih rfl h_Q h
def Z_M_readAll (v0 : MZ) (Q : (Int → MZ → Prop)) : Prop := (∀ v6_, v6_ = (Mz_set_at v0 0) → ((∀ v14_, v14_ = (Mz_set_good v6_ 1) → ((∀ v22_, v22_ = (Mz_set_leftOut v14_ 0) → ((Z_M_fresh (Mz_read v22_) (fun v29_ => (∀ v34_, v34_ = (Mz_set_read v22_ v29_) → ((Z_M_here v34_ (fun r37_ => ((¬ r37_ = 71 → (Z_M_take 0 v34_ (fun v46_ => (∃ n62_, (ZL_M_readAll_40 n62_ v46_ Q))))) ∧ (r37_ = 71 → (Z_M_take 1 v34_ (fun v67_ => (∃ n71_, (ZL_M_readAll_40 n71_ v67_ Q))))))))))))))))))
set_option maxRecDepth 100000 in
theorem z_M_readAll {v0 : MT} {v0z : MZ}  {Q : Int32 → MT → Prop} {Qz : (Int → MZ → Prop)} (e_v0 : (aM v0) = v0z) (h_Q : ∀ (a0 : Int32) (a1 : MT), Qz a0.toInt (aM a1) → Q a0 a1) (h : Z_M_readAll v0z Qz) : P_M_readAll v0 Q := by
  subst e_v0
  unfold Z_M_readAll at h
  unfold P_M_readAll
  intro v6_ ev6_
  have h := h (aM v6_) (by rw [ev6_]; exact rfl)
  intro v14_ ev14_
  have h := h (aM v14_) (by rw [ev14_]; exact rfl)
  intro v22_ ev22_
  have h := h (aM v22_) (by rw [ev22_]; exact rfl)
  refine z_M_fresh rfl (fun v29_ h => ?_) h
  intro v34_ ev34_
  have h := h (aM v34_) (by rw [ev34_]; exact rfl)
  refine z_M_here rfl (fun r37_ h => ?_) h
  refine ⟨fun c1q => ?_, fun c1q => ?_⟩
  · have h := h.1 (fun k => c1q ((zt_eq rfl rfl).mpr k))
    refine z_M_take rfl rfl (fun v46_ h => ?_) h
    obtain ⟨n62_, h⟩ := h
    refine ⟨n62_, ?_⟩
    refine zL_M_readAll_40 n62_ rfl h_Q h
  · have h := h.2 ((zt_eq rfl rfl).mp c1q)
    refine z_M_take rfl rfl (fun v67_ h => ?_) h
    obtain ⟨n71_, h⟩ := h
    refine ⟨n71_, ?_⟩
    refine zL_M_readAll_40 n71_ rfl h_Q h

def Z_M_errorPosition (v0 : MZ) (Q : (Int → MZ → Prop)) : Prop := (∀ v6_, v6_ = (Mz_set_refusal v0 0) → ((Z_M_readAll v6_ (fun r9_ v13_ => (Q r9_ v13_)))))
set_option maxRecDepth 100000 in
theorem z_M_errorPosition {v0 : MT} {v0z : MZ}  {Q : Int32 → MT → Prop} {Qz : (Int → MZ → Prop)} (e_v0 : (aM v0) = v0z) (h_Q : ∀ (a0 : Int32) (a1 : MT), Qz a0.toInt (aM a1) → Q a0 a1) (h : Z_M_errorPosition v0z Qz) : P_M_errorPosition v0 Q := by
  subst e_v0
  unfold Z_M_errorPosition at h
  unfold P_M_errorPosition
  intro v6_ ev6_
  have h := h (aM v6_) (by rw [ev6_]; exact rfl)
  refine z_M_readAll rfl (fun r9_ v13_ h => ?_) h
  exact h_Q _ _ h

def ZJ_M_load_14 (u0 : Int) (v0 : MZ) (Q : (Int → MZ → Prop)) : Prop := (Z_M_refused u0 v0 (fun r10_ v14_ => ((r10_ = 0 → (Z_M_copy (Mz_read v14_) (Mz_now v14_) (fun v23_ => (∀ v28_, v28_ = (Mz_set_now v14_ v23_) → ((∀ v36_, v36_ = (Mz_set_states v28_ 0) → (((0 : Int) ≤ 0 ∧ (0 : Int) < 2) ∧ ((∀ v46_, v46_ = (Mz_set_isKept v36_ (updz (Mz_isKept v36_) (Int.toNat 0) 0)) → (((0 : Int) ≤ 1 ∧ (1 : Int) < 2) ∧ ((∀ v56_, v56_ = (Mz_set_isKept v46_ (updz (Mz_isKept v46_) (Int.toNat 1) 0)) → ((Q (Mz_leftOut v56_) v56_)))))))))))))) ∧ (¬ r10_ = 0 → (Q 0 v14_)))))
set_option maxRecDepth 100000 in
theorem zJ_M_load_14 {u0 : Int32} {u0z : Int} {v0 : MT} {v0z : MZ}  {Q : Int32 → MT → Prop} {Qz : (Int → MZ → Prop)} (e_u0 : u0.toInt = u0z) (e_v0 : (aM v0) = v0z) (h_Q : ∀ (a0 : Int32) (a1 : MT), Qz a0.toInt (aM a1) → Q a0 a1) (h : ZJ_M_load_14 u0z v0z Qz) : PJ_M_load_14 u0 v0 Q := by
  subst e_u0
  subst e_v0
  unfold ZJ_M_load_14 at h
  unfold PJ_M_load_14
  refine z_M_refused rfl rfl (fun r10_ v14_ h => ?_) h
  refine ⟨fun c3q => ?_, fun c3q => ?_⟩
  · have h := h.1 ((zt_eq rfl rfl).mp c3q)
    refine z_M_copy rfl rfl (fun v23_ h => ?_) h
    intro v28_ ev28_
    have h := h (aM v28_) (by rw [ev28_]; exact rfl)
    intro v36_ ev36_
    have h := h (aM v36_) (by rw [ev36_]; exact rfl)
    obtain ⟨i1q, h⟩ := h
    refine ⟨zt_in (show (0 : Int32).toInt = 0 from by decide) i1q, ?_⟩
    intro v46_ ev46_
    have h := h (aM v46_) (by rw [ev46_]; exact (show (aM (M_set_isKept v36_ (upd (M_isKept v36_) (Int32.toNatClampNeg 0) 0))) = (Mz_set_isKept (aM v36_) (updz (Mz_isKept (aM v36_)) (Int.toNat 0) 0)) from (congrArg (fun k => Mz_set_isKept (aM v36_) k) (show (aA (upd (M_isKept v36_) (Int32.toNatClampNeg 0) 0)) = (updz (Mz_isKept (aM v36_)) (Int.toNat 0) 0) from (zt_upd rfl rfl rfl)))))
    obtain ⟨i2q, h⟩ := h
    refine ⟨zt_in (show (1 : Int32).toInt = 1 from by decide) i2q, ?_⟩
    intro v56_ ev56_
    have h := h (aM v56_) (by rw [ev56_]; exact (show (aM (M_set_isKept v46_ (upd (M_isKept v46_) (Int32.toNatClampNeg 1) 0))) = (Mz_set_isKept (aM v46_) (updz (Mz_isKept (aM v46_)) (Int.toNat 1) 0)) from (congrArg (fun k => Mz_set_isKept (aM v46_) k) (show (aA (upd (M_isKept v46_) (Int32.toNatClampNeg 1) 0)) = (updz (Mz_isKept (aM v46_)) (Int.toNat 1) 0) from (zt_upd rfl rfl rfl)))))
    exact h_Q _ _ h
  · have h := h.2 (fun k => c3q ((zt_eq rfl rfl).mpr k))
    exact h_Q _ _ h
def Z_M_load (v0 : MZ) (Q : (Int → MZ → Prop)) : Prop := (Z_M_readAll v0 (fun r1_ v5_ => ((¬ r1_ = (-1) → (ZJ_M_load_14 1 v5_ Q)) ∧ (r1_ = (-1) → (ZJ_M_load_14 0 v5_ Q)))))
set_option maxRecDepth 100000 in
theorem z_M_load {v0 : MT} {v0z : MZ}  {Q : Int32 → MT → Prop} {Qz : (Int → MZ → Prop)} (e_v0 : (aM v0) = v0z) (h_Q : ∀ (a0 : Int32) (a1 : MT), Qz a0.toInt (aM a1) → Q a0 a1) (h : Z_M_load v0z Qz) : P_M_load v0 Q := by
  subst e_v0
  unfold Z_M_load at h
  unfold P_M_load
  refine z_M_readAll rfl (fun r1_ v5_ h => ?_) h
  refine ⟨fun c1q => ?_, fun c1q => ?_⟩
  · have h := h.1 (fun k => c1q ((zt_eq rfl rfl).mpr k))
    refine zJ_M_load_14 rfl rfl h_Q h
  · have h := h.2 ((zt_eq rfl rfl).mp c1q)
    refine zJ_M_load_14 rfl rfl h_Q h

def ZL_M_holds_4 : Nat → (Nat → Int) → Int → Int → (Int → Prop) → Prop
  | 0, _, _, _, _ => False
  | n + 1, v0, y1, y2, Q => ((8 ≤ y2 → (Q y1)) ∧ (¬ 8 ≤ y2 → (Z_M_isReader y2 v0 (fun r2_ => ((r2_ = 0 → zin (y1 + 0) ∧ zin (y2 + 1) ∧ (ZL_M_holds_4 n v0 (y1 + 0) (y2 + 1) Q)) ∧ (¬ r2_ = 0 → (Z_M_reader y2 (fun r7_ => zin (r7_ + 2) ∧ ((0 : Int) ≤ (r7_ + 2) ∧ ((r7_ + 2) : Int) < 621) ∧ (zin (y1 + (v0 (Int.toNat (r7_ + 2)))) ∧ zin (y2 + 1) ∧ (ZL_M_holds_4 n v0 (y1 + (v0 (Int.toNat (r7_ + 2)))) (y2 + 1) Q))))))))))
set_option maxRecDepth 100000 in
theorem zL_M_holds_4 (n : Nat) : ∀ {v0 : Nat → Int32} {v0z : (Nat → Int)} {y1 : Int32} {y1z : Int} {y2 : Int32} {y2z : Int}  {Q : Int32 → Prop} {Qz : (Int → Prop)} (e_v0 : (aA v0) = v0z) (e_y1 : y1.toInt = y1z) (e_y2 : y2.toInt = y2z) (h_Q : ∀ (a0 : Int32), Qz a0.toInt → Q a0) (h : ZL_M_holds_4 n v0z y1z y2z Qz), PL_M_holds_4 n v0 y1 y2 Q := by
  induction n with
  | zero =>
    intro v0 v0z y1 y1z y2 y2z Q Qz e_v0 e_y1 e_y2 h_Q h
    exact (h : False).elim
  | succ n ih =>
    intro v0 v0z y1 y1z y2 y2z Q Qz e_v0 e_y1 e_y2 h_Q h
    subst e_v0
    subst e_y1
    subst e_y2
    rw [ZL_M_holds_4] at h
    rw [PL_M_holds_4]
    refine ⟨fun c8q => ?_, fun c8q => ?_⟩
    · have h := h.1 ((zt_le rfl rfl).mp c8q)
      exact h_Q _ h
    · have h := h.2 (fun k => c8q ((zt_le rfl rfl).mpr k))
      refine z_M_isReader rfl rfl (fun r2_ h => ?_) h
      refine ⟨fun c7q => ?_, fun c7q => ?_⟩
      · have h := h.1 ((zt_eq rfl rfl).mp c7q)
        obtain ⟨o1q, h⟩ := h
        obtain ⟨o2q, h⟩ := h
        refine ih rfl (show (((y1 + 0) : Int32)).toInt = ((y1.toInt + 0) : Int) from (zt_add rfl rfl o1q)) (show (((y2 + 1) : Int32)).toInt = ((y2.toInt + 1) : Int) from (zt_add rfl rfl o2q)) h_Q h
      · have h := h.2 (fun k => c7q ((zt_eq rfl rfl).mpr k))
        refine z_M_reader rfl (fun r7_ h => ?_) h
        obtain ⟨o3q, h⟩ := h
        obtain ⟨i4q, h⟩ := h
        refine ⟨zt_in (show (((r7_ + 2) : Int32)).toInt = ((r7_.toInt + 2) : Int) from (zt_add rfl rfl o3q)) i4q, ?_⟩
        obtain ⟨o5q, h⟩ := h
        obtain ⟨o6q, h⟩ := h
        refine ih rfl (show (((y1 + (v0 (Int32.toNatClampNeg (r7_ + 2)))) : Int32)).toInt = ((y1.toInt + ((aA v0) (Int.toNat (r7_.toInt + 2)))) : Int) from (zt_add rfl (show (((v0 (Int32.toNatClampNeg (r7_ + 2))) : Int32)).toInt = (((aA v0) (Int.toNat (r7_.toInt + 2))) : Int) from (congrArg (fun k => (aA v0) k) (show (Int32.toNatClampNeg (r7_ + 2)) = (Int.toNat (r7_.toInt + 2)) from (congrArg Int.toNat (show (((r7_ + 2) : Int32)).toInt = ((r7_.toInt + 2) : Int) from (zt_add rfl rfl o3q)))))) o5q)) (show (((y2 + 1) : Int32)).toInt = ((y2.toInt + 1) : Int) from (zt_add rfl rfl o6q)) h_Q h
def Z_M_holds (v0 : (Nat → Int)) (Q : (Int → Prop)) : Prop := (∃ n12_, (ZL_M_holds_4 n12_ v0 0 0 Q))
set_option maxRecDepth 100000 in
theorem z_M_holds {v0 : Nat → Int32} {v0z : (Nat → Int)}  {Q : Int32 → Prop} {Qz : (Int → Prop)} (e_v0 : (aA v0) = v0z) (h_Q : ∀ (a0 : Int32), Qz a0.toInt → Q a0) (h : Z_M_holds v0z Qz) : P_M_holds v0 Q := by
  subst e_v0
  unfold Z_M_holds at h
  unfold P_M_holds
  obtain ⟨n12_, h⟩ := h
  refine ⟨n12_, ?_⟩
  refine zL_M_holds_4 n12_ rfl rfl rfl h_Q h

def ZL_M_gaps_4 : Nat → (Nat → Int) → Int → Int → (Int → Prop) → Prop
  | 0, _, _, _, _ => False
  | n + 1, v0, y1, y2, Q => ((8 ≤ y2 → (Q y1)) ∧ (¬ 8 ≤ y2 → (Z_M_isReader y2 v0 (fun r2_ => ((r2_ = 0 → zin (y1 + 0) ∧ zin (y2 + 1) ∧ (ZL_M_gaps_4 n v0 (y1 + 0) (y2 + 1) Q)) ∧ (¬ r2_ = 0 → (Z_M_hasGap y2 v0 (fun r7_ => ((r7_ = 0 → zin (y1 + 0) ∧ zin (y2 + 1) ∧ (ZL_M_gaps_4 n v0 (y1 + 0) (y2 + 1) Q)) ∧ (¬ r7_ = 0 → zin (y1 + 1) ∧ zin (y2 + 1) ∧ (ZL_M_gaps_4 n v0 (y1 + 1) (y2 + 1) Q)))))))))))
set_option maxRecDepth 100000 in
theorem zL_M_gaps_4 (n : Nat) : ∀ {v0 : Nat → Int32} {v0z : (Nat → Int)} {y1 : Int32} {y1z : Int} {y2 : Int32} {y2z : Int}  {Q : Int32 → Prop} {Qz : (Int → Prop)} (e_v0 : (aA v0) = v0z) (e_y1 : y1.toInt = y1z) (e_y2 : y2.toInt = y2z) (h_Q : ∀ (a0 : Int32), Qz a0.toInt → Q a0) (h : ZL_M_gaps_4 n v0z y1z y2z Qz), PL_M_gaps_4 n v0 y1 y2 Q := by
  induction n with
  | zero =>
    intro v0 v0z y1 y1z y2 y2z Q Qz e_v0 e_y1 e_y2 h_Q h
    exact (h : False).elim
  | succ n ih =>
    intro v0 v0z y1 y1z y2 y2z Q Qz e_v0 e_y1 e_y2 h_Q h
    subst e_v0
    subst e_y1
    subst e_y2
    rw [ZL_M_gaps_4] at h
    rw [PL_M_gaps_4]
    refine ⟨fun c9q => ?_, fun c9q => ?_⟩
    · have h := h.1 ((zt_le rfl rfl).mp c9q)
      exact h_Q _ h
    · have h := h.2 (fun k => c9q ((zt_le rfl rfl).mpr k))
      refine z_M_isReader rfl rfl (fun r2_ h => ?_) h
      refine ⟨fun c8q => ?_, fun c8q => ?_⟩
      · have h := h.1 ((zt_eq rfl rfl).mp c8q)
        obtain ⟨o1q, h⟩ := h
        obtain ⟨o2q, h⟩ := h
        refine ih rfl (show (((y1 + 0) : Int32)).toInt = ((y1.toInt + 0) : Int) from (zt_add rfl rfl o1q)) (show (((y2 + 1) : Int32)).toInt = ((y2.toInt + 1) : Int) from (zt_add rfl rfl o2q)) h_Q h
      · have h := h.2 (fun k => c8q ((zt_eq rfl rfl).mpr k))
        refine z_M_hasGap rfl rfl (fun r7_ h => ?_) h
        refine ⟨fun c7q => ?_, fun c7q => ?_⟩
        · have h := h.1 ((zt_eq rfl rfl).mp c7q)
          obtain ⟨o3q, h⟩ := h
          obtain ⟨o4q, h⟩ := h
          refine ih rfl (show (((y1 + 0) : Int32)).toInt = ((y1.toInt + 0) : Int) from (zt_add rfl rfl o3q)) (show (((y2 + 1) : Int32)).toInt = ((y2.toInt + 1) : Int) from (zt_add rfl rfl o4q)) h_Q h
        · have h := h.2 (fun k => c7q ((zt_eq rfl rfl).mpr k))
          obtain ⟨o5q, h⟩ := h
          obtain ⟨o6q, h⟩ := h
          refine ih rfl (show (((y1 + 1) : Int32)).toInt = ((y1.toInt + 1) : Int) from (zt_add rfl rfl o5q)) (show (((y2 + 1) : Int32)).toInt = ((y2.toInt + 1) : Int) from (zt_add rfl rfl o6q)) h_Q h
def Z_M_gaps (v0 : (Nat → Int)) (Q : (Int → Prop)) : Prop := (∃ n12_, (ZL_M_gaps_4 n12_ v0 0 0 Q))
set_option maxRecDepth 100000 in
theorem z_M_gaps {v0 : Nat → Int32} {v0z : (Nat → Int)}  {Q : Int32 → Prop} {Qz : (Int → Prop)} (e_v0 : (aA v0) = v0z) (h_Q : ∀ (a0 : Int32), Qz a0.toInt → Q a0) (h : Z_M_gaps v0z Qz) : P_M_gaps v0 Q := by
  subst e_v0
  unfold Z_M_gaps at h
  unfold P_M_gaps
  obtain ⟨n12_, h⟩ := h
  refine ⟨n12_, ?_⟩
  refine zL_M_gaps_4 n12_ rfl rfl rfl h_Q h

def ZJ_M_about_18 (x1 : Int) (y1 : Int) (u0 : Int) (v0 : MZ) (Q : (Int → MZ → Prop)) : Prop := (Z_M_refused u0 v0 (fun r6_ v10_ => ((r6_ = 0 → ((y1 = 0 → ((0 : Int) ≤ 401 ∧ (401 : Int) < 621) ∧ ((Q (Mz_now v10_ (Int.toNat 401)) v10_))) ∧ (¬ y1 = 0 → ((y1 = 1 → ((0 : Int) ≤ 400 ∧ (400 : Int) < 621) ∧ ((Q (Mz_now v10_ (Int.toNat 400)) v10_))) ∧ (¬ y1 = 1 → ((y1 = 2 → (Z_M_segments (Mz_now v10_) (fun r20_ => (Q r20_ v10_)))) ∧ (¬ y1 = 2 → ((y1 = 3 → ((0 : Int) ≤ 400 ∧ (400 : Int) < 621) ∧ (((0 : Int) ≤ 401 ∧ (401 : Int) < 621) ∧ ((Z_M_sizes (Mz_now v10_ (Int.toNat 400)) (Mz_now v10_ (Int.toNat 401)) (Mz_now v10_) (fun r27_ => (Q r27_ v10_)))))) ∧ (¬ y1 = 3 → ((y1 = 4 → (Z_M_readers (Mz_now v10_) (fun r32_ => (Q r32_ v10_)))) ∧ (¬ y1 = 4 → ((y1 = 5 → (Z_M_holds (Mz_now v10_) (fun r37_ => (Q r37_ v10_)))) ∧ (¬ y1 = 5 → ((y1 = 6 → (Z_M_gaps (Mz_now v10_) (fun r42_ => (Q r42_ v10_)))) ∧ (¬ y1 = 6 → ((y1 = 7 → ((0 : Int) ≤ 616 ∧ (616 : Int) < 621) ∧ ((Q (Mz_now v10_ (Int.toNat 616)) v10_))) ∧ (¬ y1 = 7 → ((y1 = 8 → ((0 : Int) ≤ 617 ∧ (617 : Int) < 621) ∧ ((Q (Mz_now v10_ (Int.toNat 617)) v10_))) ∧ (¬ y1 = 8 → ((y1 = 9 → ((0 : Int) ≤ 618 ∧ (618 : Int) < 621) ∧ ((Q (Mz_now v10_ (Int.toNat 618)) v10_))) ∧ (¬ y1 = 9 → ((y1 = 10 → ((0 : Int) ≤ 619 ∧ (619 : Int) < 621) ∧ ((Q (Mz_now v10_ (Int.toNat 619)) v10_))) ∧ (¬ y1 = 10 → ((0 : Int) ≤ 620 ∧ (620 : Int) < 621) ∧ ((Q (Mz_now v10_ (Int.toNat 620)) v10_))))))))))))))))))))))))) ∧ (¬ r6_ = 0 → (Q 0 v10_)))))
set_option maxRecDepth 100000 in
theorem zJ_M_about_18 {x1 : Int32} {x1z : Int} {y1 : Int32} {y1z : Int} {u0 : Int32} {u0z : Int} {v0 : MT} {v0z : MZ}  {Q : Int32 → MT → Prop} {Qz : (Int → MZ → Prop)} (e_x1 : x1.toInt = x1z) (e_y1 : y1.toInt = y1z) (e_u0 : u0.toInt = u0z) (e_v0 : (aM v0) = v0z) (h_Q : ∀ (a0 : Int32) (a1 : MT), Qz a0.toInt (aM a1) → Q a0 a1) (h : ZJ_M_about_18 x1z y1z u0z v0z Qz) : PJ_M_about_18 x1 y1 u0 v0 Q := by
  subst e_x1
  subst e_y1
  subst e_u0
  subst e_v0
  unfold ZJ_M_about_18 at h
  unfold PJ_M_about_18
  refine z_M_refused rfl rfl (fun r6_ v10_ h => ?_) h
  refine ⟨fun c21q => ?_, fun c21q => ?_⟩
  · have h := h.1 ((zt_eq rfl rfl).mp c21q)
    refine ⟨fun c20q => ?_, fun c20q => ?_⟩
    · have h := h.1 ((zt_eq rfl rfl).mp c20q)
      obtain ⟨i1q, h⟩ := h
      refine ⟨zt_in (show (401 : Int32).toInt = 401 from by decide) i1q, ?_⟩
      exact h_Q _ _ h
    · have h := h.2 (fun k => c20q ((zt_eq rfl rfl).mpr k))
      refine ⟨fun c19q => ?_, fun c19q => ?_⟩
      · have h := h.1 ((zt_eq rfl rfl).mp c19q)
        obtain ⟨i2q, h⟩ := h
        refine ⟨zt_in (show (400 : Int32).toInt = 400 from by decide) i2q, ?_⟩
        exact h_Q _ _ h
      · have h := h.2 (fun k => c19q ((zt_eq rfl rfl).mpr k))
        refine ⟨fun c18q => ?_, fun c18q => ?_⟩
        · have h := h.1 ((zt_eq rfl rfl).mp c18q)
          refine z_M_segments rfl (fun r20_ h => ?_) h
          exact h_Q _ _ h
        · have h := h.2 (fun k => c18q ((zt_eq rfl rfl).mpr k))
          refine ⟨fun c17q => ?_, fun c17q => ?_⟩
          · have h := h.1 ((zt_eq rfl rfl).mp c17q)
            obtain ⟨i3q, h⟩ := h
            refine ⟨zt_in (show (400 : Int32).toInt = 400 from by decide) i3q, ?_⟩
            obtain ⟨i4q, h⟩ := h
            refine ⟨zt_in (show (401 : Int32).toInt = 401 from by decide) i4q, ?_⟩
            refine z_M_sizes rfl rfl rfl (fun r27_ h => ?_) h
            exact h_Q _ _ h
          · have h := h.2 (fun k => c17q ((zt_eq rfl rfl).mpr k))
            refine ⟨fun c16q => ?_, fun c16q => ?_⟩
            · have h := h.1 ((zt_eq rfl rfl).mp c16q)
              refine z_M_readers rfl (fun r32_ h => ?_) h
              exact h_Q _ _ h
            · have h := h.2 (fun k => c16q ((zt_eq rfl rfl).mpr k))
              refine ⟨fun c15q => ?_, fun c15q => ?_⟩
              · have h := h.1 ((zt_eq rfl rfl).mp c15q)
                refine z_M_holds rfl (fun r37_ h => ?_) h
                exact h_Q _ _ h
              · have h := h.2 (fun k => c15q ((zt_eq rfl rfl).mpr k))
                refine ⟨fun c14q => ?_, fun c14q => ?_⟩
                · have h := h.1 ((zt_eq rfl rfl).mp c14q)
                  refine z_M_gaps rfl (fun r42_ h => ?_) h
                  exact h_Q _ _ h
                · have h := h.2 (fun k => c14q ((zt_eq rfl rfl).mpr k))
                  refine ⟨fun c13q => ?_, fun c13q => ?_⟩
                  · have h := h.1 ((zt_eq rfl rfl).mp c13q)
                    obtain ⟨i5q, h⟩ := h
                    refine ⟨zt_in (show (616 : Int32).toInt = 616 from by decide) i5q, ?_⟩
                    exact h_Q _ _ h
                  · have h := h.2 (fun k => c13q ((zt_eq rfl rfl).mpr k))
                    refine ⟨fun c12q => ?_, fun c12q => ?_⟩
                    · have h := h.1 ((zt_eq rfl rfl).mp c12q)
                      obtain ⟨i6q, h⟩ := h
                      refine ⟨zt_in (show (617 : Int32).toInt = 617 from by decide) i6q, ?_⟩
                      exact h_Q _ _ h
                    · have h := h.2 (fun k => c12q ((zt_eq rfl rfl).mpr k))
                      refine ⟨fun c11q => ?_, fun c11q => ?_⟩
                      · have h := h.1 ((zt_eq rfl rfl).mp c11q)
                        obtain ⟨i7q, h⟩ := h
                        refine ⟨zt_in (show (618 : Int32).toInt = 618 from by decide) i7q, ?_⟩
                        exact h_Q _ _ h
                      · have h := h.2 (fun k => c11q ((zt_eq rfl rfl).mpr k))
                        refine ⟨fun c10q => ?_, fun c10q => ?_⟩
                        · have h := h.1 ((zt_eq rfl rfl).mp c10q)
                          obtain ⟨i8q, h⟩ := h
                          refine ⟨zt_in (show (619 : Int32).toInt = 619 from by decide) i8q, ?_⟩
                          exact h_Q _ _ h
                        · have h := h.2 (fun k => c10q ((zt_eq rfl rfl).mpr k))
                          obtain ⟨i9q, h⟩ := h
                          refine ⟨zt_in (show (620 : Int32).toInt = 620 from by decide) i9q, ?_⟩
                          exact h_Q _ _ h
  · have h := h.2 (fun k => c21q ((zt_eq rfl rfl).mpr k))
    exact h_Q _ _ h
def Z_M_about (x1 : Int) (v0 : MZ) (Q : (Int → MZ → Prop)) : Prop := (Z_M_in x1 0 11 (fun r1_ => ((r1_ = 0 → (ZJ_M_about_18 x1 x1 1 v0 Q)) ∧ (¬ r1_ = 0 → (ZJ_M_about_18 x1 x1 0 v0 Q)))))
set_option maxRecDepth 100000 in
theorem z_M_about {x1 : Int32} {x1z : Int} {v0 : MT} {v0z : MZ}  {Q : Int32 → MT → Prop} {Qz : (Int → MZ → Prop)} (e_x1 : x1.toInt = x1z) (e_v0 : (aM v0) = v0z) (h_Q : ∀ (a0 : Int32) (a1 : MT), Qz a0.toInt (aM a1) → Q a0 a1) (h : Z_M_about x1z v0z Qz) : P_M_about x1 v0 Q := by
  subst e_x1
  subst e_v0
  unfold Z_M_about at h
  unfold P_M_about
  refine z_M_in (show (Int32.toInt64 x1).toInt = (x1.toInt : Int) from (zt_i2l rfl)) rfl rfl (fun r1_ h => ?_) h
  refine ⟨fun c1q => ?_, fun c1q => ?_⟩
  · have h := h.1 ((zt_eq rfl rfl).mp c1q)
    refine zJ_M_about_18 rfl rfl rfl rfl h_Q h
  · have h := h.2 (fun k => c1q ((zt_eq rfl rfl).mpr k))
    refine zJ_M_about_18 rfl rfl rfl rfl h_Q h

def ZJ_M_rowOf_50 (x1 : Int) (x2 : Int) (y1 : Int) (y2 : Int) (u0 : Int) (v0 : MZ) (Q : (Int → MZ → Prop)) : Prop := (Z_M_refused u0 v0 (fun r13_ v17_ => ((r13_ = 0 → ((y2 = 0 → (Z_M_key y1 (Mz_now v17_) (fun r23_ => (Q r23_ v17_)))) ∧ (¬ y2 = 0 → ((y2 = 1 → (Z_M_value y1 (Mz_now v17_) (fun r28_ => (Q r28_ v17_)))) ∧ (¬ y2 = 1 → ((y2 = 2 → (Z_M_size y1 (Mz_now v17_) (fun r33_ => (Q r33_ v17_)))) ∧ (¬ y2 = 2 → ((y2 = 3 → zin (200 + y1) ∧ ((0 : Int) ≤ (200 + y1) ∧ ((200 + y1) : Int) < 621) ∧ ((Q (Mz_now v17_ (Int.toNat (200 + y1))) v17_))) ∧ (¬ y2 = 3 → ((y2 = 4 → (Z_M_segmentAt y1 (Mz_now v17_) (fun r40_ => (Q r40_ v17_)))) ∧ (¬ y2 = 4 → (Z_M_holders y1 (Mz_now v17_) (fun r44_ => (Q r44_ v17_)))))))))))))) ∧ (¬ r13_ = 0 → (Q 0 v17_)))))
set_option maxRecDepth 100000 in
theorem zJ_M_rowOf_50 {x1 : Int32} {x1z : Int} {x2 : Int32} {x2z : Int} {y1 : Int32} {y1z : Int} {y2 : Int32} {y2z : Int} {u0 : Int32} {u0z : Int} {v0 : MT} {v0z : MZ}  {Q : Int32 → MT → Prop} {Qz : (Int → MZ → Prop)} (e_x1 : x1.toInt = x1z) (e_x2 : x2.toInt = x2z) (e_y1 : y1.toInt = y1z) (e_y2 : y2.toInt = y2z) (e_u0 : u0.toInt = u0z) (e_v0 : (aM v0) = v0z) (h_Q : ∀ (a0 : Int32) (a1 : MT), Qz a0.toInt (aM a1) → Q a0 a1) (h : ZJ_M_rowOf_50 x1z x2z y1z y2z u0z v0z Qz) : PJ_M_rowOf_50 x1 x2 y1 y2 u0 v0 Q := by
  subst e_x1
  subst e_x2
  subst e_y1
  subst e_y2
  subst e_u0
  subst e_v0
  unfold ZJ_M_rowOf_50 at h
  unfold PJ_M_rowOf_50
  refine z_M_refused rfl rfl (fun r13_ v17_ h => ?_) h
  refine ⟨fun c8q => ?_, fun c8q => ?_⟩
  · have h := h.1 ((zt_eq rfl rfl).mp c8q)
    refine ⟨fun c7q => ?_, fun c7q => ?_⟩
    · have h := h.1 ((zt_eq rfl rfl).mp c7q)
      refine z_M_key rfl rfl (fun r23_ h => ?_) h
      exact h_Q _ _ h
    · have h := h.2 (fun k => c7q ((zt_eq rfl rfl).mpr k))
      refine ⟨fun c6q => ?_, fun c6q => ?_⟩
      · have h := h.1 ((zt_eq rfl rfl).mp c6q)
        refine z_M_value rfl rfl (fun r28_ h => ?_) h
        exact h_Q _ _ h
      · have h := h.2 (fun k => c6q ((zt_eq rfl rfl).mpr k))
        refine ⟨fun c5q => ?_, fun c5q => ?_⟩
        · have h := h.1 ((zt_eq rfl rfl).mp c5q)
          refine z_M_size rfl rfl (fun r33_ h => ?_) h
          exact h_Q _ _ h
        · have h := h.2 (fun k => c5q ((zt_eq rfl rfl).mpr k))
          refine ⟨fun c4q => ?_, fun c4q => ?_⟩
          · have h := h.1 ((zt_eq rfl rfl).mp c4q)
            obtain ⟨o1q, h⟩ := h
            obtain ⟨i2q, h⟩ := h
            refine ⟨zt_in (show (((200 + y1) : Int32)).toInt = ((200 + y1.toInt) : Int) from (zt_add rfl rfl o1q)) i2q, ?_⟩
            exact h_Q _ _ (Eq.mpr (congrArg (fun k => Qz k (aM v17_)) (show (((M_now v17_ (Int32.toNatClampNeg (200 + y1))) : Int32)).toInt = ((Mz_now (aM v17_) (Int.toNat (200 + y1.toInt))) : Int) from (congrArg (fun k => Mz_now (aM v17_) k) (show (Int32.toNatClampNeg (200 + y1)) = (Int.toNat (200 + y1.toInt)) from (congrArg Int.toNat (show (((200 + y1) : Int32)).toInt = ((200 + y1.toInt) : Int) from (zt_add rfl rfl o1q))))))) h)
          · have h := h.2 (fun k => c4q ((zt_eq rfl rfl).mpr k))
            refine ⟨fun c3q => ?_, fun c3q => ?_⟩
            · have h := h.1 ((zt_eq rfl rfl).mp c3q)
              refine z_M_segmentAt rfl rfl (fun r40_ h => ?_) h
              exact h_Q _ _ h
            · have h := h.2 (fun k => c3q ((zt_eq rfl rfl).mpr k))
              refine z_M_holders rfl rfl (fun r44_ h => ?_) h
              exact h_Q _ _ h
  · have h := h.2 (fun k => c8q ((zt_eq rfl rfl).mpr k))
    exact h_Q _ _ h
def Z_M_rowOf (x1 : Int) (x2 : Int) (v0 : MZ) (Q : (Int → MZ → Prop)) : Prop := ((0 : Int) ≤ 400 ∧ (400 : Int) < 621) ∧ (((0 : Int) ≤ 401 ∧ (401 : Int) < 621) ∧ (zin ((Mz_now v0 (Int.toNat 401)) - 1) ∧ (Z_M_in x1 (Mz_now v0 (Int.toNat 400)) ((Mz_now v0 (Int.toNat 401)) - 1) (fun r3_ => ((¬ r3_ = 0 → (Z_M_in x2 0 5 (fun r8_ => ((¬ r8_ = 0 → (ZJ_M_rowOf_50 x1 x2 x1 x2 0 v0 Q)) ∧ (r8_ = 0 → (ZJ_M_rowOf_50 x1 x2 x1 x2 2 v0 Q)))))) ∧ (r3_ = 0 → (ZJ_M_rowOf_50 x1 x2 x1 x2 1 v0 Q)))))))
set_option maxRecDepth 100000 in
theorem z_M_rowOf {x1 : Int32} {x1z : Int} {x2 : Int32} {x2z : Int} {v0 : MT} {v0z : MZ}  {Q : Int32 → MT → Prop} {Qz : (Int → MZ → Prop)} (e_x1 : x1.toInt = x1z) (e_x2 : x2.toInt = x2z) (e_v0 : (aM v0) = v0z) (h_Q : ∀ (a0 : Int32) (a1 : MT), Qz a0.toInt (aM a1) → Q a0 a1) (h : Z_M_rowOf x1z x2z v0z Qz) : P_M_rowOf x1 x2 v0 Q := by
  subst e_x1
  subst e_x2
  subst e_v0
  unfold Z_M_rowOf at h
  unfold P_M_rowOf
  obtain ⟨i1q, h⟩ := h
  refine ⟨zt_in (show (400 : Int32).toInt = 400 from by decide) i1q, ?_⟩
  obtain ⟨i2q, h⟩ := h
  refine ⟨zt_in (show (401 : Int32).toInt = 401 from by decide) i2q, ?_⟩
  obtain ⟨o3q, h⟩ := h
  refine z_M_in (show (Int32.toInt64 x1).toInt = (x1.toInt : Int) from (zt_i2l rfl)) (show (Int32.toInt64 (M_now v0 (Int32.toNatClampNeg 400))).toInt = ((Mz_now (aM v0) (Int.toNat 400)) : Int) from (zt_i2l rfl)) (show (Int32.toInt64 ((M_now v0 (Int32.toNatClampNeg 401)) - 1)).toInt = (((Mz_now (aM v0) (Int.toNat 401)) - 1) : Int) from (zt_i2l (show ((((M_now v0 (Int32.toNatClampNeg 401)) - 1) : Int32)).toInt = (((Mz_now (aM v0) (Int.toNat 401)) - 1) : Int) from (zt_sub rfl rfl o3q)))) (fun r3_ h => ?_) h
  refine ⟨fun c5q => ?_, fun c5q => ?_⟩
  · have h := h.1 (fun k => c5q ((zt_eq rfl rfl).mpr k))
    refine z_M_in (show (Int32.toInt64 x2).toInt = (x2.toInt : Int) from (zt_i2l rfl)) rfl rfl (fun r8_ h => ?_) h
    refine ⟨fun c4q => ?_, fun c4q => ?_⟩
    · have h := h.1 (fun k => c4q ((zt_eq rfl rfl).mpr k))
      refine zJ_M_rowOf_50 rfl rfl rfl rfl rfl rfl h_Q h
    · have h := h.2 ((zt_eq rfl rfl).mp c4q)
      refine zJ_M_rowOf_50 rfl rfl rfl rfl rfl rfl h_Q h
  · have h := h.2 ((zt_eq rfl rfl).mp c5q)
    refine zJ_M_rowOf_50 rfl rfl rfl rfl rfl rfl h_Q h

def ZJ_M_segmentOf_41 (x1 : Int) (x2 : Int) (y1 : Int) (y2 : Int) (u0 : Int) (v0 : MZ) (Q : (Int → MZ → Prop)) : Prop := (Z_M_refused u0 v0 (fun r15_ v19_ => ((r15_ = 0 → (Z_M_firstOf y1 (Mz_now v19_) (fun r24_ => (Z_M_behind r24_ (Mz_now v19_) (fun r28_ => ((y2 = 0 → (Q r24_ v19_)) ∧ (¬ y2 = 0 → ((y2 = 1 → zin (r28_ - r24_) ∧ (Q (r28_ - r24_) v19_)) ∧ (¬ y2 = 1 → ((y2 = 2 → (Z_M_sizes r24_ r28_ (Mz_now v19_) (fun r35_ => (Q r35_ v19_)))) ∧ (¬ y2 = 2 → ((y2 = 3 → ((0 : Int) ≤ 401 ∧ (401 : Int) < 621) ∧ ((((Mz_now v19_ (Int.toNat 401)) ≤ r28_ → (Q 0 v19_)) ∧ (¬ (Mz_now v19_ (Int.toNat 401)) ≤ r28_ → (Q 1 v19_))))) ∧ (¬ y2 = 3 → ((y2 = 4 → (Z_M_isDue r24_ (Mz_now v19_) (fun r43_ => ((r43_ = 0 → (Q 0 v19_)) ∧ (¬ r43_ = 0 → (Q 1 v19_)))))) ∧ (¬ y2 = 4 → (Z_M_isHeld r24_ (Mz_now v19_) (fun r48_ => ((r48_ = 0 → (Q 0 v19_)) ∧ (¬ r48_ = 0 → (Q 1 v19_)))))))))))))))))))) ∧ (¬ r15_ = 0 → (Q 0 v19_)))))
set_option maxRecDepth 100000 in
theorem zJ_M_segmentOf_41 {x1 : Int32} {x1z : Int} {x2 : Int32} {x2z : Int} {y1 : Int32} {y1z : Int} {y2 : Int32} {y2z : Int} {u0 : Int32} {u0z : Int} {v0 : MT} {v0z : MZ}  {Q : Int32 → MT → Prop} {Qz : (Int → MZ → Prop)} (e_x1 : x1.toInt = x1z) (e_x2 : x2.toInt = x2z) (e_y1 : y1.toInt = y1z) (e_y2 : y2.toInt = y2z) (e_u0 : u0.toInt = u0z) (e_v0 : (aM v0) = v0z) (h_Q : ∀ (a0 : Int32) (a1 : MT), Qz a0.toInt (aM a1) → Q a0 a1) (h : ZJ_M_segmentOf_41 x1z x2z y1z y2z u0z v0z Qz) : PJ_M_segmentOf_41 x1 x2 y1 y2 u0 v0 Q := by
  subst e_x1
  subst e_x2
  subst e_y1
  subst e_y2
  subst e_u0
  subst e_v0
  unfold ZJ_M_segmentOf_41 at h
  unfold PJ_M_segmentOf_41
  refine z_M_refused rfl rfl (fun r15_ v19_ h => ?_) h
  refine ⟨fun c11q => ?_, fun c11q => ?_⟩
  · have h := h.1 ((zt_eq rfl rfl).mp c11q)
    refine z_M_firstOf rfl rfl (fun r24_ h => ?_) h
    refine z_M_behind rfl rfl (fun r28_ h => ?_) h
    refine ⟨fun c10q => ?_, fun c10q => ?_⟩
    · have h := h.1 ((zt_eq rfl rfl).mp c10q)
      exact h_Q _ _ h
    · have h := h.2 (fun k => c10q ((zt_eq rfl rfl).mpr k))
      refine ⟨fun c9q => ?_, fun c9q => ?_⟩
      · have h := h.1 ((zt_eq rfl rfl).mp c9q)
        obtain ⟨o1q, h⟩ := h
        exact h_Q _ _ (Eq.mpr (congrArg (fun k => Qz k (aM v19_)) (show (((r28_ - r24_) : Int32)).toInt = ((r28_.toInt - r24_.toInt) : Int) from (zt_sub rfl rfl o1q))) h)
      · have h := h.2 (fun k => c9q ((zt_eq rfl rfl).mpr k))
        refine ⟨fun c8q => ?_, fun c8q => ?_⟩
        · have h := h.1 ((zt_eq rfl rfl).mp c8q)
          refine z_M_sizes rfl rfl rfl (fun r35_ h => ?_) h
          exact h_Q _ _ h
        · have h := h.2 (fun k => c8q ((zt_eq rfl rfl).mpr k))
          refine ⟨fun c7q => ?_, fun c7q => ?_⟩
          · have h := h.1 ((zt_eq rfl rfl).mp c7q)
            obtain ⟨i2q, h⟩ := h
            refine ⟨zt_in (show (401 : Int32).toInt = 401 from by decide) i2q, ?_⟩
            refine ⟨fun c3q => ?_, fun c3q => ?_⟩
            · have h := h.1 ((zt_le rfl rfl).mp c3q)
              exact h_Q _ _ h
            · have h := h.2 (fun k => c3q ((zt_le rfl rfl).mpr k))
              exact h_Q _ _ h
          · have h := h.2 (fun k => c7q ((zt_eq rfl rfl).mpr k))
            refine ⟨fun c6q => ?_, fun c6q => ?_⟩
            · have h := h.1 ((zt_eq rfl rfl).mp c6q)
              refine z_M_isDue rfl rfl (fun r43_ h => ?_) h
              refine ⟨fun c4q => ?_, fun c4q => ?_⟩
              · have h := h.1 ((zt_eq rfl rfl).mp c4q)
                exact h_Q _ _ h
              · have h := h.2 (fun k => c4q ((zt_eq rfl rfl).mpr k))
                exact h_Q _ _ h
            · have h := h.2 (fun k => c6q ((zt_eq rfl rfl).mpr k))
              refine z_M_isHeld rfl rfl (fun r48_ h => ?_) h
              refine ⟨fun c5q => ?_, fun c5q => ?_⟩
              · have h := h.1 ((zt_eq rfl rfl).mp c5q)
                exact h_Q _ _ h
              · have h := h.2 (fun k => c5q ((zt_eq rfl rfl).mpr k))
                exact h_Q _ _ h
  · have h := h.2 (fun k => c11q ((zt_eq rfl rfl).mpr k))
    exact h_Q _ _ h
def Z_M_segmentOf (x1 : Int) (x2 : Int) (v0 : MZ) (Q : (Int → MZ → Prop)) : Prop := (Z_M_segments (Mz_now v0) (fun r1_ => zin (r1_ - 1) ∧ (Z_M_in x1 0 (r1_ - 1) (fun r5_ => ((¬ r5_ = 0 → (Z_M_in x2 0 5 (fun r10_ => ((¬ r10_ = 0 → (ZJ_M_segmentOf_41 x1 x2 x1 x2 0 v0 Q)) ∧ (r10_ = 0 → (ZJ_M_segmentOf_41 x1 x2 x1 x2 2 v0 Q)))))) ∧ (r5_ = 0 → (ZJ_M_segmentOf_41 x1 x2 x1 x2 1 v0 Q)))))))
set_option maxRecDepth 100000 in
theorem z_M_segmentOf {x1 : Int32} {x1z : Int} {x2 : Int32} {x2z : Int} {v0 : MT} {v0z : MZ}  {Q : Int32 → MT → Prop} {Qz : (Int → MZ → Prop)} (e_x1 : x1.toInt = x1z) (e_x2 : x2.toInt = x2z) (e_v0 : (aM v0) = v0z) (h_Q : ∀ (a0 : Int32) (a1 : MT), Qz a0.toInt (aM a1) → Q a0 a1) (h : Z_M_segmentOf x1z x2z v0z Qz) : P_M_segmentOf x1 x2 v0 Q := by
  subst e_x1
  subst e_x2
  subst e_v0
  unfold Z_M_segmentOf at h
  unfold P_M_segmentOf
  refine z_M_segments rfl (fun r1_ h => ?_) h
  obtain ⟨o1q, h⟩ := h
  refine z_M_in (show (Int32.toInt64 x1).toInt = (x1.toInt : Int) from (zt_i2l rfl)) rfl (show (Int32.toInt64 (r1_ - 1)).toInt = ((r1_.toInt - 1) : Int) from (zt_i2l (show (((r1_ - 1) : Int32)).toInt = ((r1_.toInt - 1) : Int) from (zt_sub rfl rfl o1q)))) (fun r5_ h => ?_) h
  refine ⟨fun c3q => ?_, fun c3q => ?_⟩
  · have h := h.1 (fun k => c3q ((zt_eq rfl rfl).mpr k))
    refine z_M_in (show (Int32.toInt64 x2).toInt = (x2.toInt : Int) from (zt_i2l rfl)) rfl rfl (fun r10_ h => ?_) h
    refine ⟨fun c2q => ?_, fun c2q => ?_⟩
    · have h := h.1 (fun k => c2q ((zt_eq rfl rfl).mpr k))
      refine zJ_M_segmentOf_41 rfl rfl rfl rfl rfl rfl h_Q h
    · have h := h.2 ((zt_eq rfl rfl).mp c2q)
      refine zJ_M_segmentOf_41 rfl rfl rfl rfl rfl rfl h_Q h
  · have h := h.2 ((zt_eq rfl rfl).mp c3q)
    refine zJ_M_segmentOf_41 rfl rfl rfl rfl rfl rfl h_Q h

def ZJ_M_readerOf_76 (x1 : Int) (x2 : Int) (y2 : Int) (y3 : Int) (u0 : Int) (v0 : MZ) (Q : (Int → MZ → Prop)) : Prop := ((y2 = 0 → zin (y3 + 1) ∧ ((0 : Int) ≤ (y3 + 1) ∧ ((y3 + 1) : Int) < 621) ∧ ((Q (Mz_now v0 (Int.toNat (y3 + 1))) v0))) ∧ (¬ y2 = 0 → ((y2 = 1 → zin (y3 + 2) ∧ ((0 : Int) ≤ (y3 + 2) ∧ ((y3 + 2) : Int) < 621) ∧ ((Q (Mz_now v0 (Int.toNat (y3 + 2))) v0))) ∧ (¬ y2 = 1 → ((y2 = 2 → zin (y3 + 3) ∧ ((0 : Int) ≤ (y3 + 3) ∧ ((y3 + 3) : Int) < 621) ∧ ((Q (Mz_now v0 (Int.toNat (y3 + 3))) v0))) ∧ (¬ y2 = 2 → ((y2 = 3 → zin (y3 + 4) ∧ ((0 : Int) ≤ (y3 + 4) ∧ ((y3 + 4) : Int) < 621) ∧ ((Q (Mz_now v0 (Int.toNat (y3 + 4))) v0))) ∧ (¬ y2 = 3 → ((y2 = 4 → zin (y3 + 5) ∧ ((0 : Int) ≤ (y3 + 5) ∧ ((y3 + 5) : Int) < 621) ∧ ((Q (Mz_now v0 (Int.toNat (y3 + 5))) v0))) ∧ (¬ y2 = 4 → ((y2 = 5 → ((0 : Int) ≤ 401 ∧ (401 : Int) < 621) ∧ (zin ((Mz_now v0 (Int.toNat 401)) - u0) ∧ (Q ((Mz_now v0 (Int.toNat 401)) - u0) v0))) ∧ (¬ y2 = 5 → ((y2 = 6 → ((0 : Int) ≤ 401 ∧ (401 : Int) < 621) ∧ ((Z_M_sizes u0 (Mz_now v0 (Int.toNat 401)) (Mz_now v0) (fun r44_ => (Q r44_ v0))))) ∧ (¬ y2 = 6 → ((y2 = 7 → zin (y3 + 1) ∧ ((0 : Int) ≤ (y3 + 1) ∧ ((y3 + 1) : Int) < 621) ∧ (zin (u0 - (Mz_now v0 (Int.toNat (y3 + 1)))) ∧ (Q (u0 - (Mz_now v0 (Int.toNat (y3 + 1)))) v0))) ∧ (¬ y2 = 7 → zin (y3 + 6) ∧ ((0 : Int) ≤ (y3 + 6) ∧ ((y3 + 6) : Int) < 621) ∧ ((Q (Mz_now v0 (Int.toNat (y3 + 6))) v0))))))))))))))))))
set_option maxRecDepth 100000 in
theorem zJ_M_readerOf_76 {x1 : Int32} {x1z : Int} {x2 : Int32} {x2z : Int} {y2 : Int32} {y2z : Int} {y3 : Int32} {y3z : Int} {u0 : Int32} {u0z : Int} {v0 : MT} {v0z : MZ}  {Q : Int32 → MT → Prop} {Qz : (Int → MZ → Prop)} (e_x1 : x1.toInt = x1z) (e_x2 : x2.toInt = x2z) (e_y2 : y2.toInt = y2z) (e_y3 : y3.toInt = y3z) (e_u0 : u0.toInt = u0z) (e_v0 : (aM v0) = v0z) (h_Q : ∀ (a0 : Int32) (a1 : MT), Qz a0.toInt (aM a1) → Q a0 a1) (h : ZJ_M_readerOf_76 x1z x2z y2z y3z u0z v0z Qz) : PJ_M_readerOf_76 x1 x2 y2 y3 u0 v0 Q := by
  subst e_x1
  subst e_x2
  subst e_y2
  subst e_y3
  subst e_u0
  subst e_v0
  unfold ZJ_M_readerOf_76 at h
  unfold PJ_M_readerOf_76
  refine ⟨fun c26q => ?_, fun c26q => ?_⟩
  · have h := h.1 ((zt_eq rfl rfl).mp c26q)
    obtain ⟨o1q, h⟩ := h
    obtain ⟨i2q, h⟩ := h
    refine ⟨zt_in (show (((y3 + 1) : Int32)).toInt = ((y3.toInt + 1) : Int) from (zt_add rfl rfl o1q)) i2q, ?_⟩
    exact h_Q _ _ (Eq.mpr (congrArg (fun k => Qz k (aM v0)) (show (((M_now v0 (Int32.toNatClampNeg (y3 + 1))) : Int32)).toInt = ((Mz_now (aM v0) (Int.toNat (y3.toInt + 1))) : Int) from (congrArg (fun k => Mz_now (aM v0) k) (show (Int32.toNatClampNeg (y3 + 1)) = (Int.toNat (y3.toInt + 1)) from (congrArg Int.toNat (show (((y3 + 1) : Int32)).toInt = ((y3.toInt + 1) : Int) from (zt_add rfl rfl o1q))))))) h)
  · have h := h.2 (fun k => c26q ((zt_eq rfl rfl).mpr k))
    refine ⟨fun c25q => ?_, fun c25q => ?_⟩
    · have h := h.1 ((zt_eq rfl rfl).mp c25q)
      obtain ⟨o3q, h⟩ := h
      obtain ⟨i4q, h⟩ := h
      refine ⟨zt_in (show (((y3 + 2) : Int32)).toInt = ((y3.toInt + 2) : Int) from (zt_add rfl rfl o3q)) i4q, ?_⟩
      exact h_Q _ _ (Eq.mpr (congrArg (fun k => Qz k (aM v0)) (show (((M_now v0 (Int32.toNatClampNeg (y3 + 2))) : Int32)).toInt = ((Mz_now (aM v0) (Int.toNat (y3.toInt + 2))) : Int) from (congrArg (fun k => Mz_now (aM v0) k) (show (Int32.toNatClampNeg (y3 + 2)) = (Int.toNat (y3.toInt + 2)) from (congrArg Int.toNat (show (((y3 + 2) : Int32)).toInt = ((y3.toInt + 2) : Int) from (zt_add rfl rfl o3q))))))) h)
    · have h := h.2 (fun k => c25q ((zt_eq rfl rfl).mpr k))
      refine ⟨fun c24q => ?_, fun c24q => ?_⟩
      · have h := h.1 ((zt_eq rfl rfl).mp c24q)
        obtain ⟨o5q, h⟩ := h
        obtain ⟨i6q, h⟩ := h
        refine ⟨zt_in (show (((y3 + 3) : Int32)).toInt = ((y3.toInt + 3) : Int) from (zt_add rfl rfl o5q)) i6q, ?_⟩
        exact h_Q _ _ (Eq.mpr (congrArg (fun k => Qz k (aM v0)) (show (((M_now v0 (Int32.toNatClampNeg (y3 + 3))) : Int32)).toInt = ((Mz_now (aM v0) (Int.toNat (y3.toInt + 3))) : Int) from (congrArg (fun k => Mz_now (aM v0) k) (show (Int32.toNatClampNeg (y3 + 3)) = (Int.toNat (y3.toInt + 3)) from (congrArg Int.toNat (show (((y3 + 3) : Int32)).toInt = ((y3.toInt + 3) : Int) from (zt_add rfl rfl o5q))))))) h)
      · have h := h.2 (fun k => c24q ((zt_eq rfl rfl).mpr k))
        refine ⟨fun c23q => ?_, fun c23q => ?_⟩
        · have h := h.1 ((zt_eq rfl rfl).mp c23q)
          obtain ⟨o7q, h⟩ := h
          obtain ⟨i8q, h⟩ := h
          refine ⟨zt_in (show (((y3 + 4) : Int32)).toInt = ((y3.toInt + 4) : Int) from (zt_add rfl rfl o7q)) i8q, ?_⟩
          exact h_Q _ _ (Eq.mpr (congrArg (fun k => Qz k (aM v0)) (show (((M_now v0 (Int32.toNatClampNeg (y3 + 4))) : Int32)).toInt = ((Mz_now (aM v0) (Int.toNat (y3.toInt + 4))) : Int) from (congrArg (fun k => Mz_now (aM v0) k) (show (Int32.toNatClampNeg (y3 + 4)) = (Int.toNat (y3.toInt + 4)) from (congrArg Int.toNat (show (((y3 + 4) : Int32)).toInt = ((y3.toInt + 4) : Int) from (zt_add rfl rfl o7q))))))) h)
        · have h := h.2 (fun k => c23q ((zt_eq rfl rfl).mpr k))
          refine ⟨fun c22q => ?_, fun c22q => ?_⟩
          · have h := h.1 ((zt_eq rfl rfl).mp c22q)
            obtain ⟨o9q, h⟩ := h
            obtain ⟨i10q, h⟩ := h
            refine ⟨zt_in (show (((y3 + 5) : Int32)).toInt = ((y3.toInt + 5) : Int) from (zt_add rfl rfl o9q)) i10q, ?_⟩
            exact h_Q _ _ (Eq.mpr (congrArg (fun k => Qz k (aM v0)) (show (((M_now v0 (Int32.toNatClampNeg (y3 + 5))) : Int32)).toInt = ((Mz_now (aM v0) (Int.toNat (y3.toInt + 5))) : Int) from (congrArg (fun k => Mz_now (aM v0) k) (show (Int32.toNatClampNeg (y3 + 5)) = (Int.toNat (y3.toInt + 5)) from (congrArg Int.toNat (show (((y3 + 5) : Int32)).toInt = ((y3.toInt + 5) : Int) from (zt_add rfl rfl o9q))))))) h)
          · have h := h.2 (fun k => c22q ((zt_eq rfl rfl).mpr k))
            refine ⟨fun c21q => ?_, fun c21q => ?_⟩
            · have h := h.1 ((zt_eq rfl rfl).mp c21q)
              obtain ⟨i11q, h⟩ := h
              refine ⟨zt_in (show (401 : Int32).toInt = 401 from by decide) i11q, ?_⟩
              obtain ⟨o12q, h⟩ := h
              exact h_Q _ _ (Eq.mpr (congrArg (fun k => Qz k (aM v0)) (show ((((M_now v0 (Int32.toNatClampNeg 401)) - u0) : Int32)).toInt = (((Mz_now (aM v0) (Int.toNat 401)) - u0.toInt) : Int) from (zt_sub rfl rfl o12q))) h)
            · have h := h.2 (fun k => c21q ((zt_eq rfl rfl).mpr k))
              refine ⟨fun c20q => ?_, fun c20q => ?_⟩
              · have h := h.1 ((zt_eq rfl rfl).mp c20q)
                obtain ⟨i13q, h⟩ := h
                refine ⟨zt_in (show (401 : Int32).toInt = 401 from by decide) i13q, ?_⟩
                refine z_M_sizes rfl rfl rfl (fun r44_ h => ?_) h
                exact h_Q _ _ h
              · have h := h.2 (fun k => c20q ((zt_eq rfl rfl).mpr k))
                refine ⟨fun c19q => ?_, fun c19q => ?_⟩
                · have h := h.1 ((zt_eq rfl rfl).mp c19q)
                  obtain ⟨o14q, h⟩ := h
                  obtain ⟨i15q, h⟩ := h
                  refine ⟨zt_in (show (((y3 + 1) : Int32)).toInt = ((y3.toInt + 1) : Int) from (zt_add rfl rfl o14q)) i15q, ?_⟩
                  obtain ⟨o16q, h⟩ := h
                  exact h_Q _ _ (Eq.mpr (congrArg (fun k => Qz k (aM v0)) (show (((u0 - (M_now v0 (Int32.toNatClampNeg (y3 + 1)))) : Int32)).toInt = ((u0.toInt - (Mz_now (aM v0) (Int.toNat (y3.toInt + 1)))) : Int) from (zt_sub rfl (show (((M_now v0 (Int32.toNatClampNeg (y3 + 1))) : Int32)).toInt = ((Mz_now (aM v0) (Int.toNat (y3.toInt + 1))) : Int) from (congrArg (fun k => Mz_now (aM v0) k) (show (Int32.toNatClampNeg (y3 + 1)) = (Int.toNat (y3.toInt + 1)) from (congrArg Int.toNat (show (((y3 + 1) : Int32)).toInt = ((y3.toInt + 1) : Int) from (zt_add rfl rfl o14q)))))) o16q))) h)
                · have h := h.2 (fun k => c19q ((zt_eq rfl rfl).mpr k))
                  obtain ⟨o17q, h⟩ := h
                  obtain ⟨i18q, h⟩ := h
                  refine ⟨zt_in (show (((y3 + 6) : Int32)).toInt = ((y3.toInt + 6) : Int) from (zt_add rfl rfl o17q)) i18q, ?_⟩
                  exact h_Q _ _ (Eq.mpr (congrArg (fun k => Qz k (aM v0)) (show (((M_now v0 (Int32.toNatClampNeg (y3 + 6))) : Int32)).toInt = ((Mz_now (aM v0) (Int.toNat (y3.toInt + 6))) : Int) from (congrArg (fun k => Mz_now (aM v0) k) (show (Int32.toNatClampNeg (y3 + 6)) = (Int.toNat (y3.toInt + 6)) from (congrArg Int.toNat (show (((y3 + 6) : Int32)).toInt = ((y3.toInt + 6) : Int) from (zt_add rfl rfl o17q))))))) h)
def ZJ_M_readerOf_33 (x1 : Int) (x2 : Int) (y1 : Int) (y2 : Int) (u0 : Int) (v0 : MZ) (Q : (Int → MZ → Prop)) : Prop := (Z_M_refused u0 v0 (fun r11_ v15_ => ((r11_ = 0 → (Z_M_reader y1 (fun r20_ => (Z_M_hasGap y1 (Mz_now v15_) (fun r24_ => ((r24_ = 0 → zin (r20_ + 1) ∧ ((0 : Int) ≤ (r20_ + 1) ∧ ((r20_ + 1) : Int) < 621) ∧ ((ZJ_M_readerOf_76 x1 x2 y2 r20_ (Mz_now v15_ (Int.toNat (r20_ + 1))) v15_ Q))) ∧ (¬ r24_ = 0 → ((0 : Int) ≤ 400 ∧ (400 : Int) < 621) ∧ ((ZJ_M_readerOf_76 x1 x2 y2 r20_ (Mz_now v15_ (Int.toNat 400)) v15_ Q))))))))) ∧ (¬ r11_ = 0 → (Q 0 v15_)))))
set_option maxRecDepth 100000 in
theorem zJ_M_readerOf_33 {x1 : Int32} {x1z : Int} {x2 : Int32} {x2z : Int} {y1 : Int32} {y1z : Int} {y2 : Int32} {y2z : Int} {u0 : Int32} {u0z : Int} {v0 : MT} {v0z : MZ}  {Q : Int32 → MT → Prop} {Qz : (Int → MZ → Prop)} (e_x1 : x1.toInt = x1z) (e_x2 : x2.toInt = x2z) (e_y1 : y1.toInt = y1z) (e_y2 : y2.toInt = y2z) (e_u0 : u0.toInt = u0z) (e_v0 : (aM v0) = v0z) (h_Q : ∀ (a0 : Int32) (a1 : MT), Qz a0.toInt (aM a1) → Q a0 a1) (h : ZJ_M_readerOf_33 x1z x2z y1z y2z u0z v0z Qz) : PJ_M_readerOf_33 x1 x2 y1 y2 u0 v0 Q := by
  subst e_x1
  subst e_x2
  subst e_y1
  subst e_y2
  subst e_u0
  subst e_v0
  unfold ZJ_M_readerOf_33 at h
  unfold PJ_M_readerOf_33
  refine z_M_refused rfl rfl (fun r11_ v15_ h => ?_) h
  refine ⟨fun c5q => ?_, fun c5q => ?_⟩
  · have h := h.1 ((zt_eq rfl rfl).mp c5q)
    refine z_M_reader rfl (fun r20_ h => ?_) h
    refine z_M_hasGap rfl rfl (fun r24_ h => ?_) h
    refine ⟨fun c4q => ?_, fun c4q => ?_⟩
    · have h := h.1 ((zt_eq rfl rfl).mp c4q)
      obtain ⟨o1q, h⟩ := h
      obtain ⟨i2q, h⟩ := h
      refine ⟨zt_in (show (((r20_ + 1) : Int32)).toInt = ((r20_.toInt + 1) : Int) from (zt_add rfl rfl o1q)) i2q, ?_⟩
      refine zJ_M_readerOf_76 rfl rfl rfl rfl (show (((M_now v15_ (Int32.toNatClampNeg (r20_ + 1))) : Int32)).toInt = ((Mz_now (aM v15_) (Int.toNat (r20_.toInt + 1))) : Int) from (congrArg (fun k => Mz_now (aM v15_) k) (show (Int32.toNatClampNeg (r20_ + 1)) = (Int.toNat (r20_.toInt + 1)) from (congrArg Int.toNat (show (((r20_ + 1) : Int32)).toInt = ((r20_.toInt + 1) : Int) from (zt_add rfl rfl o1q)))))) rfl h_Q h
    · have h := h.2 (fun k => c4q ((zt_eq rfl rfl).mpr k))
      obtain ⟨i3q, h⟩ := h
      refine ⟨zt_in (show (400 : Int32).toInt = 400 from by decide) i3q, ?_⟩
      refine zJ_M_readerOf_76 rfl rfl rfl rfl rfl rfl h_Q h
  · have h := h.2 (fun k => c5q ((zt_eq rfl rfl).mpr k))
    exact h_Q _ _ h
def Z_M_readerOf (x1 : Int) (x2 : Int) (v0 : MZ) (Q : (Int → MZ → Prop)) : Prop := (Z_M_isReader x1 (Mz_now v0) (fun r1_ => ((¬ r1_ = 0 → (Z_M_in x2 0 8 (fun r6_ => ((¬ r6_ = 0 → (ZJ_M_readerOf_33 x1 x2 x1 x2 0 v0 Q)) ∧ (r6_ = 0 → (ZJ_M_readerOf_33 x1 x2 x1 x2 2 v0 Q)))))) ∧ (r1_ = 0 → (ZJ_M_readerOf_33 x1 x2 x1 x2 1 v0 Q)))))
set_option maxRecDepth 100000 in
theorem z_M_readerOf {x1 : Int32} {x1z : Int} {x2 : Int32} {x2z : Int} {v0 : MT} {v0z : MZ}  {Q : Int32 → MT → Prop} {Qz : (Int → MZ → Prop)} (e_x1 : x1.toInt = x1z) (e_x2 : x2.toInt = x2z) (e_v0 : (aM v0) = v0z) (h_Q : ∀ (a0 : Int32) (a1 : MT), Qz a0.toInt (aM a1) → Q a0 a1) (h : Z_M_readerOf x1z x2z v0z Qz) : P_M_readerOf x1 x2 v0 Q := by
  subst e_x1
  subst e_x2
  subst e_v0
  unfold Z_M_readerOf at h
  unfold P_M_readerOf
  refine z_M_isReader rfl rfl (fun r1_ h => ?_) h
  refine ⟨fun c2q => ?_, fun c2q => ?_⟩
  · have h := h.1 (fun k => c2q ((zt_eq rfl rfl).mpr k))
    refine z_M_in (show (Int32.toInt64 x2).toInt = (x2.toInt : Int) from (zt_i2l rfl)) rfl rfl (fun r6_ h => ?_) h
    refine ⟨fun c1q => ?_, fun c1q => ?_⟩
    · have h := h.1 (fun k => c1q ((zt_eq rfl rfl).mpr k))
      refine zJ_M_readerOf_33 rfl rfl rfl rfl rfl rfl h_Q h
    · have h := h.2 ((zt_eq rfl rfl).mp c1q)
      refine zJ_M_readerOf_33 rfl rfl rfl rfl rfl rfl h_Q h
  · have h := h.2 ((zt_eq rfl rfl).mp c2q)
    refine zJ_M_readerOf_33 rfl rfl rfl rfl rfl rfl h_Q h

def ZJ_M_table_28 (x1 : Int) (x2 : Int) (y1 : Int) (y2 : Int) (u0 : Int) (v0 : MZ) (Q : (Int → MZ → Prop)) : Prop := (Z_M_refused u0 v0 (fun r11_ v15_ => ((r11_ = 0 → (Z_M_reader y1 (fun r20_ => zin (r20_ + 7) ∧ zin ((r20_ + 7) + y2) ∧ ((0 : Int) ≤ ((r20_ + 7) + y2) ∧ (((r20_ + 7) + y2) : Int) < 621) ∧ ((Q (Mz_now v15_ (Int.toNat ((r20_ + 7) + y2))) v15_))))) ∧ (¬ r11_ = 0 → (Q 0 v15_)))))
set_option maxRecDepth 100000 in
theorem zJ_M_table_28 {x1 : Int32} {x1z : Int} {x2 : Int32} {x2z : Int} {y1 : Int32} {y1z : Int} {y2 : Int32} {y2z : Int} {u0 : Int32} {u0z : Int} {v0 : MT} {v0z : MZ}  {Q : Int32 → MT → Prop} {Qz : (Int → MZ → Prop)} (e_x1 : x1.toInt = x1z) (e_x2 : x2.toInt = x2z) (e_y1 : y1.toInt = y1z) (e_y2 : y2.toInt = y2z) (e_u0 : u0.toInt = u0z) (e_v0 : (aM v0) = v0z) (h_Q : ∀ (a0 : Int32) (a1 : MT), Qz a0.toInt (aM a1) → Q a0 a1) (h : ZJ_M_table_28 x1z x2z y1z y2z u0z v0z Qz) : PJ_M_table_28 x1 x2 y1 y2 u0 v0 Q := by
  subst e_x1
  subst e_x2
  subst e_y1
  subst e_y2
  subst e_u0
  subst e_v0
  unfold ZJ_M_table_28 at h
  unfold PJ_M_table_28
  refine z_M_refused rfl rfl (fun r11_ v15_ h => ?_) h
  refine ⟨fun c4q => ?_, fun c4q => ?_⟩
  · have h := h.1 ((zt_eq rfl rfl).mp c4q)
    refine z_M_reader rfl (fun r20_ h => ?_) h
    obtain ⟨o1q, h⟩ := h
    obtain ⟨o2q, h⟩ := h
    obtain ⟨i3q, h⟩ := h
    refine ⟨zt_in (show ((((r20_ + 7) + y2) : Int32)).toInt = (((r20_.toInt + 7) + y2.toInt) : Int) from (zt_add (show (((r20_ + 7) : Int32)).toInt = ((r20_.toInt + 7) : Int) from (zt_add rfl rfl o1q)) rfl o2q)) i3q, ?_⟩
    exact h_Q _ _ (Eq.mpr (congrArg (fun k => Qz k (aM v15_)) (show (((M_now v15_ (Int32.toNatClampNeg ((r20_ + 7) + y2))) : Int32)).toInt = ((Mz_now (aM v15_) (Int.toNat ((r20_.toInt + 7) + y2.toInt))) : Int) from (congrArg (fun k => Mz_now (aM v15_) k) (show (Int32.toNatClampNeg ((r20_ + 7) + y2)) = (Int.toNat ((r20_.toInt + 7) + y2.toInt)) from (congrArg Int.toNat (show ((((r20_ + 7) + y2) : Int32)).toInt = (((r20_.toInt + 7) + y2.toInt) : Int) from (zt_add (show (((r20_ + 7) : Int32)).toInt = ((r20_.toInt + 7) : Int) from (zt_add rfl rfl o1q)) rfl o2q))))))) h)
  · have h := h.2 (fun k => c4q ((zt_eq rfl rfl).mpr k))
    exact h_Q _ _ h
def Z_M_table (x1 : Int) (x2 : Int) (v0 : MZ) (Q : (Int → MZ → Prop)) : Prop := (Z_M_isReader x1 (Mz_now v0) (fun r1_ => ((¬ r1_ = 0 → (Z_M_isKey x2 (fun r6_ => ((¬ r6_ = 0 → (ZJ_M_table_28 x1 x2 x1 x2 0 v0 Q)) ∧ (r6_ = 0 → (ZJ_M_table_28 x1 x2 x1 x2 2 v0 Q)))))) ∧ (r1_ = 0 → (ZJ_M_table_28 x1 x2 x1 x2 1 v0 Q)))))
set_option maxRecDepth 100000 in
theorem z_M_table {x1 : Int32} {x1z : Int} {x2 : Int32} {x2z : Int} {v0 : MT} {v0z : MZ}  {Q : Int32 → MT → Prop} {Qz : (Int → MZ → Prop)} (e_x1 : x1.toInt = x1z) (e_x2 : x2.toInt = x2z) (e_v0 : (aM v0) = v0z) (h_Q : ∀ (a0 : Int32) (a1 : MT), Qz a0.toInt (aM a1) → Q a0 a1) (h : Z_M_table x1z x2z v0z Qz) : P_M_table x1 x2 v0 Q := by
  subst e_x1
  subst e_x2
  subst e_v0
  unfold Z_M_table at h
  unfold P_M_table
  refine z_M_isReader rfl rfl (fun r1_ h => ?_) h
  refine ⟨fun c2q => ?_, fun c2q => ?_⟩
  · have h := h.1 (fun k => c2q ((zt_eq rfl rfl).mpr k))
    refine z_M_isKey rfl (fun r6_ h => ?_) h
    refine ⟨fun c1q => ?_, fun c1q => ?_⟩
    · have h := h.1 (fun k => c1q ((zt_eq rfl rfl).mpr k))
      refine zJ_M_table_28 rfl rfl rfl rfl rfl rfl h_Q h
    · have h := h.2 ((zt_eq rfl rfl).mp c1q)
      refine zJ_M_table_28 rfl rfl rfl rfl rfl rfl h_Q h
  · have h := h.2 ((zt_eq rfl rfl).mp c2q)
    refine zJ_M_table_28 rfl rfl rfl rfl rfl rfl h_Q h

def ZJ_M_base_13 (x1 : Int) (y1 : Int) (u0 : Int) (v0 : MZ) (Q : (Int → MZ → Prop)) : Prop := (Z_M_refused u0 v0 (fun r6_ v10_ => ((r6_ = 0 → zin (402 + y1) ∧ ((0 : Int) ≤ (402 + y1) ∧ ((402 + y1) : Int) < 621) ∧ ((Q (Mz_now v10_ (Int.toNat (402 + y1))) v10_))) ∧ (¬ r6_ = 0 → (Q 0 v10_)))))
set_option maxRecDepth 100000 in
theorem zJ_M_base_13 {x1 : Int32} {x1z : Int} {y1 : Int32} {y1z : Int} {u0 : Int32} {u0z : Int} {v0 : MT} {v0z : MZ}  {Q : Int32 → MT → Prop} {Qz : (Int → MZ → Prop)} (e_x1 : x1.toInt = x1z) (e_y1 : y1.toInt = y1z) (e_u0 : u0.toInt = u0z) (e_v0 : (aM v0) = v0z) (h_Q : ∀ (a0 : Int32) (a1 : MT), Qz a0.toInt (aM a1) → Q a0 a1) (h : ZJ_M_base_13 x1z y1z u0z v0z Qz) : PJ_M_base_13 x1 y1 u0 v0 Q := by
  subst e_x1
  subst e_y1
  subst e_u0
  subst e_v0
  unfold ZJ_M_base_13 at h
  unfold PJ_M_base_13
  refine z_M_refused rfl rfl (fun r6_ v10_ h => ?_) h
  refine ⟨fun c3q => ?_, fun c3q => ?_⟩
  · have h := h.1 ((zt_eq rfl rfl).mp c3q)
    obtain ⟨o1q, h⟩ := h
    obtain ⟨i2q, h⟩ := h
    refine ⟨zt_in (show (((402 + y1) : Int32)).toInt = ((402 + y1.toInt) : Int) from (zt_add rfl rfl o1q)) i2q, ?_⟩
    exact h_Q _ _ (Eq.mpr (congrArg (fun k => Qz k (aM v10_)) (show (((M_now v10_ (Int32.toNatClampNeg (402 + y1))) : Int32)).toInt = ((Mz_now (aM v10_) (Int.toNat (402 + y1.toInt))) : Int) from (congrArg (fun k => Mz_now (aM v10_) k) (show (Int32.toNatClampNeg (402 + y1)) = (Int.toNat (402 + y1.toInt)) from (congrArg Int.toNat (show (((402 + y1) : Int32)).toInt = ((402 + y1.toInt) : Int) from (zt_add rfl rfl o1q))))))) h)
  · have h := h.2 (fun k => c3q ((zt_eq rfl rfl).mpr k))
    exact h_Q _ _ h
def Z_M_base (x1 : Int) (v0 : MZ) (Q : (Int → MZ → Prop)) : Prop := (Z_M_isKey x1 (fun r1_ => ((r1_ = 0 → (ZJ_M_base_13 x1 x1 1 v0 Q)) ∧ (¬ r1_ = 0 → (ZJ_M_base_13 x1 x1 0 v0 Q)))))
set_option maxRecDepth 100000 in
theorem z_M_base {x1 : Int32} {x1z : Int} {v0 : MT} {v0z : MZ}  {Q : Int32 → MT → Prop} {Qz : (Int → MZ → Prop)} (e_x1 : x1.toInt = x1z) (e_v0 : (aM v0) = v0z) (h_Q : ∀ (a0 : Int32) (a1 : MT), Qz a0.toInt (aM a1) → Q a0 a1) (h : Z_M_base x1z v0z Qz) : P_M_base x1 v0 Q := by
  subst e_x1
  subst e_v0
  unfold Z_M_base at h
  unfold P_M_base
  refine z_M_isKey rfl (fun r1_ h => ?_) h
  refine ⟨fun c1q => ?_, fun c1q => ?_⟩
  · have h := h.1 ((zt_eq rfl rfl).mp c1q)
    refine zJ_M_base_13 rfl rfl rfl rfl h_Q h
  · have h := h.2 (fun k => c1q ((zt_eq rfl rfl).mpr k))
    refine zJ_M_base_13 rfl rfl rfl rfl h_Q h
