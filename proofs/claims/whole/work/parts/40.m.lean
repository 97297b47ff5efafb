theorem dX6_base_0 : decode cX6_base 0 = .ok (.aload_n 0, 1) := by decide +kernel
theorem dX6_base_1 : decode cX6_base 1 = .ok (.iload_n 1, 1) := by decide +kernel
theorem dX6_base_2 : decode cX6_base 2 = .ok (.invokestatic 48, 3) := by decide +kernel
theorem dX6_base_5 : decode cX6_base 5 = .ok (.ifCond .eq 7, 3) := by decide +kernel
theorem dX6_base_8 : decode cX6_base 8 = .ok (.iconst 0, 1) := by decide +kernel
theorem dX6_base_9 : decode cX6_base 9 = .ok (.goto 4, 3) := by decide +kernel
theorem dX6_base_12 : decode cX6_base 12 = .ok (.iconst 1, 1) := by decide +kernel
theorem dX6_base_13 : decode cX6_base 13 = .ok (.invokevirtual 136, 3) := by decide +kernel
theorem dX6_base_16 : decode cX6_base 16 = .ok (.ifCond .eq 5, 3) := by decide +kernel
theorem dX6_base_19 : decode cX6_base 19 = .ok (.iconst 0, 1) := by decide +kernel
theorem dX6_base_20 : decode cX6_base 20 = .ok (.ireturn, 1) := by decide +kernel
theorem dX6_base_21 : decode cX6_base 21 = .ok (.aload_n 0, 1) := by decide +kernel
theorem dX6_base_22 : decode cX6_base 22 = .ok (.getfield 7, 3) := by decide +kernel
theorem dX6_base_25 : decode cX6_base 25 = .ok (.sipush 402, 3) := by decide +kernel
theorem dX6_base_28 : decode cX6_base 28 = .ok (.iload_n 1, 1) := by decide +kernel
theorem dX6_base_29 : decode cX6_base 29 = .ok (.iadd, 1) := by decide +kernel
theorem dX6_base_30 : decode cX6_base 30 = .ok (.iaload, 1) := by decide +kernel
theorem dX6_base_31 : decode cX6_base 31 = .ok (.ireturn, 1) := by decide +kernel
def PJ_M_base_13 (x1 : Int32) (y1 : Int32) (u0 : Int32) (v0 : MT) (Q : Int32 → MT → Prop) : Prop := P_M_refused u0 v0 (fun r6_ v10_ => (((r6_ = 0 → vp_in (402 + y1) 621 ∧ (Q ((M_now v10_) (Int32.toNatClampNeg (402 + y1))) v10_)) ∧ (¬ r6_ = 0 → Q 0 v10_))))
def P_M_base (x1 : Int32) (v0 : MT) (Q : Int32 → MT → Prop) : Prop := P_M_isKey x1 (fun r1_ => (((r1_ = 0 → PJ_M_base_13 x1 x1 1 v0 Q) ∧ (¬ r1_ = 0 → PJ_M_base_13 x1 x1 0 v0 Q))))
set_option maxRecDepth 100000 in
theorem s_M_base {l : Launch} {D : zD} {B : Nat} {sa : Nat → Nat} (hfl : l.stackTraces = false) {z : Nat} {G : zG} {b0 : Nat} {x1 : Int32} {v0 : MT} {Q : Int32 → MT → Prop} (h0 : MA b0 v0 G) (h : P_M_base x1 v0 Q) : zSp l D B sa yX6_base cX6_base 2 (some .int) 2 45 0 0 [.ref b0, .int x1] z G (zRi fun r z' G' => z = z' ∧ ∃ w, MA b0 w G' ∧ Fr b0 8 G G' ∧ Q r w) := by
  unfold P_M_base at h
  refine z_ofW (by decide +kernel) hfl [some (.ref b0), some (.int x1)] rfl (Nat.le_of_ble_eq_true rfl) (fun p e s m args below meth c O hret hlk hnm => ?_)
  have O : zO p l s m args c D B sa 2 cX6_base RX6 := O
  have HJ13 : ∀ (y1 : Int32) (u0 : Int32) (v0 : MT) (G9 : zG) (g0 : MA b0 v0 G9) (gF : Fr b0 8 G G9), PJ_M_base_13 x1 y1 u0 v0 Q → zT p l e (zrm 2 45 0 0) s m args below meth c (zEnd below D B (zRi fun r z' G' => z = z' ∧ ∃ w, MA b0 w G' ∧ Fr b0 8 G G' ∧ Q r w) args s 0 0) D B 2 0 0 13 [.int u0, .ref b0] [some (.ref b0), some (.int y1)] z G9 := by
    intro y1 u0 v0 G9 g0 gF h
    unfold PJ_M_base_13 at h
    refine z_callVi (As := [.int u0]) (st := []) O (s_M_refused hfl g0 h) wy_X6_refused wl_RX6_136 dX6_base_13 rfl rfl (M_obj g0) ⟨by decide, rfl⟩ ⟨Nat.le_of_ble_eq_true rfl, Nat.le_of_ble_eq_true rfl⟩ (Nat.le_of_ble_eq_true rfl) ⟨Nat.le_of_ble_eq_true rfl, Nat.le_of_ble_eq_true rfl⟩ (fun r6_ z7_ G8_ hq9_ => ?_)
    obtain ⟨rfl, v10_, k11_, f12_, h⟩ := hq9_
    have F13_ : Fr b0 8 G G8_ := Fr.trans gF f12_
    refine z_if_eq (tgt := 21) O dX6_base_16 (by decide) (fun c14_ => ?_) (fun c14_ => ?_)
    · have h := h.1 c14_
      refine z_aload_n O dX6_base_21 rfl rfl ?_
      refine z_get (v := .ref (b0 + 1)) O wf_RX6_7 dX6_base_22 (M_obj k11_) rfl ?_
      refine z_sipush (v := 402) O dX6_base_25 (by decide) ?_
      refine z_iload_n O dX6_base_28 rfl rfl ?_
      refine z_iadd O dX6_base_29 ?_
      obtain ⟨q15_, h⟩ := h
      refine z_iald O dX6_base_30 (M_now_of k11_) q15_ ?_
      exact z_iret O hret hlk dX6_base_31 (Nat.le_of_ble_eq_true rfl) (Nat.le_of_ble_eq_true rfl) ⟨_, rfl, rfl, _, k11_, F13_, h⟩
    · have h := h.2 c14_
      refine z_iconst (v := 0) O dX6_base_19 (by decide) ?_
      exact z_iret O hret hlk dX6_base_20 (Nat.le_of_ble_eq_true rfl) (Nat.le_of_ble_eq_true rfl) ⟨_, rfl, rfl, _, k11_, F13_, h⟩
  refine z_aload_n O dX6_base_0 rfl rfl ?_
  refine z_iload_n O dX6_base_1 rfl rfl ?_
  refine z_callSi (As := [.int x1]) (st := [.ref b0]) O (s_M_isKey hfl h) wy_X6_isKey wl_RX6_48 dX6_base_2 rfl rfl ⟨Nat.le_of_ble_eq_true rfl, Nat.le_of_ble_eq_true rfl⟩ (Nat.le_of_ble_eq_true rfl) ⟨Nat.le_of_ble_eq_true rfl, Nat.le_of_ble_eq_true rfl⟩ (fun r1_ z2_ G3_ hq4_ => ?_)
  obtain ⟨rfl, rfl, h⟩ := hq4_
  refine z_if_eq (tgt := 12) O dX6_base_5 (by decide) (fun c5_ => ?_) (fun c5_ => ?_)
  · have h := h.1 c5_
    refine z_iconst (v := 1) O dX6_base_12 (by decide) ?_
    exact z_subL (L' := [some (.ref b0), some (.int x1)]) (zLe.sub (And.intro rfl (And.intro rfl True.intro))) (HJ13 x1 1 v0 G h0 Fr.rf h)
  · have h := h.2 c5_
    refine z_iconst (v := 0) O dX6_base_8 (by decide) ?_
    refine z_goto (tgt := 13) O dX6_base_9 (by decide) ?_
    exact z_subL (L' := [some (.ref b0), some (.int x1)]) (zLe.sub (And.intro rfl (And.intro rfl True.intro))) (HJ13 x1 0 v0 G h0 Fr.rf h)

theorem dX6_setting_0 : decode cX6_setting 0 = .ok (.aload_n 0, 1) := by decide +kernel
theorem dX6_setting_1 : decode cX6_setting 1 = .ok (.iload_n 1, 1) := by decide +kernel
theorem dX6_setting_2 : decode cX6_setting 2 = .ok (.i2l, 1) := by decide +kernel
theorem dX6_setting_3 : decode cX6_setting 3 = .ok (.lconst 0, 1) := by decide +kernel
theorem dX6_setting_4 : decode cX6_setting 4 = .ok (.ldc2_w 245, 3) := by decide +kernel
theorem dX6_setting_7 : decode cX6_setting 7 = .ok (.invokestatic 44, 3) := by decide +kernel
theorem dX6_setting_10 : decode cX6_setting 10 = .ok (.ifCond .eq 7, 3) := by decide +kernel
theorem dX6_setting_13 : decode cX6_setting 13 = .ok (.iconst 0, 1) := by decide +kernel
theorem dX6_setting_14 : decode cX6_setting 14 = .ok (.goto 4, 3) := by decide +kernel
theorem dX6_setting_17 : decode cX6_setting 17 = .ok (.iconst 1, 1) := by decide +kernel
theorem dX6_setting_18 : decode cX6_setting 18 = .ok (.invokevirtual 136, 3) := by decide +kernel
theorem dX6_setting_21 : decode cX6_setting 21 = .ok (.ifCond .eq 5, 3) := by decide +kernel
theorem dX6_setting_24 : decode cX6_setting 24 = .ok (.iconst 0, 1) := by decide +kernel
theorem dX6_setting_25 : decode cX6_setting 25 = .ok (.ireturn, 1) := by decide +kernel
theorem dX6_setting_26 : decode cX6_setting 26 = .ok (.aload_n 0, 1) := by decide +kernel
theorem dX6_setting_27 : decode cX6_setting 27 = .ok (.getfield 7, 3) := by decide +kernel
theorem dX6_setting_30 : decode cX6_setting 30 = .ok (.sipush 610, 3) := by decide +kernel
theorem dX6_setting_33 : decode cX6_setting 33 = .ok (.iload_n 1, 1) := by decide +kernel
theorem dX6_setting_34 : decode cX6_setting 34 = .ok (.iadd, 1) := by decide +kernel
theorem dX6_setting_35 : decode cX6_setting 35 = .ok (.iaload, 1) := by decide +kernel
theorem dX6_setting_36 : decode cX6_setting 36 = .ok (.ireturn, 1) := by decide +kernel
def PJ_M_setting_18 (x1 : Int32) (y1 : Int32) (u0 : Int32) (v0 : MT) (Q : Int32 → MT → Prop) : Prop := P_M_refused u0 v0 (fun r6_ v10_ => (((r6_ = 0 → vp_in (610 + y1) 621 ∧ (Q ((M_now v10_) (Int32.toNatClampNeg (610 + y1))) v10_)) ∧ (¬ r6_ = 0 → Q 0 v10_))))
def P_M_setting (x1 : Int32) (v0 : MT) (Q : Int32 → MT → Prop) : Prop := P_M_in (Int32.toInt64 x1) 0 5 (fun r1_ => (((r1_ = 0 → PJ_M_setting_18 x1 x1 1 v0 Q) ∧ (¬ r1_ = 0 → PJ_M_setting_18 x1 x1 0 v0 Q))))
set_option maxRecDepth 100000 in
theorem s_M_setting {l : Launch} {D : zD} {B : Nat} {sa : Nat → Nat} (hfl : l.stackTraces = false) {z : Nat} {G : zG} {b0 : Nat} {x1 : Int32} {v0 : MT} {Q : Int32 → MT → Prop} (h0 : MA b0 v0 G) (h : P_M_setting x1 v0 Q) : zSp l D B sa yX6_setting cX6_setting 2 (some .int) 1 25 0 0 [.ref b0, .int x1] z G (zRi fun r z' G' => z = z' ∧ ∃ w, MA b0 w G' ∧ Fr b0 8 G G' ∧ Q r w) := by
  unfold P_M_setting at h
  refine z_ofW (by decide +kernel) hfl [some (.ref b0), some (.int x1)] rfl (Nat.le_of_ble_eq_true rfl) (fun p e s m args below meth c O hret hlk hnm => ?_)
  have O : zO p l s m args c D B sa 2 cX6_setting RX6 := O
  have HJ18 : ∀ (y1 : Int32) (u0 : Int32) (v0 : MT) (G9 : zG) (g0 : MA b0 v0 G9) (gF : Fr b0 8 G G9), PJ_M_setting_18 x1 y1 u0 v0 Q → zT p l e (zrm 1 25 0 0) s m args below meth c (zEnd below D B (zRi fun r z' G' => z = z' ∧ ∃ w, MA b0 w G' ∧ Fr b0 8 G G' ∧ Q r w) args s 0 0) D B 2 0 0 18 [.int u0, .ref b0] [some (.ref b0), some (.int y1)] z G9 := by
    intro y1 u0 v0 G9 g0 gF h
    unfold PJ_M_setting_18 at h
    refine z_callVi (As := [.int u0]) (st := []) O (s_M_refused hfl g0 h) wy_X6_refused wl_RX6_136 dX6_setting_18 rfl rfl (M_obj g0) ⟨by decide, rfl⟩ ⟨Nat.le_of_ble_eq_true rfl, Nat.le_of_ble_eq_true rfl⟩ (Nat.le_of_ble_eq_true rfl) ⟨Nat.le_of_ble_eq_true rfl, Nat.le_of_ble_eq_true rfl⟩ (fun r6_ z7_ G8_ hq9_ => ?_)
    obtain ⟨rfl, v10_, k11_, f12_, h⟩ := hq9_
    have F13_ : Fr b0 8 G G8_ := Fr.trans gF f12_
    refine z_if_eq (tgt := 26) O dX6_setting_21 (by decide) (fun c14_ => ?_) (fun c14_ => ?_)
    · have h := h.1 c14_
      refine z_aload_n O dX6_setting_26 rfl rfl ?_
      refine z_get (v := .ref (b0 + 1)) O wf_RX6_7 dX6_setting_27 (M_obj k11_) rfl ?_
      refine z_sipush (v := 610) O dX6_setting_30 (by decide) ?_
      refine z_iload_n O dX6_setting_33 rfl rfl ?_
      refine z_iadd O dX6_setting_34 ?_
      obtain ⟨q15_, h⟩ := h
      refine z_iald O dX6_setting_35 (M_now_of k11_) q15_ ?_
      exact z_iret O hret hlk dX6_setting_36 (Nat.le_of_ble_eq_true rfl) (Nat.le_of_ble_eq_true rfl) ⟨_, rfl, rfl, _, k11_, F13_, h⟩
    · have h := h.2 c14_
      refine z_iconst (v := 0) O dX6_setting_24 (by decide) ?_
      exact z_iret O hret hlk dX6_setting_25 (Nat.le_of_ble_eq_true rfl) (Nat.le_of_ble_eq_true rfl) ⟨_, rfl, rfl, _, k11_, F13_, h⟩
  refine z_aload_n O dX6_setting_0 rfl rfl ?_
  refine z_iload_n O dX6_setting_1 rfl rfl ?_
  refine z_i2l O dX6_setting_2 ?_
  refine z_lconst (v := 0) O dX6_setting_3 (by decide) ?_
  refine z_ldc2 (v := 5) O wc_RX6_245 dX6_setting_4 ?_
  refine z_callSi (As := [.long (Int32.toInt64 x1), .long 0, .long 5]) (st := [.ref b0]) O (s_M_in hfl h) wy_X6_in wl_RX6_44 dX6_setting_7 rfl rfl ⟨Nat.le_of_ble_eq_true rfl, Nat.le_of_ble_eq_true rfl⟩ (Nat.le_of_ble_eq_true rfl) ⟨Nat.le_of_ble_eq_true rfl, Nat.le_of_ble_eq_true rfl⟩ (fun r1_ z2_ G3_ hq4_ => ?_)
  obtain ⟨rfl, rfl, h⟩ := hq4_
  refine z_if_eq (tgt := 17) O dX6_setting_10 (by decide) (fun c5_ => ?_) (fun c5_ => ?_)
  · have h := h.1 c5_
    refine z_iconst (v := 1) O dX6_setting_17 (by decide) ?_
    exact z_subL (L' := [some (.ref b0), some (.int x1)]) (zLe.sub (And.intro rfl (And.intro rfl True.intro))) (HJ18 x1 1 v0 G h0 Fr.rf h)
  · have h := h.2 c5_
    refine z_iconst (v := 0) O dX6_setting_13 (by decide) ?_
    refine z_goto (tgt := 18) O dX6_setting_14 (by decide) ?_
    exact z_subL (L' := [some (.ref b0), some (.int x1)]) (zLe.sub (And.intro rfl (And.intro rfl True.intro))) (HJ18 x1 0 v0 G h0 Fr.rf h)

theorem dX6_write_0 : decode cX6_write 0 = .ok (.aload_n 0, 1) := by decide +kernel
theorem dX6_write_1 : decode cX6_write 1 = .ok (.iload_n 1, 1) := by decide +kernel
theorem dX6_write_2 : decode cX6_write 2 = .ok (.iload_n 2, 1) := by decide +kernel
theorem dX6_write_3 : decode cX6_write 3 = .ok (.iload_n 3, 1) := by decide +kernel
theorem dX6_write_4 : decode cX6_write 4 = .ok (.invokestatic 250, 3) := by decide +kernel
theorem dX6_write_7 : decode cX6_write 7 = .ok (.ifCond .ne 7, 3) := by decide +kernel
theorem dX6_write_10 : decode cX6_write 10 = .ok (.iconst 1, 1) := by decide +kernel
theorem dX6_write_11 : decode cX6_write 11 = .ok (.goto 22, 3) := by decide +kernel
theorem dX6_write_14 : decode cX6_write 14 = .ok (.aload_n 0, 1) := by decide +kernel
theorem dX6_write_15 : decode cX6_write 15 = .ok (.getfield 7, 3) := by decide +kernel
theorem dX6_write_18 : decode cX6_write 18 = .ok (.sipush 401, 3) := by decide +kernel
theorem dX6_write_21 : decode cX6_write 21 = .ok (.iaload, 1) := by decide +kernel
theorem dX6_write_22 : decode cX6_write 22 = .ok (.sipush 200, 3) := by decide +kernel
theorem dX6_write_25 : decode cX6_write 25 = .ok (.if_icmp .ne 7, 3) := by decide +kernel
theorem dX6_write_28 : decode cX6_write 28 = .ok (.iconst 2, 1) := by decide +kernel
theorem dX6_write_29 : decode cX6_write 29 = .ok (.goto 4, 3) := by decide +kernel
theorem dX6_write_32 : decode cX6_write 32 = .ok (.iconst 0, 1) := by decide +kernel
theorem dX6_write_33 : decode cX6_write 33 = .ok (.invokevirtual 136, 3) := by decide +kernel
theorem dX6_write_36 : decode cX6_write 36 = .ok (.ifCond .eq 5, 3) := by decide +kernel
theorem dX6_write_39 : decode cX6_write 39 = .ok (.iconst 0, 1) := by decide +kernel
theorem dX6_write_40 : decode cX6_write 40 = .ok (.ireturn, 1) := by decide +kernel
theorem dX6_write_41 : decode cX6_write 41 = .ok (.aload_n 0, 1) := by decide +kernel
theorem dX6_write_42 : decode cX6_write 42 = .ok (.invokevirtual 254, 3) := by decide +kernel
theorem dX6_write_45 : decode cX6_write 45 = .ok (.aload_n 0, 1) := by decide +kernel
theorem dX6_write_46 : decode cX6_write 46 = .ok (.getfield 7, 3) := by decide +kernel
theorem dX6_write_49 : decode cX6_write 49 = .ok (.iload_n 1, 1) := by decide +kernel
theorem dX6_write_50 : decode cX6_write 50 = .ok (.iload_n 2, 1) := by decide +kernel
theorem dX6_write_51 : decode cX6_write 51 = .ok (.iload_n 3, 1) := by decide +kernel
theorem dX6_write_52 : decode cX6_write 52 = .ok (.invokestatic 168, 3) := by decide +kernel
theorem dX6_write_55 : decode cX6_write 55 = .ok (.ireturn, 1) := by decide +kernel
def PJ_M_write_33 (x1 : Int32) (x2 : Int32) (x3 : Int32) (y1 : Int32) (y2 : Int32) (y3 : Int32) (u0 : Int32) (v0 : MT) (Q : Int32 → MT → Prop) : Prop := P_M_refused u0 v0 (fun r8_ v12_ => (((r8_ = 0 → P_M_remember v12_ (fun v21_ => (P_M_goWrite y1 y2 y3 (M_now v21_) (fun r25_ v29_ => (∀ v34_, v34_ = (M_set_now v21_ v29_) → (Q r25_ v34_)))))) ∧ (¬ r8_ = 0 → Q 0 v12_))))
def P_M_write (x1 : Int32) (x2 : Int32) (x3 : Int32) (v0 : MT) (Q : Int32 → MT → Prop) : Prop := P_M_isRow x1 x2 x3 (fun r1_ => (((¬ r1_ = 0 → vp_in 401 621 ∧ (((¬ ((M_now v0) (Int32.toNatClampNeg 401)) = 200 → PJ_M_write_33 x1 x2 x3 x1 x2 x3 0 v0 Q) ∧ (((M_now v0) (Int32.toNatClampNeg 401)) = 200 → PJ_M_write_33 x1 x2 x3 x1 x2 x3 2 v0 Q)))) ∧ (r1_ = 0 → PJ_M_write_33 x1 x2 x3 x1 x2 x3 1 v0 Q))))
set_option maxRecDepth 100000 in
theorem s_M_write {l : Launch} {D : zD} {B : Nat} {sa : Nat → Nat} (hfl : l.stackTraces = false) {z : Nat} {G : zG} {b0 : Nat} {x1 : Int32} {x2 : Int32} {x3 : Int32} {v0 : MT} {Q : Int32 → MT → Prop} (h0 : MA b0 v0 G) (h : P_M_write x1 x2 x3 v0 Q) : zSp l D B sa yX6_write cX6_write 4 (some .int) 3 71 0 0 [.ref b0, .int x1, .int x2, .int x3] z G (zRi fun r z' G' => z = z' ∧ ∃ w, MA b0 w G' ∧ Fr b0 8 G G' ∧ Q r w) := by
  unfold P_M_write at h
  refine z_ofW (by decide +kernel) hfl [some (.ref b0), some (.int x1), some (.int x2), some (.int x3)] rfl (Nat.le_of_ble_eq_true rfl) (fun p e s m args below meth c O hret hlk hnm => ?_)
  have O : zO p l s m args c D B sa 4 cX6_write RX6 := O
  have HJ33 : ∀ (y1 : Int32) (y2 : Int32) (y3 : Int32) (u0 : Int32) (v0 : MT) (G9 : zG) (g0 : MA b0 v0 G9) (gF : Fr b0 8 G G9), PJ_M_write_33 x1 x2 x3 y1 y2 y3 u0 v0 Q → zT p l e (zrm 3 71 0 0) s m args below meth c (zEnd below D B (zRi fun r z' G' => z = z' ∧ ∃ w, MA b0 w G' ∧ Fr b0 8 G G' ∧ Q r w) args s 0 0) D B 4 0 0 33 [.int u0, .ref b0] [some (.ref b0), some (.int y1), some (.int y2), some (.int y3)] z G9 := by
    intro y1 y2 y3 u0 v0 G9 g0 gF h
    unfold PJ_M_write_33 at h
    refine z_callVi (As := [.int u0]) (st := []) O (s_M_refused hfl g0 h) wy_X6_refused wl_RX6_136 dX6_write_33 rfl rfl (M_obj g0) ⟨by decide, rfl⟩ ⟨Nat.le_of_ble_eq_true rfl, Nat.le_of_ble_eq_true rfl⟩ (Nat.le_of_ble_eq_true rfl) ⟨Nat.le_of_ble_eq_true rfl, Nat.le_of_ble_eq_true rfl⟩ (fun r8_ z9_ G10_ hq11_ => ?_)
    obtain ⟨rfl, v12_, k13_, f14_, h⟩ := hq11_
    have F15_ : Fr b0 8 G G10_ := Fr.trans gF f14_
    refine z_if_eq (tgt := 41) O dX6_write_36 (by decide) (fun c16_ => ?_) (fun c16_ => ?_)
    · have h := h.1 c16_
      refine z_aload_n O dX6_write_41 rfl rfl ?_
      refine z_callVv (As := []) (st := []) O (s_M_remember hfl k13_ h) wy_X6_remember wl_RX6_254 dX6_write_42 rfl rfl (M_obj k13_) ⟨by decide, rfl⟩ ⟨Nat.le_of_ble_eq_true rfl, Nat.le_of_ble_eq_true rfl⟩ (Nat.le_of_ble_eq_true rfl) ⟨Nat.le_of_ble_eq_true rfl, Nat.le_of_ble_eq_true rfl⟩ (fun z18_ G19_ hq20_ => ?_)
      obtain ⟨rfl, v21_, k22_, f23_, h⟩ := hq20_
      have F24_ : Fr b0 8 G G19_ := Fr.trans F15_ f23_
      refine z_aload_n O dX6_write_45 rfl rfl ?_
      refine z_get (v := .ref (b0 + 1)) O wf_RX6_7 dX6_write_46 (M_obj k22_) rfl ?_
      refine z_iload_n O dX6_write_49 rfl rfl ?_
      refine z_iload_n O dX6_write_50 rfl rfl ?_
      refine z_iload_n O dX6_write_51 rfl rfl ?_
      refine z_callSi (As := [.ref (b0 + 1), .int y1, .int y2, .int y3]) (st := []) O (s_M_goWrite hfl (M_now_of k22_) h) wy_X6_goWrite wl_RX6_168 dX6_write_52 rfl rfl ⟨Nat.le_of_ble_eq_true rfl, Nat.le_of_ble_eq_true rfl⟩ (Nat.le_of_ble_eq_true rfl) ⟨Nat.le_of_ble_eq_true rfl, Nat.le_of_ble_eq_true rfl⟩ (fun r25_ z26_ G27_ hq28_ => ?_)
      obtain ⟨rfl, v29_, k30_, f31_, h⟩ := hq28_
      have k32_ := M_put_now k22_ k30_ f31_
      have f33_ : Fr b0 8 G19_ G27_ := Fr.mono f31_ (by omega) (by omega)
      obtain ⟨v34_, ev34_⟩ : ∃ w, w = (M_set_now v21_ v29_) := ⟨_, rfl⟩
      have h := h v34_ ev34_
      have k35_ : MA b0 v34_ G27_ := by rw [ev34_]; exact k32_
      have F36_ : Fr b0 8 G G27_ := Fr.trans F24_ f33_
      exact z_iret O hret hlk dX6_write_55 (Nat.le_of_ble_eq_true rfl) (Nat.le_of_ble_eq_true rfl) ⟨_, rfl, rfl, _, k35_, F36_, h⟩
    · have h := h.2 c16_
      refine z_iconst (v := 0) O dX6_write_39 (by decide) ?_
      exact z_iret O hret hlk dX6_write_40 (Nat.le_of_ble_eq_true rfl) (Nat.le_of_ble_eq_true rfl) ⟨_, rfl, rfl, _, k13_, F15_, h⟩
  refine z_aload_n O dX6_write_0 rfl rfl ?_
  refine z_iload_n O dX6_write_1 rfl rfl ?_
  refine z_iload_n O dX6_write_2 rfl rfl ?_
  refine z_iload_n O dX6_write_3 rfl rfl ?_
  refine z_callSi (As := [.int x1, .int x2, .int x3]) (st := [.ref b0]) O (s_M_isRow hfl h) wy_X6_isRow wl_RX6_250 dX6_write_4 rfl rfl ⟨Nat.le_of_ble_eq_true rfl, Nat.le_of_ble_eq_true rfl⟩ (Nat.le_of_ble_eq_true rfl) ⟨Nat.le_of_ble_eq_true rfl, Nat.le_of_ble_eq_true rfl⟩ (fun r1_ z2_ G3_ hq4_ => ?_)
  obtain ⟨rfl, rfl, h⟩ := hq4_
  refine z_if_ne (tgt := 14) O dX6_write_7 (by decide) (fun c5_ => ?_) (fun c5_ => ?_)
  · have h := h.1 c5_
    refine z_aload_n O dX6_write_14 rfl rfl ?_
    refine z_get (v := .ref (b0 + 1)) O wf_RX6_7 dX6_write_15 (M_obj h0) rfl ?_
    refine z_sipush (v := 401) O dX6_write_18 (by decide) ?_
    obtain ⟨q6_, h⟩ := h
    refine z_iald O dX6_write_21 (M_now_of h0) q6_ ?_
    refine z_sipush (v := 200) O dX6_write_22 (by decide) ?_
    refine z_icmp_ne (tgt := 32) O dX6_write_25 (by decide) (fun c7_ => ?_) (fun c7_ => ?_)
    · have h := h.1 c7_
      refine z_iconst (v := 0) O dX6_write_32 (by decide) ?_
      exact z_subL (L' := [some (.ref b0), some (.int x1), some (.int x2), some (.int x3)]) (zLe.sub (And.intro rfl (And.intro rfl (And.intro rfl (And.intro rfl True.intro))))) (HJ33 x1 x2 x3 0 v0 G h0 Fr.rf h)
    · have h := h.2 c7_
      refine z_iconst (v := 2) O dX6_write_28 (by decide) ?_
      refine z_goto (tgt := 33) O dX6_write_29 (by decide) ?_
      exact z_subL (L' := [some (.ref b0), some (.int x1), some (.int x2), some (.int x3)]) (zLe.sub (And.intro rfl (And.intro rfl (And.intro rfl (And.intro rfl True.intro))))) (HJ33 x1 x2 x3 2 v0 G h0 Fr.rf h)
  · have h := h.2 c5_
    refine z_iconst (v := 1) O dX6_write_10 (by decide) ?_
    refine z_goto (tgt := 33) O dX6_write_11 (by decide) ?_
    exact z_subL (L' := [some (.ref b0), some (.int x1), some (.int x2), some (.int x3)]) (zLe.sub (And.intro rfl (And.intro rfl (And.intro rfl (And.intro rfl True.intro))))) (HJ33 x1 x2 x3 1 v0 G h0 Fr.rf h)

theorem dX6_join_0 : decode cX6_join 0 = .ok (.aload_n 0, 1) := by decide +kernel
theorem dX6_join_1 : decode cX6_join 1 = .ok (.iload_n 1, 1) := by decide +kernel
theorem dX6_join_2 : decode cX6_join 2 = .ok (.invokestatic 62, 3) := by decide +kernel
theorem dX6_join_5 : decode cX6_join 5 = .ok (.ifCond .eq 15, 3) := by decide +kernel
theorem dX6_join_8 : decode cX6_join 8 = .ok (.iload_n 2, 1) := by decide +kernel
theorem dX6_join_9 : decode cX6_join 9 = .ok (.i2l, 1) := by decide +kernel
theorem dX6_join_10 : decode cX6_join 10 = .ok (.lconst 0, 1) := by decide +kernel
theorem dX6_join_11 : decode cX6_join 11 = .ok (.ldc2_w 257, 3) := by decide +kernel
theorem dX6_join_14 : decode cX6_join 14 = .ok (.invokestatic 44, 3) := by decide +kernel
theorem dX6_join_17 : decode cX6_join 17 = .ok (.ifCond .ne 7, 3) := by decide +kernel
theorem dX6_join_20 : decode cX6_join 20 = .ok (.iconst 1, 1) := by decide +kernel
theorem dX6_join_21 : decode cX6_join 21 = .ok (.goto 21, 3) := by decide +kernel
theorem dX6_join_24 : decode cX6_join 24 = .ok (.aload_n 0, 1) := by decide +kernel
theorem dX6_join_25 : decode cX6_join 25 = .ok (.getfield 7, 3) := by decide +kernel
theorem dX6_join_28 : decode cX6_join 28 = .ok (.iload_n 1, 1) := by decide +kernel
theorem dX6_join_29 : decode cX6_join 29 = .ok (.iload_n 2, 1) := by decide +kernel
theorem dX6_join_30 : decode cX6_join 30 = .ok (.iload_n 3, 1) := by decide +kernel
theorem dX6_join_31 : decode cX6_join 31 = .ok (.invokestatic 176, 3) := by decide +kernel
theorem dX6_join_34 : decode cX6_join 34 = .ok (.ifCond .ne 7, 3) := by decide +kernel
theorem dX6_join_37 : decode cX6_join 37 = .ok (.iconst 2, 1) := by decide +kernel
theorem dX6_join_38 : decode cX6_join 38 = .ok (.goto 4, 3) := by decide +kernel
theorem dX6_join_41 : decode cX6_join 41 = .ok (.iconst 0, 1) := by decide +kernel
theorem dX6_join_42 : decode cX6_join 42 = .ok (.invokevirtual 136, 3) := by decide +kernel
theorem dX6_join_45 : decode cX6_join 45 = .ok (.ifCond .eq 5, 3) := by decide +kernel
theorem dX6_join_48 : decode cX6_join 48 = .ok (.iconst 0, 1) := by decide +kernel
theorem dX6_join_49 : decode cX6_join 49 = .ok (.ireturn, 1) := by decide +kernel
theorem dX6_join_50 : decode cX6_join 50 = .ok (.aload_n 0, 1) := by decide +kernel
theorem dX6_join_51 : decode cX6_join 51 = .ok (.invokevirtual 254, 3) := by decide +kernel
theorem dX6_join_54 : decode cX6_join 54 = .ok (.aload_n 0, 1) := by decide +kernel
theorem dX6_join_55 : decode cX6_join 55 = .ok (.getfield 7, 3) := by decide +kernel
theorem dX6_join_58 : decode cX6_join 58 = .ok (.iload_n 1, 1) := by decide +kernel
theorem dX6_join_59 : decode cX6_join 59 = .ok (.iload_n 2, 1) := by decide +kernel
theorem dX6_join_60 : decode cX6_join 60 = .ok (.iload_n 3, 1) := by decide +kernel
theorem dX6_join_61 : decode cX6_join 61 = .ok (.invokestatic 180, 3) := by decide +kernel
theorem dX6_join_64 : decode cX6_join 64 = .ok (.ireturn, 1) := by decide +kernel
def PJ_M_join_42 (x1 : Int32) (x2 : Int32) (x3 : Int32) (y1 : Int32) (y2 : Int32) (y3 : Int32) (u0 : Int32) (v0 : MT) (Q : Int32 → MT → Prop) : Prop := P_M_refused u0 v0 (fun r6_ v10_ => (((r6_ = 0 → P_M_remember v10_ (fun v19_ => (P_M_goJoin y1 y2 y3 (M_now v19_) (fun r23_ v27_ => (∀ v32_, v32_ = (M_set_now v19_ v27_) → (Q r23_ v32_)))))) ∧ (¬ r6_ = 0 → Q 0 v10_))))
def PJ_M_join_20 (x1 : Int32) (x2 : Int32) (x3 : Int32) (y1 : Int32) (y2 : Int32) (y3 : Int32) (v0 : MT) (Q : Int32 → MT → Prop) : Prop := PJ_M_join_42 x1 x2 x3 y1 y2 y3 1 v0 Q
def P_M_join (x1 : Int32) (x2 : Int32) (x3 : Int32) (v0 : MT) (Q : Int32 → MT → Prop) : Prop := P_M_isName x1 (fun r1_ => (((r1_ = 0 → PJ_M_join_20 x1 x2 x3 x1 x2 x3 v0 Q) ∧ (¬ r1_ = 0 → P_M_in (Int32.toInt64 x2) 0 2 (fun r35_ => (((¬ r35_ = 0 → P_M_canJoin x1 x2 x3 (M_now v0) (fun r40_ => (((¬ r40_ = 0 → PJ_M_join_42 x1 x2 x3 x1 x2 x3 0 v0 Q) ∧ (r40_ = 0 → PJ_M_join_42 x1 x2 x3 x1 x2 x3 2 v0 Q))))) ∧ (r35_ = 0 → PJ_M_join_20 x1 x2 x3 x1 x2 x3 v0 Q))))))))
set_option maxRecDepth 100000 in
theorem s_M_join {l : Launch} {D : zD} {B : Nat} {sa : Nat → Nat} (hfl : l.stackTraces = false) {z : Nat} {G : zG} {b0 : Nat} {x1 : Int32} {x2 : Int32} {x3 : Int32} {v0 : MT} {Q : Int32 → MT → Prop} (h0 : MA b0 v0 G) (h : P_M_join x1 x2 x3 v0 Q) : zSp l D B sa yX6_join cX6_join 4 (some .int) 3 71 0 0 [.ref b0, .int x1, .int x2, .int x3] z G (zRi fun r z' G' => z = z' ∧ ∃ w, MA b0 w G' ∧ Fr b0 8 G G' ∧ Q r w) := by
  unfold P_M_join at h
  refine z_ofW (by decide +kernel) hfl [some (.ref b0), some (.int x1), some (.int x2), some (.int x3)] rfl (Nat.le_of_ble_eq_true rfl) (fun p e s m args below meth c O hret hlk hnm => ?_)
  have O : zO p l s m args c D B sa 4 cX6_join RX6 := O
  have HJ42 : ∀ (y1 : Int32) (y2 : Int32) (y3 : Int32) (u0 : Int32) (v0 : MT) (G9 : zG) (g0 : MA b0 v0 G9) (gF : Fr b0 8 G G9), PJ_M_join_42 x1 x2 x3 y1 y2 y3 u0 v0 Q → zT p l e (zrm 3 71 0 0) s m args below meth c (zEnd below D B (zRi fun r z' G' => z = z' ∧ ∃ w, MA b0 w G' ∧ Fr b0 8 G G' ∧ Q r w) args s 0 0) D B 4 0 0 42 [.int u0, .ref b0] [some (.ref b0), some (.int y1), some (.int y2), some (.int y3)] z G9 := by
    intro y1 y2 y3 u0 v0 G9 g0 gF h
    unfold PJ_M_join_42 at h
    refine z_callVi (As := [.int u0]) (st := []) O (s_M_refused hfl g0 h) wy_X6_refused wl_RX6_136 dX6_join_42 rfl rfl (M_obj g0) ⟨by decide, rfl⟩ ⟨Nat.le_of_ble_eq_true rfl, Nat.le_of_ble_eq_true rfl⟩ (Nat.le_of_ble_eq_true rfl) ⟨Nat.le_of_ble_eq_true rfl, Nat.le_of_ble_eq_true rfl⟩ (fun r6_ z7_ G8_ hq9_ => ?_)
    obtain ⟨rfl, v10_, k11_, f12_, h⟩ := hq9_
    have F13_ : Fr b0 8 G G8_ := Fr.trans gF f12_
    refine z_if_eq (tgt := 50) O dX6_join_45 (by decide) (fun c14_ => ?_) (fun c14_ => ?_)
    · have h := h.1 c14_
      refine z_aload_n O dX6_join_50 rfl rfl ?_
      refine z_callVv (As := []) (st := []) O (s_M_remember hfl k11_ h) wy_X6_remember wl_RX6_254 dX6_join_51 rfl rfl (M_obj k11_) ⟨by decide, rfl⟩ ⟨Nat.le_of_ble_eq_true rfl, Nat.le_of_ble_eq_true rfl⟩ (Nat.le_of_ble_eq_true rfl) ⟨Nat.le_of_ble_eq_true rfl, Nat.le_of_ble_eq_true rfl⟩ (fun z16_ G17_ hq18_ => ?_)
      obtain ⟨rfl, v19_, k20_, f21_, h⟩ := hq18_
      have F22_ : Fr b0 8 G G17_ := Fr.trans F13_ f21_
      refine z_aload_n O dX6_join_54 rfl rfl ?_
      refine z_get (v := .ref (b0 + 1)) O wf_RX6_7 dX6_join_55 (M_obj k20_) rfl ?_
      refine z_iload_n O dX6_join_58 rfl rfl ?_
      refine z_iload_n O dX6_join_59 rfl rfl ?_
      refine z_iload_n O dX6_join_60 rfl rfl ?_
      refine z_callSi (As := [.ref (b0 + 1), .int y1, .int y2, .int y3]) (st := []) O (s_M_goJoin hfl (M_now_of k20_) h) wy_X6_goJoin wl_RX6_180 dX6_join_61 rfl rfl ⟨Nat.le_of_ble_eq_true rfl, Nat.le_of_ble_eq_true rfl⟩ (Nat.le_of_ble_eq_true rfl) ⟨Nat.le_of_ble_eq_true rfl, Nat.le_of_ble_eq_true rfl⟩ (fun r23_ z24_ G25_ hq26_ => ?_)
      obtain ⟨rfl, v27_, k28_, f29_, h⟩ := hq26_
      have k30_ := M_put_now k20_ k28_ f29_
      have f31_ : Fr b0 8 G17_ G25_ := Fr.mono f29_ (by omega) (by omega)
      obtain ⟨v32_, ev32_⟩ : ∃ w, w = (M_set_now v19_ v27_) := ⟨_, rfl⟩
      have h := h v32_ ev32_
      have k33_ : MA b0 v32_ G25_ := by rw [ev32_]; exact k30_
      have F34_ : Fr b0 8 G G25_ := Fr.trans F22_ f31_
      exact z_iret O hret hlk dX6_join_64 (Nat.le_of_ble_eq_true rfl) (Nat.le_of_ble_eq_true rfl) ⟨_, rfl, rfl, _, k33_, F34_, h⟩
    · have h := h.2 c14_
      refine z_iconst (v := 0) O dX6_join_48 (by decide) ?_
      exact z_iret O hret hlk dX6_join_49 (Nat.le_of_ble_eq_true rfl) (Nat.le_of_ble_eq_true rfl) ⟨_, rfl, rfl, _, k11_, F13_, h⟩
  have HJ20 : ∀ (y1 : Int32) (y2 : Int32) (y3 : Int32) (v0 : MT) (G9 : zG) (g0 : MA b0 v0 G9) (gF : Fr b0 8 G G9), PJ_M_join_20 x1 x2 x3 y1 y2 y3 v0 Q → zT p l e (zrm 3 71 0 0) s m args below meth c (zEnd below D B (zRi fun r z' G' => z = z' ∧ ∃ w, MA b0 w G' ∧ Fr b0 8 G G' ∧ Q r w) args s 0 0) D B 4 0 0 20 [.ref b0] [some (.ref b0), some (.int y1), some (.int y2), some (.int y3)] z G9 := by
    intro y1 y2 y3 v0 G9 g0 gF h
    unfold PJ_M_join_20 at h
    refine z_iconst (v := 1) O dX6_join_20 (by decide) ?_
    refine z_goto (tgt := 42) O dX6_join_21 (by decide) ?_
    exact z_subL (L' := [some (.ref b0), some (.int y1), some (.int y2), some (.int y3)]) (zLe.sub (And.intro rfl (And.intro rfl (And.intro rfl (And.intro rfl True.intro))))) (HJ42 y1 y2 y3 1 v0 G9 g0 gF h)
  refine z_aload_n O dX6_join_0 rfl rfl ?_
  refine z_iload_n O dX6_join_1 rfl rfl ?_
  refine z_callSi (As := [.int x1]) (st := [.ref b0]) O (s_M_isName hfl h) wy_X6_isName wl_RX6_62 dX6_join_2 rfl rfl ⟨Nat.le_of_ble_eq_true rfl, Nat.le_of_ble_eq_true rfl⟩ (Nat.le_of_ble_eq_true rfl) ⟨Nat.le_of_ble_eq_true rfl, Nat.le_of_ble_eq_true rfl⟩ (fun r1_ z2_ G3_ hq4_ => ?_)
  obtain ⟨rfl, rfl, h⟩ := hq4_
  refine z_if_eq (tgt := 20) O dX6_join_5 (by decide) (fun c5_ => ?_) (fun c5_ => ?_)
  · have h := h.1 c5_
    exact z_subL (L' := [some (.ref b0), some (.int x1), some (.int x2), some (.int x3)]) (zLe.sub (And.intro rfl (And.intro rfl (And.intro rfl (And.intro rfl True.intro))))) (HJ20 x1 x2 x3 v0 G h0 Fr.rf h)
  · have h := h.2 c5_
    refine z_iload_n O dX6_join_8 rfl rfl ?_
    refine z_i2l O dX6_join_9 ?_
    refine z_lconst (v := 0) O dX6_join_10 (by decide) ?_
    refine z_ldc2 (v := 2) O wc_RX6_257 dX6_join_11 ?_
    refine z_callSi (As := [.long (Int32.toInt64 x2), .long 0, .long 2]) (st := [.ref b0]) O (s_M_in hfl h) wy_X6_in wl_RX6_44 dX6_join_14 rfl rfl ⟨Nat.le_of_ble_eq_true rfl, Nat.le_of_ble_eq_true rfl⟩ (Nat.le_of_ble_eq_true rfl) ⟨Nat.le_of_ble_eq_true rfl, Nat.le_of_ble_eq_true rfl⟩ (fun r35_ z36_ G37_ hq38_ => ?_)
    obtain ⟨rfl, rfl, h⟩ := hq38_
    refine z_if_ne (tgt := 24) O dX6_join_17 (by decide) (fun c39_ => ?_) (fun c39_ => ?_)
    · have h := h.1 c39_
      refine z_aload_n O dX6_join_24 rfl rfl ?_
      refine z_get (v := .ref (b0 + 1)) O wf_RX6_7 dX6_join_25 (M_obj h0) rfl ?_
      refine z_iload_n O dX6_join_28 rfl rfl ?_
      refine z_iload_n O dX6_join_29 rfl rfl ?_
      refine z_iload_n O dX6_join_30 rfl rfl ?_
      refine z_callSi (As := [.ref (b0 + 1), .int x1, .int x2, .int x3]) (st := [.ref b0]) O (s_M_canJoin hfl (M_now_of h0) h) wy_X6_canJoin wl_RX6_176 dX6_join_31 rfl rfl ⟨Nat.le_of_ble_eq_true rfl, Nat.le_of_ble_eq_true rfl⟩ (Nat.le_of_ble_eq_true rfl) ⟨Nat.le_of_ble_eq_true rfl, Nat.le_of_ble_eq_true rfl⟩ (fun r40_ z41_ G42_ hq43_ => ?_)
      obtain ⟨rfl, rfl, h⟩ := hq43_
      refine z_if_ne (tgt := 41) O dX6_join_34 (by decide) (fun c44_ => ?_) (fun c44_ => ?_)
      · have h := h.1 c44_
        refine z_iconst (v := 0) O dX6_join_41 (by decide) ?_
        exact z_subL (L' := [some (.ref b0), some (.int x1), some (.int x2), some (.int x3)]) (zLe.sub (And.intro rfl (And.intro rfl (And.intro rfl (And.intro rfl True.intro))))) (HJ42 x1 x2 x3 0 v0 G h0 Fr.rf h)
      · have h := h.2 c44_
        refine z_iconst (v := 2) O dX6_join_37 (by decide) ?_
        refine z_goto (tgt := 42) O dX6_join_38 (by decide) ?_
        exact z_subL (L' := [some (.ref b0), some (.int x1), some (.int x2), some (.int x3)]) (zLe.sub (And.intro rfl (And.intro rfl (And.intro rfl (And.intro rfl True.intro))))) (HJ42 x1 x2 x3 2 v0 G h0 Fr.rf h)
    · have h := h.2 c39_
      exact z_subL (L' := [some (.ref b0), some (.int x1), some (.int x2), some (.int x3)]) (zLe.sub (And.intro rfl (And.intro rfl (And.intro rfl (And.intro rfl True.intro))))) (HJ20 x1 x2 x3 v0 G h0 Fr.rf h)

theorem dX6_read_0 : decode cX6_read 0 = .ok (.aload_n 0, 1) := by decide +kernel
theorem dX6_read_1 : decode cX6_read 1 = .ok (.aload_n 0, 1) := by decide +kernel
theorem dX6_read_2 : decode cX6_read 2 = .ok (.getfield 7, 3) := by decide +kernel
theorem dX6_read_5 : decode cX6_read 5 = .ok (.iload_n 1, 1) := by decide +kernel
theorem dX6_read_6 : decode cX6_read 6 = .ok (.invokestatic 184, 3) := by decide +kernel
theorem dX6_read_9 : decode cX6_read 9 = .ok (.ifCond .ne 7, 3) := by decide +kernel
theorem dX6_read_12 : decode cX6_read 12 = .ok (.iconst 1, 1) := by decide +kernel
theorem dX6_read_13 : decode cX6_read 13 = .ok (.goto 20, 3) := by decide +kernel
theorem dX6_read_16 : decode cX6_read 16 = .ok (.iload_n 2, 1) := by decide +kernel
theorem dX6_read_17 : decode cX6_read 17 = .ok (.i2l, 1) := by decide +kernel
theorem dX6_read_18 : decode cX6_read 18 = .ok (.lconst 1, 1) := by decide +kernel
theorem dX6_read_19 : decode cX6_read 19 = .ok (.ldc2_w 259, 3) := by decide +kernel
theorem dX6_read_22 : decode cX6_read 22 = .ok (.invokestatic 44, 3) := by decide +kernel
theorem dX6_read_25 : decode cX6_read 25 = .ok (.ifCond .ne 7, 3) := by decide +kernel
theorem dX6_read_28 : decode cX6_read 28 = .ok (.iconst 2, 1) := by decide +kernel
theorem dX6_read_29 : decode cX6_read 29 = .ok (.goto 4, 3) := by decide +kernel
theorem dX6_read_32 : decode cX6_read 32 = .ok (.iconst 0, 1) := by decide +kernel
theorem dX6_read_33 : decode cX6_read 33 = .ok (.invokevirtual 136, 3) := by decide +kernel
theorem dX6_read_36 : decode cX6_read 36 = .ok (.ifCond .eq 5, 3) := by decide +kernel
theorem dX6_read_39 : decode cX6_read 39 = .ok (.iconst 0, 1) := by decide +kernel
theorem dX6_read_40 : decode cX6_read 40 = .ok (.ireturn, 1) := by decide +kernel
theorem dX6_read_41 : decode cX6_read 41 = .ok (.aload_n 0, 1) := by decide +kernel
theorem dX6_read_42 : decode cX6_read 42 = .ok (.invokevirtual 254, 3) := by decide +kernel
theorem dX6_read_45 : decode cX6_read 45 = .ok (.aload_n 0, 1) := by decide +kernel
theorem dX6_read_46 : decode cX6_read 46 = .ok (.getfield 7, 3) := by decide +kernel
theorem dX6_read_49 : decode cX6_read 49 = .ok (.iload_n 1, 1) := by decide +kernel
theorem dX6_read_50 : decode cX6_read 50 = .ok (.iload_n 2, 1) := by decide +kernel
theorem dX6_read_51 : decode cX6_read 51 = .ok (.invokestatic 202, 3) := by decide +kernel
theorem dX6_read_54 : decode cX6_read 54 = .ok (.ireturn, 1) := by decide +kernel
def PJ_M_read_33 (x1 : Int32) (x2 : Int32) (y1 : Int32) (y2 : Int32) (u0 : Int32) (v0 : MT) (Q : Int32 → MT → Prop) : Prop := P_M_refused u0 v0 (fun r11_ v15_ => (((r11_ = 0 → P_M_remember v15_ (fun v24_ => (P_M_goRead y1 y2 (M_now v24_) (fun r28_ v32_ => (∀ v37_, v37_ = (M_set_now v24_ v32_) → (Q r28_ v37_)))))) ∧ (¬ r11_ = 0 → Q 0 v15_))))
def P_M_read (x1 : Int32) (x2 : Int32) (v0 : MT) (Q : Int32 → MT → Prop) : Prop := P_M_isReader x1 (M_now v0) (fun r1_ => (((¬ r1_ = 0 → P_M_in (Int32.toInt64 x2) 1 50 (fun r6_ => (((¬ r6_ = 0 → PJ_M_read_33 x1 x2 x1 x2 0 v0 Q) ∧ (r6_ = 0 → PJ_M_read_33 x1 x2 x1 x2 2 v0 Q))))) ∧ (r1_ = 0 → PJ_M_read_33 x1 x2 x1 x2 1 v0 Q))))
set_option maxRecDepth 100000 in
theorem s_M_read {l : Launch} {D : zD} {B : Nat} {sa : Nat → Nat} (hfl : l.stackTraces = false) {z : Nat} {G : zG} {b0 : Nat} {x1 : Int32} {x2 : Int32} {v0 : MT} {Q : Int32 → MT → Prop} (h0 : MA b0 v0 G) (h : P_M_read x1 x2 v0 Q) : zSp l D B sa yX6_read cX6_read 3 (some .int) 3 66 0 0 [.ref b0, .int x1, .int x2] z G (zRi fun r z' G' => z = z' ∧ ∃ w, MA b0 w G' ∧ Fr b0 8 G G' ∧ Q r w) := by
  unfold P_M_read at h
  refine z_ofW (by decide +kernel) hfl [some (.ref b0), some (.int x1), some (.int x2)] rfl (Nat.le_of_ble_eq_true rfl) (fun p e s m args below meth c O hret hlk hnm => ?_)
  have O : zO p l s m args c D B sa 3 cX6_read RX6 := O
  have HJ33 : ∀ (y1 : Int32) (y2 : Int32) (u0 : Int32) (v0 : MT) (G9 : zG) (g0 : MA b0 v0 G9) (gF : Fr b0 8 G G9), PJ_M_read_33 x1 x2 y1 y2 u0 v0 Q → zT p l e (zrm 3 66 0 0) s m args below meth c (zEnd below D B (zRi fun r z' G' => z = z' ∧ ∃ w, MA b0 w G' ∧ Fr b0 8 G G' ∧ Q r w) args s 0 0) D B 3 0 0 33 [.int u0, .ref b0] [some (.ref b0), some (.int y1), some (.int y2)] z G9 := by
    intro y1 y2 u0 v0 G9 g0 gF h
    unfold PJ_M_read_33 at h
    refine z_callVi (As := [.int u0]) (st := []) O (s_M_refused hfl g0 h) wy_X6_refused wl_RX6_136 dX6_read_33 rfl rfl (M_obj g0) ⟨by decide, rfl⟩ ⟨Nat.le_of_ble_eq_true rfl, Nat.le_of_ble_eq_true rfl⟩ (Nat.le_of_ble_eq_true rfl) ⟨Nat.le_of_ble_eq_true rfl, Nat.le_of_ble_eq_true rfl⟩ (fun r11_ z12_ G13_ hq14_ => ?_)
    obtain ⟨rfl, v15_, k16_, f17_, h⟩ := hq14_
    have F18_ : Fr b0 8 G G13_ := Fr.trans gF f17_
    refine z_if_eq (tgt := 41) O dX6_read_36 (by decide) (fun c19_ => ?_) (fun c19_ => ?_)
    · have h := h.1 c19_
      refine z_aload_n O dX6_read_41 rfl rfl ?_
      refine z_callVv (As := []) (st := []) O (s_M_remember hfl k16_ h) wy_X6_remember wl_RX6_254 dX6_read_42 rfl rfl (M_obj k16_) ⟨by decide, rfl⟩ ⟨Nat.le_of_ble_eq_true rfl, Nat.le_of_ble_eq_true rfl⟩ (Nat.le_of_ble_eq_true rfl) ⟨Nat.le_of_ble_eq_true rfl, Nat.le_of_ble_eq_true rfl⟩ (fun z21_ G22_ hq23_ => ?_)
      obtain ⟨rfl, v24_, k25_, f26_, h⟩ := hq23_
      have F27_ : Fr b0 8 G G22_ := Fr.trans F18_ f26_
      refine z_aload_n O dX6_read_45 rfl rfl ?_
      refine z_get (v := .ref (b0 + 1)) O wf_RX6_7 dX6_read_46 (M_obj k25_) rfl ?_
      refine z_iload_n O dX6_read_49 rfl rfl ?_
      refine z_iload_n O dX6_read_50 rfl rfl ?_
      refine z_callSi (As := [.ref (b0 + 1), .int y1, .int y2]) (st := []) O (s_M_goRead hfl (M_now_of k25_) h) wy_X6_goRead wl_RX6_202 dX6_read_51 rfl rfl ⟨Nat.le_of_ble_eq_true rfl, Nat.le_of_ble_eq_true rfl⟩ (Nat.le_of_ble_eq_true rfl) ⟨Nat.le_of_ble_eq_true rfl, Nat.le_of_ble_eq_true rfl⟩ (fun r28_ z29_ G30_ hq31_ => ?_)
      obtain ⟨rfl, v32_, k33_, f34_, h⟩ := hq31_
      have k35_ := M_put_now k25_ k33_ f34_
      have f36_ : Fr b0 8 G22_ G30_ := Fr.mono f34_ (by omega) (by omega)
      obtain ⟨v37_, ev37_⟩ : ∃ w, w = (M_set_now v24_ v32_) := ⟨_, rfl⟩
      have h := h v37_ ev37_
      have k38_ : MA b0 v37_ G30_ := by rw [ev37_]; exact k35_
      have F39_ : Fr b0 8 G G30_ := Fr.trans F27_ f36_
      exact z_iret O hret hlk dX6_read_54 (Nat.le_of_ble_eq_true rfl) (Nat.le_of_ble_eq_true rfl) ⟨_, rfl, rfl, _, k38_, F39_, h⟩
    · have h := h.2 c19_
      refine z_iconst (v := 0) O dX6_read_39 (by decide) ?_
      exact z_iret O hret hlk dX6_read_40 (Nat.le_of_ble_eq_true rfl) (Nat.le_of_ble_eq_true rfl) ⟨_, rfl, rfl, _, k16_, F18_, h⟩
  refine z_aload_n O dX6_read_0 rfl rfl ?_
  refine z_aload_n O dX6_read_1 rfl rfl ?_
  refine z_get (v := .ref (b0 + 1)) O wf_RX6_7 dX6_read_2 (M_obj h0) rfl ?_
  refine z_iload_n O dX6_read_5 rfl rfl ?_
  refine z_callSi (As := [.ref (b0 + 1), .int x1]) (st := [.ref b0]) O (s_M_isReader hfl (M_now_of h0) h) wy_X6_isReader wl_RX6_184 dX6_read_6 rfl rfl ⟨Nat.le_of_ble_eq_true rfl, Nat.le_of_ble_eq_true rfl⟩ (Nat.le_of_ble_eq_true rfl) ⟨Nat.le_of_ble_eq_true rfl, Nat.le_of_ble_eq_true rfl⟩ (fun r1_ z2_ G3_ hq4_ => ?_)
  obtain ⟨rfl, rfl, h⟩ := hq4_
  refine z_if_ne (tgt := 16) O dX6_read_9 (by decide) (fun c5_ => ?_) (fun c5_ => ?_)
  · have h := h.1 c5_
    refine z_iload_n O dX6_read_16 rfl rfl ?_
    refine z_i2l O dX6_read_17 ?_
    refine z_lconst (v := 1) O dX6_read_18 (by decide) ?_
    refine z_ldc2 (v := 50) O wc_RX6_259 dX6_read_19 ?_
    refine z_callSi (As := [.long (Int32.toInt64 x2), .long 1, .long 50]) (st := [.ref b0]) O (s_M_in hfl h) wy_X6_in wl_RX6_44 dX6_read_22 rfl rfl ⟨Nat.le_of_ble_eq_true rfl, Nat.le_of_ble_eq_true rfl⟩ (Nat.le_of_ble_eq_true rfl) ⟨Nat.le_of_ble_eq_true rfl, Nat.le_of_ble_eq_true rfl⟩ (fun r6_ z7_ G8_ hq9_ => ?_)
    obtain ⟨rfl, rfl, h⟩ := hq9_
    refine z_if_ne (tgt := 32) O dX6_read_25 (by decide) (fun c10_ => ?_) (fun c10_ => ?_)
    · have h := h.1 c10_
      refine z_iconst (v := 0) O dX6_read_32 (by decide) ?_
      exact z_subL (L' := [some (.ref b0), some (.int x1), some (.int x2)]) (zLe.sub (And.intro rfl (And.intro rfl (And.intro rfl True.intro)))) (HJ33 x1 x2 0 v0 G h0 Fr.rf h)
    · have h := h.2 c10_
      refine z_iconst (v := 2) O dX6_read_28 (by decide) ?_
      refine z_goto (tgt := 33) O dX6_read_29 (by decide) ?_
      exact z_subL (L' := [some (.ref b0), some (.int x1), some (.int x2)]) (zLe.sub (And.intro rfl (And.intro rfl (And.intro rfl True.intro)))) (HJ33 x1 x2 2 v0 G h0 Fr.rf h)
  · have h := h.2 c5_
    refine z_iconst (v := 1) O dX6_read_12 (by decide) ?_
    refine z_goto (tgt := 33) O dX6_read_13 (by decide) ?_
    exact z_subL (L' := [some (.ref b0), some (.int x1), some (.int x2)]) (zLe.sub (And.intro rfl (And.intro rfl (And.intro rfl True.intro)))) (HJ33 x1 x2 1 v0 G h0 Fr.rf h)

theorem dX6_leave_0 : decode cX6_leave 0 = .ok (.aload_n 0, 1) := by decide +kernel
theorem dX6_leave_1 : decode cX6_leave 1 = .ok (.aload_n 0, 1) := by decide +kernel
theorem dX6_leave_2 : decode cX6_leave 2 = .ok (.getfield 7, 3) := by decide +kernel
theorem dX6_leave_5 : decode cX6_leave 5 = .ok (.iload_n 1, 1) := by decide +kernel
theorem dX6_leave_6 : decode cX6_leave 6 = .ok (.invokestatic 184, 3) := by decide +kernel
theorem dX6_leave_9 : decode cX6_leave 9 = .ok (.ifCond .eq 7, 3) := by decide +kernel
theorem dX6_leave_12 : decode cX6_leave 12 = .ok (.iconst 0, 1) := by decide +kernel
theorem dX6_leave_13 : decode cX6_leave 13 = .ok (.goto 4, 3) := by decide +kernel
theorem dX6_leave_16 : decode cX6_leave 16 = .ok (.iconst 1, 1) := by decide +kernel
theorem dX6_leave_17 : decode cX6_leave 17 = .ok (.invokevirtual 136, 3) := by decide +kernel
theorem dX6_leave_20 : decode cX6_leave 20 = .ok (.ifCond .eq 5, 3) := by decide +kernel
theorem dX6_leave_23 : decode cX6_leave 23 = .ok (.iconst 0, 1) := by decide +kernel
theorem dX6_leave_24 : decode cX6_leave 24 = .ok (.ireturn, 1) := by decide +kernel
theorem dX6_leave_25 : decode cX6_leave 25 = .ok (.aload_n 0, 1) := by decide +kernel
theorem dX6_leave_26 : decode cX6_leave 26 = .ok (.invokevirtual 254, 3) := by decide +kernel
theorem dX6_leave_29 : decode cX6_leave 29 = .ok (.aload_n 0, 1) := by decide +kernel
theorem dX6_leave_30 : decode cX6_leave 30 = .ok (.getfield 7, 3) := by decide +kernel
theorem dX6_leave_33 : decode cX6_leave 33 = .ok (.iload_n 1, 1) := by decide +kernel
theorem dX6_leave_34 : decode cX6_leave 34 = .ok (.invokestatic 205, 3) := by decide +kernel
theorem dX6_leave_37 : decode cX6_leave 37 = .ok (.ireturn, 1) := by decide +kernel
def PJ_M_leave_17 (x1 : Int32) (y1 : Int32) (u0 : Int32) (v0 : MT) (Q : Int32 → MT → Prop) : Prop := P_M_refused u0 v0 (fun r6_ v10_ => (((r6_ = 0 → P_M_remember v10_ (fun v19_ => (P_M_goLeave y1 (M_now v19_) (fun r23_ v27_ => (∀ v32_, v32_ = (M_set_now v19_ v27_) → (Q r23_ v32_)))))) ∧ (¬ r6_ = 0 → Q 0 v10_))))
def P_M_leave (x1 : Int32) (v0 : MT) (Q : Int32 → MT → Prop) : Prop := P_M_isReader x1 (M_now v0) (fun r1_ => (((r1_ = 0 → PJ_M_leave_17 x1 x1 1 v0 Q) ∧ (¬ r1_ = 0 → PJ_M_leave_17 x1 x1 0 v0 Q))))
set_option maxRecDepth 100000 in
theorem s_M_leave {l : Launch} {D : zD} {B : Nat} {sa : Nat → Nat} (hfl : l.stackTraces = false) {z : Nat} {G : zG} {b0 : Nat} {x1 : Int32} {v0 : MT} {Q : Int32 → MT → Prop} (h0 : MA b0 v0 G) (h : P_M_leave x1 v0 Q) : zSp l D B sa yX6_leave cX6_leave 2 (some .int) 3 66 0 0 [.ref b0, .int x1] z G (zRi fun r z' G' => z = z' ∧ ∃ w, MA b0 w G' ∧ Fr b0 8 G G' ∧ Q r w) := by
  unfold P_M_leave at h
  refine z_ofW (by decide +kernel) hfl [some (.ref b0), some (.int x1)] rfl (Nat.le_of_ble_eq_true rfl) (fun p e s m args below meth c O hret hlk hnm => ?_)
  have O : zO p l s m args c D B sa 2 cX6_leave RX6 := O
  have HJ17 : ∀ (y1 : Int32) (u0 : Int32) (v0 : MT) (G9 : zG) (g0 : MA b0 v0 G9) (gF : Fr b0 8 G G9), PJ_M_leave_17 x1 y1 u0 v0 Q → zT p l e (zrm 3 66 0 0) s m args below meth c (zEnd below D B (zRi fun r z' G' => z = z' ∧ ∃ w, MA b0 w G' ∧ Fr b0 8 G G' ∧ Q r w) args s 0 0) D B 2 0 0 17 [.int u0, .ref b0] [some (.ref b0), some (.int y1)] z G9 := by
    intro y1 u0 v0 G9 g0 gF h
    unfold PJ_M_leave_17 at h
    refine z_callVi (As := [.int u0]) (st := []) O (s_M_refused hfl g0 h) wy_X6_refused wl_RX6_136 dX6_leave_17 rfl rfl (M_obj g0) ⟨by decide, rfl⟩ ⟨Nat.le_of_ble_eq_true rfl, Nat.le_of_ble_eq_true rfl⟩ (Nat.le_of_ble_eq_true rfl) ⟨Nat.le_of_ble_eq_true rfl, Nat.le_of_ble_eq_true rfl⟩ (fun r6_ z7_ G8_ hq9_ => ?_)
    obtain ⟨rfl, v10_, k11_, f12_, h⟩ := hq9_
    have F13_ : Fr b0 8 G G8_ := Fr.trans gF f12_
    refine z_if_eq (tgt := 25) O dX6_leave_20 (by decide) (fun c14_ => ?_) (fun c14_ => ?_)
    · have h := h.1 c14_
      refine z_aload_n O dX6_leave_25 rfl rfl ?_
      refine z_callVv (As := []) (st := []) O (s_M_remember hfl k11_ h) wy_X6_remember wl_RX6_254 dX6_leave_26 rfl rfl (M_obj k11_) ⟨by decide, rfl⟩ ⟨Nat.le_of_ble_eq_true rfl, Nat.le_of_ble_eq_true rfl⟩ (Nat.le_of_ble_eq_true rfl) ⟨Nat.le_of_ble_eq_true rfl, Nat.le_of_ble_eq_true rfl⟩ (fun z16_ G17_ hq18_ => ?_)
      obtain ⟨rfl, v19_, k20_, f21_, h⟩ := hq18_
      have F22_ : Fr b0 8 G G17_ := Fr.trans F13_ f21_
      refine z_aload_n O dX6_leave_29 rfl rfl ?_
      refine z_get (v := .ref (b0 + 1)) O wf_RX6_7 dX6_leave_30 (M_obj k20_) rfl ?_
      refine z_iload_n O dX6_leave_33 rfl rfl ?_
      refine z_callSi (As := [.ref (b0 + 1), .int y1]) (st := []) O (s_M_goLeave hfl (M_now_of k20_) h) wy_X6_goLeave wl_RX6_205 dX6_leave_34 rfl rfl ⟨Nat.le_of_ble_eq_true rfl, Nat.le_of_ble_eq_true rfl⟩ (Nat.le_of_ble_eq_true rfl) ⟨Nat.le_of_ble_eq_true rfl, Nat.le_of_ble_eq_true rfl⟩ (fun r23_ z24_ G25_ hq26_ => ?_)
      obtain ⟨rfl, v27_, k28_, f29_, h⟩ := hq26_
      have k30_ := M_put_now k20_ k28_ f29_
      have f31_ : Fr b0 8 G17_ G25_ := Fr.mono f29_ (by omega) (by omega)
      obtain ⟨v32_, ev32_⟩ : ∃ w, w = (M_set_now v19_ v27_) := ⟨_, rfl⟩
      have h := h v32_ ev32_
      have k33_ : MA b0 v32_ G25_ := by rw [ev32_]; exact k30_
      have F34_ : Fr b0 8 G G25_ := Fr.trans F22_ f31_
      exact z_iret O hret hlk dX6_leave_37 (Nat.le_of_ble_eq_true rfl) (Nat.le_of_ble_eq_true rfl) ⟨_, rfl, rfl, _, k33_, F34_, h⟩
    · have h := h.2 c14_
      refine z_iconst (v := 0) O dX6_leave_23 (by decide) ?_
      exact z_iret O hret hlk dX6_leave_24 (Nat.le_of_ble_eq_true rfl) (Nat.le_of_ble_eq_true rfl) ⟨_, rfl, rfl, _, k11_, F13_, h⟩
  refine z_aload_n O dX6_leave_0 rfl rfl ?_
  refine z_aload_n O dX6_leave_1 rfl rfl ?_
  refine z_get (v := .ref (b0 + 1)) O wf_RX6_7 dX6_leave_2 (M_obj h0) rfl ?_
  refine z_iload_n O dX6_leave_5 rfl rfl ?_
  refine z_callSi (As := [.ref (b0 + 1), .int x1]) (st := [.ref b0]) O (s_M_isReader hfl (M_now_of h0) h) wy_X6_isReader wl_RX6_184 dX6_leave_6 rfl rfl ⟨Nat.le_of_ble_eq_true rfl, Nat.le_of_ble_eq_true rfl⟩ (Nat.le_of_ble_eq_true rfl) ⟨Nat.le_of_ble_eq_true rfl, Nat.le_of_ble_eq_true rfl⟩ (fun r1_ z2_ G3_ hq4_ => ?_)
  obtain ⟨rfl, rfl, h⟩ := hq4_
  refine z_if_eq (tgt := 16) O dX6_leave_9 (by decide) (fun c5_ => ?_) (fun c5_ => ?_)
  · have h := h.1 c5_
    refine z_iconst (v := 1) O dX6_leave_16 (by decide) ?_
    exact z_subL (L' := [some (.ref b0), some (.int x1)]) (zLe.sub (And.intro rfl (And.intro rfl True.intro))) (HJ17 x1 1 v0 G h0 Fr.rf h)
  · have h := h.2 c5_
    refine z_iconst (v := 0) O dX6_leave_12 (by decide) ?_
    refine z_goto (tgt := 17) O dX6_leave_13 (by decide) ?_
    exact z_subL (L' := [some (.ref b0), some (.int x1)]) (zLe.sub (And.intro rfl (And.intro rfl True.intro))) (HJ17 x1 0 v0 G h0 Fr.rf h)

theorem dX6_hold_0 : decode cX6_hold 0 = .ok (.aload_n 0, 1) := by decide +kernel
theorem dX6_hold_1 : decode cX6_hold 1 = .ok (.aload_n 0, 1) := by decide +kernel
theorem dX6_hold_2 : decode cX6_hold 2 = .ok (.getfield 7, 3) := by decide +kernel
theorem dX6_hold_5 : decode cX6_hold 5 = .ok (.iload_n 1, 1) := by decide +kernel
theorem dX6_hold_6 : decode cX6_hold 6 = .ok (.invokestatic 184, 3) := by decide +kernel
theorem dX6_hold_9 : decode cX6_hold 9 = .ok (.ifCond .ne 7, 3) := by decide +kernel
theorem dX6_hold_12 : decode cX6_hold 12 = .ok (.iconst 1, 1) := by decide +kernel
theorem dX6_hold_13 : decode cX6_hold 13 = .ok (.goto 20, 3) := by decide +kernel
theorem dX6_hold_16 : decode cX6_hold 16 = .ok (.aload_n 0, 1) := by decide +kernel
theorem dX6_hold_17 : decode cX6_hold 17 = .ok (.getfield 7, 3) := by decide +kernel
theorem dX6_hold_20 : decode cX6_hold 20 = .ok (.iload_n 1, 1) := by decide +kernel
theorem dX6_hold_21 : decode cX6_hold 21 = .ok (.iload_n 2, 1) := by decide +kernel
theorem dX6_hold_22 : decode cX6_hold 22 = .ok (.invokestatic 187, 3) := by decide +kernel
theorem dX6_hold_25 : decode cX6_hold 25 = .ok (.ifCond .ne 7, 3) := by decide +kernel
theorem dX6_hold_28 : decode cX6_hold 28 = .ok (.iconst 2, 1) := by decide +kernel
theorem dX6_hold_29 : decode cX6_hold 29 = .ok (.goto 4, 3) := by decide +kernel
theorem dX6_hold_32 : decode cX6_hold 32 = .ok (.iconst 0, 1) := by decide +kernel
theorem dX6_hold_33 : decode cX6_hold 33 = .ok (.invokevirtual 136, 3) := by decide +kernel
theorem dX6_hold_36 : decode cX6_hold 36 = .ok (.ifCond .eq 5, 3) := by decide +kernel
theorem dX6_hold_39 : decode cX6_hold 39 = .ok (.iconst 0, 1) := by decide +kernel
theorem dX6_hold_40 : decode cX6_hold 40 = .ok (.ireturn, 1) := by decide +kernel
theorem dX6_hold_41 : decode cX6_hold 41 = .ok (.aload_n 0, 1) := by decide +kernel
theorem dX6_hold_42 : decode cX6_hold 42 = .ok (.invokevirtual 254, 3) := by decide +kernel
theorem dX6_hold_45 : decode cX6_hold 45 = .ok (.aload_n 0, 1) := by decide +kernel
theorem dX6_hold_46 : decode cX6_hold 46 = .ok (.getfield 7, 3) := by decide +kernel
theorem dX6_hold_49 : decode cX6_hold 49 = .ok (.iload_n 1, 1) := by decide +kernel
theorem dX6_hold_50 : decode cX6_hold 50 = .ok (.iload_n 2, 1) := by decide +kernel
theorem dX6_hold_51 : decode cX6_hold 51 = .ok (.invokestatic 191, 3) := by decide +kernel
theorem dX6_hold_54 : decode cX6_hold 54 = .ok (.ireturn, 1) := by decide +kernel
def PJ_M_hold_33 (x1 : Int32) (x2 : Int32) (y1 : Int32) (y2 : Int32) (u0 : Int32) (v0 : MT) (Q : Int32 → MT → Prop) : Prop := P_M_refused u0 v0 (fun r11_ v15_ => (((r11_ = 0 → P_M_remember v15_ (fun v24_ => (P_M_goHold y1 y2 (M_now v24_) (fun r28_ v32_ => (∀ v37_, v37_ = (M_set_now v24_ v32_) → (Q r28_ v37_)))))) ∧ (¬ r11_ = 0 → Q 0 v15_))))
def P_M_hold (x1 : Int32) (x2 : Int32) (v0 : MT) (Q : Int32 → MT → Prop) : Prop := P_M_isReader x1 (M_now v0) (fun r1_ => (((¬ r1_ = 0 → P_M_canHold x1 x2 (M_now v0) (fun r6_ => (((¬ r6_ = 0 → PJ_M_hold_33 x1 x2 x1 x2 0 v0 Q) ∧ (r6_ = 0 → PJ_M_hold_33 x1 x2 x1 x2 2 v0 Q))))) ∧ (r1_ = 0 → PJ_M_hold_33 x1 x2 x1 x2 1 v0 Q))))
set_option maxRecDepth 100000 in
theorem s_M_hold {l : Launch} {D : zD} {B : Nat} {sa : Nat → Nat} (hfl : l.stackTraces = false) {z : Nat} {G : zG} {b0 : Nat} {x1 : Int32} {x2 : Int32} {v0 : MT} {Q : Int32 → MT → Prop} (h0 : MA b0 v0 G) (h : P_M_hold x1 x2 v0 Q) : zSp l D B sa yX6_hold cX6_hold 3 (some .int) 3 66 0 0 [.ref b0, .int x1, .int x2] z G (zRi fun r z' G' => z = z' ∧ ∃ w, MA b0 w G' ∧ Fr b0 8 G G' ∧ Q r w) := by
  unfold P_M_hold at h
  refine z_ofW (by decide +kernel) hfl [some (.ref b0), some (.int x1), some (.int x2)] rfl (Nat.le_of_ble_eq_true rfl) (fun p e s m args below meth c O hret hlk hnm => ?_)
  have O : zO p l s m args c D B sa 3 cX6_hold RX6 := O
  have HJ33 : ∀ (y1 : Int32) (y2 : Int32) (u0 : Int32) (v0 : MT) (G9 : zG) (g0 : MA b0 v0 G9) (gF : Fr b0 8 G G9), PJ_M_hold_33 x1 x2 y1 y2 u0 v0 Q → zT p l e (zrm 3 66 0 0) s m args below meth c (zEnd below D B (zRi fun r z' G' => z = z' ∧ ∃ w, MA b0 w G' ∧ Fr b0 8 G G' ∧ Q r w) args s 0 0) D B 3 0 0 33 [.int u0, .ref b0] [some (.ref b0), some (.int y1), some (.int y2)] z G9 := by
    intro y1 y2 u0 v0 G9 g0 gF h
    unfold PJ_M_hold_33 at h
    refine z_callVi (As := [.int u0]) (st := []) O (s_M_refused hfl g0 h) wy_X6_refused wl_RX6_136 dX6_hold_33 rfl rfl (M_obj g0) ⟨by decide, rfl⟩ ⟨Nat.le_of_ble_eq_true rfl, Nat.le_of_ble_eq_true rfl⟩ (Nat.le_of_ble_eq_true rfl) ⟨Nat.le_of_ble_eq_true rfl, Nat.le_of_ble_eq_true rfl⟩ (fun r11_ z12_ G13_ hq14_ => ?_)
    obtain ⟨rfl, v15_, k16_, f17_, h⟩ := hq14_
    have F18_ : Fr b0 8 G G13_ := Fr.trans gF f17_
    refine z_if_eq (tgt := 41) O dX6_hold_36 (by decide) (fun c19_ => ?_) (fun c19_ => ?_)
    · have h := h.1 c19_
      refine z_aload_n O dX6_hold_41 rfl rfl ?_
      refine z_callVv (As := []) (st := []) O (s_M_remember hfl k16_ h) wy_X6_remember wl_RX6_254 dX6_hold_42 rfl rfl (M_obj k16_) ⟨by decide, rfl⟩ ⟨Nat.le_of_ble_eq_true rfl, Nat.le_of_ble_eq_true rfl⟩ (Nat.le_of_ble_eq_true rfl) ⟨Nat.le_of_ble_eq_true rfl, Nat.le_of_ble_eq_true rfl⟩ (fun z21_ G22_ hq23_ => ?_)
      obtain ⟨rfl, v24_, k25_, f26_, h⟩ := hq23_
      have F27_ : Fr b0 8 G G22_ := Fr.trans F18_ f26_
      refine z_aload_n O dX6_hold_45 rfl rfl ?_
      refine z_get (v := .ref (b0 + 1)) O wf_RX6_7 dX6_hold_46 (M_obj k25_) rfl ?_
      refine z_iload_n O dX6_hold_49 rfl rfl ?_
      refine z_iload_n O dX6_hold_50 rfl rfl ?_
      refine z_callSi (As := [.ref (b0 + 1), .int y1, .int y2]) (st := []) O (s_M_goHold hfl (M_now_of k25_) h) wy_X6_goHold wl_RX6_191 dX6_hold_51 rfl rfl ⟨Nat.le_of_ble_eq_true rfl, Nat.le_of_ble_eq_true rfl⟩ (Nat.le_of_ble_eq_true rfl) ⟨Nat.le_of_ble_eq_true rfl, Nat.le_of_ble_eq_true rfl⟩ (fun r28_ z29_ G30_ hq31_ => ?_)
      obtain ⟨rfl, v32_, k33_, f34_, h⟩ := hq31_
      have k35_ := M_put_now k25_ k33_ f34_
      have f36_ : Fr b0 8 G22_ G30_ := Fr.mono f34_ (by omega) (by omega)
      obtain ⟨v37_, ev37_⟩ : ∃ w, w = (M_set_now v24_ v32_) := ⟨_, rfl⟩
      have h := h v37_ ev37_
      have k38_ : MA b0 v37_ G30_ := by rw [ev37_]; exact k35_
      have F39_ : Fr b0 8 G G30_ := Fr.trans F27_ f36_
      exact z_iret O hret hlk dX6_hold_54 (Nat.le_of_ble_eq_true rfl) (Nat.le_of_ble_eq_true rfl) ⟨_, rfl, rfl, _, k38_, F39_, h⟩
    · have h := h.2 c19_
      refine z_iconst (v := 0) O dX6_hold_39 (by decide) ?_
      exact z_iret O hret hlk dX6_hold_40 (Nat.le_of_ble_eq_true rfl) (Nat.le_of_ble_eq_true rfl) ⟨_, rfl, rfl, _, k16_, F18_, h⟩
  refine z_aload_n O dX6_hold_0 rfl rfl ?_
  refine z_aload_n O dX6_hold_1 rfl rfl ?_
  refine z_get (v := .ref (b0 + 1)) O wf_RX6_7 dX6_hold_2 (M_obj h0) rfl ?_
  refine z_iload_n O dX6_hold_5 rfl rfl ?_
  refine z_callSi (As := [.ref (b0 + 1), .int x1]) (st := [.ref b0]) O (s_M_isReader hfl (M_now_of h0) h) wy_X6_isReader wl_RX6_184 dX6_hold_6 rfl rfl ⟨Nat.le_of_ble_eq_true rfl, Nat.le_of_ble_eq_true rfl⟩ (Nat.le_of_ble_eq_true rfl) ⟨Nat.le_of_ble_eq_true rfl, Nat.le_of_ble_eq_true rfl⟩ (fun r1_ z2_ G3_ hq4_ => ?_)
  obtain ⟨rfl, rfl, h⟩ := hq4_
  refine z_if_ne (tgt := 16) O dX6_hold_9 (by decide) (fun c5_ => ?_) (fun c5_ => ?_)
  · have h := h.1 c5_
    refine z_aload_n O dX6_hold_16 rfl rfl ?_
    refine z_get (v := .ref (b0 + 1)) O wf_RX6_7 dX6_hold_17 (M_obj h0) rfl ?_
    refine z_iload_n O dX6_hold_20 rfl rfl ?_
    refine z_iload_n O dX6_hold_21 rfl rfl ?_
    refine z_callSi (As := [.ref (b0 + 1), .int x1, .int x2]) (st := [.ref b0]) O (s_M_canHold hfl (M_now_of h0) h) wy_X6_canHold wl_RX6_187 dX6_hold_22 rfl rfl ⟨Nat.le_of_ble_eq_true rfl, Nat.le_of_ble_eq_true rfl⟩ (Nat.le_of_ble_eq_true rfl) ⟨Nat.le_of_ble_eq_true rfl, Nat.le_of_ble_eq_true rfl⟩ (fun r6_ z7_ G8_ hq9_ => ?_)
    obtain ⟨rfl, rfl, h⟩ := hq9_
    refine z_if_ne (tgt := 32) O dX6_hold_25 (by decide) (fun c10_ => ?_) (fun c10_ => ?_)
    · have h := h.1 c10_
      refine z_iconst (v := 0) O dX6_hold_32 (by decide) ?_
      exact z_subL (L' := [some (.ref b0), some (.int x1), some (.int x2)]) (zLe.sub (And.intro rfl (And.intro rfl (And.intro rfl True.intro)))) (HJ33 x1 x2 0 v0 G h0 Fr.rf h)
    · have h := h.2 c10_
      refine z_iconst (v := 2) O dX6_hold_28 (by decide) ?_
      refine z_goto (tgt := 33) O dX6_hold_29 (by decide) ?_
      exact z_subL (L' := [some (.ref b0), some (.int x1), some (.int x2)]) (zLe.sub (And.intro rfl (And.intro rfl (And.intro rfl True.intro)))) (HJ33 x1 x2 2 v0 G h0 Fr.rf h)
  · have h := h.2 c5_
    refine z_iconst (v := 1) O dX6_hold_12 (by decide) ?_
    refine z_goto (tgt := 33) O dX6_hold_13 (by decide) ?_
    exact z_subL (L' := [some (.ref b0), some (.int x1), some (.int x2)]) (zLe.sub (And.intro rfl (And.intro rfl (And.intro rfl True.intro)))) (HJ33 x1 x2 1 v0 G h0 Fr.rf h)
