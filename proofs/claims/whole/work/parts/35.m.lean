theorem dX6_two_0 : decode cX6_two 0 = .ok (.aload_n 0, 1) := by decide +kernel
theorem dX6_two_1 : decode cX6_two 1 = .ok (.iload_n 1, 1) := by decide +kernel
theorem dX6_two_2 : decode cX6_two 2 = .ok (.bipush 10, 2) := by decide +kernel
theorem dX6_two_4 : decode cX6_two 4 = .ok (.idiv, 1) := by decide +kernel
theorem dX6_two_5 : decode cX6_two 5 = .ok (.iload_n 2, 1) := by decide +kernel
theorem dX6_two_6 : decode cX6_two 6 = .ok (.bipush 10, 2) := by decide +kernel
theorem dX6_two_8 : decode cX6_two 8 = .ok (.idiv, 1) := by decide +kernel
theorem dX6_two_9 : decode cX6_two 9 = .ok (.invokevirtual 154, 3) := by decide +kernel
theorem dX6_two_12 : decode cX6_two 12 = .ok (.istore_n 3, 1) := by decide +kernel
theorem dX6_two_13 : decode cX6_two 13 = .ok (.bipush 10, 2) := by decide +kernel
theorem dX6_two_15 : decode cX6_two 15 = .ok (.iload_n 3, 1) := by decide +kernel
theorem dX6_two_16 : decode cX6_two 16 = .ok (.imul, 1) := by decide +kernel
theorem dX6_two_17 : decode cX6_two 17 = .ok (.aload_n 0, 1) := by decide +kernel
theorem dX6_two_18 : decode cX6_two 18 = .ok (.iload_n 3, 1) := by decide +kernel
theorem dX6_two_19 : decode cX6_two 19 = .ok (.iload_n 1, 1) := by decide +kernel
theorem dX6_two_20 : decode cX6_two 20 = .ok (.bipush 10, 2) := by decide +kernel
theorem dX6_two_22 : decode cX6_two 22 = .ok (.idiv, 1) := by decide +kernel
theorem dX6_two_23 : decode cX6_two 23 = .ok (.if_icmp .ne 10, 3) := by decide +kernel
theorem dX6_two_26 : decode cX6_two 26 = .ok (.iload_n 1, 1) := by decide +kernel
theorem dX6_two_27 : decode cX6_two 27 = .ok (.bipush 10, 2) := by decide +kernel
theorem dX6_two_29 : decode cX6_two 29 = .ok (.irem, 1) := by decide +kernel
theorem dX6_two_30 : decode cX6_two 30 = .ok (.goto 4, 3) := by decide +kernel
theorem dX6_two_33 : decode cX6_two 33 = .ok (.iconst 0, 1) := by decide +kernel
theorem dX6_two_34 : decode cX6_two 34 = .ok (.iload_n 3, 1) := by decide +kernel
theorem dX6_two_35 : decode cX6_two 35 = .ok (.iload_n 2, 1) := by decide +kernel
theorem dX6_two_36 : decode cX6_two 36 = .ok (.bipush 10, 2) := by decide +kernel
theorem dX6_two_38 : decode cX6_two 38 = .ok (.idiv, 1) := by decide +kernel
theorem dX6_two_39 : decode cX6_two 39 = .ok (.if_icmp .ne 10, 3) := by decide +kernel
theorem dX6_two_42 : decode cX6_two 42 = .ok (.iload_n 2, 1) := by decide +kernel
theorem dX6_two_43 : decode cX6_two 43 = .ok (.bipush 10, 2) := by decide +kernel
theorem dX6_two_45 : decode cX6_two 45 = .ok (.irem, 1) := by decide +kernel
theorem dX6_two_46 : decode cX6_two 46 = .ok (.goto 5, 3) := by decide +kernel
theorem dX6_two_49 : decode cX6_two 49 = .ok (.bipush 9, 2) := by decide +kernel
theorem dX6_two_51 : decode cX6_two 51 = .ok (.invokevirtual 154, 3) := by decide +kernel
theorem dX6_two_54 : decode cX6_two 54 = .ok (.iadd, 1) := by decide +kernel
theorem dX6_two_55 : decode cX6_two 55 = .ok (.ireturn, 1) := by decide +kernel
def PJ_M_two_34 (x1 : Int32) (x2 : Int32) (y2 : Int32) (y3 : Int32) (u0 : Int32) (u2 : Int32) (v0 : MT) (Q : Int32 → MT → Prop) : Prop := ((¬ y3 = (y2 / 10) → P_M_digit u0 9 v0 (fun r11_ v15_ => (Q (u2 + r11_) v15_))) ∧ (y3 = (y2 / 10) → P_M_digit u0 (zrem y2 10) v0 (fun r19_ v23_ => (Q (u2 + r19_) v23_))))
def P_M_two (x1 : Int32) (x2 : Int32) (v0 : MT) (Q : Int32 → MT → Prop) : Prop := P_M_digit (x1 / 10) (x2 / 10) v0 (fun r1_ v5_ => (((¬ r1_ = (x1 / 10) → PJ_M_two_34 x1 x2 x2 r1_ 0 (10 * r1_) v5_ Q) ∧ (r1_ = (x1 / 10) → PJ_M_two_34 x1 x2 x2 r1_ (zrem x1 10) (10 * r1_) v5_ Q))))
set_option maxRecDepth 100000 in
theorem s_M_two {l : Launch} {D : zD} {B : Nat} {sa : Nat → Nat} (hfl : l.stackTraces = false) {z : Nat} {G : zG} {b0 : Nat} {x1 : Int32} {x2 : Int32} {v0 : MT} {Q : Int32 → MT → Prop} (h0 : MA b0 v0 G) (h : P_M_two x1 x2 v0 Q) : zSp l D B sa yX6_two cX6_two 4 (some .int) 2 48 0 0 [.ref b0, .int x1, .int x2] z G (zRi fun r z' G' => z = z' ∧ ∃ w, MA b0 w G' ∧ Fr b0 8 G G' ∧ Q r w) := by
  unfold P_M_two at h
  refine z_ofW (by decide +kernel) hfl [some (.ref b0), some (.int x1), some (.int x2), none] rfl (Nat.le_of_ble_eq_true rfl) (fun p e s m args below meth c O hret hlk hnm => ?_)
  have O : zO p l s m args c D B sa 4 cX6_two RX6 := O
  have HJ34 : ∀ (y2 : Int32) (y3 : Int32) (u0 : Int32) (u2 : Int32) (v0 : MT) (G9 : zG) (g0 : MA b0 v0 G9) (gF : Fr b0 8 G G9), PJ_M_two_34 x1 x2 y2 y3 u0 u2 v0 Q → zT p l e (zrm 2 48 0 0) s m args below meth c (zEnd below D B (zRi fun r z' G' => z = z' ∧ ∃ w, MA b0 w G' ∧ Fr b0 8 G G' ∧ Q r w) args s 0 0) D B 4 0 0 34 [.int u0, .ref b0, .int u2] [none, none, some (.int y2), some (.int y3)] z G9 := by
    intro y2 y3 u0 u2 v0 G9 g0 gF h
    unfold PJ_M_two_34 at h
    refine z_iload_n O dX6_two_34 rfl rfl ?_
    refine z_iload_n O dX6_two_35 rfl rfl ?_
    refine z_bipush (v := 10) O dX6_two_36 (by decide) ?_
    refine z_idiv O dX6_two_38 (by decide) ?_
    refine z_icmp_ne (tgt := 49) O dX6_two_39 (by decide) (fun c10_ => ?_) (fun c10_ => ?_)
    · have h := h.1 c10_
      refine z_bipush (v := 9) O dX6_two_49 (by decide) ?_
      refine z_callVi (As := [.int u0, .int 9]) (st := [.int u2]) O (s_M_digit hfl g0 h) wy_X6_digit wl_RX6_154 dX6_two_51 rfl rfl (M_obj g0) ⟨by decide, rfl⟩ ⟨Nat.le_of_ble_eq_true rfl, Nat.le_of_ble_eq_true rfl⟩ (Nat.le_of_ble_eq_true rfl) ⟨Nat.le_of_ble_eq_true rfl, Nat.le_of_ble_eq_true rfl⟩ (fun r11_ z12_ G13_ hq14_ => ?_)
      obtain ⟨rfl, v15_, k16_, f17_, h⟩ := hq14_
      have F18_ : Fr b0 8 G G13_ := Fr.trans gF f17_
      refine z_iadd O dX6_two_54 ?_
      exact z_iret O hret hlk dX6_two_55 (Nat.le_of_ble_eq_true rfl) (Nat.le_of_ble_eq_true rfl) ⟨_, rfl, rfl, _, k16_, F18_, h⟩
    · have h := h.2 c10_
      refine z_iload_n O dX6_two_42 rfl rfl ?_
      refine z_bipush (v := 10) O dX6_two_43 (by decide) ?_
      refine z_irem O dX6_two_45 (by decide) ?_
      refine z_goto (tgt := 51) O dX6_two_46 (by decide) ?_
      refine z_callVi (As := [.int u0, .int (zrem y2 10)]) (st := [.int u2]) O (s_M_digit hfl g0 h) wy_X6_digit wl_RX6_154 dX6_two_51 rfl rfl (M_obj g0) ⟨by decide, rfl⟩ ⟨Nat.le_of_ble_eq_true rfl, Nat.le_of_ble_eq_true rfl⟩ (Nat.le_of_ble_eq_true rfl) ⟨Nat.le_of_ble_eq_true rfl, Nat.le_of_ble_eq_true rfl⟩ (fun r19_ z20_ G21_ hq22_ => ?_)
      obtain ⟨rfl, v23_, k24_, f25_, h⟩ := hq22_
      have F26_ : Fr b0 8 G G21_ := Fr.trans gF f25_
      refine z_iadd O dX6_two_54 ?_
      exact z_iret O hret hlk dX6_two_55 (Nat.le_of_ble_eq_true rfl) (Nat.le_of_ble_eq_true rfl) ⟨_, rfl, rfl, _, k24_, F26_, h⟩
  refine z_aload_n O dX6_two_0 rfl rfl ?_
  refine z_iload_n O dX6_two_1 rfl rfl ?_
  refine z_bipush (v := 10) O dX6_two_2 (by decide) ?_
  refine z_idiv O dX6_two_4 (by decide) ?_
  refine z_iload_n O dX6_two_5 rfl rfl ?_
  refine z_bipush (v := 10) O dX6_two_6 (by decide) ?_
  refine z_idiv O dX6_two_8 (by decide) ?_
  refine z_callVi (As := [.int (x1 / 10), .int (x2 / 10)]) (st := []) O (s_M_digit hfl h0 h) wy_X6_digit wl_RX6_154 dX6_two_9 rfl rfl (M_obj h0) ⟨by decide, rfl⟩ ⟨Nat.le_of_ble_eq_true rfl, Nat.le_of_ble_eq_true rfl⟩ (Nat.le_of_ble_eq_true rfl) ⟨Nat.le_of_ble_eq_true rfl, Nat.le_of_ble_eq_true rfl⟩ (fun r1_ z2_ G3_ hq4_ => ?_)
  obtain ⟨rfl, v5_, k6_, f7_, h⟩ := hq4_
  have F8_ : Fr b0 8 G G3_ := Fr.trans Fr.rf f7_
  refine z_istore_n (L' := [some (.ref b0), some (.int x1), some (.int x2), some (.int r1_)]) O dX6_two_12 rfl (by decide) rfl ?_
  refine z_bipush (v := 10) O dX6_two_13 (by decide) ?_
  refine z_iload_n O dX6_two_15 rfl rfl ?_
  refine z_imul O dX6_two_16 ?_
  refine z_aload_n O dX6_two_17 rfl rfl ?_
  refine z_iload_n O dX6_two_18 rfl rfl ?_
  refine z_iload_n O dX6_two_19 rfl rfl ?_
  refine z_bipush (v := 10) O dX6_two_20 (by decide) ?_
  refine z_idiv O dX6_two_22 (by decide) ?_
  refine z_icmp_ne (tgt := 33) O dX6_two_23 (by decide) (fun c9_ => ?_) (fun c9_ => ?_)
  · have h := h.1 c9_
    refine z_iconst (v := 0) O dX6_two_33 (by decide) ?_
    exact z_subL (L' := [none, none, some (.int x2), some (.int r1_)]) (zLe.sub (And.intro rfl (And.intro rfl True.intro))) (HJ34 x2 r1_ 0 (10 * r1_) v5_ G3_ k6_ F8_ h)
  · have h := h.2 c9_
    refine z_iload_n O dX6_two_26 rfl rfl ?_
    refine z_bipush (v := 10) O dX6_two_27 (by decide) ?_
    refine z_irem O dX6_two_29 (by decide) ?_
    refine z_goto (tgt := 34) O dX6_two_30 (by decide) ?_
    exact z_subL (L' := [none, none, some (.int x2), some (.int r1_)]) (zLe.sub (And.intro rfl (And.intro rfl True.intro))) (HJ34 x2 r1_ (zrem x1 10) (10 * r1_) v5_ G3_ k6_ F8_ h)

theorem dX6_sign_0 : decode cX6_sign 0 = .ok (.aload_n 0, 1) := by decide +kernel
theorem dX6_sign_1 : decode cX6_sign 1 = .ok (.invokevirtual 146, 3) := by decide +kernel
theorem dX6_sign_4 : decode cX6_sign 4 = .ok (.istore_n 1, 1) := by decide +kernel
theorem dX6_sign_5 : decode cX6_sign 5 = .ok (.aload_n 0, 1) := by decide +kernel
theorem dX6_sign_6 : decode cX6_sign 6 = .ok (.iload_n 1, 1) := by decide +kernel
theorem dX6_sign_7 : decode cX6_sign 7 = .ok (.bipush 43, 2) := by decide +kernel
theorem dX6_sign_9 : decode cX6_sign 9 = .ok (.if_icmp .eq 9, 3) := by decide +kernel
theorem dX6_sign_12 : decode cX6_sign 12 = .ok (.iload_n 1, 1) := by decide +kernel
theorem dX6_sign_13 : decode cX6_sign 13 = .ok (.bipush 45, 2) := by decide +kernel
theorem dX6_sign_15 : decode cX6_sign 15 = .ok (.if_icmp .ne 7, 3) := by decide +kernel
theorem dX6_sign_18 : decode cX6_sign 18 = .ok (.iconst 1, 1) := by decide +kernel
theorem dX6_sign_19 : decode cX6_sign 19 = .ok (.goto 4, 3) := by decide +kernel
theorem dX6_sign_22 : decode cX6_sign 22 = .ok (.iconst 0, 1) := by decide +kernel
theorem dX6_sign_23 : decode cX6_sign 23 = .ok (.invokevirtual 150, 3) := by decide +kernel
theorem dX6_sign_26 : decode cX6_sign 26 = .ok (.iload_n 1, 1) := by decide +kernel
theorem dX6_sign_27 : decode cX6_sign 27 = .ok (.bipush 43, 2) := by decide +kernel
theorem dX6_sign_29 : decode cX6_sign 29 = .ok (.if_icmp .ne 7, 3) := by decide +kernel
theorem dX6_sign_32 : decode cX6_sign 32 = .ok (.iconst 1, 1) := by decide +kernel
theorem dX6_sign_33 : decode cX6_sign 33 = .ok (.goto 4, 3) := by decide +kernel
theorem dX6_sign_36 : decode cX6_sign 36 = .ok (.iconst 0, 1) := by decide +kernel
theorem dX6_sign_37 : decode cX6_sign 37 = .ok (.ireturn, 1) := by decide +kernel
def PJ_M_sign_18 (y1 : Int32) (v0 : MT) (Q : Int32 → MT → Prop) : Prop := P_M_take 1 v0 (fun v10_ => (((¬ y1 = 43 → Q 0 v10_) ∧ (y1 = 43 → Q 1 v10_))))
def P_M_sign (v0 : MT) (Q : Int32 → MT → Prop) : Prop := P_M_here v0 (fun r1_ => (((r1_ = 43 → PJ_M_sign_18 r1_ v0 Q) ∧ (¬ r1_ = 43 → ((¬ r1_ = 45 → P_M_take 0 v0 (fun v20_ => (((¬ r1_ = 43 → Q 0 v20_) ∧ (r1_ = 43 → Q 1 v20_))))) ∧ (r1_ = 45 → PJ_M_sign_18 r1_ v0 Q))))))
set_option maxRecDepth 100000 in
theorem s_M_sign {l : Launch} {D : zD} {B : Nat} {sa : Nat → Nat} (hfl : l.stackTraces = false) {z : Nat} {G : zG} {b0 : Nat} {v0 : MT} {Q : Int32 → MT → Prop} (h0 : MA b0 v0 G) (h : P_M_sign v0 Q) : zSp l D B sa yX6_sign cX6_sign 2 (some .boolean) 1 21 0 0 [.ref b0] z G (zRi fun r z' G' => z = z' ∧ ∃ w, MA b0 w G' ∧ Fr b0 8 G G' ∧ Q r w) := by
  unfold P_M_sign at h
  refine z_ofW (by decide +kernel) hfl [some (.ref b0), none] rfl (Nat.le_of_ble_eq_true rfl) (fun p e s m args below meth c O hret hlk hnm => ?_)
  have O : zO p l s m args c D B sa 2 cX6_sign RX6 := O
  have HJ18 : ∀ (y1 : Int32) (v0 : MT) (G9 : zG) (g0 : MA b0 v0 G9) (gF : Fr b0 8 G G9), PJ_M_sign_18 y1 v0 Q → zT p l e (zrm 1 21 0 0) s m args below meth c (zEnd below D B (zRi fun r z' G' => z = z' ∧ ∃ w, MA b0 w G' ∧ Fr b0 8 G G' ∧ Q r w) args s 0 0) D B 2 0 0 18 [.ref b0] [none, some (.int y1)] z G9 := by
    intro y1 v0 G9 g0 gF h
    unfold PJ_M_sign_18 at h
    refine z_iconst (v := 1) O dX6_sign_18 (by decide) ?_
    refine z_goto (tgt := 23) O dX6_sign_19 (by decide) ?_
    refine z_callVv (As := [.int 1]) (st := []) O (s_M_take hfl g0 h) wy_X6_take wl_RX6_150 dX6_sign_23 rfl rfl (M_obj g0) ⟨by decide, rfl⟩ ⟨Nat.le_of_ble_eq_true rfl, Nat.le_of_ble_eq_true rfl⟩ (Nat.le_of_ble_eq_true rfl) ⟨Nat.le_of_ble_eq_true rfl, Nat.le_of_ble_eq_true rfl⟩ (fun z7_ G8_ hq9_ => ?_)
    obtain ⟨rfl, v10_, k11_, f12_, h⟩ := hq9_
    have F13_ : Fr b0 8 G G8_ := Fr.trans gF f12_
    refine z_iload_n O dX6_sign_26 rfl rfl ?_
    refine z_bipush (v := 43) O dX6_sign_27 (by decide) ?_
    refine z_icmp_ne (tgt := 36) O dX6_sign_29 (by decide) (fun c14_ => ?_) (fun c14_ => ?_)
    · have h := h.1 c14_
      refine z_iconst (v := 0) O dX6_sign_36 (by decide) ?_
      exact z_zret O hret rfl hlk dX6_sign_37 (Nat.le_of_ble_eq_true rfl) (Nat.le_of_ble_eq_true rfl) ⟨_, rfl, rfl, _, k11_, F13_, h⟩
    · have h := h.2 c14_
      refine z_iconst (v := 1) O dX6_sign_32 (by decide) ?_
      refine z_goto (tgt := 37) O dX6_sign_33 (by decide) ?_
      exact z_zret O hret rfl hlk dX6_sign_37 (Nat.le_of_ble_eq_true rfl) (Nat.le_of_ble_eq_true rfl) ⟨_, rfl, rfl, _, k11_, F13_, h⟩
  refine z_aload_n O dX6_sign_0 rfl rfl ?_
  refine z_callVi (As := []) (st := []) O (s_M_here hfl h0 h) wy_X6_here wl_RX6_146 dX6_sign_1 rfl rfl (M_obj h0) ⟨by decide, rfl⟩ ⟨Nat.le_of_ble_eq_true rfl, Nat.le_of_ble_eq_true rfl⟩ (Nat.le_of_ble_eq_true rfl) ⟨Nat.le_of_ble_eq_true rfl, Nat.le_of_ble_eq_true rfl⟩ (fun r1_ z2_ G3_ hq4_ => ?_)
  obtain ⟨rfl, rfl, h⟩ := hq4_
  refine z_istore_n (L' := [some (.ref b0), some (.int r1_)]) O dX6_sign_4 rfl (by decide) rfl ?_
  refine z_aload_n O dX6_sign_5 rfl rfl ?_
  refine z_iload_n O dX6_sign_6 rfl rfl ?_
  refine z_bipush (v := 43) O dX6_sign_7 (by decide) ?_
  refine z_icmp_eq (tgt := 18) O dX6_sign_9 (by decide) (fun c5_ => ?_) (fun c5_ => ?_)
  · have h := h.1 c5_
    exact z_subL (L' := [none, some (.int r1_)]) (zLe.sub (And.intro rfl True.intro)) (HJ18 r1_ v0 G h0 Fr.rf h)
  · have h := h.2 c5_
    refine z_iload_n O dX6_sign_12 rfl rfl ?_
    refine z_bipush (v := 45) O dX6_sign_13 (by decide) ?_
    refine z_icmp_ne (tgt := 22) O dX6_sign_15 (by decide) (fun c15_ => ?_) (fun c15_ => ?_)
    · have h := h.1 c15_
      refine z_iconst (v := 0) O dX6_sign_22 (by decide) ?_
      refine z_callVv (As := [.int 0]) (st := []) O (s_M_take hfl h0 h) wy_X6_take wl_RX6_150 dX6_sign_23 rfl rfl (M_obj h0) ⟨by decide, rfl⟩ ⟨Nat.le_of_ble_eq_true rfl, Nat.le_of_ble_eq_true rfl⟩ (Nat.le_of_ble_eq_true rfl) ⟨Nat.le_of_ble_eq_true rfl, Nat.le_of_ble_eq_true rfl⟩ (fun z17_ G18_ hq19_ => ?_)
      obtain ⟨rfl, v20_, k21_, f22_, h⟩ := hq19_
      have F23_ : Fr b0 8 G G18_ := Fr.trans Fr.rf f22_
      refine z_iload_n O dX6_sign_26 rfl rfl ?_
      refine z_bipush (v := 43) O dX6_sign_27 (by decide) ?_
      refine z_icmp_ne (tgt := 36) O dX6_sign_29 (by decide) (fun c24_ => ?_) (fun c24_ => ?_)
      · have h := h.1 c24_
        refine z_iconst (v := 0) O dX6_sign_36 (by decide) ?_
        exact z_zret O hret rfl hlk dX6_sign_37 (Nat.le_of_ble_eq_true rfl) (Nat.le_of_ble_eq_true rfl) ⟨_, rfl, rfl, _, k21_, F23_, h⟩
      · have h := h.2 c24_
        refine z_iconst (v := 1) O dX6_sign_32 (by decide) ?_
        refine z_goto (tgt := 37) O dX6_sign_33 (by decide) ?_
        exact z_zret O hret rfl hlk dX6_sign_37 (Nat.le_of_ble_eq_true rfl) (Nat.le_of_ble_eq_true rfl) ⟨_, rfl, rfl, _, k21_, F23_, h⟩
    · have h := h.2 c15_
      exact z_subL (L' := [none, some (.int r1_)]) (zLe.sub (And.intro rfl True.intro)) (HJ18 r1_ v0 G h0 Fr.rf h)

theorem dX6_goes_0 : decode cX6_goes 0 = .ok (.aload_n 0, 1) := by decide +kernel
theorem dX6_goes_1 : decode cX6_goes 1 = .ok (.dup, 1) := by decide +kernel
theorem dX6_goes_2 : decode cX6_goes 2 = .ok (.getfield 158, 3) := by decide +kernel
theorem dX6_goes_5 : decode cX6_goes 5 = .ok (.aload_n 0, 1) := by decide +kernel
theorem dX6_goes_6 : decode cX6_goes 6 = .ok (.getfield 142, 3) := by decide +kernel
theorem dX6_goes_9 : decode cX6_goes 9 = .ok (.ifCond .eq 11, 3) := by decide +kernel
theorem dX6_goes_12 : decode cX6_goes 12 = .ok (.iload_n 1, 1) := by decide +kernel
theorem dX6_goes_13 : decode cX6_goes 13 = .ok (.ifCond .ne 7, 3) := by decide +kernel
theorem dX6_goes_16 : decode cX6_goes 16 = .ok (.iconst 1, 1) := by decide +kernel
theorem dX6_goes_17 : decode cX6_goes 17 = .ok (.goto 4, 3) := by decide +kernel
theorem dX6_goes_20 : decode cX6_goes 20 = .ok (.iconst 0, 1) := by decide +kernel
theorem dX6_goes_21 : decode cX6_goes 21 = .ok (.iadd, 1) := by decide +kernel
theorem dX6_goes_22 : decode cX6_goes 22 = .ok (.putfield 158, 3) := by decide +kernel
theorem dX6_goes_25 : decode cX6_goes 25 = .ok (.aload_n 0, 1) := by decide +kernel
theorem dX6_goes_26 : decode cX6_goes 26 = .ok (.getfield 142, 3) := by decide +kernel
theorem dX6_goes_29 : decode cX6_goes 29 = .ok (.ifCond .eq 11, 3) := by decide +kernel
theorem dX6_goes_32 : decode cX6_goes 32 = .ok (.iload_n 1, 1) := by decide +kernel
theorem dX6_goes_33 : decode cX6_goes 33 = .ok (.ifCond .eq 7, 3) := by decide +kernel
theorem dX6_goes_36 : decode cX6_goes 36 = .ok (.iconst 1, 1) := by decide +kernel
theorem dX6_goes_37 : decode cX6_goes 37 = .ok (.goto 4, 3) := by decide +kernel
theorem dX6_goes_40 : decode cX6_goes 40 = .ok (.iconst 0, 1) := by decide +kernel
theorem dX6_goes_41 : decode cX6_goes 41 = .ok (.ireturn, 1) := by decide +kernel
def PJ_M_goes_21 (x1 : Int32) (y1 : Int32) (u0 : Int32) (u1 : Int32) (v0 : MT) (Q : Int32 → MT → Prop) : Prop := ∀ v7_, v7_ = (M_set_leftOut v0 (u1 + u0)) → ((((M_good v7_) = 0 → Q 0 v7_) ∧ (¬ (M_good v7_) = 0 → ((y1 = 0 → Q 0 v7_) ∧ (¬ y1 = 0 → Q 1 v7_)))))
def PJ_M_goes_20 (x1 : Int32) (y1 : Int32) (u0 : Int32) (v0 : MT) (Q : Int32 → MT → Prop) : Prop := PJ_M_goes_21 x1 y1 0 u0 v0 Q
def P_M_goes (x1 : Int32) (v0 : MT) (Q : Int32 → MT → Prop) : Prop := (((M_good v0) = 0 → PJ_M_goes_20 x1 x1 (M_leftOut v0) v0 Q) ∧ (¬ (M_good v0) = 0 → ((¬ x1 = 0 → PJ_M_goes_20 x1 x1 (M_leftOut v0) v0 Q) ∧ (x1 = 0 → PJ_M_goes_21 x1 x1 1 (M_leftOut v0) v0 Q))))
set_option maxRecDepth 100000 in
theorem s_M_goes {l : Launch} {D : zD} {B : Nat} {sa : Nat → Nat} (hfl : l.stackTraces = false) {z : Nat} {G : zG} {b0 : Nat} {x1 : Int32} {v0 : MT} {Q : Int32 → MT → Prop} (h0 : MA b0 v0 G) (h : P_M_goes x1 v0 Q) : zSp l D B sa yX6_goes cX6_goes 2 (some .boolean) 0 0 0 0 [.ref b0, .int x1] z G (zRi fun r z' G' => z = z' ∧ ∃ w, MA b0 w G' ∧ Fr b0 8 G G' ∧ Q r w) := by
  unfold P_M_goes at h
  refine z_ofW (by decide +kernel) hfl [some (.ref b0), some (.int x1)] rfl (Nat.le_of_ble_eq_true rfl) (fun p e s m args below meth c O hret hlk hnm => ?_)
  have O : zO p l s m args c D B sa 2 cX6_goes RX6 := O
  have HJ21 : ∀ (y1 : Int32) (u0 : Int32) (u1 : Int32) (v0 : MT) (G9 : zG) (g0 : MA b0 v0 G9) (gF : Fr b0 8 G G9), PJ_M_goes_21 x1 y1 u0 u1 v0 Q → zT p l e (zrm 0 0 0 0) s m args below meth c (zEnd below D B (zRi fun r z' G' => z = z' ∧ ∃ w, MA b0 w G' ∧ Fr b0 8 G G' ∧ Q r w) args s 0 0) D B 2 0 0 21 [.int u0, .int u1, .ref b0] [some (.ref b0), some (.int y1)] z G9 := by
    intro y1 u0 u1 v0 G9 g0 gF h
    unfold PJ_M_goes_21 at h
    refine z_iadd O dX6_goes_21 ?_
    refine y_put O wp_RX6_158 dX6_goes_22 (M_obj g0) rfl rfl (fun G2_ hw3_ => ?_)
    have k4_ := M_w_leftOut g0 hw3_
    have f5_ := hw3_.fr
    have f6_ : Fr b0 8 G9 G2_ := Fr.mono f5_ (by omega) (by omega)
    obtain ⟨v7_, ev7_⟩ : ∃ w, w = (M_set_leftOut v0 (u1 + u0)) := ⟨_, rfl⟩
    have h := h v7_ ev7_
    have k8_ : MA b0 v7_ G2_ := by rw [ev7_]; exact k4_
    have F9_ : Fr b0 8 G G2_ := Fr.trans gF f6_
    refine z_aload_n O dX6_goes_25 rfl rfl ?_
    refine z_get (v := .int (M_good v7_)) O wf_RX6_142 dX6_goes_26 (M_obj k8_) rfl ?_
    refine z_if_eq (tgt := 40) O dX6_goes_29 (by decide) (fun c10_ => ?_) (fun c10_ => ?_)
    · have h := h.1 c10_
      refine z_iconst (v := 0) O dX6_goes_40 (by decide) ?_
      exact z_zret O hret rfl hlk dX6_goes_41 (Nat.le_of_ble_eq_true rfl) (Nat.le_of_ble_eq_true rfl) ⟨_, rfl, rfl, _, k8_, F9_, h⟩
    · have h := h.2 c10_
      refine z_iload_n O dX6_goes_32 rfl rfl ?_
      refine z_if_eq (tgt := 40) O dX6_goes_33 (by decide) (fun c11_ => ?_) (fun c11_ => ?_)
      · have h := h.1 c11_
        refine z_iconst (v := 0) O dX6_goes_40 (by decide) ?_
        exact z_zret O hret rfl hlk dX6_goes_41 (Nat.le_of_ble_eq_true rfl) (Nat.le_of_ble_eq_true rfl) ⟨_, rfl, rfl, _, k8_, F9_, h⟩
      · have h := h.2 c11_
        refine z_iconst (v := 1) O dX6_goes_36 (by decide) ?_
        refine z_goto (tgt := 41) O dX6_goes_37 (by decide) ?_
        exact z_zret O hret rfl hlk dX6_goes_41 (Nat.le_of_ble_eq_true rfl) (Nat.le_of_ble_eq_true rfl) ⟨_, rfl, rfl, _, k8_, F9_, h⟩
  have HJ20 : ∀ (y1 : Int32) (u0 : Int32) (v0 : MT) (G9 : zG) (g0 : MA b0 v0 G9) (gF : Fr b0 8 G G9), PJ_M_goes_20 x1 y1 u0 v0 Q → zT p l e (zrm 0 0 0 0) s m args below meth c (zEnd below D B (zRi fun r z' G' => z = z' ∧ ∃ w, MA b0 w G' ∧ Fr b0 8 G G' ∧ Q r w) args s 0 0) D B 2 0 0 20 [.int u0, .ref b0] [some (.ref b0), some (.int y1)] z G9 := by
    intro y1 u0 v0 G9 g0 gF h
    unfold PJ_M_goes_20 at h
    refine z_iconst (v := 0) O dX6_goes_20 (by decide) ?_
    exact z_subL (L' := [some (.ref b0), some (.int y1)]) (zLe.sub (And.intro rfl (And.intro rfl True.intro))) (HJ21 y1 0 u0 v0 G9 g0 gF h)
  refine z_aload_n O dX6_goes_0 rfl rfl ?_
  refine z_dup O dX6_goes_1 rfl ?_
  refine z_get (v := .int (M_leftOut v0)) O wf_RX6_158 dX6_goes_2 (M_obj h0) rfl ?_
  refine z_aload_n O dX6_goes_5 rfl rfl ?_
  refine z_get (v := .int (M_good v0)) O wf_RX6_142 dX6_goes_6 (M_obj h0) rfl ?_
  refine z_if_eq (tgt := 20) O dX6_goes_9 (by decide) (fun c1_ => ?_) (fun c1_ => ?_)
  · have h := h.1 c1_
    exact z_subL (L' := [some (.ref b0), some (.int x1)]) (zLe.sub (And.intro rfl (And.intro rfl True.intro))) (HJ20 x1 (M_leftOut v0) v0 G h0 Fr.rf h)
  · have h := h.2 c1_
    refine z_iload_n O dX6_goes_12 rfl rfl ?_
    refine z_if_ne (tgt := 20) O dX6_goes_13 (by decide) (fun c12_ => ?_) (fun c12_ => ?_)
    · have h := h.1 c12_
      exact z_subL (L' := [some (.ref b0), some (.int x1)]) (zLe.sub (And.intro rfl (And.intro rfl True.intro))) (HJ20 x1 (M_leftOut v0) v0 G h0 Fr.rf h)
    · have h := h.2 c12_
      refine z_iconst (v := 1) O dX6_goes_16 (by decide) ?_
      refine z_goto (tgt := 21) O dX6_goes_17 (by decide) ?_
      exact z_subL (L' := [some (.ref b0), some (.int x1)]) (zLe.sub (And.intro rfl (And.intro rfl True.intro))) (HJ21 x1 1 (M_leftOut v0) v0 G h0 Fr.rf h)

theorem dX6_readWrite_0 : decode cX6_readWrite 0 = .ok (.aload_n 0, 1) := by decide +kernel
theorem dX6_readWrite_1 : decode cX6_readWrite 1 = .ok (.iconst 0, 1) := by decide +kernel
theorem dX6_readWrite_2 : decode cX6_readWrite 2 = .ok (.bipush 7, 2) := by decide +kernel
theorem dX6_readWrite_4 : decode cX6_readWrite 4 = .ok (.invokevirtual 154, 3) := by decide +kernel
theorem dX6_readWrite_7 : decode cX6_readWrite 7 = .ok (.istore_n 1, 1) := by decide +kernel
theorem dX6_readWrite_8 : decode cX6_readWrite 8 = .ok (.aload_n 0, 1) := by decide +kernel
theorem dX6_readWrite_9 : decode cX6_readWrite 9 = .ok (.iconst 0, 1) := by decide +kernel
theorem dX6_readWrite_10 : decode cX6_readWrite 10 = .ok (.bipush 99, 2) := by decide +kernel
theorem dX6_readWrite_12 : decode cX6_readWrite 12 = .ok (.invokevirtual 161, 3) := by decide +kernel
theorem dX6_readWrite_15 : decode cX6_readWrite 15 = .ok (.istore_n 2, 1) := by decide +kernel
theorem dX6_readWrite_16 : decode cX6_readWrite 16 = .ok (.aload_n 0, 1) := by decide +kernel
theorem dX6_readWrite_17 : decode cX6_readWrite 17 = .ok (.iconst 1, 1) := by decide +kernel
theorem dX6_readWrite_18 : decode cX6_readWrite 18 = .ok (.bipush 40, 2) := by decide +kernel
theorem dX6_readWrite_20 : decode cX6_readWrite 20 = .ok (.invokevirtual 161, 3) := by decide +kernel
theorem dX6_readWrite_23 : decode cX6_readWrite 23 = .ok (.istore_n 3, 1) := by decide +kernel
theorem dX6_readWrite_24 : decode cX6_readWrite 24 = .ok (.aload_n 0, 1) := by decide +kernel
theorem dX6_readWrite_25 : decode cX6_readWrite 25 = .ok (.aload_n 0, 1) := by decide +kernel
theorem dX6_readWrite_26 : decode cX6_readWrite 26 = .ok (.getfield 16, 3) := by decide +kernel
theorem dX6_readWrite_29 : decode cX6_readWrite 29 = .ok (.sipush 401, 3) := by decide +kernel
theorem dX6_readWrite_32 : decode cX6_readWrite 32 = .ok (.iaload, 1) := by decide +kernel
theorem dX6_readWrite_33 : decode cX6_readWrite 33 = .ok (.sipush 200, 3) := by decide +kernel
theorem dX6_readWrite_36 : decode cX6_readWrite 36 = .ok (.if_icmp .ge 7, 3) := by decide +kernel
theorem dX6_readWrite_39 : decode cX6_readWrite 39 = .ok (.iconst 1, 1) := by decide +kernel
theorem dX6_readWrite_40 : decode cX6_readWrite 40 = .ok (.goto 4, 3) := by decide +kernel
theorem dX6_readWrite_43 : decode cX6_readWrite 43 = .ok (.iconst 0, 1) := by decide +kernel
theorem dX6_readWrite_44 : decode cX6_readWrite 44 = .ok (.invokevirtual 164, 3) := by decide +kernel
theorem dX6_readWrite_47 : decode cX6_readWrite 47 = .ok (.ifCond .eq 14, 3) := by decide +kernel
theorem dX6_readWrite_50 : decode cX6_readWrite 50 = .ok (.aload_n 0, 1) := by decide +kernel
theorem dX6_readWrite_51 : decode cX6_readWrite 51 = .ok (.getfield 16, 3) := by decide +kernel
theorem dX6_readWrite_54 : decode cX6_readWrite 54 = .ok (.iload_n 1, 1) := by decide +kernel
theorem dX6_readWrite_55 : decode cX6_readWrite 55 = .ok (.iload_n 2, 1) := by decide +kernel
theorem dX6_readWrite_56 : decode cX6_readWrite 56 = .ok (.iload_n 3, 1) := by decide +kernel
theorem dX6_readWrite_57 : decode cX6_readWrite 57 = .ok (.invokestatic 168, 3) := by decide +kernel
theorem dX6_readWrite_60 : decode cX6_readWrite 60 = .ok (.pop, 1) := by decide +kernel
theorem dX6_readWrite_61 : decode cX6_readWrite 61 = .ok (.return_, 1) := by decide +kernel
def PJ_M_readWrite_44 (y1 : Int32) (y2 : Int32) (y3 : Int32) (u0 : Int32) (v0 : MT) (Q : MT → Prop) : Prop := P_M_goes u0 v0 (fun r27_ v31_ => (((r27_ = 0 → Q v31_) ∧ (¬ r27_ = 0 → P_M_goWrite y1 y2 y3 (M_read v31_) (fun r36_ v40_ => (∀ v45_, v45_ = (M_set_read v31_ v40_) → (Q v45_)))))))
def P_M_readWrite (v0 : MT) (Q : MT → Prop) : Prop := P_M_digit 0 7 v0 (fun r1_ v5_ => (P_M_two 0 99 v5_ (fun r9_ v13_ => (P_M_two 1 40 v13_ (fun r17_ v21_ => (vp_in 401 621 ∧ (((200 ≤ ((M_read v21_) (Int32.toNatClampNeg 401)) → PJ_M_readWrite_44 r1_ r9_ r17_ 0 v21_ Q) ∧ (¬ 200 ≤ ((M_read v21_) (Int32.toNatClampNeg 401)) → PJ_M_readWrite_44 r1_ r9_ r17_ 1 v21_ Q)))))))))
set_option maxRecDepth 100000 in
theorem s_M_readWrite {l : Launch} {D : zD} {B : Nat} {sa : Nat → Nat} (hfl : l.stackTraces = false) {z : Nat} {G : zG} {b0 : Nat} {v0 : MT} {Q : MT → Prop} (h0 : MA b0 v0 G) (h : P_M_readWrite v0 Q) : zSp l D B sa yX6_readWrite cX6_readWrite 4 none 3 71 0 0 [.ref b0] z G (zRv fun z' G' => z = z' ∧ ∃ w, MA b0 w G' ∧ Fr b0 8 G G' ∧ Q w) := by
  unfold P_M_readWrite at h
  refine z_ofW (by decide +kernel) hfl [some (.ref b0), none, none, none] rfl (Nat.le_of_ble_eq_true rfl) (fun p e s m args below meth c O hret hlk hnm => ?_)
  have O : zO p l s m args c D B sa 4 cX6_readWrite RX6 := O
  have HJ44 : ∀ (y1 : Int32) (y2 : Int32) (y3 : Int32) (u0 : Int32) (v0 : MT) (G9 : zG) (g0 : MA b0 v0 G9) (gF : Fr b0 8 G G9), PJ_M_readWrite_44 y1 y2 y3 u0 v0 Q → zT p l e (zrm 3 71 0 0) s m args below meth c (zEnd below D B (zRv fun z' G' => z = z' ∧ ∃ w, MA b0 w G' ∧ Fr b0 8 G G' ∧ Q w) args s 0 0) D B 4 0 0 44 [.int u0, .ref b0] [some (.ref b0), some (.int y1), some (.int y2), some (.int y3)] z G9 := by
    intro y1 y2 y3 u0 v0 G9 g0 gF h
    unfold PJ_M_readWrite_44 at h
    refine z_callVi (As := [.int u0]) (st := []) O (s_M_goes hfl g0 h) wy_X6_goes wl_RX6_164 dX6_readWrite_44 rfl rfl (M_obj g0) ⟨by decide, rfl⟩ ⟨Nat.le_of_ble_eq_true rfl, Nat.le_of_ble_eq_true rfl⟩ (Nat.le_of_ble_eq_true rfl) ⟨Nat.le_of_ble_eq_true rfl, Nat.le_of_ble_eq_true rfl⟩ (fun r27_ z28_ G29_ hq30_ => ?_)
    obtain ⟨rfl, v31_, k32_, f33_, h⟩ := hq30_
    have F34_ : Fr b0 8 G G29_ := Fr.trans gF f33_
    refine z_if_eq (tgt := 61) O dX6_readWrite_47 (by decide) (fun c35_ => ?_) (fun c35_ => ?_)
    · have h := h.1 c35_
      exact z_vret O hret hlk dX6_readWrite_61 (Nat.le_of_ble_eq_true rfl) (Nat.le_of_ble_eq_true rfl) ⟨rfl, rfl, _, k32_, F34_, h⟩
    · have h := h.2 c35_
      refine z_aload_n O dX6_readWrite_50 rfl rfl ?_
      refine z_get (v := .ref (b0 + 3)) O wf_RX6_16 dX6_readWrite_51 (M_obj k32_) rfl ?_
      refine z_iload_n O dX6_readWrite_54 rfl rfl ?_
      refine z_iload_n O dX6_readWrite_55 rfl rfl ?_
      refine z_iload_n O dX6_readWrite_56 rfl rfl ?_
      refine z_callSi (As := [.ref (b0 + 3), .int y1, .int y2, .int y3]) (st := []) O (s_M_goWrite hfl (M_read_of k32_) h) wy_X6_goWrite wl_RX6_168 dX6_readWrite_57 rfl rfl ⟨Nat.le_of_ble_eq_true rfl, Nat.le_of_ble_eq_true rfl⟩ (Nat.le_of_ble_eq_true rfl) ⟨Nat.le_of_ble_eq_true rfl, Nat.le_of_ble_eq_true rfl⟩ (fun r36_ z37_ G38_ hq39_ => ?_)
      obtain ⟨rfl, v40_, k41_, f42_, h⟩ := hq39_
      have k43_ := M_put_read k32_ k41_ f42_
      have f44_ : Fr b0 8 G29_ G38_ := Fr.mono f42_ (by omega) (by omega)
      obtain ⟨v45_, ev45_⟩ : ∃ w, w = (M_set_read v31_ v40_) := ⟨_, rfl⟩
      have h := h v45_ ev45_
      have k46_ : MA b0 v45_ G38_ := by rw [ev45_]; exact k43_
      have F47_ : Fr b0 8 G G38_ := Fr.trans F34_ f44_
      refine z_pop O dX6_readWrite_60 rfl ?_
      exact z_vret O hret hlk dX6_readWrite_61 (Nat.le_of_ble_eq_true rfl) (Nat.le_of_ble_eq_true rfl) ⟨rfl, rfl, _, k46_, F47_, h⟩
  refine z_aload_n O dX6_readWrite_0 rfl rfl ?_
  refine z_iconst (v := 0) O dX6_readWrite_1 (by decide) ?_
  refine z_bipush (v := 7) O dX6_readWrite_2 (by decide) ?_
  refine z_callVi (As := [.int 0, .int 7]) (st := []) O (s_M_digit hfl h0 h) wy_X6_digit wl_RX6_154 dX6_readWrite_4 rfl rfl (M_obj h0) ⟨by decide, rfl⟩ ⟨Nat.le_of_ble_eq_true rfl, Nat.le_of_ble_eq_true rfl⟩ (Nat.le_of_ble_eq_true rfl) ⟨Nat.le_of_ble_eq_true rfl, Nat.le_of_ble_eq_true rfl⟩ (fun r1_ z2_ G3_ hq4_ => ?_)
  obtain ⟨rfl, v5_, k6_, f7_, h⟩ := hq4_
  have F8_ : Fr b0 8 G G3_ := Fr.trans Fr.rf f7_
  refine z_istore_n (L' := [some (.ref b0), some (.int r1_), none, none]) O dX6_readWrite_7 rfl (by decide) rfl ?_
  refine z_aload_n O dX6_readWrite_8 rfl rfl ?_
  refine z_iconst (v := 0) O dX6_readWrite_9 (by decide) ?_
  refine z_bipush (v := 99) O dX6_readWrite_10 (by decide) ?_
  refine z_callVi (As := [.int 0, .int 99]) (st := []) O (s_M_two hfl k6_ h) wy_X6_two wl_RX6_161 dX6_readWrite_12 rfl rfl (M_obj k6_) ⟨by decide, rfl⟩ ⟨Nat.le_of_ble_eq_true rfl, Nat.le_of_ble_eq_true rfl⟩ (Nat.le_of_ble_eq_true rfl) ⟨Nat.le_of_ble_eq_true rfl, Nat.le_of_ble_eq_true rfl⟩ (fun r9_ z10_ G11_ hq12_ => ?_)
  obtain ⟨rfl, v13_, k14_, f15_, h⟩ := hq12_
  have F16_ : Fr b0 8 G G11_ := Fr.trans F8_ f15_
  refine z_istore_n (L' := [some (.ref b0), some (.int r1_), some (.int r9_), none]) O dX6_readWrite_15 rfl (by decide) rfl ?_
  refine z_aload_n O dX6_readWrite_16 rfl rfl ?_
  refine z_iconst (v := 1) O dX6_readWrite_17 (by decide) ?_
  refine z_bipush (v := 40) O dX6_readWrite_18 (by decide) ?_
  refine z_callVi (As := [.int 1, .int 40]) (st := []) O (s_M_two hfl k14_ h) wy_X6_two wl_RX6_161 dX6_readWrite_20 rfl rfl (M_obj k14_) ⟨by decide, rfl⟩ ⟨Nat.le_of_ble_eq_true rfl, Nat.le_of_ble_eq_true rfl⟩ (Nat.le_of_ble_eq_true rfl) ⟨Nat.le_of_ble_eq_true rfl, Nat.le_of_ble_eq_true rfl⟩ (fun r17_ z18_ G19_ hq20_ => ?_)
  obtain ⟨rfl, v21_, k22_, f23_, h⟩ := hq20_
  have F24_ : Fr b0 8 G G19_ := Fr.trans F16_ f23_
  refine z_istore_n (L' := [some (.ref b0), some (.int r1_), some (.int r9_), some (.int r17_)]) O dX6_readWrite_23 rfl (by decide) rfl ?_
  refine z_aload_n O dX6_readWrite_24 rfl rfl ?_
  refine z_aload_n O dX6_readWrite_25 rfl rfl ?_
  refine z_get (v := .ref (b0 + 3)) O wf_RX6_16 dX6_readWrite_26 (M_obj k22_) rfl ?_
  refine z_sipush (v := 401) O dX6_readWrite_29 (by decide) ?_
  obtain ⟨q25_, h⟩ := h
  refine z_iald O dX6_readWrite_32 (M_read_of k22_) q25_ ?_
  refine z_sipush (v := 200) O dX6_readWrite_33 (by decide) ?_
  refine z_icmp_ge (tgt := 43) O dX6_readWrite_36 (by decide) (fun c26_ => ?_) (fun c26_ => ?_)
  · have h := h.1 c26_
    refine z_iconst (v := 0) O dX6_readWrite_43 (by decide) ?_
    exact z_subL (L' := [some (.ref b0), some (.int r1_), some (.int r9_), some (.int r17_)]) (zLe.sub (And.intro rfl (And.intro rfl (And.intro rfl (And.intro rfl True.intro))))) (HJ44 r1_ r9_ r17_ 0 v21_ G19_ k22_ F24_ h)
  · have h := h.2 c26_
    refine z_iconst (v := 1) O dX6_readWrite_39 (by decide) ?_
    refine z_goto (tgt := 44) O dX6_readWrite_40 (by decide) ?_
    exact z_subL (L' := [some (.ref b0), some (.int r1_), some (.int r9_), some (.int r17_)]) (zLe.sub (And.intro rfl (And.intro rfl (And.intro rfl (And.intro rfl True.intro))))) (HJ44 r1_ r9_ r17_ 1 v21_ G19_ k22_ F24_ h)

theorem dX6_readJoin_0 : decode cX6_readJoin 0 = .ok (.aload_n 0, 1) := by decide +kernel
theorem dX6_readJoin_1 : decode cX6_readJoin 1 = .ok (.iconst 0, 1) := by decide +kernel
theorem dX6_readJoin_2 : decode cX6_readJoin 2 = .ok (.bipush 7, 2) := by decide +kernel
theorem dX6_readJoin_4 : decode cX6_readJoin 4 = .ok (.invokevirtual 154, 3) := by decide +kernel
theorem dX6_readJoin_7 : decode cX6_readJoin 7 = .ok (.istore_n 1, 1) := by decide +kernel
theorem dX6_readJoin_8 : decode cX6_readJoin 8 = .ok (.aload_n 0, 1) := by decide +kernel
theorem dX6_readJoin_9 : decode cX6_readJoin 9 = .ok (.iconst 0, 1) := by decide +kernel
theorem dX6_readJoin_10 : decode cX6_readJoin 10 = .ok (.iconst 2, 1) := by decide +kernel
theorem dX6_readJoin_11 : decode cX6_readJoin 11 = .ok (.invokevirtual 154, 3) := by decide +kernel
theorem dX6_readJoin_14 : decode cX6_readJoin 14 = .ok (.istore_n 2, 1) := by decide +kernel
theorem dX6_readJoin_15 : decode cX6_readJoin 15 = .ok (.aload_n 0, 1) := by decide +kernel
theorem dX6_readJoin_16 : decode cX6_readJoin 16 = .ok (.invokevirtual 172, 3) := by decide +kernel
theorem dX6_readJoin_19 : decode cX6_readJoin 19 = .ok (.istore_n 3, 1) := by decide +kernel
theorem dX6_readJoin_20 : decode cX6_readJoin 20 = .ok (.aload_n 0, 1) := by decide +kernel
theorem dX6_readJoin_21 : decode cX6_readJoin 21 = .ok (.aload_n 0, 1) := by decide +kernel
theorem dX6_readJoin_22 : decode cX6_readJoin 22 = .ok (.getfield 16, 3) := by decide +kernel
theorem dX6_readJoin_25 : decode cX6_readJoin 25 = .ok (.iload_n 1, 1) := by decide +kernel
theorem dX6_readJoin_26 : decode cX6_readJoin 26 = .ok (.iload_n 2, 1) := by decide +kernel
theorem dX6_readJoin_27 : decode cX6_readJoin 27 = .ok (.iload_n 3, 1) := by decide +kernel
theorem dX6_readJoin_28 : decode cX6_readJoin 28 = .ok (.invokestatic 176, 3) := by decide +kernel
theorem dX6_readJoin_31 : decode cX6_readJoin 31 = .ok (.invokevirtual 164, 3) := by decide +kernel
theorem dX6_readJoin_34 : decode cX6_readJoin 34 = .ok (.ifCond .eq 14, 3) := by decide +kernel
theorem dX6_readJoin_37 : decode cX6_readJoin 37 = .ok (.aload_n 0, 1) := by decide +kernel
theorem dX6_readJoin_38 : decode cX6_readJoin 38 = .ok (.getfield 16, 3) := by decide +kernel
theorem dX6_readJoin_41 : decode cX6_readJoin 41 = .ok (.iload_n 1, 1) := by decide +kernel
theorem dX6_readJoin_42 : decode cX6_readJoin 42 = .ok (.iload_n 2, 1) := by decide +kernel
theorem dX6_readJoin_43 : decode cX6_readJoin 43 = .ok (.iload_n 3, 1) := by decide +kernel
theorem dX6_readJoin_44 : decode cX6_readJoin 44 = .ok (.invokestatic 180, 3) := by decide +kernel
theorem dX6_readJoin_47 : decode cX6_readJoin 47 = .ok (.pop, 1) := by decide +kernel
theorem dX6_readJoin_48 : decode cX6_readJoin 48 = .ok (.return_, 1) := by decide +kernel
def P_M_readJoin (v0 : MT) (Q : MT → Prop) : Prop := P_M_digit 0 7 v0 (fun r1_ v5_ => (P_M_digit 0 2 v5_ (fun r9_ v13_ => (P_M_sign v13_ (fun r17_ v21_ => (P_M_canJoin r1_ r9_ r17_ (M_read v21_) (fun r25_ => (P_M_goes r25_ v21_ (fun r29_ v33_ => (((r29_ = 0 → Q v33_) ∧ (¬ r29_ = 0 → P_M_goJoin r1_ r9_ r17_ (M_read v33_) (fun r38_ v42_ => (∀ v47_, v47_ = (M_set_read v33_ v42_) → (Q v47_)))))))))))))))
set_option maxRecDepth 100000 in
theorem s_M_readJoin {l : Launch} {D : zD} {B : Nat} {sa : Nat → Nat} (hfl : l.stackTraces = false) {z : Nat} {G : zG} {b0 : Nat} {v0 : MT} {Q : MT → Prop} (h0 : MA b0 v0 G) (h : P_M_readJoin v0 Q) : zSp l D B sa yX6_readJoin cX6_readJoin 4 none 3 71 0 0 [.ref b0] z G (zRv fun z' G' => z = z' ∧ ∃ w, MA b0 w G' ∧ Fr b0 8 G G' ∧ Q w) := by
  unfold P_M_readJoin at h
  refine z_ofW (by decide +kernel) hfl [some (.ref b0), none, none, none] rfl (Nat.le_of_ble_eq_true rfl) (fun p e s m args below meth c O hret hlk hnm => ?_)
  have O : zO p l s m args c D B sa 4 cX6_readJoin RX6 := O
  refine z_aload_n O dX6_readJoin_0 rfl rfl ?_
  refine z_iconst (v := 0) O dX6_readJoin_1 (by decide) ?_
  refine z_bipush (v := 7) O dX6_readJoin_2 (by decide) ?_
  refine z_callVi (As := [.int 0, .int 7]) (st := []) O (s_M_digit hfl h0 h) wy_X6_digit wl_RX6_154 dX6_readJoin_4 rfl rfl (M_obj h0) ⟨by decide, rfl⟩ ⟨Nat.le_of_ble_eq_true rfl, Nat.le_of_ble_eq_true rfl⟩ (Nat.le_of_ble_eq_true rfl) ⟨Nat.le_of_ble_eq_true rfl, Nat.le_of_ble_eq_true rfl⟩ (fun r1_ z2_ G3_ hq4_ => ?_)
  obtain ⟨rfl, v5_, k6_, f7_, h⟩ := hq4_
  have F8_ : Fr b0 8 G G3_ := Fr.trans Fr.rf f7_
  refine z_istore_n (L' := [some (.ref b0), some (.int r1_), none, none]) O dX6_readJoin_7 rfl (by decide) rfl ?_
  refine z_aload_n O dX6_readJoin_8 rfl rfl ?_
  refine z_iconst (v := 0) O dX6_readJoin_9 (by decide) ?_
  refine z_iconst (v := 2) O dX6_readJoin_10 (by decide) ?_
  refine z_callVi (As := [.int 0, .int 2]) (st := []) O (s_M_digit hfl k6_ h) wy_X6_digit wl_RX6_154 dX6_readJoin_11 rfl rfl (M_obj k6_) ⟨by decide, rfl⟩ ⟨Nat.le_of_ble_eq_true rfl, Nat.le_of_ble_eq_true rfl⟩ (Nat.le_of_ble_eq_true rfl) ⟨Nat.le_of_ble_eq_true rfl, Nat.le_of_ble_eq_true rfl⟩ (fun r9_ z10_ G11_ hq12_ => ?_)
  obtain ⟨rfl, v13_, k14_, f15_, h⟩ := hq12_
  have F16_ : Fr b0 8 G G11_ := Fr.trans F8_ f15_
  refine z_istore_n (L' := [some (.ref b0), some (.int r1_), some (.int r9_), none]) O dX6_readJoin_14 rfl (by decide) rfl ?_
  refine z_aload_n O dX6_readJoin_15 rfl rfl ?_
  refine z_callVi (As := []) (st := []) O (s_M_sign hfl k14_ h) wy_X6_sign wl_RX6_172 dX6_readJoin_16 rfl rfl (M_obj k14_) ⟨by decide, rfl⟩ ⟨Nat.le_of_ble_eq_true rfl, Nat.le_of_ble_eq_true rfl⟩ (Nat.le_of_ble_eq_true rfl) ⟨Nat.le_of_ble_eq_true rfl, Nat.le_of_ble_eq_true rfl⟩ (fun r17_ z18_ G19_ hq20_ => ?_)
  obtain ⟨rfl, v21_, k22_, f23_, h⟩ := hq20_
  have F24_ : Fr b0 8 G G19_ := Fr.trans F16_ f23_
  refine z_istore_n (L' := [some (.ref b0), some (.int r1_), some (.int r9_), some (.int r17_)]) O dX6_readJoin_19 rfl (by decide) rfl ?_
  refine z_aload_n O dX6_readJoin_20 rfl rfl ?_
  refine z_aload_n O dX6_readJoin_21 rfl rfl ?_
  refine z_get (v := .ref (b0 + 3)) O wf_RX6_16 dX6_readJoin_22 (M_obj k22_) rfl ?_
  refine z_iload_n O dX6_readJoin_25 rfl rfl ?_
  refine z_iload_n O dX6_readJoin_26 rfl rfl ?_
  refine z_iload_n O dX6_readJoin_27 rfl rfl ?_
  refine z_callSi (As := [.ref (b0 + 3), .int r1_, .int r9_, .int r17_]) (st := [.ref b0]) O (s_M_canJoin hfl (M_read_of k22_) h) wy_X6_canJoin wl_RX6_176 dX6_readJoin_28 rfl rfl ⟨Nat.le_of_ble_eq_true rfl, Nat.le_of_ble_eq_true rfl⟩ (Nat.le_of_ble_eq_true rfl) ⟨Nat.le_of_ble_eq_true rfl, Nat.le_of_ble_eq_true rfl⟩ (fun r25_ z26_ G27_ hq28_ => ?_)
  obtain ⟨rfl, rfl, h⟩ := hq28_
  refine z_callVi (As := [.int r25_]) (st := []) O (s_M_goes hfl k22_ h) wy_X6_goes wl_RX6_164 dX6_readJoin_31 rfl rfl (M_obj k22_) ⟨by decide, rfl⟩ ⟨Nat.le_of_ble_eq_true rfl, Nat.le_of_ble_eq_true rfl⟩ (Nat.le_of_ble_eq_true rfl) ⟨Nat.le_of_ble_eq_true rfl, Nat.le_of_ble_eq_true rfl⟩ (fun r29_ z30_ G31_ hq32_ => ?_)
  obtain ⟨rfl, v33_, k34_, f35_, h⟩ := hq32_
  have F36_ : Fr b0 8 G G31_ := Fr.trans F24_ f35_
  refine z_if_eq (tgt := 48) O dX6_readJoin_34 (by decide) (fun c37_ => ?_) (fun c37_ => ?_)
  · have h := h.1 c37_
    exact z_vret O hret hlk dX6_readJoin_48 (Nat.le_of_ble_eq_true rfl) (Nat.le_of_ble_eq_true rfl) ⟨rfl, rfl, _, k34_, F36_, h⟩
  · have h := h.2 c37_
    refine z_aload_n O dX6_readJoin_37 rfl rfl ?_
    refine z_get (v := .ref (b0 + 3)) O wf_RX6_16 dX6_readJoin_38 (M_obj k34_) rfl ?_
    refine z_iload_n O dX6_readJoin_41 rfl rfl ?_
    refine z_iload_n O dX6_readJoin_42 rfl rfl ?_
    refine z_iload_n O dX6_readJoin_43 rfl rfl ?_
    refine z_callSi (As := [.ref (b0 + 3), .int r1_, .int r9_, .int r17_]) (st := []) O (s_M_goJoin hfl (M_read_of k34_) h) wy_X6_goJoin wl_RX6_180 dX6_readJoin_44 rfl rfl ⟨Nat.le_of_ble_eq_true rfl, Nat.le_of_ble_eq_true rfl⟩ (Nat.le_of_ble_eq_true rfl) ⟨Nat.le_of_ble_eq_true rfl, Nat.le_of_ble_eq_true rfl⟩ (fun r38_ z39_ G40_ hq41_ => ?_)
    obtain ⟨rfl, v42_, k43_, f44_, h⟩ := hq41_
    have k45_ := M_put_read k34_ k43_ f44_
    have f46_ : Fr b0 8 G31_ G40_ := Fr.mono f44_ (by omega) (by omega)
    obtain ⟨v47_, ev47_⟩ : ∃ w, w = (M_set_read v33_ v42_) := ⟨_, rfl⟩
    have h := h v47_ ev47_
    have k48_ : MA b0 v47_ G40_ := by rw [ev47_]; exact k45_
    have F49_ : Fr b0 8 G G40_ := Fr.trans F36_ f46_
    refine z_pop O dX6_readJoin_47 rfl ?_
    exact z_vret O hret hlk dX6_readJoin_48 (Nat.le_of_ble_eq_true rfl) (Nat.le_of_ble_eq_true rfl) ⟨rfl, rfl, _, k48_, F49_, h⟩

theorem dX6_readHold_0 : decode cX6_readHold 0 = .ok (.aload_n 0, 1) := by decide +kernel
theorem dX6_readHold_1 : decode cX6_readHold 1 = .ok (.iconst 0, 1) := by decide +kernel
theorem dX6_readHold_2 : decode cX6_readHold 2 = .ok (.bipush 7, 2) := by decide +kernel
theorem dX6_readHold_4 : decode cX6_readHold 4 = .ok (.invokevirtual 154, 3) := by decide +kernel
theorem dX6_readHold_7 : decode cX6_readHold 7 = .ok (.istore_n 1, 1) := by decide +kernel
theorem dX6_readHold_8 : decode cX6_readHold 8 = .ok (.aload_n 0, 1) := by decide +kernel
theorem dX6_readHold_9 : decode cX6_readHold 9 = .ok (.invokevirtual 172, 3) := by decide +kernel
theorem dX6_readHold_12 : decode cX6_readHold 12 = .ok (.istore_n 2, 1) := by decide +kernel
theorem dX6_readHold_13 : decode cX6_readHold 13 = .ok (.aload_n 0, 1) := by decide +kernel
theorem dX6_readHold_14 : decode cX6_readHold 14 = .ok (.aload_n 0, 1) := by decide +kernel
theorem dX6_readHold_15 : decode cX6_readHold 15 = .ok (.getfield 16, 3) := by decide +kernel
theorem dX6_readHold_18 : decode cX6_readHold 18 = .ok (.iload_n 1, 1) := by decide +kernel
theorem dX6_readHold_19 : decode cX6_readHold 19 = .ok (.invokestatic 184, 3) := by decide +kernel
theorem dX6_readHold_22 : decode cX6_readHold 22 = .ok (.ifCond .eq 19, 3) := by decide +kernel
theorem dX6_readHold_25 : decode cX6_readHold 25 = .ok (.aload_n 0, 1) := by decide +kernel
theorem dX6_readHold_26 : decode cX6_readHold 26 = .ok (.getfield 16, 3) := by decide +kernel
theorem dX6_readHold_29 : decode cX6_readHold 29 = .ok (.iload_n 1, 1) := by decide +kernel
theorem dX6_readHold_30 : decode cX6_readHold 30 = .ok (.iload_n 2, 1) := by decide +kernel
theorem dX6_readHold_31 : decode cX6_readHold 31 = .ok (.invokestatic 187, 3) := by decide +kernel
theorem dX6_readHold_34 : decode cX6_readHold 34 = .ok (.ifCond .eq 7, 3) := by decide +kernel
theorem dX6_readHold_37 : decode cX6_readHold 37 = .ok (.iconst 1, 1) := by decide +kernel
theorem dX6_readHold_38 : decode cX6_readHold 38 = .ok (.goto 4, 3) := by decide +kernel
theorem dX6_readHold_41 : decode cX6_readHold 41 = .ok (.iconst 0, 1) := by decide +kernel
theorem dX6_readHold_42 : decode cX6_readHold 42 = .ok (.invokevirtual 164, 3) := by decide +kernel
theorem dX6_readHold_45 : decode cX6_readHold 45 = .ok (.ifCond .eq 13, 3) := by decide +kernel
theorem dX6_readHold_48 : decode cX6_readHold 48 = .ok (.aload_n 0, 1) := by decide +kernel
theorem dX6_readHold_49 : decode cX6_readHold 49 = .ok (.getfield 16, 3) := by decide +kernel
theorem dX6_readHold_52 : decode cX6_readHold 52 = .ok (.iload_n 1, 1) := by decide +kernel
theorem dX6_readHold_53 : decode cX6_readHold 53 = .ok (.iload_n 2, 1) := by decide +kernel
theorem dX6_readHold_54 : decode cX6_readHold 54 = .ok (.invokestatic 191, 3) := by decide +kernel
theorem dX6_readHold_57 : decode cX6_readHold 57 = .ok (.pop, 1) := by decide +kernel
theorem dX6_readHold_58 : decode cX6_readHold 58 = .ok (.return_, 1) := by decide +kernel
def PJ_M_readHold_42 (y1 : Int32) (y2 : Int32) (u0 : Int32) (v0 : MT) (Q : MT → Prop) : Prop := P_M_goes u0 v0 (fun r22_ v26_ => (((r22_ = 0 → Q v26_) ∧ (¬ r22_ = 0 → P_M_goHold y1 y2 (M_read v26_) (fun r31_ v35_ => (∀ v40_, v40_ = (M_set_read v26_ v35_) → (Q v40_)))))))
def PJ_M_readHold_41 (y1 : Int32) (y2 : Int32) (v0 : MT) (Q : MT → Prop) : Prop := PJ_M_readHold_42 y1 y2 0 v0 Q
def P_M_readHold (v0 : MT) (Q : MT → Prop) : Prop := P_M_digit 0 7 v0 (fun r1_ v5_ => (P_M_sign v5_ (fun r9_ v13_ => (P_M_isReader r1_ (M_read v13_) (fun r17_ => (((r17_ = 0 → PJ_M_readHold_41 r1_ r9_ v13_ Q) ∧ (¬ r17_ = 0 → P_M_canHold r1_ r9_ (M_read v13_) (fun r43_ => (((r43_ = 0 → PJ_M_readHold_41 r1_ r9_ v13_ Q) ∧ (¬ r43_ = 0 → PJ_M_readHold_42 r1_ r9_ 1 v13_ Q))))))))))))
set_option maxRecDepth 100000 in
theorem s_M_readHold {l : Launch} {D : zD} {B : Nat} {sa : Nat → Nat} (hfl : l.stackTraces = false) {z : Nat} {G : zG} {b0 : Nat} {v0 : MT} {Q : MT → Prop} (h0 : MA b0 v0 G) (h : P_M_readHold v0 Q) : zSp l D B sa yX6_readHold cX6_readHold 3 none 3 66 0 0 [.ref b0] z G (zRv fun z' G' => z = z' ∧ ∃ w, MA b0 w G' ∧ Fr b0 8 G G' ∧ Q w) := by
  unfold P_M_readHold at h
  refine z_ofW (by decide +kernel) hfl [some (.ref b0), none, none] rfl (Nat.le_of_ble_eq_true rfl) (fun p e s m args below meth c O hret hlk hnm => ?_)
  have O : zO p l s m args c D B sa 3 cX6_readHold RX6 := O
  have HJ42 : ∀ (y1 : Int32) (y2 : Int32) (u0 : Int32) (v0 : MT) (G9 : zG) (g0 : MA b0 v0 G9) (gF : Fr b0 8 G G9), PJ_M_readHold_42 y1 y2 u0 v0 Q → zT p l e (zrm 3 66 0 0) s m args below meth c (zEnd below D B (zRv fun z' G' => z = z' ∧ ∃ w, MA b0 w G' ∧ Fr b0 8 G G' ∧ Q w) args s 0 0) D B 3 0 0 42 [.int u0, .ref b0] [some (.ref b0), some (.int y1), some (.int y2)] z G9 := by
    intro y1 y2 u0 v0 G9 g0 gF h
    unfold PJ_M_readHold_42 at h
    refine z_callVi (As := [.int u0]) (st := []) O (s_M_goes hfl g0 h) wy_X6_goes wl_RX6_164 dX6_readHold_42 rfl rfl (M_obj g0) ⟨by decide, rfl⟩ ⟨Nat.le_of_ble_eq_true rfl, Nat.le_of_ble_eq_true rfl⟩ (Nat.le_of_ble_eq_true rfl) ⟨Nat.le_of_ble_eq_true rfl, Nat.le_of_ble_eq_true rfl⟩ (fun r22_ z23_ G24_ hq25_ => ?_)
    obtain ⟨rfl, v26_, k27_, f28_, h⟩ := hq25_
    have F29_ : Fr b0 8 G G24_ := Fr.trans gF f28_
    refine z_if_eq (tgt := 58) O dX6_readHold_45 (by decide) (fun c30_ => ?_) (fun c30_ => ?_)
    · have h := h.1 c30_
      exact z_vret O hret hlk dX6_readHold_58 (Nat.le_of_ble_eq_true rfl) (Nat.le_of_ble_eq_true rfl) ⟨rfl, rfl, _, k27_, F29_, h⟩
    · have h := h.2 c30_
      refine z_aload_n O dX6_readHold_48 rfl rfl ?_
      refine z_get (v := .ref (b0 + 3)) O wf_RX6_16 dX6_readHold_49 (M_obj k27_) rfl ?_
      refine z_iload_n O dX6_readHold_52 rfl rfl ?_
      refine z_iload_n O dX6_readHold_53 rfl rfl ?_
      refine z_callSi (As := [.ref (b0 + 3), .int y1, .int y2]) (st := []) O (s_M_goHold hfl (M_read_of k27_) h) wy_X6_goHold wl_RX6_191 dX6_readHold_54 rfl rfl ⟨Nat.le_of_ble_eq_true rfl, Nat.le_of_ble_eq_true rfl⟩ (Nat.le_of_ble_eq_true rfl) ⟨Nat.le_of_ble_eq_true rfl, Nat.le_of_ble_eq_true rfl⟩ (fun r31_ z32_ G33_ hq34_ => ?_)
      obtain ⟨rfl, v35_, k36_, f37_, h⟩ := hq34_
      have k38_ := M_put_read k27_ k36_ f37_
      have f39_ : Fr b0 8 G24_ G33_ := Fr.mono f37_ (by omega) (by omega)
      obtain ⟨v40_, ev40_⟩ : ∃ w, w = (M_set_read v26_ v35_) := ⟨_, rfl⟩
      have h := h v40_ ev40_
      have k41_ : MA b0 v40_ G33_ := by rw [ev40_]; exact k38_
      have F42_ : Fr b0 8 G G33_ := Fr.trans F29_ f39_
      refine z_pop O dX6_readHold_57 rfl ?_
      exact z_vret O hret hlk dX6_readHold_58 (Nat.le_of_ble_eq_true rfl) (Nat.le_of_ble_eq_true rfl) ⟨rfl, rfl, _, k41_, F42_, h⟩
  have HJ41 : ∀ (y1 : Int32) (y2 : Int32) (v0 : MT) (G9 : zG) (g0 : MA b0 v0 G9) (gF : Fr b0 8 G G9), PJ_M_readHold_41 y1 y2 v0 Q → zT p l e (zrm 3 66 0 0) s m args below meth c (zEnd below D B (zRv fun z' G' => z = z' ∧ ∃ w, MA b0 w G' ∧ Fr b0 8 G G' ∧ Q w) args s 0 0) D B 3 0 0 41 [.ref b0] [some (.ref b0), some (.int y1), some (.int y2)] z G9 := by
    intro y1 y2 v0 G9 g0 gF h
    unfold PJ_M_readHold_41 at h
    refine z_iconst (v := 0) O dX6_readHold_41 (by decide) ?_
    exact z_subL (L' := [some (.ref b0), some (.int y1), some (.int y2)]) (zLe.sub (And.intro rfl (And.intro rfl (And.intro rfl True.intro)))) (HJ42 y1 y2 0 v0 G9 g0 gF h)
  refine z_aload_n O dX6_readHold_0 rfl rfl ?_
  refine z_iconst (v := 0) O dX6_readHold_1 (by decide) ?_
  refine z_bipush (v := 7) O dX6_readHold_2 (by decide) ?_
  refine z_callVi (As := [.int 0, .int 7]) (st := []) O (s_M_digit hfl h0 h) wy_X6_digit wl_RX6_154 dX6_readHold_4 rfl rfl (M_obj h0) ⟨by decide, rfl⟩ ⟨Nat.le_of_ble_eq_true rfl, Nat.le_of_ble_eq_true rfl⟩ (Nat.le_of_ble_eq_true rfl) ⟨Nat.le_of_ble_eq_true rfl, Nat.le_of_ble_eq_true rfl⟩ (fun r1_ z2_ G3_ hq4_ => ?_)
  obtain ⟨rfl, v5_, k6_, f7_, h⟩ := hq4_
  have F8_ : Fr b0 8 G G3_ := Fr.trans Fr.rf f7_
  refine z_istore_n (L' := [some (.ref b0), some (.int r1_), none]) O dX6_readHold_7 rfl (by decide) rfl ?_
  refine z_aload_n O dX6_readHold_8 rfl rfl ?_
  refine z_callVi (As := []) (st := []) O (s_M_sign hfl k6_ h) wy_X6_sign wl_RX6_172 dX6_readHold_9 rfl rfl (M_obj k6_) ⟨by decide, rfl⟩ ⟨Nat.le_of_ble_eq_true rfl, Nat.le_of_ble_eq_true rfl⟩ (Nat.le_of_ble_eq_true rfl) ⟨Nat.le_of_ble_eq_true rfl, Nat.le_of_ble_eq_true rfl⟩ (fun r9_ z10_ G11_ hq12_ => ?_)
  obtain ⟨rfl, v13_, k14_, f15_, h⟩ := hq12_
  have F16_ : Fr b0 8 G G11_ := Fr.trans F8_ f15_
  refine z_istore_n (L' := [some (.ref b0), some (.int r1_), some (.int r9_)]) O dX6_readHold_12 rfl (by decide) rfl ?_
  refine z_aload_n O dX6_readHold_13 rfl rfl ?_
  refine z_aload_n O dX6_readHold_14 rfl rfl ?_
  refine z_get (v := .ref (b0 + 3)) O wf_RX6_16 dX6_readHold_15 (M_obj k14_) rfl ?_
  refine z_iload_n O dX6_readHold_18 rfl rfl ?_
  refine z_callSi (As := [.ref (b0 + 3), .int r1_]) (st := [.ref b0]) O (s_M_isReader hfl (M_read_of k14_) h) wy_X6_isReader wl_RX6_184 dX6_readHold_19 rfl rfl ⟨Nat.le_of_ble_eq_true rfl, Nat.le_of_ble_eq_true rfl⟩ (Nat.le_of_ble_eq_true rfl) ⟨Nat.le_of_ble_eq_true rfl, Nat.le_of_ble_eq_true rfl⟩ (fun r17_ z18_ G19_ hq20_ => ?_)
  obtain ⟨rfl, rfl, h⟩ := hq20_
  refine z_if_eq (tgt := 41) O dX6_readHold_22 (by decide) (fun c21_ => ?_) (fun c21_ => ?_)
  · have h := h.1 c21_
    exact z_subL (L' := [some (.ref b0), some (.int r1_), some (.int r9_)]) (zLe.sub (And.intro rfl (And.intro rfl (And.intro rfl True.intro)))) (HJ41 r1_ r9_ v13_ G11_ k14_ F16_ h)
  · have h := h.2 c21_
    refine z_aload_n O dX6_readHold_25 rfl rfl ?_
    refine z_get (v := .ref (b0 + 3)) O wf_RX6_16 dX6_readHold_26 (M_obj k14_) rfl ?_
    refine z_iload_n O dX6_readHold_29 rfl rfl ?_
    refine z_iload_n O dX6_readHold_30 rfl rfl ?_
    refine z_callSi (As := [.ref (b0 + 3), .int r1_, .int r9_]) (st := [.ref b0]) O (s_M_canHold hfl (M_read_of k14_) h) wy_X6_canHold wl_RX6_187 dX6_readHold_31 rfl rfl ⟨Nat.le_of_ble_eq_true rfl, Nat.le_of_ble_eq_true rfl⟩ (Nat.le_of_ble_eq_true rfl) ⟨Nat.le_of_ble_eq_true rfl, Nat.le_of_ble_eq_true rfl⟩ (fun r43_ z44_ G45_ hq46_ => ?_)
    obtain ⟨rfl, rfl, h⟩ := hq46_
    refine z_if_eq (tgt := 41) O dX6_readHold_34 (by decide) (fun c47_ => ?_) (fun c47_ => ?_)
    · have h := h.1 c47_
      exact z_subL (L' := [some (.ref b0), some (.int r1_), some (.int r9_)]) (zLe.sub (And.intro rfl (And.intro rfl (And.intro rfl True.intro)))) (HJ41 r1_ r9_ v13_ G11_ k14_ F16_ h)
    · have h := h.2 c47_
      refine z_iconst (v := 1) O dX6_readHold_37 (by decide) ?_
      refine z_goto (tgt := 42) O dX6_readHold_38 (by decide) ?_
      exact z_subL (L' := [some (.ref b0), some (.int r1_), some (.int r9_)]) (zLe.sub (And.intro rfl (And.intro rfl (And.intro rfl True.intro)))) (HJ42 r1_ r9_ 1 v13_ G11_ k14_ F16_ h)
