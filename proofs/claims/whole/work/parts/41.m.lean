theorem dX6_set_0 : decode cX6_set 0 = .ok (.aload_n 0, 1) := by decide +kernel
theorem dX6_set_1 : decode cX6_set 1 = .ok (.iload_n 1, 1) := by decide +kernel
theorem dX6_set_2 : decode cX6_set 2 = .ok (.iload_n 2, 1) := by decide +kernel
theorem dX6_set_3 : decode cX6_set 3 = .ok (.invokestatic 195, 3) := by decide +kernel
theorem dX6_set_6 : decode cX6_set 6 = .ok (.ifCond .eq 7, 3) := by decide +kernel
theorem dX6_set_9 : decode cX6_set 9 = .ok (.iconst 0, 1) := by decide +kernel
theorem dX6_set_10 : decode cX6_set 10 = .ok (.goto 4, 3) := by decide +kernel
theorem dX6_set_13 : decode cX6_set 13 = .ok (.iconst 1, 1) := by decide +kernel
theorem dX6_set_14 : decode cX6_set 14 = .ok (.invokevirtual 136, 3) := by decide +kernel
theorem dX6_set_17 : decode cX6_set 17 = .ok (.ifCond .eq 5, 3) := by decide +kernel
theorem dX6_set_20 : decode cX6_set 20 = .ok (.iconst 0, 1) := by decide +kernel
theorem dX6_set_21 : decode cX6_set 21 = .ok (.ireturn, 1) := by decide +kernel
theorem dX6_set_22 : decode cX6_set 22 = .ok (.aload_n 0, 1) := by decide +kernel
theorem dX6_set_23 : decode cX6_set 23 = .ok (.invokevirtual 254, 3) := by decide +kernel
theorem dX6_set_26 : decode cX6_set 26 = .ok (.aload_n 0, 1) := by decide +kernel
theorem dX6_set_27 : decode cX6_set 27 = .ok (.getfield 7, 3) := by decide +kernel
theorem dX6_set_30 : decode cX6_set 30 = .ok (.iload_n 1, 1) := by decide +kernel
theorem dX6_set_31 : decode cX6_set 31 = .ok (.iload_n 2, 1) := by decide +kernel
theorem dX6_set_32 : decode cX6_set 32 = .ok (.invokestatic 199, 3) := by decide +kernel
theorem dX6_set_35 : decode cX6_set 35 = .ok (.ireturn, 1) := by decide +kernel
def PJ_M_set_14 (x1 : Int32) (x2 : Int32) (y1 : Int32) (y2 : Int32) (u0 : Int32) (v0 : MT) (Q : Int32 → MT → Prop) : Prop := P_M_refused u0 v0 (fun r6_ v10_ => (((r6_ = 0 → P_M_remember v10_ (fun v19_ => (P_M_put y1 y2 (M_now v19_) (fun r23_ v27_ => (∀ v32_, v32_ = (M_set_now v19_ v27_) → (Q r23_ v32_)))))) ∧ (¬ r6_ = 0 → Q 0 v10_))))
def P_M_set (x1 : Int32) (x2 : Int32) (v0 : MT) (Q : Int32 → MT → Prop) : Prop := P_M_isSetting x1 x2 (fun r1_ => (((r1_ = 0 → PJ_M_set_14 x1 x2 x1 x2 1 v0 Q) ∧ (¬ r1_ = 0 → PJ_M_set_14 x1 x2 x1 x2 0 v0 Q))))
set_option maxRecDepth 100000 in
theorem s_M_set {l : Launch} {D : zD} {B : Nat} {sa : Nat → Nat} (hfl : l.stackTraces = false) {z : Nat} {G : zG} {b0 : Nat} {x1 : Int32} {x2 : Int32} {v0 : MT} {Q : Int32 → MT → Prop} (h0 : MA b0 v0 G) (h : P_M_set x1 x2 v0 Q) : zSp l D B sa yX6_set cX6_set 3 (some .int) 2 46 0 0 [.ref b0, .int x1, .int x2] z G (zRi fun r z' G' => z = z' ∧ ∃ w, MA b0 w G' ∧ Fr b0 8 G G' ∧ Q r w) := by
  unfold P_M_set at h
  refine z_ofW (by decide +kernel) hfl [some (.ref b0), some (.int x1), some (.int x2)] rfl (Nat.le_of_ble_eq_true rfl) (fun p e s m args below meth c O hret hlk hnm => ?_)
  have O : zO p l s m args c D B sa 3 cX6_set RX6 := O
  have HJ14 : ∀ (y1 : Int32) (y2 : Int32) (u0 : Int32) (v0 : MT) (G9 : zG) (g0 : MA b0 v0 G9) (gF : Fr b0 8 G G9), PJ_M_set_14 x1 x2 y1 y2 u0 v0 Q → zT p l e (zrm 2 46 0 0) s m args below meth c (zEnd below D B (zRi fun r z' G' => z = z' ∧ ∃ w, MA b0 w G' ∧ Fr b0 8 G G' ∧ Q r w) args s 0 0) D B 3 0 0 14 [.int u0, .ref b0] [some (.ref b0), some (.int y1), some (.int y2)] z G9 := by
    intro y1 y2 u0 v0 G9 g0 gF h
    unfold PJ_M_set_14 at h
    refine z_callVi (As := [.int u0]) (st := []) O (s_M_refused hfl g0 h) wy_X6_refused wl_RX6_136 dX6_set_14 rfl rfl (M_obj g0) ⟨by decide, rfl⟩ ⟨Nat.le_of_ble_eq_true rfl, Nat.le_of_ble_eq_true rfl⟩ (Nat.le_of_ble_eq_true rfl) ⟨Nat.le_of_ble_eq_true rfl, Nat.le_of_ble_eq_true rfl⟩ (fun r6_ z7_ G8_ hq9_ => ?_)
    obtain ⟨rfl, v10_, k11_, f12_, h⟩ := hq9_
    have F13_ : Fr b0 8 G G8_ := Fr.trans gF f12_
    refine z_if_eq (tgt := 22) O dX6_set_17 (by decide) (fun c14_ => ?_) (fun c14_ => ?_)
    · have h := h.1 c14_
      refine z_aload_n O dX6_set_22 rfl rfl ?_
      refine z_callVv (As := []) (st := []) O (s_M_remember hfl k11_ h) wy_X6_remember wl_RX6_254 dX6_set_23 rfl rfl (M_obj k11_) ⟨by decide, rfl⟩ ⟨Nat.le_of_ble_eq_true rfl, Nat.le_of_ble_eq_true rfl⟩ (Nat.le_of_ble_eq_true rfl) ⟨Nat.le_of_ble_eq_true rfl, Nat.le_of_ble_eq_true rfl⟩ (fun z16_ G17_ hq18_ => ?_)
      obtain ⟨rfl, v19_, k20_, f21_, h⟩ := hq18_
      have F22_ : Fr b0 8 G G17_ := Fr.trans F13_ f21_
      refine z_aload_n O dX6_set_26 rfl rfl ?_
      refine z_get (v := .ref (b0 + 1)) O wf_RX6_7 dX6_set_27 (M_obj k20_) rfl ?_
      refine z_iload_n O dX6_set_30 rfl rfl ?_
      refine z_iload_n O dX6_set_31 rfl rfl ?_
      refine z_callSi (As := [.ref (b0 + 1), .int y1, .int y2]) (st := []) O (s_M_put hfl (M_now_of k20_) h) wy_X6_put wl_RX6_199 dX6_set_32 rfl rfl ⟨Nat.le_of_ble_eq_true rfl, Nat.le_of_ble_eq_true rfl⟩ (Nat.le_of_ble_eq_true rfl) ⟨Nat.le_of_ble_eq_true rfl, Nat.le_of_ble_eq_true rfl⟩ (fun r23_ z24_ G25_ hq26_ => ?_)
      obtain ⟨rfl, v27_, k28_, f29_, h⟩ := hq26_
      have k30_ := M_put_now k20_ k28_ f29_
      have f31_ : Fr b0 8 G17_ G25_ := Fr.mono f29_ (by omega) (by omega)
      obtain ⟨v32_, ev32_⟩ : ∃ w, w = (M_set_now v19_ v27_) := ⟨_, rfl⟩
      have h := h v32_ ev32_
      have k33_ : MA b0 v32_ G25_ := by rw [ev32_]; exact k30_
      have F34_ : Fr b0 8 G G25_ := Fr.trans F22_ f31_
      exact z_iret O hret hlk dX6_set_35 (Nat.le_of_ble_eq_true rfl) (Nat.le_of_ble_eq_true rfl) ⟨_, rfl, rfl, _, k33_, F34_, h⟩
    · have h := h.2 c14_
      refine z_iconst (v := 0) O dX6_set_20 (by decide) ?_
      exact z_iret O hret hlk dX6_set_21 (Nat.le_of_ble_eq_true rfl) (Nat.le_of_ble_eq_true rfl) ⟨_, rfl, rfl, _, k11_, F13_, h⟩
  refine z_aload_n O dX6_set_0 rfl rfl ?_
  refine z_iload_n O dX6_set_1 rfl rfl ?_
  refine z_iload_n O dX6_set_2 rfl rfl ?_
  refine z_callSi (As := [.int x1, .int x2]) (st := [.ref b0]) O (s_M_isSetting hfl h) wy_X6_isSetting wl_RX6_195 dX6_set_3 rfl rfl ⟨Nat.le_of_ble_eq_true rfl, Nat.le_of_ble_eq_true rfl⟩ (Nat.le_of_ble_eq_true rfl) ⟨Nat.le_of_ble_eq_true rfl, Nat.le_of_ble_eq_true rfl⟩ (fun r1_ z2_ G3_ hq4_ => ?_)
  obtain ⟨rfl, rfl, h⟩ := hq4_
  refine z_if_eq (tgt := 13) O dX6_set_6 (by decide) (fun c5_ => ?_) (fun c5_ => ?_)
  · have h := h.1 c5_
    refine z_iconst (v := 1) O dX6_set_13 (by decide) ?_
    exact z_subL (L' := [some (.ref b0), some (.int x1), some (.int x2)]) (zLe.sub (And.intro rfl (And.intro rfl (And.intro rfl True.intro)))) (HJ14 x1 x2 1 v0 G h0 Fr.rf h)
  · have h := h.2 c5_
    refine z_iconst (v := 0) O dX6_set_9 (by decide) ?_
    refine z_goto (tgt := 14) O dX6_set_10 (by decide) ?_
    exact z_subL (L' := [some (.ref b0), some (.int x1), some (.int x2)]) (zLe.sub (And.intro rfl (And.intro rfl (And.intro rfl True.intro)))) (HJ14 x1 x2 0 v0 G h0 Fr.rf h)

theorem dX6_ticks_0 : decode cX6_ticks 0 = .ok (.aload_n 0, 1) := by decide +kernel
theorem dX6_ticks_1 : decode cX6_ticks 1 = .ok (.iload_n 1, 1) := by decide +kernel
theorem dX6_ticks_2 : decode cX6_ticks 2 = .ok (.i2l, 1) := by decide +kernel
theorem dX6_ticks_3 : decode cX6_ticks 3 = .ok (.lconst 1, 1) := by decide +kernel
theorem dX6_ticks_4 : decode cX6_ticks 4 = .ok (.ldc2_w 52, 3) := by decide +kernel
theorem dX6_ticks_7 : decode cX6_ticks 7 = .ok (.invokestatic 44, 3) := by decide +kernel
theorem dX6_ticks_10 : decode cX6_ticks 10 = .ok (.ifCond .eq 7, 3) := by decide +kernel
theorem dX6_ticks_13 : decode cX6_ticks 13 = .ok (.iconst 0, 1) := by decide +kernel
theorem dX6_ticks_14 : decode cX6_ticks 14 = .ok (.goto 4, 3) := by decide +kernel
theorem dX6_ticks_17 : decode cX6_ticks 17 = .ok (.iconst 1, 1) := by decide +kernel
theorem dX6_ticks_18 : decode cX6_ticks 18 = .ok (.invokevirtual 136, 3) := by decide +kernel
theorem dX6_ticks_21 : decode cX6_ticks 21 = .ok (.ifCond .eq 5, 3) := by decide +kernel
theorem dX6_ticks_24 : decode cX6_ticks 24 = .ok (.iconst 0, 1) := by decide +kernel
theorem dX6_ticks_25 : decode cX6_ticks 25 = .ok (.ireturn, 1) := by decide +kernel
theorem dX6_ticks_26 : decode cX6_ticks 26 = .ok (.aload_n 0, 1) := by decide +kernel
theorem dX6_ticks_27 : decode cX6_ticks 27 = .ok (.invokevirtual 254, 3) := by decide +kernel
theorem dX6_ticks_30 : decode cX6_ticks 30 = .ok (.aload_n 0, 1) := by decide +kernel
theorem dX6_ticks_31 : decode cX6_ticks 31 = .ok (.getfield 7, 3) := by decide +kernel
theorem dX6_ticks_34 : decode cX6_ticks 34 = .ok (.iload_n 1, 1) := by decide +kernel
theorem dX6_ticks_35 : decode cX6_ticks 35 = .ok (.invokestatic 208, 3) := by decide +kernel
theorem dX6_ticks_38 : decode cX6_ticks 38 = .ok (.ireturn, 1) := by decide +kernel
def PJ_M_ticks_18 (x1 : Int32) (y1 : Int32) (u0 : Int32) (v0 : MT) (Q : Int32 → MT → Prop) : Prop := P_M_refused u0 v0 (fun r6_ v10_ => (((r6_ = 0 → P_M_remember v10_ (fun v19_ => (P_M_goTicks y1 (M_now v19_) (fun r23_ v27_ => (∀ v32_, v32_ = (M_set_now v19_ v27_) → (Q r23_ v32_)))))) ∧ (¬ r6_ = 0 → Q 0 v10_))))
def P_M_ticks (x1 : Int32) (v0 : MT) (Q : Int32 → MT → Prop) : Prop := P_M_in (Int32.toInt64 x1) 1 99 (fun r1_ => (((r1_ = 0 → PJ_M_ticks_18 x1 x1 1 v0 Q) ∧ (¬ r1_ = 0 → PJ_M_ticks_18 x1 x1 0 v0 Q))))
set_option maxRecDepth 100000 in
theorem s_M_ticks {l : Launch} {D : zD} {B : Nat} {sa : Nat → Nat} (hfl : l.stackTraces = false) {z : Nat} {G : zG} {b0 : Nat} {x1 : Int32} {v0 : MT} {Q : Int32 → MT → Prop} (h0 : MA b0 v0 G) (h : P_M_ticks x1 v0 Q) : zSp l D B sa yX6_ticks cX6_ticks 2 (some .int) 6 132 0 0 [.ref b0, .int x1] z G (zRi fun r z' G' => z = z' ∧ ∃ w, MA b0 w G' ∧ Fr b0 8 G G' ∧ Q r w) := by
  unfold P_M_ticks at h
  refine z_ofW (by decide +kernel) hfl [some (.ref b0), some (.int x1)] rfl (Nat.le_of_ble_eq_true rfl) (fun p e s m args below meth c O hret hlk hnm => ?_)
  have O : zO p l s m args c D B sa 2 cX6_ticks RX6 := O
  have HJ18 : ∀ (y1 : Int32) (u0 : Int32) (v0 : MT) (G9 : zG) (g0 : MA b0 v0 G9) (gF : Fr b0 8 G G9), PJ_M_ticks_18 x1 y1 u0 v0 Q → zT p l e (zrm 6 132 0 0) s m args below meth c (zEnd below D B (zRi fun r z' G' => z = z' ∧ ∃ w, MA b0 w G' ∧ Fr b0 8 G G' ∧ Q r w) args s 0 0) D B 2 0 0 18 [.int u0, .ref b0] [some (.ref b0), some (.int y1)] z G9 := by
    intro y1 u0 v0 G9 g0 gF h
    unfold PJ_M_ticks_18 at h
    refine z_callVi (As := [.int u0]) (st := []) O (s_M_refused hfl g0 h) wy_X6_refused wl_RX6_136 dX6_ticks_18 rfl rfl (M_obj g0) ⟨by decide, rfl⟩ ⟨Nat.le_of_ble_eq_true rfl, Nat.le_of_ble_eq_true rfl⟩ (Nat.le_of_ble_eq_true rfl) ⟨Nat.le_of_ble_eq_true rfl, Nat.le_of_ble_eq_true rfl⟩ (fun r6_ z7_ G8_ hq9_ => ?_)
    obtain ⟨rfl, v10_, k11_, f12_, h⟩ := hq9_
    have F13_ : Fr b0 8 G G8_ := Fr.trans gF f12_
    refine z_if_eq (tgt := 26) O dX6_ticks_21 (by decide) (fun c14_ => ?_) (fun c14_ => ?_)
    · have h := h.1 c14_
      refine z_aload_n O dX6_ticks_26 rfl rfl ?_
      refine z_callVv (As := []) (st := []) O (s_M_remember hfl k11_ h) wy_X6_remember wl_RX6_254 dX6_ticks_27 rfl rfl (M_obj k11_) ⟨by decide, rfl⟩ ⟨Nat.le_of_ble_eq_true rfl, Nat.le_of_ble_eq_true rfl⟩ (Nat.le_of_ble_eq_true rfl) ⟨Nat.le_of_ble_eq_true rfl, Nat.le_of_ble_eq_true rfl⟩ (fun z16_ G17_ hq18_ => ?_)
      obtain ⟨rfl, v19_, k20_, f21_, h⟩ := hq18_
      have F22_ : Fr b0 8 G G17_ := Fr.trans F13_ f21_
      refine z_aload_n O dX6_ticks_30 rfl rfl ?_
      refine z_get (v := .ref (b0 + 1)) O wf_RX6_7 dX6_ticks_31 (M_obj k20_) rfl ?_
      refine z_iload_n O dX6_ticks_34 rfl rfl ?_
      refine z_callSi (As := [.ref (b0 + 1), .int y1]) (st := []) O (s_M_goTicks hfl (M_now_of k20_) h) wy_X6_goTicks wl_RX6_208 dX6_ticks_35 rfl rfl ⟨Nat.le_of_ble_eq_true rfl, Nat.le_of_ble_eq_true rfl⟩ (Nat.le_of_ble_eq_true rfl) ⟨Nat.le_of_ble_eq_true rfl, Nat.le_of_ble_eq_true rfl⟩ (fun r23_ z24_ G25_ hq26_ => ?_)
      obtain ⟨rfl, v27_, k28_, f29_, h⟩ := hq26_
      have k30_ := M_put_now k20_ k28_ f29_
      have f31_ : Fr b0 8 G17_ G25_ := Fr.mono f29_ (by omega) (by omega)
      obtain ⟨v32_, ev32_⟩ : ∃ w, w = (M_set_now v19_ v27_) := ⟨_, rfl⟩
      have h := h v32_ ev32_
      have k33_ : MA b0 v32_ G25_ := by rw [ev32_]; exact k30_
      have F34_ : Fr b0 8 G G25_ := Fr.trans F22_ f31_
      exact z_iret O hret hlk dX6_ticks_38 (Nat.le_of_ble_eq_true rfl) (Nat.le_of_ble_eq_true rfl) ⟨_, rfl, rfl, _, k33_, F34_, h⟩
    · have h := h.2 c14_
      refine z_iconst (v := 0) O dX6_ticks_24 (by decide) ?_
      exact z_iret O hret hlk dX6_ticks_25 (Nat.le_of_ble_eq_true rfl) (Nat.le_of_ble_eq_true rfl) ⟨_, rfl, rfl, _, k11_, F13_, h⟩
  refine z_aload_n O dX6_ticks_0 rfl rfl ?_
  refine z_iload_n O dX6_ticks_1 rfl rfl ?_
  refine z_i2l O dX6_ticks_2 ?_
  refine z_lconst (v := 1) O dX6_ticks_3 (by decide) ?_
  refine z_ldc2 (v := 99) O wc_RX6_52 dX6_ticks_4 ?_
  refine z_callSi (As := [.long (Int32.toInt64 x1), .long 1, .long 99]) (st := [.ref b0]) O (s_M_in hfl h) wy_X6_in wl_RX6_44 dX6_ticks_7 rfl rfl ⟨Nat.le_of_ble_eq_true rfl, Nat.le_of_ble_eq_true rfl⟩ (Nat.le_of_ble_eq_true rfl) ⟨Nat.le_of_ble_eq_true rfl, Nat.le_of_ble_eq_true rfl⟩ (fun r1_ z2_ G3_ hq4_ => ?_)
  obtain ⟨rfl, rfl, h⟩ := hq4_
  refine z_if_eq (tgt := 17) O dX6_ticks_10 (by decide) (fun c5_ => ?_) (fun c5_ => ?_)
  · have h := h.1 c5_
    refine z_iconst (v := 1) O dX6_ticks_17 (by decide) ?_
    exact z_subL (L' := [some (.ref b0), some (.int x1)]) (zLe.sub (And.intro rfl (And.intro rfl True.intro))) (HJ18 x1 1 v0 G h0 Fr.rf h)
  · have h := h.2 c5_
    refine z_iconst (v := 0) O dX6_ticks_13 (by decide) ?_
    refine z_goto (tgt := 18) O dX6_ticks_14 (by decide) ?_
    exact z_subL (L' := [some (.ref b0), some (.int x1)]) (zLe.sub (And.intro rfl (And.intro rfl True.intro))) (HJ18 x1 0 v0 G h0 Fr.rf h)

theorem dX6_undo_0 : decode cX6_undo 0 = .ok (.aload_n 0, 1) := by decide +kernel
theorem dX6_undo_1 : decode cX6_undo 1 = .ok (.aload_n 0, 1) := by decide +kernel
theorem dX6_undo_2 : decode cX6_undo 2 = .ok (.getfield 128, 3) := by decide +kernel
theorem dX6_undo_5 : decode cX6_undo 5 = .ok (.ifCond .ne 7, 3) := by decide +kernel
theorem dX6_undo_8 : decode cX6_undo 8 = .ok (.iconst 1, 1) := by decide +kernel
theorem dX6_undo_9 : decode cX6_undo 9 = .ok (.goto 4, 3) := by decide +kernel
theorem dX6_undo_12 : decode cX6_undo 12 = .ok (.iconst 0, 1) := by decide +kernel
theorem dX6_undo_13 : decode cX6_undo 13 = .ok (.invokevirtual 136, 3) := by decide +kernel
theorem dX6_undo_16 : decode cX6_undo 16 = .ok (.ifCond .eq 5, 3) := by decide +kernel
theorem dX6_undo_19 : decode cX6_undo 19 = .ok (.iconst 0, 1) := by decide +kernel
theorem dX6_undo_20 : decode cX6_undo 20 = .ok (.ireturn, 1) := by decide +kernel
theorem dX6_undo_21 : decode cX6_undo 21 = .ok (.aload_n 0, 1) := by decide +kernel
theorem dX6_undo_22 : decode cX6_undo 22 = .ok (.dup, 1) := by decide +kernel
theorem dX6_undo_23 : decode cX6_undo 23 = .ok (.getfield 128, 3) := by decide +kernel
theorem dX6_undo_26 : decode cX6_undo 26 = .ok (.iconst 1, 1) := by decide +kernel
theorem dX6_undo_27 : decode cX6_undo 27 = .ok (.isub, 1) := by decide +kernel
theorem dX6_undo_28 : decode cX6_undo 28 = .ok (.putfield 128, 3) := by decide +kernel
theorem dX6_undo_31 : decode cX6_undo 31 = .ok (.iconst 0, 1) := by decide +kernel
theorem dX6_undo_32 : decode cX6_undo 32 = .ok (.istore_n 1, 1) := by decide +kernel
theorem dX6_undo_33 : decode cX6_undo 33 = .ok (.iload_n 1, 1) := by decide +kernel
theorem dX6_undo_34 : decode cX6_undo 34 = .ok (.sipush 621, 3) := by decide +kernel
theorem dX6_undo_37 : decode cX6_undo 37 = .ok (.if_icmp .ge 30, 3) := by decide +kernel
theorem dX6_undo_40 : decode cX6_undo 40 = .ok (.aload_n 0, 1) := by decide +kernel
theorem dX6_undo_41 : decode cX6_undo 41 = .ok (.getfield 7, 3) := by decide +kernel
theorem dX6_undo_44 : decode cX6_undo 44 = .ok (.iload_n 1, 1) := by decide +kernel
theorem dX6_undo_45 : decode cX6_undo 45 = .ok (.aload_n 0, 1) := by decide +kernel
theorem dX6_undo_46 : decode cX6_undo 46 = .ok (.getfield 19, 3) := by decide +kernel
theorem dX6_undo_49 : decode cX6_undo 49 = .ok (.sipush 621, 3) := by decide +kernel
theorem dX6_undo_52 : decode cX6_undo 52 = .ok (.aload_n 0, 1) := by decide +kernel
theorem dX6_undo_53 : decode cX6_undo 53 = .ok (.getfield 128, 3) := by decide +kernel
theorem dX6_undo_56 : decode cX6_undo 56 = .ok (.imul, 1) := by decide +kernel
theorem dX6_undo_57 : decode cX6_undo 57 = .ok (.iload_n 1, 1) := by decide +kernel
theorem dX6_undo_58 : decode cX6_undo 58 = .ok (.iadd, 1) := by decide +kernel
theorem dX6_undo_59 : decode cX6_undo 59 = .ok (.iaload, 1) := by decide +kernel
theorem dX6_undo_60 : decode cX6_undo 60 = .ok (.iastore, 1) := by decide +kernel
theorem dX6_undo_61 : decode cX6_undo 61 = .ok (.iinc 1 1, 3) := by decide +kernel
theorem dX6_undo_64 : decode cX6_undo 64 = .ok (.goto (-31), 3) := by decide +kernel
theorem dX6_undo_67 : decode cX6_undo 67 = .ok (.aload_n 0, 1) := by decide +kernel
theorem dX6_undo_68 : decode cX6_undo 68 = .ok (.getfield 128, 3) := by decide +kernel
theorem dX6_undo_71 : decode cX6_undo 71 = .ok (.ireturn, 1) := by decide +kernel
def PL_M_undo_33 : Nat → Int32 → MT → (Int32 → MT → Prop) → Prop
  | 0, _, _, _ => False
  | n + 1, y1, v0, Q => ((621 ≤ y1 → Q (M_states v0) v0) ∧ (¬ 621 ≤ y1 → vp_in ((621 * (M_states v0)) + y1) 8694 ∧ (vp_in y1 621 ∧ (∀ v28_, v28_ = (M_set_now v0 (upd (M_now v0) (Int32.toNatClampNeg y1) ((M_book v0) (Int32.toNatClampNeg ((621 * (M_states v0)) + y1))))) → ((fun y1 v0 => PL_M_undo_33 n  y1 v0  Q) (y1 + 1) v28_)))))
def PJ_M_undo_13 (u0 : Int32) (v0 : MT) (Q : Int32 → MT → Prop) : Prop := P_M_refused u0 v0 (fun r2_ v6_ => (((r2_ = 0 → ∀ v16_, v16_ = (M_set_states v6_ ((M_states v6_) - 1)) → ((∃ n31_, PL_M_undo_33 n31_ 0 v16_ Q))) ∧ (¬ r2_ = 0 → Q 0 v6_))))
def P_M_undo (v0 : MT) (Q : Int32 → MT → Prop) : Prop := ((¬ (M_states v0) = 0 → PJ_M_undo_13 0 v0 Q) ∧ ((M_states v0) = 0 → PJ_M_undo_13 1 v0 Q))
set_option maxRecDepth 100000 in
theorem s_M_undo {l : Launch} {D : zD} {B : Nat} {sa : Nat → Nat} (hfl : l.stackTraces = false) {z : Nat} {G : zG} {b0 : Nat} {v0 : MT} {Q : Int32 → MT → Prop} (h0 : MA b0 v0 G) (h : P_M_undo v0 Q) : zSp l D B sa yX6_undo cX6_undo 2 (some .int) 1 21 0 0 [.ref b0] z G (zRi fun r z' G' => z = z' ∧ ∃ w, MA b0 w G' ∧ Fr b0 8 G G' ∧ Q r w) := by
  unfold P_M_undo at h
  refine z_ofW (by decide +kernel) hfl [some (.ref b0), none] rfl (Nat.le_of_ble_eq_true rfl) (fun p e s m args below meth c O hret hlk hnm => ?_)
  have O : zO p l s m args c D B sa 2 cX6_undo RX6 := O
  have HL33 : ∀ (n9 : Nat)    (y1 : Int32) (v0 : MT) (G9 : zG) (g0 : MA b0 v0 G9) (gF : Fr b0 8 G G9) (h : PL_M_undo_33 n9 y1 v0 Q), zT p l e (zrm 1 21 0 0) s m args below meth c (zEnd below D B (zRi fun r z' G' => z = z' ∧ ∃ w, MA b0 w G' ∧ Fr b0 8 G G' ∧ Q r w) args s 0 0) D B 2 0 0 33 [] [some (.ref b0), some (.int y1)] z G9 := by
    intro n9   
    induction n9 with
    | zero =>
      intro _ _ _ _ _ h
      exact (h : False).elim
    | succ n ih =>
      intro y1 v0 G9 g0 gF h
      rw [PL_M_undo_33] at h
      refine z_iload_n O dX6_undo_33 rfl rfl ?_
      refine z_sipush (v := 621) O dX6_undo_34 (by decide) ?_
      refine z_icmp_ge (tgt := 67) O dX6_undo_37 (by decide) (fun c19_ => ?_) (fun c19_ => ?_)
      · have h := h.1 c19_
        refine z_aload_n O dX6_undo_67 rfl rfl ?_
        refine z_get (v := .int (M_states v0)) O wf_RX6_128 dX6_undo_68 (M_obj g0) rfl ?_
        exact z_iret O hret hlk dX6_undo_71 (Nat.le_of_ble_eq_true rfl) (Nat.le_of_ble_eq_true rfl) ⟨_, rfl, rfl, _, g0, gF, h⟩
      · have h := h.2 c19_
        refine z_aload_n O dX6_undo_40 rfl rfl ?_
        refine z_get (v := .ref (b0 + 1)) O wf_RX6_7 dX6_undo_41 (M_obj g0) rfl ?_
        refine z_iload_n O dX6_undo_44 rfl rfl ?_
        refine z_aload_n O dX6_undo_45 rfl rfl ?_
        refine z_get (v := .ref (b0 + 4)) O wf_RX6_19 dX6_undo_46 (M_obj g0) rfl ?_
        refine z_sipush (v := 621) O dX6_undo_49 (by decide) ?_
        refine z_aload_n O dX6_undo_52 rfl rfl ?_
        refine z_get (v := .int (M_states v0)) O wf_RX6_128 dX6_undo_53 (M_obj g0) rfl ?_
        refine z_imul O dX6_undo_56 ?_
        refine z_iload_n O dX6_undo_57 rfl rfl ?_
        refine z_iadd O dX6_undo_58 ?_
        obtain ⟨q20_, h⟩ := h
        refine z_iald O dX6_undo_59 (M_book_of g0) q20_ ?_
        obtain ⟨q21_, h⟩ := h
        refine y_iast O dX6_undo_60 (M_now_of g0) q21_ (fun G22_ hw23_ => ?_)
        have k24_ := hw23_.1
        have f25_ := hw23_.fr
        have k26_ := M_put_now g0 k24_ f25_
        have f27_ : Fr b0 8 G9 G22_ := Fr.mono f25_ (by omega) (by omega)
        obtain ⟨v28_, ev28_⟩ : ∃ w, w = (M_set_now v0 (upd (M_now v0) (Int32.toNatClampNeg y1) ((M_book v0) (Int32.toNatClampNeg ((621 * (M_states v0)) + y1))))) := ⟨_, rfl⟩
        have h := h v28_ ev28_
        have k29_ : MA b0 v28_ G22_ := by rw [ev28_]; exact k26_
        have F30_ : Fr b0 8 G G22_ := Fr.trans gF f27_
        refine z_iinc (v := (y1 + 1)) (L' := [some (.ref b0), some (.int (y1 + 1))]) O dX6_undo_61 rfl (by first | rfl | decide) (by decide) rfl ?_
        refine z_goto (tgt := 33) O dX6_undo_64 (by decide) ?_
        exact z_subL (L' := [some (.ref b0), some (.int (y1 + 1))]) (zLe.sub (And.intro rfl (And.intro rfl True.intro))) (ih (y1 + 1) v28_ G22_ k29_ F30_ h)
  have HJ13 : ∀ (u0 : Int32) (v0 : MT) (G9 : zG) (g0 : MA b0 v0 G9) (gF : Fr b0 8 G G9), PJ_M_undo_13 u0 v0 Q → zT p l e (zrm 1 21 0 0) s m args below meth c (zEnd below D B (zRi fun r z' G' => z = z' ∧ ∃ w, MA b0 w G' ∧ Fr b0 8 G G' ∧ Q r w) args s 0 0) D B 2 0 0 13 [.int u0, .ref b0] [some (.ref b0), none] z G9 := by
    intro u0 v0 G9 g0 gF h
    unfold PJ_M_undo_13 at h
    refine z_callVi (As := [.int u0]) (st := []) O (s_M_refused hfl g0 h) wy_X6_refused wl_RX6_136 dX6_undo_13 rfl rfl (M_obj g0) ⟨by decide, rfl⟩ ⟨Nat.le_of_ble_eq_true rfl, Nat.le_of_ble_eq_true rfl⟩ (Nat.le_of_ble_eq_true rfl) ⟨Nat.le_of_ble_eq_true rfl, Nat.le_of_ble_eq_true rfl⟩ (fun r2_ z3_ G4_ hq5_ => ?_)
    obtain ⟨rfl, v6_, k7_, f8_, h⟩ := hq5_
    have F9_ : Fr b0 8 G G4_ := Fr.trans gF f8_
    refine z_if_eq (tgt := 21) O dX6_undo_16 (by decide) (fun c10_ => ?_) (fun c10_ => ?_)
    · have h := h.1 c10_
      refine z_aload_n O dX6_undo_21 rfl rfl ?_
      refine z_dup O dX6_undo_22 rfl ?_
      refine z_get (v := .int (M_states v6_)) O wf_RX6_128 dX6_undo_23 (M_obj k7_) rfl ?_
      refine z_iconst (v := 1) O dX6_undo_26 (by decide) ?_
      refine z_isub O dX6_undo_27 ?_
      refine y_put O wp_RX6_128 dX6_undo_28 (M_obj k7_) rfl rfl (fun G11_ hw12_ => ?_)
      have k13_ := M_w_states k7_ hw12_
      have f14_ := hw12_.fr
      have f15_ : Fr b0 8 G4_ G11_ := Fr.mono f14_ (by omega) (by omega)
      obtain ⟨v16_, ev16_⟩ : ∃ w, w = (M_set_states v6_ ((M_states v6_) - 1)) := ⟨_, rfl⟩
      have h := h v16_ ev16_
      have k17_ : MA b0 v16_ G11_ := by rw [ev16_]; exact k13_
      have F18_ : Fr b0 8 G G11_ := Fr.trans F9_ f15_
      refine z_iconst (v := 0) O dX6_undo_31 (by decide) ?_
      refine z_istore_n (L' := [some (.ref b0), some (.int 0)]) O dX6_undo_32 rfl (by decide) rfl ?_
      obtain ⟨n31_, h⟩ := h
      exact z_subL (L' := [some (.ref b0), some (.int 0)]) (zLe.sub (And.intro rfl (And.intro rfl True.intro))) (HL33 n31_ 0 v16_ G11_ k17_ F18_ h)
    · have h := h.2 c10_
      refine z_iconst (v := 0) O dX6_undo_19 (by decide) ?_
      exact z_iret O hret hlk dX6_undo_20 (Nat.le_of_ble_eq_true rfl) (Nat.le_of_ble_eq_true rfl) ⟨_, rfl, rfl, _, k7_, F9_, h⟩
  refine z_aload_n O dX6_undo_0 rfl rfl ?_
  refine z_aload_n O dX6_undo_1 rfl rfl ?_
  refine z_get (v := .int (M_states v0)) O wf_RX6_128 dX6_undo_2 (M_obj h0) rfl ?_
  refine z_if_ne (tgt := 12) O dX6_undo_5 (by decide) (fun c1_ => ?_) (fun c1_ => ?_)
  · have h := h.1 c1_
    refine z_iconst (v := 0) O dX6_undo_12 (by decide) ?_
    exact z_subL (L' := [some (.ref b0), none]) (zLe.sub (And.intro rfl True.intro)) (HJ13 0 v0 G h0 Fr.rf h)
  · have h := h.2 c1_
    refine z_iconst (v := 1) O dX6_undo_8 (by decide) ?_
    refine z_goto (tgt := 13) O dX6_undo_9 (by decide) ?_
    exact z_subL (L' := [some (.ref b0), none]) (zLe.sub (And.intro rfl True.intro)) (HJ13 1 v0 G h0 Fr.rf h)

theorem dX6_why_0 : decode cX6_why 0 = .ok (.aload_n 0, 1) := by decide +kernel
theorem dX6_why_1 : decode cX6_why 1 = .ok (.iconst 0, 1) := by decide +kernel
theorem dX6_why_2 : decode cX6_why 2 = .ok (.putfield 36, 3) := by decide +kernel
theorem dX6_why_5 : decode cX6_why 5 = .ok (.aload_n 0, 1) := by decide +kernel
theorem dX6_why_6 : decode cX6_why 6 = .ok (.getfield 7, 3) := by decide +kernel
theorem dX6_why_9 : decode cX6_why 9 = .ok (.invokestatic 107, 3) := by decide +kernel
theorem dX6_why_12 : decode cX6_why 12 = .ok (.ireturn, 1) := by decide +kernel
def P_M_why (v0 : MT) (Q : Int32 → MT → Prop) : Prop := ∀ v6_, v6_ = (M_set_refusal v0 0) → (P_M_whyStays (M_now v6_) (fun r9_ => (Q r9_ v6_)))
set_option maxRecDepth 100000 in
theorem s_M_why {l : Launch} {D : zD} {B : Nat} {sa : Nat → Nat} (hfl : l.stackTraces = false) {z : Nat} {G : zG} {b0 : Nat} {v0 : MT} {Q : Int32 → MT → Prop} (h0 : MA b0 v0 G) (h : P_M_why v0 Q) : zSp l D B sa yX6_why cX6_why 1 (some .int) 4 88 0 0 [.ref b0] z G (zRi fun r z' G' => z = z' ∧ ∃ w, MA b0 w G' ∧ Fr b0 8 G G' ∧ Q r w) := by
  unfold P_M_why at h
  refine z_ofW (by decide +kernel) hfl [some (.ref b0)] rfl (Nat.le_of_ble_eq_true rfl) (fun p e s m args below meth c O hret hlk hnm => ?_)
  have O : zO p l s m args c D B sa 1 cX6_why RX6 := O
  refine z_aload_n O dX6_why_0 rfl rfl ?_
  refine z_iconst (v := 0) O dX6_why_1 (by decide) ?_
  refine y_put O wp_RX6_36 dX6_why_2 (M_obj h0) rfl rfl (fun G1_ hw2_ => ?_)
  have k3_ := M_w_refusal h0 hw2_
  have f4_ := hw2_.fr
  have f5_ : Fr b0 8 G G1_ := Fr.mono f4_ (by omega) (by omega)
  obtain ⟨v6_, ev6_⟩ : ∃ w, w = (M_set_refusal v0 0) := ⟨_, rfl⟩
  have h := h v6_ ev6_
  have k7_ : MA b0 v6_ G1_ := by rw [ev6_]; exact k3_
  have F8_ : Fr b0 8 G G1_ := Fr.trans Fr.rf f5_
  refine z_aload_n O dX6_why_5 rfl rfl ?_
  refine z_get (v := .ref (b0 + 1)) O wf_RX6_7 dX6_why_6 (M_obj k7_) rfl ?_
  refine z_callSi (As := [.ref (b0 + 1)]) (st := []) O (s_M_whyStays hfl (M_now_of k7_) h) wy_X6_whyStays wl_RX6_107 dX6_why_9 rfl rfl ⟨Nat.le_of_ble_eq_true rfl, Nat.le_of_ble_eq_true rfl⟩ (Nat.le_of_ble_eq_true rfl) ⟨Nat.le_of_ble_eq_true rfl, Nat.le_of_ble_eq_true rfl⟩ (fun r9_ z10_ G11_ hq12_ => ?_)
  obtain ⟨rfl, rfl, h⟩ := hq12_
  exact z_iret O hret hlk dX6_why_12 (Nat.le_of_ble_eq_true rfl) (Nat.le_of_ble_eq_true rfl) ⟨_, rfl, rfl, _, k7_, F8_, h⟩

theorem dX6_slowest_0 : decode cX6_slowest 0 = .ok (.aload_n 0, 1) := by decide +kernel
theorem dX6_slowest_1 : decode cX6_slowest 1 = .ok (.iconst 0, 1) := by decide +kernel
theorem dX6_slowest_2 : decode cX6_slowest 2 = .ok (.putfield 36, 3) := by decide +kernel
theorem dX6_slowest_5 : decode cX6_slowest 5 = .ok (.iconst (-1), 1) := by decide +kernel
theorem dX6_slowest_6 : decode cX6_slowest 6 = .ok (.istore_n 1, 1) := by decide +kernel
theorem dX6_slowest_7 : decode cX6_slowest 7 = .ok (.iconst 0, 1) := by decide +kernel
theorem dX6_slowest_8 : decode cX6_slowest 8 = .ok (.istore_n 2, 1) := by decide +kernel
theorem dX6_slowest_9 : decode cX6_slowest 9 = .ok (.iload_n 2, 1) := by decide +kernel
theorem dX6_slowest_10 : decode cX6_slowest 10 = .ok (.bipush 8, 2) := by decide +kernel
theorem dX6_slowest_12 : decode cX6_slowest 12 = .ok (.if_icmp .ge 81, 3) := by decide +kernel
theorem dX6_slowest_15 : decode cX6_slowest 15 = .ok (.aload_n 0, 1) := by decide +kernel
theorem dX6_slowest_16 : decode cX6_slowest 16 = .ok (.getfield 7, 3) := by decide +kernel
theorem dX6_slowest_19 : decode cX6_slowest 19 = .ok (.iload_n 2, 1) := by decide +kernel
theorem dX6_slowest_20 : decode cX6_slowest 20 = .ok (.invokestatic 184, 3) := by decide +kernel
theorem dX6_slowest_23 : decode cX6_slowest 23 = .ok (.ifCond .eq 22, 3) := by decide +kernel
theorem dX6_slowest_26 : decode cX6_slowest 26 = .ok (.aload_n 0, 1) := by decide +kernel
theorem dX6_slowest_27 : decode cX6_slowest 27 = .ok (.getfield 7, 3) := by decide +kernel
theorem dX6_slowest_30 : decode cX6_slowest 30 = .ok (.iload_n 2, 1) := by decide +kernel
theorem dX6_slowest_31 : decode cX6_slowest 31 = .ok (.invokestatic 65, 3) := by decide +kernel
theorem dX6_slowest_34 : decode cX6_slowest 34 = .ok (.iconst 2, 1) := by decide +kernel
theorem dX6_slowest_35 : decode cX6_slowest 35 = .ok (.iadd, 1) := by decide +kernel
theorem dX6_slowest_36 : decode cX6_slowest 36 = .ok (.iaload, 1) := by decide +kernel
theorem dX6_slowest_37 : decode cX6_slowest 37 = .ok (.iconst 1, 1) := by decide +kernel
theorem dX6_slowest_38 : decode cX6_slowest 38 = .ok (.if_icmp .ne 7, 3) := by decide +kernel
theorem dX6_slowest_41 : decode cX6_slowest 41 = .ok (.iconst 1, 1) := by decide +kernel
theorem dX6_slowest_42 : decode cX6_slowest 42 = .ok (.goto 4, 3) := by decide +kernel
theorem dX6_slowest_45 : decode cX6_slowest 45 = .ok (.iconst 0, 1) := by decide +kernel
theorem dX6_slowest_46 : decode cX6_slowest 46 = .ok (.istore_n 3, 1) := by decide +kernel
theorem dX6_slowest_47 : decode cX6_slowest 47 = .ok (.iload_n 3, 1) := by decide +kernel
theorem dX6_slowest_48 : decode cX6_slowest 48 = .ok (.ifCond .eq 37, 3) := by decide +kernel
theorem dX6_slowest_51 : decode cX6_slowest 51 = .ok (.iload_n 1, 1) := by decide +kernel
theorem dX6_slowest_52 : decode cX6_slowest 52 = .ok (.iconst (-1), 1) := by decide +kernel
theorem dX6_slowest_53 : decode cX6_slowest 53 = .ok (.if_icmp .eq 28, 3) := by decide +kernel
theorem dX6_slowest_56 : decode cX6_slowest 56 = .ok (.aload_n 0, 1) := by decide +kernel
theorem dX6_slowest_57 : decode cX6_slowest 57 = .ok (.getfield 7, 3) := by decide +kernel
theorem dX6_slowest_60 : decode cX6_slowest 60 = .ok (.iload_n 2, 1) := by decide +kernel
theorem dX6_slowest_61 : decode cX6_slowest 61 = .ok (.invokestatic 65, 3) := by decide +kernel
theorem dX6_slowest_64 : decode cX6_slowest 64 = .ok (.iconst 1, 1) := by decide +kernel
theorem dX6_slowest_65 : decode cX6_slowest 65 = .ok (.iadd, 1) := by decide +kernel
theorem dX6_slowest_66 : decode cX6_slowest 66 = .ok (.iaload, 1) := by decide +kernel
theorem dX6_slowest_67 : decode cX6_slowest 67 = .ok (.aload_n 0, 1) := by decide +kernel
theorem dX6_slowest_68 : decode cX6_slowest 68 = .ok (.getfield 7, 3) := by decide +kernel
theorem dX6_slowest_71 : decode cX6_slowest 71 = .ok (.iload_n 1, 1) := by decide +kernel
theorem dX6_slowest_72 : decode cX6_slowest 72 = .ok (.invokestatic 65, 3) := by decide +kernel
theorem dX6_slowest_75 : decode cX6_slowest 75 = .ok (.iconst 1, 1) := by decide +kernel
theorem dX6_slowest_76 : decode cX6_slowest 76 = .ok (.iadd, 1) := by decide +kernel
theorem dX6_slowest_77 : decode cX6_slowest 77 = .ok (.iaload, 1) := by decide +kernel
theorem dX6_slowest_78 : decode cX6_slowest 78 = .ok (.if_icmp .ge 7, 3) := by decide +kernel
theorem dX6_slowest_81 : decode cX6_slowest 81 = .ok (.iload_n 2, 1) := by decide +kernel
theorem dX6_slowest_82 : decode cX6_slowest 82 = .ok (.goto 4, 3) := by decide +kernel
theorem dX6_slowest_85 : decode cX6_slowest 85 = .ok (.iload_n 1, 1) := by decide +kernel
theorem dX6_slowest_86 : decode cX6_slowest 86 = .ok (.istore_n 1, 1) := by decide +kernel
theorem dX6_slowest_87 : decode cX6_slowest 87 = .ok (.iinc 2 1, 3) := by decide +kernel
theorem dX6_slowest_90 : decode cX6_slowest 90 = .ok (.goto (-81), 3) := by decide +kernel
theorem dX6_slowest_93 : decode cX6_slowest 93 = .ok (.iload_n 1, 1) := by decide +kernel
theorem dX6_slowest_94 : decode cX6_slowest 94 = .ok (.ireturn, 1) := by decide +kernel
def PJ_M_slowest_46 (y1 : Int32) (y2 : Int32) (u0 : Int32) (v0 : MT) (K9 : Int32 → Int32 → MT → Prop) (Q : Int32 → MT → Prop) : Prop := ((u0 = 0 → K9 y1 (y2 + 1) v0) ∧ (¬ u0 = 0 → ((y1 = (-1) → K9 y2 (y2 + 1) v0) ∧ (¬ y1 = (-1) → P_M_reader y2 (fun r17_ => (vp_in (r17_ + 1) 621 ∧ (P_M_reader y1 (fun r22_ => (vp_in (r22_ + 1) 621 ∧ (((((M_now v0) (Int32.toNatClampNeg (r22_ + 1))) ≤ ((M_now v0) (Int32.toNatClampNeg (r17_ + 1))) → K9 y1 (y2 + 1) v0) ∧ (¬ ((M_now v0) (Int32.toNatClampNeg (r22_ + 1))) ≤ ((M_now v0) (Int32.toNatClampNeg (r17_ + 1))) → K9 y2 (y2 + 1) v0))))))))))))
def PJ_M_slowest_45 (y1 : Int32) (y2 : Int32) (v0 : MT) (K9 : Int32 → Int32 → MT → Prop) (Q : Int32 → MT → Prop) : Prop := PJ_M_slowest_46 y1 y2 0 v0 (fun a0 a1 w0 => K9 a0 a1 w0) Q
def PL_M_slowest_9 : Nat → Int32 → Int32 → MT → (Int32 → MT → Prop) → Prop
  | 0, _, _, _, _ => False
  | n + 1, y1, y2, v0, Q => ((8 ≤ y2 → Q y1 v0) ∧ (¬ 8 ≤ y2 → P_M_isReader y2 (M_now v0) (fun r10_ => (((r10_ = 0 → PJ_M_slowest_45 y1 y2 v0 (fun a0 a1 w0 => (fun y1 y2 v0 => PL_M_slowest_9 n  y1 y2 v0  Q) a0 a1 w0) Q) ∧ (¬ r10_ = 0 → P_M_reader y2 (fun r28_ => (vp_in (r28_ + 2) 621 ∧ (((¬ ((M_now v0) (Int32.toNatClampNeg (r28_ + 2))) = 1 → PJ_M_slowest_45 y1 y2 v0 (fun a0 a1 w0 => (fun y1 y2 v0 => PL_M_slowest_9 n  y1 y2 v0  Q) a0 a1 w0) Q) ∧ (((M_now v0) (Int32.toNatClampNeg (r28_ + 2))) = 1 → PJ_M_slowest_46 y1 y2 1 v0 (fun a0 a1 w0 => (fun y1 y2 v0 => PL_M_slowest_9 n  y1 y2 v0  Q) a0 a1 w0) Q)))))))))))
def P_M_slowest (v0 : MT) (Q : Int32 → MT → Prop) : Prop := ∀ v6_, v6_ = (M_set_refusal v0 0) → ((∃ n34_, PL_M_slowest_9 n34_ (-1) 0 v6_ Q))
set_option maxRecDepth 100000 in
theorem s_M_slowest {l : Launch} {D : zD} {B : Nat} {sa : Nat → Nat} (hfl : l.stackTraces = false) {z : Nat} {G : zG} {b0 : Nat} {v0 : MT} {Q : Int32 → MT → Prop} (h0 : MA b0 v0 G) (h : P_M_slowest v0 Q) : zSp l D B sa yX6_slowest cX6_slowest 4 (some .int) 3 66 0 0 [.ref b0] z G (zRi fun r z' G' => z = z' ∧ ∃ w, MA b0 w G' ∧ Fr b0 8 G G' ∧ Q r w) := by
  unfold P_M_slowest at h
  refine z_ofW (by decide +kernel) hfl [some (.ref b0), none, none, none] rfl (Nat.le_of_ble_eq_true rfl) (fun p e s m args below meth c O hret hlk hnm => ?_)
  have O : zO p l s m args c D B sa 4 cX6_slowest RX6 := O
  have HJ46 : ∀ (K9 : Int32 → Int32 → MT → Prop) (hK9 : ∀ (a0 : Int32) (a1 : Int32) (w0 : MT) (G7 : zG) (g0 : MA b0 w0 G7) (gF : Fr b0 8 G G7), K9 a0 a1 w0 → zT p l e (zrm 3 66 0 0) s m args below meth c (zEnd below D B (zRi fun r z' G' => z = z' ∧ ∃ w, MA b0 w G' ∧ Fr b0 8 G G' ∧ Q r w) args s 0 0) D B 4 0 0 9 [] [some (.ref b0), some (.int a0), some (.int a1), none] z G7) (y1 : Int32) (y2 : Int32) (u0 : Int32) (v0 : MT) (G9 : zG) (g0 : MA b0 v0 G9) (gF : Fr b0 8 G G9), PJ_M_slowest_46 y1 y2 u0 v0 K9 Q → zT p l e (zrm 3 66 0 0) s m args below meth c (zEnd below D B (zRi fun r z' G' => z = z' ∧ ∃ w, MA b0 w G' ∧ Fr b0 8 G G' ∧ Q r w) args s 0 0) D B 4 0 0 46 [.int u0] [some (.ref b0), some (.int y1), some (.int y2), none] z G9 := by
    intro K9 hK9 y1 y2 u0 v0 G9 g0 gF h
    unfold PJ_M_slowest_46 at h
    refine z_istore_n (L' := [some (.ref b0), some (.int y1), some (.int y2), some (.int u0)]) O dX6_slowest_46 rfl (by decide) rfl ?_
    refine z_iload_n O dX6_slowest_47 rfl rfl ?_
    refine z_if_eq (tgt := 85) O dX6_slowest_48 (by decide) (fun c15_ => ?_) (fun c15_ => ?_)
    · have h := h.1 c15_
      refine z_iload_n O dX6_slowest_85 rfl rfl ?_
      refine z_istore_n (L' := [some (.ref b0), some (.int y1), some (.int y2), some (.int u0)]) O dX6_slowest_86 rfl (by decide) rfl ?_
      refine z_iinc (v := (y2 + 1)) (L' := [some (.ref b0), some (.int y1), some (.int (y2 + 1)), some (.int u0)]) O dX6_slowest_87 rfl (by first | rfl | decide) (by decide) rfl ?_
      refine z_goto (tgt := 9) O dX6_slowest_90 (by decide) ?_
      exact z_subL (L' := [some (.ref b0), some (.int y1), some (.int (y2 + 1)), none]) (zLe.sub (And.intro rfl (And.intro rfl (And.intro rfl True.intro)))) (hK9 y1 (y2 + 1) v0 G9 g0 gF h)
    · have h := h.2 c15_
      refine z_iload_n O dX6_slowest_51 rfl rfl ?_
      refine z_iconst (v := (-1)) O dX6_slowest_52 (by decide) ?_
      refine z_icmp_eq (tgt := 81) O dX6_slowest_53 (by decide) (fun c16_ => ?_) (fun c16_ => ?_)
      · have h := h.1 c16_
        refine z_iload_n O dX6_slowest_81 rfl rfl ?_
        refine z_goto (tgt := 86) O dX6_slowest_82 (by decide) ?_
        refine z_istore_n (L' := [some (.ref b0), some (.int y2), some (.int y2), some (.int u0)]) O dX6_slowest_86 rfl (by decide) rfl ?_
        refine z_iinc (v := (y2 + 1)) (L' := [some (.ref b0), some (.int y2), some (.int (y2 + 1)), some (.int u0)]) O dX6_slowest_87 rfl (by first | rfl | decide) (by decide) rfl ?_
        refine z_goto (tgt := 9) O dX6_slowest_90 (by decide) ?_
        exact z_subL (L' := [some (.ref b0), some (.int y2), some (.int (y2 + 1)), none]) (zLe.sub (And.intro rfl (And.intro rfl (And.intro rfl True.intro)))) (hK9 y2 (y2 + 1) v0 G9 g0 gF h)
      · have h := h.2 c16_
        refine z_aload_n O dX6_slowest_56 rfl rfl ?_
        refine z_get (v := .ref (b0 + 1)) O wf_RX6_7 dX6_slowest_57 (M_obj g0) rfl ?_
        refine z_iload_n O dX6_slowest_60 rfl rfl ?_
        refine z_callSi (As := [.int y2]) (st := [.ref (b0 + 1)]) O (s_M_reader hfl h) wy_X6_reader wl_RX6_65 dX6_slowest_61 rfl rfl ⟨Nat.le_of_ble_eq_true rfl, Nat.le_of_ble_eq_true rfl⟩ (Nat.le_of_ble_eq_true rfl) ⟨Nat.le_of_ble_eq_true rfl, Nat.le_of_ble_eq_true rfl⟩ (fun r17_ z18_ G19_ hq20_ => ?_)
        obtain ⟨rfl, rfl, h⟩ := hq20_
        refine z_iconst (v := 1) O dX6_slowest_64 (by decide) ?_
        refine z_iadd O dX6_slowest_65 ?_
        obtain ⟨q21_, h⟩ := h
        refine z_iald O dX6_slowest_66 (M_now_of g0) q21_ ?_
        refine z_aload_n O dX6_slowest_67 rfl rfl ?_
        refine z_get (v := .ref (b0 + 1)) O wf_RX6_7 dX6_slowest_68 (M_obj g0) rfl ?_
        refine z_iload_n O dX6_slowest_71 rfl rfl ?_
        refine z_callSi (As := [.int y1]) (st := [.ref (b0 + 1), .int ((M_now v0) (Int32.toNatClampNeg (r17_ + 1)))]) O (s_M_reader hfl h) wy_X6_reader wl_RX6_65 dX6_slowest_72 rfl rfl ⟨Nat.le_of_ble_eq_true rfl, Nat.le_of_ble_eq_true rfl⟩ (Nat.le_of_ble_eq_true rfl) ⟨Nat.le_of_ble_eq_true rfl, Nat.le_of_ble_eq_true rfl⟩ (fun r22_ z23_ G24_ hq25_ => ?_)
        obtain ⟨rfl, rfl, h⟩ := hq25_
        refine z_iconst (v := 1) O dX6_slowest_75 (by decide) ?_
        refine z_iadd O dX6_slowest_76 ?_
        obtain ⟨q26_, h⟩ := h
        refine z_iald O dX6_slowest_77 (M_now_of g0) q26_ ?_
        refine z_icmp_ge (tgt := 85) O dX6_slowest_78 (by decide) (fun c27_ => ?_) (fun c27_ => ?_)
        · have h := h.1 c27_
          refine z_iload_n O dX6_slowest_85 rfl rfl ?_
          refine z_istore_n (L' := [some (.ref b0), some (.int y1), some (.int y2), some (.int u0)]) O dX6_slowest_86 rfl (by decide) rfl ?_
          refine z_iinc (v := (y2 + 1)) (L' := [some (.ref b0), some (.int y1), some (.int (y2 + 1)), some (.int u0)]) O dX6_slowest_87 rfl (by first | rfl | decide) (by decide) rfl ?_
          refine z_goto (tgt := 9) O dX6_slowest_90 (by decide) ?_
          exact z_subL (L' := [some (.ref b0), some (.int y1), some (.int (y2 + 1)), none]) (zLe.sub (And.intro rfl (And.intro rfl (And.intro rfl True.intro)))) (hK9 y1 (y2 + 1) v0 G9 g0 gF h)
        · have h := h.2 c27_
          refine z_iload_n O dX6_slowest_81 rfl rfl ?_
          refine z_goto (tgt := 86) O dX6_slowest_82 (by decide) ?_
          refine z_istore_n (L' := [some (.ref b0), some (.int y2), some (.int y2), some (.int u0)]) O dX6_slowest_86 rfl (by decide) rfl ?_
          refine z_iinc (v := (y2 + 1)) (L' := [some (.ref b0), some (.int y2), some (.int (y2 + 1)), some (.int u0)]) O dX6_slowest_87 rfl (by first | rfl | decide) (by decide) rfl ?_
          refine z_goto (tgt := 9) O dX6_slowest_90 (by decide) ?_
          exact z_subL (L' := [some (.ref b0), some (.int y2), some (.int (y2 + 1)), none]) (zLe.sub (And.intro rfl (And.intro rfl (And.intro rfl True.intro)))) (hK9 y2 (y2 + 1) v0 G9 g0 gF h)
  have HJ45 : ∀ (K9 : Int32 → Int32 → MT → Prop) (hK9 : ∀ (a0 : Int32) (a1 : Int32) (w0 : MT) (G7 : zG) (g0 : MA b0 w0 G7) (gF : Fr b0 8 G G7), K9 a0 a1 w0 → zT p l e (zrm 3 66 0 0) s m args below meth c (zEnd below D B (zRi fun r z' G' => z = z' ∧ ∃ w, MA b0 w G' ∧ Fr b0 8 G G' ∧ Q r w) args s 0 0) D B 4 0 0 9 [] [some (.ref b0), some (.int a0), some (.int a1), none] z G7) (y1 : Int32) (y2 : Int32) (v0 : MT) (G9 : zG) (g0 : MA b0 v0 G9) (gF : Fr b0 8 G G9), PJ_M_slowest_45 y1 y2 v0 K9 Q → zT p l e (zrm 3 66 0 0) s m args below meth c (zEnd below D B (zRi fun r z' G' => z = z' ∧ ∃ w, MA b0 w G' ∧ Fr b0 8 G G' ∧ Q r w) args s 0 0) D B 4 0 0 45 [] [some (.ref b0), some (.int y1), some (.int y2), none] z G9 := by
    intro K9 hK9 y1 y2 v0 G9 g0 gF h
    unfold PJ_M_slowest_45 at h
    refine z_iconst (v := 0) O dX6_slowest_45 (by decide) ?_
    exact z_subL (L' := [some (.ref b0), some (.int y1), some (.int y2), none]) (zLe.sub (And.intro rfl (And.intro rfl (And.intro rfl True.intro)))) (HJ46 _ hK9 y1 y2 0 v0 G9 g0 gF h)
  have HL9 : ∀ (n9 : Nat)    (y1 : Int32) (y2 : Int32) (v0 : MT) (G9 : zG) (g0 : MA b0 v0 G9) (gF : Fr b0 8 G G9) (h : PL_M_slowest_9 n9 y1 y2 v0 Q), zT p l e (zrm 3 66 0 0) s m args below meth c (zEnd below D B (zRi fun r z' G' => z = z' ∧ ∃ w, MA b0 w G' ∧ Fr b0 8 G G' ∧ Q r w) args s 0 0) D B 4 0 0 9 [] [some (.ref b0), some (.int y1), some (.int y2), none] z G9 := by
    intro n9   
    induction n9 with
    | zero =>
      intro _ _ _ _ _ _ h
      exact (h : False).elim
    | succ n ih =>
      intro y1 y2 v0 G9 g0 gF h
      rw [PL_M_slowest_9] at h
      refine z_iload_n O dX6_slowest_9 rfl rfl ?_
      refine z_bipush (v := 8) O dX6_slowest_10 (by decide) ?_
      refine z_icmp_ge (tgt := 93) O dX6_slowest_12 (by decide) (fun c9_ => ?_) (fun c9_ => ?_)
      · have h := h.1 c9_
        refine z_iload_n O dX6_slowest_93 rfl rfl ?_
        exact z_iret O hret hlk dX6_slowest_94 (Nat.le_of_ble_eq_true rfl) (Nat.le_of_ble_eq_true rfl) ⟨_, rfl, rfl, _, g0, gF, h⟩
      · have h := h.2 c9_
        refine z_aload_n O dX6_slowest_15 rfl rfl ?_
        refine z_get (v := .ref (b0 + 1)) O wf_RX6_7 dX6_slowest_16 (M_obj g0) rfl ?_
        refine z_iload_n O dX6_slowest_19 rfl rfl ?_
        refine z_callSi (As := [.ref (b0 + 1), .int y2]) (st := []) O (s_M_isReader hfl (M_now_of g0) h) wy_X6_isReader wl_RX6_184 dX6_slowest_20 rfl rfl ⟨Nat.le_of_ble_eq_true rfl, Nat.le_of_ble_eq_true rfl⟩ (Nat.le_of_ble_eq_true rfl) ⟨Nat.le_of_ble_eq_true rfl, Nat.le_of_ble_eq_true rfl⟩ (fun r10_ z11_ G12_ hq13_ => ?_)
        obtain ⟨rfl, rfl, h⟩ := hq13_
        refine z_if_eq (tgt := 45) O dX6_slowest_23 (by decide) (fun c14_ => ?_) (fun c14_ => ?_)
        · have h := h.1 c14_
          exact z_subL (L' := [some (.ref b0), some (.int y1), some (.int y2), none]) (zLe.sub (And.intro rfl (And.intro rfl (And.intro rfl True.intro)))) (HJ45 _ ih y1 y2 v0 G9 g0 gF h)
        · have h := h.2 c14_
          refine z_aload_n O dX6_slowest_26 rfl rfl ?_
          refine z_get (v := .ref (b0 + 1)) O wf_RX6_7 dX6_slowest_27 (M_obj g0) rfl ?_
          refine z_iload_n O dX6_slowest_30 rfl rfl ?_
          refine z_callSi (As := [.int y2]) (st := [.ref (b0 + 1)]) O (s_M_reader hfl h) wy_X6_reader wl_RX6_65 dX6_slowest_31 rfl rfl ⟨Nat.le_of_ble_eq_true rfl, Nat.le_of_ble_eq_true rfl⟩ (Nat.le_of_ble_eq_true rfl) ⟨Nat.le_of_ble_eq_true rfl, Nat.le_of_ble_eq_true rfl⟩ (fun r28_ z29_ G30_ hq31_ => ?_)
          obtain ⟨rfl, rfl, h⟩ := hq31_
          refine z_iconst (v := 2) O dX6_slowest_34 (by decide) ?_
          refine z_iadd O dX6_slowest_35 ?_
          obtain ⟨q32_, h⟩ := h
          refine z_iald O dX6_slowest_36 (M_now_of g0) q32_ ?_
          refine z_iconst (v := 1) O dX6_slowest_37 (by decide) ?_
          refine z_icmp_ne (tgt := 45) O dX6_slowest_38 (by decide) (fun c33_ => ?_) (fun c33_ => ?_)
          · have h := h.1 c33_
            exact z_subL (L' := [some (.ref b0), some (.int y1), some (.int y2), none]) (zLe.sub (And.intro rfl (And.intro rfl (And.intro rfl True.intro)))) (HJ45 _ ih y1 y2 v0 G9 g0 gF h)
          · have h := h.2 c33_
            refine z_iconst (v := 1) O dX6_slowest_41 (by decide) ?_
            refine z_goto (tgt := 46) O dX6_slowest_42 (by decide) ?_
            exact z_subL (L' := [some (.ref b0), some (.int y1), some (.int y2), none]) (zLe.sub (And.intro rfl (And.intro rfl (And.intro rfl True.intro)))) (HJ46 _ ih y1 y2 1 v0 G9 g0 gF h)
  refine z_aload_n O dX6_slowest_0 rfl rfl ?_
  refine z_iconst (v := 0) O dX6_slowest_1 (by decide) ?_
  refine y_put O wp_RX6_36 dX6_slowest_2 (M_obj h0) rfl rfl (fun G1_ hw2_ => ?_)
  have k3_ := M_w_refusal h0 hw2_
  have f4_ := hw2_.fr
  have f5_ : Fr b0 8 G G1_ := Fr.mono f4_ (by omega) (by omega)
  obtain ⟨v6_, ev6_⟩ : ∃ w, w = (M_set_refusal v0 0) := ⟨_, rfl⟩
  have h := h v6_ ev6_
  have k7_ : MA b0 v6_ G1_ := by rw [ev6_]; exact k3_
  have F8_ : Fr b0 8 G G1_ := Fr.trans Fr.rf f5_
  refine z_iconst (v := (-1)) O dX6_slowest_5 (by decide) ?_
  refine z_istore_n (L' := [some (.ref b0), some (.int (-1)), none, none]) O dX6_slowest_6 rfl (by decide) rfl ?_
  refine z_iconst (v := 0) O dX6_slowest_7 (by decide) ?_
  refine z_istore_n (L' := [some (.ref b0), some (.int (-1)), some (.int 0), none]) O dX6_slowest_8 rfl (by decide) rfl ?_
  obtain ⟨n34_, h⟩ := h
  exact z_subL (L' := [some (.ref b0), some (.int (-1)), some (.int 0), none]) (zLe.sub (And.intro rfl (And.intro rfl (And.intro rfl True.intro)))) (HL9 n34_ (-1) 0 v6_ G1_ k7_ F8_ h)

theorem dX6_truth_0 : decode cX6_truth 0 = .ok (.aload_n 0, 1) := by decide +kernel
theorem dX6_truth_1 : decode cX6_truth 1 = .ok (.iload_n 2, 1) := by decide +kernel
theorem dX6_truth_2 : decode cX6_truth 2 = .ok (.i2l, 1) := by decide +kernel
theorem dX6_truth_3 : decode cX6_truth 3 = .ok (.aload_n 0, 1) := by decide +kernel
theorem dX6_truth_4 : decode cX6_truth 4 = .ok (.getfield 7, 3) := by decide +kernel
theorem dX6_truth_7 : decode cX6_truth 7 = .ok (.sipush 400, 3) := by decide +kernel
theorem dX6_truth_10 : decode cX6_truth 10 = .ok (.iaload, 1) := by decide +kernel
theorem dX6_truth_11 : decode cX6_truth 11 = .ok (.i2l, 1) := by decide +kernel
theorem dX6_truth_12 : decode cX6_truth 12 = .ok (.aload_n 0, 1) := by decide +kernel
theorem dX6_truth_13 : decode cX6_truth 13 = .ok (.getfield 7, 3) := by decide +kernel
theorem dX6_truth_16 : decode cX6_truth 16 = .ok (.sipush 401, 3) := by decide +kernel
theorem dX6_truth_19 : decode cX6_truth 19 = .ok (.iaload, 1) := by decide +kernel
theorem dX6_truth_20 : decode cX6_truth 20 = .ok (.i2l, 1) := by decide +kernel
theorem dX6_truth_21 : decode cX6_truth 21 = .ok (.invokestatic 44, 3) := by decide +kernel
theorem dX6_truth_24 : decode cX6_truth 24 = .ok (.ifCond .ne 7, 3) := by decide +kernel
theorem dX6_truth_27 : decode cX6_truth 27 = .ok (.iconst 1, 1) := by decide +kernel
theorem dX6_truth_28 : decode cX6_truth 28 = .ok (.goto 25, 3) := by decide +kernel
theorem dX6_truth_31 : decode cX6_truth 31 = .ok (.iload_n 1, 1) := by decide +kernel
theorem dX6_truth_32 : decode cX6_truth 32 = .ok (.invokestatic 48, 3) := by decide +kernel
theorem dX6_truth_35 : decode cX6_truth 35 = .ok (.ifCond .eq 13, 3) := by decide +kernel
theorem dX6_truth_38 : decode cX6_truth 38 = .ok (.iload_n 3, 1) := by decide +kernel
theorem dX6_truth_39 : decode cX6_truth 39 = .ok (.i2l, 1) := by decide +kernel
theorem dX6_truth_40 : decode cX6_truth 40 = .ok (.lconst 0, 1) := by decide +kernel
theorem dX6_truth_41 : decode cX6_truth 41 = .ok (.lconst 1, 1) := by decide +kernel
theorem dX6_truth_42 : decode cX6_truth 42 = .ok (.invokestatic 44, 3) := by decide +kernel
theorem dX6_truth_45 : decode cX6_truth 45 = .ok (.ifCond .ne 7, 3) := by decide +kernel
theorem dX6_truth_48 : decode cX6_truth 48 = .ok (.iconst 2, 1) := by decide +kernel
theorem dX6_truth_49 : decode cX6_truth 49 = .ok (.goto 4, 3) := by decide +kernel
theorem dX6_truth_52 : decode cX6_truth 52 = .ok (.iconst 0, 1) := by decide +kernel
theorem dX6_truth_53 : decode cX6_truth 53 = .ok (.invokevirtual 136, 3) := by decide +kernel
theorem dX6_truth_56 : decode cX6_truth 56 = .ok (.ifCond .eq 5, 3) := by decide +kernel
theorem dX6_truth_59 : decode cX6_truth 59 = .ok (.iconst 0, 1) := by decide +kernel
theorem dX6_truth_60 : decode cX6_truth 60 = .ok (.ireturn, 1) := by decide +kernel
theorem dX6_truth_61 : decode cX6_truth 61 = .ok (.iload_n 3, 1) := by decide +kernel
theorem dX6_truth_62 : decode cX6_truth 62 = .ok (.ifCond .ne 15, 3) := by decide +kernel
theorem dX6_truth_65 : decode cX6_truth 65 = .ok (.aload_n 0, 1) := by decide +kernel
theorem dX6_truth_66 : decode cX6_truth 66 = .ok (.getfield 7, 3) := by decide +kernel
theorem dX6_truth_69 : decode cX6_truth 69 = .ok (.iload_n 1, 1) := by decide +kernel
theorem dX6_truth_70 : decode cX6_truth 70 = .ok (.iload_n 2, 1) := by decide +kernel
theorem dX6_truth_71 : decode cX6_truth 71 = .ok (.invokestatic 119, 3) := by decide +kernel
theorem dX6_truth_74 : decode cX6_truth 74 = .ok (.goto 12, 3) := by decide +kernel
theorem dX6_truth_77 : decode cX6_truth 77 = .ok (.aload_n 0, 1) := by decide +kernel
theorem dX6_truth_78 : decode cX6_truth 78 = .ok (.getfield 7, 3) := by decide +kernel
theorem dX6_truth_81 : decode cX6_truth 81 = .ok (.iload_n 1, 1) := by decide +kernel
theorem dX6_truth_82 : decode cX6_truth 82 = .ok (.iload_n 2, 1) := by decide +kernel
theorem dX6_truth_83 : decode cX6_truth 83 = .ok (.invokestatic 261, 3) := by decide +kernel
theorem dX6_truth_86 : decode cX6_truth 86 = .ok (.ireturn, 1) := by decide +kernel
def PJ_M_truth_53 (x1 : Int32) (x2 : Int32) (x3 : Int32) (y1 : Int32) (y2 : Int32) (y3 : Int32) (u0 : Int32) (v0 : MT) (Q : Int32 → MT → Prop) : Prop := P_M_refused u0 v0 (fun r13_ v17_ => (((r13_ = 0 → ((¬ y3 = 0 → P_M_toldBack y1 y2 (M_now v17_) (fun r23_ => (Q r23_ v17_))) ∧ (y3 = 0 → P_M_told y1 y2 (M_now v17_) (fun r27_ => (Q r27_ v17_))))) ∧ (¬ r13_ = 0 → Q 0 v17_))))
def PJ_M_truth_48 (x1 : Int32) (x2 : Int32) (x3 : Int32) (y1 : Int32) (y2 : Int32) (y3 : Int32) (v0 : MT) (Q : Int32 → MT → Prop) : Prop := PJ_M_truth_53 x1 x2 x3 y1 y2 y3 2 v0 Q
def P_M_truth (x1 : Int32) (x2 : Int32) (x3 : Int32) (v0 : MT) (Q : Int32 → MT → Prop) : Prop := vp_in 400 621 ∧ (vp_in 401 621 ∧ (P_M_in (Int32.toInt64 x2) (Int32.toInt64 ((M_now v0) (Int32.toNatClampNeg 400))) (Int32.toInt64 ((M_now v0) (Int32.toNatClampNeg 401))) (fun r3_ => (((¬ r3_ = 0 → P_M_isKey x1 (fun r8_ => (((r8_ = 0 → PJ_M_truth_48 x1 x2 x3 x1 x2 x3 v0 Q) ∧ (¬ r8_ = 0 → P_M_in (Int32.toInt64 x3) 0 1 (fun r31_ => (((¬ r31_ = 0 → PJ_M_truth_53 x1 x2 x3 x1 x2 x3 0 v0 Q) ∧ (r31_ = 0 → PJ_M_truth_48 x1 x2 x3 x1 x2 x3 v0 Q))))))))) ∧ (r3_ = 0 → PJ_M_truth_53 x1 x2 x3 x1 x2 x3 1 v0 Q))))))
set_option maxRecDepth 100000 in
theorem s_M_truth {l : Launch} {D : zD} {B : Nat} {sa : Nat → Nat} (hfl : l.stackTraces = false) {z : Nat} {G : zG} {b0 : Nat} {x1 : Int32} {x2 : Int32} {x3 : Int32} {v0 : MT} {Q : Int32 → MT → Prop} (h0 : MA b0 v0 G) (h : P_M_truth x1 x2 x3 v0 Q) : zSp l D B sa yX6_truth cX6_truth 4 (some .int) 2 45 0 0 [.ref b0, .int x1, .int x2, .int x3] z G (zRi fun r z' G' => z = z' ∧ ∃ w, MA b0 w G' ∧ Fr b0 8 G G' ∧ Q r w) := by
  unfold P_M_truth at h
  refine z_ofW (by decide +kernel) hfl [some (.ref b0), some (.int x1), some (.int x2), some (.int x3)] rfl (Nat.le_of_ble_eq_true rfl) (fun p e s m args below meth c O hret hlk hnm => ?_)
  have O : zO p l s m args c D B sa 4 cX6_truth RX6 := O
  have HJ53 : ∀ (y1 : Int32) (y2 : Int32) (y3 : Int32) (u0 : Int32) (v0 : MT) (G9 : zG) (g0 : MA b0 v0 G9) (gF : Fr b0 8 G G9), PJ_M_truth_53 x1 x2 x3 y1 y2 y3 u0 v0 Q → zT p l e (zrm 2 45 0 0) s m args below meth c (zEnd below D B (zRi fun r z' G' => z = z' ∧ ∃ w, MA b0 w G' ∧ Fr b0 8 G G' ∧ Q r w) args s 0 0) D B 4 0 0 53 [.int u0, .ref b0] [some (.ref b0), some (.int y1), some (.int y2), some (.int y3)] z G9 := by
    intro y1 y2 y3 u0 v0 G9 g0 gF h
    unfold PJ_M_truth_53 at h
    refine z_callVi (As := [.int u0]) (st := []) O (s_M_refused hfl g0 h) wy_X6_refused wl_RX6_136 dX6_truth_53 rfl rfl (M_obj g0) ⟨by decide, rfl⟩ ⟨Nat.le_of_ble_eq_true rfl, Nat.le_of_ble_eq_true rfl⟩ (Nat.le_of_ble_eq_true rfl) ⟨Nat.le_of_ble_eq_true rfl, Nat.le_of_ble_eq_true rfl⟩ (fun r13_ z14_ G15_ hq16_ => ?_)
    obtain ⟨rfl, v17_, k18_, f19_, h⟩ := hq16_
    have F20_ : Fr b0 8 G G15_ := Fr.trans gF f19_
    refine z_if_eq (tgt := 61) O dX6_truth_56 (by decide) (fun c21_ => ?_) (fun c21_ => ?_)
    · have h := h.1 c21_
      refine z_iload_n O dX6_truth_61 rfl rfl ?_
      refine z_if_ne (tgt := 77) O dX6_truth_62 (by decide) (fun c22_ => ?_) (fun c22_ => ?_)
      · have h := h.1 c22_
        refine z_aload_n O dX6_truth_77 rfl rfl ?_
        refine z_get (v := .ref (b0 + 1)) O wf_RX6_7 dX6_truth_78 (M_obj k18_) rfl ?_
        refine z_iload_n O dX6_truth_81 rfl rfl ?_
        refine z_iload_n O dX6_truth_82 rfl rfl ?_
        refine z_callSi (As := [.ref (b0 + 1), .int y1, .int y2]) (st := []) O (s_M_toldBack hfl (M_now_of k18_) h) wy_X6_toldBack wl_RX6_261 dX6_truth_83 rfl rfl ⟨Nat.le_of_ble_eq_true rfl, Nat.le_of_ble_eq_true rfl⟩ (Nat.le_of_ble_eq_true rfl) ⟨Nat.le_of_ble_eq_true rfl, Nat.le_of_ble_eq_true rfl⟩ (fun r23_ z24_ G25_ hq26_ => ?_)
        obtain ⟨rfl, rfl, h⟩ := hq26_
        exact z_iret O hret hlk dX6_truth_86 (Nat.le_of_ble_eq_true rfl) (Nat.le_of_ble_eq_true rfl) ⟨_, rfl, rfl, _, k18_, F20_, h⟩
      · have h := h.2 c22_
        refine z_aload_n O dX6_truth_65 rfl rfl ?_
        refine z_get (v := .ref (b0 + 1)) O wf_RX6_7 dX6_truth_66 (M_obj k18_) rfl ?_
        refine z_iload_n O dX6_truth_69 rfl rfl ?_
        refine z_iload_n O dX6_truth_70 rfl rfl ?_
        refine z_callSi (As := [.ref (b0 + 1), .int y1, .int y2]) (st := []) O (s_M_told hfl (M_now_of k18_) h) wy_X6_told wl_RX6_119 dX6_truth_71 rfl rfl ⟨Nat.le_of_ble_eq_true rfl, Nat.le_of_ble_eq_true rfl⟩ (Nat.le_of_ble_eq_true rfl) ⟨Nat.le_of_ble_eq_true rfl, Nat.le_of_ble_eq_true rfl⟩ (fun r27_ z28_ G29_ hq30_ => ?_)
        obtain ⟨rfl, rfl, h⟩ := hq30_
        refine z_goto (tgt := 86) O dX6_truth_74 (by decide) ?_
        exact z_iret O hret hlk dX6_truth_86 (Nat.le_of_ble_eq_true rfl) (Nat.le_of_ble_eq_true rfl) ⟨_, rfl, rfl, _, k18_, F20_, h⟩
    · have h := h.2 c21_
      refine z_iconst (v := 0) O dX6_truth_59 (by decide) ?_
      exact z_iret O hret hlk dX6_truth_60 (Nat.le_of_ble_eq_true rfl) (Nat.le_of_ble_eq_true rfl) ⟨_, rfl, rfl, _, k18_, F20_, h⟩
  have HJ48 : ∀ (y1 : Int32) (y2 : Int32) (y3 : Int32) (v0 : MT) (G9 : zG) (g0 : MA b0 v0 G9) (gF : Fr b0 8 G G9), PJ_M_truth_48 x1 x2 x3 y1 y2 y3 v0 Q → zT p l e (zrm 2 45 0 0) s m args below meth c (zEnd below D B (zRi fun r z' G' => z = z' ∧ ∃ w, MA b0 w G' ∧ Fr b0 8 G G' ∧ Q r w) args s 0 0) D B 4 0 0 48 [.ref b0] [some (.ref b0), some (.int y1), some (.int y2), some (.int y3)] z G9 := by
    intro y1 y2 y3 v0 G9 g0 gF h
    unfold PJ_M_truth_48 at h
    refine z_iconst (v := 2) O dX6_truth_48 (by decide) ?_
    refine z_goto (tgt := 53) O dX6_truth_49 (by decide) ?_
    exact z_subL (L' := [some (.ref b0), some (.int y1), some (.int y2), some (.int y3)]) (zLe.sub (And.intro rfl (And.intro rfl (And.intro rfl (And.intro rfl True.intro))))) (HJ53 y1 y2 y3 2 v0 G9 g0 gF h)
  refine z_aload_n O dX6_truth_0 rfl rfl ?_
  refine z_iload_n O dX6_truth_1 rfl rfl ?_
  refine z_i2l O dX6_truth_2 ?_
  refine z_aload_n O dX6_truth_3 rfl rfl ?_
  refine z_get (v := .ref (b0 + 1)) O wf_RX6_7 dX6_truth_4 (M_obj h0) rfl ?_
  refine z_sipush (v := 400) O dX6_truth_7 (by decide) ?_
  obtain ⟨q1_, h⟩ := h
  refine z_iald O dX6_truth_10 (M_now_of h0) q1_ ?_
  refine z_i2l O dX6_truth_11 ?_
  refine z_aload_n O dX6_truth_12 rfl rfl ?_
  refine z_get (v := .ref (b0 + 1)) O wf_RX6_7 dX6_truth_13 (M_obj h0) rfl ?_
  refine z_sipush (v := 401) O dX6_truth_16 (by decide) ?_
  obtain ⟨q2_, h⟩ := h
  refine z_iald O dX6_truth_19 (M_now_of h0) q2_ ?_
  refine z_i2l O dX6_truth_20 ?_
  refine z_callSi (As := [.long (Int32.toInt64 x2), .long (Int32.toInt64 ((M_now v0) (Int32.toNatClampNeg 400))), .long (Int32.toInt64 ((M_now v0) (Int32.toNatClampNeg 401)))]) (st := [.ref b0]) O (s_M_in hfl h) wy_X6_in wl_RX6_44 dX6_truth_21 rfl rfl ⟨Nat.le_of_ble_eq_true rfl, Nat.le_of_ble_eq_true rfl⟩ (Nat.le_of_ble_eq_true rfl) ⟨Nat.le_of_ble_eq_true rfl, Nat.le_of_ble_eq_true rfl⟩ (fun r3_ z4_ G5_ hq6_ => ?_)
  obtain ⟨rfl, rfl, h⟩ := hq6_
  refine z_if_ne (tgt := 31) O dX6_truth_24 (by decide) (fun c7_ => ?_) (fun c7_ => ?_)
  · have h := h.1 c7_
    refine z_iload_n O dX6_truth_31 rfl rfl ?_
    refine z_callSi (As := [.int x1]) (st := [.ref b0]) O (s_M_isKey hfl h) wy_X6_isKey wl_RX6_48 dX6_truth_32 rfl rfl ⟨Nat.le_of_ble_eq_true rfl, Nat.le_of_ble_eq_true rfl⟩ (Nat.le_of_ble_eq_true rfl) ⟨Nat.le_of_ble_eq_true rfl, Nat.le_of_ble_eq_true rfl⟩ (fun r8_ z9_ G10_ hq11_ => ?_)
    obtain ⟨rfl, rfl, h⟩ := hq11_
    refine z_if_eq (tgt := 48) O dX6_truth_35 (by decide) (fun c12_ => ?_) (fun c12_ => ?_)
    · have h := h.1 c12_
      exact z_subL (L' := [some (.ref b0), some (.int x1), some (.int x2), some (.int x3)]) (zLe.sub (And.intro rfl (And.intro rfl (And.intro rfl (And.intro rfl True.intro))))) (HJ48 x1 x2 x3 v0 G h0 Fr.rf h)
    · have h := h.2 c12_
      refine z_iload_n O dX6_truth_38 rfl rfl ?_
      refine z_i2l O dX6_truth_39 ?_
      refine z_lconst (v := 0) O dX6_truth_40 (by decide) ?_
      refine z_lconst (v := 1) O dX6_truth_41 (by decide) ?_
      refine z_callSi (As := [.long (Int32.toInt64 x3), .long 0, .long 1]) (st := [.ref b0]) O (s_M_in hfl h) wy_X6_in wl_RX6_44 dX6_truth_42 rfl rfl ⟨Nat.le_of_ble_eq_true rfl, Nat.le_of_ble_eq_true rfl⟩ (Nat.le_of_ble_eq_true rfl) ⟨Nat.le_of_ble_eq_true rfl, Nat.le_of_ble_eq_true rfl⟩ (fun r31_ z32_ G33_ hq34_ => ?_)
      obtain ⟨rfl, rfl, h⟩ := hq34_
      refine z_if_ne (tgt := 52) O dX6_truth_45 (by decide) (fun c35_ => ?_) (fun c35_ => ?_)
      · have h := h.1 c35_
        refine z_iconst (v := 0) O dX6_truth_52 (by decide) ?_
        exact z_subL (L' := [some (.ref b0), some (.int x1), some (.int x2), some (.int x3)]) (zLe.sub (And.intro rfl (And.intro rfl (And.intro rfl (And.intro rfl True.intro))))) (HJ53 x1 x2 x3 0 v0 G h0 Fr.rf h)
      · have h := h.2 c35_
        exact z_subL (L' := [some (.ref b0), some (.int x1), some (.int x2), some (.int x3)]) (zLe.sub (And.intro rfl (And.intro rfl (And.intro rfl (And.intro rfl True.intro))))) (HJ48 x1 x2 x3 v0 G h0 Fr.rf h)
  · have h := h.2 c7_
    refine z_iconst (v := 1) O dX6_truth_27 (by decide) ?_
    refine z_goto (tgt := 53) O dX6_truth_28 (by decide) ?_
    exact z_subL (L' := [some (.ref b0), some (.int x1), some (.int x2), some (.int x3)]) (zLe.sub (And.intro rfl (And.intro rfl (And.intro rfl (And.intro rfl True.intro))))) (HJ53 x1 x2 x3 1 v0 G h0 Fr.rf h)
