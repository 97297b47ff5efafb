theorem dX6_runRead_0 : decode cX6_runRead 0 = .ok (.aload_n 0, 1) := by decide +kernel
theorem dX6_runRead_1 : decode cX6_runRead 1 = .ok (.getfield 13, 3) := by decide +kernel
theorem dX6_runRead_4 : decode cX6_runRead 4 = .ok (.iload_n 1, 1) := by decide +kernel
theorem dX6_runRead_5 : decode cX6_runRead 5 = .ok (.invokestatic 184, 3) := by decide +kernel
theorem dX6_runRead_8 : decode cX6_runRead 8 = .ok (.ifCond .eq 31, 3) := by decide +kernel
theorem dX6_runRead_11 : decode cX6_runRead 11 = .ok (.iload_n 2, 1) := by decide +kernel
theorem dX6_runRead_12 : decode cX6_runRead 12 = .ok (.i2l, 1) := by decide +kernel
theorem dX6_runRead_13 : decode cX6_runRead 13 = .ok (.lconst 1, 1) := by decide +kernel
theorem dX6_runRead_14 : decode cX6_runRead 14 = .ok (.ldc2_w 259, 3) := by decide +kernel
theorem dX6_runRead_17 : decode cX6_runRead 17 = .ok (.invokestatic 44, 3) := by decide +kernel
theorem dX6_runRead_20 : decode cX6_runRead 20 = .ok (.ifCond .eq 19, 3) := by decide +kernel
theorem dX6_runRead_23 : decode cX6_runRead 23 = .ok (.aload_n 0, 1) := by decide +kernel
theorem dX6_runRead_24 : decode cX6_runRead 24 = .ok (.getfield 13, 3) := by decide +kernel
theorem dX6_runRead_27 : decode cX6_runRead 27 = .ok (.iload_n 1, 1) := by decide +kernel
theorem dX6_runRead_28 : decode cX6_runRead 28 = .ok (.iload_n 2, 1) := by decide +kernel
theorem dX6_runRead_29 : decode cX6_runRead 29 = .ok (.invokestatic 202, 3) := by decide +kernel
theorem dX6_runRead_32 : decode cX6_runRead 32 = .ok (.ifCond .eq 7, 3) := by decide +kernel
theorem dX6_runRead_35 : decode cX6_runRead 35 = .ok (.iconst 1, 1) := by decide +kernel
theorem dX6_runRead_36 : decode cX6_runRead 36 = .ok (.goto 4, 3) := by decide +kernel
theorem dX6_runRead_39 : decode cX6_runRead 39 = .ok (.iconst 0, 1) := by decide +kernel
theorem dX6_runRead_40 : decode cX6_runRead 40 = .ok (.ireturn, 1) := by decide +kernel
def P_M_runRead (x1 : Int32) (x2 : Int32) (v0 : MT) (Q : Int32 → MT → Prop) : Prop := P_M_isReader x1 (M_trial v0) (fun r1_ => (((r1_ = 0 → Q 0 v0) ∧ (¬ r1_ = 0 → P_M_in (Int32.toInt64 x2) 1 50 (fun r6_ => (((r6_ = 0 → Q 0 v0) ∧ (¬ r6_ = 0 → P_M_goRead x1 x2 (M_trial v0) (fun r11_ v15_ => (∀ v20_, v20_ = (M_set_trial v0 v15_) → (((r11_ = 0 → Q 0 v20_) ∧ (¬ r11_ = 0 → Q 1 v20_)))))))))))))
set_option maxRecDepth 100000 in
theorem s_M_runRead {l : Launch} {D : zD} {B : Nat} {sa : Nat → Nat} (hfl : l.stackTraces = false) {z : Nat} {G : zG} {b0 : Nat} {x1 : Int32} {x2 : Int32} {v0 : MT} {Q : Int32 → MT → Prop} (h0 : MA b0 v0 G) (h : P_M_runRead x1 x2 v0 Q) : zSp l D B sa yX6_runRead cX6_runRead 3 (some .boolean) 3 66 0 0 [.ref b0, .int x1, .int x2] z G (zRi fun r z' G' => z = z' ∧ ∃ w, MA b0 w G' ∧ Fr b0 8 G G' ∧ Q r w) := by
  unfold P_M_runRead at h
  refine z_ofW (by decide +kernel) hfl [some (.ref b0), some (.int x1), some (.int x2)] rfl (Nat.le_of_ble_eq_true rfl) (fun p e s m args below meth c O hret hlk hnm => ?_)
  have O : zO p l s m args c D B sa 3 cX6_runRead RX6 := O
  refine z_aload_n O dX6_runRead_0 rfl rfl ?_
  refine z_get (v := .ref (b0 + 2)) O wf_RX6_13 dX6_runRead_1 (M_obj h0) rfl ?_
  refine z_iload_n O dX6_runRead_4 rfl rfl ?_
  refine z_callSi (As := [.ref (b0 + 2), .int x1]) (st := []) O (s_M_isReader hfl (M_trial_of h0) h) wy_X6_isReader wl_RX6_184 dX6_runRead_5 rfl rfl ⟨Nat.le_of_ble_eq_true rfl, Nat.le_of_ble_eq_true rfl⟩ (Nat.le_of_ble_eq_true rfl) ⟨Nat.le_of_ble_eq_true rfl, Nat.le_of_ble_eq_true rfl⟩ (fun r1_ z2_ G3_ hq4_ => ?_)
  obtain ⟨rfl, rfl, h⟩ := hq4_
  refine z_if_eq (tgt := 39) O dX6_runRead_8 (by decide) (fun c5_ => ?_) (fun c5_ => ?_)
  · have h := h.1 c5_
    refine z_iconst (v := 0) O dX6_runRead_39 (by decide) ?_
    exact z_zret O hret rfl hlk dX6_runRead_40 (Nat.le_of_ble_eq_true rfl) (Nat.le_of_ble_eq_true rfl) ⟨_, rfl, rfl, _, h0, Fr.rf, h⟩
  · have h := h.2 c5_
    refine z_iload_n O dX6_runRead_11 rfl rfl ?_
    refine z_i2l O dX6_runRead_12 ?_
    refine z_lconst (v := 1) O dX6_runRead_13 (by decide) ?_
    refine z_ldc2 (v := 50) O wc_RX6_259 dX6_runRead_14 ?_
    refine z_callSi (As := [.long (Int32.toInt64 x2), .long 1, .long 50]) (st := []) O (s_M_in hfl h) wy_X6_in wl_RX6_44 dX6_runRead_17 rfl rfl ⟨Nat.le_of_ble_eq_true rfl, Nat.le_of_ble_eq_true rfl⟩ (Nat.le_of_ble_eq_true rfl) ⟨Nat.le_of_ble_eq_true rfl, Nat.le_of_ble_eq_true rfl⟩ (fun r6_ z7_ G8_ hq9_ => ?_)
    obtain ⟨rfl, rfl, h⟩ := hq9_
    refine z_if_eq (tgt := 39) O dX6_runRead_20 (by decide) (fun c10_ => ?_) (fun c10_ => ?_)
    · have h := h.1 c10_
      refine z_iconst (v := 0) O dX6_runRead_39 (by decide) ?_
      exact z_zret O hret rfl hlk dX6_runRead_40 (Nat.le_of_ble_eq_true rfl) (Nat.le_of_ble_eq_true rfl) ⟨_, rfl, rfl, _, h0, Fr.rf, h⟩
    · have h := h.2 c10_
      refine z_aload_n O dX6_runRead_23 rfl rfl ?_
      refine z_get (v := .ref (b0 + 2)) O wf_RX6_13 dX6_runRead_24 (M_obj h0) rfl ?_
      refine z_iload_n O dX6_runRead_27 rfl rfl ?_
      refine z_iload_n O dX6_runRead_28 rfl rfl ?_
      refine z_callSi (As := [.ref (b0 + 2), .int x1, .int x2]) (st := []) O (s_M_goRead hfl (M_trial_of h0) h) wy_X6_goRead wl_RX6_202 dX6_runRead_29 rfl rfl ⟨Nat.le_of_ble_eq_true rfl, Nat.le_of_ble_eq_true rfl⟩ (Nat.le_of_ble_eq_true rfl) ⟨Nat.le_of_ble_eq_true rfl, Nat.le_of_ble_eq_true rfl⟩ (fun r11_ z12_ G13_ hq14_ => ?_)
      obtain ⟨rfl, v15_, k16_, f17_, h⟩ := hq14_
      have k18_ := M_put_trial h0 k16_ f17_
      have f19_ : Fr b0 8 G G13_ := Fr.mono f17_ (by omega) (by omega)
      obtain ⟨v20_, ev20_⟩ : ∃ w, w = (M_set_trial v0 v15_) := ⟨_, rfl⟩
      have h := h v20_ ev20_
      have k21_ : MA b0 v20_ G13_ := by rw [ev20_]; exact k18_
      have F22_ : Fr b0 8 G G13_ := Fr.trans Fr.rf f19_
      refine z_if_eq (tgt := 39) O dX6_runRead_32 (by decide) (fun c23_ => ?_) (fun c23_ => ?_)
      · have h := h.1 c23_
        refine z_iconst (v := 0) O dX6_runRead_39 (by decide) ?_
        exact z_zret O hret rfl hlk dX6_runRead_40 (Nat.le_of_ble_eq_true rfl) (Nat.le_of_ble_eq_true rfl) ⟨_, rfl, rfl, _, k21_, F22_, h⟩
      · have h := h.2 c23_
        refine z_iconst (v := 1) O dX6_runRead_35 (by decide) ?_
        refine z_goto (tgt := 40) O dX6_runRead_36 (by decide) ?_
        exact z_zret O hret rfl hlk dX6_runRead_40 (Nat.le_of_ble_eq_true rfl) (Nat.le_of_ble_eq_true rfl) ⟨_, rfl, rfl, _, k21_, F22_, h⟩

theorem dX6_runJoin_0 : decode cX6_runJoin 0 = .ok (.iload_n 1, 1) := by decide +kernel
theorem dX6_runJoin_1 : decode cX6_runJoin 1 = .ok (.invokestatic 62, 3) := by decide +kernel
theorem dX6_runJoin_4 : decode cX6_runJoin 4 = .ok (.ifCond .eq 45, 3) := by decide +kernel
theorem dX6_runJoin_7 : decode cX6_runJoin 7 = .ok (.iload_n 2, 1) := by decide +kernel
theorem dX6_runJoin_8 : decode cX6_runJoin 8 = .ok (.i2l, 1) := by decide +kernel
theorem dX6_runJoin_9 : decode cX6_runJoin 9 = .ok (.lconst 0, 1) := by decide +kernel
theorem dX6_runJoin_10 : decode cX6_runJoin 10 = .ok (.ldc2_w 257, 3) := by decide +kernel
theorem dX6_runJoin_13 : decode cX6_runJoin 13 = .ok (.invokestatic 44, 3) := by decide +kernel
theorem dX6_runJoin_16 : decode cX6_runJoin 16 = .ok (.ifCond .eq 33, 3) := by decide +kernel
theorem dX6_runJoin_19 : decode cX6_runJoin 19 = .ok (.aload_n 0, 1) := by decide +kernel
theorem dX6_runJoin_20 : decode cX6_runJoin 20 = .ok (.getfield 13, 3) := by decide +kernel
theorem dX6_runJoin_23 : decode cX6_runJoin 23 = .ok (.iload_n 1, 1) := by decide +kernel
theorem dX6_runJoin_24 : decode cX6_runJoin 24 = .ok (.iload_n 2, 1) := by decide +kernel
theorem dX6_runJoin_25 : decode cX6_runJoin 25 = .ok (.iload_n 3, 1) := by decide +kernel
theorem dX6_runJoin_26 : decode cX6_runJoin 26 = .ok (.invokestatic 176, 3) := by decide +kernel
theorem dX6_runJoin_29 : decode cX6_runJoin 29 = .ok (.ifCond .eq 20, 3) := by decide +kernel
theorem dX6_runJoin_32 : decode cX6_runJoin 32 = .ok (.aload_n 0, 1) := by decide +kernel
theorem dX6_runJoin_33 : decode cX6_runJoin 33 = .ok (.getfield 13, 3) := by decide +kernel
theorem dX6_runJoin_36 : decode cX6_runJoin 36 = .ok (.iload_n 1, 1) := by decide +kernel
theorem dX6_runJoin_37 : decode cX6_runJoin 37 = .ok (.iload_n 2, 1) := by decide +kernel
theorem dX6_runJoin_38 : decode cX6_runJoin 38 = .ok (.iload_n 3, 1) := by decide +kernel
theorem dX6_runJoin_39 : decode cX6_runJoin 39 = .ok (.invokestatic 180, 3) := by decide +kernel
theorem dX6_runJoin_42 : decode cX6_runJoin 42 = .ok (.ifCond .lt 7, 3) := by decide +kernel
theorem dX6_runJoin_45 : decode cX6_runJoin 45 = .ok (.iconst 1, 1) := by decide +kernel
theorem dX6_runJoin_46 : decode cX6_runJoin 46 = .ok (.goto 4, 3) := by decide +kernel
theorem dX6_runJoin_49 : decode cX6_runJoin 49 = .ok (.iconst 0, 1) := by decide +kernel
theorem dX6_runJoin_50 : decode cX6_runJoin 50 = .ok (.ireturn, 1) := by decide +kernel
def P_M_runJoin (x1 : Int32) (x2 : Int32) (x3 : Int32) (v0 : MT) (Q : Int32 → MT → Prop) : Prop := P_M_isName x1 (fun r1_ => (((r1_ = 0 → Q 0 v0) ∧ (¬ r1_ = 0 → P_M_in (Int32.toInt64 x2) 0 2 (fun r6_ => (((r6_ = 0 → Q 0 v0) ∧ (¬ r6_ = 0 → P_M_canJoin x1 x2 x3 (M_trial v0) (fun r11_ => (((r11_ = 0 → Q 0 v0) ∧ (¬ r11_ = 0 → P_M_goJoin x1 x2 x3 (M_trial v0) (fun r16_ v20_ => (∀ v25_, v25_ = (M_set_trial v0 v20_) → (((r16_ < 0 → Q 0 v25_) ∧ (¬ r16_ < 0 → Q 1 v25_)))))))))))))))))
set_option maxRecDepth 100000 in
theorem s_M_runJoin {l : Launch} {D : zD} {B : Nat} {sa : Nat → Nat} (hfl : l.stackTraces = false) {z : Nat} {G : zG} {b0 : Nat} {x1 : Int32} {x2 : Int32} {x3 : Int32} {v0 : MT} {Q : Int32 → MT → Prop} (h0 : MA b0 v0 G) (h : P_M_runJoin x1 x2 x3 v0 Q) : zSp l D B sa yX6_runJoin cX6_runJoin 4 (some .boolean) 3 71 0 0 [.ref b0, .int x1, .int x2, .int x3] z G (zRi fun r z' G' => z = z' ∧ ∃ w, MA b0 w G' ∧ Fr b0 8 G G' ∧ Q r w) := by
  unfold P_M_runJoin at h
  refine z_ofW (by decide +kernel) hfl [some (.ref b0), some (.int x1), some (.int x2), some (.int x3)] rfl (Nat.le_of_ble_eq_true rfl) (fun p e s m args below meth c O hret hlk hnm => ?_)
  have O : zO p l s m args c D B sa 4 cX6_runJoin RX6 := O
  refine z_iload_n O dX6_runJoin_0 rfl rfl ?_
  refine z_callSi (As := [.int x1]) (st := []) O (s_M_isName hfl h) wy_X6_isName wl_RX6_62 dX6_runJoin_1 rfl rfl ⟨Nat.le_of_ble_eq_true rfl, Nat.le_of_ble_eq_true rfl⟩ (Nat.le_of_ble_eq_true rfl) ⟨Nat.le_of_ble_eq_true rfl, Nat.le_of_ble_eq_true rfl⟩ (fun r1_ z2_ G3_ hq4_ => ?_)
  obtain ⟨rfl, rfl, h⟩ := hq4_
  refine z_if_eq (tgt := 49) O dX6_runJoin_4 (by decide) (fun c5_ => ?_) (fun c5_ => ?_)
  · have h := h.1 c5_
    refine z_iconst (v := 0) O dX6_runJoin_49 (by decide) ?_
    exact z_zret O hret rfl hlk dX6_runJoin_50 (Nat.le_of_ble_eq_true rfl) (Nat.le_of_ble_eq_true rfl) ⟨_, rfl, rfl, _, h0, Fr.rf, h⟩
  · have h := h.2 c5_
    refine z_iload_n O dX6_runJoin_7 rfl rfl ?_
    refine z_i2l O dX6_runJoin_8 ?_
    refine z_lconst (v := 0) O dX6_runJoin_9 (by decide) ?_
    refine z_ldc2 (v := 2) O wc_RX6_257 dX6_runJoin_10 ?_
    refine z_callSi (As := [.long (Int32.toInt64 x2), .long 0, .long 2]) (st := []) O (s_M_in hfl h) wy_X6_in wl_RX6_44 dX6_runJoin_13 rfl rfl ⟨Nat.le_of_ble_eq_true rfl, Nat.le_of_ble_eq_true rfl⟩ (Nat.le_of_ble_eq_true rfl) ⟨Nat.le_of_ble_eq_true rfl, Nat.le_of_ble_eq_true rfl⟩ (fun r6_ z7_ G8_ hq9_ => ?_)
    obtain ⟨rfl, rfl, h⟩ := hq9_
    refine z_if_eq (tgt := 49) O dX6_runJoin_16 (by decide) (fun c10_ => ?_) (fun c10_ => ?_)
    · have h := h.1 c10_
      refine z_iconst (v := 0) O dX6_runJoin_49 (by decide) ?_
      exact z_zret O hret rfl hlk dX6_runJoin_50 (Nat.le_of_ble_eq_true rfl) (Nat.le_of_ble_eq_true rfl) ⟨_, rfl, rfl, _, h0, Fr.rf, h⟩
    · have h := h.2 c10_
      refine z_aload_n O dX6_runJoin_19 rfl rfl ?_
      refine z_get (v := .ref (b0 + 2)) O wf_RX6_13 dX6_runJoin_20 (M_obj h0) rfl ?_
      refine z_iload_n O dX6_runJoin_23 rfl rfl ?_
      refine z_iload_n O dX6_runJoin_24 rfl rfl ?_
      refine z_iload_n O dX6_runJoin_25 rfl rfl ?_
      refine z_callSi (As := [.ref (b0 + 2), .int x1, .int x2, .int x3]) (st := []) O (s_M_canJoin hfl (M_trial_of h0) h) wy_X6_canJoin wl_RX6_176 dX6_runJoin_26 rfl rfl ⟨Nat.le_of_ble_eq_true rfl, Nat.le_of_ble_eq_true rfl⟩ (Nat.le_of_ble_eq_true rfl) ⟨Nat.le_of_ble_eq_true rfl, Nat.le_of_ble_eq_true rfl⟩ (fun r11_ z12_ G13_ hq14_ => ?_)
      obtain ⟨rfl, rfl, h⟩ := hq14_
      refine z_if_eq (tgt := 49) O dX6_runJoin_29 (by decide) (fun c15_ => ?_) (fun c15_ => ?_)
      · have h := h.1 c15_
        refine z_iconst (v := 0) O dX6_runJoin_49 (by decide) ?_
        exact z_zret O hret rfl hlk dX6_runJoin_50 (Nat.le_of_ble_eq_true rfl) (Nat.le_of_ble_eq_true rfl) ⟨_, rfl, rfl, _, h0, Fr.rf, h⟩
      · have h := h.2 c15_
        refine z_aload_n O dX6_runJoin_32 rfl rfl ?_
        refine z_get (v := .ref (b0 + 2)) O wf_RX6_13 dX6_runJoin_33 (M_obj h0) rfl ?_
        refine z_iload_n O dX6_runJoin_36 rfl rfl ?_
        refine z_iload_n O dX6_runJoin_37 rfl rfl ?_
        refine z_iload_n O dX6_runJoin_38 rfl rfl ?_
        refine z_callSi (As := [.ref (b0 + 2), .int x1, .int x2, .int x3]) (st := []) O (s_M_goJoin hfl (M_trial_of h0) h) wy_X6_goJoin wl_RX6_180 dX6_runJoin_39 rfl rfl ⟨Nat.le_of_ble_eq_true rfl, Nat.le_of_ble_eq_true rfl⟩ (Nat.le_of_ble_eq_true rfl) ⟨Nat.le_of_ble_eq_true rfl, Nat.le_of_ble_eq_true rfl⟩ (fun r16_ z17_ G18_ hq19_ => ?_)
        obtain ⟨rfl, v20_, k21_, f22_, h⟩ := hq19_
        have k23_ := M_put_trial h0 k21_ f22_
        have f24_ : Fr b0 8 G G18_ := Fr.mono f22_ (by omega) (by omega)
        obtain ⟨v25_, ev25_⟩ : ∃ w, w = (M_set_trial v0 v20_) := ⟨_, rfl⟩
        have h := h v25_ ev25_
        have k26_ : MA b0 v25_ G18_ := by rw [ev25_]; exact k23_
        have F27_ : Fr b0 8 G G18_ := Fr.trans Fr.rf f24_
        refine z_if_lt (tgt := 49) O dX6_runJoin_42 (by decide) (fun c28_ => ?_) (fun c28_ => ?_)
        · have h := h.1 c28_
          refine z_iconst (v := 0) O dX6_runJoin_49 (by decide) ?_
          exact z_zret O hret rfl hlk dX6_runJoin_50 (Nat.le_of_ble_eq_true rfl) (Nat.le_of_ble_eq_true rfl) ⟨_, rfl, rfl, _, k26_, F27_, h⟩
        · have h := h.2 c28_
          refine z_iconst (v := 1) O dX6_runJoin_45 (by decide) ?_
          refine z_goto (tgt := 50) O dX6_runJoin_46 (by decide) ?_
          exact z_zret O hret rfl hlk dX6_runJoin_50 (Nat.le_of_ble_eq_true rfl) (Nat.le_of_ble_eq_true rfl) ⟨_, rfl, rfl, _, k26_, F27_, h⟩

theorem dX6_runLeave_0 : decode cX6_runLeave 0 = .ok (.aload_n 0, 1) := by decide +kernel
theorem dX6_runLeave_1 : decode cX6_runLeave 1 = .ok (.getfield 13, 3) := by decide +kernel
theorem dX6_runLeave_4 : decode cX6_runLeave 4 = .ok (.iload_n 1, 1) := by decide +kernel
theorem dX6_runLeave_5 : decode cX6_runLeave 5 = .ok (.invokestatic 184, 3) := by decide +kernel
theorem dX6_runLeave_8 : decode cX6_runLeave 8 = .ok (.ifCond .eq 18, 3) := by decide +kernel
theorem dX6_runLeave_11 : decode cX6_runLeave 11 = .ok (.aload_n 0, 1) := by decide +kernel
theorem dX6_runLeave_12 : decode cX6_runLeave 12 = .ok (.getfield 13, 3) := by decide +kernel
theorem dX6_runLeave_15 : decode cX6_runLeave 15 = .ok (.iload_n 1, 1) := by decide +kernel
theorem dX6_runLeave_16 : decode cX6_runLeave 16 = .ok (.invokestatic 205, 3) := by decide +kernel
theorem dX6_runLeave_19 : decode cX6_runLeave 19 = .ok (.ifCond .lt 7, 3) := by decide +kernel
theorem dX6_runLeave_22 : decode cX6_runLeave 22 = .ok (.iconst 1, 1) := by decide +kernel
theorem dX6_runLeave_23 : decode cX6_runLeave 23 = .ok (.goto 4, 3) := by decide +kernel
theorem dX6_runLeave_26 : decode cX6_runLeave 26 = .ok (.iconst 0, 1) := by decide +kernel
theorem dX6_runLeave_27 : decode cX6_runLeave 27 = .ok (.ireturn, 1) := by decide +kernel
def P_M_runLeave (x1 : Int32) (v0 : MT) (Q : Int32 → MT → Prop) : Prop := P_M_isReader x1 (M_trial v0) (fun r1_ => (((r1_ = 0 → Q 0 v0) ∧ (¬ r1_ = 0 → P_M_goLeave x1 (M_trial v0) (fun r6_ v10_ => (∀ v15_, v15_ = (M_set_trial v0 v10_) → (((r6_ < 0 → Q 0 v15_) ∧ (¬ r6_ < 0 → Q 1 v15_)))))))))
set_option maxRecDepth 100000 in
theorem s_M_runLeave {l : Launch} {D : zD} {B : Nat} {sa : Nat → Nat} (hfl : l.stackTraces = false) {z : Nat} {G : zG} {b0 : Nat} {x1 : Int32} {v0 : MT} {Q : Int32 → MT → Prop} (h0 : MA b0 v0 G) (h : P_M_runLeave x1 v0 Q) : zSp l D B sa yX6_runLeave cX6_runLeave 2 (some .boolean) 3 66 0 0 [.ref b0, .int x1] z G (zRi fun r z' G' => z = z' ∧ ∃ w, MA b0 w G' ∧ Fr b0 8 G G' ∧ Q r w) := by
  unfold P_M_runLeave at h
  refine z_ofW (by decide +kernel) hfl [some (.ref b0), some (.int x1)] rfl (Nat.le_of_ble_eq_true rfl) (fun p e s m args below meth c O hret hlk hnm => ?_)
  have O : zO p l s m args c D B sa 2 cX6_runLeave RX6 := O
  refine z_aload_n O dX6_runLeave_0 rfl rfl ?_
  refine z_get (v := .ref (b0 + 2)) O wf_RX6_13 dX6_runLeave_1 (M_obj h0) rfl ?_
  refine z_iload_n O dX6_runLeave_4 rfl rfl ?_
  refine z_callSi (As := [.ref (b0 + 2), .int x1]) (st := []) O (s_M_isReader hfl (M_trial_of h0) h) wy_X6_isReader wl_RX6_184 dX6_runLeave_5 rfl rfl ⟨Nat.le_of_ble_eq_true rfl, Nat.le_of_ble_eq_true rfl⟩ (Nat.le_of_ble_eq_true rfl) ⟨Nat.le_of_ble_eq_true rfl, Nat.le_of_ble_eq_true rfl⟩ (fun r1_ z2_ G3_ hq4_ => ?_)
  obtain ⟨rfl, rfl, h⟩ := hq4_
  refine z_if_eq (tgt := 26) O dX6_runLeave_8 (by decide) (fun c5_ => ?_) (fun c5_ => ?_)
  · have h := h.1 c5_
    refine z_iconst (v := 0) O dX6_runLeave_26 (by decide) ?_
    exact z_zret O hret rfl hlk dX6_runLeave_27 (Nat.le_of_ble_eq_true rfl) (Nat.le_of_ble_eq_true rfl) ⟨_, rfl, rfl, _, h0, Fr.rf, h⟩
  · have h := h.2 c5_
    refine z_aload_n O dX6_runLeave_11 rfl rfl ?_
    refine z_get (v := .ref (b0 + 2)) O wf_RX6_13 dX6_runLeave_12 (M_obj h0) rfl ?_
    refine z_iload_n O dX6_runLeave_15 rfl rfl ?_
    refine z_callSi (As := [.ref (b0 + 2), .int x1]) (st := []) O (s_M_goLeave hfl (M_trial_of h0) h) wy_X6_goLeave wl_RX6_205 dX6_runLeave_16 rfl rfl ⟨Nat.le_of_ble_eq_true rfl, Nat.le_of_ble_eq_true rfl⟩ (Nat.le_of_ble_eq_true rfl) ⟨Nat.le_of_ble_eq_true rfl, Nat.le_of_ble_eq_true rfl⟩ (fun r6_ z7_ G8_ hq9_ => ?_)
    obtain ⟨rfl, v10_, k11_, f12_, h⟩ := hq9_
    have k13_ := M_put_trial h0 k11_ f12_
    have f14_ : Fr b0 8 G G8_ := Fr.mono f12_ (by omega) (by omega)
    obtain ⟨v15_, ev15_⟩ : ∃ w, w = (M_set_trial v0 v10_) := ⟨_, rfl⟩
    have h := h v15_ ev15_
    have k16_ : MA b0 v15_ G8_ := by rw [ev15_]; exact k13_
    have F17_ : Fr b0 8 G G8_ := Fr.trans Fr.rf f14_
    refine z_if_lt (tgt := 26) O dX6_runLeave_19 (by decide) (fun c18_ => ?_) (fun c18_ => ?_)
    · have h := h.1 c18_
      refine z_iconst (v := 0) O dX6_runLeave_26 (by decide) ?_
      exact z_zret O hret rfl hlk dX6_runLeave_27 (Nat.le_of_ble_eq_true rfl) (Nat.le_of_ble_eq_true rfl) ⟨_, rfl, rfl, _, k16_, F17_, h⟩
    · have h := h.2 c18_
      refine z_iconst (v := 1) O dX6_runLeave_22 (by decide) ?_
      refine z_goto (tgt := 27) O dX6_runLeave_23 (by decide) ?_
      exact z_zret O hret rfl hlk dX6_runLeave_27 (Nat.le_of_ble_eq_true rfl) (Nat.le_of_ble_eq_true rfl) ⟨_, rfl, rfl, _, k16_, F17_, h⟩

theorem dX6_runTicks_0 : decode cX6_runTicks 0 = .ok (.iload_n 1, 1) := by decide +kernel
theorem dX6_runTicks_1 : decode cX6_runTicks 1 = .ok (.i2l, 1) := by decide +kernel
theorem dX6_runTicks_2 : decode cX6_runTicks 2 = .ok (.lconst 1, 1) := by decide +kernel
theorem dX6_runTicks_3 : decode cX6_runTicks 3 = .ok (.ldc2_w 52, 3) := by decide +kernel
theorem dX6_runTicks_6 : decode cX6_runTicks 6 = .ok (.invokestatic 44, 3) := by decide +kernel
theorem dX6_runTicks_9 : decode cX6_runTicks 9 = .ok (.ifCond .eq 18, 3) := by decide +kernel
theorem dX6_runTicks_12 : decode cX6_runTicks 12 = .ok (.aload_n 0, 1) := by decide +kernel
theorem dX6_runTicks_13 : decode cX6_runTicks 13 = .ok (.getfield 13, 3) := by decide +kernel
theorem dX6_runTicks_16 : decode cX6_runTicks 16 = .ok (.iload_n 1, 1) := by decide +kernel
theorem dX6_runTicks_17 : decode cX6_runTicks 17 = .ok (.invokestatic 208, 3) := by decide +kernel
theorem dX6_runTicks_20 : decode cX6_runTicks 20 = .ok (.ifCond .lt 7, 3) := by decide +kernel
theorem dX6_runTicks_23 : decode cX6_runTicks 23 = .ok (.iconst 1, 1) := by decide +kernel
theorem dX6_runTicks_24 : decode cX6_runTicks 24 = .ok (.goto 4, 3) := by decide +kernel
theorem dX6_runTicks_27 : decode cX6_runTicks 27 = .ok (.iconst 0, 1) := by decide +kernel
theorem dX6_runTicks_28 : decode cX6_runTicks 28 = .ok (.ireturn, 1) := by decide +kernel
def P_M_runTicks (x1 : Int32) (v0 : MT) (Q : Int32 → MT → Prop) : Prop := P_M_in (Int32.toInt64 x1) 1 99 (fun r1_ => (((r1_ = 0 → Q 0 v0) ∧ (¬ r1_ = 0 → P_M_goTicks x1 (M_trial v0) (fun r6_ v10_ => (∀ v15_, v15_ = (M_set_trial v0 v10_) → (((r6_ < 0 → Q 0 v15_) ∧ (¬ r6_ < 0 → Q 1 v15_)))))))))
set_option maxRecDepth 100000 in
theorem s_M_runTicks {l : Launch} {D : zD} {B : Nat} {sa : Nat → Nat} (hfl : l.stackTraces = false) {z : Nat} {G : zG} {b0 : Nat} {x1 : Int32} {v0 : MT} {Q : Int32 → MT → Prop} (h0 : MA b0 v0 G) (h : P_M_runTicks x1 v0 Q) : zSp l D B sa yX6_runTicks cX6_runTicks 2 (some .boolean) 6 132 0 0 [.ref b0, .int x1] z G (zRi fun r z' G' => z = z' ∧ ∃ w, MA b0 w G' ∧ Fr b0 8 G G' ∧ Q r w) := by
  unfold P_M_runTicks at h
  refine z_ofW (by decide +kernel) hfl [some (.ref b0), some (.int x1)] rfl (Nat.le_of_ble_eq_true rfl) (fun p e s m args below meth c O hret hlk hnm => ?_)
  have O : zO p l s m args c D B sa 2 cX6_runTicks RX6 := O
  refine z_iload_n O dX6_runTicks_0 rfl rfl ?_
  refine z_i2l O dX6_runTicks_1 ?_
  refine z_lconst (v := 1) O dX6_runTicks_2 (by decide) ?_
  refine z_ldc2 (v := 99) O wc_RX6_52 dX6_runTicks_3 ?_
  refine z_callSi (As := [.long (Int32.toInt64 x1), .long 1, .long 99]) (st := []) O (s_M_in hfl h) wy_X6_in wl_RX6_44 dX6_runTicks_6 rfl rfl ⟨Nat.le_of_ble_eq_true rfl, Nat.le_of_ble_eq_true rfl⟩ (Nat.le_of_ble_eq_true rfl) ⟨Nat.le_of_ble_eq_true rfl, Nat.le_of_ble_eq_true rfl⟩ (fun r1_ z2_ G3_ hq4_ => ?_)
  obtain ⟨rfl, rfl, h⟩ := hq4_
  refine z_if_eq (tgt := 27) O dX6_runTicks_9 (by decide) (fun c5_ => ?_) (fun c5_ => ?_)
  · have h := h.1 c5_
    refine z_iconst (v := 0) O dX6_runTicks_27 (by decide) ?_
    exact z_zret O hret rfl hlk dX6_runTicks_28 (Nat.le_of_ble_eq_true rfl) (Nat.le_of_ble_eq_true rfl) ⟨_, rfl, rfl, _, h0, Fr.rf, h⟩
  · have h := h.2 c5_
    refine z_aload_n O dX6_runTicks_12 rfl rfl ?_
    refine z_get (v := .ref (b0 + 2)) O wf_RX6_13 dX6_runTicks_13 (M_obj h0) rfl ?_
    refine z_iload_n O dX6_runTicks_16 rfl rfl ?_
    refine z_callSi (As := [.ref (b0 + 2), .int x1]) (st := []) O (s_M_goTicks hfl (M_trial_of h0) h) wy_X6_goTicks wl_RX6_208 dX6_runTicks_17 rfl rfl ⟨Nat.le_of_ble_eq_true rfl, Nat.le_of_ble_eq_true rfl⟩ (Nat.le_of_ble_eq_true rfl) ⟨Nat.le_of_ble_eq_true rfl, Nat.le_of_ble_eq_true rfl⟩ (fun r6_ z7_ G8_ hq9_ => ?_)
    obtain ⟨rfl, v10_, k11_, f12_, h⟩ := hq9_
    have k13_ := M_put_trial h0 k11_ f12_
    have f14_ : Fr b0 8 G G8_ := Fr.mono f12_ (by omega) (by omega)
    obtain ⟨v15_, ev15_⟩ : ∃ w, w = (M_set_trial v0 v10_) := ⟨_, rfl⟩
    have h := h v15_ ev15_
    have k16_ : MA b0 v15_ G8_ := by rw [ev15_]; exact k13_
    have F17_ : Fr b0 8 G G8_ := Fr.trans Fr.rf f14_
    refine z_if_lt (tgt := 27) O dX6_runTicks_20 (by decide) (fun c18_ => ?_) (fun c18_ => ?_)
    · have h := h.1 c18_
      refine z_iconst (v := 0) O dX6_runTicks_27 (by decide) ?_
      exact z_zret O hret rfl hlk dX6_runTicks_28 (Nat.le_of_ble_eq_true rfl) (Nat.le_of_ble_eq_true rfl) ⟨_, rfl, rfl, _, k16_, F17_, h⟩
    · have h := h.2 c18_
      refine z_iconst (v := 1) O dX6_runTicks_23 (by decide) ?_
      refine z_goto (tgt := 28) O dX6_runTicks_24 (by decide) ?_
      exact z_zret O hret rfl hlk dX6_runTicks_28 (Nat.le_of_ble_eq_true rfl) (Nat.le_of_ble_eq_true rfl) ⟨_, rfl, rfl, _, k16_, F17_, h⟩
