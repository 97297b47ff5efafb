theorem dX5_segmentOf_0 : decode cX5_segmentOf 0 = .ok (.iload_n 1, 1) := by decide +kernel
theorem dX5_segmentOf_1 : decode cX5_segmentOf 1 = .ok (.iconst 0, 1) := by decide +kernel
theorem dX5_segmentOf_2 : decode cX5_segmentOf 2 = .ok (.aload_n 0, 1) := by decide +kernel
theorem dX5_segmentOf_3 : decode cX5_segmentOf 3 = .ok (.getfield 19, 3) := by decide +kernel
theorem dX5_segmentOf_6 : decode cX5_segmentOf 6 = .ok (.getfield 90, 3) := by decide +kernel
theorem dX5_segmentOf_9 : decode cX5_segmentOf 9 = .ok (.invokevirtual 114, 3) := by decide +kernel
theorem dX5_segmentOf_12 : decode cX5_segmentOf 12 = .ok (.iconst 1, 1) := by decide +kernel
theorem dX5_segmentOf_13 : decode cX5_segmentOf 13 = .ok (.isub, 1) := by decide +kernel
theorem dX5_segmentOf_14 : decode cX5_segmentOf 14 = .ok (.invokestatic 41, 3) := by decide +kernel
theorem dX5_segmentOf_17 : decode cX5_segmentOf 17 = .ok (.ifCond .ne 13, 3) := by decide +kernel
theorem dX5_segmentOf_20 : decode cX5_segmentOf 20 = .ok (.new 100, 3) := by decide +kernel
theorem dX5_segmentOf_23 : decode cX5_segmentOf 23 = .ok (.dup, 1) := by decide +kernel
theorem dX5_segmentOf_24 : decode cX5_segmentOf 24 = .ok (.ldc 117, 2) := by decide +kernel
theorem dX5_segmentOf_26 : decode cX5_segmentOf 26 = .ok (.invokespecial 104, 3) := by decide +kernel
theorem dX5_segmentOf_29 : decode cX5_segmentOf 29 = .ok (.athrow, 1) := by decide +kernel
theorem dX5_segmentOf_30 : decode cX5_segmentOf 30 = .ok (.iload_n 2, 1) := by decide +kernel
theorem dX5_segmentOf_31 : decode cX5_segmentOf 31 = .ok (.iconst 0, 1) := by decide +kernel
theorem dX5_segmentOf_32 : decode cX5_segmentOf 32 = .ok (.iconst 5, 1) := by decide +kernel
theorem dX5_segmentOf_33 : decode cX5_segmentOf 33 = .ok (.invokestatic 41, 3) := by decide +kernel
theorem dX5_segmentOf_36 : decode cX5_segmentOf 36 = .ok (.ifCond .ne 13, 3) := by decide +kernel
theorem dX5_segmentOf_39 : decode cX5_segmentOf 39 = .ok (.new 45, 3) := by decide +kernel
theorem dX5_segmentOf_42 : decode cX5_segmentOf 42 = .ok (.dup, 1) := by decide +kernel
theorem dX5_segmentOf_43 : decode cX5_segmentOf 43 = .ok (.ldc 105, 2) := by decide +kernel
theorem dX5_segmentOf_45 : decode cX5_segmentOf 45 = .ok (.invokespecial 49, 3) := by decide +kernel
theorem dX5_segmentOf_48 : decode cX5_segmentOf 48 = .ok (.athrow, 1) := by decide +kernel
theorem dX5_segmentOf_49 : decode cX5_segmentOf 49 = .ok (.aload_n 0, 1) := by decide +kernel
theorem dX5_segmentOf_50 : decode cX5_segmentOf 50 = .ok (.getfield 19, 3) := by decide +kernel
theorem dX5_segmentOf_53 : decode cX5_segmentOf 53 = .ok (.iload_n 1, 1) := by decide +kernel
theorem dX5_segmentOf_54 : decode cX5_segmentOf 54 = .ok (.iload_n 2, 1) := by decide +kernel
theorem dX5_segmentOf_55 : decode cX5_segmentOf 55 = .ok (.invokevirtual 119, 3) := by decide +kernel
theorem dX5_segmentOf_58 : decode cX5_segmentOf 58 = .ok (.ireturn, 1) := by decide +kernel
def P_T_segmentOf (x1 : Int32) (x2 : Int32) (v0 : TT) (X : String → Prop) (Q : Int32 → Prop) : Prop := P_L_segments (S_log (T_state v0)) (fun r1_ => (P_T_isIn x1 0 (r1_ - 1) (fun r5_ => (((¬ r5_ = 0 → P_T_isIn x2 0 5 (fun r10_ => (((¬ r10_ = 0 → P_S_segmentNumber x1 x2 (T_state v0) (fun r15_ => (Q r15_))) ∧ (r10_ = 0 → X "java/lang/IllegalArgumentException"))))) ∧ (r5_ = 0 → X "java/lang/IndexOutOfBoundsException"))))))
set_option maxRecDepth 100000 in
theorem s_T_segmentOf {l : Launch} {D : zD} {B : Nat} {sa : Nat → Nat} (hfl : l.stackTraces = false) {z : Nat} {G : zG} {b0 : Nat} {x1 : Int32} {x2 : Int32} {v0 : TT} {X : String → Prop} {Q : Int32 → Prop} (h0 : TA b0 v0 G) (h : P_T_segmentOf x1 x2 v0 X Q) : zSx l D B sa yX5_segmentOf cX5_segmentOf 3 (some .int) 6 90 1 6 [.ref b0, .int x1, .int x2] z G (zRi fun r z' G' => z = z' ∧ G = G' ∧ Q r) (fun E z' G' => G = G' ∧ X E) := by
  unfold P_T_segmentOf at h
  refine z_ofX (by decide +kernel) hfl [some (.ref b0), some (.int x1), some (.int x2)] rfl (Nat.le_of_ble_eq_true rfl) (fun p e s m args below meth c O hret hlk hout => ?_)
  have O : zO p l s m args c D B sa 3 cX5_segmentOf RX5 := O
  refine z_iload_n O dX5_segmentOf_0 rfl rfl ?_
  refine z_iconst (v := 0) O dX5_segmentOf_1 (by decide) ?_
  refine z_aload_n O dX5_segmentOf_2 rfl rfl ?_
  refine z_get (v := .ref (b0 + 3)) O wf_RX5_19 dX5_segmentOf_3 (T_obj h0) rfl ?_
  refine z_get (v := .ref ((b0 + 3) + 1)) O wf_RX5_90 dX5_segmentOf_6 (S_obj (T_state_of h0)) rfl ?_
  refine z_callVi (As := []) (st := [.int 0, .int x1]) O (s_L_segments hfl (S_log_of (T_state_of h0)) h) wy_X1_segments wl_RX5_114 dX5_segmentOf_9 rfl rfl (L_obj (S_log_of (T_state_of h0))) ⟨by decide, rfl⟩ ⟨Nat.le_of_ble_eq_true rfl, Nat.le_of_ble_eq_true rfl⟩ (Nat.le_of_ble_eq_true rfl) ⟨Nat.le_of_ble_eq_true rfl, Nat.le_of_ble_eq_true rfl⟩ (fun r1_ z2_ G3_ hq4_ => ?_)
  obtain ⟨rfl, rfl, h⟩ := hq4_
  refine z_iconst (v := 1) O dX5_segmentOf_12 (by decide) ?_
  refine z_isub O dX5_segmentOf_13 ?_
  refine z_callSi (As := [.int x1, .int 0, .int (r1_ - 1)]) (st := []) O (s_T_isIn hfl h) wy_X5_isIn wl_RX5_41 dX5_segmentOf_14 rfl rfl ⟨Nat.le_of_ble_eq_true rfl, Nat.le_of_ble_eq_true rfl⟩ (Nat.le_of_ble_eq_true rfl) ⟨Nat.le_of_ble_eq_true rfl, Nat.le_of_ble_eq_true rfl⟩ (fun r5_ z6_ G7_ hq8_ => ?_)
  obtain ⟨rfl, rfl, h⟩ := hq8_
  refine z_if_ne (tgt := 30) O dX5_segmentOf_17 (by decide) (fun c9_ => ?_) (fun c9_ => ?_)
  · have h := h.1 c9_
    refine z_iload_n O dX5_segmentOf_30 rfl rfl ?_
    refine z_iconst (v := 0) O dX5_segmentOf_31 (by decide) ?_
    refine z_iconst (v := 5) O dX5_segmentOf_32 (by decide) ?_
    refine z_callSi (As := [.int x2, .int 0, .int 5]) (st := []) O (s_T_isIn hfl h) wy_X5_isIn wl_RX5_41 dX5_segmentOf_33 rfl rfl ⟨Nat.le_of_ble_eq_true rfl, Nat.le_of_ble_eq_true rfl⟩ (Nat.le_of_ble_eq_true rfl) ⟨Nat.le_of_ble_eq_true rfl, Nat.le_of_ble_eq_true rfl⟩ (fun r10_ z11_ G12_ hq13_ => ?_)
    obtain ⟨rfl, rfl, h⟩ := hq13_
    refine z_if_ne (tgt := 49) O dX5_segmentOf_36 (by decide) (fun c14_ => ?_) (fun c14_ => ?_)
    · have h := h.1 c14_
      refine z_aload_n O dX5_segmentOf_49 rfl rfl ?_
      refine z_get (v := .ref (b0 + 3)) O wf_RX5_19 dX5_segmentOf_50 (T_obj h0) rfl ?_
      refine z_iload_n O dX5_segmentOf_53 rfl rfl ?_
      refine z_iload_n O dX5_segmentOf_54 rfl rfl ?_
      refine z_callVi (As := [.int x1, .int x2]) (st := []) O (s_S_segmentNumber hfl (T_state_of h0) h) wy_X3_segmentNumber wl_RX5_119 dX5_segmentOf_55 rfl rfl (S_obj (T_state_of h0)) ⟨by decide, rfl⟩ ⟨Nat.le_of_ble_eq_true rfl, Nat.le_of_ble_eq_true rfl⟩ (Nat.le_of_ble_eq_true rfl) ⟨Nat.le_of_ble_eq_true rfl, Nat.le_of_ble_eq_true rfl⟩ (fun r15_ z16_ G17_ hq18_ => ?_)
      obtain ⟨rfl, rfl, h⟩ := hq18_
      exact z_iretx O hret hlk dX5_segmentOf_58 (Nat.le_of_ble_eq_true rfl) (Nat.le_of_ble_eq_true rfl) ⟨_, rfl, rfl, rfl, h⟩
    · have h := h.2 c14_
      exact z_throw O wt_RX5_45_49 (tx := "what is not 0 to 5") (is := 105) (by decide +kernel) dX5_segmentOf_39 dX5_segmentOf_42 dX5_segmentOf_43 dX5_segmentOf_45 dX5_segmentOf_48 hout (Nat.le_of_ble_eq_true rfl) (Nat.le_of_ble_eq_true rfl) (Nat.le_of_ble_eq_true rfl) (Nat.le_of_ble_eq_true rfl) hlk (fun z1 => ⟨rfl, h⟩) (Nat.le_of_ble_eq_true rfl) (Nat.le_of_ble_eq_true rfl)
  · have h := h.2 c9_
    exact z_throw O wt_RX5_100_104 (tx := "there is no such segment") (is := 117) (by decide +kernel) dX5_segmentOf_20 dX5_segmentOf_23 dX5_segmentOf_24 dX5_segmentOf_26 dX5_segmentOf_29 hout (Nat.le_of_ble_eq_true rfl) (Nat.le_of_ble_eq_true rfl) (Nat.le_of_ble_eq_true rfl) (Nat.le_of_ble_eq_true rfl) hlk (fun z1 => ⟨rfl, h⟩) (Nat.le_of_ble_eq_true rfl) (Nat.le_of_ble_eq_true rfl)

theorem dX5_readerOf_0 : decode cX5_readerOf 0 = .ok (.aload_n 0, 1) := by decide +kernel
theorem dX5_readerOf_1 : decode cX5_readerOf 1 = .ok (.getfield 19, 3) := by decide +kernel
theorem dX5_readerOf_4 : decode cX5_readerOf 4 = .ok (.iload_n 1, 1) := by decide +kernel
theorem dX5_readerOf_5 : decode cX5_readerOf 5 = .ok (.invokevirtual 122, 3) := by decide +kernel
theorem dX5_readerOf_8 : decode cX5_readerOf 8 = .ok (.astore_n 3, 1) := by decide +kernel
theorem dX5_readerOf_9 : decode cX5_readerOf 9 = .ok (.aload_n 3, 1) := by decide +kernel
theorem dX5_readerOf_10 : decode cX5_readerOf 10 = .ok (.ifnonnull 13, 3) := by decide +kernel
theorem dX5_readerOf_13 : decode cX5_readerOf 13 = .ok (.new 100, 3) := by decide +kernel
theorem dX5_readerOf_16 : decode cX5_readerOf 16 = .ok (.dup, 1) := by decide +kernel
theorem dX5_readerOf_17 : decode cX5_readerOf 17 = .ok (.ldc 126, 2) := by decide +kernel
theorem dX5_readerOf_19 : decode cX5_readerOf 19 = .ok (.invokespecial 104, 3) := by decide +kernel
theorem dX5_readerOf_22 : decode cX5_readerOf 22 = .ok (.athrow, 1) := by decide +kernel
theorem dX5_readerOf_23 : decode cX5_readerOf 23 = .ok (.iload_n 2, 1) := by decide +kernel
theorem dX5_readerOf_24 : decode cX5_readerOf 24 = .ok (.iconst 0, 1) := by decide +kernel
theorem dX5_readerOf_25 : decode cX5_readerOf 25 = .ok (.bipush 8, 2) := by decide +kernel
theorem dX5_readerOf_27 : decode cX5_readerOf 27 = .ok (.invokestatic 41, 3) := by decide +kernel
theorem dX5_readerOf_30 : decode cX5_readerOf 30 = .ok (.ifCond .ne 13, 3) := by decide +kernel
theorem dX5_readerOf_33 : decode cX5_readerOf 33 = .ok (.new 45, 3) := by decide +kernel
theorem dX5_readerOf_36 : decode cX5_readerOf 36 = .ok (.dup, 1) := by decide +kernel
theorem dX5_readerOf_37 : decode cX5_readerOf 37 = .ok (.ldc 128, 2) := by decide +kernel
theorem dX5_readerOf_39 : decode cX5_readerOf 39 = .ok (.invokespecial 49, 3) := by decide +kernel
theorem dX5_readerOf_42 : decode cX5_readerOf 42 = .ok (.athrow, 1) := by decide +kernel
theorem dX5_readerOf_43 : decode cX5_readerOf 43 = .ok (.aload_n 0, 1) := by decide +kernel
theorem dX5_readerOf_44 : decode cX5_readerOf 44 = .ok (.getfield 19, 3) := by decide +kernel
theorem dX5_readerOf_47 : decode cX5_readerOf 47 = .ok (.aload_n 3, 1) := by decide +kernel
theorem dX5_readerOf_48 : decode cX5_readerOf 48 = .ok (.iload_n 2, 1) := by decide +kernel
theorem dX5_readerOf_49 : decode cX5_readerOf 49 = .ok (.invokevirtual 130, 3) := by decide +kernel
theorem dX5_readerOf_52 : decode cX5_readerOf 52 = .ok (.ireturn, 1) := by decide +kernel
def P_T_readerOf (x1 : Int32) (x2 : Int32) (v0 : TT) (X : String → Prop) (Q : Int32 → Prop) : Prop := P_S_reader x1 (T_state v0) (fun r5_ => ((r5_ = none → X "java/lang/IndexOutOfBoundsException") ∧ (∀ i7_, r5_ = some i7_ → P_T_isIn x2 0 8 (fun r9_ => (((¬ r9_ = 0 → P_S_readerNumber i7_ x2 (T_state v0) (fun r14_ => (Q r14_))) ∧ (r9_ = 0 → X "java/lang/IllegalArgumentException")))))))
set_option maxRecDepth 100000 in
theorem s_T_readerOf {l : Launch} {D : zD} {B : Nat} {sa : Nat → Nat} (hfl : l.stackTraces = false) {z : Nat} {G : zG} {b0 : Nat} {x1 : Int32} {x2 : Int32} {v0 : TT} {X : String → Prop} {Q : Int32 → Prop} (h0 : TA b0 v0 G) (h : P_T_readerOf x1 x2 v0 X Q) : zSx l D B sa yX5_readerOf cX5_readerOf 4 (some .int) 6 90 1 6 [.ref b0, .int x1, .int x2] z G (zRi fun r z' G' => z = z' ∧ G = G' ∧ Q r) (fun E z' G' => G = G' ∧ X E) := by
  unfold P_T_readerOf at h
  refine z_ofX (by decide +kernel) hfl [some (.ref b0), some (.int x1), some (.int x2), none] rfl (Nat.le_of_ble_eq_true rfl) (fun p e s m args below meth c O hret hlk hout => ?_)
  have O : zO p l s m args c D B sa 4 cX5_readerOf RX5 := O
  refine z_aload_n O dX5_readerOf_0 rfl rfl ?_
  refine z_get (v := .ref (b0 + 3)) O wf_RX5_19 dX5_readerOf_1 (T_obj h0) rfl ?_
  refine z_iload_n O dX5_readerOf_4 rfl rfl ?_
  refine z_callVa (As := [.int x1]) (st := []) O (s_S_reader hfl (T_state_of h0) h) wy_X3_reader wl_RX5_122 dX5_readerOf_5 rfl rfl (S_obj (T_state_of h0)) ⟨by decide, rfl⟩ ⟨Nat.le_of_ble_eq_true rfl, Nat.le_of_ble_eq_true rfl⟩ (Nat.le_of_ble_eq_true rfl) ⟨Nat.le_of_ble_eq_true rfl, Nat.le_of_ble_eq_true rfl⟩ (fun r1_ z2_ G3_ hq4_ => ?_)
  obtain ⟨rfl, rfl, r5_, rfl, hb6_, h⟩ := hq4_
  cases r5_ with
  | none =>
    have h := h.1 rfl
    refine z_astoreN_n (L' := [some (.ref b0), some (.int x1), some (.int x2), some (.null)]) O dX5_readerOf_8 rfl (by decide) rfl ?_
    refine z_aloadN_n O dX5_readerOf_9 rfl rfl ?_
    refine z_ifnonnullN O dX5_readerOf_10 ?_
    exact z_throw O wt_RX5_100_104 (tx := "there is no such reader") (is := 126) (by decide +kernel) dX5_readerOf_13 dX5_readerOf_16 dX5_readerOf_17 dX5_readerOf_19 dX5_readerOf_22 hout (Nat.le_of_ble_eq_true rfl) (Nat.le_of_ble_eq_true rfl) (Nat.le_of_ble_eq_true rfl) (Nat.le_of_ble_eq_true rfl) hlk (fun z1 => ⟨rfl, h⟩) (Nat.le_of_ble_eq_true rfl) (Nat.le_of_ble_eq_true rfl)
  | some i7_ =>
    have hi8_ := hb6_ _ rfl
    have h := h.2 i7_ rfl
    refine z_astore_n (L' := [some (.ref b0), some (.int x1), some (.int x2), some (.ref ((b0 + 3) + 10 + 2 * i7_))]) O dX5_readerOf_8 rfl (by decide) rfl ?_
    refine z_aload_n O dX5_readerOf_9 rfl rfl ?_
    refine z_ifnonnull (tgt := 23) O dX5_readerOf_10 (by decide) ?_
    refine z_iload_n O dX5_readerOf_23 rfl rfl ?_
    refine z_iconst (v := 0) O dX5_readerOf_24 (by decide) ?_
    refine z_bipush (v := 8) O dX5_readerOf_25 (by decide) ?_
    refine z_callSi (As := [.int x2, .int 0, .int 8]) (st := []) O (s_T_isIn hfl h) wy_X5_isIn wl_RX5_41 dX5_readerOf_27 rfl rfl ⟨Nat.le_of_ble_eq_true rfl, Nat.le_of_ble_eq_true rfl⟩ (Nat.le_of_ble_eq_true rfl) ⟨Nat.le_of_ble_eq_true rfl, Nat.le_of_ble_eq_true rfl⟩ (fun r9_ z10_ G11_ hq12_ => ?_)
    obtain ⟨rfl, rfl, h⟩ := hq12_
    refine z_if_ne (tgt := 43) O dX5_readerOf_30 (by decide) (fun c13_ => ?_) (fun c13_ => ?_)
    · have h := h.1 c13_
      refine z_aload_n O dX5_readerOf_43 rfl rfl ?_
      refine z_get (v := .ref (b0 + 3)) O wf_RX5_19 dX5_readerOf_44 (T_obj h0) rfl ?_
      refine z_aload_n O dX5_readerOf_47 rfl rfl ?_
      refine z_iload_n O dX5_readerOf_48 rfl rfl ?_
      refine z_callVi (As := [.ref ((b0 + 3) + 10 + 2 * i7_), .int x2]) (st := []) O (s_S_readerNumber hfl (T_state_of h0) hi8_ h) wy_X3_readerNumber wl_RX5_130 dX5_readerOf_49 rfl rfl (S_obj (T_state_of h0)) ⟨by decide, rfl⟩ ⟨Nat.le_of_ble_eq_true rfl, Nat.le_of_ble_eq_true rfl⟩ (Nat.le_of_ble_eq_true rfl) ⟨Nat.le_of_ble_eq_true rfl, Nat.le_of_ble_eq_true rfl⟩ (fun r14_ z15_ G16_ hq17_ => ?_)
      obtain ⟨rfl, rfl, h⟩ := hq17_
      exact z_iretx O hret hlk dX5_readerOf_52 (Nat.le_of_ble_eq_true rfl) (Nat.le_of_ble_eq_true rfl) ⟨_, rfl, rfl, rfl, h⟩
    · have h := h.2 c13_
      exact z_throw O wt_RX5_45_49 (tx := "what is not 0 to 8") (is := 128) (by decide +kernel) dX5_readerOf_33 dX5_readerOf_36 dX5_readerOf_37 dX5_readerOf_39 dX5_readerOf_42 hout (Nat.le_of_ble_eq_true rfl) (Nat.le_of_ble_eq_true rfl) (Nat.le_of_ble_eq_true rfl) (Nat.le_of_ble_eq_true rfl) hlk (fun z1 => ⟨rfl, h⟩) (Nat.le_of_ble_eq_true rfl) (Nat.le_of_ble_eq_true rfl)

theorem dX5_table_0 : decode cX5_table 0 = .ok (.aload_n 0, 1) := by decide +kernel
theorem dX5_table_1 : decode cX5_table 1 = .ok (.getfield 19, 3) := by decide +kernel
theorem dX5_table_4 : decode cX5_table 4 = .ok (.iload_n 1, 1) := by decide +kernel
theorem dX5_table_5 : decode cX5_table 5 = .ok (.invokevirtual 122, 3) := by decide +kernel
theorem dX5_table_8 : decode cX5_table 8 = .ok (.astore_n 3, 1) := by decide +kernel
theorem dX5_table_9 : decode cX5_table 9 = .ok (.aload_n 3, 1) := by decide +kernel
theorem dX5_table_10 : decode cX5_table 10 = .ok (.ifnonnull 13, 3) := by decide +kernel
theorem dX5_table_13 : decode cX5_table 13 = .ok (.new 100, 3) := by decide +kernel
theorem dX5_table_16 : decode cX5_table 16 = .ok (.dup, 1) := by decide +kernel
theorem dX5_table_17 : decode cX5_table 17 = .ok (.ldc 126, 2) := by decide +kernel
theorem dX5_table_19 : decode cX5_table 19 = .ok (.invokespecial 104, 3) := by decide +kernel
theorem dX5_table_22 : decode cX5_table 22 = .ok (.athrow, 1) := by decide +kernel
theorem dX5_table_23 : decode cX5_table 23 = .ok (.iload_n 2, 1) := by decide +kernel
theorem dX5_table_24 : decode cX5_table 24 = .ok (.iconst 0, 1) := by decide +kernel
theorem dX5_table_25 : decode cX5_table 25 = .ok (.bipush 7, 2) := by decide +kernel
theorem dX5_table_27 : decode cX5_table 27 = .ok (.invokestatic 41, 3) := by decide +kernel
theorem dX5_table_30 : decode cX5_table 30 = .ok (.ifCond .ne 13, 3) := by decide +kernel
theorem dX5_table_33 : decode cX5_table 33 = .ok (.new 45, 3) := by decide +kernel
theorem dX5_table_36 : decode cX5_table 36 = .ok (.dup, 1) := by decide +kernel
theorem dX5_table_37 : decode cX5_table 37 = .ok (.ldc 134, 2) := by decide +kernel
theorem dX5_table_39 : decode cX5_table 39 = .ok (.invokespecial 49, 3) := by decide +kernel
theorem dX5_table_42 : decode cX5_table 42 = .ok (.athrow, 1) := by decide +kernel
theorem dX5_table_43 : decode cX5_table 43 = .ok (.aload_n 3, 1) := by decide +kernel
theorem dX5_table_44 : decode cX5_table 44 = .ok (.getfield 136, 3) := by decide +kernel
theorem dX5_table_47 : decode cX5_table 47 = .ok (.iload_n 2, 1) := by decide +kernel
theorem dX5_table_48 : decode cX5_table 48 = .ok (.invokestatic 142, 3) := by decide +kernel
theorem dX5_table_51 : decode cX5_table 51 = .ok (.ireturn, 1) := by decide +kernel
def P_T_table (x1 : Int32) (x2 : Int32) (v0 : TT) (X : String → Prop) (Q : Int32 → Prop) : Prop := P_S_reader x1 (T_state v0) (fun r5_ => ((r5_ = none → X "java/lang/IndexOutOfBoundsException") ∧ (∀ i7_, r5_ = some i7_ → P_T_isIn x2 0 7 (fun r9_ => (((¬ r9_ = 0 → P_T_at 8 x2 (R_values (S_readers (T_state v0) i7_)) (fun r14_ => (Q r14_))) ∧ (r9_ = 0 → X "java/lang/IllegalArgumentException")))))))
set_option maxRecDepth 100000 in
theorem s_T_table {l : Launch} {D : zD} {B : Nat} {sa : Nat → Nat} (hfl : l.stackTraces = false) {z : Nat} {G : zG} {b0 : Nat} {x1 : Int32} {x2 : Int32} {v0 : TT} {X : String → Prop} {Q : Int32 → Prop} (h0 : TA b0 v0 G) (h : P_T_table x1 x2 v0 X Q) : zSx l D B sa yX5_table cX5_table 4 (some .int) 6 90 1 6 [.ref b0, .int x1, .int x2] z G (zRi fun r z' G' => z = z' ∧ G = G' ∧ Q r) (fun E z' G' => G = G' ∧ X E) := by
  unfold P_T_table at h
  refine z_ofX (by decide +kernel) hfl [some (.ref b0), some (.int x1), some (.int x2), none] rfl (Nat.le_of_ble_eq_true rfl) (fun p e s m args below meth c O hret hlk hout => ?_)
  have O : zO p l s m args c D B sa 4 cX5_table RX5 := O
  refine z_aload_n O dX5_table_0 rfl rfl ?_
  refine z_get (v := .ref (b0 + 3)) O wf_RX5_19 dX5_table_1 (T_obj h0) rfl ?_
  refine z_iload_n O dX5_table_4 rfl rfl ?_
  refine z_callVa (As := [.int x1]) (st := []) O (s_S_reader hfl (T_state_of h0) h) wy_X3_reader wl_RX5_122 dX5_table_5 rfl rfl (S_obj (T_state_of h0)) ⟨by decide, rfl⟩ ⟨Nat.le_of_ble_eq_true rfl, Nat.le_of_ble_eq_true rfl⟩ (Nat.le_of_ble_eq_true rfl) ⟨Nat.le_of_ble_eq_true rfl, Nat.le_of_ble_eq_true rfl⟩ (fun r1_ z2_ G3_ hq4_ => ?_)
  obtain ⟨rfl, rfl, r5_, rfl, hb6_, h⟩ := hq4_
  cases r5_ with
  | none =>
    have h := h.1 rfl
    refine z_astoreN_n (L' := [some (.ref b0), some (.int x1), some (.int x2), some (.null)]) O dX5_table_8 rfl (by decide) rfl ?_
    refine z_aloadN_n O dX5_table_9 rfl rfl ?_
    refine z_ifnonnullN O dX5_table_10 ?_
    exact z_throw O wt_RX5_100_104 (tx := "there is no such reader") (is := 126) (by decide +kernel) dX5_table_13 dX5_table_16 dX5_table_17 dX5_table_19 dX5_table_22 hout (Nat.le_of_ble_eq_true rfl) (Nat.le_of_ble_eq_true rfl) (Nat.le_of_ble_eq_true rfl) (Nat.le_of_ble_eq_true rfl) hlk (fun z1 => ⟨rfl, h⟩) (Nat.le_of_ble_eq_true rfl) (Nat.le_of_ble_eq_true rfl)
  | some i7_ =>
    have hi8_ := hb6_ _ rfl
    have h := h.2 i7_ rfl
    refine z_astore_n (L' := [some (.ref b0), some (.int x1), some (.int x2), some (.ref ((b0 + 3) + 10 + 2 * i7_))]) O dX5_table_8 rfl (by decide) rfl ?_
    refine z_aload_n O dX5_table_9 rfl rfl ?_
    refine z_ifnonnull (tgt := 23) O dX5_table_10 (by decide) ?_
    refine z_iload_n O dX5_table_23 rfl rfl ?_
    refine z_iconst (v := 0) O dX5_table_24 (by decide) ?_
    refine z_bipush (v := 7) O dX5_table_25 (by decide) ?_
    refine z_callSi (As := [.int x2, .int 0, .int 7]) (st := []) O (s_T_isIn hfl h) wy_X5_isIn wl_RX5_41 dX5_table_27 rfl rfl ⟨Nat.le_of_ble_eq_true rfl, Nat.le_of_ble_eq_true rfl⟩ (Nat.le_of_ble_eq_true rfl) ⟨Nat.le_of_ble_eq_true rfl, Nat.le_of_ble_eq_true rfl⟩ (fun r9_ z10_ G11_ hq12_ => ?_)
    obtain ⟨rfl, rfl, h⟩ := hq12_
    refine z_if_ne (tgt := 43) O dX5_table_30 (by decide) (fun c13_ => ?_) (fun c13_ => ?_)
    · have h := h.1 c13_
      refine z_aload_n O dX5_table_43 rfl rfl ?_
      refine z_get (v := .ref (((b0 + 3) + 10 + 2 * i7_) + 1)) O wf_RX5_136 dX5_table_44 (R_obj (S_readers_of (T_state_of h0) hi8_)) rfl ?_
      refine z_iload_n O dX5_table_47 rfl rfl ?_
      refine z_callSi (As := [.ref (((b0 + 3) + 10 + 2 * i7_) + 1), .int x2]) (st := []) O (s_T_at hfl (R_values_of (S_readers_of (T_state_of h0) hi8_)) h) wy_X5_at wl_RX5_142 dX5_table_48 rfl rfl ⟨Nat.le_of_ble_eq_true rfl, Nat.le_of_ble_eq_true rfl⟩ (Nat.le_of_ble_eq_true rfl) ⟨Nat.le_of_ble_eq_true rfl, Nat.le_of_ble_eq_true rfl⟩ (fun r14_ z15_ G16_ hq17_ => ?_)
      obtain ⟨rfl, rfl, h⟩ := hq17_
      exact z_iretx O hret hlk dX5_table_51 (Nat.le_of_ble_eq_true rfl) (Nat.le_of_ble_eq_true rfl) ⟨_, rfl, rfl, rfl, h⟩
    · have h := h.2 c13_
      exact z_throw O wt_RX5_45_49 (tx := "key is not 0 to 7") (is := 134) (by decide +kernel) dX5_table_33 dX5_table_36 dX5_table_37 dX5_table_39 dX5_table_42 hout (Nat.le_of_ble_eq_true rfl) (Nat.le_of_ble_eq_true rfl) (Nat.le_of_ble_eq_true rfl) (Nat.le_of_ble_eq_true rfl) hlk (fun z1 => ⟨rfl, h⟩) (Nat.le_of_ble_eq_true rfl) (Nat.le_of_ble_eq_true rfl)

theorem dX5_base_0 : decode cX5_base 0 = .ok (.iload_n 1, 1) := by decide +kernel
theorem dX5_base_1 : decode cX5_base 1 = .ok (.iconst 0, 1) := by decide +kernel
theorem dX5_base_2 : decode cX5_base 2 = .ok (.bipush 7, 2) := by decide +kernel
theorem dX5_base_4 : decode cX5_base 4 = .ok (.invokestatic 41, 3) := by decide +kernel
theorem dX5_base_7 : decode cX5_base 7 = .ok (.ifCond .ne 13, 3) := by decide +kernel
theorem dX5_base_10 : decode cX5_base 10 = .ok (.new 45, 3) := by decide +kernel
theorem dX5_base_13 : decode cX5_base 13 = .ok (.dup, 1) := by decide +kernel
theorem dX5_base_14 : decode cX5_base 14 = .ok (.ldc 134, 2) := by decide +kernel
theorem dX5_base_16 : decode cX5_base 16 = .ok (.invokespecial 49, 3) := by decide +kernel
theorem dX5_base_19 : decode cX5_base 19 = .ok (.athrow, 1) := by decide +kernel
theorem dX5_base_20 : decode cX5_base 20 = .ok (.aload_n 0, 1) := by decide +kernel
theorem dX5_base_21 : decode cX5_base 21 = .ok (.getfield 19, 3) := by decide +kernel
theorem dX5_base_24 : decode cX5_base 24 = .ok (.getfield 90, 3) := by decide +kernel
theorem dX5_base_27 : decode cX5_base 27 = .ok (.getfield 146, 3) := by decide +kernel
theorem dX5_base_30 : decode cX5_base 30 = .ok (.iload_n 1, 1) := by decide +kernel
theorem dX5_base_31 : decode cX5_base 31 = .ok (.invokestatic 142, 3) := by decide +kernel
theorem dX5_base_34 : decode cX5_base 34 = .ok (.ireturn, 1) := by decide +kernel
def P_T_base (x1 : Int32) (v0 : TT) (X : String → Prop) (Q : Int32 → Prop) : Prop := P_T_isIn x1 0 7 (fun r1_ => (((¬ r1_ = 0 → P_T_at 8 x1 (L_dropValues (S_log (T_state v0))) (fun r6_ => (Q r6_))) ∧ (r1_ = 0 → X "java/lang/IllegalArgumentException"))))
set_option maxRecDepth 100000 in
theorem s_T_base {l : Launch} {D : zD} {B : Nat} {sa : Nat → Nat} (hfl : l.stackTraces = false) {z : Nat} {G : zG} {b0 : Nat} {x1 : Int32} {v0 : TT} {X : String → Prop} {Q : Int32 → Prop} (h0 : TA b0 v0 G) (h : P_T_base x1 v0 X Q) : zSx l D B sa yX5_base cX5_base 2 (some .int) 6 90 1 6 [.ref b0, .int x1] z G (zRi fun r z' G' => z = z' ∧ G = G' ∧ Q r) (fun E z' G' => G = G' ∧ X E) := by
  unfold P_T_base at h
  refine z_ofX (by decide +kernel) hfl [some (.ref b0), some (.int x1)] rfl (Nat.le_of_ble_eq_true rfl) (fun p e s m args below meth c O hret hlk hout => ?_)
  have O : zO p l s m args c D B sa 2 cX5_base RX5 := O
  refine z_iload_n O dX5_base_0 rfl rfl ?_
  refine z_iconst (v := 0) O dX5_base_1 (by decide) ?_
  refine z_bipush (v := 7) O dX5_base_2 (by decide) ?_
  refine z_callSi (As := [.int x1, .int 0, .int 7]) (st := []) O (s_T_isIn hfl h) wy_X5_isIn wl_RX5_41 dX5_base_4 rfl rfl ⟨Nat.le_of_ble_eq_true rfl, Nat.le_of_ble_eq_true rfl⟩ (Nat.le_of_ble_eq_true rfl) ⟨Nat.le_of_ble_eq_true rfl, Nat.le_of_ble_eq_true rfl⟩ (fun r1_ z2_ G3_ hq4_ => ?_)
  obtain ⟨rfl, rfl, h⟩ := hq4_
  refine z_if_ne (tgt := 20) O dX5_base_7 (by decide) (fun c5_ => ?_) (fun c5_ => ?_)
  · have h := h.1 c5_
    refine z_aload_n O dX5_base_20 rfl rfl ?_
    refine z_get (v := .ref (b0 + 3)) O wf_RX5_19 dX5_base_21 (T_obj h0) rfl ?_
    refine z_get (v := .ref ((b0 + 3) + 1)) O wf_RX5_90 dX5_base_24 (S_obj (T_state_of h0)) rfl ?_
    refine z_get (v := .ref (((b0 + 3) + 1) + 6)) O wf_RX5_146 dX5_base_27 (L_obj (S_log_of (T_state_of h0))) rfl ?_
    refine z_iload_n O dX5_base_30 rfl rfl ?_
    refine z_callSi (As := [.ref (((b0 + 3) + 1) + 6), .int x1]) (st := []) O (s_T_at hfl (L_dropValues_of (S_log_of (T_state_of h0))) h) wy_X5_at wl_RX5_142 dX5_base_31 rfl rfl ⟨Nat.le_of_ble_eq_true rfl, Nat.le_of_ble_eq_true rfl⟩ (Nat.le_of_ble_eq_true rfl) ⟨Nat.le_of_ble_eq_true rfl, Nat.le_of_ble_eq_true rfl⟩ (fun r6_ z7_ G8_ hq9_ => ?_)
    obtain ⟨rfl, rfl, h⟩ := hq9_
    exact z_iretx O hret hlk dX5_base_34 (Nat.le_of_ble_eq_true rfl) (Nat.le_of_ble_eq_true rfl) ⟨_, rfl, rfl, rfl, h⟩
  · have h := h.2 c5_
    exact z_throw O wt_RX5_45_49 (tx := "key is not 0 to 7") (is := 134) (by decide +kernel) dX5_base_10 dX5_base_13 dX5_base_14 dX5_base_16 dX5_base_19 hout (Nat.le_of_ble_eq_true rfl) (Nat.le_of_ble_eq_true rfl) (Nat.le_of_ble_eq_true rfl) (Nat.le_of_ble_eq_true rfl) hlk (fun z1 => ⟨rfl, h⟩) (Nat.le_of_ble_eq_true rfl) (Nat.le_of_ble_eq_true rfl)

theorem dX5_setting_0 : decode cX5_setting 0 = .ok (.iload_n 1, 1) := by decide +kernel
theorem dX5_setting_1 : decode cX5_setting 1 = .ok (.iconst 0, 1) := by decide +kernel
theorem dX5_setting_2 : decode cX5_setting 2 = .ok (.iconst 5, 1) := by decide +kernel
theorem dX5_setting_3 : decode cX5_setting 3 = .ok (.invokestatic 41, 3) := by decide +kernel
theorem dX5_setting_6 : decode cX5_setting 6 = .ok (.ifCond .ne 13, 3) := by decide +kernel
theorem dX5_setting_9 : decode cX5_setting 9 = .ok (.new 45, 3) := by decide +kernel
theorem dX5_setting_12 : decode cX5_setting 12 = .ok (.dup, 1) := by decide +kernel
theorem dX5_setting_13 : decode cX5_setting 13 = .ok (.ldc 105, 2) := by decide +kernel
theorem dX5_setting_15 : decode cX5_setting 15 = .ok (.invokespecial 49, 3) := by decide +kernel
theorem dX5_setting_18 : decode cX5_setting 18 = .ok (.athrow, 1) := by decide +kernel
theorem dX5_setting_19 : decode cX5_setting 19 = .ok (.aload_n 0, 1) := by decide +kernel
theorem dX5_setting_20 : decode cX5_setting 20 = .ok (.getfield 19, 3) := by decide +kernel
theorem dX5_setting_23 : decode cX5_setting 23 = .ok (.getfield 149, 3) := by decide +kernel
theorem dX5_setting_26 : decode cX5_setting 26 = .ok (.iload_n 1, 1) := by decide +kernel
theorem dX5_setting_27 : decode cX5_setting 27 = .ok (.invokestatic 142, 3) := by decide +kernel
theorem dX5_setting_30 : decode cX5_setting 30 = .ok (.ireturn, 1) := by decide +kernel
def P_T_setting (x1 : Int32) (v0 : TT) (X : String → Prop) (Q : Int32 → Prop) : Prop := P_T_isIn x1 0 5 (fun r1_ => (((¬ r1_ = 0 → P_T_at 6 x1 (S_settings (T_state v0)) (fun r6_ => (Q r6_))) ∧ (r1_ = 0 → X "java/lang/IllegalArgumentException"))))
set_option maxRecDepth 100000 in
theorem s_T_setting {l : Launch} {D : zD} {B : Nat} {sa : Nat → Nat} (hfl : l.stackTraces = false) {z : Nat} {G : zG} {b0 : Nat} {x1 : Int32} {v0 : TT} {X : String → Prop} {Q : Int32 → Prop} (h0 : TA b0 v0 G) (h : P_T_setting x1 v0 X Q) : zSx l D B sa yX5_setting cX5_setting 2 (some .int) 6 90 1 6 [.ref b0, .int x1] z G (zRi fun r z' G' => z = z' ∧ G = G' ∧ Q r) (fun E z' G' => G = G' ∧ X E) := by
  unfold P_T_setting at h
  refine z_ofX (by decide +kernel) hfl [some (.ref b0), some (.int x1)] rfl (Nat.le_of_ble_eq_true rfl) (fun p e s m args below meth c O hret hlk hout => ?_)
  have O : zO p l s m args c D B sa 2 cX5_setting RX5 := O
  refine z_iload_n O dX5_setting_0 rfl rfl ?_
  refine z_iconst (v := 0) O dX5_setting_1 (by decide) ?_
  refine z_iconst (v := 5) O dX5_setting_2 (by decide) ?_
  refine z_callSi (As := [.int x1, .int 0, .int 5]) (st := []) O (s_T_isIn hfl h) wy_X5_isIn wl_RX5_41 dX5_setting_3 rfl rfl ⟨Nat.le_of_ble_eq_true rfl, Nat.le_of_ble_eq_true rfl⟩ (Nat.le_of_ble_eq_true rfl) ⟨Nat.le_of_ble_eq_true rfl, Nat.le_of_ble_eq_true rfl⟩ (fun r1_ z2_ G3_ hq4_ => ?_)
  obtain ⟨rfl, rfl, h⟩ := hq4_
  refine z_if_ne (tgt := 19) O dX5_setting_6 (by decide) (fun c5_ => ?_) (fun c5_ => ?_)
  · have h := h.1 c5_
    refine z_aload_n O dX5_setting_19 rfl rfl ?_
    refine z_get (v := .ref (b0 + 3)) O wf_RX5_19 dX5_setting_20 (T_obj h0) rfl ?_
    refine z_get (v := .ref ((b0 + 3) + 9)) O wf_RX5_149 dX5_setting_23 (S_obj (T_state_of h0)) rfl ?_
    refine z_iload_n O dX5_setting_26 rfl rfl ?_
    refine z_callSi (As := [.ref ((b0 + 3) + 9), .int x1]) (st := []) O (s_T_at hfl (S_settings_of (T_state_of h0)) h) wy_X5_at wl_RX5_142 dX5_setting_27 rfl rfl ⟨Nat.le_of_ble_eq_true rfl, Nat.le_of_ble_eq_true rfl⟩ (Nat.le_of_ble_eq_true rfl) ⟨Nat.le_of_ble_eq_true rfl, Nat.le_of_ble_eq_true rfl⟩ (fun r6_ z7_ G8_ hq9_ => ?_)
    obtain ⟨rfl, rfl, h⟩ := hq9_
    exact z_iretx O hret hlk dX5_setting_30 (Nat.le_of_ble_eq_true rfl) (Nat.le_of_ble_eq_true rfl) ⟨_, rfl, rfl, rfl, h⟩
  · have h := h.2 c5_
    exact z_throw O wt_RX5_45_49 (tx := "what is not 0 to 5") (is := 105) (by decide +kernel) dX5_setting_9 dX5_setting_12 dX5_setting_13 dX5_setting_15 dX5_setting_18 hout (Nat.le_of_ble_eq_true rfl) (Nat.le_of_ble_eq_true rfl) (Nat.le_of_ble_eq_true rfl) (Nat.le_of_ble_eq_true rfl) hlk (fun z1 => ⟨rfl, h⟩) (Nat.le_of_ble_eq_true rfl) (Nat.le_of_ble_eq_true rfl)

theorem dX5_act_0 : decode cX5_act 0 = .ok (.aload_n 0, 1) := by decide +kernel
theorem dX5_act_1 : decode cX5_act 1 = .ok (.getfield 19, 3) := by decide +kernel
theorem dX5_act_4 : decode cX5_act 4 = .ok (.iload_n 1, 1) := by decide +kernel
theorem dX5_act_5 : decode cX5_act 5 = .ok (.iload_n 2, 1) := by decide +kernel
theorem dX5_act_6 : decode cX5_act 6 = .ok (.iload_n 3, 1) := by decide +kernel
theorem dX5_act_7 : decode cX5_act 7 = .ok (.iload 4, 2) := by decide +kernel
theorem dX5_act_9 : decode cX5_act 9 = .ok (.invokevirtual 263, 3) := by decide +kernel
theorem dX5_act_12 : decode cX5_act 12 = .ok (.istore 5, 2) := by decide +kernel
theorem dX5_act_14 : decode cX5_act 14 = .ok (.iload 5, 2) := by decide +kernel
theorem dX5_act_16 : decode cX5_act 16 = .ok (.iconst 1, 1) := by decide +kernel
theorem dX5_act_17 : decode cX5_act 17 = .ok (.if_icmp .ne 13, 3) := by decide +kernel
theorem dX5_act_20 : decode cX5_act 20 = .ok (.new 100, 3) := by decide +kernel
theorem dX5_act_23 : decode cX5_act 23 = .ok (.dup, 1) := by decide +kernel
theorem dX5_act_24 : decode cX5_act 24 = .ok (.ldc 126, 2) := by decide +kernel
theorem dX5_act_26 : decode cX5_act 26 = .ok (.invokespecial 104, 3) := by decide +kernel
theorem dX5_act_29 : decode cX5_act 29 = .ok (.athrow, 1) := by decide +kernel
theorem dX5_act_30 : decode cX5_act 30 = .ok (.iload 5, 2) := by decide +kernel
theorem dX5_act_32 : decode cX5_act 32 = .ok (.iconst 2, 1) := by decide +kernel
theorem dX5_act_33 : decode cX5_act 33 = .ok (.if_icmp .ne 14, 3) := by decide +kernel
theorem dX5_act_36 : decode cX5_act 36 = .ok (.new 45, 3) := by decide +kernel
theorem dX5_act_39 : decode cX5_act 39 = .ok (.dup, 1) := by decide +kernel
theorem dX5_act_40 : decode cX5_act 40 = .ok (.ldc_w 266, 3) := by decide +kernel
theorem dX5_act_43 : decode cX5_act 43 = .ok (.invokespecial 49, 3) := by decide +kernel
theorem dX5_act_46 : decode cX5_act 46 = .ok (.athrow, 1) := by decide +kernel
theorem dX5_act_47 : decode cX5_act 47 = .ok (.iload 5, 2) := by decide +kernel
theorem dX5_act_49 : decode cX5_act 49 = .ok (.iconst 3, 1) := by decide +kernel
theorem dX5_act_50 : decode cX5_act 50 = .ok (.if_icmp .ne 14, 3) := by decide +kernel
theorem dX5_act_53 : decode cX5_act 53 = .ok (.new 56, 3) := by decide +kernel
theorem dX5_act_56 : decode cX5_act 56 = .ok (.dup, 1) := by decide +kernel
theorem dX5_act_57 : decode cX5_act 57 = .ok (.ldc_w 268, 3) := by decide +kernel
theorem dX5_act_60 : decode cX5_act 60 = .ok (.invokespecial 60, 3) := by decide +kernel
theorem dX5_act_63 : decode cX5_act 63 = .ok (.athrow, 1) := by decide +kernel
theorem dX5_act_64 : decode cX5_act 64 = .ok (.aload_n 0, 1) := by decide +kernel
theorem dX5_act_65 : decode cX5_act 65 = .ok (.getfield 29, 3) := by decide +kernel
theorem dX5_act_68 : decode cX5_act 68 = .ok (.aload_n 0, 1) := by decide +kernel
theorem dX5_act_69 : decode cX5_act 69 = .ok (.getfield 19, 3) := by decide +kernel
theorem dX5_act_72 : decode cX5_act 72 = .ok (.invokevirtual 270, 3) := by decide +kernel
theorem dX5_act_75 : decode cX5_act 75 = .ok (.aload_n 0, 1) := by decide +kernel
theorem dX5_act_76 : decode cX5_act 76 = .ok (.getfield 19, 3) := by decide +kernel
theorem dX5_act_79 : decode cX5_act 79 = .ok (.iload_n 1, 1) := by decide +kernel
theorem dX5_act_80 : decode cX5_act 80 = .ok (.iload_n 2, 1) := by decide +kernel
theorem dX5_act_81 : decode cX5_act 81 = .ok (.iload_n 3, 1) := by decide +kernel
theorem dX5_act_82 : decode cX5_act 82 = .ok (.iload 4, 2) := by decide +kernel
theorem dX5_act_84 : decode cX5_act 84 = .ok (.invokevirtual 273, 3) := by decide +kernel
theorem dX5_act_87 : decode cX5_act 87 = .ok (.ireturn, 1) := by decide +kernel
def P_T_act (x1 : Int32) (x2 : Int32) (x3 : Int32) (x4 : Int32) (v0 : TT) (X : String → TT → Prop) (Q : Int32 → TT → Prop) : Prop := P_S_faultOf x1 x2 x3 x4 (T_state v0) (fun r1_ => (((¬ r1_ = 1 → ((¬ r1_ = 2 → ((¬ r1_ = 3 → P_H_remember (T_history v0) (T_state v0) (fun v12_ => (∀ v17_, v17_ = (T_set_history v0 v12_) → (P_S_perform x1 x2 x3 x4 (T_state v17_) (fun r20_ v24_ => (∀ v29_, v29_ = (T_set_state v17_ v24_) → (Q r20_ v29_))))))) ∧ (r1_ = 3 → X "java/lang/IllegalStateException" v0))) ∧ (r1_ = 2 → X "java/lang/IllegalArgumentException" v0))) ∧ (r1_ = 1 → X "java/lang/IndexOutOfBoundsException" v0))))
set_option maxRecDepth 100000 in
theorem s_T_act {l : Launch} {D : zD} {B : Nat} {sa : Nat → Nat} (hfl : l.stackTraces = false) {z : Nat} {G : zG} {b0 : Nat} {x1 : Int32} {x2 : Int32} {x3 : Int32} {x4 : Int32} {v0 : TT} {X : String → TT → Prop} {Q : Int32 → TT → Prop} (h0 : TA b0 v0 G) (h : P_T_act x1 x2 x3 x4 v0 X Q) : zSx l D B sa yX5_act cX5_act 6 (some .int) 6 141 1 6 [.ref b0, .int x1, .int x2, .int x3, .int x4] z G (zRi fun r z' G' => z = z' ∧ ∃ w, TA b0 w G' ∧ Fr b0 475 G G' ∧ Q r w) (fun E z' G' => ∃ w, TA b0 w G' ∧ Fr b0 475 G G' ∧ X E w) := by
  unfold P_T_act at h
  refine z_ofX (by decide +kernel) hfl [some (.ref b0), some (.int x1), some (.int x2), some (.int x3), some (.int x4), none] rfl (Nat.le_of_ble_eq_true rfl) (fun p e s m args below meth c O hret hlk hout => ?_)
  have O : zO p l s m args c D B sa 6 cX5_act RX5 := O
  refine z_aload_n O dX5_act_0 rfl rfl ?_
  refine z_get (v := .ref (b0 + 3)) O wf_RX5_19 dX5_act_1 (T_obj h0) rfl ?_
  refine z_iload_n O dX5_act_4 rfl rfl ?_
  refine z_iload_n O dX5_act_5 rfl rfl ?_
  refine z_iload_n O dX5_act_6 rfl rfl ?_
  refine z_iload O dX5_act_7 rfl ?_
  refine z_callVi (As := [.int x1, .int x2, .int x3, .int x4]) (st := []) O (s_S_faultOf hfl (T_state_of h0) h) wy_X3_faultOf wl_RX5_263 dX5_act_9 rfl rfl (S_obj (T_state_of h0)) ⟨by decide, rfl⟩ ⟨Nat.le_of_ble_eq_true rfl, Nat.le_of_ble_eq_true rfl⟩ (Nat.le_of_ble_eq_true rfl) ⟨Nat.le_of_ble_eq_true rfl, Nat.le_of_ble_eq_true rfl⟩ (fun r1_ z2_ G3_ hq4_ => ?_)
  obtain ⟨rfl, rfl, h⟩ := hq4_
  refine z_istore (L' := [some (.ref b0), some (.int x1), some (.int x2), some (.int x3), some (.int x4), some (.int r1_)]) O dX5_act_12 (by decide) rfl ?_
  refine z_iload O dX5_act_14 rfl ?_
  refine z_iconst (v := 1) O dX5_act_16 (by decide) ?_
  refine z_icmp_ne (tgt := 30) O dX5_act_17 (by decide) (fun c5_ => ?_) (fun c5_ => ?_)
  · have h := h.1 c5_
    refine z_iload O dX5_act_30 rfl ?_
    refine z_iconst (v := 2) O dX5_act_32 (by decide) ?_
    refine z_icmp_ne (tgt := 47) O dX5_act_33 (by decide) (fun c6_ => ?_) (fun c6_ => ?_)
    · have h := h.1 c6_
      refine z_iload O dX5_act_47 rfl ?_
      refine z_iconst (v := 3) O dX5_act_49 (by decide) ?_
      refine z_icmp_ne (tgt := 64) O dX5_act_50 (by decide) (fun c7_ => ?_) (fun c7_ => ?_)
      · have h := h.1 c7_
        refine z_aload_n O dX5_act_64 rfl rfl ?_
        refine z_get (v := .ref (b0 + 55)) O wf_RX5_29 dX5_act_65 (T_obj h0) rfl ?_
        refine z_aload_n O dX5_act_68 rfl rfl ?_
        refine z_get (v := .ref (b0 + 3)) O wf_RX5_19 dX5_act_69 (T_obj h0) rfl ?_
        refine z_callVv (As := [.ref (b0 + 3)]) (st := []) O (s_H_remember hfl (T_history_of h0) (T_state_of h0) (by omega) h) wy_X0_remember wl_RX5_270 dX5_act_72 rfl rfl (H_obj (T_history_of h0)) ⟨by decide, rfl⟩ ⟨Nat.le_of_ble_eq_true rfl, Nat.le_of_ble_eq_true rfl⟩ (Nat.le_of_ble_eq_true rfl) ⟨Nat.le_of_ble_eq_true rfl, Nat.le_of_ble_eq_true rfl⟩ (fun z9_ G10_ hq11_ => ?_)
        obtain ⟨rfl, v12_, k13_, f14_, h⟩ := hq11_
        have k15_ := T_put_history h0 k13_ f14_
        have f16_ : Fr b0 475 G G10_ := Fr.mono f14_ (by omega) (by omega)
        obtain ⟨v17_, ev17_⟩ : ∃ w, w = (T_set_history v0 v12_) := ⟨_, rfl⟩
        have h := h v17_ ev17_
        have k18_ : TA b0 v17_ G10_ := by rw [ev17_]; exact k15_
        have F19_ : Fr b0 475 G G10_ := Fr.trans Fr.rf f16_
        refine z_aload_n O dX5_act_75 rfl rfl ?_
        refine z_get (v := .ref (b0 + 3)) O wf_RX5_19 dX5_act_76 (T_obj k18_) rfl ?_
        refine z_iload_n O dX5_act_79 rfl rfl ?_
        refine z_iload_n O dX5_act_80 rfl rfl ?_
        refine z_iload_n O dX5_act_81 rfl rfl ?_
        refine z_iload O dX5_act_82 rfl ?_
        refine z_callVi (As := [.int x1, .int x2, .int x3, .int x4]) (st := []) O (s_S_perform hfl (T_state_of k18_) h) wy_X3_perform wl_RX5_273 dX5_act_84 rfl rfl (S_obj (T_state_of k18_)) ⟨by decide, rfl⟩ ⟨Nat.le_of_ble_eq_true rfl, Nat.le_of_ble_eq_true rfl⟩ (Nat.le_of_ble_eq_true rfl) ⟨Nat.le_of_ble_eq_true rfl, Nat.le_of_ble_eq_true rfl⟩ (fun r20_ z21_ G22_ hq23_ => ?_)
        obtain ⟨rfl, v24_, k25_, f26_, h⟩ := hq23_
        have k27_ := T_put_state k18_ k25_ f26_
        have f28_ : Fr b0 475 G10_ G22_ := Fr.mono f26_ (by omega) (by omega)
        obtain ⟨v29_, ev29_⟩ : ∃ w, w = (T_set_state v17_ v24_) := ⟨_, rfl⟩
        have h := h v29_ ev29_
        have k30_ : TA b0 v29_ G22_ := by rw [ev29_]; exact k27_
        have F31_ : Fr b0 475 G G22_ := Fr.trans F19_ f28_
        exact z_iretx O hret hlk dX5_act_87 (Nat.le_of_ble_eq_true rfl) (Nat.le_of_ble_eq_true rfl) ⟨_, rfl, rfl, _, k30_, F31_, h⟩
      · have h := h.2 c7_
        exact z_throwW O wt_RX5_56_60 (tx := "the log does not allow it now") (is := 268) (by decide +kernel) dX5_act_53 dX5_act_56 dX5_act_57 dX5_act_60 dX5_act_63 hout (Nat.le_of_ble_eq_true rfl) (Nat.le_of_ble_eq_true rfl) (Nat.le_of_ble_eq_true rfl) (Nat.le_of_ble_eq_true rfl) hlk (fun z1 => ⟨_, h0, Fr.rf, h⟩) (Nat.le_of_ble_eq_true rfl) (Nat.le_of_ble_eq_true rfl)
    · have h := h.2 c6_
      exact z_throwW O wt_RX5_45_49 (tx := "an argument is out of its range") (is := 266) (by decide +kernel) dX5_act_36 dX5_act_39 dX5_act_40 dX5_act_43 dX5_act_46 hout (Nat.le_of_ble_eq_true rfl) (Nat.le_of_ble_eq_true rfl) (Nat.le_of_ble_eq_true rfl) (Nat.le_of_ble_eq_true rfl) hlk (fun z1 => ⟨_, h0, Fr.rf, h⟩) (Nat.le_of_ble_eq_true rfl) (Nat.le_of_ble_eq_true rfl)
  · have h := h.2 c5_
    exact z_throw O wt_RX5_100_104 (tx := "there is no such reader") (is := 126) (by decide +kernel) dX5_act_20 dX5_act_23 dX5_act_24 dX5_act_26 dX5_act_29 hout (Nat.le_of_ble_eq_true rfl) (Nat.le_of_ble_eq_true rfl) (Nat.le_of_ble_eq_true rfl) (Nat.le_of_ble_eq_true rfl) hlk (fun z1 => ⟨_, h0, Fr.rf, h⟩) (Nat.le_of_ble_eq_true rfl) (Nat.le_of_ble_eq_true rfl)

theorem dX5_write_0 : decode cX5_write 0 = .ok (.aload_n 0, 1) := by decide +kernel
theorem dX5_write_1 : decode cX5_write 1 = .ok (.iconst 0, 1) := by decide +kernel
theorem dX5_write_2 : decode cX5_write 2 = .ok (.iload_n 1, 1) := by decide +kernel
theorem dX5_write_3 : decode cX5_write 3 = .ok (.iload_n 2, 1) := by decide +kernel
theorem dX5_write_4 : decode cX5_write 4 = .ok (.iload_n 3, 1) := by decide +kernel
theorem dX5_write_5 : decode cX5_write 5 = .ok (.invokevirtual 152, 3) := by decide +kernel
theorem dX5_write_8 : decode cX5_write 8 = .ok (.ireturn, 1) := by decide +kernel
def P_T_write (x1 : Int32) (x2 : Int32) (x3 : Int32) (v0 : TT) (X : String → TT → Prop) (Q : Int32 → TT → Prop) : Prop := P_T_act 0 x1 x2 x3 v0 X (fun r1_ v5_ => (Q r1_ v5_))
set_option maxRecDepth 100000 in
theorem s_T_write {l : Launch} {D : zD} {B : Nat} {sa : Nat → Nat} (hfl : l.stackTraces = false) {z : Nat} {G : zG} {b0 : Nat} {x1 : Int32} {x2 : Int32} {x3 : Int32} {v0 : TT} {X : String → TT → Prop} {Q : Int32 → TT → Prop} (h0 : TA b0 v0 G) (h : P_T_write x1 x2 x3 v0 X Q) : zSx l D B sa yX5_write cX5_write 4 (some .int) 7 166 1 6 [.ref b0, .int x1, .int x2, .int x3] z G (zRi fun r z' G' => z = z' ∧ ∃ w, TA b0 w G' ∧ Fr b0 475 G G' ∧ Q r w) (fun E z' G' => ∃ w, TA b0 w G' ∧ Fr b0 475 G G' ∧ X E w) := by
  unfold P_T_write at h
  refine z_ofX (by decide +kernel) hfl [some (.ref b0), some (.int x1), some (.int x2), some (.int x3)] rfl (Nat.le_of_ble_eq_true rfl) (fun p e s m args below meth c O hret hlk hout => ?_)
  have O : zO p l s m args c D B sa 4 cX5_write RX5 := O
  refine z_aload_n O dX5_write_0 rfl rfl ?_
  refine z_iconst (v := 0) O dX5_write_1 (by decide) ?_
  refine z_iload_n O dX5_write_2 rfl rfl ?_
  refine z_iload_n O dX5_write_3 rfl rfl ?_
  refine z_iload_n O dX5_write_4 rfl rfl ?_
  refine z_callXi (As := [.int 0, .int x1, .int x2, .int x3]) (st := []) O (s_T_act hfl h0 h) wy_X5_act wl_RX5_152 dX5_write_5 rfl rfl (T_obj h0) ⟨by decide, rfl⟩ ⟨Nat.le_of_ble_eq_true rfl, Nat.le_of_ble_eq_true rfl⟩ (Nat.le_of_ble_eq_true rfl) ⟨Nat.le_of_ble_eq_true rfl, Nat.le_of_ble_eq_true rfl⟩ (fun E z1 G1 hx => z_outx O hout hlk (Nat.le_of_ble_eq_true rfl) (Nat.le_of_ble_eq_true rfl) (by obtain ⟨w, k1, k2, k3⟩ := hx; exact ⟨w, k1, k2, k3⟩)) (fun r1_ z2_ G3_ hq4_ => ?_)
  obtain ⟨rfl, v5_, k6_, f7_, h⟩ := hq4_
  have F8_ : Fr b0 475 G G3_ := Fr.trans Fr.rf f7_
  exact z_iretx O hret hlk dX5_write_8 (Nat.le_of_ble_eq_true rfl) (Nat.le_of_ble_eq_true rfl) ⟨_, rfl, rfl, _, k6_, F8_, h⟩

theorem dX5_join_0 : decode cX5_join 0 = .ok (.aload_n 0, 1) := by decide +kernel
theorem dX5_join_1 : decode cX5_join 1 = .ok (.iconst 1, 1) := by decide +kernel
theorem dX5_join_2 : decode cX5_join 2 = .ok (.iload_n 1, 1) := by decide +kernel
theorem dX5_join_3 : decode cX5_join 3 = .ok (.iload_n 2, 1) := by decide +kernel
theorem dX5_join_4 : decode cX5_join 4 = .ok (.iload_n 3, 1) := by decide +kernel
theorem dX5_join_5 : decode cX5_join 5 = .ok (.invokestatic 156, 3) := by decide +kernel
theorem dX5_join_8 : decode cX5_join 8 = .ok (.invokevirtual 152, 3) := by decide +kernel
theorem dX5_join_11 : decode cX5_join 11 = .ok (.ireturn, 1) := by decide +kernel
def P_T_join (x1 : Int32) (x2 : Int32) (x3 : Int32) (v0 : TT) (X : String → TT → Prop) (Q : Int32 → TT → Prop) : Prop := P_T_asNumber x3 (fun r1_ => (P_T_act 1 x1 x2 r1_ v0 X (fun r5_ v9_ => (Q r5_ v9_))))
set_option maxRecDepth 100000 in
theorem s_T_join {l : Launch} {D : zD} {B : Nat} {sa : Nat → Nat} (hfl : l.stackTraces = false) {z : Nat} {G : zG} {b0 : Nat} {x1 : Int32} {x2 : Int32} {x3 : Int32} {v0 : TT} {X : String → TT → Prop} {Q : Int32 → TT → Prop} (h0 : TA b0 v0 G) (h : P_T_join x1 x2 x3 v0 X Q) : zSx l D B sa yX5_join cX5_join 4 (some .int) 7 166 1 6 [.ref b0, .int x1, .int x2, .int x3] z G (zRi fun r z' G' => z = z' ∧ ∃ w, TA b0 w G' ∧ Fr b0 475 G G' ∧ Q r w) (fun E z' G' => ∃ w, TA b0 w G' ∧ Fr b0 475 G G' ∧ X E w) := by
  unfold P_T_join at h
  refine z_ofX (by decide +kernel) hfl [some (.ref b0), some (.int x1), some (.int x2), some (.int x3)] rfl (Nat.le_of_ble_eq_true rfl) (fun p e s m args below meth c O hret hlk hout => ?_)
  have O : zO p l s m args c D B sa 4 cX5_join RX5 := O
  refine z_aload_n O dX5_join_0 rfl rfl ?_
  refine z_iconst (v := 1) O dX5_join_1 (by decide) ?_
  refine z_iload_n O dX5_join_2 rfl rfl ?_
  refine z_iload_n O dX5_join_3 rfl rfl ?_
  refine z_iload_n O dX5_join_4 rfl rfl ?_
  refine z_callSi (As := [.int x3]) (st := [.int x2, .int x1, .int 1, .ref b0]) O (s_T_asNumber hfl h) wy_X5_asNumber wl_RX5_156 dX5_join_5 rfl rfl ⟨Nat.le_of_ble_eq_true rfl, Nat.le_of_ble_eq_true rfl⟩ (Nat.le_of_ble_eq_true rfl) ⟨Nat.le_of_ble_eq_true rfl, Nat.le_of_ble_eq_true rfl⟩ (fun r1_ z2_ G3_ hq4_ => ?_)
  obtain ⟨rfl, rfl, h⟩ := hq4_
  refine z_callXi (As := [.int 1, .int x1, .int x2, .int r1_]) (st := []) O (s_T_act hfl h0 h) wy_X5_act wl_RX5_152 dX5_join_8 rfl rfl (T_obj h0) ⟨by decide, rfl⟩ ⟨Nat.le_of_ble_eq_true rfl, Nat.le_of_ble_eq_true rfl⟩ (Nat.le_of_ble_eq_true rfl) ⟨Nat.le_of_ble_eq_true rfl, Nat.le_of_ble_eq_true rfl⟩ (fun E z1 G1 hx => z_outx O hout hlk (Nat.le_of_ble_eq_true rfl) (Nat.le_of_ble_eq_true rfl) (by obtain ⟨w, k1, k2, k3⟩ := hx; exact ⟨w, k1, k2, k3⟩)) (fun r5_ z6_ G7_ hq8_ => ?_)
  obtain ⟨rfl, v9_, k10_, f11_, h⟩ := hq8_
  have F12_ : Fr b0 475 G G7_ := Fr.trans Fr.rf f11_
  exact z_iretx O hret hlk dX5_join_11 (Nat.le_of_ble_eq_true rfl) (Nat.le_of_ble_eq_true rfl) ⟨_, rfl, rfl, _, k10_, F12_, h⟩

theorem dX5_read_0 : decode cX5_read 0 = .ok (.aload_n 0, 1) := by decide +kernel
theorem dX5_read_1 : decode cX5_read 1 = .ok (.iconst 2, 1) := by decide +kernel
theorem dX5_read_2 : decode cX5_read 2 = .ok (.iload_n 1, 1) := by decide +kernel
theorem dX5_read_3 : decode cX5_read 3 = .ok (.iload_n 2, 1) := by decide +kernel
theorem dX5_read_4 : decode cX5_read 4 = .ok (.iconst 0, 1) := by decide +kernel
theorem dX5_read_5 : decode cX5_read 5 = .ok (.invokevirtual 152, 3) := by decide +kernel
theorem dX5_read_8 : decode cX5_read 8 = .ok (.ireturn, 1) := by decide +kernel
def P_T_read (x1 : Int32) (x2 : Int32) (v0 : TT) (X : String → TT → Prop) (Q : Int32 → TT → Prop) : Prop := P_T_act 2 x1 x2 0 v0 X (fun r1_ v5_ => (Q r1_ v5_))
set_option maxRecDepth 100000 in
theorem s_T_read {l : Launch} {D : zD} {B : Nat} {sa : Nat → Nat} (hfl : l.stackTraces = false) {z : Nat} {G : zG} {b0 : Nat} {x1 : Int32} {x2 : Int32} {v0 : TT} {X : String → TT → Prop} {Q : Int32 → TT → Prop} (h0 : TA b0 v0 G) (h : P_T_read x1 x2 v0 X Q) : zSx l D B sa yX5_read cX5_read 3 (some .int) 7 166 1 6 [.ref b0, .int x1, .int x2] z G (zRi fun r z' G' => z = z' ∧ ∃ w, TA b0 w G' ∧ Fr b0 475 G G' ∧ Q r w) (fun E z' G' => ∃ w, TA b0 w G' ∧ Fr b0 475 G G' ∧ X E w) := by
  unfold P_T_read at h
  refine z_ofX (by decide +kernel) hfl [some (.ref b0), some (.int x1), some (.int x2)] rfl (Nat.le_of_ble_eq_true rfl) (fun p e s m args below meth c O hret hlk hout => ?_)
  have O : zO p l s m args c D B sa 3 cX5_read RX5 := O
  refine z_aload_n O dX5_read_0 rfl rfl ?_
  refine z_iconst (v := 2) O dX5_read_1 (by decide) ?_
  refine z_iload_n O dX5_read_2 rfl rfl ?_
  refine z_iload_n O dX5_read_3 rfl rfl ?_
  refine z_iconst (v := 0) O dX5_read_4 (by decide) ?_
  refine z_callXi (As := [.int 2, .int x1, .int x2, .int 0]) (st := []) O (s_T_act hfl h0 h) wy_X5_act wl_RX5_152 dX5_read_5 rfl rfl (T_obj h0) ⟨by decide, rfl⟩ ⟨Nat.le_of_ble_eq_true rfl, Nat.le_of_ble_eq_true rfl⟩ (Nat.le_of_ble_eq_true rfl) ⟨Nat.le_of_ble_eq_true rfl, Nat.le_of_ble_eq_true rfl⟩ (fun E z1 G1 hx => z_outx O hout hlk (Nat.le_of_ble_eq_true rfl) (Nat.le_of_ble_eq_true rfl) (by obtain ⟨w, k1, k2, k3⟩ := hx; exact ⟨w, k1, k2, k3⟩)) (fun r1_ z2_ G3_ hq4_ => ?_)
  obtain ⟨rfl, v5_, k6_, f7_, h⟩ := hq4_
  have F8_ : Fr b0 475 G G3_ := Fr.trans Fr.rf f7_
  exact z_iretx O hret hlk dX5_read_8 (Nat.le_of_ble_eq_true rfl) (Nat.le_of_ble_eq_true rfl) ⟨_, rfl, rfl, _, k6_, F8_, h⟩

theorem dX5_leave_0 : decode cX5_leave 0 = .ok (.aload_n 0, 1) := by decide +kernel
theorem dX5_leave_1 : decode cX5_leave 1 = .ok (.iconst 3, 1) := by decide +kernel
theorem dX5_leave_2 : decode cX5_leave 2 = .ok (.iload_n 1, 1) := by decide +kernel
theorem dX5_leave_3 : decode cX5_leave 3 = .ok (.iconst 0, 1) := by decide +kernel
theorem dX5_leave_4 : decode cX5_leave 4 = .ok (.iconst 0, 1) := by decide +kernel
theorem dX5_leave_5 : decode cX5_leave 5 = .ok (.invokevirtual 152, 3) := by decide +kernel
theorem dX5_leave_8 : decode cX5_leave 8 = .ok (.ireturn, 1) := by decide +kernel
def P_T_leave (x1 : Int32) (v0 : TT) (X : String → TT → Prop) (Q : Int32 → TT → Prop) : Prop := P_T_act 3 x1 0 0 v0 X (fun r1_ v5_ => (Q r1_ v5_))
set_option maxRecDepth 100000 in
theorem s_T_leave {l : Launch} {D : zD} {B : Nat} {sa : Nat → Nat} (hfl : l.stackTraces = false) {z : Nat} {G : zG} {b0 : Nat} {x1 : Int32} {v0 : TT} {X : String → TT → Prop} {Q : Int32 → TT → Prop} (h0 : TA b0 v0 G) (h : P_T_leave x1 v0 X Q) : zSx l D B sa yX5_leave cX5_leave 2 (some .int) 7 166 1 6 [.ref b0, .int x1] z G (zRi fun r z' G' => z = z' ∧ ∃ w, TA b0 w G' ∧ Fr b0 475 G G' ∧ Q r w) (fun E z' G' => ∃ w, TA b0 w G' ∧ Fr b0 475 G G' ∧ X E w) := by
  unfold P_T_leave at h
  refine z_ofX (by decide +kernel) hfl [some (.ref b0), some (.int x1)] rfl (Nat.le_of_ble_eq_true rfl) (fun p e s m args below meth c O hret hlk hout => ?_)
  have O : zO p l s m args c D B sa 2 cX5_leave RX5 := O
  refine z_aload_n O dX5_leave_0 rfl rfl ?_
  refine z_iconst (v := 3) O dX5_leave_1 (by decide) ?_
  refine z_iload_n O dX5_leave_2 rfl rfl ?_
  refine z_iconst (v := 0) O dX5_leave_3 (by decide) ?_
  refine z_iconst (v := 0) O dX5_leave_4 (by decide) ?_
  refine z_callXi (As := [.int 3, .int x1, .int 0, .int 0]) (st := []) O (s_T_act hfl h0 h) wy_X5_act wl_RX5_152 dX5_leave_5 rfl rfl (T_obj h0) ⟨by decide, rfl⟩ ⟨Nat.le_of_ble_eq_true rfl, Nat.le_of_ble_eq_true rfl⟩ (Nat.le_of_ble_eq_true rfl) ⟨Nat.le_of_ble_eq_true rfl, Nat.le_of_ble_eq_true rfl⟩ (fun E z1 G1 hx => z_outx O hout hlk (Nat.le_of_ble_eq_true rfl) (Nat.le_of_ble_eq_true rfl) (by obtain ⟨w, k1, k2, k3⟩ := hx; exact ⟨w, k1, k2, k3⟩)) (fun r1_ z2_ G3_ hq4_ => ?_)
  obtain ⟨rfl, v5_, k6_, f7_, h⟩ := hq4_
  have F8_ : Fr b0 475 G G3_ := Fr.trans Fr.rf f7_
  exact z_iretx O hret hlk dX5_leave_8 (Nat.le_of_ble_eq_true rfl) (Nat.le_of_ble_eq_true rfl) ⟨_, rfl, rfl, _, k6_, F8_, h⟩

theorem dX5_hold_0 : decode cX5_hold 0 = .ok (.aload_n 0, 1) := by decide +kernel
theorem dX5_hold_1 : decode cX5_hold 1 = .ok (.iconst 4, 1) := by decide +kernel
theorem dX5_hold_2 : decode cX5_hold 2 = .ok (.iload_n 1, 1) := by decide +kernel
theorem dX5_hold_3 : decode cX5_hold 3 = .ok (.iload_n 2, 1) := by decide +kernel
theorem dX5_hold_4 : decode cX5_hold 4 = .ok (.invokestatic 156, 3) := by decide +kernel
theorem dX5_hold_7 : decode cX5_hold 7 = .ok (.iconst 0, 1) := by decide +kernel
theorem dX5_hold_8 : decode cX5_hold 8 = .ok (.invokevirtual 152, 3) := by decide +kernel
theorem dX5_hold_11 : decode cX5_hold 11 = .ok (.ireturn, 1) := by decide +kernel
def P_T_hold (x1 : Int32) (x2 : Int32) (v0 : TT) (X : String → TT → Prop) (Q : Int32 → TT → Prop) : Prop := P_T_asNumber x2 (fun r1_ => (P_T_act 4 x1 r1_ 0 v0 X (fun r5_ v9_ => (Q r5_ v9_))))
set_option maxRecDepth 100000 in
theorem s_T_hold {l : Launch} {D : zD} {B : Nat} {sa : Nat → Nat} (hfl : l.stackTraces = false) {z : Nat} {G : zG} {b0 : Nat} {x1 : Int32} {x2 : Int32} {v0 : TT} {X : String → TT → Prop} {Q : Int32 → TT → Prop} (h0 : TA b0 v0 G) (h : P_T_hold x1 x2 v0 X Q) : zSx l D B sa yX5_hold cX5_hold 3 (some .int) 7 166 1 6 [.ref b0, .int x1, .int x2] z G (zRi fun r z' G' => z = z' ∧ ∃ w, TA b0 w G' ∧ Fr b0 475 G G' ∧ Q r w) (fun E z' G' => ∃ w, TA b0 w G' ∧ Fr b0 475 G G' ∧ X E w) := by
  unfold P_T_hold at h
  refine z_ofX (by decide +kernel) hfl [some (.ref b0), some (.int x1), some (.int x2)] rfl (Nat.le_of_ble_eq_true rfl) (fun p e s m args below meth c O hret hlk hout => ?_)
  have O : zO p l s m args c D B sa 3 cX5_hold RX5 := O
  refine z_aload_n O dX5_hold_0 rfl rfl ?_
  refine z_iconst (v := 4) O dX5_hold_1 (by decide) ?_
  refine z_iload_n O dX5_hold_2 rfl rfl ?_
  refine z_iload_n O dX5_hold_3 rfl rfl ?_
  refine z_callSi (As := [.int x2]) (st := [.int x1, .int 4, .ref b0]) O (s_T_asNumber hfl h) wy_X5_asNumber wl_RX5_156 dX5_hold_4 rfl rfl ⟨Nat.le_of_ble_eq_true rfl, Nat.le_of_ble_eq_true rfl⟩ (Nat.le_of_ble_eq_true rfl) ⟨Nat.le_of_ble_eq_true rfl, Nat.le_of_ble_eq_true rfl⟩ (fun r1_ z2_ G3_ hq4_ => ?_)
  obtain ⟨rfl, rfl, h⟩ := hq4_
  refine z_iconst (v := 0) O dX5_hold_7 (by decide) ?_
  refine z_callXi (As := [.int 4, .int x1, .int r1_, .int 0]) (st := []) O (s_T_act hfl h0 h) wy_X5_act wl_RX5_152 dX5_hold_8 rfl rfl (T_obj h0) ⟨by decide, rfl⟩ ⟨Nat.le_of_ble_eq_true rfl, Nat.le_of_ble_eq_true rfl⟩ (Nat.le_of_ble_eq_true rfl) ⟨Nat.le_of_ble_eq_true rfl, Nat.le_of_ble_eq_true rfl⟩ (fun E z1 G1 hx => z_outx O hout hlk (Nat.le_of_ble_eq_true rfl) (Nat.le_of_ble_eq_true rfl) (by obtain ⟨w, k1, k2, k3⟩ := hx; exact ⟨w, k1, k2, k3⟩)) (fun r5_ z6_ G7_ hq8_ => ?_)
  obtain ⟨rfl, v9_, k10_, f11_, h⟩ := hq8_
  have F12_ : Fr b0 475 G G7_ := Fr.trans Fr.rf f11_
  exact z_iretx O hret hlk dX5_hold_11 (Nat.le_of_ble_eq_true rfl) (Nat.le_of_ble_eq_true rfl) ⟨_, rfl, rfl, _, k10_, F12_, h⟩

theorem dX5_set_0 : decode cX5_set 0 = .ok (.aload_n 0, 1) := by decide +kernel
theorem dX5_set_1 : decode cX5_set 1 = .ok (.iconst 5, 1) := by decide +kernel
theorem dX5_set_2 : decode cX5_set 2 = .ok (.iload_n 1, 1) := by decide +kernel
theorem dX5_set_3 : decode cX5_set 3 = .ok (.iload_n 2, 1) := by decide +kernel
theorem dX5_set_4 : decode cX5_set 4 = .ok (.iconst 0, 1) := by decide +kernel
theorem dX5_set_5 : decode cX5_set 5 = .ok (.invokevirtual 152, 3) := by decide +kernel
theorem dX5_set_8 : decode cX5_set 8 = .ok (.ireturn, 1) := by decide +kernel
def P_T_set (x1 : Int32) (x2 : Int32) (v0 : TT) (X : String → TT → Prop) (Q : Int32 → TT → Prop) : Prop := P_T_act 5 x1 x2 0 v0 X (fun r1_ v5_ => (Q r1_ v5_))
set_option maxRecDepth 100000 in
theorem s_T_set {l : Launch} {D : zD} {B : Nat} {sa : Nat → Nat} (hfl : l.stackTraces = false) {z : Nat} {G : zG} {b0 : Nat} {x1 : Int32} {x2 : Int32} {v0 : TT} {X : String → TT → Prop} {Q : Int32 → TT → Prop} (h0 : TA b0 v0 G) (h : P_T_set x1 x2 v0 X Q) : zSx l D B sa yX5_set cX5_set 3 (some .int) 7 166 1 6 [.ref b0, .int x1, .int x2] z G (zRi fun r z' G' => z = z' ∧ ∃ w, TA b0 w G' ∧ Fr b0 475 G G' ∧ Q r w) (fun E z' G' => ∃ w, TA b0 w G' ∧ Fr b0 475 G G' ∧ X E w) := by
  unfold P_T_set at h
  refine z_ofX (by decide +kernel) hfl [some (.ref b0), some (.int x1), some (.int x2)] rfl (Nat.le_of_ble_eq_true rfl) (fun p e s m args below meth c O hret hlk hout => ?_)
  have O : zO p l s m args c D B sa 3 cX5_set RX5 := O
  refine z_aload_n O dX5_set_0 rfl rfl ?_
  refine z_iconst (v := 5) O dX5_set_1 (by decide) ?_
  refine z_iload_n O dX5_set_2 rfl rfl ?_
  refine z_iload_n O dX5_set_3 rfl rfl ?_
  refine z_iconst (v := 0) O dX5_set_4 (by decide) ?_
  refine z_callXi (As := [.int 5, .int x1, .int x2, .int 0]) (st := []) O (s_T_act hfl h0 h) wy_X5_act wl_RX5_152 dX5_set_5 rfl rfl (T_obj h0) ⟨by decide, rfl⟩ ⟨Nat.le_of_ble_eq_true rfl, Nat.le_of_ble_eq_true rfl⟩ (Nat.le_of_ble_eq_true rfl) ⟨Nat.le_of_ble_eq_true rfl, Nat.le_of_ble_eq_true rfl⟩ (fun E z1 G1 hx => z_outx O hout hlk (Nat.le_of_ble_eq_true rfl) (Nat.le_of_ble_eq_true rfl) (by obtain ⟨w, k1, k2, k3⟩ := hx; exact ⟨w, k1, k2, k3⟩)) (fun r1_ z2_ G3_ hq4_ => ?_)
  obtain ⟨rfl, v5_, k6_, f7_, h⟩ := hq4_
  have F8_ : Fr b0 475 G G3_ := Fr.trans Fr.rf f7_
  exact z_iretx O hret hlk dX5_set_8 (Nat.le_of_ble_eq_true rfl) (Nat.le_of_ble_eq_true rfl) ⟨_, rfl, rfl, _, k6_, F8_, h⟩

theorem dX5_ticks_0 : decode cX5_ticks 0 = .ok (.aload_n 0, 1) := by decide +kernel
theorem dX5_ticks_1 : decode cX5_ticks 1 = .ok (.bipush 6, 2) := by decide +kernel
theorem dX5_ticks_3 : decode cX5_ticks 3 = .ok (.iload_n 1, 1) := by decide +kernel
theorem dX5_ticks_4 : decode cX5_ticks 4 = .ok (.iconst 0, 1) := by decide +kernel
theorem dX5_ticks_5 : decode cX5_ticks 5 = .ok (.iconst 0, 1) := by decide +kernel
theorem dX5_ticks_6 : decode cX5_ticks 6 = .ok (.invokevirtual 152, 3) := by decide +kernel
theorem dX5_ticks_9 : decode cX5_ticks 9 = .ok (.ireturn, 1) := by decide +kernel
def P_T_ticks (x1 : Int32) (v0 : TT) (X : String → TT → Prop) (Q : Int32 → TT → Prop) : Prop := P_T_act 6 x1 0 0 v0 X (fun r1_ v5_ => (Q r1_ v5_))
set_option maxRecDepth 100000 in
theorem s_T_ticks {l : Launch} {D : zD} {B : Nat} {sa : Nat → Nat} (hfl : l.stackTraces = false) {z : Nat} {G : zG} {b0 : Nat} {x1 : Int32} {v0 : TT} {X : String → TT → Prop} {Q : Int32 → TT → Prop} (h0 : TA b0 v0 G) (h : P_T_ticks x1 v0 X Q) : zSx l D B sa yX5_ticks cX5_ticks 2 (some .int) 7 166 1 6 [.ref b0, .int x1] z G (zRi fun r z' G' => z = z' ∧ ∃ w, TA b0 w G' ∧ Fr b0 475 G G' ∧ Q r w) (fun E z' G' => ∃ w, TA b0 w G' ∧ Fr b0 475 G G' ∧ X E w) := by
  unfold P_T_ticks at h
  refine z_ofX (by decide +kernel) hfl [some (.ref b0), some (.int x1)] rfl (Nat.le_of_ble_eq_true rfl) (fun p e s m args below meth c O hret hlk hout => ?_)
  have O : zO p l s m args c D B sa 2 cX5_ticks RX5 := O
  refine z_aload_n O dX5_ticks_0 rfl rfl ?_
  refine z_bipush (v := 6) O dX5_ticks_1 (by decide) ?_
  refine z_iload_n O dX5_ticks_3 rfl rfl ?_
  refine z_iconst (v := 0) O dX5_ticks_4 (by decide) ?_
  refine z_iconst (v := 0) O dX5_ticks_5 (by decide) ?_
  refine z_callXi (As := [.int 6, .int x1, .int 0, .int 0]) (st := []) O (s_T_act hfl h0 h) wy_X5_act wl_RX5_152 dX5_ticks_6 rfl rfl (T_obj h0) ⟨by decide, rfl⟩ ⟨Nat.le_of_ble_eq_true rfl, Nat.le_of_ble_eq_true rfl⟩ (Nat.le_of_ble_eq_true rfl) ⟨Nat.le_of_ble_eq_true rfl, Nat.le_of_ble_eq_true rfl⟩ (fun E z1 G1 hx => z_outx O hout hlk (Nat.le_of_ble_eq_true rfl) (Nat.le_of_ble_eq_true rfl) (by obtain ⟨w, k1, k2, k3⟩ := hx; exact ⟨w, k1, k2, k3⟩)) (fun r1_ z2_ G3_ hq4_ => ?_)
  obtain ⟨rfl, v5_, k6_, f7_, h⟩ := hq4_
  have F8_ : Fr b0 475 G G3_ := Fr.trans Fr.rf f7_
  exact z_iretx O hret hlk dX5_ticks_9 (Nat.le_of_ble_eq_true rfl) (Nat.le_of_ble_eq_true rfl) ⟨_, rfl, rfl, _, k6_, F8_, h⟩
