theorem dX3_firstStays_0 : decode cX3_firstStays 0 = .ok (.aload_n 0, 1) := by decide +kernel
theorem dX3_firstStays_1 : decode cX3_firstStays 1 = .ok (.getfield 12, 3) := by decide +kernel
theorem dX3_firstStays_4 : decode cX3_firstStays 4 = .ok (.invokevirtual 92, 3) := by decide +kernel
theorem dX3_firstStays_7 : decode cX3_firstStays 7 = .ok (.iconst 2, 1) := by decide +kernel
theorem dX3_firstStays_8 : decode cX3_firstStays 8 = .ok (.if_icmp .ge 5, 3) := by decide +kernel
theorem dX3_firstStays_11 : decode cX3_firstStays 11 = .ok (.iconst 1, 1) := by decide +kernel
theorem dX3_firstStays_12 : decode cX3_firstStays 12 = .ok (.ireturn, 1) := by decide +kernel
theorem dX3_firstStays_13 : decode cX3_firstStays 13 = .ok (.aload_n 0, 1) := by decide +kernel
theorem dX3_firstStays_14 : decode cX3_firstStays 14 = .ok (.getfield 12, 3) := by decide +kernel
theorem dX3_firstStays_17 : decode cX3_firstStays 17 = .ok (.iconst 0, 1) := by decide +kernel
theorem dX3_firstStays_18 : decode cX3_firstStays 18 = .ok (.invokevirtual 115, 3) := by decide +kernel
theorem dX3_firstStays_21 : decode cX3_firstStays 21 = .ok (.iconst 1, 1) := by decide +kernel
theorem dX3_firstStays_22 : decode cX3_firstStays 22 = .ok (.isub, 1) := by decide +kernel
theorem dX3_firstStays_23 : decode cX3_firstStays 23 = .ok (.istore_n 1, 1) := by decide +kernel
theorem dX3_firstStays_24 : decode cX3_firstStays 24 = .ok (.aload_n 0, 1) := by decide +kernel
theorem dX3_firstStays_25 : decode cX3_firstStays 25 = .ok (.iload_n 1, 1) := by decide +kernel
theorem dX3_firstStays_26 : decode cX3_firstStays 26 = .ok (.invokevirtual 122, 3) := by decide +kernel
theorem dX3_firstStays_29 : decode cX3_firstStays 29 = .ok (.ifCond .ne 5, 3) := by decide +kernel
theorem dX3_firstStays_32 : decode cX3_firstStays 32 = .ok (.iconst 2, 1) := by decide +kernel
theorem dX3_firstStays_33 : decode cX3_firstStays 33 = .ok (.ireturn, 1) := by decide +kernel
theorem dX3_firstStays_34 : decode cX3_firstStays 34 = .ok (.aload_n 0, 1) := by decide +kernel
theorem dX3_firstStays_35 : decode cX3_firstStays 35 = .ok (.iload_n 1, 1) := by decide +kernel
theorem dX3_firstStays_36 : decode cX3_firstStays 36 = .ok (.invokevirtual 102, 3) := by decide +kernel
theorem dX3_firstStays_39 : decode cX3_firstStays 39 = .ok (.ifCond .le 7, 3) := by decide +kernel
theorem dX3_firstStays_42 : decode cX3_firstStays 42 = .ok (.iconst 3, 1) := by decide +kernel
theorem dX3_firstStays_43 : decode cX3_firstStays 43 = .ok (.goto 4, 3) := by decide +kernel
theorem dX3_firstStays_46 : decode cX3_firstStays 46 = .ok (.iconst 0, 1) := by decide +kernel
theorem dX3_firstStays_47 : decode cX3_firstStays 47 = .ok (.ireturn, 1) := by decide +kernel
def P_S_firstStays (v0 : ST) (Q : Int32 → Prop) : Prop := P_L_segments (S_log v0) (fun r1_ => (((2 ≤ r1_ → P_L_endOf 0 (S_log v0) (fun r6_ => (P_S_isDue (r6_ - 1) v0 (fun r10_ => (((¬ r10_ = 0 → P_S_holdersUpTo (r6_ - 1) v0 (fun r15_ => (((r15_ ≤ 0 → Q 0) ∧ (¬ r15_ ≤ 0 → Q 3))))) ∧ (r10_ = 0 → Q 2))))))) ∧ (¬ 2 ≤ r1_ → Q 1))))
set_option maxRecDepth 100000 in
theorem s_S_firstStays {l : Launch} {D : zD} {B : Nat} {sa : Nat → Nat} (hfl : l.stackTraces = false) {z : Nat} {G : zG} {b0 : Nat} {v0 : ST} {Q : Int32 → Prop} (h0 : SA b0 v0 G) (h : P_S_firstStays v0 Q) : zSp l D B sa yX3_firstStays cX3_firstStays 2 (some .int) 2 44 0 0 [.ref b0] z G (zRi fun r z' G' => z = z' ∧ G = G' ∧ Q r) := by
  unfold P_S_firstStays at h
  refine z_ofW (by decide +kernel) hfl [some (.ref b0), none] rfl (Nat.le_of_ble_eq_true rfl) (fun p e s m args below meth c O hret hlk hnm => ?_)
  have O : zO p l s m args c D B sa 2 cX3_firstStays RX3 := O
  refine z_aload_n O dX3_firstStays_0 rfl rfl ?_
  refine z_get (v := .ref (b0 + 1)) O wf_RX3_12 dX3_firstStays_1 (S_obj h0) rfl ?_
  refine z_callVi (As := []) (st := []) O (s_L_segments hfl (S_log_of h0) h) wy_X1_segments wl_RX3_92 dX3_firstStays_4 rfl rfl (L_obj (S_log_of h0)) ⟨by decide, rfl⟩ ⟨Nat.le_of_ble_eq_true rfl, Nat.le_of_ble_eq_true rfl⟩ (Nat.le_of_ble_eq_true rfl) ⟨Nat.le_of_ble_eq_true rfl, Nat.le_of_ble_eq_true rfl⟩ (fun r1_ z2_ G3_ hq4_ => ?_)
  obtain ⟨rfl, rfl, h⟩ := hq4_
  refine z_iconst (v := 2) O dX3_firstStays_7 (by decide) ?_
  refine z_icmp_ge (tgt := 13) O dX3_firstStays_8 (by decide) (fun c5_ => ?_) (fun c5_ => ?_)
  · have h := h.1 c5_
    refine z_aload_n O dX3_firstStays_13 rfl rfl ?_
    refine z_get (v := .ref (b0 + 1)) O wf_RX3_12 dX3_firstStays_14 (S_obj h0) rfl ?_
    refine z_iconst (v := 0) O dX3_firstStays_17 (by decide) ?_
    refine z_callVi (As := [.int 0]) (st := []) O (s_L_endOf hfl (S_log_of h0) h) wy_X1_endOf wl_RX3_115 dX3_firstStays_18 rfl rfl (L_obj (S_log_of h0)) ⟨by decide, rfl⟩ ⟨Nat.le_of_ble_eq_true rfl, Nat.le_of_ble_eq_true rfl⟩ (Nat.le_of_ble_eq_true rfl) ⟨Nat.le_of_ble_eq_true rfl, Nat.le_of_ble_eq_true rfl⟩ (fun r6_ z7_ G8_ hq9_ => ?_)
    obtain ⟨rfl, rfl, h⟩ := hq9_
    refine z_iconst (v := 1) O dX3_firstStays_21 (by decide) ?_
    refine z_isub O dX3_firstStays_22 ?_
    refine z_istore_n (L' := [some (.ref b0), some (.int (r6_ - 1))]) O dX3_firstStays_23 rfl (by decide) rfl ?_
    refine z_aload_n O dX3_firstStays_24 rfl rfl ?_
    refine z_iload_n O dX3_firstStays_25 rfl rfl ?_
    refine z_callVi (As := [.int (r6_ - 1)]) (st := []) O (s_S_isDue hfl h0 h) wy_X3_isDue wl_RX3_122 dX3_firstStays_26 rfl rfl (S_obj h0) ⟨by decide, rfl⟩ ⟨Nat.le_of_ble_eq_true rfl, Nat.le_of_ble_eq_true rfl⟩ (Nat.le_of_ble_eq_true rfl) ⟨Nat.le_of_ble_eq_true rfl, Nat.le_of_ble_eq_true rfl⟩ (fun r10_ z11_ G12_ hq13_ => ?_)
    obtain ⟨rfl, rfl, h⟩ := hq13_
    refine z_if_ne (tgt := 34) O dX3_firstStays_29 (by decide) (fun c14_ => ?_) (fun c14_ => ?_)
    · have h := h.1 c14_
      refine z_aload_n O dX3_firstStays_34 rfl rfl ?_
      refine z_iload_n O dX3_firstStays_35 rfl rfl ?_
      refine z_callVi (As := [.int (r6_ - 1)]) (st := []) O (s_S_holdersUpTo hfl h0 h) wy_X3_holdersUpTo wl_RX3_102 dX3_firstStays_36 rfl rfl (S_obj h0) ⟨by decide, rfl⟩ ⟨Nat.le_of_ble_eq_true rfl, Nat.le_of_ble_eq_true rfl⟩ (Nat.le_of_ble_eq_true rfl) ⟨Nat.le_of_ble_eq_true rfl, Nat.le_of_ble_eq_true rfl⟩ (fun r15_ z16_ G17_ hq18_ => ?_)
      obtain ⟨rfl, rfl, h⟩ := hq18_
      refine z_if_le (tgt := 46) O dX3_firstStays_39 (by decide) (fun c19_ => ?_) (fun c19_ => ?_)
      · have h := h.1 c19_
        refine z_iconst (v := 0) O dX3_firstStays_46 (by decide) ?_
        exact z_iret O hret hlk dX3_firstStays_47 (Nat.le_of_ble_eq_true rfl) (Nat.le_of_ble_eq_true rfl) ⟨_, rfl, rfl, rfl, h⟩
      · have h := h.2 c19_
        refine z_iconst (v := 3) O dX3_firstStays_42 (by decide) ?_
        refine z_goto (tgt := 47) O dX3_firstStays_43 (by decide) ?_
        exact z_iret O hret hlk dX3_firstStays_47 (Nat.le_of_ble_eq_true rfl) (Nat.le_of_ble_eq_true rfl) ⟨_, rfl, rfl, rfl, h⟩
    · have h := h.2 c14_
      refine z_iconst (v := 2) O dX3_firstStays_32 (by decide) ?_
      exact z_iret O hret hlk dX3_firstStays_33 (Nat.le_of_ble_eq_true rfl) (Nat.le_of_ble_eq_true rfl) ⟨_, rfl, rfl, rfl, h⟩
  · have h := h.2 c5_
    refine z_iconst (v := 1) O dX3_firstStays_11 (by decide) ?_
    exact z_iret O hret hlk dX3_firstStays_12 (Nat.le_of_ble_eq_true rfl) (Nat.le_of_ble_eq_true rfl) ⟨_, rfl, rfl, rfl, h⟩

theorem dX5_isIn_0 : decode cX5_isIn 0 = .ok (.iload_n 0, 1) := by decide +kernel
theorem dX5_isIn_1 : decode cX5_isIn 1 = .ok (.iload_n 1, 1) := by decide +kernel
theorem dX5_isIn_2 : decode cX5_isIn 2 = .ok (.if_icmp .lt 12, 3) := by decide +kernel
theorem dX5_isIn_5 : decode cX5_isIn 5 = .ok (.iload_n 0, 1) := by decide +kernel
theorem dX5_isIn_6 : decode cX5_isIn 6 = .ok (.iload_n 2, 1) := by decide +kernel
theorem dX5_isIn_7 : decode cX5_isIn 7 = .ok (.if_icmp .gt 7, 3) := by decide +kernel
theorem dX5_isIn_10 : decode cX5_isIn 10 = .ok (.iconst 1, 1) := by decide +kernel
theorem dX5_isIn_11 : decode cX5_isIn 11 = .ok (.goto 4, 3) := by decide +kernel
theorem dX5_isIn_14 : decode cX5_isIn 14 = .ok (.iconst 0, 1) := by decide +kernel
theorem dX5_isIn_15 : decode cX5_isIn 15 = .ok (.ireturn, 1) := by decide +kernel
def P_T_isIn (x1 : Int32) (x2 : Int32) (x3 : Int32) (Q : Int32 → Prop) : Prop := ((x1 < x2 → Q 0) ∧ (¬ x1 < x2 → ((x3 < x1 → Q 0) ∧ (¬ x3 < x1 → Q 1))))
set_option maxRecDepth 100000 in
theorem s_T_isIn {l : Launch} {D : zD} {B : Nat} {sa : Nat → Nat} (hfl : l.stackTraces = false) {z : Nat} {G : zG} {x1 : Int32} {x2 : Int32} {x3 : Int32} {Q : Int32 → Prop}  (h : P_T_isIn x1 x2 x3 Q) : zSp l D B sa yX5_isIn cX5_isIn 3 (some .boolean) 0 0 0 0 [.int x1, .int x2, .int x3] z G (zRi fun r z' G' => z = z' ∧ G = G' ∧ Q r) := by
  unfold P_T_isIn at h
  refine z_ofW (by decide +kernel) hfl [some (.int x1), some (.int x2), some (.int x3)] rfl (Nat.le_of_ble_eq_true rfl) (fun p e s m args below meth c O hret hlk hnm => ?_)
  have O : zO p l s m args c D B sa 3 cX5_isIn RX5 := O
  refine z_iload_n O dX5_isIn_0 rfl rfl ?_
  refine z_iload_n O dX5_isIn_1 rfl rfl ?_
  refine z_icmp_lt (tgt := 14) O dX5_isIn_2 (by decide) (fun c1_ => ?_) (fun c1_ => ?_)
  · have h := h.1 c1_
    refine z_iconst (v := 0) O dX5_isIn_14 (by decide) ?_
    exact z_zret O hret rfl hlk dX5_isIn_15 (Nat.le_of_ble_eq_true rfl) (Nat.le_of_ble_eq_true rfl) ⟨_, rfl, rfl, rfl, h⟩
  · have h := h.2 c1_
    refine z_iload_n O dX5_isIn_5 rfl rfl ?_
    refine z_iload_n O dX5_isIn_6 rfl rfl ?_
    refine z_icmp_gt (tgt := 14) O dX5_isIn_7 (by decide) (fun c2_ => ?_) (fun c2_ => ?_)
    · have h := h.1 c2_
      refine z_iconst (v := 0) O dX5_isIn_14 (by decide) ?_
      exact z_zret O hret rfl hlk dX5_isIn_15 (Nat.le_of_ble_eq_true rfl) (Nat.le_of_ble_eq_true rfl) ⟨_, rfl, rfl, rfl, h⟩
    · have h := h.2 c2_
      refine z_iconst (v := 1) O dX5_isIn_10 (by decide) ?_
      refine z_goto (tgt := 15) O dX5_isIn_11 (by decide) ?_
      exact z_zret O hret rfl hlk dX5_isIn_15 (Nat.le_of_ble_eq_true rfl) (Nat.le_of_ble_eq_true rfl) ⟨_, rfl, rfl, rfl, h⟩

theorem dX3_faultOfWriting_0 : decode cX3_faultOfWriting 0 = .ok (.iload_n 1, 1) := by decide +kernel
theorem dX3_faultOfWriting_1 : decode cX3_faultOfWriting 1 = .ok (.iconst 0, 1) := by decide +kernel
theorem dX3_faultOfWriting_2 : decode cX3_faultOfWriting 2 = .ok (.bipush 7, 2) := by decide +kernel
theorem dX3_faultOfWriting_4 : decode cX3_faultOfWriting 4 = .ok (.invokestatic 160, 3) := by decide +kernel
theorem dX3_faultOfWriting_7 : decode cX3_faultOfWriting 7 = .ok (.ifCond .eq 23, 3) := by decide +kernel
theorem dX3_faultOfWriting_10 : decode cX3_faultOfWriting 10 = .ok (.iload_n 2, 1) := by decide +kernel
theorem dX3_faultOfWriting_11 : decode cX3_faultOfWriting 11 = .ok (.iconst 0, 1) := by decide +kernel
theorem dX3_faultOfWriting_12 : decode cX3_faultOfWriting 12 = .ok (.bipush 99, 2) := by decide +kernel
theorem dX3_faultOfWriting_14 : decode cX3_faultOfWriting 14 = .ok (.invokestatic 160, 3) := by decide +kernel
theorem dX3_faultOfWriting_17 : decode cX3_faultOfWriting 17 = .ok (.ifCond .eq 13, 3) := by decide +kernel
theorem dX3_faultOfWriting_20 : decode cX3_faultOfWriting 20 = .ok (.iload_n 3, 1) := by decide +kernel
theorem dX3_faultOfWriting_21 : decode cX3_faultOfWriting 21 = .ok (.iconst 1, 1) := by decide +kernel
theorem dX3_faultOfWriting_22 : decode cX3_faultOfWriting 22 = .ok (.bipush 40, 2) := by decide +kernel
theorem dX3_faultOfWriting_24 : decode cX3_faultOfWriting 24 = .ok (.invokestatic 160, 3) := by decide +kernel
theorem dX3_faultOfWriting_27 : decode cX3_faultOfWriting 27 = .ok (.ifCond .ne 5, 3) := by decide +kernel
theorem dX3_faultOfWriting_30 : decode cX3_faultOfWriting 30 = .ok (.iconst 2, 1) := by decide +kernel
theorem dX3_faultOfWriting_31 : decode cX3_faultOfWriting 31 = .ok (.ireturn, 1) := by decide +kernel
theorem dX3_faultOfWriting_32 : decode cX3_faultOfWriting 32 = .ok (.aload_n 0, 1) := by decide +kernel
theorem dX3_faultOfWriting_33 : decode cX3_faultOfWriting 33 = .ok (.getfield 12, 3) := by decide +kernel
theorem dX3_faultOfWriting_36 : decode cX3_faultOfWriting 36 = .ok (.getfield 89, 3) := by decide +kernel
theorem dX3_faultOfWriting_39 : decode cX3_faultOfWriting 39 = .ok (.sipush 200, 3) := by decide +kernel
theorem dX3_faultOfWriting_42 : decode cX3_faultOfWriting 42 = .ok (.if_icmp .ge 7, 3) := by decide +kernel
theorem dX3_faultOfWriting_45 : decode cX3_faultOfWriting 45 = .ok (.iconst 0, 1) := by decide +kernel
theorem dX3_faultOfWriting_46 : decode cX3_faultOfWriting 46 = .ok (.goto 4, 3) := by decide +kernel
theorem dX3_faultOfWriting_49 : decode cX3_faultOfWriting 49 = .ok (.iconst 3, 1) := by decide +kernel
theorem dX3_faultOfWriting_50 : decode cX3_faultOfWriting 50 = .ok (.ireturn, 1) := by decide +kernel
def P_S_faultOfWriting (x1 : Int32) (x2 : Int32) (x3 : Int32) (v0 : ST) (Q : Int32 → Prop) : Prop := P_T_isIn x1 0 7 (fun r1_ => (((r1_ = 0 → Q 2) ∧ (¬ r1_ = 0 → P_T_isIn x2 0 99 (fun r6_ => (((r6_ = 0 → Q 2) ∧ (¬ r6_ = 0 → P_T_isIn x3 1 40 (fun r11_ => (((¬ r11_ = 0 → ((200 ≤ (L_end (S_log v0)) → Q 3) ∧ (¬ 200 ≤ (L_end (S_log v0)) → Q 0))) ∧ (r11_ = 0 → Q 2))))))))))))
set_option maxRecDepth 100000 in
theorem s_S_faultOfWriting {l : Launch} {D : zD} {B : Nat} {sa : Nat → Nat} (hfl : l.stackTraces = false) {z : Nat} {G : zG} {b0 : Nat} {x1 : Int32} {x2 : Int32} {x3 : Int32} {v0 : ST} {Q : Int32 → Prop} (h0 : SA b0 v0 G) (h : P_S_faultOfWriting x1 x2 x3 v0 Q) : zSp l D B sa yX3_faultOfWriting cX3_faultOfWriting 4 (some .int) 1 22 0 0 [.ref b0, .int x1, .int x2, .int x3] z G (zRi fun r z' G' => z = z' ∧ G = G' ∧ Q r) := by
  unfold P_S_faultOfWriting at h
  refine z_ofW (by decide +kernel) hfl [some (.ref b0), some (.int x1), some (.int x2), some (.int x3)] rfl (Nat.le_of_ble_eq_true rfl) (fun p e s m args below meth c O hret hlk hnm => ?_)
  have O : zO p l s m args c D B sa 4 cX3_faultOfWriting RX3 := O
  refine z_iload_n O dX3_faultOfWriting_0 rfl rfl ?_
  refine z_iconst (v := 0) O dX3_faultOfWriting_1 (by decide) ?_
  refine z_bipush (v := 7) O dX3_faultOfWriting_2 (by decide) ?_
  refine z_callNi (As := [.int x1, .int 0, .int 7]) (st := []) O (s_T_isIn hfl h) wy_X5_isIn wl_RX3_160 dX3_faultOfWriting_4 rfl rfl ⟨Nat.le_of_ble_eq_true rfl, Nat.le_of_ble_eq_true rfl⟩ (Nat.le_of_ble_eq_true rfl) ⟨Nat.le_of_ble_eq_true rfl, Nat.le_of_ble_eq_true rfl⟩ (fun r1_ z2_ G3_ hq4_ => ?_)
  obtain ⟨rfl, rfl, h⟩ := hq4_
  refine z_if_eq (tgt := 30) O dX3_faultOfWriting_7 (by decide) (fun c5_ => ?_) (fun c5_ => ?_)
  · have h := h.1 c5_
    refine z_iconst (v := 2) O dX3_faultOfWriting_30 (by decide) ?_
    exact z_iret O hret hlk dX3_faultOfWriting_31 (Nat.le_of_ble_eq_true rfl) (Nat.le_of_ble_eq_true rfl) ⟨_, rfl, rfl, rfl, h⟩
  · have h := h.2 c5_
    refine z_iload_n O dX3_faultOfWriting_10 rfl rfl ?_
    refine z_iconst (v := 0) O dX3_faultOfWriting_11 (by decide) ?_
    refine z_bipush (v := 99) O dX3_faultOfWriting_12 (by decide) ?_
    refine z_callNi (As := [.int x2, .int 0, .int 99]) (st := []) O (s_T_isIn hfl h) wy_X5_isIn wl_RX3_160 dX3_faultOfWriting_14 rfl rfl ⟨Nat.le_of_ble_eq_true rfl, Nat.le_of_ble_eq_true rfl⟩ (Nat.le_of_ble_eq_true rfl) ⟨Nat.le_of_ble_eq_true rfl, Nat.le_of_ble_eq_true rfl⟩ (fun r6_ z7_ G8_ hq9_ => ?_)
    obtain ⟨rfl, rfl, h⟩ := hq9_
    refine z_if_eq (tgt := 30) O dX3_faultOfWriting_17 (by decide) (fun c10_ => ?_) (fun c10_ => ?_)
    · have h := h.1 c10_
      refine z_iconst (v := 2) O dX3_faultOfWriting_30 (by decide) ?_
      exact z_iret O hret hlk dX3_faultOfWriting_31 (Nat.le_of_ble_eq_true rfl) (Nat.le_of_ble_eq_true rfl) ⟨_, rfl, rfl, rfl, h⟩
    · have h := h.2 c10_
      refine z_iload_n O dX3_faultOfWriting_20 rfl rfl ?_
      refine z_iconst (v := 1) O dX3_faultOfWriting_21 (by decide) ?_
      refine z_bipush (v := 40) O dX3_faultOfWriting_22 (by decide) ?_
      refine z_callNi (As := [.int x3, .int 1, .int 40]) (st := []) O (s_T_isIn hfl h) wy_X5_isIn wl_RX3_160 dX3_faultOfWriting_24 rfl rfl ⟨Nat.le_of_ble_eq_true rfl, Nat.le_of_ble_eq_true rfl⟩ (Nat.le_of_ble_eq_true rfl) ⟨Nat.le_of_ble_eq_true rfl, Nat.le_of_ble_eq_true rfl⟩ (fun r11_ z12_ G13_ hq14_ => ?_)
      obtain ⟨rfl, rfl, h⟩ := hq14_
      refine z_if_ne (tgt := 32) O dX3_faultOfWriting_27 (by decide) (fun c15_ => ?_) (fun c15_ => ?_)
      · have h := h.1 c15_
        refine z_aload_n O dX3_faultOfWriting_32 rfl rfl ?_
        refine z_get (v := .ref (b0 + 1)) O wf_RX3_12 dX3_faultOfWriting_33 (S_obj h0) rfl ?_
        refine z_get (v := .int (L_end (S_log v0))) O wf_RX3_89 dX3_faultOfWriting_36 (L_obj (S_log_of h0)) rfl ?_
        refine z_sipush (v := 200) O dX3_faultOfWriting_39 (by decide) ?_
        refine z_icmp_ge (tgt := 49) O dX3_faultOfWriting_42 (by decide) (fun c16_ => ?_) (fun c16_ => ?_)
        · have h := h.1 c16_
          refine z_iconst (v := 3) O dX3_faultOfWriting_49 (by decide) ?_
          exact z_iret O hret hlk dX3_faultOfWriting_50 (Nat.le_of_ble_eq_true rfl) (Nat.le_of_ble_eq_true rfl) ⟨_, rfl, rfl, rfl, h⟩
        · have h := h.2 c16_
          refine z_iconst (v := 0) O dX3_faultOfWriting_45 (by decide) ?_
          refine z_goto (tgt := 50) O dX3_faultOfWriting_46 (by decide) ?_
          exact z_iret O hret hlk dX3_faultOfWriting_50 (Nat.le_of_ble_eq_true rfl) (Nat.le_of_ble_eq_true rfl) ⟨_, rfl, rfl, rfl, h⟩
      · have h := h.2 c15_
        refine z_iconst (v := 2) O dX3_faultOfWriting_30 (by decide) ?_
        exact z_iret O hret hlk dX3_faultOfWriting_31 (Nat.le_of_ble_eq_true rfl) (Nat.le_of_ble_eq_true rfl) ⟨_, rfl, rfl, rfl, h⟩

theorem dX3_faultOfJoining_0 : decode cX3_faultOfJoining 0 = .ok (.aload_n 0, 1) := by decide +kernel
theorem dX3_faultOfJoining_1 : decode cX3_faultOfJoining 1 = .ok (.iload_n 1, 1) := by decide +kernel
theorem dX3_faultOfJoining_2 : decode cX3_faultOfJoining 2 = .ok (.invokevirtual 61, 3) := by decide +kernel
theorem dX3_faultOfJoining_5 : decode cX3_faultOfJoining 5 = .ok (.astore 4, 2) := by decide +kernel
theorem dX3_faultOfJoining_7 : decode cX3_faultOfJoining 7 = .ok (.aload 4, 2) := by decide +kernel
theorem dX3_faultOfJoining_9 : decode cX3_faultOfJoining 9 = .ok (.ifnull 12, 3) := by decide +kernel
theorem dX3_faultOfJoining_12 : decode cX3_faultOfJoining 12 = .ok (.iload_n 2, 1) := by decide +kernel
theorem dX3_faultOfJoining_13 : decode cX3_faultOfJoining 13 = .ok (.iconst 0, 1) := by decide +kernel
theorem dX3_faultOfJoining_14 : decode cX3_faultOfJoining 14 = .ok (.iconst 2, 1) := by decide +kernel
theorem dX3_faultOfJoining_15 : decode cX3_faultOfJoining 15 = .ok (.invokestatic 160, 3) := by decide +kernel
theorem dX3_faultOfJoining_18 : decode cX3_faultOfJoining 18 = .ok (.ifCond .ne 5, 3) := by decide +kernel
theorem dX3_faultOfJoining_21 : decode cX3_faultOfJoining 21 = .ok (.iconst 2, 1) := by decide +kernel
theorem dX3_faultOfJoining_22 : decode cX3_faultOfJoining 22 = .ok (.ireturn, 1) := by decide +kernel
theorem dX3_faultOfJoining_23 : decode cX3_faultOfJoining 23 = .ok (.iload_n 2, 1) := by decide +kernel
theorem dX3_faultOfJoining_24 : decode cX3_faultOfJoining 24 = .ok (.iconst 2, 1) := by decide +kernel
theorem dX3_faultOfJoining_25 : decode cX3_faultOfJoining 25 = .ok (.if_icmp .ne 7, 3) := by decide +kernel
theorem dX3_faultOfJoining_28 : decode cX3_faultOfJoining 28 = .ok (.iconst 1, 1) := by decide +kernel
theorem dX3_faultOfJoining_29 : decode cX3_faultOfJoining 29 = .ok (.goto 4, 3) := by decide +kernel
theorem dX3_faultOfJoining_32 : decode cX3_faultOfJoining 32 = .ok (.iconst 0, 1) := by decide +kernel
theorem dX3_faultOfJoining_33 : decode cX3_faultOfJoining 33 = .ok (.istore 5, 2) := by decide +kernel
theorem dX3_faultOfJoining_35 : decode cX3_faultOfJoining 35 = .ok (.aload 4, 2) := by decide +kernel
theorem dX3_faultOfJoining_37 : decode cX3_faultOfJoining 37 = .ok (.getfield 65, 3) := by decide +kernel
theorem dX3_faultOfJoining_40 : decode cX3_faultOfJoining 40 = .ok (.ifCond .ne 40, 3) := by decide +kernel
theorem dX3_faultOfJoining_43 : decode cX3_faultOfJoining 43 = .ok (.iload 5, 2) := by decide +kernel
theorem dX3_faultOfJoining_45 : decode cX3_faultOfJoining 45 = .ok (.ifCond .eq 11, 3) := by decide +kernel
theorem dX3_faultOfJoining_48 : decode cX3_faultOfJoining 48 = .ok (.aload 4, 2) := by decide +kernel
theorem dX3_faultOfJoining_50 : decode cX3_faultOfJoining 50 = .ok (.getfield 170, 3) := by decide +kernel
theorem dX3_faultOfJoining_53 : decode cX3_faultOfJoining 53 = .ok (.ifCond .eq 27, 3) := by decide +kernel
theorem dX3_faultOfJoining_56 : decode cX3_faultOfJoining 56 = .ok (.iload 5, 2) := by decide +kernel
theorem dX3_faultOfJoining_58 : decode cX3_faultOfJoining 58 = .ok (.ifCond .eq 24, 3) := by decide +kernel
theorem dX3_faultOfJoining_61 : decode cX3_faultOfJoining 61 = .ok (.iload_n 3, 1) := by decide +kernel
theorem dX3_faultOfJoining_62 : decode cX3_faultOfJoining 62 = .ok (.ifCond .eq 20, 3) := by decide +kernel
theorem dX3_faultOfJoining_65 : decode cX3_faultOfJoining 65 = .ok (.aload 4, 2) := by decide +kernel
theorem dX3_faultOfJoining_67 : decode cX3_faultOfJoining 67 = .ok (.getfield 75, 3) := by decide +kernel
theorem dX3_faultOfJoining_70 : decode cX3_faultOfJoining 70 = .ok (.aload_n 0, 1) := by decide +kernel
theorem dX3_faultOfJoining_71 : decode cX3_faultOfJoining 71 = .ok (.getfield 12, 3) := by decide +kernel
theorem dX3_faultOfJoining_74 : decode cX3_faultOfJoining 74 = .ok (.getfield 78, 3) := by decide +kernel
theorem dX3_faultOfJoining_77 : decode cX3_faultOfJoining 77 = .ok (.if_icmp .ge 5, 3) := by decide +kernel
theorem dX3_faultOfJoining_80 : decode cX3_faultOfJoining 80 = .ok (.iconst 3, 1) := by decide +kernel
theorem dX3_faultOfJoining_81 : decode cX3_faultOfJoining 81 = .ok (.ireturn, 1) := by decide +kernel
theorem dX3_faultOfJoining_82 : decode cX3_faultOfJoining 82 = .ok (.iconst 0, 1) := by decide +kernel
theorem dX3_faultOfJoining_83 : decode cX3_faultOfJoining 83 = .ok (.ireturn, 1) := by decide +kernel
def PJ_S_faultOfJoining_56 (x1 : Int32) (x2 : Int32) (x3 : Int32) (v0 : ST) (e4_56 : Nat) (y3 : Int32) (y5 : Int32) (Q : Int32 → Prop) : Prop := ((y5 = 0 → Q 0) ∧ (¬ y5 = 0 → ((y3 = 0 → Q 0) ∧ (¬ y3 = 0 → (((L_first (S_log v0)) ≤ (R_place (S_readers v0 e4_56)) → Q 0) ∧ (¬ (L_first (S_log v0)) ≤ (R_place (S_readers v0 e4_56)) → Q 3))))))
def PJ_S_faultOfJoining_33 (x1 : Int32) (x2 : Int32) (x3 : Int32) (v0 : ST) (e4_33 : Nat) (y3 : Int32) (u0 : Int32) (Q : Int32 → Prop) : Prop := ((¬ (R_present (S_readers v0 e4_33)) = 0 → Q 3) ∧ ((R_present (S_readers v0 e4_33)) = 0 → ((u0 = 0 → PJ_S_faultOfJoining_56 x1 x2 x3 v0 e4_33 y3 u0 Q) ∧ (¬ u0 = 0 → (((R_hasLeft (S_readers v0 e4_33)) = 0 → Q 3) ∧ (¬ (R_hasLeft (S_readers v0 e4_33)) = 0 → PJ_S_faultOfJoining_56 x1 x2 x3 v0 e4_33 y3 u0 Q))))))
def P_S_faultOfJoining (x1 : Int32) (x2 : Int32) (x3 : Int32) (v0 : ST) (Q : Int32 → Prop) : Prop := P_S_named x1 v0 (fun r5_ => ((r5_ = none → Q 2) ∧ (∀ i7_, r5_ = some i7_ → P_T_isIn x2 0 2 (fun r9_ => (((¬ r9_ = 0 → ((¬ x2 = 2 → PJ_S_faultOfJoining_33 x1 x2 x3 v0 i7_ x3 0 Q) ∧ (x2 = 2 → PJ_S_faultOfJoining_33 x1 x2 x3 v0 i7_ x3 1 Q))) ∧ (r9_ = 0 → Q 2)))))))
set_option maxRecDepth 100000 in
theorem s_S_faultOfJoining {l : Launch} {D : zD} {B : Nat} {sa : Nat → Nat} (hfl : l.stackTraces = false) {z : Nat} {G : zG} {b0 : Nat} {x1 : Int32} {x2 : Int32} {x3 : Int32} {v0 : ST} {Q : Int32 → Prop} (h0 : SA b0 v0 G) (h : P_S_faultOfJoining x1 x2 x3 v0 Q) : zSp l D B sa yX3_faultOfJoining cX3_faultOfJoining 6 (some .int) 1 22 0 0 [.ref b0, .int x1, .int x2, .int x3] z G (zRi fun r z' G' => z = z' ∧ G = G' ∧ Q r) := by
  unfold P_S_faultOfJoining at h
  refine z_ofW (by decide +kernel) hfl [some (.ref b0), some (.int x1), some (.int x2), some (.int x3), none, none] rfl (Nat.le_of_ble_eq_true rfl) (fun p e s m args below meth c O hret hlk hnm => ?_)
  have O : zO p l s m args c D B sa 6 cX3_faultOfJoining RX3 := O
  have HJ56 : ∀ (e4_56 : Nat) (he4_56 : e4_56 < 8) (y3 : Int32) (y5 : Int32), PJ_S_faultOfJoining_56 x1 x2 x3 v0 e4_56 y3 y5 Q → zT p l e (zrm 1 22 0 0) s m args below meth c (zEnd below D B (zRi fun r z' G' => z = z' ∧ G = G' ∧ Q r) args s 0 0) D B 6 0 0 56 [] [some (.ref b0), none, none, some (.int y3), some (.ref (b0 + 10 + 2 * e4_56)), some (.int y5)] z G := by
    intro e4_56 he4_56 y3 y5 h
    unfold PJ_S_faultOfJoining_56 at h
    refine z_iload O dX3_faultOfJoining_56 rfl ?_
    refine z_if_eq (tgt := 82) O dX3_faultOfJoining_58 (by decide) (fun c17_ => ?_) (fun c17_ => ?_)
    · have h := h.1 c17_
      refine z_iconst (v := 0) O dX3_faultOfJoining_82 (by decide) ?_
      exact z_iret O hret hlk dX3_faultOfJoining_83 (Nat.le_of_ble_eq_true rfl) (Nat.le_of_ble_eq_true rfl) ⟨_, rfl, rfl, rfl, h⟩
    · have h := h.2 c17_
      refine z_iload_n O dX3_faultOfJoining_61 rfl rfl ?_
      refine z_if_eq (tgt := 82) O dX3_faultOfJoining_62 (by decide) (fun c18_ => ?_) (fun c18_ => ?_)
      · have h := h.1 c18_
        refine z_iconst (v := 0) O dX3_faultOfJoining_82 (by decide) ?_
        exact z_iret O hret hlk dX3_faultOfJoining_83 (Nat.le_of_ble_eq_true rfl) (Nat.le_of_ble_eq_true rfl) ⟨_, rfl, rfl, rfl, h⟩
      · have h := h.2 c18_
        refine z_aload O dX3_faultOfJoining_65 rfl ?_
        refine z_get (v := .int (R_place (S_readers v0 e4_56))) O wf_RX3_75 dX3_faultOfJoining_67 (R_obj (S_readers_of h0 he4_56)) rfl ?_
        refine z_aload_n O dX3_faultOfJoining_70 rfl rfl ?_
        refine z_get (v := .ref (b0 + 1)) O wf_RX3_12 dX3_faultOfJoining_71 (S_obj h0) rfl ?_
        refine z_get (v := .int (L_first (S_log v0))) O wf_RX3_78 dX3_faultOfJoining_74 (L_obj (S_log_of h0)) rfl ?_
        refine z_icmp_ge (tgt := 82) O dX3_faultOfJoining_77 (by decide) (fun c19_ => ?_) (fun c19_ => ?_)
        · have h := h.1 c19_
          refine z_iconst (v := 0) O dX3_faultOfJoining_82 (by decide) ?_
          exact z_iret O hret hlk dX3_faultOfJoining_83 (Nat.le_of_ble_eq_true rfl) (Nat.le_of_ble_eq_true rfl) ⟨_, rfl, rfl, rfl, h⟩
        · have h := h.2 c19_
          refine z_iconst (v := 3) O dX3_faultOfJoining_80 (by decide) ?_
          exact z_iret O hret hlk dX3_faultOfJoining_81 (Nat.le_of_ble_eq_true rfl) (Nat.le_of_ble_eq_true rfl) ⟨_, rfl, rfl, rfl, h⟩
  have HJ33 : ∀ (e4_33 : Nat) (he4_33 : e4_33 < 8) (y3 : Int32) (u0 : Int32), PJ_S_faultOfJoining_33 x1 x2 x3 v0 e4_33 y3 u0 Q → zT p l e (zrm 1 22 0 0) s m args below meth c (zEnd below D B (zRi fun r z' G' => z = z' ∧ G = G' ∧ Q r) args s 0 0) D B 6 0 0 33 [.int u0] [some (.ref b0), none, none, some (.int y3), some (.ref (b0 + 10 + 2 * e4_33)), none] z G := by
    intro e4_33 he4_33 y3 u0 h
    unfold PJ_S_faultOfJoining_33 at h
    refine z_istore (L' := [some (.ref b0), none, none, some (.int y3), some (.ref (b0 + 10 + 2 * e4_33)), some (.int u0)]) O dX3_faultOfJoining_33 (by decide) rfl ?_
    refine z_aload O dX3_faultOfJoining_35 rfl ?_
    refine z_get (v := .int (R_present (S_readers v0 e4_33))) O wf_RX3_65 dX3_faultOfJoining_37 (R_obj (S_readers_of h0 he4_33)) rfl ?_
    refine z_if_ne (tgt := 80) O dX3_faultOfJoining_40 (by decide) (fun c15_ => ?_) (fun c15_ => ?_)
    · have h := h.1 c15_
      refine z_iconst (v := 3) O dX3_faultOfJoining_80 (by decide) ?_
      exact z_iret O hret hlk dX3_faultOfJoining_81 (Nat.le_of_ble_eq_true rfl) (Nat.le_of_ble_eq_true rfl) ⟨_, rfl, rfl, rfl, h⟩
    · have h := h.2 c15_
      refine z_iload O dX3_faultOfJoining_43 rfl ?_
      refine z_if_eq (tgt := 56) O dX3_faultOfJoining_45 (by decide) (fun c16_ => ?_) (fun c16_ => ?_)
      · have h := h.1 c16_
        exact z_subL (L' := [some (.ref b0), none, none, some (.int y3), some (.ref (b0 + 10 + 2 * e4_33)), some (.int u0)]) (zLe.sub (And.intro rfl (And.intro rfl (And.intro rfl (And.intro rfl True.intro))))) (HJ56 e4_33 he4_33 y3 u0 h)
      · have h := h.2 c16_
        refine z_aload O dX3_faultOfJoining_48 rfl ?_
        refine z_get (v := .int (R_hasLeft (S_readers v0 e4_33))) O wf_RX3_170 dX3_faultOfJoining_50 (R_obj (S_readers_of h0 he4_33)) rfl ?_
        refine z_if_eq (tgt := 80) O dX3_faultOfJoining_53 (by decide) (fun c20_ => ?_) (fun c20_ => ?_)
        · have h := h.1 c20_
          refine z_iconst (v := 3) O dX3_faultOfJoining_80 (by decide) ?_
          exact z_iret O hret hlk dX3_faultOfJoining_81 (Nat.le_of_ble_eq_true rfl) (Nat.le_of_ble_eq_true rfl) ⟨_, rfl, rfl, rfl, h⟩
        · have h := h.2 c20_
          exact z_subL (L' := [some (.ref b0), none, none, some (.int y3), some (.ref (b0 + 10 + 2 * e4_33)), some (.int u0)]) (zLe.sub (And.intro rfl (And.intro rfl (And.intro rfl (And.intro rfl True.intro))))) (HJ56 e4_33 he4_33 y3 u0 h)
  refine z_aload_n O dX3_faultOfJoining_0 rfl rfl ?_
  refine z_iload_n O dX3_faultOfJoining_1 rfl rfl ?_
  refine z_callVa (As := [.int x1]) (st := []) O (s_S_named hfl h0 h) wy_X3_named wl_RX3_61 dX3_faultOfJoining_2 rfl rfl (S_obj h0) ⟨by decide, rfl⟩ ⟨Nat.le_of_ble_eq_true rfl, Nat.le_of_ble_eq_true rfl⟩ (Nat.le_of_ble_eq_true rfl) ⟨Nat.le_of_ble_eq_true rfl, Nat.le_of_ble_eq_true rfl⟩ (fun r1_ z2_ G3_ hq4_ => ?_)
  obtain ⟨rfl, rfl, r5_, rfl, hb6_, h⟩ := hq4_
  cases r5_ with
  | none =>
    have h := h.1 rfl
    refine z_astoreN (L' := [some (.ref b0), some (.int x1), some (.int x2), some (.int x3), some (.null), none]) O dX3_faultOfJoining_5 (by decide) rfl ?_
    refine z_aloadN O dX3_faultOfJoining_7 rfl ?_
    refine z_ifnullN (tgt := 21) O dX3_faultOfJoining_9 (by decide) ?_
    refine z_iconst (v := 2) O dX3_faultOfJoining_21 (by decide) ?_
    exact z_iret O hret hlk dX3_faultOfJoining_22 (Nat.le_of_ble_eq_true rfl) (Nat.le_of_ble_eq_true rfl) ⟨_, rfl, rfl, rfl, h⟩
  | some i7_ =>
    have hi8_ := hb6_ _ rfl
    have h := h.2 i7_ rfl
    refine z_astore (L' := [some (.ref b0), some (.int x1), some (.int x2), some (.int x3), some (.ref (b0 + 10 + 2 * i7_)), none]) O dX3_faultOfJoining_5 (by decide) rfl ?_
    refine z_aload O dX3_faultOfJoining_7 rfl ?_
    refine z_ifnull O dX3_faultOfJoining_9 ?_
    refine z_iload_n O dX3_faultOfJoining_12 rfl rfl ?_
    refine z_iconst (v := 0) O dX3_faultOfJoining_13 (by decide) ?_
    refine z_iconst (v := 2) O dX3_faultOfJoining_14 (by decide) ?_
    refine z_callNi (As := [.int x2, .int 0, .int 2]) (st := []) O (s_T_isIn hfl h) wy_X5_isIn wl_RX3_160 dX3_faultOfJoining_15 rfl rfl ⟨Nat.le_of_ble_eq_true rfl, Nat.le_of_ble_eq_true rfl⟩ (Nat.le_of_ble_eq_true rfl) ⟨Nat.le_of_ble_eq_true rfl, Nat.le_of_ble_eq_true rfl⟩ (fun r9_ z10_ G11_ hq12_ => ?_)
    obtain ⟨rfl, rfl, h⟩ := hq12_
    refine z_if_ne (tgt := 23) O dX3_faultOfJoining_18 (by decide) (fun c13_ => ?_) (fun c13_ => ?_)
    · have h := h.1 c13_
      refine z_iload_n O dX3_faultOfJoining_23 rfl rfl ?_
      refine z_iconst (v := 2) O dX3_faultOfJoining_24 (by decide) ?_
      refine z_icmp_ne (tgt := 32) O dX3_faultOfJoining_25 (by decide) (fun c14_ => ?_) (fun c14_ => ?_)
      · have h := h.1 c14_
        refine z_iconst (v := 0) O dX3_faultOfJoining_32 (by decide) ?_
        exact z_subL (L' := [some (.ref b0), none, none, some (.int x3), some (.ref (b0 + 10 + 2 * i7_)), none]) (zLe.sub (And.intro rfl (And.intro rfl (And.intro rfl True.intro)))) (HJ33 i7_ hi8_ x3 0 h)
      · have h := h.2 c14_
        refine z_iconst (v := 1) O dX3_faultOfJoining_28 (by decide) ?_
        refine z_goto (tgt := 33) O dX3_faultOfJoining_29 (by decide) ?_
        exact z_subL (L' := [some (.ref b0), none, none, some (.int x3), some (.ref (b0 + 10 + 2 * i7_)), none]) (zLe.sub (And.intro rfl (And.intro rfl (And.intro rfl True.intro)))) (HJ33 i7_ hi8_ x3 1 h)
    · have h := h.2 c13_
      refine z_iconst (v := 2) O dX3_faultOfJoining_21 (by decide) ?_
      exact z_iret O hret hlk dX3_faultOfJoining_22 (Nat.le_of_ble_eq_true rfl) (Nat.le_of_ble_eq_true rfl) ⟨_, rfl, rfl, rfl, h⟩

theorem dX3_faultOf_0 : decode cX3_faultOf 0 = .ok (.iload_n 1, 1) := by decide +kernel
theorem dX3_faultOf_1 : decode cX3_faultOf 1 = .ok (.tableswitch 195 0 6 #[43, 52, 70, 98, 112, 143, 179], 43) := by decide +kernel
theorem dX3_faultOf_44 : decode cX3_faultOf 44 = .ok (.aload_n 0, 1) := by decide +kernel
theorem dX3_faultOf_45 : decode cX3_faultOf 45 = .ok (.iload_n 2, 1) := by decide +kernel
theorem dX3_faultOf_46 : decode cX3_faultOf 46 = .ok (.iload_n 3, 1) := by decide +kernel
theorem dX3_faultOf_47 : decode cX3_faultOf 47 = .ok (.iload 4, 2) := by decide +kernel
theorem dX3_faultOf_49 : decode cX3_faultOf 49 = .ok (.invokevirtual 152, 3) := by decide +kernel
theorem dX3_faultOf_52 : decode cX3_faultOf 52 = .ok (.ireturn, 1) := by decide +kernel
theorem dX3_faultOf_53 : decode cX3_faultOf 53 = .ok (.aload_n 0, 1) := by decide +kernel
theorem dX3_faultOf_54 : decode cX3_faultOf 54 = .ok (.iload_n 2, 1) := by decide +kernel
theorem dX3_faultOf_55 : decode cX3_faultOf 55 = .ok (.iload_n 3, 1) := by decide +kernel
theorem dX3_faultOf_56 : decode cX3_faultOf 56 = .ok (.iload 4, 2) := by decide +kernel
theorem dX3_faultOf_58 : decode cX3_faultOf 58 = .ok (.iconst 1, 1) := by decide +kernel
theorem dX3_faultOf_59 : decode cX3_faultOf 59 = .ok (.if_icmp .ne 7, 3) := by decide +kernel
theorem dX3_faultOf_62 : decode cX3_faultOf 62 = .ok (.iconst 1, 1) := by decide +kernel
theorem dX3_faultOf_63 : decode cX3_faultOf 63 = .ok (.goto 4, 3) := by decide +kernel
theorem dX3_faultOf_66 : decode cX3_faultOf 66 = .ok (.iconst 0, 1) := by decide +kernel
theorem dX3_faultOf_67 : decode cX3_faultOf 67 = .ok (.invokevirtual 156, 3) := by decide +kernel
theorem dX3_faultOf_70 : decode cX3_faultOf 70 = .ok (.ireturn, 1) := by decide +kernel
theorem dX3_faultOf_71 : decode cX3_faultOf 71 = .ok (.aload_n 0, 1) := by decide +kernel
theorem dX3_faultOf_72 : decode cX3_faultOf 72 = .ok (.iload_n 2, 1) := by decide +kernel
theorem dX3_faultOf_73 : decode cX3_faultOf 73 = .ok (.invokevirtual 69, 3) := by decide +kernel
theorem dX3_faultOf_76 : decode cX3_faultOf 76 = .ok (.ifnonnull 7, 3) := by decide +kernel
theorem dX3_faultOf_79 : decode cX3_faultOf 79 = .ok (.iconst 1, 1) := by decide +kernel
theorem dX3_faultOf_80 : decode cX3_faultOf 80 = .ok (.goto 18, 3) := by decide +kernel
theorem dX3_faultOf_83 : decode cX3_faultOf 83 = .ok (.iload_n 3, 1) := by decide +kernel
theorem dX3_faultOf_84 : decode cX3_faultOf 84 = .ok (.iconst 1, 1) := by decide +kernel
theorem dX3_faultOf_85 : decode cX3_faultOf 85 = .ok (.bipush 50, 2) := by decide +kernel
theorem dX3_faultOf_87 : decode cX3_faultOf 87 = .ok (.invokestatic 160, 3) := by decide +kernel
theorem dX3_faultOf_90 : decode cX3_faultOf 90 = .ok (.ifCond .eq 7, 3) := by decide +kernel
theorem dX3_faultOf_93 : decode cX3_faultOf 93 = .ok (.iconst 0, 1) := by decide +kernel
theorem dX3_faultOf_94 : decode cX3_faultOf 94 = .ok (.goto 4, 3) := by decide +kernel
theorem dX3_faultOf_97 : decode cX3_faultOf 97 = .ok (.iconst 2, 1) := by decide +kernel
theorem dX3_faultOf_98 : decode cX3_faultOf 98 = .ok (.ireturn, 1) := by decide +kernel
theorem dX3_faultOf_99 : decode cX3_faultOf 99 = .ok (.aload_n 0, 1) := by decide +kernel
theorem dX3_faultOf_100 : decode cX3_faultOf 100 = .ok (.iload_n 2, 1) := by decide +kernel
theorem dX3_faultOf_101 : decode cX3_faultOf 101 = .ok (.invokevirtual 69, 3) := by decide +kernel
theorem dX3_faultOf_104 : decode cX3_faultOf 104 = .ok (.ifnonnull 7, 3) := by decide +kernel
theorem dX3_faultOf_107 : decode cX3_faultOf 107 = .ok (.iconst 1, 1) := by decide +kernel
theorem dX3_faultOf_108 : decode cX3_faultOf 108 = .ok (.goto 4, 3) := by decide +kernel
theorem dX3_faultOf_111 : decode cX3_faultOf 111 = .ok (.iconst 0, 1) := by decide +kernel
theorem dX3_faultOf_112 : decode cX3_faultOf 112 = .ok (.ireturn, 1) := by decide +kernel
theorem dX3_faultOf_113 : decode cX3_faultOf 113 = .ok (.aload_n 0, 1) := by decide +kernel
theorem dX3_faultOf_114 : decode cX3_faultOf 114 = .ok (.iload_n 2, 1) := by decide +kernel
theorem dX3_faultOf_115 : decode cX3_faultOf 115 = .ok (.invokevirtual 69, 3) := by decide +kernel
theorem dX3_faultOf_118 : decode cX3_faultOf 118 = .ok (.ifnonnull 7, 3) := by decide +kernel
theorem dX3_faultOf_121 : decode cX3_faultOf 121 = .ok (.iconst 1, 1) := by decide +kernel
theorem dX3_faultOf_122 : decode cX3_faultOf 122 = .ok (.goto 21, 3) := by decide +kernel
theorem dX3_faultOf_125 : decode cX3_faultOf 125 = .ok (.iload_n 3, 1) := by decide +kernel
theorem dX3_faultOf_126 : decode cX3_faultOf 126 = .ok (.iconst 1, 1) := by decide +kernel
theorem dX3_faultOf_127 : decode cX3_faultOf 127 = .ok (.if_icmp .ne 15, 3) := by decide +kernel
theorem dX3_faultOf_130 : decode cX3_faultOf 130 = .ok (.aload_n 0, 1) := by decide +kernel
theorem dX3_faultOf_131 : decode cX3_faultOf 131 = .ok (.iload_n 2, 1) := by decide +kernel
theorem dX3_faultOf_132 : decode cX3_faultOf 132 = .ok (.invokevirtual 85, 3) := by decide +kernel
theorem dX3_faultOf_135 : decode cX3_faultOf 135 = .ok (.ifCond .eq 7, 3) := by decide +kernel
theorem dX3_faultOf_138 : decode cX3_faultOf 138 = .ok (.iconst 3, 1) := by decide +kernel
theorem dX3_faultOf_139 : decode cX3_faultOf 139 = .ok (.goto 4, 3) := by decide +kernel
theorem dX3_faultOf_142 : decode cX3_faultOf 142 = .ok (.iconst 0, 1) := by decide +kernel
theorem dX3_faultOf_143 : decode cX3_faultOf 143 = .ok (.ireturn, 1) := by decide +kernel
theorem dX3_faultOf_144 : decode cX3_faultOf 144 = .ok (.iload_n 2, 1) := by decide +kernel
theorem dX3_faultOf_145 : decode cX3_faultOf 145 = .ok (.iconst 0, 1) := by decide +kernel
theorem dX3_faultOf_146 : decode cX3_faultOf 146 = .ok (.iconst 5, 1) := by decide +kernel
theorem dX3_faultOf_147 : decode cX3_faultOf 147 = .ok (.invokestatic 160, 3) := by decide +kernel
theorem dX3_faultOf_150 : decode cX3_faultOf 150 = .ok (.ifCond .eq 28, 3) := by decide +kernel
theorem dX3_faultOf_153 : decode cX3_faultOf 153 = .ok (.iload_n 3, 1) := by decide +kernel
theorem dX3_faultOf_154 : decode cX3_faultOf 154 = .ok (.getstatic 164, 3) := by decide +kernel
theorem dX3_faultOf_157 : decode cX3_faultOf 157 = .ok (.iload_n 2, 1) := by decide +kernel
theorem dX3_faultOf_158 : decode cX3_faultOf 158 = .ok (.invokestatic 145, 3) := by decide +kernel
theorem dX3_faultOf_161 : decode cX3_faultOf 161 = .ok (.getstatic 167, 3) := by decide +kernel
theorem dX3_faultOf_164 : decode cX3_faultOf 164 = .ok (.iload_n 2, 1) := by decide +kernel
theorem dX3_faultOf_165 : decode cX3_faultOf 165 = .ok (.invokestatic 145, 3) := by decide +kernel
theorem dX3_faultOf_168 : decode cX3_faultOf 168 = .ok (.invokestatic 160, 3) := by decide +kernel
theorem dX3_faultOf_171 : decode cX3_faultOf 171 = .ok (.ifCond .eq 7, 3) := by decide +kernel
theorem dX3_faultOf_174 : decode cX3_faultOf 174 = .ok (.iconst 0, 1) := by decide +kernel
theorem dX3_faultOf_175 : decode cX3_faultOf 175 = .ok (.goto 4, 3) := by decide +kernel
theorem dX3_faultOf_178 : decode cX3_faultOf 178 = .ok (.iconst 2, 1) := by decide +kernel
theorem dX3_faultOf_179 : decode cX3_faultOf 179 = .ok (.ireturn, 1) := by decide +kernel
theorem dX3_faultOf_180 : decode cX3_faultOf 180 = .ok (.iload_n 2, 1) := by decide +kernel
theorem dX3_faultOf_181 : decode cX3_faultOf 181 = .ok (.iconst 1, 1) := by decide +kernel
theorem dX3_faultOf_182 : decode cX3_faultOf 182 = .ok (.bipush 99, 2) := by decide +kernel
theorem dX3_faultOf_184 : decode cX3_faultOf 184 = .ok (.invokestatic 160, 3) := by decide +kernel
theorem dX3_faultOf_187 : decode cX3_faultOf 187 = .ok (.ifCond .eq 7, 3) := by decide +kernel
theorem dX3_faultOf_190 : decode cX3_faultOf 190 = .ok (.iconst 0, 1) := by decide +kernel
theorem dX3_faultOf_191 : decode cX3_faultOf 191 = .ok (.goto 4, 3) := by decide +kernel
theorem dX3_faultOf_194 : decode cX3_faultOf 194 = .ok (.iconst 2, 1) := by decide +kernel
theorem dX3_faultOf_195 : decode cX3_faultOf 195 = .ok (.ireturn, 1) := by decide +kernel
theorem dX3_faultOf_196 : decode cX3_faultOf 196 = .ok (.iconst 2, 1) := by decide +kernel
theorem dX3_faultOf_197 : decode cX3_faultOf 197 = .ok (.ireturn, 1) := by decide +kernel
def P_S_faultOf (x1 : Int32) (x2 : Int32) (x3 : Int32) (x4 : Int32) (v0 : ST) (Q : Int32 → Prop) : Prop := ((x1 = 0 → P_S_faultOfWriting x2 x3 x4 v0 (fun r2_ => (Q r2_))) ∧ (¬ x1 = 0 → ((x1 = 1 → ((¬ x4 = 1 → P_S_faultOfJoining x2 x3 0 v0 (fun r8_ => (Q r8_))) ∧ (x4 = 1 → P_S_faultOfJoining x2 x3 1 v0 (fun r12_ => (Q r12_))))) ∧ (¬ x1 = 1 → ((x1 = 2 → P_S_reader x2 v0 (fun r21_ => ((r21_ = none → Q 1) ∧ (∀ i23_, r21_ = some i23_ → P_T_isIn x3 1 50 (fun r25_ => (((r25_ = 0 → Q 2) ∧ (¬ r25_ = 0 → Q 0)))))))) ∧ (¬ x1 = 2 → ((x1 = 3 → P_S_reader x2 v0 (fun r35_ => ((r35_ = none → Q 1) ∧ (∀ i37_, r35_ = some i37_ → Q 0)))) ∧ (¬ x1 = 3 → ((x1 = 4 → P_S_reader x2 v0 (fun r44_ => ((r44_ = none → Q 1) ∧ (∀ i46_, r44_ = some i46_ → ((¬ x3 = 1 → Q 0) ∧ (x3 = 1 → P_S_hasGap x2 v0 (fun r49_ => (((r49_ = 0 → Q 0) ∧ (¬ r49_ = 0 → Q 3)))))))))) ∧ (¬ x1 = 4 → ((x1 = 5 → P_T_isIn x2 0 5 (fun r55_ => (((r55_ = 0 → Q 2) ∧ (¬ r55_ = 0 → P_T_at 6 x2 (zSv 1) (fun r60_ => (P_T_at 6 x2 (zSv 2) (fun r64_ => (P_T_isIn x3 r60_ r64_ (fun r68_ => (((r68_ = 0 → Q 2) ∧ (¬ r68_ = 0 → Q 0))))))))))))) ∧ (¬ x1 = 5 → ((x1 = 6 → P_T_isIn x2 1 99 (fun r74_ => (((r74_ = 0 → Q 2) ∧ (¬ r74_ = 0 → Q 0))))) ∧ (¬ x1 = 6 → Q 2))))))))))))))
set_option maxRecDepth 100000 in
theorem s_S_faultOf {l : Launch} {D : zD} {B : Nat} {sa : Nat → Nat} (hfl : l.stackTraces = false) {z : Nat} {G : zG} {b0 : Nat} {x1 : Int32} {x2 : Int32} {x3 : Int32} {x4 : Int32} {v0 : ST} {Q : Int32 → Prop} (h0 : SA b0 v0 G) (h : P_S_faultOf x1 x2 x3 x4 v0 Q) : zSp l D B sa yX3_faultOf cX3_faultOf 5 (some .int) 3 65 0 0 [.ref b0, .int x1, .int x2, .int x3, .int x4] z G (zRi fun r z' G' => z = z' ∧ G = G' ∧ Q r) := by
  unfold P_S_faultOf at h
  refine z_ofW (by decide +kernel) hfl [some (.ref b0), some (.int x1), some (.int x2), some (.int x3), some (.int x4)] rfl (Nat.le_of_ble_eq_true rfl) (fun p e s m args below meth c O hret hlk hnm => ?_)
  have O : zO p l s m args c D B sa 5 cX3_faultOf RX3 := O
  refine z_iload_n O dX3_faultOf_0 rfl rfl ?_
  rcases Decidable.em (x1 = 0) with c1_ | c1_
  · have h := h.1 c1_
    refine z_tsw (v := 0) (tgt := 44) O dX3_faultOf_1 c1_ (by decide) (by decide) rfl (by decide) ?_
    refine z_aload_n O dX3_faultOf_44 rfl rfl ?_
    refine z_iload_n O dX3_faultOf_45 rfl rfl ?_
    refine z_iload_n O dX3_faultOf_46 rfl rfl ?_
    refine z_iload O dX3_faultOf_47 rfl ?_
    refine z_callVi (As := [.int x2, .int x3, .int x4]) (st := []) O (s_S_faultOfWriting hfl h0 h) wy_X3_faultOfWriting wl_RX3_152 dX3_faultOf_49 rfl rfl (S_obj h0) ⟨by decide, rfl⟩ ⟨Nat.le_of_ble_eq_true rfl, Nat.le_of_ble_eq_true rfl⟩ (Nat.le_of_ble_eq_true rfl) ⟨Nat.le_of_ble_eq_true rfl, Nat.le_of_ble_eq_true rfl⟩ (fun r2_ z3_ G4_ hq5_ => ?_)
    obtain ⟨rfl, rfl, h⟩ := hq5_
    exact z_iret O hret hlk dX3_faultOf_52 (Nat.le_of_ble_eq_true rfl) (Nat.le_of_ble_eq_true rfl) ⟨_, rfl, rfl, rfl, h⟩
  · have h := h.2 c1_
    rcases Decidable.em (x1 = 1) with c6_ | c6_
    · have h := h.1 c6_
      refine z_tsw (v := 1) (tgt := 53) O dX3_faultOf_1 c6_ (by decide) (by decide) rfl (by decide) ?_
      refine z_aload_n O dX3_faultOf_53 rfl rfl ?_
      refine z_iload_n O dX3_faultOf_54 rfl rfl ?_
      refine z_iload_n O dX3_faultOf_55 rfl rfl ?_
      refine z_iload O dX3_faultOf_56 rfl ?_
      refine z_iconst (v := 1) O dX3_faultOf_58 (by decide) ?_
      refine z_icmp_ne (tgt := 66) O dX3_faultOf_59 (by decide) (fun c7_ => ?_) (fun c7_ => ?_)
      · have h := h.1 c7_
        refine z_iconst (v := 0) O dX3_faultOf_66 (by decide) ?_
        refine z_callVi (As := [.int x2, .int x3, .int 0]) (st := []) O (s_S_faultOfJoining hfl h0 h) wy_X3_faultOfJoining wl_RX3_156 dX3_faultOf_67 rfl rfl (S_obj h0) ⟨by decide, rfl⟩ ⟨Nat.le_of_ble_eq_true rfl, Nat.le_of_ble_eq_true rfl⟩ (Nat.le_of_ble_eq_true rfl) ⟨Nat.le_of_ble_eq_true rfl, Nat.le_of_ble_eq_true rfl⟩ (fun r8_ z9_ G10_ hq11_ => ?_)
        obtain ⟨rfl, rfl, h⟩ := hq11_
        exact z_iret O hret hlk dX3_faultOf_70 (Nat.le_of_ble_eq_true rfl) (Nat.le_of_ble_eq_true rfl) ⟨_, rfl, rfl, rfl, h⟩
      · have h := h.2 c7_
        refine z_iconst (v := 1) O dX3_faultOf_62 (by decide) ?_
        refine z_goto (tgt := 67) O dX3_faultOf_63 (by decide) ?_
        refine z_callVi (As := [.int x2, .int x3, .int 1]) (st := []) O (s_S_faultOfJoining hfl h0 h) wy_X3_faultOfJoining wl_RX3_156 dX3_faultOf_67 rfl rfl (S_obj h0) ⟨by decide, rfl⟩ ⟨Nat.le_of_ble_eq_true rfl, Nat.le_of_ble_eq_true rfl⟩ (Nat.le_of_ble_eq_true rfl) ⟨Nat.le_of_ble_eq_true rfl, Nat.le_of_ble_eq_true rfl⟩ (fun r12_ z13_ G14_ hq15_ => ?_)
        obtain ⟨rfl, rfl, h⟩ := hq15_
        exact z_iret O hret hlk dX3_faultOf_70 (Nat.le_of_ble_eq_true rfl) (Nat.le_of_ble_eq_true rfl) ⟨_, rfl, rfl, rfl, h⟩
    · have h := h.2 c6_
      rcases Decidable.em (x1 = 2) with c16_ | c16_
      · have h := h.1 c16_
        refine z_tsw (v := 2) (tgt := 71) O dX3_faultOf_1 c16_ (by decide) (by decide) rfl (by decide) ?_
        refine z_aload_n O dX3_faultOf_71 rfl rfl ?_
        refine z_iload_n O dX3_faultOf_72 rfl rfl ?_
        refine z_callVa (As := [.int x2]) (st := []) O (s_S_reader hfl h0 h) wy_X3_reader wl_RX3_69 dX3_faultOf_73 rfl rfl (S_obj h0) ⟨by decide, rfl⟩ ⟨Nat.le_of_ble_eq_true rfl, Nat.le_of_ble_eq_true rfl⟩ (Nat.le_of_ble_eq_true rfl) ⟨Nat.le_of_ble_eq_true rfl, Nat.le_of_ble_eq_true rfl⟩ (fun r17_ z18_ G19_ hq20_ => ?_)
        obtain ⟨rfl, rfl, r21_, rfl, hb22_, h⟩ := hq20_
        cases r21_ with
        | none =>
          have h := h.1 rfl
          refine z_ifnonnullN O dX3_faultOf_76 ?_
          refine z_iconst (v := 1) O dX3_faultOf_79 (by decide) ?_
          refine z_goto (tgt := 98) O dX3_faultOf_80 (by decide) ?_
          exact z_iret O hret hlk dX3_faultOf_98 (Nat.le_of_ble_eq_true rfl) (Nat.le_of_ble_eq_true rfl) ⟨_, rfl, rfl, rfl, h⟩
        | some i23_ =>
          have hi24_ := hb22_ _ rfl
          have h := h.2 i23_ rfl
          refine z_ifnonnull (tgt := 83) O dX3_faultOf_76 (by decide) ?_
          refine z_iload_n O dX3_faultOf_83 rfl rfl ?_
          refine z_iconst (v := 1) O dX3_faultOf_84 (by decide) ?_
          refine z_bipush (v := 50) O dX3_faultOf_85 (by decide) ?_
          refine z_callNi (As := [.int x3, .int 1, .int 50]) (st := []) O (s_T_isIn hfl h) wy_X5_isIn wl_RX3_160 dX3_faultOf_87 rfl rfl ⟨Nat.le_of_ble_eq_true rfl, Nat.le_of_ble_eq_true rfl⟩ (Nat.le_of_ble_eq_true rfl) ⟨Nat.le_of_ble_eq_true rfl, Nat.le_of_ble_eq_true rfl⟩ (fun r25_ z26_ G27_ hq28_ => ?_)
          obtain ⟨rfl, rfl, h⟩ := hq28_
          refine z_if_eq (tgt := 97) O dX3_faultOf_90 (by decide) (fun c29_ => ?_) (fun c29_ => ?_)
          · have h := h.1 c29_
            refine z_iconst (v := 2) O dX3_faultOf_97 (by decide) ?_
            exact z_iret O hret hlk dX3_faultOf_98 (Nat.le_of_ble_eq_true rfl) (Nat.le_of_ble_eq_true rfl) ⟨_, rfl, rfl, rfl, h⟩
          · have h := h.2 c29_
            refine z_iconst (v := 0) O dX3_faultOf_93 (by decide) ?_
            refine z_goto (tgt := 98) O dX3_faultOf_94 (by decide) ?_
            exact z_iret O hret hlk dX3_faultOf_98 (Nat.le_of_ble_eq_true rfl) (Nat.le_of_ble_eq_true rfl) ⟨_, rfl, rfl, rfl, h⟩
      · have h := h.2 c16_
        rcases Decidable.em (x1 = 3) with c30_ | c30_
        · have h := h.1 c30_
          refine z_tsw (v := 3) (tgt := 99) O dX3_faultOf_1 c30_ (by decide) (by decide) rfl (by decide) ?_
          refine z_aload_n O dX3_faultOf_99 rfl rfl ?_
          refine z_iload_n O dX3_faultOf_100 rfl rfl ?_
          refine z_callVa (As := [.int x2]) (st := []) O (s_S_reader hfl h0 h) wy_X3_reader wl_RX3_69 dX3_faultOf_101 rfl rfl (S_obj h0) ⟨by decide, rfl⟩ ⟨Nat.le_of_ble_eq_true rfl, Nat.le_of_ble_eq_true rfl⟩ (Nat.le_of_ble_eq_true rfl) ⟨Nat.le_of_ble_eq_true rfl, Nat.le_of_ble_eq_true rfl⟩ (fun r31_ z32_ G33_ hq34_ => ?_)
          obtain ⟨rfl, rfl, r35_, rfl, hb36_, h⟩ := hq34_
          cases r35_ with
          | none =>
            have h := h.1 rfl
            refine z_ifnonnullN O dX3_faultOf_104 ?_
            refine z_iconst (v := 1) O dX3_faultOf_107 (by decide) ?_
            refine z_goto (tgt := 112) O dX3_faultOf_108 (by decide) ?_
            exact z_iret O hret hlk dX3_faultOf_112 (Nat.le_of_ble_eq_true rfl) (Nat.le_of_ble_eq_true rfl) ⟨_, rfl, rfl, rfl, h⟩
          | some i37_ =>
            have hi38_ := hb36_ _ rfl
            have h := h.2 i37_ rfl
            refine z_ifnonnull (tgt := 111) O dX3_faultOf_104 (by decide) ?_
            refine z_iconst (v := 0) O dX3_faultOf_111 (by decide) ?_
            exact z_iret O hret hlk dX3_faultOf_112 (Nat.le_of_ble_eq_true rfl) (Nat.le_of_ble_eq_true rfl) ⟨_, rfl, rfl, rfl, h⟩
        · have h := h.2 c30_
          rcases Decidable.em (x1 = 4) with c39_ | c39_
          · have h := h.1 c39_
            refine z_tsw (v := 4) (tgt := 113) O dX3_faultOf_1 c39_ (by decide) (by decide) rfl (by decide) ?_
            refine z_aload_n O dX3_faultOf_113 rfl rfl ?_
            refine z_iload_n O dX3_faultOf_114 rfl rfl ?_
            refine z_callVa (As := [.int x2]) (st := []) O (s_S_reader hfl h0 h) wy_X3_reader wl_RX3_69 dX3_faultOf_115 rfl rfl (S_obj h0) ⟨by decide, rfl⟩ ⟨Nat.le_of_ble_eq_true rfl, Nat.le_of_ble_eq_true rfl⟩ (Nat.le_of_ble_eq_true rfl) ⟨Nat.le_of_ble_eq_true rfl, Nat.le_of_ble_eq_true rfl⟩ (fun r40_ z41_ G42_ hq43_ => ?_)
            obtain ⟨rfl, rfl, r44_, rfl, hb45_, h⟩ := hq43_
            cases r44_ with
            | none =>
              have h := h.1 rfl
              refine z_ifnonnullN O dX3_faultOf_118 ?_
              refine z_iconst (v := 1) O dX3_faultOf_121 (by decide) ?_
              refine z_goto (tgt := 143) O dX3_faultOf_122 (by decide) ?_
              exact z_iret O hret hlk dX3_faultOf_143 (Nat.le_of_ble_eq_true rfl) (Nat.le_of_ble_eq_true rfl) ⟨_, rfl, rfl, rfl, h⟩
            | some i46_ =>
              have hi47_ := hb45_ _ rfl
              have h := h.2 i46_ rfl
              refine z_ifnonnull (tgt := 125) O dX3_faultOf_118 (by decide) ?_
              refine z_iload_n O dX3_faultOf_125 rfl rfl ?_
              refine z_iconst (v := 1) O dX3_faultOf_126 (by decide) ?_
              refine z_icmp_ne (tgt := 142) O dX3_faultOf_127 (by decide) (fun c48_ => ?_) (fun c48_ => ?_)
              · have h := h.1 c48_
                refine z_iconst (v := 0) O dX3_faultOf_142 (by decide) ?_
                exact z_iret O hret hlk dX3_faultOf_143 (Nat.le_of_ble_eq_true rfl) (Nat.le_of_ble_eq_true rfl) ⟨_, rfl, rfl, rfl, h⟩
              · have h := h.2 c48_
                refine z_aload_n O dX3_faultOf_130 rfl rfl ?_
                refine z_iload_n O dX3_faultOf_131 rfl rfl ?_
                refine z_callVi (As := [.int x2]) (st := []) O (s_S_hasGap hfl h0 h) wy_X3_hasGap wl_RX3_85 dX3_faultOf_132 rfl rfl (S_obj h0) ⟨by decide, rfl⟩ ⟨Nat.le_of_ble_eq_true rfl, Nat.le_of_ble_eq_true rfl⟩ (Nat.le_of_ble_eq_true rfl) ⟨Nat.le_of_ble_eq_true rfl, Nat.le_of_ble_eq_true rfl⟩ (fun r49_ z50_ G51_ hq52_ => ?_)
                obtain ⟨rfl, rfl, h⟩ := hq52_
                refine z_if_eq (tgt := 142) O dX3_faultOf_135 (by decide) (fun c53_ => ?_) (fun c53_ => ?_)
                · have h := h.1 c53_
                  refine z_iconst (v := 0) O dX3_faultOf_142 (by decide) ?_
                  exact z_iret O hret hlk dX3_faultOf_143 (Nat.le_of_ble_eq_true rfl) (Nat.le_of_ble_eq_true rfl) ⟨_, rfl, rfl, rfl, h⟩
                · have h := h.2 c53_
                  refine z_iconst (v := 3) O dX3_faultOf_138 (by decide) ?_
                  refine z_goto (tgt := 143) O dX3_faultOf_139 (by decide) ?_
                  exact z_iret O hret hlk dX3_faultOf_143 (Nat.le_of_ble_eq_true rfl) (Nat.le_of_ble_eq_true rfl) ⟨_, rfl, rfl, rfl, h⟩
          · have h := h.2 c39_
            rcases Decidable.em (x1 = 5) with c54_ | c54_
            · have h := h.1 c54_
              refine z_tsw (v := 5) (tgt := 144) O dX3_faultOf_1 c54_ (by decide) (by decide) rfl (by decide) ?_
              refine z_iload_n O dX3_faultOf_144 rfl rfl ?_
              refine z_iconst (v := 0) O dX3_faultOf_145 (by decide) ?_
              refine z_iconst (v := 5) O dX3_faultOf_146 (by decide) ?_
              refine z_callNi (As := [.int x2, .int 0, .int 5]) (st := []) O (s_T_isIn hfl h) wy_X5_isIn wl_RX3_160 dX3_faultOf_147 rfl rfl ⟨Nat.le_of_ble_eq_true rfl, Nat.le_of_ble_eq_true rfl⟩ (Nat.le_of_ble_eq_true rfl) ⟨Nat.le_of_ble_eq_true rfl, Nat.le_of_ble_eq_true rfl⟩ (fun r55_ z56_ G57_ hq58_ => ?_)
              obtain ⟨rfl, rfl, h⟩ := hq58_
              refine z_if_eq (tgt := 178) O dX3_faultOf_150 (by decide) (fun c59_ => ?_) (fun c59_ => ?_)
              · have h := h.1 c59_
                refine z_iconst (v := 2) O dX3_faultOf_178 (by decide) ?_
                exact z_iret O hret hlk dX3_faultOf_179 (Nat.le_of_ble_eq_true rfl) (Nat.le_of_ble_eq_true rfl) ⟨_, rfl, rfl, rfl, h⟩
              · have h := h.2 c59_
                refine z_iload_n O dX3_faultOf_153 rfl rfl ?_
                refine z_getsN (j := 1) O (by decide) (by decide +kernel) dX3_faultOf_154 ?_
                refine z_iload_n O dX3_faultOf_157 rfl rfl ?_
                refine z_callNi (As := [.ref (sa 1), .int x2]) (st := [.int x3]) O (s_T_at_st (j := 1) hfl (by decide) h) wy_X5_at wl_RX3_145 dX3_faultOf_158 rfl rfl ⟨Nat.le_of_ble_eq_true rfl, Nat.le_of_ble_eq_true rfl⟩ (Nat.le_of_ble_eq_true rfl) ⟨Nat.le_of_ble_eq_true rfl, Nat.le_of_ble_eq_true rfl⟩ (fun r60_ z61_ G62_ hq63_ => ?_)
                obtain ⟨rfl, rfl, h⟩ := hq63_
                refine z_getsN (j := 2) O (by decide) (by decide +kernel) dX3_faultOf_161 ?_
                refine z_iload_n O dX3_faultOf_164 rfl rfl ?_
                refine z_callNi (As := [.ref (sa 2), .int x2]) (st := [.int r60_, .int x3]) O (s_T_at_st (j := 2) hfl (by decide) h) wy_X5_at wl_RX3_145 dX3_faultOf_165 rfl rfl ⟨Nat.le_of_ble_eq_true rfl, Nat.le_of_ble_eq_true rfl⟩ (Nat.le_of_ble_eq_true rfl) ⟨Nat.le_of_ble_eq_true rfl, Nat.le_of_ble_eq_true rfl⟩ (fun r64_ z65_ G66_ hq67_ => ?_)
                obtain ⟨rfl, rfl, h⟩ := hq67_
                refine z_callNi (As := [.int x3, .int r60_, .int r64_]) (st := []) O (s_T_isIn hfl h) wy_X5_isIn wl_RX3_160 dX3_faultOf_168 rfl rfl ⟨Nat.le_of_ble_eq_true rfl, Nat.le_of_ble_eq_true rfl⟩ (Nat.le_of_ble_eq_true rfl) ⟨Nat.le_of_ble_eq_true rfl, Nat.le_of_ble_eq_true rfl⟩ (fun r68_ z69_ G70_ hq71_ => ?_)
                obtain ⟨rfl, rfl, h⟩ := hq71_
                refine z_if_eq (tgt := 178) O dX3_faultOf_171 (by decide) (fun c72_ => ?_) (fun c72_ => ?_)
                · have h := h.1 c72_
                  refine z_iconst (v := 2) O dX3_faultOf_178 (by decide) ?_
                  exact z_iret O hret hlk dX3_faultOf_179 (Nat.le_of_ble_eq_true rfl) (Nat.le_of_ble_eq_true rfl) ⟨_, rfl, rfl, rfl, h⟩
                · have h := h.2 c72_
                  refine z_iconst (v := 0) O dX3_faultOf_174 (by decide) ?_
                  refine z_goto (tgt := 179) O dX3_faultOf_175 (by decide) ?_
                  exact z_iret O hret hlk dX3_faultOf_179 (Nat.le_of_ble_eq_true rfl) (Nat.le_of_ble_eq_true rfl) ⟨_, rfl, rfl, rfl, h⟩
            · have h := h.2 c54_
              rcases Decidable.em (x1 = 6) with c73_ | c73_
              · have h := h.1 c73_
                refine z_tsw (v := 6) (tgt := 180) O dX3_faultOf_1 c73_ (by decide) (by decide) rfl (by decide) ?_
                refine z_iload_n O dX3_faultOf_180 rfl rfl ?_
                refine z_iconst (v := 1) O dX3_faultOf_181 (by decide) ?_
                refine z_bipush (v := 99) O dX3_faultOf_182 (by decide) ?_
                refine z_callNi (As := [.int x2, .int 1, .int 99]) (st := []) O (s_T_isIn hfl h) wy_X5_isIn wl_RX3_160 dX3_faultOf_184 rfl rfl ⟨Nat.le_of_ble_eq_true rfl, Nat.le_of_ble_eq_true rfl⟩ (Nat.le_of_ble_eq_true rfl) ⟨Nat.le_of_ble_eq_true rfl, Nat.le_of_ble_eq_true rfl⟩ (fun r74_ z75_ G76_ hq77_ => ?_)
                obtain ⟨rfl, rfl, h⟩ := hq77_
                refine z_if_eq (tgt := 194) O dX3_faultOf_187 (by decide) (fun c78_ => ?_) (fun c78_ => ?_)
                · have h := h.1 c78_
                  refine z_iconst (v := 2) O dX3_faultOf_194 (by decide) ?_
                  exact z_iret O hret hlk dX3_faultOf_195 (Nat.le_of_ble_eq_true rfl) (Nat.le_of_ble_eq_true rfl) ⟨_, rfl, rfl, rfl, h⟩
                · have h := h.2 c78_
                  refine z_iconst (v := 0) O dX3_faultOf_190 (by decide) ?_
                  refine z_goto (tgt := 195) O dX3_faultOf_191 (by decide) ?_
                  exact z_iret O hret hlk dX3_faultOf_195 (Nat.le_of_ble_eq_true rfl) (Nat.le_of_ble_eq_true rfl) ⟨_, rfl, rfl, rfl, h⟩
              · have h := h.2 c73_
                refine z_tswd (tgt := 196) O dX3_faultOf_1 (zsw_out (fun j h1 h2 => by rcases (show j = 0 ∨ j = 1 ∨ j = 2 ∨ j = 3 ∨ j = 4 ∨ j = 5 ∨ j = 6 by omega) with rfl | rfl | rfl | rfl | rfl | rfl | rfl; exact c1_; exact c6_; exact c16_; exact c30_; exact c39_; exact c54_; exact c73_)) (by decide) ?_
                refine z_iconst (v := 2) O dX3_faultOf_196 (by decide) ?_
                exact z_iret O hret hlk dX3_faultOf_197 (Nat.le_of_ble_eq_true rfl) (Nat.le_of_ble_eq_true rfl) ⟨_, rfl, rfl, rfl, h⟩
