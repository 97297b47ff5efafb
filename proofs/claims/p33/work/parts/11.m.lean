theorem dX1_endOf_0 : decode cX1_endOf 0 = .ok (.aload_n 0, 1) := by decide +kernel
theorem dX1_endOf_1 : decode cX1_endOf 1 = .ok (.iload_n 1, 1) := by decide +kernel
theorem dX1_endOf_2 : decode cX1_endOf 2 = .ok (.iconst 1, 1) := by decide +kernel
theorem dX1_endOf_3 : decode cX1_endOf 3 = .ok (.iadd, 1) := by decide +kernel
theorem dX1_endOf_4 : decode cX1_endOf 4 = .ok (.invokevirtual 50, 3) := by decide +kernel
theorem dX1_endOf_7 : decode cX1_endOf 7 = .ok (.ireturn, 1) := by decide +kernel
def P_L_endOf (x1 : Int32) (v0 : LT) (Q : Int32 → Prop) : Prop := P_L_startOf (x1 + 1) v0 (fun r1_ => (Q r1_))
set_option maxRecDepth 100000 in
theorem s_L_endOf {l : Launch} {D : zD} {B : Nat} {sa : Nat → Nat} (hfl : l.stackTraces = false) {z : Nat} {G : zG} {b0 : Nat} {x1 : Int32} {v0 : LT} {Q : Int32 → Prop} (h0 : LA b0 v0 G) (h : P_L_endOf x1 v0 Q) : zSp l D B sa yX1_endOf cX1_endOf 2 (some .int) 1 22 0 0 [.ref b0, .int x1] z G (zRi fun r z' G' => z = z' ∧ G = G' ∧ Q r) := by
  unfold P_L_endOf at h
  refine z_ofW (by decide +kernel) hfl [some (.ref b0), some (.int x1)] rfl (Nat.le_of_ble_eq_true rfl) (fun p e s m args below meth c O hret hlk hnm => ?_)
  have O : zO p l s m args c D B sa 2 cX1_endOf RX1 := O
  refine z_aload_n O dX1_endOf_0 rfl rfl ?_
  refine z_iload_n O dX1_endOf_1 rfl rfl ?_
  refine z_iconst (v := 1) O dX1_endOf_2 (by decide) ?_
  refine z_iadd O dX1_endOf_3 ?_
  refine z_callVi (As := [.int (x1 + 1)]) (st := []) O (s_L_startOf hfl h0 h) wy_X1_startOf wl_RX1_50 dX1_endOf_4 rfl rfl (L_obj h0) ⟨by decide, rfl⟩ ⟨Nat.le_of_ble_eq_true rfl, Nat.le_of_ble_eq_true rfl⟩ (Nat.le_of_ble_eq_true rfl) ⟨Nat.le_of_ble_eq_true rfl, Nat.le_of_ble_eq_true rfl⟩ (fun r1_ z2_ G3_ hq4_ => ?_)
  obtain ⟨rfl, rfl, h⟩ := hq4_
  exact z_iret O hret hlk dX1_endOf_7 (Nat.le_of_ble_eq_true rfl) (Nat.le_of_ble_eq_true rfl) ⟨_, rfl, rfl, rfl, h⟩

theorem dX1_lengthOf_0 : decode cX1_lengthOf 0 = .ok (.aload_n 0, 1) := by decide +kernel
theorem dX1_lengthOf_1 : decode cX1_lengthOf 1 = .ok (.getfield 21, 3) := by decide +kernel
theorem dX1_lengthOf_4 : decode cX1_lengthOf 4 = .ok (.iload_n 2, 1) := by decide +kernel
theorem dX1_lengthOf_5 : decode cX1_lengthOf 5 = .ok (.invokestatic 54, 3) := by decide +kernel
theorem dX1_lengthOf_8 : decode cX1_lengthOf 8 = .ok (.aload_n 0, 1) := by decide +kernel
theorem dX1_lengthOf_9 : decode cX1_lengthOf 9 = .ok (.getfield 21, 3) := by decide +kernel
theorem dX1_lengthOf_12 : decode cX1_lengthOf 12 = .ok (.iload_n 1, 1) := by decide +kernel
theorem dX1_lengthOf_13 : decode cX1_lengthOf 13 = .ok (.invokestatic 54, 3) := by decide +kernel
theorem dX1_lengthOf_16 : decode cX1_lengthOf 16 = .ok (.isub, 1) := by decide +kernel
theorem dX1_lengthOf_17 : decode cX1_lengthOf 17 = .ok (.ireturn, 1) := by decide +kernel
def P_L_lengthOf (x1 : Int32) (x2 : Int32) (v0 : LT) (Q : Int32 → Prop) : Prop := P_T_at 201 x2 (L_lengthsBelow v0) (fun r1_ => (P_T_at 201 x1 (L_lengthsBelow v0) (fun r5_ => (Q (r1_ - r5_)))))
set_option maxRecDepth 100000 in
theorem s_L_lengthOf {l : Launch} {D : zD} {B : Nat} {sa : Nat → Nat} (hfl : l.stackTraces = false) {z : Nat} {G : zG} {b0 : Nat} {x1 : Int32} {x2 : Int32} {v0 : LT} {Q : Int32 → Prop} (h0 : LA b0 v0 G) (h : P_L_lengthOf x1 x2 v0 Q) : zSp l D B sa yX1_lengthOf cX1_lengthOf 3 (some .int) 1 21 0 0 [.ref b0, .int x1, .int x2] z G (zRi fun r z' G' => z = z' ∧ G = G' ∧ Q r) := by
  unfold P_L_lengthOf at h
  refine z_ofW (by decide +kernel) hfl [some (.ref b0), some (.int x1), some (.int x2)] rfl (Nat.le_of_ble_eq_true rfl) (fun p e s m args below meth c O hret hlk hnm => ?_)
  have O : zO p l s m args c D B sa 3 cX1_lengthOf RX1 := O
  refine z_aload_n O dX1_lengthOf_0 rfl rfl ?_
  refine z_get (v := .ref (b0 + 4)) O wf_RX1_21 dX1_lengthOf_1 (L_obj h0) rfl ?_
  refine z_iload_n O dX1_lengthOf_4 rfl rfl ?_
  refine z_callNi (As := [.ref (b0 + 4), .int x2]) (st := []) O (s_T_at hfl (L_lengthsBelow_of h0) h) wy_X5_at wl_RX1_54 dX1_lengthOf_5 rfl rfl ⟨Nat.le_of_ble_eq_true rfl, Nat.le_of_ble_eq_true rfl⟩ (Nat.le_of_ble_eq_true rfl) ⟨Nat.le_of_ble_eq_true rfl, Nat.le_of_ble_eq_true rfl⟩ (fun r1_ z2_ G3_ hq4_ => ?_)
  obtain ⟨rfl, rfl, h⟩ := hq4_
  refine z_aload_n O dX1_lengthOf_8 rfl rfl ?_
  refine z_get (v := .ref (b0 + 4)) O wf_RX1_21 dX1_lengthOf_9 (L_obj h0) rfl ?_
  refine z_iload_n O dX1_lengthOf_12 rfl rfl ?_
  refine z_callNi (As := [.ref (b0 + 4), .int x1]) (st := [.int r1_]) O (s_T_at hfl (L_lengthsBelow_of h0) h) wy_X5_at wl_RX1_54 dX1_lengthOf_13 rfl rfl ⟨Nat.le_of_ble_eq_true rfl, Nat.le_of_ble_eq_true rfl⟩ (Nat.le_of_ble_eq_true rfl) ⟨Nat.le_of_ble_eq_true rfl, Nat.le_of_ble_eq_true rfl⟩ (fun r5_ z6_ G7_ hq8_ => ?_)
  obtain ⟨rfl, rfl, h⟩ := hq8_
  refine z_isub O dX1_lengthOf_16 ?_
  exact z_iret O hret hlk dX1_lengthOf_17 (Nat.le_of_ble_eq_true rfl) (Nat.le_of_ble_eq_true rfl) ⟨_, rfl, rfl, rfl, h⟩

theorem dX1_lengthFrom_0 : decode cX1_lengthFrom 0 = .ok (.iload_n 1, 1) := by decide +kernel
theorem dX1_lengthFrom_1 : decode cX1_lengthFrom 1 = .ok (.aload_n 0, 1) := by decide +kernel
theorem dX1_lengthFrom_2 : decode cX1_lengthFrom 2 = .ok (.getfield 30, 3) := by decide +kernel
theorem dX1_lengthFrom_5 : decode cX1_lengthFrom 5 = .ok (.if_icmp .le 26, 3) := by decide +kernel
theorem dX1_lengthFrom_8 : decode cX1_lengthFrom 8 = .ok (.aload_n 0, 1) := by decide +kernel
theorem dX1_lengthFrom_9 : decode cX1_lengthFrom 9 = .ok (.getfield 21, 3) := by decide +kernel
theorem dX1_lengthFrom_12 : decode cX1_lengthFrom 12 = .ok (.aload_n 0, 1) := by decide +kernel
theorem dX1_lengthFrom_13 : decode cX1_lengthFrom 13 = .ok (.getfield 34, 3) := by decide +kernel
theorem dX1_lengthFrom_16 : decode cX1_lengthFrom 16 = .ok (.invokestatic 54, 3) := by decide +kernel
theorem dX1_lengthFrom_19 : decode cX1_lengthFrom 19 = .ok (.aload_n 0, 1) := by decide +kernel
theorem dX1_lengthFrom_20 : decode cX1_lengthFrom 20 = .ok (.getfield 21, 3) := by decide +kernel
theorem dX1_lengthFrom_23 : decode cX1_lengthFrom 23 = .ok (.iload_n 1, 1) := by decide +kernel
theorem dX1_lengthFrom_24 : decode cX1_lengthFrom 24 = .ok (.invokestatic 54, 3) := by decide +kernel
theorem dX1_lengthFrom_27 : decode cX1_lengthFrom 27 = .ok (.isub, 1) := by decide +kernel
theorem dX1_lengthFrom_28 : decode cX1_lengthFrom 28 = .ok (.goto 7, 3) := by decide +kernel
theorem dX1_lengthFrom_31 : decode cX1_lengthFrom 31 = .ok (.aload_n 0, 1) := by decide +kernel
theorem dX1_lengthFrom_32 : decode cX1_lengthFrom 32 = .ok (.getfield 37, 3) := by decide +kernel
theorem dX1_lengthFrom_35 : decode cX1_lengthFrom 35 = .ok (.ireturn, 1) := by decide +kernel
def P_L_lengthFrom (x1 : Int32) (v0 : LT) (Q : Int32 → Prop) : Prop := ((x1 ≤ (L_first v0) → Q (L_length v0)) ∧ (¬ x1 ≤ (L_first v0) → P_T_at 201 (L_end v0) (L_lengthsBelow v0) (fun r2_ => (P_T_at 201 x1 (L_lengthsBelow v0) (fun r6_ => (Q (r2_ - r6_)))))))
set_option maxRecDepth 100000 in
theorem s_L_lengthFrom {l : Launch} {D : zD} {B : Nat} {sa : Nat → Nat} (hfl : l.stackTraces = false) {z : Nat} {G : zG} {b0 : Nat} {x1 : Int32} {v0 : LT} {Q : Int32 → Prop} (h0 : LA b0 v0 G) (h : P_L_lengthFrom x1 v0 Q) : zSp l D B sa yX1_lengthFrom cX1_lengthFrom 2 (some .int) 1 21 0 0 [.ref b0, .int x1] z G (zRi fun r z' G' => z = z' ∧ G = G' ∧ Q r) := by
  unfold P_L_lengthFrom at h
  refine z_ofW (by decide +kernel) hfl [some (.ref b0), some (.int x1)] rfl (Nat.le_of_ble_eq_true rfl) (fun p e s m args below meth c O hret hlk hnm => ?_)
  have O : zO p l s m args c D B sa 2 cX1_lengthFrom RX1 := O
  refine z_iload_n O dX1_lengthFrom_0 rfl rfl ?_
  refine z_aload_n O dX1_lengthFrom_1 rfl rfl ?_
  refine z_get (v := .int (L_first v0)) O wf_RX1_30 dX1_lengthFrom_2 (L_obj h0) rfl ?_
  refine z_icmp_le (tgt := 31) O dX1_lengthFrom_5 (by decide) (fun c1_ => ?_) (fun c1_ => ?_)
  · have h := h.1 c1_
    refine z_aload_n O dX1_lengthFrom_31 rfl rfl ?_
    refine z_get (v := .int (L_length v0)) O wf_RX1_37 dX1_lengthFrom_32 (L_obj h0) rfl ?_
    exact z_iret O hret hlk dX1_lengthFrom_35 (Nat.le_of_ble_eq_true rfl) (Nat.le_of_ble_eq_true rfl) ⟨_, rfl, rfl, rfl, h⟩
  · have h := h.2 c1_
    refine z_aload_n O dX1_lengthFrom_8 rfl rfl ?_
    refine z_get (v := .ref (b0 + 4)) O wf_RX1_21 dX1_lengthFrom_9 (L_obj h0) rfl ?_
    refine z_aload_n O dX1_lengthFrom_12 rfl rfl ?_
    refine z_get (v := .int (L_end v0)) O wf_RX1_34 dX1_lengthFrom_13 (L_obj h0) rfl ?_
    refine z_callNi (As := [.ref (b0 + 4), .int (L_end v0)]) (st := []) O (s_T_at hfl (L_lengthsBelow_of h0) h) wy_X5_at wl_RX1_54 dX1_lengthFrom_16 rfl rfl ⟨Nat.le_of_ble_eq_true rfl, Nat.le_of_ble_eq_true rfl⟩ (Nat.le_of_ble_eq_true rfl) ⟨Nat.le_of_ble_eq_true rfl, Nat.le_of_ble_eq_true rfl⟩ (fun r2_ z3_ G4_ hq5_ => ?_)
    obtain ⟨rfl, rfl, h⟩ := hq5_
    refine z_aload_n O dX1_lengthFrom_19 rfl rfl ?_
    refine z_get (v := .ref (b0 + 4)) O wf_RX1_21 dX1_lengthFrom_20 (L_obj h0) rfl ?_
    refine z_iload_n O dX1_lengthFrom_23 rfl rfl ?_
    refine z_callNi (As := [.ref (b0 + 4), .int x1]) (st := [.int r2_]) O (s_T_at hfl (L_lengthsBelow_of h0) h) wy_X5_at wl_RX1_54 dX1_lengthFrom_24 rfl rfl ⟨Nat.le_of_ble_eq_true rfl, Nat.le_of_ble_eq_true rfl⟩ (Nat.le_of_ble_eq_true rfl) ⟨Nat.le_of_ble_eq_true rfl, Nat.le_of_ble_eq_true rfl⟩ (fun r6_ z7_ G8_ hq9_ => ?_)
    obtain ⟨rfl, rfl, h⟩ := hq9_
    refine z_isub O dX1_lengthFrom_27 ?_
    refine z_goto (tgt := 35) O dX1_lengthFrom_28 (by decide) ?_
    exact z_iret O hret hlk dX1_lengthFrom_35 (Nat.le_of_ble_eq_true rfl) (Nat.le_of_ble_eq_true rfl) ⟨_, rfl, rfl, rfl, h⟩

theorem dX1_startAround_0 : decode cX1_startAround 0 = .ok (.aload_n 0, 1) := by decide +kernel
theorem dX1_startAround_1 : decode cX1_startAround 1 = .ok (.getfield 30, 3) := by decide +kernel
theorem dX1_startAround_4 : decode cX1_startAround 4 = .ok (.istore_n 2, 1) := by decide +kernel
theorem dX1_startAround_5 : decode cX1_startAround 5 = .ok (.iconst 0, 1) := by decide +kernel
theorem dX1_startAround_6 : decode cX1_startAround 6 = .ok (.istore_n 3, 1) := by decide +kernel
theorem dX1_startAround_7 : decode cX1_startAround 7 = .ok (.iload_n 3, 1) := by decide +kernel
theorem dX1_startAround_8 : decode cX1_startAround 8 = .ok (.aload_n 0, 1) := by decide +kernel
theorem dX1_startAround_9 : decode cX1_startAround 9 = .ok (.invokevirtual 58, 3) := by decide +kernel
theorem dX1_startAround_12 : decode cX1_startAround 12 = .ok (.if_icmp .ge 24, 3) := by decide +kernel
theorem dX1_startAround_15 : decode cX1_startAround 15 = .ok (.aload_n 0, 1) := by decide +kernel
theorem dX1_startAround_16 : decode cX1_startAround 16 = .ok (.iload_n 3, 1) := by decide +kernel
theorem dX1_startAround_17 : decode cX1_startAround 17 = .ok (.invokevirtual 50, 3) := by decide +kernel
theorem dX1_startAround_20 : decode cX1_startAround 20 = .ok (.iload_n 1, 1) := by decide +kernel
theorem dX1_startAround_21 : decode cX1_startAround 21 = .ok (.if_icmp .gt 15, 3) := by decide +kernel
theorem dX1_startAround_24 : decode cX1_startAround 24 = .ok (.aload_n 0, 1) := by decide +kernel
theorem dX1_startAround_25 : decode cX1_startAround 25 = .ok (.iload_n 3, 1) := by decide +kernel
theorem dX1_startAround_26 : decode cX1_startAround 26 = .ok (.invokevirtual 50, 3) := by decide +kernel
theorem dX1_startAround_29 : decode cX1_startAround 29 = .ok (.istore_n 2, 1) := by decide +kernel
theorem dX1_startAround_30 : decode cX1_startAround 30 = .ok (.iinc 3 1, 3) := by decide +kernel
theorem dX1_startAround_33 : decode cX1_startAround 33 = .ok (.goto (-26), 3) := by decide +kernel
theorem dX1_startAround_36 : decode cX1_startAround 36 = .ok (.iload_n 2, 1) := by decide +kernel
theorem dX1_startAround_37 : decode cX1_startAround 37 = .ok (.ireturn, 1) := by decide +kernel
def PL_L_startAround_7 : Nat → Int32 → LT → Int32 → Int32 → Int32 → (Int32 → Prop) → Prop
  | 0, _, _, _, _, _, _ => False
  | n + 1, x1, v0, y1, y2, y3, Q => P_L_segments v0 (fun r1_ => (((r1_ ≤ y3 → Q y2) ∧ (¬ r1_ ≤ y3 → P_L_startOf y3 v0 (fun r6_ => (((y1 < r6_ → Q y2) ∧ (¬ y1 < r6_ → P_L_startOf y3 v0 (fun r11_ => ((fun y1 y2 y3 => PL_L_startAround_7 n x1 v0 y1 y2 y3  Q) y1 r11_ (y3 + 1)))))))))))
def P_L_startAround (x1 : Int32) (v0 : LT) (Q : Int32 → Prop) : Prop := (∃ n15_, PL_L_startAround_7 n15_ x1 v0 x1 (L_first v0) 0 Q)
set_option maxRecDepth 100000 in
theorem s_L_startAround {l : Launch} {D : zD} {B : Nat} {sa : Nat → Nat} (hfl : l.stackTraces = false) {z : Nat} {G : zG} {b0 : Nat} {x1 : Int32} {v0 : LT} {Q : Int32 → Prop} (h0 : LA b0 v0 G) (h : P_L_startAround x1 v0 Q) : zSp l D B sa yX1_startAround cX1_startAround 4 (some .int) 1 22 0 0 [.ref b0, .int x1] z G (zRi fun r z' G' => z = z' ∧ G = G' ∧ Q r) := by
  unfold P_L_startAround at h
  refine z_ofW (by decide +kernel) hfl [some (.ref b0), some (.int x1), none, none] rfl (Nat.le_of_ble_eq_true rfl) (fun p e s m args below meth c O hret hlk hnm => ?_)
  have O : zO p l s m args c D B sa 4 cX1_startAround RX1 := O
  have HL7 : ∀ (n9 : Nat)    (y1 : Int32) (y2 : Int32) (y3 : Int32) (h : PL_L_startAround_7 n9 x1 v0 y1 y2 y3 Q), zT p l e (zrm 1 22 0 0) s m args below meth c (zEnd below D B (zRi fun r z' G' => z = z' ∧ G = G' ∧ Q r) args s 0 0) D B 4 0 0 7 [] [some (.ref b0), some (.int y1), some (.int y2), some (.int y3)] z G := by
    intro n9   
    induction n9 with
    | zero =>
      intro _ _ _ h
      exact (h : False).elim
    | succ n ih =>
      intro y1 y2 y3 h
      rw [PL_L_startAround_7] at h
      refine z_iload_n O dX1_startAround_7 rfl rfl ?_
      refine z_aload_n O dX1_startAround_8 rfl rfl ?_
      refine z_callVi (As := []) (st := [.int y3]) O (s_L_segments hfl h0 h) wy_X1_segments wl_RX1_58 dX1_startAround_9 rfl rfl (L_obj h0) ⟨by decide, rfl⟩ ⟨Nat.le_of_ble_eq_true rfl, Nat.le_of_ble_eq_true rfl⟩ (Nat.le_of_ble_eq_true rfl) ⟨Nat.le_of_ble_eq_true rfl, Nat.le_of_ble_eq_true rfl⟩ (fun r1_ z2_ G3_ hq4_ => ?_)
      obtain ⟨rfl, rfl, h⟩ := hq4_
      refine z_icmp_ge (tgt := 36) O dX1_startAround_12 (by decide) (fun c5_ => ?_) (fun c5_ => ?_)
      · have h := h.1 c5_
        refine z_iload_n O dX1_startAround_36 rfl rfl ?_
        exact z_iret O hret hlk dX1_startAround_37 (Nat.le_of_ble_eq_true rfl) (Nat.le_of_ble_eq_true rfl) ⟨_, rfl, rfl, rfl, h⟩
      · have h := h.2 c5_
        refine z_aload_n O dX1_startAround_15 rfl rfl ?_
        refine z_iload_n O dX1_startAround_16 rfl rfl ?_
        refine z_callVi (As := [.int y3]) (st := []) O (s_L_startOf hfl h0 h) wy_X1_startOf wl_RX1_50 dX1_startAround_17 rfl rfl (L_obj h0) ⟨by decide, rfl⟩ ⟨Nat.le_of_ble_eq_true rfl, Nat.le_of_ble_eq_true rfl⟩ (Nat.le_of_ble_eq_true rfl) ⟨Nat.le_of_ble_eq_true rfl, Nat.le_of_ble_eq_true rfl⟩ (fun r6_ z7_ G8_ hq9_ => ?_)
        obtain ⟨rfl, rfl, h⟩ := hq9_
        refine z_iload_n O dX1_startAround_20 rfl rfl ?_
        refine z_icmp_gt (tgt := 36) O dX1_startAround_21 (by decide) (fun c10_ => ?_) (fun c10_ => ?_)
        · have h := h.1 c10_
          refine z_iload_n O dX1_startAround_36 rfl rfl ?_
          exact z_iret O hret hlk dX1_startAround_37 (Nat.le_of_ble_eq_true rfl) (Nat.le_of_ble_eq_true rfl) ⟨_, rfl, rfl, rfl, h⟩
        · have h := h.2 c10_
          refine z_aload_n O dX1_startAround_24 rfl rfl ?_
          refine z_iload_n O dX1_startAround_25 rfl rfl ?_
          refine z_callVi (As := [.int y3]) (st := []) O (s_L_startOf hfl h0 h) wy_X1_startOf wl_RX1_50 dX1_startAround_26 rfl rfl (L_obj h0) ⟨by decide, rfl⟩ ⟨Nat.le_of_ble_eq_true rfl, Nat.le_of_ble_eq_true rfl⟩ (Nat.le_of_ble_eq_true rfl) ⟨Nat.le_of_ble_eq_true rfl, Nat.le_of_ble_eq_true rfl⟩ (fun r11_ z12_ G13_ hq14_ => ?_)
          obtain ⟨rfl, rfl, h⟩ := hq14_
          refine z_istore_n (L' := [some (.ref b0), some (.int y1), some (.int r11_), some (.int y3)]) O dX1_startAround_29 rfl (by decide) rfl ?_
          refine z_iinc (v := (y3 + 1)) (L' := [some (.ref b0), some (.int y1), some (.int r11_), some (.int (y3 + 1))]) O dX1_startAround_30 rfl (by first | rfl | decide) (by decide) rfl ?_
          refine z_goto (tgt := 7) O dX1_startAround_33 (by decide) ?_
          exact z_subL (L' := [some (.ref b0), some (.int y1), some (.int r11_), some (.int (y3 + 1))]) (zLe.sub (And.intro rfl (And.intro rfl (And.intro rfl (And.intro rfl True.intro))))) (ih y1 r11_ (y3 + 1) h)
  refine z_aload_n O dX1_startAround_0 rfl rfl ?_
  refine z_get (v := .int (L_first v0)) O wf_RX1_30 dX1_startAround_1 (L_obj h0) rfl ?_
  refine z_istore_n (L' := [some (.ref b0), some (.int x1), some (.int (L_first v0)), none]) O dX1_startAround_4 rfl (by decide) rfl ?_
  refine z_iconst (v := 0) O dX1_startAround_5 (by decide) ?_
  refine z_istore_n (L' := [some (.ref b0), some (.int x1), some (.int (L_first v0)), some (.int 0)]) O dX1_startAround_6 rfl (by decide) rfl ?_
  obtain ⟨n15_, h⟩ := h
  exact z_subL (L' := [some (.ref b0), some (.int x1), some (.int (L_first v0)), some (.int 0)]) (zLe.sub (And.intro rfl (And.intro rfl (And.intro rfl (And.intro rfl True.intro))))) (HL7 n15_ x1 (L_first v0) 0 h)

theorem dX1_rowNumber_0 : decode cX1_rowNumber 0 = .ok (.iload_n 2, 1) := by decide +kernel
theorem dX1_rowNumber_1 : decode cX1_rowNumber 1 = .ok (.tableswitch 67 0 3 #[31, 40, 49, 58], 31) := by decide +kernel
theorem dX1_rowNumber_32 : decode cX1_rowNumber 32 = .ok (.aload_n 0, 1) := by decide +kernel
theorem dX1_rowNumber_33 : decode cX1_rowNumber 33 = .ok (.getfield 9, 3) := by decide +kernel
theorem dX1_rowNumber_36 : decode cX1_rowNumber 36 = .ok (.iload_n 1, 1) := by decide +kernel
theorem dX1_rowNumber_37 : decode cX1_rowNumber 37 = .ok (.invokestatic 54, 3) := by decide +kernel
theorem dX1_rowNumber_40 : decode cX1_rowNumber 40 = .ok (.ireturn, 1) := by decide +kernel
theorem dX1_rowNumber_41 : decode cX1_rowNumber 41 = .ok (.aload_n 0, 1) := by decide +kernel
theorem dX1_rowNumber_42 : decode cX1_rowNumber 42 = .ok (.getfield 15, 3) := by decide +kernel
theorem dX1_rowNumber_45 : decode cX1_rowNumber 45 = .ok (.iload_n 1, 1) := by decide +kernel
theorem dX1_rowNumber_46 : decode cX1_rowNumber 46 = .ok (.invokestatic 54, 3) := by decide +kernel
theorem dX1_rowNumber_49 : decode cX1_rowNumber 49 = .ok (.ireturn, 1) := by decide +kernel
theorem dX1_rowNumber_50 : decode cX1_rowNumber 50 = .ok (.aload_n 0, 1) := by decide +kernel
theorem dX1_rowNumber_51 : decode cX1_rowNumber 51 = .ok (.iload_n 1, 1) := by decide +kernel
theorem dX1_rowNumber_52 : decode cX1_rowNumber 52 = .ok (.iload_n 1, 1) := by decide +kernel
theorem dX1_rowNumber_53 : decode cX1_rowNumber 53 = .ok (.iconst 1, 1) := by decide +kernel
theorem dX1_rowNumber_54 : decode cX1_rowNumber 54 = .ok (.iadd, 1) := by decide +kernel
theorem dX1_rowNumber_55 : decode cX1_rowNumber 55 = .ok (.invokevirtual 62, 3) := by decide +kernel
theorem dX1_rowNumber_58 : decode cX1_rowNumber 58 = .ok (.ireturn, 1) := by decide +kernel
theorem dX1_rowNumber_59 : decode cX1_rowNumber 59 = .ok (.aload_n 0, 1) := by decide +kernel
theorem dX1_rowNumber_60 : decode cX1_rowNumber 60 = .ok (.getfield 18, 3) := by decide +kernel
theorem dX1_rowNumber_63 : decode cX1_rowNumber 63 = .ok (.iload_n 1, 1) := by decide +kernel
theorem dX1_rowNumber_64 : decode cX1_rowNumber 64 = .ok (.invokestatic 54, 3) := by decide +kernel
theorem dX1_rowNumber_67 : decode cX1_rowNumber 67 = .ok (.ireturn, 1) := by decide +kernel
theorem dX1_rowNumber_68 : decode cX1_rowNumber 68 = .ok (.aload_n 0, 1) := by decide +kernel
theorem dX1_rowNumber_69 : decode cX1_rowNumber 69 = .ok (.iload_n 1, 1) := by decide +kernel
theorem dX1_rowNumber_70 : decode cX1_rowNumber 70 = .ok (.invokevirtual 66, 3) := by decide +kernel
theorem dX1_rowNumber_73 : decode cX1_rowNumber 73 = .ok (.ireturn, 1) := by decide +kernel
def P_L_rowNumber (x1 : Int32) (x2 : Int32) (v0 : LT) (Q : Int32 → Prop) : Prop := ((x2 = 0 → P_T_at 200 x1 (L_keys v0) (fun r2_ => (Q r2_))) ∧ (¬ x2 = 0 → ((x2 = 1 → P_T_at 200 x1 (L_values v0) (fun r7_ => (Q r7_))) ∧ (¬ x2 = 1 → ((x2 = 2 → P_L_lengthOf x1 (x1 + 1) v0 (fun r12_ => (Q r12_))) ∧ (¬ x2 = 2 → ((x2 = 3 → P_T_at 200 x1 (L_times v0) (fun r17_ => (Q r17_))) ∧ (¬ x2 = 3 → P_L_startAround x1 v0 (fun r21_ => (Q r21_))))))))))
set_option maxRecDepth 100000 in
theorem s_L_rowNumber {l : Launch} {D : zD} {B : Nat} {sa : Nat → Nat} (hfl : l.stackTraces = false) {z : Nat} {G : zG} {b0 : Nat} {x1 : Int32} {x2 : Int32} {v0 : LT} {Q : Int32 → Prop} (h0 : LA b0 v0 G) (h : P_L_rowNumber x1 x2 v0 Q) : zSp l D B sa yX1_rowNumber cX1_rowNumber 3 (some .int) 2 45 0 0 [.ref b0, .int x1, .int x2] z G (zRi fun r z' G' => z = z' ∧ G = G' ∧ Q r) := by
  unfold P_L_rowNumber at h
  refine z_ofW (by decide +kernel) hfl [some (.ref b0), some (.int x1), some (.int x2)] rfl (Nat.le_of_ble_eq_true rfl) (fun p e s m args below meth c O hret hlk hnm => ?_)
  have O : zO p l s m args c D B sa 3 cX1_rowNumber RX1 := O
  refine z_iload_n O dX1_rowNumber_0 rfl rfl ?_
  rcases Decidable.em (x2 = 0) with c1_ | c1_
  · have h := h.1 c1_
    refine z_tsw (v := 0) (tgt := 32) O dX1_rowNumber_1 c1_ (by decide) (by decide) rfl (by decide) ?_
    refine z_aload_n O dX1_rowNumber_32 rfl rfl ?_
    refine z_get (v := .ref (b0 + 1)) O wf_RX1_9 dX1_rowNumber_33 (L_obj h0) rfl ?_
    refine z_iload_n O dX1_rowNumber_36 rfl rfl ?_
    refine z_callNi (As := [.ref (b0 + 1), .int x1]) (st := []) O (s_T_at hfl (L_keys_of h0) h) wy_X5_at wl_RX1_54 dX1_rowNumber_37 rfl rfl ⟨Nat.le_of_ble_eq_true rfl, Nat.le_of_ble_eq_true rfl⟩ (Nat.le_of_ble_eq_true rfl) ⟨Nat.le_of_ble_eq_true rfl, Nat.le_of_ble_eq_true rfl⟩ (fun r2_ z3_ G4_ hq5_ => ?_)
    obtain ⟨rfl, rfl, h⟩ := hq5_
    exact z_iret O hret hlk dX1_rowNumber_40 (Nat.le_of_ble_eq_true rfl) (Nat.le_of_ble_eq_true rfl) ⟨_, rfl, rfl, rfl, h⟩
  · have h := h.2 c1_
    rcases Decidable.em (x2 = 1) with c6_ | c6_
    · have h := h.1 c6_
      refine z_tsw (v := 1) (tgt := 41) O dX1_rowNumber_1 c6_ (by decide) (by decide) rfl (by decide) ?_
      refine z_aload_n O dX1_rowNumber_41 rfl rfl ?_
      refine z_get (v := .ref (b0 + 2)) O wf_RX1_15 dX1_rowNumber_42 (L_obj h0) rfl ?_
      refine z_iload_n O dX1_rowNumber_45 rfl rfl ?_
      refine z_callNi (As := [.ref (b0 + 2), .int x1]) (st := []) O (s_T_at hfl (L_values_of h0) h) wy_X5_at wl_RX1_54 dX1_rowNumber_46 rfl rfl ⟨Nat.le_of_ble_eq_true rfl, Nat.le_of_ble_eq_true rfl⟩ (Nat.le_of_ble_eq_true rfl) ⟨Nat.le_of_ble_eq_true rfl, Nat.le_of_ble_eq_true rfl⟩ (fun r7_ z8_ G9_ hq10_ => ?_)
      obtain ⟨rfl, rfl, h⟩ := hq10_
      exact z_iret O hret hlk dX1_rowNumber_49 (Nat.le_of_ble_eq_true rfl) (Nat.le_of_ble_eq_true rfl) ⟨_, rfl, rfl, rfl, h⟩
    · have h := h.2 c6_
      rcases Decidable.em (x2 = 2) with c11_ | c11_
      · have h := h.1 c11_
        refine z_tsw (v := 2) (tgt := 50) O dX1_rowNumber_1 c11_ (by decide) (by decide) rfl (by decide) ?_
        refine z_aload_n O dX1_rowNumber_50 rfl rfl ?_
        refine z_iload_n O dX1_rowNumber_51 rfl rfl ?_
        refine z_iload_n O dX1_rowNumber_52 rfl rfl ?_
        refine z_iconst (v := 1) O dX1_rowNumber_53 (by decide) ?_
        refine z_iadd O dX1_rowNumber_54 ?_
        refine z_callVi (As := [.int x1, .int (x1 + 1)]) (st := []) O (s_L_lengthOf hfl h0 h) wy_X1_lengthOf wl_RX1_62 dX1_rowNumber_55 rfl rfl (L_obj h0) ⟨by decide, rfl⟩ ⟨Nat.le_of_ble_eq_true rfl, Nat.le_of_ble_eq_true rfl⟩ (Nat.le_of_ble_eq_true rfl) ⟨Nat.le_of_ble_eq_true rfl, Nat.le_of_ble_eq_true rfl⟩ (fun r12_ z13_ G14_ hq15_ => ?_)
        obtain ⟨rfl, rfl, h⟩ := hq15_
        exact z_iret O hret hlk dX1_rowNumber_58 (Nat.le_of_ble_eq_true rfl) (Nat.le_of_ble_eq_true rfl) ⟨_, rfl, rfl, rfl, h⟩
      · have h := h.2 c11_
        rcases Decidable.em (x2 = 3) with c16_ | c16_
        · have h := h.1 c16_
          refine z_tsw (v := 3) (tgt := 59) O dX1_rowNumber_1 c16_ (by decide) (by decide) rfl (by decide) ?_
          refine z_aload_n O dX1_rowNumber_59 rfl rfl ?_
          refine z_get (v := .ref (b0 + 3)) O wf_RX1_18 dX1_rowNumber_60 (L_obj h0) rfl ?_
          refine z_iload_n O dX1_rowNumber_63 rfl rfl ?_
          refine z_callNi (As := [.ref (b0 + 3), .int x1]) (st := []) O (s_T_at hfl (L_times_of h0) h) wy_X5_at wl_RX1_54 dX1_rowNumber_64 rfl rfl ⟨Nat.le_of_ble_eq_true rfl, Nat.le_of_ble_eq_true rfl⟩ (Nat.le_of_ble_eq_true rfl) ⟨Nat.le_of_ble_eq_true rfl, Nat.le_of_ble_eq_true rfl⟩ (fun r17_ z18_ G19_ hq20_ => ?_)
          obtain ⟨rfl, rfl, h⟩ := hq20_
          exact z_iret O hret hlk dX1_rowNumber_67 (Nat.le_of_ble_eq_true rfl) (Nat.le_of_ble_eq_true rfl) ⟨_, rfl, rfl, rfl, h⟩
        · have h := h.2 c16_
          refine z_tswd (tgt := 68) O dX1_rowNumber_1 (zsw_out (fun j h1 h2 => by rcases (show j = 0 ∨ j = 1 ∨ j = 2 ∨ j = 3 by omega) with rfl | rfl | rfl | rfl; exact c1_; exact c6_; exact c11_; exact c16_)) (by decide) ?_
          refine z_aload_n O dX1_rowNumber_68 rfl rfl ?_
          refine z_iload_n O dX1_rowNumber_69 rfl rfl ?_
          refine z_callVi (As := [.int x1]) (st := []) O (s_L_startAround hfl h0 h) wy_X1_startAround wl_RX1_66 dX1_rowNumber_70 rfl rfl (L_obj h0) ⟨by decide, rfl⟩ ⟨Nat.le_of_ble_eq_true rfl, Nat.le_of_ble_eq_true rfl⟩ (Nat.le_of_ble_eq_true rfl) ⟨Nat.le_of_ble_eq_true rfl, Nat.le_of_ble_eq_true rfl⟩ (fun r21_ z22_ G23_ hq24_ => ?_)
          obtain ⟨rfl, rfl, h⟩ := hq24_
          exact z_iret O hret hlk dX1_rowNumber_73 (Nat.le_of_ble_eq_true rfl) (Nat.le_of_ble_eq_true rfl) ⟨_, rfl, rfl, rfl, h⟩

theorem dX5_put_0 : decode cX5_put 0 = .ok (.iload_n 1, 1) := by decide +kernel
theorem dX5_put_1 : decode cX5_put 1 = .ok (.ifCond .lt 13, 3) := by decide +kernel
theorem dX5_put_4 : decode cX5_put 4 = .ok (.iload_n 1, 1) := by decide +kernel
theorem dX5_put_5 : decode cX5_put 5 = .ok (.aload_n 0, 1) := by decide +kernel
theorem dX5_put_6 : decode cX5_put 6 = .ok (.arraylength, 1) := by decide +kernel
theorem dX5_put_7 : decode cX5_put 7 = .ok (.if_icmp .ge 7, 3) := by decide +kernel
theorem dX5_put_10 : decode cX5_put 10 = .ok (.aload_n 0, 1) := by decide +kernel
theorem dX5_put_11 : decode cX5_put 11 = .ok (.iload_n 1, 1) := by decide +kernel
theorem dX5_put_12 : decode cX5_put 12 = .ok (.iload_n 2, 1) := by decide +kernel
theorem dX5_put_13 : decode cX5_put 13 = .ok (.iastore, 1) := by decide +kernel
theorem dX5_put_14 : decode cX5_put 14 = .ok (.return_, 1) := by decide +kernel
def P_T_put (N0 : Nat) (x1 : Int32) (x2 : Int32) (v0 : (Nat → Int32)) (Q : (Nat → Int32) → Prop) : Prop := ((x1 < 0 → Q v0) ∧ (¬ x1 < 0 → (((Int32.ofNat N0) ≤ x1 → Q v0) ∧ (¬ (Int32.ofNat N0) ≤ x1 → vp_in x1 N0 ∧ (∀ v8_, v8_ = (upd v0 (Int32.toNatClampNeg x1) x2) → (Q v8_))))))
set_option maxRecDepth 100000 in
theorem s_T_put {l : Launch} {D : zD} {B : Nat} {sa : Nat → Nat} (hfl : l.stackTraces = false) {z : Nat} {G : zG} {b0 : Nat} {N0 : Nat} {x1 : Int32} {x2 : Int32} {v0 : (Nat → Int32)} {Q : (Nat → Int32) → Prop} (h0 : G b0 = some (zia N0 v0)) (h : P_T_put N0 x1 x2 v0 Q) : zSp l D B sa yX5_put cX5_put 3 none 0 0 0 0 [.ref b0, .int x1, .int x2] z G (zRv fun z' G' => z = z' ∧ ∃ w, G' b0 = some (zia N0 w) ∧ Fr b0 1 G G' ∧ Q w) := by
  unfold P_T_put at h
  refine z_ofW (by decide +kernel) hfl [some (.ref b0), some (.int x1), some (.int x2)] rfl (Nat.le_of_ble_eq_true rfl) (fun p e s m args below meth c O hret hlk hnm => ?_)
  have O : zO p l s m args c D B sa 3 cX5_put RX5 := O
  refine z_iload_n O dX5_put_0 rfl rfl ?_
  refine z_if_lt (tgt := 14) O dX5_put_1 (by decide) (fun c1_ => ?_) (fun c1_ => ?_)
  · have h := h.1 c1_
    exact z_vret O hret hlk dX5_put_14 (Nat.le_of_ble_eq_true rfl) (Nat.le_of_ble_eq_true rfl) ⟨rfl, rfl, _, h0, Fr.rf, h⟩
  · have h := h.2 c1_
    refine z_iload_n O dX5_put_4 rfl rfl ?_
    refine z_aload_n O dX5_put_5 rfl rfl ?_
    refine z_alen (v := (Int32.ofNat N0)) O dX5_put_6 h0 rfl ?_
    refine z_icmp_ge (tgt := 14) O dX5_put_7 (by decide) (fun c2_ => ?_) (fun c2_ => ?_)
    · have h := h.1 c2_
      exact z_vret O hret hlk dX5_put_14 (Nat.le_of_ble_eq_true rfl) (Nat.le_of_ble_eq_true rfl) ⟨rfl, rfl, _, h0, Fr.rf, h⟩
    · have h := h.2 c2_
      refine z_aload_n O dX5_put_10 rfl rfl ?_
      refine z_iload_n O dX5_put_11 rfl rfl ?_
      refine z_iload_n O dX5_put_12 rfl rfl ?_
      obtain ⟨q3_, h⟩ := h
      refine y_iast O dX5_put_13 h0 q3_ (fun G4_ hw5_ => ?_)
      have k6_ := hw5_.1
      have f7_ := hw5_.fr
      obtain ⟨v8_, ev8_⟩ : ∃ w, w = (upd v0 (Int32.toNatClampNeg x1) x2) := ⟨_, rfl⟩
      have h := h v8_ ev8_
      have k9_ : G4_ b0 = some (zia N0 v8_) := by rw [ev8_]; exact k6_
      have F10_ : Fr b0 1 G G4_ := Fr.trans Fr.rf f7_
      exact z_vret O hret hlk dX5_put_14 (Nat.le_of_ble_eq_true rfl) (Nat.le_of_ble_eq_true rfl) ⟨rfl, rfl, _, k9_, F10_, h⟩

theorem dX1_add_0 : decode cX1_add 0 = .ok (.aload_n 0, 1) := by decide +kernel
theorem dX1_add_1 : decode cX1_add 1 = .ok (.getfield 34, 3) := by decide +kernel
theorem dX1_add_4 : decode cX1_add 4 = .ok (.istore 5, 2) := by decide +kernel
theorem dX1_add_6 : decode cX1_add 6 = .ok (.aload_n 0, 1) := by decide +kernel
theorem dX1_add_7 : decode cX1_add 7 = .ok (.getfield 9, 3) := by decide +kernel
theorem dX1_add_10 : decode cX1_add 10 = .ok (.iload 5, 2) := by decide +kernel
theorem dX1_add_12 : decode cX1_add 12 = .ok (.iload_n 1, 1) := by decide +kernel
theorem dX1_add_13 : decode cX1_add 13 = .ok (.invokestatic 69, 3) := by decide +kernel
theorem dX1_add_16 : decode cX1_add 16 = .ok (.aload_n 0, 1) := by decide +kernel
theorem dX1_add_17 : decode cX1_add 17 = .ok (.getfield 15, 3) := by decide +kernel
theorem dX1_add_20 : decode cX1_add 20 = .ok (.iload 5, 2) := by decide +kernel
theorem dX1_add_22 : decode cX1_add 22 = .ok (.iload_n 2, 1) := by decide +kernel
theorem dX1_add_23 : decode cX1_add 23 = .ok (.invokestatic 69, 3) := by decide +kernel
theorem dX1_add_26 : decode cX1_add 26 = .ok (.aload_n 0, 1) := by decide +kernel
theorem dX1_add_27 : decode cX1_add 27 = .ok (.getfield 18, 3) := by decide +kernel
theorem dX1_add_30 : decode cX1_add 30 = .ok (.iload 5, 2) := by decide +kernel
theorem dX1_add_32 : decode cX1_add 32 = .ok (.iload 4, 2) := by decide +kernel
theorem dX1_add_34 : decode cX1_add 34 = .ok (.invokestatic 69, 3) := by decide +kernel
theorem dX1_add_37 : decode cX1_add 37 = .ok (.aload_n 0, 1) := by decide +kernel
theorem dX1_add_38 : decode cX1_add 38 = .ok (.getfield 21, 3) := by decide +kernel
theorem dX1_add_41 : decode cX1_add 41 = .ok (.iload 5, 2) := by decide +kernel
theorem dX1_add_43 : decode cX1_add 43 = .ok (.iconst 1, 1) := by decide +kernel
theorem dX1_add_44 : decode cX1_add 44 = .ok (.iadd, 1) := by decide +kernel
theorem dX1_add_45 : decode cX1_add 45 = .ok (.aload_n 0, 1) := by decide +kernel
theorem dX1_add_46 : decode cX1_add 46 = .ok (.getfield 21, 3) := by decide +kernel
theorem dX1_add_49 : decode cX1_add 49 = .ok (.iload 5, 2) := by decide +kernel
theorem dX1_add_51 : decode cX1_add 51 = .ok (.invokestatic 54, 3) := by decide +kernel
theorem dX1_add_54 : decode cX1_add 54 = .ok (.iload_n 3, 1) := by decide +kernel
theorem dX1_add_55 : decode cX1_add 55 = .ok (.iadd, 1) := by decide +kernel
theorem dX1_add_56 : decode cX1_add 56 = .ok (.invokestatic 69, 3) := by decide +kernel
theorem dX1_add_59 : decode cX1_add 59 = .ok (.aload_n 0, 1) := by decide +kernel
theorem dX1_add_60 : decode cX1_add 60 = .ok (.iload 5, 2) := by decide +kernel
theorem dX1_add_62 : decode cX1_add 62 = .ok (.iconst 1, 1) := by decide +kernel
theorem dX1_add_63 : decode cX1_add 63 = .ok (.iadd, 1) := by decide +kernel
theorem dX1_add_64 : decode cX1_add 64 = .ok (.putfield 34, 3) := by decide +kernel
theorem dX1_add_67 : decode cX1_add 67 = .ok (.aload_n 0, 1) := by decide +kernel
theorem dX1_add_68 : decode cX1_add 68 = .ok (.dup, 1) := by decide +kernel
theorem dX1_add_69 : decode cX1_add 69 = .ok (.getfield 37, 3) := by decide +kernel
theorem dX1_add_72 : decode cX1_add 72 = .ok (.iload_n 3, 1) := by decide +kernel
theorem dX1_add_73 : decode cX1_add 73 = .ok (.iadd, 1) := by decide +kernel
theorem dX1_add_74 : decode cX1_add 74 = .ok (.putfield 37, 3) := by decide +kernel
theorem dX1_add_77 : decode cX1_add 77 = .ok (.iload 5, 2) := by decide +kernel
theorem dX1_add_79 : decode cX1_add 79 = .ok (.ireturn, 1) := by decide +kernel
def P_L_add (x1 : Int32) (x2 : Int32) (x3 : Int32) (x4 : Int32) (v0 : LT) (Q : Int32 → LT → Prop) : Prop := P_T_put 200 (L_end v0) x1 (L_keys v0) (fun v5_ => (∀ v10_, v10_ = (L_set_keys v0 v5_) → (P_T_put 200 (L_end v0) x2 (L_values v10_) (fun v17_ => (∀ v22_, v22_ = (L_set_values v10_ v17_) → (P_T_put 200 (L_end v0) x4 (L_times v22_) (fun v29_ => (∀ v34_, v34_ = (L_set_times v22_ v29_) → (P_T_at 201 (L_end v0) (L_lengthsBelow v34_) (fun r37_ => (P_T_put 201 ((L_end v0) + 1) (r37_ + x3) (L_lengthsBelow v34_) (fun v45_ => (∀ v50_, v50_ = (L_set_lengthsBelow v34_ v45_) → (∀ v58_, v58_ = (L_set_end v50_ ((L_end v0) + 1)) → (∀ v66_, v66_ = (L_set_length v58_ ((L_length v58_) + x3)) → (Q (L_end v0) v66_))))))))))))))))
set_option maxRecDepth 100000 in
theorem s_L_add {l : Launch} {D : zD} {B : Nat} {sa : Nat → Nat} (hfl : l.stackTraces = false) {z : Nat} {G : zG} {b0 : Nat} {x1 : Int32} {x2 : Int32} {x3 : Int32} {x4 : Int32} {v0 : LT} {Q : Int32 → LT → Prop} (h0 : LA b0 v0 G) (h : P_L_add x1 x2 x3 x4 v0 Q) : zSp l D B sa yX1_add cX1_add 6 (some .int) 1 22 0 0 [.ref b0, .int x1, .int x2, .int x3, .int x4] z G (zRi fun r z' G' => z = z' ∧ ∃ w, LA b0 w G' ∧ Fr b0 7 G G' ∧ Q r w) := by
  unfold P_L_add at h
  refine z_ofW (by decide +kernel) hfl [some (.ref b0), some (.int x1), some (.int x2), some (.int x3), some (.int x4), none] rfl (Nat.le_of_ble_eq_true rfl) (fun p e s m args below meth c O hret hlk hnm => ?_)
  have O : zO p l s m args c D B sa 6 cX1_add RX1 := O
  refine z_aload_n O dX1_add_0 rfl rfl ?_
  refine z_get (v := .int (L_end v0)) O wf_RX1_34 dX1_add_1 (L_obj h0) rfl ?_
  refine z_istore (L' := [some (.ref b0), some (.int x1), some (.int x2), some (.int x3), some (.int x4), some (.int (L_end v0))]) O dX1_add_4 (by decide) rfl ?_
  refine z_aload_n O dX1_add_6 rfl rfl ?_
  refine z_get (v := .ref (b0 + 1)) O wf_RX1_9 dX1_add_7 (L_obj h0) rfl ?_
  refine z_iload O dX1_add_10 rfl ?_
  refine z_iload_n O dX1_add_12 rfl rfl ?_
  refine z_callNv (As := [.ref (b0 + 1), .int (L_end v0), .int x1]) (st := []) O (s_T_put hfl (L_keys_of h0) h) wy_X5_put wl_RX1_69 dX1_add_13 rfl rfl ⟨Nat.le_of_ble_eq_true rfl, Nat.le_of_ble_eq_true rfl⟩ (Nat.le_of_ble_eq_true rfl) ⟨Nat.le_of_ble_eq_true rfl, Nat.le_of_ble_eq_true rfl⟩ (fun z2_ G3_ hq4_ => ?_)
  obtain ⟨rfl, v5_, k6_, f7_, h⟩ := hq4_
  have k8_ := L_put_keys h0 k6_ f7_
  have f9_ : Fr b0 7 G G3_ := Fr.mono f7_ (by omega) (by omega)
  obtain ⟨v10_, ev10_⟩ : ∃ w, w = (L_set_keys v0 v5_) := ⟨_, rfl⟩
  have h := h v10_ ev10_
  have k11_ : LA b0 v10_ G3_ := by rw [ev10_]; exact k8_
  have F12_ : Fr b0 7 G G3_ := Fr.trans Fr.rf f9_
  refine z_aload_n O dX1_add_16 rfl rfl ?_
  refine z_get (v := .ref (b0 + 2)) O wf_RX1_15 dX1_add_17 (L_obj k11_) rfl ?_
  refine z_iload O dX1_add_20 rfl ?_
  refine z_iload_n O dX1_add_22 rfl rfl ?_
  refine z_callNv (As := [.ref (b0 + 2), .int (L_end v0), .int x2]) (st := []) O (s_T_put hfl (L_values_of k11_) h) wy_X5_put wl_RX1_69 dX1_add_23 rfl rfl ⟨Nat.le_of_ble_eq_true rfl, Nat.le_of_ble_eq_true rfl⟩ (Nat.le_of_ble_eq_true rfl) ⟨Nat.le_of_ble_eq_true rfl, Nat.le_of_ble_eq_true rfl⟩ (fun z14_ G15_ hq16_ => ?_)
  obtain ⟨rfl, v17_, k18_, f19_, h⟩ := hq16_
  have k20_ := L_put_values k11_ k18_ f19_
  have f21_ : Fr b0 7 G3_ G15_ := Fr.mono f19_ (by omega) (by omega)
  obtain ⟨v22_, ev22_⟩ : ∃ w, w = (L_set_values v10_ v17_) := ⟨_, rfl⟩
  have h := h v22_ ev22_
  have k23_ : LA b0 v22_ G15_ := by rw [ev22_]; exact k20_
  have F24_ : Fr b0 7 G G15_ := Fr.trans F12_ f21_
  refine z_aload_n O dX1_add_26 rfl rfl ?_
  refine z_get (v := .ref (b0 + 3)) O wf_RX1_18 dX1_add_27 (L_obj k23_) rfl ?_
  refine z_iload O dX1_add_30 rfl ?_
  refine z_iload O dX1_add_32 rfl ?_
  refine z_callNv (As := [.ref (b0 + 3), .int (L_end v0), .int x4]) (st := []) O (s_T_put hfl (L_times_of k23_) h) wy_X5_put wl_RX1_69 dX1_add_34 rfl rfl ⟨Nat.le_of_ble_eq_true rfl, Nat.le_of_ble_eq_true rfl⟩ (Nat.le_of_ble_eq_true rfl) ⟨Nat.le_of_ble_eq_true rfl, Nat.le_of_ble_eq_true rfl⟩ (fun z26_ G27_ hq28_ => ?_)
  obtain ⟨rfl, v29_, k30_, f31_, h⟩ := hq28_
  have k32_ := L_put_times k23_ k30_ f31_
  have f33_ : Fr b0 7 G15_ G27_ := Fr.mono f31_ (by omega) (by omega)
  obtain ⟨v34_, ev34_⟩ : ∃ w, w = (L_set_times v22_ v29_) := ⟨_, rfl⟩
  have h := h v34_ ev34_
  have k35_ : LA b0 v34_ G27_ := by rw [ev34_]; exact k32_
  have F36_ : Fr b0 7 G G27_ := Fr.trans F24_ f33_
  refine z_aload_n O dX1_add_37 rfl rfl ?_
  refine z_get (v := .ref (b0 + 4)) O wf_RX1_21 dX1_add_38 (L_obj k35_) rfl ?_
  refine z_iload O dX1_add_41 rfl ?_
  refine z_iconst (v := 1) O dX1_add_43 (by decide) ?_
  refine z_iadd O dX1_add_44 ?_
  refine z_aload_n O dX1_add_45 rfl rfl ?_
  refine z_get (v := .ref (b0 + 4)) O wf_RX1_21 dX1_add_46 (L_obj k35_) rfl ?_
  refine z_iload O dX1_add_49 rfl ?_
  refine z_callNi (As := [.ref (b0 + 4), .int (L_end v0)]) (st := [.int ((L_end v0) + 1), .ref (b0 + 4)]) O (s_T_at hfl (L_lengthsBelow_of k35_) h) wy_X5_at wl_RX1_54 dX1_add_51 rfl rfl ⟨Nat.le_of_ble_eq_true rfl, Nat.le_of_ble_eq_true rfl⟩ (Nat.le_of_ble_eq_true rfl) ⟨Nat.le_of_ble_eq_true rfl, Nat.le_of_ble_eq_true rfl⟩ (fun r37_ z38_ G39_ hq40_ => ?_)
  obtain ⟨rfl, rfl, h⟩ := hq40_
  refine z_iload_n O dX1_add_54 rfl rfl ?_
  refine z_iadd O dX1_add_55 ?_
  refine z_callNv (As := [.ref (b0 + 4), .int ((L_end v0) + 1), .int (r37_ + x3)]) (st := []) O (s_T_put hfl (L_lengthsBelow_of k35_) h) wy_X5_put wl_RX1_69 dX1_add_56 rfl rfl ⟨Nat.le_of_ble_eq_true rfl, Nat.le_of_ble_eq_true rfl⟩ (Nat.le_of_ble_eq_true rfl) ⟨Nat.le_of_ble_eq_true rfl, Nat.le_of_ble_eq_true rfl⟩ (fun z42_ G43_ hq44_ => ?_)
  obtain ⟨rfl, v45_, k46_, f47_, h⟩ := hq44_
  have k48_ := L_put_lengthsBelow k35_ k46_ f47_
  have f49_ : Fr b0 7 G27_ G43_ := Fr.mono f47_ (by omega) (by omega)
  obtain ⟨v50_, ev50_⟩ : ∃ w, w = (L_set_lengthsBelow v34_ v45_) := ⟨_, rfl⟩
  have h := h v50_ ev50_
  have k51_ : LA b0 v50_ G43_ := by rw [ev50_]; exact k48_
  have F52_ : Fr b0 7 G G43_ := Fr.trans F36_ f49_
  refine z_aload_n O dX1_add_59 rfl rfl ?_
  refine z_iload O dX1_add_60 rfl ?_
  refine z_iconst (v := 1) O dX1_add_62 (by decide) ?_
  refine z_iadd O dX1_add_63 ?_
  refine y_put O wp_RX1_34 dX1_add_64 (L_obj k51_) rfl rfl (fun G53_ hw54_ => ?_)
  have k55_ := L_w_end k51_ hw54_
  have f56_ := hw54_.fr
  have f57_ : Fr b0 7 G43_ G53_ := Fr.mono f56_ (by omega) (by omega)
  obtain ⟨v58_, ev58_⟩ : ∃ w, w = (L_set_end v50_ ((L_end v0) + 1)) := ⟨_, rfl⟩
  have h := h v58_ ev58_
  have k59_ : LA b0 v58_ G53_ := by rw [ev58_]; exact k55_
  have F60_ : Fr b0 7 G G53_ := Fr.trans F52_ f57_
  refine z_aload_n O dX1_add_67 rfl rfl ?_
  refine z_dup O dX1_add_68 rfl ?_
  refine z_get (v := .int (L_length v58_)) O wf_RX1_37 dX1_add_69 (L_obj k59_) rfl ?_
  refine z_iload_n O dX1_add_72 rfl rfl ?_
  refine z_iadd O dX1_add_73 ?_
  refine y_put O wp_RX1_37 dX1_add_74 (L_obj k59_) rfl rfl (fun G61_ hw62_ => ?_)
  have k63_ := L_w_length k59_ hw62_
  have f64_ := hw62_.fr
  have f65_ : Fr b0 7 G53_ G61_ := Fr.mono f64_ (by omega) (by omega)
  obtain ⟨v66_, ev66_⟩ : ∃ w, w = (L_set_length v58_ ((L_length v58_) + x3)) := ⟨_, rfl⟩
  have h := h v66_ ev66_
  have k67_ : LA b0 v66_ G61_ := by rw [ev66_]; exact k63_
  have F68_ : Fr b0 7 G G61_ := Fr.trans F60_ f65_
  refine z_iload O dX1_add_77 rfl ?_
  exact z_iret O hret hlk dX1_add_79 (Nat.le_of_ble_eq_true rfl) (Nat.le_of_ble_eq_true rfl) ⟨_, rfl, rfl, _, k67_, F68_, h⟩

theorem dX1_makeRoomFor_0 : decode cX1_makeRoomFor 0 = .ok (.aload_n 0, 1) := by decide +kernel
theorem dX1_makeRoomFor_1 : decode cX1_makeRoomFor 1 = .ok (.getfield 24, 3) := by decide +kernel
theorem dX1_makeRoomFor_4 : decode cX1_makeRoomFor 4 = .ok (.aload_n 0, 1) := by decide +kernel
theorem dX1_makeRoomFor_5 : decode cX1_makeRoomFor 5 = .ok (.getfield 40, 3) := by decide +kernel
theorem dX1_makeRoomFor_8 : decode cX1_makeRoomFor 8 = .ok (.iconst 1, 1) := by decide +kernel
theorem dX1_makeRoomFor_9 : decode cX1_makeRoomFor 9 = .ok (.isub, 1) := by decide +kernel
theorem dX1_makeRoomFor_10 : decode cX1_makeRoomFor 10 = .ok (.invokestatic 54, 3) := by decide +kernel
theorem dX1_makeRoomFor_13 : decode cX1_makeRoomFor 13 = .ok (.istore 4, 2) := by decide +kernel
theorem dX1_makeRoomFor_15 : decode cX1_makeRoomFor 15 = .ok (.aload_n 0, 1) := by decide +kernel
theorem dX1_makeRoomFor_16 : decode cX1_makeRoomFor 16 = .ok (.getfield 40, 3) := by decide +kernel
theorem dX1_makeRoomFor_19 : decode cX1_makeRoomFor 19 = .ok (.ifCond .eq 30, 3) := by decide +kernel
theorem dX1_makeRoomFor_22 : decode cX1_makeRoomFor 22 = .ok (.aload_n 0, 1) := by decide +kernel
theorem dX1_makeRoomFor_23 : decode cX1_makeRoomFor 23 = .ok (.getfield 34, 3) := by decide +kernel
theorem dX1_makeRoomFor_26 : decode cX1_makeRoomFor 26 = .ok (.iload 4, 2) := by decide +kernel
theorem dX1_makeRoomFor_28 : decode cX1_makeRoomFor 28 = .ok (.isub, 1) := by decide +kernel
theorem dX1_makeRoomFor_29 : decode cX1_makeRoomFor 29 = .ok (.iload_n 2, 1) := by decide +kernel
theorem dX1_makeRoomFor_30 : decode cX1_makeRoomFor 30 = .ok (.if_icmp .ge 19, 3) := by decide +kernel
theorem dX1_makeRoomFor_33 : decode cX1_makeRoomFor 33 = .ok (.aload_n 0, 1) := by decide +kernel
theorem dX1_makeRoomFor_34 : decode cX1_makeRoomFor 34 = .ok (.iload 4, 2) := by decide +kernel
theorem dX1_makeRoomFor_36 : decode cX1_makeRoomFor 36 = .ok (.aload_n 0, 1) := by decide +kernel
theorem dX1_makeRoomFor_37 : decode cX1_makeRoomFor 37 = .ok (.getfield 34, 3) := by decide +kernel
theorem dX1_makeRoomFor_40 : decode cX1_makeRoomFor 40 = .ok (.invokevirtual 62, 3) := by decide +kernel
theorem dX1_makeRoomFor_43 : decode cX1_makeRoomFor 43 = .ok (.iload_n 1, 1) := by decide +kernel
theorem dX1_makeRoomFor_44 : decode cX1_makeRoomFor 44 = .ok (.iadd, 1) := by decide +kernel
theorem dX1_makeRoomFor_45 : decode cX1_makeRoomFor 45 = .ok (.iload_n 3, 1) := by decide +kernel
theorem dX1_makeRoomFor_46 : decode cX1_makeRoomFor 46 = .ok (.if_icmp .le 28, 3) := by decide +kernel
theorem dX1_makeRoomFor_49 : decode cX1_makeRoomFor 49 = .ok (.aload_n 0, 1) := by decide +kernel
theorem dX1_makeRoomFor_50 : decode cX1_makeRoomFor 50 = .ok (.getfield 24, 3) := by decide +kernel
theorem dX1_makeRoomFor_53 : decode cX1_makeRoomFor 53 = .ok (.aload_n 0, 1) := by decide +kernel
theorem dX1_makeRoomFor_54 : decode cX1_makeRoomFor 54 = .ok (.getfield 40, 3) := by decide +kernel
theorem dX1_makeRoomFor_57 : decode cX1_makeRoomFor 57 = .ok (.aload_n 0, 1) := by decide +kernel
theorem dX1_makeRoomFor_58 : decode cX1_makeRoomFor 58 = .ok (.getfield 34, 3) := by decide +kernel
theorem dX1_makeRoomFor_61 : decode cX1_makeRoomFor 61 = .ok (.invokestatic 69, 3) := by decide +kernel
theorem dX1_makeRoomFor_64 : decode cX1_makeRoomFor 64 = .ok (.aload_n 0, 1) := by decide +kernel
theorem dX1_makeRoomFor_65 : decode cX1_makeRoomFor 65 = .ok (.dup, 1) := by decide +kernel
theorem dX1_makeRoomFor_66 : decode cX1_makeRoomFor 66 = .ok (.getfield 40, 3) := by decide +kernel
theorem dX1_makeRoomFor_69 : decode cX1_makeRoomFor 69 = .ok (.iconst 1, 1) := by decide +kernel
theorem dX1_makeRoomFor_70 : decode cX1_makeRoomFor 70 = .ok (.iadd, 1) := by decide +kernel
theorem dX1_makeRoomFor_71 : decode cX1_makeRoomFor 71 = .ok (.putfield 40, 3) := by decide +kernel
theorem dX1_makeRoomFor_74 : decode cX1_makeRoomFor 74 = .ok (.return_, 1) := by decide +kernel
def PJ_L_makeRoomFor_49 (x1 : Int32) (x2 : Int32) (x3 : Int32) (v0 : LT) (Q : LT → Prop) : Prop := P_T_put 200 (L_begun v0) (L_end v0) (L_starts v0) (fun v10_ => (∀ v15_, v15_ = (L_set_starts v0 v10_) → (∀ v23_, v23_ = (L_set_begun v15_ ((L_begun v15_) + 1)) → (Q v23_))))
def P_L_makeRoomFor (x1 : Int32) (x2 : Int32) (x3 : Int32) (v0 : LT) (Q : LT → Prop) : Prop := P_T_at 200 ((L_begun v0) - 1) (L_starts v0) (fun r1_ => ((((L_begun v0) = 0 → PJ_L_makeRoomFor_49 x1 x2 x3 v0 Q) ∧ (¬ (L_begun v0) = 0 → ((x2 ≤ ((L_end v0) - r1_) → PJ_L_makeRoomFor_49 x1 x2 x3 v0 Q) ∧ (¬ x2 ≤ ((L_end v0) - r1_) → P_L_lengthOf r1_ (L_end v0) v0 (fun r27_ => ((((r27_ + x1) ≤ x3 → Q v0) ∧ (¬ (r27_ + x1) ≤ x3 → PJ_L_makeRoomFor_49 x1 x2 x3 v0 Q))))))))))
set_option maxRecDepth 100000 in
theorem s_L_makeRoomFor {l : Launch} {D : zD} {B : Nat} {sa : Nat → Nat} (hfl : l.stackTraces = false) {z : Nat} {G : zG} {b0 : Nat} {x1 : Int32} {x2 : Int32} {x3 : Int32} {v0 : LT} {Q : LT → Prop} (h0 : LA b0 v0 G) (h : P_L_makeRoomFor x1 x2 x3 v0 Q) : zSp l D B sa yX1_makeRoomFor cX1_makeRoomFor 5 none 2 43 0 0 [.ref b0, .int x1, .int x2, .int x3] z G (zRv fun z' G' => z = z' ∧ ∃ w, LA b0 w G' ∧ Fr b0 7 G G' ∧ Q w) := by
  unfold P_L_makeRoomFor at h
  refine z_ofW (by decide +kernel) hfl [some (.ref b0), some (.int x1), some (.int x2), some (.int x3), none] rfl (Nat.le_of_ble_eq_true rfl) (fun p e s m args below meth c O hret hlk hnm => ?_)
  have O : zO p l s m args c D B sa 5 cX1_makeRoomFor RX1 := O
  have HJ49 : ∀ (v0 : LT) (G9 : zG) (g0 : LA b0 v0 G9) (gF : Fr b0 7 G G9), PJ_L_makeRoomFor_49 x1 x2 x3 v0 Q → zT p l e (zrm 2 43 0 0) s m args below meth c (zEnd below D B (zRv fun z' G' => z = z' ∧ ∃ w, LA b0 w G' ∧ Fr b0 7 G G' ∧ Q w) args s 0 0) D B 5 0 0 49 [] [some (.ref b0), none, none, none, none] z G9 := by
    intro v0 G9 g0 gF h
    unfold PJ_L_makeRoomFor_49 at h
    refine z_aload_n O dX1_makeRoomFor_49 rfl rfl ?_
    refine z_get (v := .ref (b0 + 5)) O wf_RX1_24 dX1_makeRoomFor_50 (L_obj g0) rfl ?_
    refine z_aload_n O dX1_makeRoomFor_53 rfl rfl ?_
    refine z_get (v := .int (L_begun v0)) O wf_RX1_40 dX1_makeRoomFor_54 (L_obj g0) rfl ?_
    refine z_aload_n O dX1_makeRoomFor_57 rfl rfl ?_
    refine z_get (v := .int (L_end v0)) O wf_RX1_34 dX1_makeRoomFor_58 (L_obj g0) rfl ?_
    refine z_callNv (As := [.ref (b0 + 5), .int (L_begun v0), .int (L_end v0)]) (st := []) O (s_T_put hfl (L_starts_of g0) h) wy_X5_put wl_RX1_69 dX1_makeRoomFor_61 rfl rfl ⟨Nat.le_of_ble_eq_true rfl, Nat.le_of_ble_eq_true rfl⟩ (Nat.le_of_ble_eq_true rfl) ⟨Nat.le_of_ble_eq_true rfl, Nat.le_of_ble_eq_true rfl⟩ (fun z7_ G8_ hq9_ => ?_)
    obtain ⟨rfl, v10_, k11_, f12_, h⟩ := hq9_
    have k13_ := L_put_starts g0 k11_ f12_
    have f14_ : Fr b0 7 G9 G8_ := Fr.mono f12_ (by omega) (by omega)
    obtain ⟨v15_, ev15_⟩ : ∃ w, w = (L_set_starts v0 v10_) := ⟨_, rfl⟩
    have h := h v15_ ev15_
    have k16_ : LA b0 v15_ G8_ := by rw [ev15_]; exact k13_
    have F17_ : Fr b0 7 G G8_ := Fr.trans gF f14_
    refine z_aload_n O dX1_makeRoomFor_64 rfl rfl ?_
    refine z_dup O dX1_makeRoomFor_65 rfl ?_
    refine z_get (v := .int (L_begun v15_)) O wf_RX1_40 dX1_makeRoomFor_66 (L_obj k16_) rfl ?_
    refine z_iconst (v := 1) O dX1_makeRoomFor_69 (by decide) ?_
    refine z_iadd O dX1_makeRoomFor_70 ?_
    refine y_put O wp_RX1_40 dX1_makeRoomFor_71 (L_obj k16_) rfl rfl (fun G18_ hw19_ => ?_)
    have k20_ := L_w_begun k16_ hw19_
    have f21_ := hw19_.fr
    have f22_ : Fr b0 7 G8_ G18_ := Fr.mono f21_ (by omega) (by omega)
    obtain ⟨v23_, ev23_⟩ : ∃ w, w = (L_set_begun v15_ ((L_begun v15_) + 1)) := ⟨_, rfl⟩
    have h := h v23_ ev23_
    have k24_ : LA b0 v23_ G18_ := by rw [ev23_]; exact k20_
    have F25_ : Fr b0 7 G G18_ := Fr.trans F17_ f22_
    exact z_vret O hret hlk dX1_makeRoomFor_74 (Nat.le_of_ble_eq_true rfl) (Nat.le_of_ble_eq_true rfl) ⟨rfl, rfl, _, k24_, F25_, h⟩
  refine z_aload_n O dX1_makeRoomFor_0 rfl rfl ?_
  refine z_get (v := .ref (b0 + 5)) O wf_RX1_24 dX1_makeRoomFor_1 (L_obj h0) rfl ?_
  refine z_aload_n O dX1_makeRoomFor_4 rfl rfl ?_
  refine z_get (v := .int (L_begun v0)) O wf_RX1_40 dX1_makeRoomFor_5 (L_obj h0) rfl ?_
  refine z_iconst (v := 1) O dX1_makeRoomFor_8 (by decide) ?_
  refine z_isub O dX1_makeRoomFor_9 ?_
  refine z_callNi (As := [.ref (b0 + 5), .int ((L_begun v0) - 1)]) (st := []) O (s_T_at hfl (L_starts_of h0) h) wy_X5_at wl_RX1_54 dX1_makeRoomFor_10 rfl rfl ⟨Nat.le_of_ble_eq_true rfl, Nat.le_of_ble_eq_true rfl⟩ (Nat.le_of_ble_eq_true rfl) ⟨Nat.le_of_ble_eq_true rfl, Nat.le_of_ble_eq_true rfl⟩ (fun r1_ z2_ G3_ hq4_ => ?_)
  obtain ⟨rfl, rfl, h⟩ := hq4_
  refine z_istore (L' := [some (.ref b0), some (.int x1), some (.int x2), some (.int x3), some (.int r1_)]) O dX1_makeRoomFor_13 (by decide) rfl ?_
  refine z_aload_n O dX1_makeRoomFor_15 rfl rfl ?_
  refine z_get (v := .int (L_begun v0)) O wf_RX1_40 dX1_makeRoomFor_16 (L_obj h0) rfl ?_
  refine z_if_eq (tgt := 49) O dX1_makeRoomFor_19 (by decide) (fun c5_ => ?_) (fun c5_ => ?_)
  · have h := h.1 c5_
    exact z_subL (L' := [some (.ref b0), none, none, none, none]) (zLe.sub (And.intro rfl True.intro)) (HJ49 v0 G h0 Fr.rf h)
  · have h := h.2 c5_
    refine z_aload_n O dX1_makeRoomFor_22 rfl rfl ?_
    refine z_get (v := .int (L_end v0)) O wf_RX1_34 dX1_makeRoomFor_23 (L_obj h0) rfl ?_
    refine z_iload O dX1_makeRoomFor_26 rfl ?_
    refine z_isub O dX1_makeRoomFor_28 ?_
    refine z_iload_n O dX1_makeRoomFor_29 rfl rfl ?_
    refine z_icmp_ge (tgt := 49) O dX1_makeRoomFor_30 (by decide) (fun c26_ => ?_) (fun c26_ => ?_)
    · have h := h.1 c26_
      exact z_subL (L' := [some (.ref b0), none, none, none, none]) (zLe.sub (And.intro rfl True.intro)) (HJ49 v0 G h0 Fr.rf h)
    · have h := h.2 c26_
      refine z_aload_n O dX1_makeRoomFor_33 rfl rfl ?_
      refine z_iload O dX1_makeRoomFor_34 rfl ?_
      refine z_aload_n O dX1_makeRoomFor_36 rfl rfl ?_
      refine z_get (v := .int (L_end v0)) O wf_RX1_34 dX1_makeRoomFor_37 (L_obj h0) rfl ?_
      refine z_callVi (As := [.int r1_, .int (L_end v0)]) (st := []) O (s_L_lengthOf hfl h0 h) wy_X1_lengthOf wl_RX1_62 dX1_makeRoomFor_40 rfl rfl (L_obj h0) ⟨by decide, rfl⟩ ⟨Nat.le_of_ble_eq_true rfl, Nat.le_of_ble_eq_true rfl⟩ (Nat.le_of_ble_eq_true rfl) ⟨Nat.le_of_ble_eq_true rfl, Nat.le_of_ble_eq_true rfl⟩ (fun r27_ z28_ G29_ hq30_ => ?_)
      obtain ⟨rfl, rfl, h⟩ := hq30_
      refine z_iload_n O dX1_makeRoomFor_43 rfl rfl ?_
      refine z_iadd O dX1_makeRoomFor_44 ?_
      refine z_iload_n O dX1_makeRoomFor_45 rfl rfl ?_
      refine z_icmp_le (tgt := 74) O dX1_makeRoomFor_46 (by decide) (fun c31_ => ?_) (fun c31_ => ?_)
      · have h := h.1 c31_
        exact z_vret O hret hlk dX1_makeRoomFor_74 (Nat.le_of_ble_eq_true rfl) (Nat.le_of_ble_eq_true rfl) ⟨rfl, rfl, _, h0, Fr.rf, h⟩
      · have h := h.2 c31_
        exact z_subL (L' := [some (.ref b0), none, none, none, none]) (zLe.sub (And.intro rfl True.intro)) (HJ49 v0 G h0 Fr.rf h)
