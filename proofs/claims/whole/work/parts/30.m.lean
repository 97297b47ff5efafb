theorem dX6_told_0 : decode cX6_told 0 = .ok (.aload_n 0, 1) := by decide +kernel
theorem dX6_told_1 : decode cX6_told 1 = .ok (.sipush 402, 3) := by decide +kernel
theorem dX6_told_4 : decode cX6_told 4 = .ok (.iload_n 1, 1) := by decide +kernel
theorem dX6_told_5 : decode cX6_told 5 = .ok (.iadd, 1) := by decide +kernel
theorem dX6_told_6 : decode cX6_told 6 = .ok (.iaload, 1) := by decide +kernel
theorem dX6_told_7 : decode cX6_told 7 = .ok (.istore_n 3, 1) := by decide +kernel
theorem dX6_told_8 : decode cX6_told 8 = .ok (.aload_n 0, 1) := by decide +kernel
theorem dX6_told_9 : decode cX6_told 9 = .ok (.sipush 400, 3) := by decide +kernel
theorem dX6_told_12 : decode cX6_told 12 = .ok (.iaload, 1) := by decide +kernel
theorem dX6_told_13 : decode cX6_told 13 = .ok (.istore 4, 2) := by decide +kernel
theorem dX6_told_15 : decode cX6_told 15 = .ok (.iload 4, 2) := by decide +kernel
theorem dX6_told_17 : decode cX6_told 17 = .ok (.iload_n 2, 1) := by decide +kernel
theorem dX6_told_18 : decode cX6_told 18 = .ok (.if_icmp .ge 30, 3) := by decide +kernel
theorem dX6_told_21 : decode cX6_told 21 = .ok (.aload_n 0, 1) := by decide +kernel
theorem dX6_told_22 : decode cX6_told 22 = .ok (.iload 4, 2) := by decide +kernel
theorem dX6_told_24 : decode cX6_told 24 = .ok (.invokestatic 97, 3) := by decide +kernel
theorem dX6_told_27 : decode cX6_told 27 = .ok (.iload_n 1, 1) := by decide +kernel
theorem dX6_told_28 : decode cX6_told 28 = .ok (.if_icmp .ne 12, 3) := by decide +kernel
theorem dX6_told_31 : decode cX6_told 31 = .ok (.aload_n 0, 1) := by decide +kernel
theorem dX6_told_32 : decode cX6_told 32 = .ok (.iload 4, 2) := by decide +kernel
theorem dX6_told_34 : decode cX6_told 34 = .ok (.invokestatic 100, 3) := by decide +kernel
theorem dX6_told_37 : decode cX6_told 37 = .ok (.goto 4, 3) := by decide +kernel
theorem dX6_told_40 : decode cX6_told 40 = .ok (.iload_n 3, 1) := by decide +kernel
theorem dX6_told_41 : decode cX6_told 41 = .ok (.istore_n 3, 1) := by decide +kernel
theorem dX6_told_42 : decode cX6_told 42 = .ok (.iinc 4 1, 3) := by decide +kernel
theorem dX6_told_45 : decode cX6_told 45 = .ok (.goto (-30), 3) := by decide +kernel
theorem dX6_told_48 : decode cX6_told 48 = .ok (.iload_n 3, 1) := by decide +kernel
theorem dX6_told_49 : decode cX6_told 49 = .ok (.ireturn, 1) := by decide +kernel
def PL_M_told_15 : Nat → Int32 → Int32 → (Nat → Int32) → Int32 → Int32 → Int32 → Int32 → (Int32 → Prop) → Prop
  | 0, _, _, _, _, _, _, _, _ => False
  | n + 1, x1, x2, v0, y1, y2, y3, y4, Q => ((y2 ≤ y4 → Q y3) ∧ (¬ y2 ≤ y4 → P_M_key y4 v0 (fun r4_ => (((¬ r4_ = y1 → (fun y1 y2 y3 y4 => PL_M_told_15 n x1 x2 v0 y1 y2 y3 y4  Q) y1 y2 y3 (y4 + 1)) ∧ (r4_ = y1 → P_M_value y4 v0 (fun r9_ => ((fun y1 y2 y3 y4 => PL_M_told_15 n x1 x2 v0 y1 y2 y3 y4  Q) y1 y2 r9_ (y4 + 1)))))))))
def P_M_told (x1 : Int32) (x2 : Int32) (v0 : (Nat → Int32)) (Q : Int32 → Prop) : Prop := vp_in (402 + x1) 621 ∧ (vp_in 400 621 ∧ ((∃ n13_, PL_M_told_15 n13_ x1 x2 v0 x1 x2 (v0 (Int32.toNatClampNeg (402 + x1))) (v0 (Int32.toNatClampNeg 400)) Q)))
set_option maxRecDepth 100000 in
theorem s_M_told {l : Launch} {D : zD} {B : Nat} {sa : Nat → Nat} (hfl : l.stackTraces = false) {z : Nat} {G : zG} {b0 : Nat} {x1 : Int32} {x2 : Int32} {v0 : (Nat → Int32)} {Q : Int32 → Prop} (h0 : G b0 = some (zia 621 v0)) (h : P_M_told x1 x2 v0 Q) : zSp l D B sa yX6_told cX6_told 5 (some .int) 1 21 0 0 [.ref b0, .int x1, .int x2] z G (zRi fun r z' G' => z = z' ∧ G = G' ∧ Q r) := by
  unfold P_M_told at h
  refine z_ofW (by decide +kernel) hfl [some (.ref b0), some (.int x1), some (.int x2), none, none] rfl (Nat.le_of_ble_eq_true rfl) (fun p e s m args below meth c O hret hlk hnm => ?_)
  have O : zO p l s m args c D B sa 5 cX6_told RX6 := O
  have HL15 : ∀ (n9 : Nat)    (y1 : Int32) (y2 : Int32) (y3 : Int32) (y4 : Int32) (h : PL_M_told_15 n9 x1 x2 v0 y1 y2 y3 y4 Q), zT p l e (zrm 1 21 0 0) s m args below meth c (zEnd below D B (zRi fun r z' G' => z = z' ∧ G = G' ∧ Q r) args s 0 0) D B 5 0 0 15 [] [some (.ref b0), some (.int y1), some (.int y2), some (.int y3), some (.int y4)] z G := by
    intro n9   
    induction n9 with
    | zero =>
      intro _ _ _ _ h
      exact (h : False).elim
    | succ n ih =>
      intro y1 y2 y3 y4 h
      rw [PL_M_told_15] at h
      refine z_iload O dX6_told_15 rfl ?_
      refine z_iload_n O dX6_told_17 rfl rfl ?_
      refine z_icmp_ge (tgt := 48) O dX6_told_18 (by decide) (fun c3_ => ?_) (fun c3_ => ?_)
      · have h := h.1 c3_
        refine z_iload_n O dX6_told_48 rfl rfl ?_
        exact z_iret O hret hlk dX6_told_49 (Nat.le_of_ble_eq_true rfl) (Nat.le_of_ble_eq_true rfl) ⟨_, rfl, rfl, rfl, h⟩
      · have h := h.2 c3_
        refine z_aload_n O dX6_told_21 rfl rfl ?_
        refine z_iload O dX6_told_22 rfl ?_
        refine z_callSi (As := [.ref b0, .int y4]) (st := []) O (s_M_key hfl h0 h) wy_X6_key wl_RX6_97 dX6_told_24 rfl rfl ⟨Nat.le_of_ble_eq_true rfl, Nat.le_of_ble_eq_true rfl⟩ (Nat.le_of_ble_eq_true rfl) ⟨Nat.le_of_ble_eq_true rfl, Nat.le_of_ble_eq_true rfl⟩ (fun r4_ z5_ G6_ hq7_ => ?_)
        obtain ⟨rfl, rfl, h⟩ := hq7_
        refine z_iload_n O dX6_told_27 rfl rfl ?_
        refine z_icmp_ne (tgt := 40) O dX6_told_28 (by decide) (fun c8_ => ?_) (fun c8_ => ?_)
        · have h := h.1 c8_
          refine z_iload_n O dX6_told_40 rfl rfl ?_
          refine z_istore_n (L' := [some (.ref b0), some (.int y1), some (.int y2), some (.int y3), some (.int y4)]) O dX6_told_41 rfl (by decide) rfl ?_
          refine z_iinc (v := (y4 + 1)) (L' := [some (.ref b0), some (.int y1), some (.int y2), some (.int y3), some (.int (y4 + 1))]) O dX6_told_42 rfl (by first | rfl | decide) (by decide) rfl ?_
          refine z_goto (tgt := 15) O dX6_told_45 (by decide) ?_
          exact z_subL (L' := [some (.ref b0), some (.int y1), some (.int y2), some (.int y3), some (.int (y4 + 1))]) (zLe.sub (And.intro rfl (And.intro rfl (And.intro rfl (And.intro rfl (And.intro rfl True.intro)))))) (ih y1 y2 y3 (y4 + 1) h)
        · have h := h.2 c8_
          refine z_aload_n O dX6_told_31 rfl rfl ?_
          refine z_iload O dX6_told_32 rfl ?_
          refine z_callSi (As := [.ref b0, .int y4]) (st := []) O (s_M_value hfl h0 h) wy_X6_value wl_RX6_100 dX6_told_34 rfl rfl ⟨Nat.le_of_ble_eq_true rfl, Nat.le_of_ble_eq_true rfl⟩ (Nat.le_of_ble_eq_true rfl) ⟨Nat.le_of_ble_eq_true rfl, Nat.le_of_ble_eq_true rfl⟩ (fun r9_ z10_ G11_ hq12_ => ?_)
          obtain ⟨rfl, rfl, h⟩ := hq12_
          refine z_goto (tgt := 41) O dX6_told_37 (by decide) ?_
          refine z_istore_n (L' := [some (.ref b0), some (.int y1), some (.int y2), some (.int r9_), some (.int y4)]) O dX6_told_41 rfl (by decide) rfl ?_
          refine z_iinc (v := (y4 + 1)) (L' := [some (.ref b0), some (.int y1), some (.int y2), some (.int r9_), some (.int (y4 + 1))]) O dX6_told_42 rfl (by first | rfl | decide) (by decide) rfl ?_
          refine z_goto (tgt := 15) O dX6_told_45 (by decide) ?_
          exact z_subL (L' := [some (.ref b0), some (.int y1), some (.int y2), some (.int r9_), some (.int (y4 + 1))]) (zLe.sub (And.intro rfl (And.intro rfl (And.intro rfl (And.intro rfl (And.intro rfl True.intro)))))) (ih y1 y2 r9_ (y4 + 1) h)
  refine z_aload_n O dX6_told_0 rfl rfl ?_
  refine z_sipush (v := 402) O dX6_told_1 (by decide) ?_
  refine z_iload_n O dX6_told_4 rfl rfl ?_
  refine z_iadd O dX6_told_5 ?_
  obtain ⟨q1_, h⟩ := h
  refine z_iald O dX6_told_6 h0 q1_ ?_
  refine z_istore_n (L' := [some (.ref b0), some (.int x1), some (.int x2), some (.int (v0 (Int32.toNatClampNeg (402 + x1)))), none]) O dX6_told_7 rfl (by decide) rfl ?_
  refine z_aload_n O dX6_told_8 rfl rfl ?_
  refine z_sipush (v := 400) O dX6_told_9 (by decide) ?_
  obtain ⟨q2_, h⟩ := h
  refine z_iald O dX6_told_12 h0 q2_ ?_
  refine z_istore (L' := [some (.ref b0), some (.int x1), some (.int x2), some (.int (v0 (Int32.toNatClampNeg (402 + x1)))), some (.int (v0 (Int32.toNatClampNeg 400)))]) O dX6_told_13 (by decide) rfl ?_
  obtain ⟨n13_, h⟩ := h
  exact z_subL (L' := [some (.ref b0), some (.int x1), some (.int x2), some (.int (v0 (Int32.toNatClampNeg (402 + x1)))), some (.int (v0 (Int32.toNatClampNeg 400)))]) (zLe.sub (And.intro rfl (And.intro rfl (And.intro rfl (And.intro rfl (And.intro rfl True.intro)))))) (HL15 n13_ x1 x2 (v0 (Int32.toNatClampNeg (402 + x1))) (v0 (Int32.toNatClampNeg 400)) h)

theorem dX6_toldBack_0 : decode cX6_toldBack 0 = .ok (.iload_n 2, 1) := by decide +kernel
theorem dX6_toldBack_1 : decode cX6_toldBack 1 = .ok (.iconst 1, 1) := by decide +kernel
theorem dX6_toldBack_2 : decode cX6_toldBack 2 = .ok (.isub, 1) := by decide +kernel
theorem dX6_toldBack_3 : decode cX6_toldBack 3 = .ok (.istore_n 3, 1) := by decide +kernel
theorem dX6_toldBack_4 : decode cX6_toldBack 4 = .ok (.iload_n 3, 1) := by decide +kernel
theorem dX6_toldBack_5 : decode cX6_toldBack 5 = .ok (.aload_n 0, 1) := by decide +kernel
theorem dX6_toldBack_6 : decode cX6_toldBack 6 = .ok (.sipush 400, 3) := by decide +kernel
theorem dX6_toldBack_9 : decode cX6_toldBack 9 = .ok (.iaload, 1) := by decide +kernel
theorem dX6_toldBack_10 : decode cX6_toldBack 10 = .ok (.if_icmp .lt 18, 3) := by decide +kernel
theorem dX6_toldBack_13 : decode cX6_toldBack 13 = .ok (.aload_n 0, 1) := by decide +kernel
theorem dX6_toldBack_14 : decode cX6_toldBack 14 = .ok (.iload_n 3, 1) := by decide +kernel
theorem dX6_toldBack_15 : decode cX6_toldBack 15 = .ok (.invokestatic 97, 3) := by decide +kernel
theorem dX6_toldBack_18 : decode cX6_toldBack 18 = .ok (.iload_n 1, 1) := by decide +kernel
theorem dX6_toldBack_19 : decode cX6_toldBack 19 = .ok (.if_icmp .eq 9, 3) := by decide +kernel
theorem dX6_toldBack_22 : decode cX6_toldBack 22 = .ok (.iinc 3 (-1), 3) := by decide +kernel
theorem dX6_toldBack_25 : decode cX6_toldBack 25 = .ok (.goto (-21), 3) := by decide +kernel
theorem dX6_toldBack_28 : decode cX6_toldBack 28 = .ok (.iload_n 3, 1) := by decide +kernel
theorem dX6_toldBack_29 : decode cX6_toldBack 29 = .ok (.aload_n 0, 1) := by decide +kernel
theorem dX6_toldBack_30 : decode cX6_toldBack 30 = .ok (.sipush 400, 3) := by decide +kernel
theorem dX6_toldBack_33 : decode cX6_toldBack 33 = .ok (.iaload, 1) := by decide +kernel
theorem dX6_toldBack_34 : decode cX6_toldBack 34 = .ok (.if_icmp .lt 11, 3) := by decide +kernel
theorem dX6_toldBack_37 : decode cX6_toldBack 37 = .ok (.aload_n 0, 1) := by decide +kernel
theorem dX6_toldBack_38 : decode cX6_toldBack 38 = .ok (.iload_n 3, 1) := by decide +kernel
theorem dX6_toldBack_39 : decode cX6_toldBack 39 = .ok (.invokestatic 100, 3) := by decide +kernel
theorem dX6_toldBack_42 : decode cX6_toldBack 42 = .ok (.goto 10, 3) := by decide +kernel
theorem dX6_toldBack_45 : decode cX6_toldBack 45 = .ok (.aload_n 0, 1) := by decide +kernel
theorem dX6_toldBack_46 : decode cX6_toldBack 46 = .ok (.sipush 402, 3) := by decide +kernel
theorem dX6_toldBack_49 : decode cX6_toldBack 49 = .ok (.iload_n 1, 1) := by decide +kernel
theorem dX6_toldBack_50 : decode cX6_toldBack 50 = .ok (.iadd, 1) := by decide +kernel
theorem dX6_toldBack_51 : decode cX6_toldBack 51 = .ok (.iaload, 1) := by decide +kernel
theorem dX6_toldBack_52 : decode cX6_toldBack 52 = .ok (.ireturn, 1) := by decide +kernel
def PJ_M_toldBack_28 (x1 : Int32) (x2 : Int32) (v0 : (Nat → Int32)) (y1 : Int32) (y3 : Int32) (Q : Int32 → Prop) : Prop := vp_in 400 621 ∧ (((y3 < (v0 (Int32.toNatClampNeg 400)) → vp_in (402 + y1) 621 ∧ (Q (v0 (Int32.toNatClampNeg (402 + y1))))) ∧ (¬ y3 < (v0 (Int32.toNatClampNeg 400)) → P_M_value y3 v0 (fun r6_ => (Q r6_)))))
def PL_M_toldBack_4 : Nat → Int32 → Int32 → (Nat → Int32) → Int32 → Int32 → (Int32 → Prop) → Prop
  | 0, _, _, _, _, _, _ => False
  | n + 1, x1, x2, v0, y1, y3, Q => vp_in 400 621 ∧ (((y3 < (v0 (Int32.toNatClampNeg 400)) → PJ_M_toldBack_28 x1 x2 v0 y1 y3 Q) ∧ (¬ y3 < (v0 (Int32.toNatClampNeg 400)) → P_M_key y3 v0 (fun r10_ => (((r10_ = y1 → PJ_M_toldBack_28 x1 x2 v0 y1 y3 Q) ∧ (¬ r10_ = y1 → (fun y1 y3 => PL_M_toldBack_4 n x1 x2 v0 y1 y3  Q) y1 (y3 + (-1)))))))))
def P_M_toldBack (x1 : Int32) (x2 : Int32) (v0 : (Nat → Int32)) (Q : Int32 → Prop) : Prop := (∃ n15_, PL_M_toldBack_4 n15_ x1 x2 v0 x1 (x2 - 1) Q)
set_option maxRecDepth 100000 in
theorem s_M_toldBack {l : Launch} {D : zD} {B : Nat} {sa : Nat → Nat} (hfl : l.stackTraces = false) {z : Nat} {G : zG} {b0 : Nat} {x1 : Int32} {x2 : Int32} {v0 : (Nat → Int32)} {Q : Int32 → Prop} (h0 : G b0 = some (zia 621 v0)) (h : P_M_toldBack x1 x2 v0 Q) : zSp l D B sa yX6_toldBack cX6_toldBack 4 (some .int) 1 21 0 0 [.ref b0, .int x1, .int x2] z G (zRi fun r z' G' => z = z' ∧ G = G' ∧ Q r) := by
  unfold P_M_toldBack at h
  refine z_ofW (by decide +kernel) hfl [some (.ref b0), some (.int x1), some (.int x2), none] rfl (Nat.le_of_ble_eq_true rfl) (fun p e s m args below meth c O hret hlk hnm => ?_)
  have O : zO p l s m args c D B sa 4 cX6_toldBack RX6 := O
  have HJ28 : ∀ (y1 : Int32) (y3 : Int32), PJ_M_toldBack_28 x1 x2 v0 y1 y3 Q → zT p l e (zrm 1 21 0 0) s m args below meth c (zEnd below D B (zRi fun r z' G' => z = z' ∧ G = G' ∧ Q r) args s 0 0) D B 4 0 0 28 [] [some (.ref b0), some (.int y1), none, some (.int y3)] z G := by
    intro y1 y3 h
    unfold PJ_M_toldBack_28 at h
    refine z_iload_n O dX6_toldBack_28 rfl rfl ?_
    refine z_aload_n O dX6_toldBack_29 rfl rfl ?_
    refine z_sipush (v := 400) O dX6_toldBack_30 (by decide) ?_
    obtain ⟨q3_, h⟩ := h
    refine z_iald O dX6_toldBack_33 h0 q3_ ?_
    refine z_icmp_lt (tgt := 45) O dX6_toldBack_34 (by decide) (fun c4_ => ?_) (fun c4_ => ?_)
    · have h := h.1 c4_
      refine z_aload_n O dX6_toldBack_45 rfl rfl ?_
      refine z_sipush (v := 402) O dX6_toldBack_46 (by decide) ?_
      refine z_iload_n O dX6_toldBack_49 rfl rfl ?_
      refine z_iadd O dX6_toldBack_50 ?_
      obtain ⟨q5_, h⟩ := h
      refine z_iald O dX6_toldBack_51 h0 q5_ ?_
      exact z_iret O hret hlk dX6_toldBack_52 (Nat.le_of_ble_eq_true rfl) (Nat.le_of_ble_eq_true rfl) ⟨_, rfl, rfl, rfl, h⟩
    · have h := h.2 c4_
      refine z_aload_n O dX6_toldBack_37 rfl rfl ?_
      refine z_iload_n O dX6_toldBack_38 rfl rfl ?_
      refine z_callSi (As := [.ref b0, .int y3]) (st := []) O (s_M_value hfl h0 h) wy_X6_value wl_RX6_100 dX6_toldBack_39 rfl rfl ⟨Nat.le_of_ble_eq_true rfl, Nat.le_of_ble_eq_true rfl⟩ (Nat.le_of_ble_eq_true rfl) ⟨Nat.le_of_ble_eq_true rfl, Nat.le_of_ble_eq_true rfl⟩ (fun r6_ z7_ G8_ hq9_ => ?_)
      obtain ⟨rfl, rfl, h⟩ := hq9_
      refine z_goto (tgt := 52) O dX6_toldBack_42 (by decide) ?_
      exact z_iret O hret hlk dX6_toldBack_52 (Nat.le_of_ble_eq_true rfl) (Nat.le_of_ble_eq_true rfl) ⟨_, rfl, rfl, rfl, h⟩
  have HL4 : ∀ (n9 : Nat)    (y1 : Int32) (y3 : Int32) (h : PL_M_toldBack_4 n9 x1 x2 v0 y1 y3 Q), zT p l e (zrm 1 21 0 0) s m args below meth c (zEnd below D B (zRi fun r z' G' => z = z' ∧ G = G' ∧ Q r) args s 0 0) D B 4 0 0 4 [] [some (.ref b0), some (.int y1), none, some (.int y3)] z G := by
    intro n9   
    induction n9 with
    | zero =>
      intro _ _ h
      exact (h : False).elim
    | succ n ih =>
      intro y1 y3 h
      rw [PL_M_toldBack_4] at h
      refine z_iload_n O dX6_toldBack_4 rfl rfl ?_
      refine z_aload_n O dX6_toldBack_5 rfl rfl ?_
      refine z_sipush (v := 400) O dX6_toldBack_6 (by decide) ?_
      obtain ⟨q1_, h⟩ := h
      refine z_iald O dX6_toldBack_9 h0 q1_ ?_
      refine z_icmp_lt (tgt := 28) O dX6_toldBack_10 (by decide) (fun c2_ => ?_) (fun c2_ => ?_)
      · have h := h.1 c2_
        exact z_subL (L' := [some (.ref b0), some (.int y1), none, some (.int y3)]) (zLe.sub (And.intro rfl (And.intro rfl (And.intro rfl True.intro)))) (HJ28 y1 y3 h)
      · have h := h.2 c2_
        refine z_aload_n O dX6_toldBack_13 rfl rfl ?_
        refine z_iload_n O dX6_toldBack_14 rfl rfl ?_
        refine z_callSi (As := [.ref b0, .int y3]) (st := []) O (s_M_key hfl h0 h) wy_X6_key wl_RX6_97 dX6_toldBack_15 rfl rfl ⟨Nat.le_of_ble_eq_true rfl, Nat.le_of_ble_eq_true rfl⟩ (Nat.le_of_ble_eq_true rfl) ⟨Nat.le_of_ble_eq_true rfl, Nat.le_of_ble_eq_true rfl⟩ (fun r10_ z11_ G12_ hq13_ => ?_)
        obtain ⟨rfl, rfl, h⟩ := hq13_
        refine z_iload_n O dX6_toldBack_18 rfl rfl ?_
        refine z_icmp_eq (tgt := 28) O dX6_toldBack_19 (by decide) (fun c14_ => ?_) (fun c14_ => ?_)
        · have h := h.1 c14_
          exact z_subL (L' := [some (.ref b0), some (.int y1), none, some (.int y3)]) (zLe.sub (And.intro rfl (And.intro rfl (And.intro rfl True.intro)))) (HJ28 y1 y3 h)
        · have h := h.2 c14_
          refine z_iinc (v := (y3 + (-1))) (L' := [some (.ref b0), some (.int y1), none, some (.int (y3 + (-1)))]) O dX6_toldBack_22 rfl (by first | rfl | decide) (by decide) rfl ?_
          refine z_goto (tgt := 4) O dX6_toldBack_25 (by decide) ?_
          exact z_subL (L' := [some (.ref b0), some (.int y1), none, some (.int (y3 + (-1)))]) (zLe.sub (And.intro rfl (And.intro rfl (And.intro rfl True.intro)))) (ih y1 (y3 + (-1)) h)
  refine z_iload_n O dX6_toldBack_0 rfl rfl ?_
  refine z_iconst (v := 1) O dX6_toldBack_1 (by decide) ?_
  refine z_isub O dX6_toldBack_2 ?_
  refine z_istore_n (L' := [some (.ref b0), some (.int x1), some (.int x2), some (.int (x2 - 1))]) O dX6_toldBack_3 rfl (by decide) rfl ?_
  obtain ⟨n15_, h⟩ := h
  exact z_subL (L' := [some (.ref b0), some (.int x1), none, some (.int (x2 - 1))]) (zLe.sub (And.intro rfl (And.intro rfl (And.intro rfl True.intro)))) (HL4 n15_ x1 (x2 - 1) h)

theorem dX6_lose_0 : decode cX6_lose 0 = .ok (.iload_n 1, 1) := by decide +kernel
theorem dX6_lose_1 : decode cX6_lose 1 = .ok (.invokestatic 65, 3) := by decide +kernel
theorem dX6_lose_4 : decode cX6_lose 4 = .ok (.istore_n 2, 1) := by decide +kernel
theorem dX6_lose_5 : decode cX6_lose 5 = .ok (.aload_n 0, 1) := by decide +kernel
theorem dX6_lose_6 : decode cX6_lose 6 = .ok (.iload_n 2, 1) := by decide +kernel
theorem dX6_lose_7 : decode cX6_lose 7 = .ok (.iconst 0, 1) := by decide +kernel
theorem dX6_lose_8 : decode cX6_lose 8 = .ok (.iadd, 1) := by decide +kernel
theorem dX6_lose_9 : decode cX6_lose 9 = .ok (.iaload, 1) := by decide +kernel
theorem dX6_lose_10 : decode cX6_lose 10 = .ok (.ifCond .eq 11, 3) := by decide +kernel
theorem dX6_lose_13 : decode cX6_lose 13 = .ok (.aload_n 0, 1) := by decide +kernel
theorem dX6_lose_14 : decode cX6_lose 14 = .ok (.iload_n 2, 1) := by decide +kernel
theorem dX6_lose_15 : decode cX6_lose 15 = .ok (.iconst 2, 1) := by decide +kernel
theorem dX6_lose_16 : decode cX6_lose 16 = .ok (.iadd, 1) := by decide +kernel
theorem dX6_lose_17 : decode cX6_lose 17 = .ok (.iaload, 1) := by decide +kernel
theorem dX6_lose_18 : decode cX6_lose 18 = .ok (.ifCond .ne 4, 3) := by decide +kernel
theorem dX6_lose_21 : decode cX6_lose 21 = .ok (.return_, 1) := by decide +kernel
theorem dX6_lose_22 : decode cX6_lose 22 = .ok (.aload_n 0, 1) := by decide +kernel
theorem dX6_lose_23 : decode cX6_lose 23 = .ok (.sipush 614, 3) := by decide +kernel
theorem dX6_lose_26 : decode cX6_lose 26 = .ok (.iaload, 1) := by decide +kernel
theorem dX6_lose_27 : decode cX6_lose 27 = .ok (.ifCond .le 29, 3) := by decide +kernel
theorem dX6_lose_30 : decode cX6_lose 30 = .ok (.aload_n 0, 1) := by decide +kernel
theorem dX6_lose_31 : decode cX6_lose 31 = .ok (.aload_n 0, 1) := by decide +kernel
theorem dX6_lose_32 : decode cX6_lose 32 = .ok (.iload_n 2, 1) := by decide +kernel
theorem dX6_lose_33 : decode cX6_lose 33 = .ok (.iconst 1, 1) := by decide +kernel
theorem dX6_lose_34 : decode cX6_lose 34 = .ok (.iadd, 1) := by decide +kernel
theorem dX6_lose_35 : decode cX6_lose 35 = .ok (.iaload, 1) := by decide +kernel
theorem dX6_lose_36 : decode cX6_lose 36 = .ok (.aload_n 0, 1) := by decide +kernel
theorem dX6_lose_37 : decode cX6_lose 37 = .ok (.sipush 401, 3) := by decide +kernel
theorem dX6_lose_40 : decode cX6_lose 40 = .ok (.iaload, 1) := by decide +kernel
theorem dX6_lose_41 : decode cX6_lose 41 = .ok (.invokestatic 80, 3) := by decide +kernel
theorem dX6_lose_44 : decode cX6_lose 44 = .ok (.aload_n 0, 1) := by decide +kernel
theorem dX6_lose_45 : decode cX6_lose 45 = .ok (.sipush 614, 3) := by decide +kernel
theorem dX6_lose_48 : decode cX6_lose 48 = .ok (.iaload, 1) := by decide +kernel
theorem dX6_lose_49 : decode cX6_lose 49 = .ok (.if_icmp .le 7, 3) := by decide +kernel
theorem dX6_lose_52 : decode cX6_lose 52 = .ok (.iconst 1, 1) := by decide +kernel
theorem dX6_lose_53 : decode cX6_lose 53 = .ok (.goto 4, 3) := by decide +kernel
theorem dX6_lose_56 : decode cX6_lose 56 = .ok (.iconst 0, 1) := by decide +kernel
theorem dX6_lose_57 : decode cX6_lose 57 = .ok (.istore_n 3, 1) := by decide +kernel
theorem dX6_lose_58 : decode cX6_lose 58 = .ok (.aload_n 0, 1) := by decide +kernel
theorem dX6_lose_59 : decode cX6_lose 59 = .ok (.sipush 615, 3) := by decide +kernel
theorem dX6_lose_62 : decode cX6_lose 62 = .ok (.iaload, 1) := by decide +kernel
theorem dX6_lose_63 : decode cX6_lose 63 = .ok (.ifCond .le 26, 3) := by decide +kernel
theorem dX6_lose_66 : decode cX6_lose 66 = .ok (.aload_n 0, 1) := by decide +kernel
theorem dX6_lose_67 : decode cX6_lose 67 = .ok (.sipush 616, 3) := by decide +kernel
theorem dX6_lose_70 : decode cX6_lose 70 = .ok (.iaload, 1) := by decide +kernel
theorem dX6_lose_71 : decode cX6_lose 71 = .ok (.aload_n 0, 1) := by decide +kernel
theorem dX6_lose_72 : decode cX6_lose 72 = .ok (.iload_n 2, 1) := by decide +kernel
theorem dX6_lose_73 : decode cX6_lose 73 = .ok (.iconst 5, 1) := by decide +kernel
theorem dX6_lose_74 : decode cX6_lose 74 = .ok (.iadd, 1) := by decide +kernel
theorem dX6_lose_75 : decode cX6_lose 75 = .ok (.iaload, 1) := by decide +kernel
theorem dX6_lose_76 : decode cX6_lose 76 = .ok (.isub, 1) := by decide +kernel
theorem dX6_lose_77 : decode cX6_lose 77 = .ok (.aload_n 0, 1) := by decide +kernel
theorem dX6_lose_78 : decode cX6_lose 78 = .ok (.sipush 615, 3) := by decide +kernel
theorem dX6_lose_81 : decode cX6_lose 81 = .ok (.iaload, 1) := by decide +kernel
theorem dX6_lose_82 : decode cX6_lose 82 = .ok (.if_icmp .lt 7, 3) := by decide +kernel
theorem dX6_lose_85 : decode cX6_lose 85 = .ok (.iconst 1, 1) := by decide +kernel
theorem dX6_lose_86 : decode cX6_lose 86 = .ok (.goto 4, 3) := by decide +kernel
theorem dX6_lose_89 : decode cX6_lose 89 = .ok (.iconst 0, 1) := by decide +kernel
theorem dX6_lose_90 : decode cX6_lose 90 = .ok (.istore 4, 2) := by decide +kernel
theorem dX6_lose_92 : decode cX6_lose 92 = .ok (.iload_n 3, 1) := by decide +kernel
theorem dX6_lose_93 : decode cX6_lose 93 = .ok (.ifCond .ne 8, 3) := by decide +kernel
theorem dX6_lose_96 : decode cX6_lose 96 = .ok (.iload 4, 2) := by decide +kernel
theorem dX6_lose_98 : decode cX6_lose 98 = .ok (.ifCond .eq 43, 3) := by decide +kernel
theorem dX6_lose_101 : decode cX6_lose 101 = .ok (.aload_n 0, 1) := by decide +kernel
theorem dX6_lose_102 : decode cX6_lose 102 = .ok (.iload_n 2, 1) := by decide +kernel
theorem dX6_lose_103 : decode cX6_lose 103 = .ok (.iconst 2, 1) := by decide +kernel
theorem dX6_lose_104 : decode cX6_lose 104 = .ok (.iadd, 1) := by decide +kernel
theorem dX6_lose_105 : decode cX6_lose 105 = .ok (.iconst 0, 1) := by decide +kernel
theorem dX6_lose_106 : decode cX6_lose 106 = .ok (.iastore, 1) := by decide +kernel
theorem dX6_lose_107 : decode cX6_lose 107 = .ok (.aload_n 0, 1) := by decide +kernel
theorem dX6_lose_108 : decode cX6_lose 108 = .ok (.iload_n 2, 1) := by decide +kernel
theorem dX6_lose_109 : decode cX6_lose 109 = .ok (.bipush 6, 2) := by decide +kernel
theorem dX6_lose_111 : decode cX6_lose 111 = .ok (.iadd, 1) := by decide +kernel
theorem dX6_lose_112 : decode cX6_lose 112 = .ok (.iload_n 3, 1) := by decide +kernel
theorem dX6_lose_113 : decode cX6_lose 113 = .ok (.ifCond .eq 7, 3) := by decide +kernel
theorem dX6_lose_116 : decode cX6_lose 116 = .ok (.iconst 1, 1) := by decide +kernel
theorem dX6_lose_117 : decode cX6_lose 117 = .ok (.goto 4, 3) := by decide +kernel
theorem dX6_lose_120 : decode cX6_lose 120 = .ok (.iconst 2, 1) := by decide +kernel
theorem dX6_lose_121 : decode cX6_lose 121 = .ok (.iastore, 1) := by decide +kernel
theorem dX6_lose_122 : decode cX6_lose 122 = .ok (.aload_n 0, 1) := by decide +kernel
theorem dX6_lose_123 : decode cX6_lose 123 = .ok (.sipush 618, 3) := by decide +kernel
theorem dX6_lose_126 : decode cX6_lose 126 = .ok (.iload_n 3, 1) := by decide +kernel
theorem dX6_lose_127 : decode cX6_lose 127 = .ok (.ifCond .eq 7, 3) := by decide +kernel
theorem dX6_lose_130 : decode cX6_lose 130 = .ok (.iconst 0, 1) := by decide +kernel
theorem dX6_lose_131 : decode cX6_lose 131 = .ok (.goto 4, 3) := by decide +kernel
theorem dX6_lose_134 : decode cX6_lose 134 = .ok (.iconst 1, 1) := by decide +kernel
theorem dX6_lose_135 : decode cX6_lose 135 = .ok (.iadd, 1) := by decide +kernel
theorem dX6_lose_136 : decode cX6_lose 136 = .ok (.dup2, 1) := by decide +kernel
theorem dX6_lose_137 : decode cX6_lose 137 = .ok (.iaload, 1) := by decide +kernel
theorem dX6_lose_138 : decode cX6_lose 138 = .ok (.iconst 1, 1) := by decide +kernel
theorem dX6_lose_139 : decode cX6_lose 139 = .ok (.iadd, 1) := by decide +kernel
theorem dX6_lose_140 : decode cX6_lose 140 = .ok (.iastore, 1) := by decide +kernel
theorem dX6_lose_141 : decode cX6_lose 141 = .ok (.return_, 1) := by decide +kernel
def PJ_M_lose_121 (x1 : Int32) (y3 : Int32) (u0 : Int32) (u1 : Int32) (v0 : (Nat → Int32)) (Q : (Nat → Int32) → Prop) : Prop := vp_in u1 621 ∧ (∀ v28_, v28_ = (upd v0 (Int32.toNatClampNeg u1) u0) → (((y3 = 0 → vp_in (618 + 1) 621 ∧ (vp_in (618 + 1) 621 ∧ (∀ v38_, v38_ = (upd v28_ (Int32.toNatClampNeg (618 + 1)) ((v28_ (Int32.toNatClampNeg (618 + 1))) + 1)) → (Q v38_)))) ∧ (¬ y3 = 0 → vp_in (618 + 0) 621 ∧ (vp_in (618 + 0) 621 ∧ (∀ v47_, v47_ = (upd v28_ (Int32.toNatClampNeg (618 + 0)) ((v28_ (Int32.toNatClampNeg (618 + 0))) + 1)) → (Q v47_)))))))
def PJ_M_lose_101 (x1 : Int32) (y2 : Int32) (y3 : Int32) (v0 : (Nat → Int32)) (Q : (Nat → Int32) → Prop) : Prop := vp_in (y2 + 2) 621 ∧ (∀ v19_, v19_ = (upd v0 (Int32.toNatClampNeg (y2 + 2)) 0) → (((y3 = 0 → PJ_M_lose_121 x1 y3 2 (y2 + 6) v19_ Q) ∧ (¬ y3 = 0 → PJ_M_lose_121 x1 y3 1 (y2 + 6) v19_ Q))))
def PJ_M_lose_90 (x1 : Int32) (y2 : Int32) (y3 : Int32) (u0 : Int32) (v0 : (Nat → Int32)) (Q : (Nat → Int32) → Prop) : Prop := ((¬ y3 = 0 → PJ_M_lose_101 x1 y2 y3 v0 Q) ∧ (y3 = 0 → ((u0 = 0 → Q v0) ∧ (¬ u0 = 0 → PJ_M_lose_101 x1 y2 y3 v0 Q))))
def PJ_M_lose_89 (x1 : Int32) (y2 : Int32) (y3 : Int32) (v0 : (Nat → Int32)) (Q : (Nat → Int32) → Prop) : Prop := PJ_M_lose_90 x1 y2 y3 0 v0 Q
def PJ_M_lose_57 (x1 : Int32) (y2 : Int32) (u0 : Int32) (v0 : (Nat → Int32)) (Q : (Nat → Int32) → Prop) : Prop := vp_in 615 621 ∧ ((((v0 (Int32.toNatClampNeg 615)) ≤ 0 → PJ_M_lose_89 x1 y2 u0 v0 Q) ∧ (¬ (v0 (Int32.toNatClampNeg 615)) ≤ 0 → vp_in 616 621 ∧ (vp_in (y2 + 5) 621 ∧ (vp_in 615 621 ∧ (((((v0 (Int32.toNatClampNeg 616)) - (v0 (Int32.toNatClampNeg (y2 + 5)))) < (v0 (Int32.toNatClampNeg 615)) → PJ_M_lose_89 x1 y2 u0 v0 Q) ∧ (¬ ((v0 (Int32.toNatClampNeg 616)) - (v0 (Int32.toNatClampNeg (y2 + 5)))) < (v0 (Int32.toNatClampNeg 615)) → PJ_M_lose_90 x1 y2 u0 1 v0 Q))))))))
def PJ_M_lose_56 (x1 : Int32) (y2 : Int32) (v0 : (Nat → Int32)) (Q : (Nat → Int32) → Prop) : Prop := PJ_M_lose_57 x1 y2 0 v0 Q
def P_M_lose (x1 : Int32) (v0 : (Nat → Int32)) (Q : (Nat → Int32) → Prop) : Prop := P_M_reader x1 (fun r1_ => (vp_in (r1_ + 0) 621 ∧ ((((v0 (Int32.toNatClampNeg (r1_ + 0))) = 0 → Q v0) ∧ (¬ (v0 (Int32.toNatClampNeg (r1_ + 0))) = 0 → vp_in (r1_ + 2) 621 ∧ (((¬ (v0 (Int32.toNatClampNeg (r1_ + 2))) = 0 → vp_in 614 621 ∧ ((((v0 (Int32.toNatClampNeg 614)) ≤ 0 → PJ_M_lose_56 x1 r1_ v0 Q) ∧ (¬ (v0 (Int32.toNatClampNeg 614)) ≤ 0 → vp_in (r1_ + 1) 621 ∧ (vp_in 401 621 ∧ (P_M_sizes (v0 (Int32.toNatClampNeg (r1_ + 1))) (v0 (Int32.toNatClampNeg 401)) v0 (fun r57_ => (vp_in 614 621 ∧ (((r57_ ≤ (v0 (Int32.toNatClampNeg 614)) → PJ_M_lose_56 x1 r1_ v0 Q) ∧ (¬ r57_ ≤ (v0 (Int32.toNatClampNeg 614)) → PJ_M_lose_57 x1 r1_ 1 v0 Q))))))))))) ∧ ((v0 (Int32.toNatClampNeg (r1_ + 2))) = 0 → Q v0))))))))
set_option maxRecDepth 100000 in
theorem s_M_lose {l : Launch} {D : zD} {B : Nat} {sa : Nat → Nat} (hfl : l.stackTraces = false) {z : Nat} {G : zG} {b0 : Nat} {x1 : Int32} {v0 : (Nat → Int32)} {Q : (Nat → Int32) → Prop} (h0 : G b0 = some (zia 621 v0)) (h : P_M_lose x1 v0 Q) : zSp l D B sa yX6_lose cX6_lose 5 none 2 45 0 0 [.ref b0, .int x1] z G (zRv fun z' G' => z = z' ∧ ∃ w, G' b0 = some (zia 621 w) ∧ Fr b0 1 G G' ∧ Q w) := by
  unfold P_M_lose at h
  refine z_ofW (by decide +kernel) hfl [some (.ref b0), some (.int x1), none, none, none] rfl (Nat.le_of_ble_eq_true rfl) (fun p e s m args below meth c O hret hlk hnm => ?_)
  have O : zO p l s m args c D B sa 5 cX6_lose RX6 := O
  have HJ121 : ∀ (y3 : Int32) (u0 : Int32) (u1 : Int32) (v0 : (Nat → Int32)) (G9 : zG) (g0 : G9 b0 = some (zia 621 v0)) (gF : Fr b0 1 G G9), PJ_M_lose_121 x1 y3 u0 u1 v0 Q → zT p l e (zrm 2 45 0 0) s m args below meth c (zEnd below D B (zRv fun z' G' => z = z' ∧ ∃ w, G' b0 = some (zia 621 w) ∧ Fr b0 1 G G' ∧ Q w) args s 0 0) D B 5 0 0 121 [.int u0, .int u1, .ref b0] [some (.ref b0), none, none, some (.int y3), none] z G9 := by
    intro y3 u0 u1 v0 G9 g0 gF h
    unfold PJ_M_lose_121 at h
    obtain ⟨q23_, h⟩ := h
    refine y_iast O dX6_lose_121 g0 q23_ (fun G24_ hw25_ => ?_)
    have k26_ := hw25_.1
    have f27_ := hw25_.fr
    obtain ⟨v28_, ev28_⟩ : ∃ w, w = (upd v0 (Int32.toNatClampNeg u1) u0) := ⟨_, rfl⟩
    have h := h v28_ ev28_
    have k29_ : G24_ b0 = some (zia 621 v28_) := by rw [ev28_]; exact k26_
    have F30_ : Fr b0 1 G G24_ := Fr.trans gF f27_
    refine z_aload_n O dX6_lose_122 rfl rfl ?_
    refine z_sipush (v := 618) O dX6_lose_123 (by decide) ?_
    refine z_iload_n O dX6_lose_126 rfl rfl ?_
    refine z_if_eq (tgt := 134) O dX6_lose_127 (by decide) (fun c31_ => ?_) (fun c31_ => ?_)
    · have h := h.1 c31_
      refine z_iconst (v := 1) O dX6_lose_134 (by decide) ?_
      refine z_iadd O dX6_lose_135 ?_
      refine z_dup2 O dX6_lose_136 rfl rfl ?_
      obtain ⟨q32_, h⟩ := h
      refine z_iald O dX6_lose_137 k29_ q32_ ?_
      refine z_iconst (v := 1) O dX6_lose_138 (by decide) ?_
      refine z_iadd O dX6_lose_139 ?_
      obtain ⟨q33_, h⟩ := h
      refine y_iast O dX6_lose_140 k29_ q33_ (fun G34_ hw35_ => ?_)
      have k36_ := hw35_.1
      have f37_ := hw35_.fr
      obtain ⟨v38_, ev38_⟩ : ∃ w, w = (upd v28_ (Int32.toNatClampNeg (618 + 1)) ((v28_ (Int32.toNatClampNeg (618 + 1))) + 1)) := ⟨_, rfl⟩
      have h := h v38_ ev38_
      have k39_ : G34_ b0 = some (zia 621 v38_) := by rw [ev38_]; exact k36_
      have F40_ : Fr b0 1 G G34_ := Fr.trans F30_ f37_
      exact z_vret O hret hlk dX6_lose_141 (Nat.le_of_ble_eq_true rfl) (Nat.le_of_ble_eq_true rfl) ⟨rfl, rfl, _, k39_, F40_, h⟩
    · have h := h.2 c31_
      refine z_iconst (v := 0) O dX6_lose_130 (by decide) ?_
      refine z_goto (tgt := 135) O dX6_lose_131 (by decide) ?_
      refine z_iadd O dX6_lose_135 ?_
      refine z_dup2 O dX6_lose_136 rfl rfl ?_
      obtain ⟨q41_, h⟩ := h
      refine z_iald O dX6_lose_137 k29_ q41_ ?_
      refine z_iconst (v := 1) O dX6_lose_138 (by decide) ?_
      refine z_iadd O dX6_lose_139 ?_
      obtain ⟨q42_, h⟩ := h
      refine y_iast O dX6_lose_140 k29_ q42_ (fun G43_ hw44_ => ?_)
      have k45_ := hw44_.1
      have f46_ := hw44_.fr
      obtain ⟨v47_, ev47_⟩ : ∃ w, w = (upd v28_ (Int32.toNatClampNeg (618 + 0)) ((v28_ (Int32.toNatClampNeg (618 + 0))) + 1)) := ⟨_, rfl⟩
      have h := h v47_ ev47_
      have k48_ : G43_ b0 = some (zia 621 v47_) := by rw [ev47_]; exact k45_
      have F49_ : Fr b0 1 G G43_ := Fr.trans F30_ f46_
      exact z_vret O hret hlk dX6_lose_141 (Nat.le_of_ble_eq_true rfl) (Nat.le_of_ble_eq_true rfl) ⟨rfl, rfl, _, k48_, F49_, h⟩
  have HJ101 : ∀ (y2 : Int32) (y3 : Int32) (v0 : (Nat → Int32)) (G9 : zG) (g0 : G9 b0 = some (zia 621 v0)) (gF : Fr b0 1 G G9), PJ_M_lose_101 x1 y2 y3 v0 Q → zT p l e (zrm 2 45 0 0) s m args below meth c (zEnd below D B (zRv fun z' G' => z = z' ∧ ∃ w, G' b0 = some (zia 621 w) ∧ Fr b0 1 G G' ∧ Q w) args s 0 0) D B 5 0 0 101 [] [some (.ref b0), none, some (.int y2), some (.int y3), none] z G9 := by
    intro y2 y3 v0 G9 g0 gF h
    unfold PJ_M_lose_101 at h
    refine z_aload_n O dX6_lose_101 rfl rfl ?_
    refine z_iload_n O dX6_lose_102 rfl rfl ?_
    refine z_iconst (v := 2) O dX6_lose_103 (by decide) ?_
    refine z_iadd O dX6_lose_104 ?_
    refine z_iconst (v := 0) O dX6_lose_105 (by decide) ?_
    obtain ⟨q14_, h⟩ := h
    refine y_iast O dX6_lose_106 g0 q14_ (fun G15_ hw16_ => ?_)
    have k17_ := hw16_.1
    have f18_ := hw16_.fr
    obtain ⟨v19_, ev19_⟩ : ∃ w, w = (upd v0 (Int32.toNatClampNeg (y2 + 2)) 0) := ⟨_, rfl⟩
    have h := h v19_ ev19_
    have k20_ : G15_ b0 = some (zia 621 v19_) := by rw [ev19_]; exact k17_
    have F21_ : Fr b0 1 G G15_ := Fr.trans gF f18_
    refine z_aload_n O dX6_lose_107 rfl rfl ?_
    refine z_iload_n O dX6_lose_108 rfl rfl ?_
    refine z_bipush (v := 6) O dX6_lose_109 (by decide) ?_
    refine z_iadd O dX6_lose_111 ?_
    refine z_iload_n O dX6_lose_112 rfl rfl ?_
    refine z_if_eq (tgt := 120) O dX6_lose_113 (by decide) (fun c22_ => ?_) (fun c22_ => ?_)
    · have h := h.1 c22_
      refine z_iconst (v := 2) O dX6_lose_120 (by decide) ?_
      exact z_subL (L' := [some (.ref b0), none, none, some (.int y3), none]) (zLe.sub (And.intro rfl (And.intro rfl True.intro))) (HJ121 y3 2 (y2 + 6) v19_ G15_ k20_ F21_ h)
    · have h := h.2 c22_
      refine z_iconst (v := 1) O dX6_lose_116 (by decide) ?_
      refine z_goto (tgt := 121) O dX6_lose_117 (by decide) ?_
      exact z_subL (L' := [some (.ref b0), none, none, some (.int y3), none]) (zLe.sub (And.intro rfl (And.intro rfl True.intro))) (HJ121 y3 1 (y2 + 6) v19_ G15_ k20_ F21_ h)
  have HJ90 : ∀ (y2 : Int32) (y3 : Int32) (u0 : Int32) (v0 : (Nat → Int32)) (G9 : zG) (g0 : G9 b0 = some (zia 621 v0)) (gF : Fr b0 1 G G9), PJ_M_lose_90 x1 y2 y3 u0 v0 Q → zT p l e (zrm 2 45 0 0) s m args below meth c (zEnd below D B (zRv fun z' G' => z = z' ∧ ∃ w, G' b0 = some (zia 621 w) ∧ Fr b0 1 G G' ∧ Q w) args s 0 0) D B 5 0 0 90 [.int u0] [some (.ref b0), none, some (.int y2), some (.int y3), none] z G9 := by
    intro y2 y3 u0 v0 G9 g0 gF h
    unfold PJ_M_lose_90 at h
    refine z_istore (L' := [some (.ref b0), none, some (.int y2), some (.int y3), some (.int u0)]) O dX6_lose_90 (by decide) rfl ?_
    refine z_iload_n O dX6_lose_92 rfl rfl ?_
    refine z_if_ne (tgt := 101) O dX6_lose_93 (by decide) (fun c13_ => ?_) (fun c13_ => ?_)
    · have h := h.1 c13_
      exact z_subL (L' := [some (.ref b0), none, some (.int y2), some (.int y3), none]) (zLe.sub (And.intro rfl (And.intro rfl (And.intro rfl True.intro)))) (HJ101 y2 y3 v0 G9 g0 gF h)
    · have h := h.2 c13_
      refine z_iload O dX6_lose_96 rfl ?_
      refine z_if_eq (tgt := 141) O dX6_lose_98 (by decide) (fun c50_ => ?_) (fun c50_ => ?_)
      · have h := h.1 c50_
        exact z_vret O hret hlk dX6_lose_141 (Nat.le_of_ble_eq_true rfl) (Nat.le_of_ble_eq_true rfl) ⟨rfl, rfl, _, g0, gF, h⟩
      · have h := h.2 c50_
        exact z_subL (L' := [some (.ref b0), none, some (.int y2), some (.int y3), none]) (zLe.sub (And.intro rfl (And.intro rfl (And.intro rfl True.intro)))) (HJ101 y2 y3 v0 G9 g0 gF h)
  have HJ89 : ∀ (y2 : Int32) (y3 : Int32) (v0 : (Nat → Int32)) (G9 : zG) (g0 : G9 b0 = some (zia 621 v0)) (gF : Fr b0 1 G G9), PJ_M_lose_89 x1 y2 y3 v0 Q → zT p l e (zrm 2 45 0 0) s m args below meth c (zEnd below D B (zRv fun z' G' => z = z' ∧ ∃ w, G' b0 = some (zia 621 w) ∧ Fr b0 1 G G' ∧ Q w) args s 0 0) D B 5 0 0 89 [] [some (.ref b0), none, some (.int y2), some (.int y3), none] z G9 := by
    intro y2 y3 v0 G9 g0 gF h
    unfold PJ_M_lose_89 at h
    refine z_iconst (v := 0) O dX6_lose_89 (by decide) ?_
    exact z_subL (L' := [some (.ref b0), none, some (.int y2), some (.int y3), none]) (zLe.sub (And.intro rfl (And.intro rfl (And.intro rfl True.intro)))) (HJ90 y2 y3 0 v0 G9 g0 gF h)
  have HJ57 : ∀ (y2 : Int32) (u0 : Int32) (v0 : (Nat → Int32)) (G9 : zG) (g0 : G9 b0 = some (zia 621 v0)) (gF : Fr b0 1 G G9), PJ_M_lose_57 x1 y2 u0 v0 Q → zT p l e (zrm 2 45 0 0) s m args below meth c (zEnd below D B (zRv fun z' G' => z = z' ∧ ∃ w, G' b0 = some (zia 621 w) ∧ Fr b0 1 G G' ∧ Q w) args s 0 0) D B 5 0 0 57 [.int u0] [some (.ref b0), none, some (.int y2), none, none] z G9 := by
    intro y2 u0 v0 G9 g0 gF h
    unfold PJ_M_lose_57 at h
    refine z_istore_n (L' := [some (.ref b0), none, some (.int y2), some (.int u0), none]) O dX6_lose_57 rfl (by decide) rfl ?_
    refine z_aload_n O dX6_lose_58 rfl rfl ?_
    refine z_sipush (v := 615) O dX6_lose_59 (by decide) ?_
    obtain ⟨q11_, h⟩ := h
    refine z_iald O dX6_lose_62 g0 q11_ ?_
    refine z_if_le (tgt := 89) O dX6_lose_63 (by decide) (fun c12_ => ?_) (fun c12_ => ?_)
    · have h := h.1 c12_
      exact z_subL (L' := [some (.ref b0), none, some (.int y2), some (.int u0), none]) (zLe.sub (And.intro rfl (And.intro rfl (And.intro rfl True.intro)))) (HJ89 y2 u0 v0 G9 g0 gF h)
    · have h := h.2 c12_
      refine z_aload_n O dX6_lose_66 rfl rfl ?_
      refine z_sipush (v := 616) O dX6_lose_67 (by decide) ?_
      obtain ⟨q51_, h⟩ := h
      refine z_iald O dX6_lose_70 g0 q51_ ?_
      refine z_aload_n O dX6_lose_71 rfl rfl ?_
      refine z_iload_n O dX6_lose_72 rfl rfl ?_
      refine z_iconst (v := 5) O dX6_lose_73 (by decide) ?_
      refine z_iadd O dX6_lose_74 ?_
      obtain ⟨q52_, h⟩ := h
      refine z_iald O dX6_lose_75 g0 q52_ ?_
      refine z_isub O dX6_lose_76 ?_
      refine z_aload_n O dX6_lose_77 rfl rfl ?_
      refine z_sipush (v := 615) O dX6_lose_78 (by decide) ?_
      obtain ⟨q53_, h⟩ := h
      refine z_iald O dX6_lose_81 g0 q53_ ?_
      refine z_icmp_lt (tgt := 89) O dX6_lose_82 (by decide) (fun c54_ => ?_) (fun c54_ => ?_)
      · have h := h.1 c54_
        exact z_subL (L' := [some (.ref b0), none, some (.int y2), some (.int u0), none]) (zLe.sub (And.intro rfl (And.intro rfl (And.intro rfl True.intro)))) (HJ89 y2 u0 v0 G9 g0 gF h)
      · have h := h.2 c54_
        refine z_iconst (v := 1) O dX6_lose_85 (by decide) ?_
        refine z_goto (tgt := 90) O dX6_lose_86 (by decide) ?_
        exact z_subL (L' := [some (.ref b0), none, some (.int y2), some (.int u0), none]) (zLe.sub (And.intro rfl (And.intro rfl (And.intro rfl True.intro)))) (HJ90 y2 u0 1 v0 G9 g0 gF h)
  have HJ56 : ∀ (y2 : Int32) (v0 : (Nat → Int32)) (G9 : zG) (g0 : G9 b0 = some (zia 621 v0)) (gF : Fr b0 1 G G9), PJ_M_lose_56 x1 y2 v0 Q → zT p l e (zrm 2 45 0 0) s m args below meth c (zEnd below D B (zRv fun z' G' => z = z' ∧ ∃ w, G' b0 = some (zia 621 w) ∧ Fr b0 1 G G' ∧ Q w) args s 0 0) D B 5 0 0 56 [] [some (.ref b0), none, some (.int y2), none, none] z G9 := by
    intro y2 v0 G9 g0 gF h
    unfold PJ_M_lose_56 at h
    refine z_iconst (v := 0) O dX6_lose_56 (by decide) ?_
    exact z_subL (L' := [some (.ref b0), none, some (.int y2), none, none]) (zLe.sub (And.intro rfl (And.intro rfl True.intro))) (HJ57 y2 0 v0 G9 g0 gF h)
  refine z_iload_n O dX6_lose_0 rfl rfl ?_
  refine z_callSi (As := [.int x1]) (st := []) O (s_M_reader hfl h) wy_X6_reader wl_RX6_65 dX6_lose_1 rfl rfl ⟨Nat.le_of_ble_eq_true rfl, Nat.le_of_ble_eq_true rfl⟩ (Nat.le_of_ble_eq_true rfl) ⟨Nat.le_of_ble_eq_true rfl, Nat.le_of_ble_eq_true rfl⟩ (fun r1_ z2_ G3_ hq4_ => ?_)
  obtain ⟨rfl, rfl, h⟩ := hq4_
  refine z_istore_n (L' := [some (.ref b0), some (.int x1), some (.int r1_), none, none]) O dX6_lose_4 rfl (by decide) rfl ?_
  refine z_aload_n O dX6_lose_5 rfl rfl ?_
  refine z_iload_n O dX6_lose_6 rfl rfl ?_
  refine z_iconst (v := 0) O dX6_lose_7 (by decide) ?_
  refine z_iadd O dX6_lose_8 ?_
  obtain ⟨q5_, h⟩ := h
  refine z_iald O dX6_lose_9 h0 q5_ ?_
  refine z_if_eq (tgt := 21) O dX6_lose_10 (by decide) (fun c6_ => ?_) (fun c6_ => ?_)
  · have h := h.1 c6_
    exact z_vret O hret hlk dX6_lose_21 (Nat.le_of_ble_eq_true rfl) (Nat.le_of_ble_eq_true rfl) ⟨rfl, rfl, _, h0, Fr.rf, h⟩
  · have h := h.2 c6_
    refine z_aload_n O dX6_lose_13 rfl rfl ?_
    refine z_iload_n O dX6_lose_14 rfl rfl ?_
    refine z_iconst (v := 2) O dX6_lose_15 (by decide) ?_
    refine z_iadd O dX6_lose_16 ?_
    obtain ⟨q7_, h⟩ := h
    refine z_iald O dX6_lose_17 h0 q7_ ?_
    refine z_if_ne (tgt := 22) O dX6_lose_18 (by decide) (fun c8_ => ?_) (fun c8_ => ?_)
    · have h := h.1 c8_
      refine z_aload_n O dX6_lose_22 rfl rfl ?_
      refine z_sipush (v := 614) O dX6_lose_23 (by decide) ?_
      obtain ⟨q9_, h⟩ := h
      refine z_iald O dX6_lose_26 h0 q9_ ?_
      refine z_if_le (tgt := 56) O dX6_lose_27 (by decide) (fun c10_ => ?_) (fun c10_ => ?_)
      · have h := h.1 c10_
        exact z_subL (L' := [some (.ref b0), none, some (.int r1_), none, none]) (zLe.sub (And.intro rfl (And.intro rfl True.intro))) (HJ56 r1_ v0 G h0 Fr.rf h)
      · have h := h.2 c10_
        refine z_aload_n O dX6_lose_30 rfl rfl ?_
        refine z_aload_n O dX6_lose_31 rfl rfl ?_
        refine z_iload_n O dX6_lose_32 rfl rfl ?_
        refine z_iconst (v := 1) O dX6_lose_33 (by decide) ?_
        refine z_iadd O dX6_lose_34 ?_
        obtain ⟨q55_, h⟩ := h
        refine z_iald O dX6_lose_35 h0 q55_ ?_
        refine z_aload_n O dX6_lose_36 rfl rfl ?_
        refine z_sipush (v := 401) O dX6_lose_37 (by decide) ?_
        obtain ⟨q56_, h⟩ := h
        refine z_iald O dX6_lose_40 h0 q56_ ?_
        refine z_callSi (As := [.ref b0, .int (v0 (Int32.toNatClampNeg (r1_ + 1))), .int (v0 (Int32.toNatClampNeg 401))]) (st := []) O (s_M_sizes hfl h0 h) wy_X6_sizes wl_RX6_80 dX6_lose_41 rfl rfl ⟨Nat.le_of_ble_eq_true rfl, Nat.le_of_ble_eq_true rfl⟩ (Nat.le_of_ble_eq_true rfl) ⟨Nat.le_of_ble_eq_true rfl, Nat.le_of_ble_eq_true rfl⟩ (fun r57_ z58_ G59_ hq60_ => ?_)
        obtain ⟨rfl, rfl, h⟩ := hq60_
        refine z_aload_n O dX6_lose_44 rfl rfl ?_
        refine z_sipush (v := 614) O dX6_lose_45 (by decide) ?_
        obtain ⟨q61_, h⟩ := h
        refine z_iald O dX6_lose_48 h0 q61_ ?_
        refine z_icmp_le (tgt := 56) O dX6_lose_49 (by decide) (fun c62_ => ?_) (fun c62_ => ?_)
        · have h := h.1 c62_
          exact z_subL (L' := [some (.ref b0), none, some (.int r1_), none, none]) (zLe.sub (And.intro rfl (And.intro rfl True.intro))) (HJ56 r1_ v0 G h0 Fr.rf h)
        · have h := h.2 c62_
          refine z_iconst (v := 1) O dX6_lose_52 (by decide) ?_
          refine z_goto (tgt := 57) O dX6_lose_53 (by decide) ?_
          exact z_subL (L' := [some (.ref b0), none, some (.int r1_), none, none]) (zLe.sub (And.intro rfl (And.intro rfl True.intro))) (HJ57 r1_ 1 v0 G h0 Fr.rf h)
    · have h := h.2 c8_
      exact z_vret O hret hlk dX6_lose_21 (Nat.le_of_ble_eq_true rfl) (Nat.le_of_ble_eq_true rfl) ⟨rfl, rfl, _, h0, Fr.rf, h⟩

theorem dX6_tick_0 : decode cX6_tick 0 = .ok (.aload_n 0, 1) := by decide +kernel
theorem dX6_tick_1 : decode cX6_tick 1 = .ok (.sipush 616, 3) := by decide +kernel
theorem dX6_tick_4 : decode cX6_tick 4 = .ok (.dup2, 1) := by decide +kernel
theorem dX6_tick_5 : decode cX6_tick 5 = .ok (.iaload, 1) := by decide +kernel
theorem dX6_tick_6 : decode cX6_tick 6 = .ok (.iconst 1, 1) := by decide +kernel
theorem dX6_tick_7 : decode cX6_tick 7 = .ok (.iadd, 1) := by decide +kernel
theorem dX6_tick_8 : decode cX6_tick 8 = .ok (.iastore, 1) := by decide +kernel
theorem dX6_tick_9 : decode cX6_tick 9 = .ok (.iconst 0, 1) := by decide +kernel
theorem dX6_tick_10 : decode cX6_tick 10 = .ok (.istore_n 1, 1) := by decide +kernel
theorem dX6_tick_11 : decode cX6_tick 11 = .ok (.iload_n 1, 1) := by decide +kernel
theorem dX6_tick_12 : decode cX6_tick 12 = .ok (.bipush 8, 2) := by decide +kernel
theorem dX6_tick_14 : decode cX6_tick 14 = .ok (.if_icmp .ge 14, 3) := by decide +kernel
theorem dX6_tick_17 : decode cX6_tick 17 = .ok (.aload_n 0, 1) := by decide +kernel
theorem dX6_tick_18 : decode cX6_tick 18 = .ok (.iload_n 1, 1) := by decide +kernel
theorem dX6_tick_19 : decode cX6_tick 19 = .ok (.invokestatic 103, 3) := by decide +kernel
theorem dX6_tick_22 : decode cX6_tick 22 = .ok (.iinc 1 1, 3) := by decide +kernel
theorem dX6_tick_25 : decode cX6_tick 25 = .ok (.goto (-14), 3) := by decide +kernel
theorem dX6_tick_28 : decode cX6_tick 28 = .ok (.aload_n 0, 1) := by decide +kernel
theorem dX6_tick_29 : decode cX6_tick 29 = .ok (.invokestatic 107, 3) := by decide +kernel
theorem dX6_tick_32 : decode cX6_tick 32 = .ok (.ifCond .ne 10, 3) := by decide +kernel
theorem dX6_tick_35 : decode cX6_tick 35 = .ok (.aload_n 0, 1) := by decide +kernel
theorem dX6_tick_36 : decode cX6_tick 36 = .ok (.invokestatic 110, 3) := by decide +kernel
theorem dX6_tick_39 : decode cX6_tick 39 = .ok (.goto (-11), 3) := by decide +kernel
theorem dX6_tick_42 : decode cX6_tick 42 = .ok (.return_, 1) := by decide +kernel
def PL_M_tick_28 : Nat → (Nat → Int32) → ((Nat → Int32) → Prop) → Prop
  | 0, _, _ => False
  | n + 1, v0, Q => P_M_whyStays v0 (fun r11_ => (((¬ r11_ = 0 → Q v0) ∧ (r11_ = 0 → P_M_drop v0 (fun v20_ => ((fun v0 => PL_M_tick_28 n  v0  Q) v20_))))))
def PL_M_tick_11 : Nat → Int32 → (Nat → Int32) → ((Nat → Int32) → Prop) → Prop
  | 0, _, _, _ => False
  | n + 1, y1, v0, Q => ((8 ≤ y1 → (∃ n24_, PL_M_tick_28 n24_ v0 Q)) ∧ (¬ 8 ≤ y1 → P_M_lose y1 v0 (fun v29_ => ((fun y1 v0 => PL_M_tick_11 n  y1 v0  Q) (y1 + 1) v29_))))
def P_M_tick (v0 : (Nat → Int32)) (Q : (Nat → Int32) → Prop) : Prop := vp_in 616 621 ∧ (vp_in 616 621 ∧ (∀ v7_, v7_ = (upd v0 (Int32.toNatClampNeg 616) ((v0 (Int32.toNatClampNeg 616)) + 1)) → ((∃ n33_, PL_M_tick_11 n33_ 0 v7_ Q))))
set_option maxRecDepth 100000 in
theorem s_M_tick {l : Launch} {D : zD} {B : Nat} {sa : Nat → Nat} (hfl : l.stackTraces = false) {z : Nat} {G : zG} {b0 : Nat} {v0 : (Nat → Int32)} {Q : (Nat → Int32) → Prop} (h0 : G b0 = some (zia 621 v0)) (h : P_M_tick v0 Q) : zSp l D B sa yX6_tick cX6_tick 2 none 4 88 0 0 [.ref b0] z G (zRv fun z' G' => z = z' ∧ ∃ w, G' b0 = some (zia 621 w) ∧ Fr b0 1 G G' ∧ Q w) := by
  unfold P_M_tick at h
  refine z_ofW (by decide +kernel) hfl [some (.ref b0), none] rfl (Nat.le_of_ble_eq_true rfl) (fun p e s m args below meth c O hret hlk hnm => ?_)
  have O : zO p l s m args c D B sa 2 cX6_tick RX6 := O
  have HL28 : ∀ (n9 : Nat)    (v0 : (Nat → Int32)) (G9 : zG) (g0 : G9 b0 = some (zia 621 v0)) (gF : Fr b0 1 G G9) (h : PL_M_tick_28 n9 v0 Q), zT p l e (zrm 4 88 0 0) s m args below meth c (zEnd below D B (zRv fun z' G' => z = z' ∧ ∃ w, G' b0 = some (zia 621 w) ∧ Fr b0 1 G G' ∧ Q w) args s 0 0) D B 2 0 0 28 [] [some (.ref b0), none] z G9 := by
    intro n9   
    induction n9 with
    | zero =>
      intro _ _ _ _ h
      exact (h : False).elim
    | succ n ih =>
      intro v0 G9 g0 gF h
      rw [PL_M_tick_28] at h
      refine z_aload_n O dX6_tick_28 rfl rfl ?_
      refine z_callSi (As := [.ref b0]) (st := []) O (s_M_whyStays hfl g0 h) wy_X6_whyStays wl_RX6_107 dX6_tick_29 rfl rfl ⟨Nat.le_of_ble_eq_true rfl, Nat.le_of_ble_eq_true rfl⟩ (Nat.le_of_ble_eq_true rfl) ⟨Nat.le_of_ble_eq_true rfl, Nat.le_of_ble_eq_true rfl⟩ (fun r11_ z12_ G13_ hq14_ => ?_)
      obtain ⟨rfl, rfl, h⟩ := hq14_
      refine z_if_ne (tgt := 42) O dX6_tick_32 (by decide) (fun c15_ => ?_) (fun c15_ => ?_)
      · have h := h.1 c15_
        exact z_vret O hret hlk dX6_tick_42 (Nat.le_of_ble_eq_true rfl) (Nat.le_of_ble_eq_true rfl) ⟨rfl, rfl, _, g0, gF, h⟩
      · have h := h.2 c15_
        refine z_aload_n O dX6_tick_35 rfl rfl ?_
        refine z_callSv (As := [.ref b0]) (st := []) O (s_M_drop hfl g0 h) wy_X6_drop wl_RX6_110 dX6_tick_36 rfl rfl ⟨Nat.le_of_ble_eq_true rfl, Nat.le_of_ble_eq_true rfl⟩ (Nat.le_of_ble_eq_true rfl) ⟨Nat.le_of_ble_eq_true rfl, Nat.le_of_ble_eq_true rfl⟩ (fun z17_ G18_ hq19_ => ?_)
        obtain ⟨rfl, v20_, k21_, f22_, h⟩ := hq19_
        have F23_ : Fr b0 1 G G18_ := Fr.trans gF f22_
        refine z_goto (tgt := 28) O dX6_tick_39 (by decide) ?_
        exact z_subL (L' := [some (.ref b0), none]) (zLe.sub (And.intro rfl True.intro)) (ih v20_ G18_ k21_ F23_ h)
  have HL11 : ∀ (n9 : Nat)    (y1 : Int32) (v0 : (Nat → Int32)) (G9 : zG) (g0 : G9 b0 = some (zia 621 v0)) (gF : Fr b0 1 G G9) (h : PL_M_tick_11 n9 y1 v0 Q), zT p l e (zrm 4 88 0 0) s m args below meth c (zEnd below D B (zRv fun z' G' => z = z' ∧ ∃ w, G' b0 = some (zia 621 w) ∧ Fr b0 1 G G' ∧ Q w) args s 0 0) D B 2 0 0 11 [] [some (.ref b0), some (.int y1)] z G9 := by
    intro n9   
    induction n9 with
    | zero =>
      intro _ _ _ _ _ h
      exact (h : False).elim
    | succ n ih =>
      intro y1 v0 G9 g0 gF h
      rw [PL_M_tick_11] at h
      refine z_iload_n O dX6_tick_11 rfl rfl ?_
      refine z_bipush (v := 8) O dX6_tick_12 (by decide) ?_
      refine z_icmp_ge (tgt := 28) O dX6_tick_14 (by decide) (fun c10_ => ?_) (fun c10_ => ?_)
      · have h := h.1 c10_
        obtain ⟨n24_, h⟩ := h
        exact z_subL (L' := [some (.ref b0), none]) (zLe.sub (And.intro rfl True.intro)) (HL28 n24_ v0 G9 g0 gF h)
      · have h := h.2 c10_
        refine z_aload_n O dX6_tick_17 rfl rfl ?_
        refine z_iload_n O dX6_tick_18 rfl rfl ?_
        refine z_callSv (As := [.ref b0, .int y1]) (st := []) O (s_M_lose hfl g0 h) wy_X6_lose wl_RX6_103 dX6_tick_19 rfl rfl ⟨Nat.le_of_ble_eq_true rfl, Nat.le_of_ble_eq_true rfl⟩ (Nat.le_of_ble_eq_true rfl) ⟨Nat.le_of_ble_eq_true rfl, Nat.le_of_ble_eq_true rfl⟩ (fun z26_ G27_ hq28_ => ?_)
        obtain ⟨rfl, v29_, k30_, f31_, h⟩ := hq28_
        have F32_ : Fr b0 1 G G27_ := Fr.trans gF f31_
        refine z_iinc (v := (y1 + 1)) (L' := [some (.ref b0), some (.int (y1 + 1))]) O dX6_tick_22 rfl (by first | rfl | decide) (by decide) rfl ?_
        refine z_goto (tgt := 11) O dX6_tick_25 (by decide) ?_
        exact z_subL (L' := [some (.ref b0), some (.int (y1 + 1))]) (zLe.sub (And.intro rfl (And.intro rfl True.intro))) (ih (y1 + 1) v29_ G27_ k30_ F32_ h)
  refine z_aload_n O dX6_tick_0 rfl rfl ?_
  refine z_sipush (v := 616) O dX6_tick_1 (by decide) ?_
  refine z_dup2 O dX6_tick_4 rfl rfl ?_
  obtain ⟨q1_, h⟩ := h
  refine z_iald O dX6_tick_5 h0 q1_ ?_
  refine z_iconst (v := 1) O dX6_tick_6 (by decide) ?_
  refine z_iadd O dX6_tick_7 ?_
  obtain ⟨q2_, h⟩ := h
  refine y_iast O dX6_tick_8 h0 q2_ (fun G3_ hw4_ => ?_)
  have k5_ := hw4_.1
  have f6_ := hw4_.fr
  obtain ⟨v7_, ev7_⟩ : ∃ w, w = (upd v0 (Int32.toNatClampNeg 616) ((v0 (Int32.toNatClampNeg 616)) + 1)) := ⟨_, rfl⟩
  have h := h v7_ ev7_
  have k8_ : G3_ b0 = some (zia 621 v7_) := by rw [ev7_]; exact k5_
  have F9_ : Fr b0 1 G G3_ := Fr.trans Fr.rf f6_
  refine z_iconst (v := 0) O dX6_tick_9 (by decide) ?_
  refine z_istore_n (L' := [some (.ref b0), some (.int 0)]) O dX6_tick_10 rfl (by decide) rfl ?_
  obtain ⟨n33_, h⟩ := h
  exact z_subL (L' := [some (.ref b0), some (.int 0)]) (zLe.sub (And.intro rfl (And.intro rfl True.intro))) (HL11 n33_ 0 v7_ G3_ k8_ F9_ h)

theorem dX6_goTicks_0 : decode cX6_goTicks 0 = .ok (.aload_n 0, 1) := by decide +kernel
theorem dX6_goTicks_1 : decode cX6_goTicks 1 = .ok (.sipush 617, 3) := by decide +kernel
theorem dX6_goTicks_4 : decode cX6_goTicks 4 = .ok (.iaload, 1) := by decide +kernel
theorem dX6_goTicks_5 : decode cX6_goTicks 5 = .ok (.istore_n 2, 1) := by decide +kernel
theorem dX6_goTicks_6 : decode cX6_goTicks 6 = .ok (.iconst 0, 1) := by decide +kernel
theorem dX6_goTicks_7 : decode cX6_goTicks 7 = .ok (.istore_n 3, 1) := by decide +kernel
theorem dX6_goTicks_8 : decode cX6_goTicks 8 = .ok (.iload_n 3, 1) := by decide +kernel
theorem dX6_goTicks_9 : decode cX6_goTicks 9 = .ok (.iload_n 1, 1) := by decide +kernel
theorem dX6_goTicks_10 : decode cX6_goTicks 10 = .ok (.if_icmp .ge 13, 3) := by decide +kernel
theorem dX6_goTicks_13 : decode cX6_goTicks 13 = .ok (.aload_n 0, 1) := by decide +kernel
theorem dX6_goTicks_14 : decode cX6_goTicks 14 = .ok (.invokestatic 113, 3) := by decide +kernel
theorem dX6_goTicks_17 : decode cX6_goTicks 17 = .ok (.iinc 3 1, 3) := by decide +kernel
theorem dX6_goTicks_20 : decode cX6_goTicks 20 = .ok (.goto (-12), 3) := by decide +kernel
theorem dX6_goTicks_23 : decode cX6_goTicks 23 = .ok (.aload_n 0, 1) := by decide +kernel
theorem dX6_goTicks_24 : decode cX6_goTicks 24 = .ok (.sipush 617, 3) := by decide +kernel
theorem dX6_goTicks_27 : decode cX6_goTicks 27 = .ok (.iaload, 1) := by decide +kernel
theorem dX6_goTicks_28 : decode cX6_goTicks 28 = .ok (.iload_n 2, 1) := by decide +kernel
theorem dX6_goTicks_29 : decode cX6_goTicks 29 = .ok (.isub, 1) := by decide +kernel
theorem dX6_goTicks_30 : decode cX6_goTicks 30 = .ok (.ireturn, 1) := by decide +kernel
def PL_M_goTicks_8 : Nat → Int32 → Int32 → Int32 → Int32 → (Nat → Int32) → (Int32 → (Nat → Int32) → Prop) → Prop
  | 0, _, _, _, _, _, _ => False
  | n + 1, x1, y1, y2, y3, v0, Q => ((y1 ≤ y3 → vp_in 617 621 ∧ (Q ((v0 (Int32.toNatClampNeg 617)) - y2) v0)) ∧ (¬ y1 ≤ y3 → P_M_tick v0 (fun v8_ => ((fun y1 y2 y3 v0 => PL_M_goTicks_8 n x1 y1 y2 y3 v0  Q) y1 y2 (y3 + 1) v8_))))
def P_M_goTicks (x1 : Int32) (v0 : (Nat → Int32)) (Q : Int32 → (Nat → Int32) → Prop) : Prop := vp_in 617 621 ∧ ((∃ n12_, PL_M_goTicks_8 n12_ x1 x1 (v0 (Int32.toNatClampNeg 617)) 0 v0 Q))
set_option maxRecDepth 100000 in
theorem s_M_goTicks {l : Launch} {D : zD} {B : Nat} {sa : Nat → Nat} (hfl : l.stackTraces = false) {z : Nat} {G : zG} {b0 : Nat} {x1 : Int32} {v0 : (Nat → Int32)} {Q : Int32 → (Nat → Int32) → Prop} (h0 : G b0 = some (zia 621 v0)) (h : P_M_goTicks x1 v0 Q) : zSp l D B sa yX6_goTicks cX6_goTicks 4 (some .int) 5 109 0 0 [.ref b0, .int x1] z G (zRi fun r z' G' => z = z' ∧ ∃ w, G' b0 = some (zia 621 w) ∧ Fr b0 1 G G' ∧ Q r w) := by
  unfold P_M_goTicks at h
  refine z_ofW (by decide +kernel) hfl [some (.ref b0), some (.int x1), none, none] rfl (Nat.le_of_ble_eq_true rfl) (fun p e s m args below meth c O hret hlk hnm => ?_)
  have O : zO p l s m args c D B sa 4 cX6_goTicks RX6 := O
  have HL8 : ∀ (n9 : Nat)    (y1 : Int32) (y2 : Int32) (y3 : Int32) (v0 : (Nat → Int32)) (G9 : zG) (g0 : G9 b0 = some (zia 621 v0)) (gF : Fr b0 1 G G9) (h : PL_M_goTicks_8 n9 x1 y1 y2 y3 v0 Q), zT p l e (zrm 5 109 0 0) s m args below meth c (zEnd below D B (zRi fun r z' G' => z = z' ∧ ∃ w, G' b0 = some (zia 621 w) ∧ Fr b0 1 G G' ∧ Q r w) args s 0 0) D B 4 0 0 8 [] [some (.ref b0), some (.int y1), some (.int y2), some (.int y3)] z G9 := by
    intro n9   
    induction n9 with
    | zero =>
      intro _ _ _ _ _ _ _ h
      exact (h : False).elim
    | succ n ih =>
      intro y1 y2 y3 v0 G9 g0 gF h
      rw [PL_M_goTicks_8] at h
      refine z_iload_n O dX6_goTicks_8 rfl rfl ?_
      refine z_iload_n O dX6_goTicks_9 rfl rfl ?_
      refine z_icmp_ge (tgt := 23) O dX6_goTicks_10 (by decide) (fun c2_ => ?_) (fun c2_ => ?_)
      · have h := h.1 c2_
        refine z_aload_n O dX6_goTicks_23 rfl rfl ?_
        refine z_sipush (v := 617) O dX6_goTicks_24 (by decide) ?_
        obtain ⟨q3_, h⟩ := h
        refine z_iald O dX6_goTicks_27 g0 q3_ ?_
        refine z_iload_n O dX6_goTicks_28 rfl rfl ?_
        refine z_isub O dX6_goTicks_29 ?_
        exact z_iret O hret hlk dX6_goTicks_30 (Nat.le_of_ble_eq_true rfl) (Nat.le_of_ble_eq_true rfl) ⟨_, rfl, rfl, _, g0, gF, h⟩
      · have h := h.2 c2_
        refine z_aload_n O dX6_goTicks_13 rfl rfl ?_
        refine z_callSv (As := [.ref b0]) (st := []) O (s_M_tick hfl g0 h) wy_X6_tick wl_RX6_113 dX6_goTicks_14 rfl rfl ⟨Nat.le_of_ble_eq_true rfl, Nat.le_of_ble_eq_true rfl⟩ (Nat.le_of_ble_eq_true rfl) ⟨Nat.le_of_ble_eq_true rfl, Nat.le_of_ble_eq_true rfl⟩ (fun z5_ G6_ hq7_ => ?_)
        obtain ⟨rfl, v8_, k9_, f10_, h⟩ := hq7_
        have F11_ : Fr b0 1 G G6_ := Fr.trans gF f10_
        refine z_iinc (v := (y3 + 1)) (L' := [some (.ref b0), some (.int y1), some (.int y2), some (.int (y3 + 1))]) O dX6_goTicks_17 rfl (by first | rfl | decide) (by decide) rfl ?_
        refine z_goto (tgt := 8) O dX6_goTicks_20 (by decide) ?_
        exact z_subL (L' := [some (.ref b0), some (.int y1), some (.int y2), some (.int (y3 + 1))]) (zLe.sub (And.intro rfl (And.intro rfl (And.intro rfl (And.intro rfl True.intro))))) (ih y1 y2 (y3 + 1) v8_ G6_ k9_ F11_ h)
  refine z_aload_n O dX6_goTicks_0 rfl rfl ?_
  refine z_sipush (v := 617) O dX6_goTicks_1 (by decide) ?_
  obtain ⟨q1_, h⟩ := h
  refine z_iald O dX6_goTicks_4 h0 q1_ ?_
  refine z_istore_n (L' := [some (.ref b0), some (.int x1), some (.int (v0 (Int32.toNatClampNeg 617))), none]) O dX6_goTicks_5 rfl (by decide) rfl ?_
  refine z_iconst (v := 0) O dX6_goTicks_6 (by decide) ?_
  refine z_istore_n (L' := [some (.ref b0), some (.int x1), some (.int (v0 (Int32.toNatClampNeg 617))), some (.int 0)]) O dX6_goTicks_7 rfl (by decide) rfl ?_
  obtain ⟨n12_, h⟩ := h
  exact z_subL (L' := [some (.ref b0), some (.int x1), some (.int (v0 (Int32.toNatClampNeg 617))), some (.int 0)]) (zLe.sub (And.intro rfl (And.intro rfl (And.intro rfl (And.intro rfl True.intro))))) (HL8 n12_ x1 (v0 (Int32.toNatClampNeg 617)) 0 v0 G h0 Fr.rf h)
