theorem dX6_behind_0 : decode cX6_behind 0 = .ok (.iload_n 1, 1) := by decide +kernel
theorem dX6_behind_1 : decode cX6_behind 1 = .ok (.iconst 1, 1) := by decide +kernel
theorem dX6_behind_2 : decode cX6_behind 2 = .ok (.iadd, 1) := by decide +kernel
theorem dX6_behind_3 : decode cX6_behind 3 = .ok (.istore_n 2, 1) := by decide +kernel
theorem dX6_behind_4 : decode cX6_behind 4 = .ok (.iload_n 2, 1) := by decide +kernel
theorem dX6_behind_5 : decode cX6_behind 5 = .ok (.aload_n 0, 1) := by decide +kernel
theorem dX6_behind_6 : decode cX6_behind 6 = .ok (.sipush 401, 3) := by decide +kernel
theorem dX6_behind_9 : decode cX6_behind 9 = .ok (.iaload, 1) := by decide +kernel
theorem dX6_behind_10 : decode cX6_behind 10 = .ok (.if_icmp .ge 17, 3) := by decide +kernel
theorem dX6_behind_13 : decode cX6_behind 13 = .ok (.aload_n 0, 1) := by decide +kernel
theorem dX6_behind_14 : decode cX6_behind 14 = .ok (.iload_n 2, 1) := by decide +kernel
theorem dX6_behind_15 : decode cX6_behind 15 = .ok (.invokestatic 73, 3) := by decide +kernel
theorem dX6_behind_18 : decode cX6_behind 18 = .ok (.ifCond .ne 9, 3) := by decide +kernel
theorem dX6_behind_21 : decode cX6_behind 21 = .ok (.iinc 2 1, 3) := by decide +kernel
theorem dX6_behind_24 : decode cX6_behind 24 = .ok (.goto (-20), 3) := by decide +kernel
theorem dX6_behind_27 : decode cX6_behind 27 = .ok (.iload_n 2, 1) := by decide +kernel
theorem dX6_behind_28 : decode cX6_behind 28 = .ok (.ireturn, 1) := by decide +kernel
def PL_M_behind_4 : Nat → Int32 → (Nat → Int32) → Int32 → (Int32 → Prop) → Prop
  | 0, _, _, _, _ => False
  | n + 1, x1, v0, y2, Q => vp_in 401 621 ∧ ((((v0 (Int32.toNatClampNeg 401)) ≤ y2 → Q y2) ∧ (¬ (v0 (Int32.toNatClampNeg 401)) ≤ y2 → P_M_begins y2 v0 (fun r3_ => (((¬ r3_ = 0 → Q y2) ∧ (r3_ = 0 → (fun y2 => PL_M_behind_4 n x1 v0 y2  Q) (y2 + 1))))))))
def P_M_behind (x1 : Int32) (v0 : (Nat → Int32)) (Q : Int32 → Prop) : Prop := (∃ n8_, PL_M_behind_4 n8_ x1 v0 (x1 + 1) Q)
set_option maxRecDepth 100000 in
theorem s_M_behind {l : Launch} {D : zD} {B : Nat} {sa : Nat → Nat} (hfl : l.stackTraces = false) {z : Nat} {G : zG} {b0 : Nat} {x1 : Int32} {v0 : (Nat → Int32)} {Q : Int32 → Prop} (h0 : G b0 = some (zia 621 v0)) (h : P_M_behind x1 v0 Q) : zSp l D B sa yX6_behind cX6_behind 3 (some .int) 1 21 0 0 [.ref b0, .int x1] z G (zRi fun r z' G' => z = z' ∧ G = G' ∧ Q r) := by
  unfold P_M_behind at h
  refine z_ofW (by decide +kernel) hfl [some (.ref b0), some (.int x1), none] rfl (Nat.le_of_ble_eq_true rfl) (fun p e s m args below meth c O hret hlk hnm => ?_)
  have O : zO p l s m args c D B sa 3 cX6_behind RX6 := O
  have HL4 : ∀ (n9 : Nat)    (y2 : Int32) (h : PL_M_behind_4 n9 x1 v0 y2 Q), zT p l e (zrm 1 21 0 0) s m args below meth c (zEnd below D B (zRi fun r z' G' => z = z' ∧ G = G' ∧ Q r) args s 0 0) D B 3 0 0 4 [] [some (.ref b0), none, some (.int y2)] z G := by
    intro n9   
    induction n9 with
    | zero =>
      intro _ h
      exact (h : False).elim
    | succ n ih =>
      intro y2 h
      rw [PL_M_behind_4] at h
      refine z_iload_n O dX6_behind_4 rfl rfl ?_
      refine z_aload_n O dX6_behind_5 rfl rfl ?_
      refine z_sipush (v := 401) O dX6_behind_6 (by decide) ?_
      obtain ⟨q1_, h⟩ := h
      refine z_iald O dX6_behind_9 h0 q1_ ?_
      refine z_icmp_ge (tgt := 27) O dX6_behind_10 (by decide) (fun c2_ => ?_) (fun c2_ => ?_)
      · have h := h.1 c2_
        refine z_iload_n O dX6_behind_27 rfl rfl ?_
        exact z_iret O hret hlk dX6_behind_28 (Nat.le_of_ble_eq_true rfl) (Nat.le_of_ble_eq_true rfl) ⟨_, rfl, rfl, rfl, h⟩
      · have h := h.2 c2_
        refine z_aload_n O dX6_behind_13 rfl rfl ?_
        refine z_iload_n O dX6_behind_14 rfl rfl ?_
        refine z_callSi (As := [.ref b0, .int y2]) (st := []) O (s_M_begins hfl h0 h) wy_X6_begins wl_RX6_73 dX6_behind_15 rfl rfl ⟨Nat.le_of_ble_eq_true rfl, Nat.le_of_ble_eq_true rfl⟩ (Nat.le_of_ble_eq_true rfl) ⟨Nat.le_of_ble_eq_true rfl, Nat.le_of_ble_eq_true rfl⟩ (fun r3_ z4_ G5_ hq6_ => ?_)
        obtain ⟨rfl, rfl, h⟩ := hq6_
        refine z_if_ne (tgt := 27) O dX6_behind_18 (by decide) (fun c7_ => ?_) (fun c7_ => ?_)
        · have h := h.1 c7_
          refine z_iload_n O dX6_behind_27 rfl rfl ?_
          exact z_iret O hret hlk dX6_behind_28 (Nat.le_of_ble_eq_true rfl) (Nat.le_of_ble_eq_true rfl) ⟨_, rfl, rfl, rfl, h⟩
        · have h := h.2 c7_
          refine z_iinc (v := (y2 + 1)) (L' := [some (.ref b0), none, some (.int (y2 + 1))]) O dX6_behind_21 rfl (by first | rfl | decide) (by decide) rfl ?_
          refine z_goto (tgt := 4) O dX6_behind_24 (by decide) ?_
          exact z_subL (L' := [some (.ref b0), none, some (.int (y2 + 1))]) (zLe.sub (And.intro rfl (And.intro rfl True.intro))) (ih (y2 + 1) h)
  refine z_iload_n O dX6_behind_0 rfl rfl ?_
  refine z_iconst (v := 1) O dX6_behind_1 (by decide) ?_
  refine z_iadd O dX6_behind_2 ?_
  refine z_istore_n (L' := [some (.ref b0), some (.int x1), some (.int (x1 + 1))]) O dX6_behind_3 rfl (by decide) rfl ?_
  obtain ⟨n8_, h⟩ := h
  exact z_subL (L' := [some (.ref b0), none, some (.int (x1 + 1))]) (zLe.sub (And.intro rfl (And.intro rfl True.intro))) (HL4 n8_ (x1 + 1) h)

theorem dX6_firstOf_0 : decode cX6_firstOf 0 = .ok (.aload_n 0, 1) := by decide +kernel
theorem dX6_firstOf_1 : decode cX6_firstOf 1 = .ok (.sipush 400, 3) := by decide +kernel
theorem dX6_firstOf_4 : decode cX6_firstOf 4 = .ok (.iaload, 1) := by decide +kernel
theorem dX6_firstOf_5 : decode cX6_firstOf 5 = .ok (.istore_n 2, 1) := by decide +kernel
theorem dX6_firstOf_6 : decode cX6_firstOf 6 = .ok (.iload_n 1, 1) := by decide +kernel
theorem dX6_firstOf_7 : decode cX6_firstOf 7 = .ok (.istore_n 3, 1) := by decide +kernel
theorem dX6_firstOf_8 : decode cX6_firstOf 8 = .ok (.iload_n 3, 1) := by decide +kernel
theorem dX6_firstOf_9 : decode cX6_firstOf 9 = .ok (.ifCond .le 15, 3) := by decide +kernel
theorem dX6_firstOf_12 : decode cX6_firstOf 12 = .ok (.aload_n 0, 1) := by decide +kernel
theorem dX6_firstOf_13 : decode cX6_firstOf 13 = .ok (.iload_n 2, 1) := by decide +kernel
theorem dX6_firstOf_14 : decode cX6_firstOf 14 = .ok (.invokestatic 77, 3) := by decide +kernel
theorem dX6_firstOf_17 : decode cX6_firstOf 17 = .ok (.istore_n 2, 1) := by decide +kernel
theorem dX6_firstOf_18 : decode cX6_firstOf 18 = .ok (.iinc 3 (-1), 3) := by decide +kernel
theorem dX6_firstOf_21 : decode cX6_firstOf 21 = .ok (.goto (-13), 3) := by decide +kernel
theorem dX6_firstOf_24 : decode cX6_firstOf 24 = .ok (.iload_n 2, 1) := by decide +kernel
theorem dX6_firstOf_25 : decode cX6_firstOf 25 = .ok (.ireturn, 1) := by decide +kernel
def PL_M_firstOf_8 : Nat → Int32 → (Nat → Int32) → Int32 → Int32 → (Int32 → Prop) → Prop
  | 0, _, _, _, _, _ => False
  | n + 1, x1, v0, y2, y3, Q => ((y3 ≤ 0 → Q y2) ∧ (¬ y3 ≤ 0 → P_M_behind y2 v0 (fun r3_ => ((fun y2 y3 => PL_M_firstOf_8 n x1 v0 y2 y3  Q) r3_ (y3 + (-1))))))
def P_M_firstOf (x1 : Int32) (v0 : (Nat → Int32)) (Q : Int32 → Prop) : Prop := vp_in 400 621 ∧ ((∃ n7_, PL_M_firstOf_8 n7_ x1 v0 (v0 (Int32.toNatClampNeg 400)) x1 Q))
set_option maxRecDepth 100000 in
theorem s_M_firstOf {l : Launch} {D : zD} {B : Nat} {sa : Nat → Nat} (hfl : l.stackTraces = false) {z : Nat} {G : zG} {b0 : Nat} {x1 : Int32} {v0 : (Nat → Int32)} {Q : Int32 → Prop} (h0 : G b0 = some (zia 621 v0)) (h : P_M_firstOf x1 v0 Q) : zSp l D B sa yX6_firstOf cX6_firstOf 4 (some .int) 2 43 0 0 [.ref b0, .int x1] z G (zRi fun r z' G' => z = z' ∧ G = G' ∧ Q r) := by
  unfold P_M_firstOf at h
  refine z_ofW (by decide +kernel) hfl [some (.ref b0), some (.int x1), none, none] rfl (Nat.le_of_ble_eq_true rfl) (fun p e s m args below meth c O hret hlk hnm => ?_)
  have O : zO p l s m args c D B sa 4 cX6_firstOf RX6 := O
  have HL8 : ∀ (n9 : Nat)    (y2 : Int32) (y3 : Int32) (h : PL_M_firstOf_8 n9 x1 v0 y2 y3 Q), zT p l e (zrm 2 43 0 0) s m args below meth c (zEnd below D B (zRi fun r z' G' => z = z' ∧ G = G' ∧ Q r) args s 0 0) D B 4 0 0 8 [] [some (.ref b0), none, some (.int y2), some (.int y3)] z G := by
    intro n9   
    induction n9 with
    | zero =>
      intro _ _ h
      exact (h : False).elim
    | succ n ih =>
      intro y2 y3 h
      rw [PL_M_firstOf_8] at h
      refine z_iload_n O dX6_firstOf_8 rfl rfl ?_
      refine z_if_le (tgt := 24) O dX6_firstOf_9 (by decide) (fun c2_ => ?_) (fun c2_ => ?_)
      · have h := h.1 c2_
        refine z_iload_n O dX6_firstOf_24 rfl rfl ?_
        exact z_iret O hret hlk dX6_firstOf_25 (Nat.le_of_ble_eq_true rfl) (Nat.le_of_ble_eq_true rfl) ⟨_, rfl, rfl, rfl, h⟩
      · have h := h.2 c2_
        refine z_aload_n O dX6_firstOf_12 rfl rfl ?_
        refine z_iload_n O dX6_firstOf_13 rfl rfl ?_
        refine z_callSi (As := [.ref b0, .int y2]) (st := []) O (s_M_behind hfl h0 h) wy_X6_behind wl_RX6_77 dX6_firstOf_14 rfl rfl ⟨Nat.le_of_ble_eq_true rfl, Nat.le_of_ble_eq_true rfl⟩ (Nat.le_of_ble_eq_true rfl) ⟨Nat.le_of_ble_eq_true rfl, Nat.le_of_ble_eq_true rfl⟩ (fun r3_ z4_ G5_ hq6_ => ?_)
        obtain ⟨rfl, rfl, h⟩ := hq6_
        refine z_istore_n (L' := [some (.ref b0), none, some (.int r3_), some (.int y3)]) O dX6_firstOf_17 rfl (by decide) rfl ?_
        refine z_iinc (v := (y3 + (-1))) (L' := [some (.ref b0), none, some (.int r3_), some (.int (y3 + (-1)))]) O dX6_firstOf_18 rfl (by first | rfl | decide) (by decide) rfl ?_
        refine z_goto (tgt := 8) O dX6_firstOf_21 (by decide) ?_
        exact z_subL (L' := [some (.ref b0), none, some (.int r3_), some (.int (y3 + (-1)))]) (zLe.sub (And.intro rfl (And.intro rfl (And.intro rfl True.intro)))) (ih r3_ (y3 + (-1)) h)
  refine z_aload_n O dX6_firstOf_0 rfl rfl ?_
  refine z_sipush (v := 400) O dX6_firstOf_1 (by decide) ?_
  obtain ⟨q1_, h⟩ := h
  refine z_iald O dX6_firstOf_4 h0 q1_ ?_
  refine z_istore_n (L' := [some (.ref b0), some (.int x1), some (.int (v0 (Int32.toNatClampNeg 400))), none]) O dX6_firstOf_5 rfl (by decide) rfl ?_
  refine z_iload_n O dX6_firstOf_6 rfl rfl ?_
  refine z_istore_n (L' := [some (.ref b0), some (.int x1), some (.int (v0 (Int32.toNatClampNeg 400))), some (.int x1)]) O dX6_firstOf_7 rfl (by decide) rfl ?_
  obtain ⟨n7_, h⟩ := h
  exact z_subL (L' := [some (.ref b0), none, some (.int (v0 (Int32.toNatClampNeg 400))), some (.int x1)]) (zLe.sub (And.intro rfl (And.intro rfl (And.intro rfl True.intro)))) (HL8 n7_ (v0 (Int32.toNatClampNeg 400)) x1 h)

theorem dX6_isDue_0 : decode cX6_isDue 0 = .ok (.aload_n 0, 1) := by decide +kernel
theorem dX6_isDue_1 : decode cX6_isDue 1 = .ok (.iload_n 1, 1) := by decide +kernel
theorem dX6_isDue_2 : decode cX6_isDue 2 = .ok (.invokestatic 77, 3) := by decide +kernel
theorem dX6_isDue_5 : decode cX6_isDue 5 = .ok (.iconst 1, 1) := by decide +kernel
theorem dX6_isDue_6 : decode cX6_isDue 6 = .ok (.isub, 1) := by decide +kernel
theorem dX6_isDue_7 : decode cX6_isDue 7 = .ok (.istore_n 2, 1) := by decide +kernel
theorem dX6_isDue_8 : decode cX6_isDue 8 = .ok (.aload_n 0, 1) := by decide +kernel
theorem dX6_isDue_9 : decode cX6_isDue 9 = .ok (.sipush 612, 3) := by decide +kernel
theorem dX6_isDue_12 : decode cX6_isDue 12 = .ok (.iaload, 1) := by decide +kernel
theorem dX6_isDue_13 : decode cX6_isDue 13 = .ok (.ifCond .le 28, 3) := by decide +kernel
theorem dX6_isDue_16 : decode cX6_isDue 16 = .ok (.aload_n 0, 1) := by decide +kernel
theorem dX6_isDue_17 : decode cX6_isDue 17 = .ok (.sipush 616, 3) := by decide +kernel
theorem dX6_isDue_20 : decode cX6_isDue 20 = .ok (.iaload, 1) := by decide +kernel
theorem dX6_isDue_21 : decode cX6_isDue 21 = .ok (.aload_n 0, 1) := by decide +kernel
theorem dX6_isDue_22 : decode cX6_isDue 22 = .ok (.sipush 200, 3) := by decide +kernel
theorem dX6_isDue_25 : decode cX6_isDue 25 = .ok (.iload_n 2, 1) := by decide +kernel
theorem dX6_isDue_26 : decode cX6_isDue 26 = .ok (.iadd, 1) := by decide +kernel
theorem dX6_isDue_27 : decode cX6_isDue 27 = .ok (.iaload, 1) := by decide +kernel
theorem dX6_isDue_28 : decode cX6_isDue 28 = .ok (.isub, 1) := by decide +kernel
theorem dX6_isDue_29 : decode cX6_isDue 29 = .ok (.aload_n 0, 1) := by decide +kernel
theorem dX6_isDue_30 : decode cX6_isDue 30 = .ok (.sipush 612, 3) := by decide +kernel
theorem dX6_isDue_33 : decode cX6_isDue 33 = .ok (.iaload, 1) := by decide +kernel
theorem dX6_isDue_34 : decode cX6_isDue 34 = .ok (.if_icmp .lt 7, 3) := by decide +kernel
theorem dX6_isDue_37 : decode cX6_isDue 37 = .ok (.iconst 1, 1) := by decide +kernel
theorem dX6_isDue_38 : decode cX6_isDue 38 = .ok (.goto 4, 3) := by decide +kernel
theorem dX6_isDue_41 : decode cX6_isDue 41 = .ok (.iconst 0, 1) := by decide +kernel
theorem dX6_isDue_42 : decode cX6_isDue 42 = .ok (.istore_n 3, 1) := by decide +kernel
theorem dX6_isDue_43 : decode cX6_isDue 43 = .ok (.iload_n 3, 1) := by decide +kernel
theorem dX6_isDue_44 : decode cX6_isDue 44 = .ok (.ifCond .ne 25, 3) := by decide +kernel
theorem dX6_isDue_47 : decode cX6_isDue 47 = .ok (.aload_n 0, 1) := by decide +kernel
theorem dX6_isDue_48 : decode cX6_isDue 48 = .ok (.aload_n 0, 1) := by decide +kernel
theorem dX6_isDue_49 : decode cX6_isDue 49 = .ok (.sipush 400, 3) := by decide +kernel
theorem dX6_isDue_52 : decode cX6_isDue 52 = .ok (.iaload, 1) := by decide +kernel
theorem dX6_isDue_53 : decode cX6_isDue 53 = .ok (.aload_n 0, 1) := by decide +kernel
theorem dX6_isDue_54 : decode cX6_isDue 54 = .ok (.sipush 401, 3) := by decide +kernel
theorem dX6_isDue_57 : decode cX6_isDue 57 = .ok (.iaload, 1) := by decide +kernel
theorem dX6_isDue_58 : decode cX6_isDue 58 = .ok (.invokestatic 80, 3) := by decide +kernel
theorem dX6_isDue_61 : decode cX6_isDue 61 = .ok (.aload_n 0, 1) := by decide +kernel
theorem dX6_isDue_62 : decode cX6_isDue 62 = .ok (.sipush 613, 3) := by decide +kernel
theorem dX6_isDue_65 : decode cX6_isDue 65 = .ok (.iaload, 1) := by decide +kernel
theorem dX6_isDue_66 : decode cX6_isDue 66 = .ok (.if_icmp .le 7, 3) := by decide +kernel
theorem dX6_isDue_69 : decode cX6_isDue 69 = .ok (.iconst 1, 1) := by decide +kernel
theorem dX6_isDue_70 : decode cX6_isDue 70 = .ok (.goto 4, 3) := by decide +kernel
theorem dX6_isDue_73 : decode cX6_isDue 73 = .ok (.iconst 0, 1) := by decide +kernel
theorem dX6_isDue_74 : decode cX6_isDue 74 = .ok (.ireturn, 1) := by decide +kernel
def PJ_M_isDue_42 (x1 : Int32) (v0 : (Nat → Int32)) (u0 : Int32) (Q : Int32 → Prop) : Prop := ((¬ u0 = 0 → Q 1) ∧ (u0 = 0 → vp_in 400 621 ∧ (vp_in 401 621 ∧ (P_M_sizes (v0 (Int32.toNatClampNeg 400)) (v0 (Int32.toNatClampNeg 401)) v0 (fun r10_ => (vp_in 613 621 ∧ (((r10_ ≤ (v0 (Int32.toNatClampNeg 613)) → Q 0) ∧ (¬ r10_ ≤ (v0 (Int32.toNatClampNeg 613)) → Q 1)))))))))
def PJ_M_isDue_41 (x1 : Int32) (v0 : (Nat → Int32)) (Q : Int32 → Prop) : Prop := PJ_M_isDue_42 x1 v0 0 Q
def P_M_isDue (x1 : Int32) (v0 : (Nat → Int32)) (Q : Int32 → Prop) : Prop := P_M_behind x1 v0 (fun r1_ => (vp_in 612 621 ∧ ((((v0 (Int32.toNatClampNeg 612)) ≤ 0 → PJ_M_isDue_41 x1 v0 Q) ∧ (¬ (v0 (Int32.toNatClampNeg 612)) ≤ 0 → vp_in 616 621 ∧ (vp_in (200 + (r1_ - 1)) 621 ∧ (vp_in 612 621 ∧ (((((v0 (Int32.toNatClampNeg 616)) - (v0 (Int32.toNatClampNeg (200 + (r1_ - 1))))) < (v0 (Int32.toNatClampNeg 612)) → PJ_M_isDue_41 x1 v0 Q) ∧ (¬ ((v0 (Int32.toNatClampNeg 616)) - (v0 (Int32.toNatClampNeg (200 + (r1_ - 1))))) < (v0 (Int32.toNatClampNeg 612)) → PJ_M_isDue_42 x1 v0 1 Q))))))))))
set_option maxRecDepth 100000 in
theorem s_M_isDue {l : Launch} {D : zD} {B : Nat} {sa : Nat → Nat} (hfl : l.stackTraces = false) {z : Nat} {G : zG} {b0 : Nat} {x1 : Int32} {v0 : (Nat → Int32)} {Q : Int32 → Prop} (h0 : G b0 = some (zia 621 v0)) (h : P_M_isDue x1 v0 Q) : zSp l D B sa yX6_isDue cX6_isDue 4 (some .boolean) 2 45 0 0 [.ref b0, .int x1] z G (zRi fun r z' G' => z = z' ∧ G = G' ∧ Q r) := by
  unfold P_M_isDue at h
  refine z_ofW (by decide +kernel) hfl [some (.ref b0), some (.int x1), none, none] rfl (Nat.le_of_ble_eq_true rfl) (fun p e s m args below meth c O hret hlk hnm => ?_)
  have O : zO p l s m args c D B sa 4 cX6_isDue RX6 := O
  have HJ42 : ∀ (u0 : Int32), PJ_M_isDue_42 x1 v0 u0 Q → zT p l e (zrm 2 45 0 0) s m args below meth c (zEnd below D B (zRi fun r z' G' => z = z' ∧ G = G' ∧ Q r) args s 0 0) D B 4 0 0 42 [.int u0] [some (.ref b0), none, none, none] z G := by
    intro u0 h
    unfold PJ_M_isDue_42 at h
    refine z_istore_n (L' := [some (.ref b0), none, none, some (.int u0)]) O dX6_isDue_42 rfl (by decide) rfl ?_
    refine z_iload_n O dX6_isDue_43 rfl rfl ?_
    refine z_if_ne (tgt := 69) O dX6_isDue_44 (by decide) (fun c7_ => ?_) (fun c7_ => ?_)
    · have h := h.1 c7_
      refine z_iconst (v := 1) O dX6_isDue_69 (by decide) ?_
      refine z_goto (tgt := 74) O dX6_isDue_70 (by decide) ?_
      exact z_zret O hret rfl hlk dX6_isDue_74 (Nat.le_of_ble_eq_true rfl) (Nat.le_of_ble_eq_true rfl) ⟨_, rfl, rfl, rfl, h⟩
    · have h := h.2 c7_
      refine z_aload_n O dX6_isDue_47 rfl rfl ?_
      refine z_aload_n O dX6_isDue_48 rfl rfl ?_
      refine z_sipush (v := 400) O dX6_isDue_49 (by decide) ?_
      obtain ⟨q8_, h⟩ := h
      refine z_iald O dX6_isDue_52 h0 q8_ ?_
      refine z_aload_n O dX6_isDue_53 rfl rfl ?_
      refine z_sipush (v := 401) O dX6_isDue_54 (by decide) ?_
      obtain ⟨q9_, h⟩ := h
      refine z_iald O dX6_isDue_57 h0 q9_ ?_
      refine z_callSi (As := [.ref b0, .int (v0 (Int32.toNatClampNeg 400)), .int (v0 (Int32.toNatClampNeg 401))]) (st := []) O (s_M_sizes hfl h0 h) wy_X6_sizes wl_RX6_80 dX6_isDue_58 rfl rfl ⟨Nat.le_of_ble_eq_true rfl, Nat.le_of_ble_eq_true rfl⟩ (Nat.le_of_ble_eq_true rfl) ⟨Nat.le_of_ble_eq_true rfl, Nat.le_of_ble_eq_true rfl⟩ (fun r10_ z11_ G12_ hq13_ => ?_)
      obtain ⟨rfl, rfl, h⟩ := hq13_
      refine z_aload_n O dX6_isDue_61 rfl rfl ?_
      refine z_sipush (v := 613) O dX6_isDue_62 (by decide) ?_
      obtain ⟨q14_, h⟩ := h
      refine z_iald O dX6_isDue_65 h0 q14_ ?_
      refine z_icmp_le (tgt := 73) O dX6_isDue_66 (by decide) (fun c15_ => ?_) (fun c15_ => ?_)
      · have h := h.1 c15_
        refine z_iconst (v := 0) O dX6_isDue_73 (by decide) ?_
        exact z_zret O hret rfl hlk dX6_isDue_74 (Nat.le_of_ble_eq_true rfl) (Nat.le_of_ble_eq_true rfl) ⟨_, rfl, rfl, rfl, h⟩
      · have h := h.2 c15_
        refine z_iconst (v := 1) O dX6_isDue_69 (by decide) ?_
        refine z_goto (tgt := 74) O dX6_isDue_70 (by decide) ?_
        exact z_zret O hret rfl hlk dX6_isDue_74 (Nat.le_of_ble_eq_true rfl) (Nat.le_of_ble_eq_true rfl) ⟨_, rfl, rfl, rfl, h⟩
  have HJ41 : PJ_M_isDue_41 x1 v0 Q → zT p l e (zrm 2 45 0 0) s m args below meth c (zEnd below D B (zRi fun r z' G' => z = z' ∧ G = G' ∧ Q r) args s 0 0) D B 4 0 0 41 [] [some (.ref b0), none, none, none] z G := by
    intro  h
    unfold PJ_M_isDue_41 at h
    refine z_iconst (v := 0) O dX6_isDue_41 (by decide) ?_
    exact z_subL (L' := [some (.ref b0), none, none, none]) (zLe.sub (And.intro rfl True.intro)) (HJ42 0 h)
  refine z_aload_n O dX6_isDue_0 rfl rfl ?_
  refine z_iload_n O dX6_isDue_1 rfl rfl ?_
  refine z_callSi (As := [.ref b0, .int x1]) (st := []) O (s_M_behind hfl h0 h) wy_X6_behind wl_RX6_77 dX6_isDue_2 rfl rfl ⟨Nat.le_of_ble_eq_true rfl, Nat.le_of_ble_eq_true rfl⟩ (Nat.le_of_ble_eq_true rfl) ⟨Nat.le_of_ble_eq_true rfl, Nat.le_of_ble_eq_true rfl⟩ (fun r1_ z2_ G3_ hq4_ => ?_)
  obtain ⟨rfl, rfl, h⟩ := hq4_
  refine z_iconst (v := 1) O dX6_isDue_5 (by decide) ?_
  refine z_isub O dX6_isDue_6 ?_
  refine z_istore_n (L' := [some (.ref b0), some (.int x1), some (.int (r1_ - 1)), none]) O dX6_isDue_7 rfl (by decide) rfl ?_
  refine z_aload_n O dX6_isDue_8 rfl rfl ?_
  refine z_sipush (v := 612) O dX6_isDue_9 (by decide) ?_
  obtain ⟨q5_, h⟩ := h
  refine z_iald O dX6_isDue_12 h0 q5_ ?_
  refine z_if_le (tgt := 41) O dX6_isDue_13 (by decide) (fun c6_ => ?_) (fun c6_ => ?_)
  · have h := h.1 c6_
    exact z_subL (L' := [some (.ref b0), none, none, none]) (zLe.sub (And.intro rfl True.intro)) (HJ41  h)
  · have h := h.2 c6_
    refine z_aload_n O dX6_isDue_16 rfl rfl ?_
    refine z_sipush (v := 616) O dX6_isDue_17 (by decide) ?_
    obtain ⟨q16_, h⟩ := h
    refine z_iald O dX6_isDue_20 h0 q16_ ?_
    refine z_aload_n O dX6_isDue_21 rfl rfl ?_
    refine z_sipush (v := 200) O dX6_isDue_22 (by decide) ?_
    refine z_iload_n O dX6_isDue_25 rfl rfl ?_
    refine z_iadd O dX6_isDue_26 ?_
    obtain ⟨q17_, h⟩ := h
    refine z_iald O dX6_isDue_27 h0 q17_ ?_
    refine z_isub O dX6_isDue_28 ?_
    refine z_aload_n O dX6_isDue_29 rfl rfl ?_
    refine z_sipush (v := 612) O dX6_isDue_30 (by decide) ?_
    obtain ⟨q18_, h⟩ := h
    refine z_iald O dX6_isDue_33 h0 q18_ ?_
    refine z_icmp_lt (tgt := 41) O dX6_isDue_34 (by decide) (fun c19_ => ?_) (fun c19_ => ?_)
    · have h := h.1 c19_
      exact z_subL (L' := [some (.ref b0), none, none, none]) (zLe.sub (And.intro rfl True.intro)) (HJ41  h)
    · have h := h.2 c19_
      refine z_iconst (v := 1) O dX6_isDue_37 (by decide) ?_
      refine z_goto (tgt := 42) O dX6_isDue_38 (by decide) ?_
      exact z_subL (L' := [some (.ref b0), none, none, none]) (zLe.sub (And.intro rfl True.intro)) (HJ42 1 h)

theorem dX6_holders_0 : decode cX6_holders 0 = .ok (.iconst 0, 1) := by decide +kernel
theorem dX6_holders_1 : decode cX6_holders 1 = .ok (.istore_n 2, 1) := by decide +kernel
theorem dX6_holders_2 : decode cX6_holders 2 = .ok (.iconst 0, 1) := by decide +kernel
theorem dX6_holders_3 : decode cX6_holders 3 = .ok (.istore_n 3, 1) := by decide +kernel
theorem dX6_holders_4 : decode cX6_holders 4 = .ok (.iload_n 3, 1) := by decide +kernel
theorem dX6_holders_5 : decode cX6_holders 5 = .ok (.bipush 8, 2) := by decide +kernel
theorem dX6_holders_7 : decode cX6_holders 7 = .ok (.if_icmp .ge 53, 3) := by decide +kernel
theorem dX6_holders_10 : decode cX6_holders 10 = .ok (.iload_n 3, 1) := by decide +kernel
theorem dX6_holders_11 : decode cX6_holders 11 = .ok (.invokestatic 65, 3) := by decide +kernel
theorem dX6_holders_14 : decode cX6_holders 14 = .ok (.istore 4, 2) := by decide +kernel
theorem dX6_holders_16 : decode cX6_holders 16 = .ok (.iload_n 2, 1) := by decide +kernel
theorem dX6_holders_17 : decode cX6_holders 17 = .ok (.aload_n 0, 1) := by decide +kernel
theorem dX6_holders_18 : decode cX6_holders 18 = .ok (.iload 4, 2) := by decide +kernel
theorem dX6_holders_20 : decode cX6_holders 20 = .ok (.iconst 0, 1) := by decide +kernel
theorem dX6_holders_21 : decode cX6_holders 21 = .ok (.iadd, 1) := by decide +kernel
theorem dX6_holders_22 : decode cX6_holders 22 = .ok (.iaload, 1) := by decide +kernel
theorem dX6_holders_23 : decode cX6_holders 23 = .ok (.iconst 1, 1) := by decide +kernel
theorem dX6_holders_24 : decode cX6_holders 24 = .ok (.if_icmp .ne 27, 3) := by decide +kernel
theorem dX6_holders_27 : decode cX6_holders 27 = .ok (.aload_n 0, 1) := by decide +kernel
theorem dX6_holders_28 : decode cX6_holders 28 = .ok (.iload 4, 2) := by decide +kernel
theorem dX6_holders_30 : decode cX6_holders 30 = .ok (.iconst 2, 1) := by decide +kernel
theorem dX6_holders_31 : decode cX6_holders 31 = .ok (.iadd, 1) := by decide +kernel
theorem dX6_holders_32 : decode cX6_holders 32 = .ok (.iaload, 1) := by decide +kernel
theorem dX6_holders_33 : decode cX6_holders 33 = .ok (.iconst 1, 1) := by decide +kernel
theorem dX6_holders_34 : decode cX6_holders 34 = .ok (.if_icmp .ne 17, 3) := by decide +kernel
theorem dX6_holders_37 : decode cX6_holders 37 = .ok (.aload_n 0, 1) := by decide +kernel
theorem dX6_holders_38 : decode cX6_holders 38 = .ok (.iload 4, 2) := by decide +kernel
theorem dX6_holders_40 : decode cX6_holders 40 = .ok (.iconst 1, 1) := by decide +kernel
theorem dX6_holders_41 : decode cX6_holders 41 = .ok (.iadd, 1) := by decide +kernel
theorem dX6_holders_42 : decode cX6_holders 42 = .ok (.iaload, 1) := by decide +kernel
theorem dX6_holders_43 : decode cX6_holders 43 = .ok (.iload_n 1, 1) := by decide +kernel
theorem dX6_holders_44 : decode cX6_holders 44 = .ok (.if_icmp .gt 7, 3) := by decide +kernel
theorem dX6_holders_47 : decode cX6_holders 47 = .ok (.iconst 1, 1) := by decide +kernel
theorem dX6_holders_48 : decode cX6_holders 48 = .ok (.goto 4, 3) := by decide +kernel
theorem dX6_holders_51 : decode cX6_holders 51 = .ok (.iconst 0, 1) := by decide +kernel
theorem dX6_holders_52 : decode cX6_holders 52 = .ok (.iadd, 1) := by decide +kernel
theorem dX6_holders_53 : decode cX6_holders 53 = .ok (.istore_n 2, 1) := by decide +kernel
theorem dX6_holders_54 : decode cX6_holders 54 = .ok (.iinc 3 1, 3) := by decide +kernel
theorem dX6_holders_57 : decode cX6_holders 57 = .ok (.goto (-53), 3) := by decide +kernel
theorem dX6_holders_60 : decode cX6_holders 60 = .ok (.iload_n 2, 1) := by decide +kernel
theorem dX6_holders_61 : decode cX6_holders 61 = .ok (.ireturn, 1) := by decide +kernel
def PL_M_holders_4 : Nat → Int32 → (Nat → Int32) → Int32 → Int32 → Int32 → (Int32 → Prop) → Prop
  | 0, _, _, _, _, _, _ => False
  | n + 1, x1, v0, y1, y2, y3, Q => ((8 ≤ y3 → Q y2) ∧ (¬ 8 ≤ y3 → P_M_reader y3 (fun r2_ => (vp_in (r2_ + 0) 621 ∧ (((¬ (v0 (Int32.toNatClampNeg (r2_ + 0))) = 1 → (fun y1 y2 y3 => PL_M_holders_4 n x1 v0 y1 y2 y3  Q) y1 (y2 + 0) (y3 + 1)) ∧ ((v0 (Int32.toNatClampNeg (r2_ + 0))) = 1 → vp_in (r2_ + 2) 621 ∧ (((¬ (v0 (Int32.toNatClampNeg (r2_ + 2))) = 1 → (fun y1 y2 y3 => PL_M_holders_4 n x1 v0 y1 y2 y3  Q) y1 (y2 + 0) (y3 + 1)) ∧ ((v0 (Int32.toNatClampNeg (r2_ + 2))) = 1 → vp_in (r2_ + 1) 621 ∧ (((y1 < (v0 (Int32.toNatClampNeg (r2_ + 1))) → (fun y1 y2 y3 => PL_M_holders_4 n x1 v0 y1 y2 y3  Q) y1 (y2 + 0) (y3 + 1)) ∧ (¬ y1 < (v0 (Int32.toNatClampNeg (r2_ + 1))) → (fun y1 y2 y3 => PL_M_holders_4 n x1 v0 y1 y2 y3  Q) y1 (y2 + 1) (y3 + 1))))))))))))))
def P_M_holders (x1 : Int32) (v0 : (Nat → Int32)) (Q : Int32 → Prop) : Prop := (∃ n12_, PL_M_holders_4 n12_ x1 v0 x1 0 0 Q)
set_option maxRecDepth 100000 in
theorem s_M_holders {l : Launch} {D : zD} {B : Nat} {sa : Nat → Nat} (hfl : l.stackTraces = false) {z : Nat} {G : zG} {b0 : Nat} {x1 : Int32} {v0 : (Nat → Int32)} {Q : Int32 → Prop} (h0 : G b0 = some (zia 621 v0)) (h : P_M_holders x1 v0 Q) : zSp l D B sa yX6_holders cX6_holders 5 (some .int) 1 20 0 0 [.ref b0, .int x1] z G (zRi fun r z' G' => z = z' ∧ G = G' ∧ Q r) := by
  unfold P_M_holders at h
  refine z_ofW (by decide +kernel) hfl [some (.ref b0), some (.int x1), none, none, none] rfl (Nat.le_of_ble_eq_true rfl) (fun p e s m args below meth c O hret hlk hnm => ?_)
  have O : zO p l s m args c D B sa 5 cX6_holders RX6 := O
  have HL4 : ∀ (n9 : Nat)    (y1 : Int32) (y2 : Int32) (y3 : Int32) (h : PL_M_holders_4 n9 x1 v0 y1 y2 y3 Q), zT p l e (zrm 1 20 0 0) s m args below meth c (zEnd below D B (zRi fun r z' G' => z = z' ∧ G = G' ∧ Q r) args s 0 0) D B 5 0 0 4 [] [some (.ref b0), some (.int y1), some (.int y2), some (.int y3), none] z G := by
    intro n9   
    induction n9 with
    | zero =>
      intro _ _ _ h
      exact (h : False).elim
    | succ n ih =>
      intro y1 y2 y3 h
      rw [PL_M_holders_4] at h
      refine z_iload_n O dX6_holders_4 rfl rfl ?_
      refine z_bipush (v := 8) O dX6_holders_5 (by decide) ?_
      refine z_icmp_ge (tgt := 60) O dX6_holders_7 (by decide) (fun c1_ => ?_) (fun c1_ => ?_)
      · have h := h.1 c1_
        refine z_iload_n O dX6_holders_60 rfl rfl ?_
        exact z_iret O hret hlk dX6_holders_61 (Nat.le_of_ble_eq_true rfl) (Nat.le_of_ble_eq_true rfl) ⟨_, rfl, rfl, rfl, h⟩
      · have h := h.2 c1_
        refine z_iload_n O dX6_holders_10 rfl rfl ?_
        refine z_callSi (As := [.int y3]) (st := []) O (s_M_reader hfl h) wy_X6_reader wl_RX6_65 dX6_holders_11 rfl rfl ⟨Nat.le_of_ble_eq_true rfl, Nat.le_of_ble_eq_true rfl⟩ (Nat.le_of_ble_eq_true rfl) ⟨Nat.le_of_ble_eq_true rfl, Nat.le_of_ble_eq_true rfl⟩ (fun r2_ z3_ G4_ hq5_ => ?_)
        obtain ⟨rfl, rfl, h⟩ := hq5_
        refine z_istore (L' := [some (.ref b0), some (.int y1), some (.int y2), some (.int y3), some (.int r2_)]) O dX6_holders_14 (by decide) rfl ?_
        refine z_iload_n O dX6_holders_16 rfl rfl ?_
        refine z_aload_n O dX6_holders_17 rfl rfl ?_
        refine z_iload O dX6_holders_18 rfl ?_
        refine z_iconst (v := 0) O dX6_holders_20 (by decide) ?_
        refine z_iadd O dX6_holders_21 ?_
        obtain ⟨q6_, h⟩ := h
        refine z_iald O dX6_holders_22 h0 q6_ ?_
        refine z_iconst (v := 1) O dX6_holders_23 (by decide) ?_
        refine z_icmp_ne (tgt := 51) O dX6_holders_24 (by decide) (fun c7_ => ?_) (fun c7_ => ?_)
        · have h := h.1 c7_
          refine z_iconst (v := 0) O dX6_holders_51 (by decide) ?_
          refine z_iadd O dX6_holders_52 ?_
          refine z_istore_n (L' := [some (.ref b0), some (.int y1), some (.int (y2 + 0)), some (.int y3), some (.int r2_)]) O dX6_holders_53 rfl (by decide) rfl ?_
          refine z_iinc (v := (y3 + 1)) (L' := [some (.ref b0), some (.int y1), some (.int (y2 + 0)), some (.int (y3 + 1)), some (.int r2_)]) O dX6_holders_54 rfl (by first | rfl | decide) (by decide) rfl ?_
          refine z_goto (tgt := 4) O dX6_holders_57 (by decide) ?_
          exact z_subL (L' := [some (.ref b0), some (.int y1), some (.int (y2 + 0)), some (.int (y3 + 1)), none]) (zLe.sub (And.intro rfl (And.intro rfl (And.intro rfl (And.intro rfl True.intro))))) (ih y1 (y2 + 0) (y3 + 1) h)
        · have h := h.2 c7_
          refine z_aload_n O dX6_holders_27 rfl rfl ?_
          refine z_iload O dX6_holders_28 rfl ?_
          refine z_iconst (v := 2) O dX6_holders_30 (by decide) ?_
          refine z_iadd O dX6_holders_31 ?_
          obtain ⟨q8_, h⟩ := h
          refine z_iald O dX6_holders_32 h0 q8_ ?_
          refine z_iconst (v := 1) O dX6_holders_33 (by decide) ?_
          refine z_icmp_ne (tgt := 51) O dX6_holders_34 (by decide) (fun c9_ => ?_) (fun c9_ => ?_)
          · have h := h.1 c9_
            refine z_iconst (v := 0) O dX6_holders_51 (by decide) ?_
            refine z_iadd O dX6_holders_52 ?_
            refine z_istore_n (L' := [some (.ref b0), some (.int y1), some (.int (y2 + 0)), some (.int y3), some (.int r2_)]) O dX6_holders_53 rfl (by decide) rfl ?_
            refine z_iinc (v := (y3 + 1)) (L' := [some (.ref b0), some (.int y1), some (.int (y2 + 0)), some (.int (y3 + 1)), some (.int r2_)]) O dX6_holders_54 rfl (by first | rfl | decide) (by decide) rfl ?_
            refine z_goto (tgt := 4) O dX6_holders_57 (by decide) ?_
            exact z_subL (L' := [some (.ref b0), some (.int y1), some (.int (y2 + 0)), some (.int (y3 + 1)), none]) (zLe.sub (And.intro rfl (And.intro rfl (And.intro rfl (And.intro rfl True.intro))))) (ih y1 (y2 + 0) (y3 + 1) h)
          · have h := h.2 c9_
            refine z_aload_n O dX6_holders_37 rfl rfl ?_
            refine z_iload O dX6_holders_38 rfl ?_
            refine z_iconst (v := 1) O dX6_holders_40 (by decide) ?_
            refine z_iadd O dX6_holders_41 ?_
            obtain ⟨q10_, h⟩ := h
            refine z_iald O dX6_holders_42 h0 q10_ ?_
            refine z_iload_n O dX6_holders_43 rfl rfl ?_
            refine z_icmp_gt (tgt := 51) O dX6_holders_44 (by decide) (fun c11_ => ?_) (fun c11_ => ?_)
            · have h := h.1 c11_
              refine z_iconst (v := 0) O dX6_holders_51 (by decide) ?_
              refine z_iadd O dX6_holders_52 ?_
              refine z_istore_n (L' := [some (.ref b0), some (.int y1), some (.int (y2 + 0)), some (.int y3), some (.int r2_)]) O dX6_holders_53 rfl (by decide) rfl ?_
              refine z_iinc (v := (y3 + 1)) (L' := [some (.ref b0), some (.int y1), some (.int (y2 + 0)), some (.int (y3 + 1)), some (.int r2_)]) O dX6_holders_54 rfl (by first | rfl | decide) (by decide) rfl ?_
              refine z_goto (tgt := 4) O dX6_holders_57 (by decide) ?_
              exact z_subL (L' := [some (.ref b0), some (.int y1), some (.int (y2 + 0)), some (.int (y3 + 1)), none]) (zLe.sub (And.intro rfl (And.intro rfl (And.intro rfl (And.intro rfl True.intro))))) (ih y1 (y2 + 0) (y3 + 1) h)
            · have h := h.2 c11_
              refine z_iconst (v := 1) O dX6_holders_47 (by decide) ?_
              refine z_goto (tgt := 52) O dX6_holders_48 (by decide) ?_
              refine z_iadd O dX6_holders_52 ?_
              refine z_istore_n (L' := [some (.ref b0), some (.int y1), some (.int (y2 + 1)), some (.int y3), some (.int r2_)]) O dX6_holders_53 rfl (by decide) rfl ?_
              refine z_iinc (v := (y3 + 1)) (L' := [some (.ref b0), some (.int y1), some (.int (y2 + 1)), some (.int (y3 + 1)), some (.int r2_)]) O dX6_holders_54 rfl (by first | rfl | decide) (by decide) rfl ?_
              refine z_goto (tgt := 4) O dX6_holders_57 (by decide) ?_
              exact z_subL (L' := [some (.ref b0), some (.int y1), some (.int (y2 + 1)), some (.int (y3 + 1)), none]) (zLe.sub (And.intro rfl (And.intro rfl (And.intro rfl (And.intro rfl True.intro))))) (ih y1 (y2 + 1) (y3 + 1) h)
  refine z_iconst (v := 0) O dX6_holders_0 (by decide) ?_
  refine z_istore_n (L' := [some (.ref b0), some (.int x1), some (.int 0), none, none]) O dX6_holders_1 rfl (by decide) rfl ?_
  refine z_iconst (v := 0) O dX6_holders_2 (by decide) ?_
  refine z_istore_n (L' := [some (.ref b0), some (.int x1), some (.int 0), some (.int 0), none]) O dX6_holders_3 rfl (by decide) rfl ?_
  obtain ⟨n12_, h⟩ := h
  exact z_subL (L' := [some (.ref b0), some (.int x1), some (.int 0), some (.int 0), none]) (zLe.sub (And.intro rfl (And.intro rfl (And.intro rfl (And.intro rfl True.intro))))) (HL4 n12_ x1 0 0 h)

theorem dX6_isHeld_0 : decode cX6_isHeld 0 = .ok (.aload_n 0, 1) := by decide +kernel
theorem dX6_isHeld_1 : decode cX6_isHeld 1 = .ok (.aload_n 0, 1) := by decide +kernel
theorem dX6_isHeld_2 : decode cX6_isHeld 2 = .ok (.iload_n 1, 1) := by decide +kernel
theorem dX6_isHeld_3 : decode cX6_isHeld 3 = .ok (.invokestatic 77, 3) := by decide +kernel
theorem dX6_isHeld_6 : decode cX6_isHeld 6 = .ok (.iconst 1, 1) := by decide +kernel
theorem dX6_isHeld_7 : decode cX6_isHeld 7 = .ok (.isub, 1) := by decide +kernel
theorem dX6_isHeld_8 : decode cX6_isHeld 8 = .ok (.invokestatic 84, 3) := by decide +kernel
theorem dX6_isHeld_11 : decode cX6_isHeld 11 = .ok (.ifCond .le 7, 3) := by decide +kernel
theorem dX6_isHeld_14 : decode cX6_isHeld 14 = .ok (.iconst 1, 1) := by decide +kernel
theorem dX6_isHeld_15 : decode cX6_isHeld 15 = .ok (.goto 4, 3) := by decide +kernel
theorem dX6_isHeld_18 : decode cX6_isHeld 18 = .ok (.iconst 0, 1) := by decide +kernel
theorem dX6_isHeld_19 : decode cX6_isHeld 19 = .ok (.ireturn, 1) := by decide +kernel
def P_M_isHeld (x1 : Int32) (v0 : (Nat → Int32)) (Q : Int32 → Prop) : Prop := P_M_behind x1 v0 (fun r1_ => (P_M_holders (r1_ - 1) v0 (fun r5_ => (((r5_ ≤ 0 → Q 0) ∧ (¬ r5_ ≤ 0 → Q 1))))))
set_option maxRecDepth 100000 in
theorem s_M_isHeld {l : Launch} {D : zD} {B : Nat} {sa : Nat → Nat} (hfl : l.stackTraces = false) {z : Nat} {G : zG} {b0 : Nat} {x1 : Int32} {v0 : (Nat → Int32)} {Q : Int32 → Prop} (h0 : G b0 = some (zia 621 v0)) (h : P_M_isHeld x1 v0 Q) : zSp l D B sa yX6_isHeld cX6_isHeld 2 (some .boolean) 2 44 0 0 [.ref b0, .int x1] z G (zRi fun r z' G' => z = z' ∧ G = G' ∧ Q r) := by
  unfold P_M_isHeld at h
  refine z_ofW (by decide +kernel) hfl [some (.ref b0), some (.int x1)] rfl (Nat.le_of_ble_eq_true rfl) (fun p e s m args below meth c O hret hlk hnm => ?_)
  have O : zO p l s m args c D B sa 2 cX6_isHeld RX6 := O
  refine z_aload_n O dX6_isHeld_0 rfl rfl ?_
  refine z_aload_n O dX6_isHeld_1 rfl rfl ?_
  refine z_iload_n O dX6_isHeld_2 rfl rfl ?_
  refine z_callSi (As := [.ref b0, .int x1]) (st := [.ref b0]) O (s_M_behind hfl h0 h) wy_X6_behind wl_RX6_77 dX6_isHeld_3 rfl rfl ⟨Nat.le_of_ble_eq_true rfl, Nat.le_of_ble_eq_true rfl⟩ (Nat.le_of_ble_eq_true rfl) ⟨Nat.le_of_ble_eq_true rfl, Nat.le_of_ble_eq_true rfl⟩ (fun r1_ z2_ G3_ hq4_ => ?_)
  obtain ⟨rfl, rfl, h⟩ := hq4_
  refine z_iconst (v := 1) O dX6_isHeld_6 (by decide) ?_
  refine z_isub O dX6_isHeld_7 ?_
  refine z_callSi (As := [.ref b0, .int (r1_ - 1)]) (st := []) O (s_M_holders hfl h0 h) wy_X6_holders wl_RX6_84 dX6_isHeld_8 rfl rfl ⟨Nat.le_of_ble_eq_true rfl, Nat.le_of_ble_eq_true rfl⟩ (Nat.le_of_ble_eq_true rfl) ⟨Nat.le_of_ble_eq_true rfl, Nat.le_of_ble_eq_true rfl⟩ (fun r5_ z6_ G7_ hq8_ => ?_)
  obtain ⟨rfl, rfl, h⟩ := hq8_
  refine z_if_le (tgt := 18) O dX6_isHeld_11 (by decide) (fun c9_ => ?_) (fun c9_ => ?_)
  · have h := h.1 c9_
    refine z_iconst (v := 0) O dX6_isHeld_18 (by decide) ?_
    exact z_zret O hret rfl hlk dX6_isHeld_19 (Nat.le_of_ble_eq_true rfl) (Nat.le_of_ble_eq_true rfl) ⟨_, rfl, rfl, rfl, h⟩
  · have h := h.2 c9_
    refine z_iconst (v := 1) O dX6_isHeld_14 (by decide) ?_
    refine z_goto (tgt := 19) O dX6_isHeld_15 (by decide) ?_
    exact z_zret O hret rfl hlk dX6_isHeld_19 (Nat.le_of_ble_eq_true rfl) (Nat.le_of_ble_eq_true rfl) ⟨_, rfl, rfl, rfl, h⟩

theorem dX6_whyStays_0 : decode cX6_whyStays 0 = .ok (.aload_n 0, 1) := by decide +kernel
theorem dX6_whyStays_1 : decode cX6_whyStays 1 = .ok (.invokestatic 87, 3) := by decide +kernel
theorem dX6_whyStays_4 : decode cX6_whyStays 4 = .ok (.iconst 2, 1) := by decide +kernel
theorem dX6_whyStays_5 : decode cX6_whyStays 5 = .ok (.if_icmp .ge 5, 3) := by decide +kernel
theorem dX6_whyStays_8 : decode cX6_whyStays 8 = .ok (.iconst 1, 1) := by decide +kernel
theorem dX6_whyStays_9 : decode cX6_whyStays 9 = .ok (.ireturn, 1) := by decide +kernel
theorem dX6_whyStays_10 : decode cX6_whyStays 10 = .ok (.aload_n 0, 1) := by decide +kernel
theorem dX6_whyStays_11 : decode cX6_whyStays 11 = .ok (.aload_n 0, 1) := by decide +kernel
theorem dX6_whyStays_12 : decode cX6_whyStays 12 = .ok (.sipush 400, 3) := by decide +kernel
theorem dX6_whyStays_15 : decode cX6_whyStays 15 = .ok (.iaload, 1) := by decide +kernel
theorem dX6_whyStays_16 : decode cX6_whyStays 16 = .ok (.invokestatic 91, 3) := by decide +kernel
theorem dX6_whyStays_19 : decode cX6_whyStays 19 = .ok (.ifCond .ne 7, 3) := by decide +kernel
theorem dX6_whyStays_22 : decode cX6_whyStays 22 = .ok (.iconst 2, 1) := by decide +kernel
theorem dX6_whyStays_23 : decode cX6_whyStays 23 = .ok (.goto 20, 3) := by decide +kernel
theorem dX6_whyStays_26 : decode cX6_whyStays 26 = .ok (.aload_n 0, 1) := by decide +kernel
theorem dX6_whyStays_27 : decode cX6_whyStays 27 = .ok (.aload_n 0, 1) := by decide +kernel
theorem dX6_whyStays_28 : decode cX6_whyStays 28 = .ok (.sipush 400, 3) := by decide +kernel
theorem dX6_whyStays_31 : decode cX6_whyStays 31 = .ok (.iaload, 1) := by decide +kernel
theorem dX6_whyStays_32 : decode cX6_whyStays 32 = .ok (.invokestatic 94, 3) := by decide +kernel
theorem dX6_whyStays_35 : decode cX6_whyStays 35 = .ok (.ifCond .eq 7, 3) := by decide +kernel
theorem dX6_whyStays_38 : decode cX6_whyStays 38 = .ok (.iconst 3, 1) := by decide +kernel
theorem dX6_whyStays_39 : decode cX6_whyStays 39 = .ok (.goto 4, 3) := by decide +kernel
theorem dX6_whyStays_42 : decode cX6_whyStays 42 = .ok (.iconst 0, 1) := by decide +kernel
theorem dX6_whyStays_43 : decode cX6_whyStays 43 = .ok (.ireturn, 1) := by decide +kernel
def P_M_whyStays (v0 : (Nat → Int32)) (Q : Int32 → Prop) : Prop := P_M_segments v0 (fun r1_ => (((2 ≤ r1_ → vp_in 400 621 ∧ (P_M_isDue (v0 (Int32.toNatClampNeg 400)) v0 (fun r7_ => (((¬ r7_ = 0 → vp_in 400 621 ∧ (P_M_isHeld (v0 (Int32.toNatClampNeg 400)) v0 (fun r13_ => (((r13_ = 0 → Q 0) ∧ (¬ r13_ = 0 → Q 3)))))) ∧ (r7_ = 0 → Q 2)))))) ∧ (¬ 2 ≤ r1_ → Q 1))))
set_option maxRecDepth 100000 in
theorem s_M_whyStays {l : Launch} {D : zD} {B : Nat} {sa : Nat → Nat} (hfl : l.stackTraces = false) {z : Nat} {G : zG} {b0 : Nat} {v0 : (Nat → Int32)} {Q : Int32 → Prop} (h0 : G b0 = some (zia 621 v0)) (h : P_M_whyStays v0 Q) : zSp l D B sa yX6_whyStays cX6_whyStays 1 (some .int) 3 68 0 0 [.ref b0] z G (zRi fun r z' G' => z = z' ∧ G = G' ∧ Q r) := by
  unfold P_M_whyStays at h
  refine z_ofW (by decide +kernel) hfl [some (.ref b0)] rfl (Nat.le_of_ble_eq_true rfl) (fun p e s m args below meth c O hret hlk hnm => ?_)
  have O : zO p l s m args c D B sa 1 cX6_whyStays RX6 := O
  refine z_aload_n O dX6_whyStays_0 rfl rfl ?_
  refine z_callSi (As := [.ref b0]) (st := []) O (s_M_segments hfl h0 h) wy_X6_segments wl_RX6_87 dX6_whyStays_1 rfl rfl ⟨Nat.le_of_ble_eq_true rfl, Nat.le_of_ble_eq_true rfl⟩ (Nat.le_of_ble_eq_true rfl) ⟨Nat.le_of_ble_eq_true rfl, Nat.le_of_ble_eq_true rfl⟩ (fun r1_ z2_ G3_ hq4_ => ?_)
  obtain ⟨rfl, rfl, h⟩ := hq4_
  refine z_iconst (v := 2) O dX6_whyStays_4 (by decide) ?_
  refine z_icmp_ge (tgt := 10) O dX6_whyStays_5 (by decide) (fun c5_ => ?_) (fun c5_ => ?_)
  · have h := h.1 c5_
    refine z_aload_n O dX6_whyStays_10 rfl rfl ?_
    refine z_aload_n O dX6_whyStays_11 rfl rfl ?_
    refine z_sipush (v := 400) O dX6_whyStays_12 (by decide) ?_
    obtain ⟨q6_, h⟩ := h
    refine z_iald O dX6_whyStays_15 h0 q6_ ?_
    refine z_callSi (As := [.ref b0, .int (v0 (Int32.toNatClampNeg 400))]) (st := []) O (s_M_isDue hfl h0 h) wy_X6_isDue wl_RX6_91 dX6_whyStays_16 rfl rfl ⟨Nat.le_of_ble_eq_true rfl, Nat.le_of_ble_eq_true rfl⟩ (Nat.le_of_ble_eq_true rfl) ⟨Nat.le_of_ble_eq_true rfl, Nat.le_of_ble_eq_true rfl⟩ (fun r7_ z8_ G9_ hq10_ => ?_)
    obtain ⟨rfl, rfl, h⟩ := hq10_
    refine z_if_ne (tgt := 26) O dX6_whyStays_19 (by decide) (fun c11_ => ?_) (fun c11_ => ?_)
    · have h := h.1 c11_
      refine z_aload_n O dX6_whyStays_26 rfl rfl ?_
      refine z_aload_n O dX6_whyStays_27 rfl rfl ?_
      refine z_sipush (v := 400) O dX6_whyStays_28 (by decide) ?_
      obtain ⟨q12_, h⟩ := h
      refine z_iald O dX6_whyStays_31 h0 q12_ ?_
      refine z_callSi (As := [.ref b0, .int (v0 (Int32.toNatClampNeg 400))]) (st := []) O (s_M_isHeld hfl h0 h) wy_X6_isHeld wl_RX6_94 dX6_whyStays_32 rfl rfl ⟨Nat.le_of_ble_eq_true rfl, Nat.le_of_ble_eq_true rfl⟩ (Nat.le_of_ble_eq_true rfl) ⟨Nat.le_of_ble_eq_true rfl, Nat.le_of_ble_eq_true rfl⟩ (fun r13_ z14_ G15_ hq16_ => ?_)
      obtain ⟨rfl, rfl, h⟩ := hq16_
      refine z_if_eq (tgt := 42) O dX6_whyStays_35 (by decide) (fun c17_ => ?_) (fun c17_ => ?_)
      · have h := h.1 c17_
        refine z_iconst (v := 0) O dX6_whyStays_42 (by decide) ?_
        exact z_iret O hret hlk dX6_whyStays_43 (Nat.le_of_ble_eq_true rfl) (Nat.le_of_ble_eq_true rfl) ⟨_, rfl, rfl, rfl, h⟩
      · have h := h.2 c17_
        refine z_iconst (v := 3) O dX6_whyStays_38 (by decide) ?_
        refine z_goto (tgt := 43) O dX6_whyStays_39 (by decide) ?_
        exact z_iret O hret hlk dX6_whyStays_43 (Nat.le_of_ble_eq_true rfl) (Nat.le_of_ble_eq_true rfl) ⟨_, rfl, rfl, rfl, h⟩
    · have h := h.2 c11_
      refine z_iconst (v := 2) O dX6_whyStays_22 (by decide) ?_
      refine z_goto (tgt := 43) O dX6_whyStays_23 (by decide) ?_
      exact z_iret O hret hlk dX6_whyStays_43 (Nat.le_of_ble_eq_true rfl) (Nat.le_of_ble_eq_true rfl) ⟨_, rfl, rfl, rfl, h⟩
  · have h := h.2 c5_
    refine z_iconst (v := 1) O dX6_whyStays_8 (by decide) ?_
    exact z_iret O hret hlk dX6_whyStays_9 (Nat.le_of_ble_eq_true rfl) (Nat.le_of_ble_eq_true rfl) ⟨_, rfl, rfl, rfl, h⟩

theorem dX6_drop_0 : decode cX6_drop 0 = .ok (.aload_n 0, 1) := by decide +kernel
theorem dX6_drop_1 : decode cX6_drop 1 = .ok (.aload_n 0, 1) := by decide +kernel
theorem dX6_drop_2 : decode cX6_drop 2 = .ok (.sipush 400, 3) := by decide +kernel
theorem dX6_drop_5 : decode cX6_drop 5 = .ok (.iaload, 1) := by decide +kernel
theorem dX6_drop_6 : decode cX6_drop 6 = .ok (.invokestatic 77, 3) := by decide +kernel
theorem dX6_drop_9 : decode cX6_drop 9 = .ok (.istore_n 1, 1) := by decide +kernel
theorem dX6_drop_10 : decode cX6_drop 10 = .ok (.aload_n 0, 1) := by decide +kernel
theorem dX6_drop_11 : decode cX6_drop 11 = .ok (.sipush 400, 3) := by decide +kernel
theorem dX6_drop_14 : decode cX6_drop 14 = .ok (.iaload, 1) := by decide +kernel
theorem dX6_drop_15 : decode cX6_drop 15 = .ok (.istore_n 2, 1) := by decide +kernel
theorem dX6_drop_16 : decode cX6_drop 16 = .ok (.iload_n 2, 1) := by decide +kernel
theorem dX6_drop_17 : decode cX6_drop 17 = .ok (.iload_n 1, 1) := by decide +kernel
theorem dX6_drop_18 : decode cX6_drop 18 = .ok (.if_icmp .ge 25, 3) := by decide +kernel
theorem dX6_drop_21 : decode cX6_drop 21 = .ok (.aload_n 0, 1) := by decide +kernel
theorem dX6_drop_22 : decode cX6_drop 22 = .ok (.sipush 402, 3) := by decide +kernel
theorem dX6_drop_25 : decode cX6_drop 25 = .ok (.aload_n 0, 1) := by decide +kernel
theorem dX6_drop_26 : decode cX6_drop 26 = .ok (.iload_n 2, 1) := by decide +kernel
theorem dX6_drop_27 : decode cX6_drop 27 = .ok (.invokestatic 97, 3) := by decide +kernel
theorem dX6_drop_30 : decode cX6_drop 30 = .ok (.iadd, 1) := by decide +kernel
theorem dX6_drop_31 : decode cX6_drop 31 = .ok (.aload_n 0, 1) := by decide +kernel
theorem dX6_drop_32 : decode cX6_drop 32 = .ok (.iload_n 2, 1) := by decide +kernel
theorem dX6_drop_33 : decode cX6_drop 33 = .ok (.invokestatic 100, 3) := by decide +kernel
theorem dX6_drop_36 : decode cX6_drop 36 = .ok (.iastore, 1) := by decide +kernel
theorem dX6_drop_37 : decode cX6_drop 37 = .ok (.iinc 2 1, 3) := by decide +kernel
theorem dX6_drop_40 : decode cX6_drop 40 = .ok (.goto (-24), 3) := by decide +kernel
theorem dX6_drop_43 : decode cX6_drop 43 = .ok (.aload_n 0, 1) := by decide +kernel
theorem dX6_drop_44 : decode cX6_drop 44 = .ok (.sipush 400, 3) := by decide +kernel
theorem dX6_drop_47 : decode cX6_drop 47 = .ok (.iload_n 1, 1) := by decide +kernel
theorem dX6_drop_48 : decode cX6_drop 48 = .ok (.iastore, 1) := by decide +kernel
theorem dX6_drop_49 : decode cX6_drop 49 = .ok (.aload_n 0, 1) := by decide +kernel
theorem dX6_drop_50 : decode cX6_drop 50 = .ok (.sipush 617, 3) := by decide +kernel
theorem dX6_drop_53 : decode cX6_drop 53 = .ok (.dup2, 1) := by decide +kernel
theorem dX6_drop_54 : decode cX6_drop 54 = .ok (.iaload, 1) := by decide +kernel
theorem dX6_drop_55 : decode cX6_drop 55 = .ok (.iconst 1, 1) := by decide +kernel
theorem dX6_drop_56 : decode cX6_drop 56 = .ok (.iadd, 1) := by decide +kernel
theorem dX6_drop_57 : decode cX6_drop 57 = .ok (.iastore, 1) := by decide +kernel
theorem dX6_drop_58 : decode cX6_drop 58 = .ok (.return_, 1) := by decide +kernel
def PL_M_drop_16 : Nat → Int32 → Int32 → (Nat → Int32) → ((Nat → Int32) → Prop) → Prop
  | 0, _, _, _, _ => False
  | n + 1, y1, y2, v0, Q => ((y1 ≤ y2 → vp_in 400 621 ∧ (∀ v13_, v13_ = (upd v0 (Int32.toNatClampNeg 400) y1) → (vp_in 617 621 ∧ (vp_in 617 621 ∧ (∀ v22_, v22_ = (upd v13_ (Int32.toNatClampNeg 617) ((v13_ (Int32.toNatClampNeg 617)) + 1)) → (Q v22_)))))) ∧ (¬ y1 ≤ y2 → P_M_key y2 v0 (fun r25_ => (P_M_value y2 v0 (fun r29_ => (vp_in (402 + r25_) 621 ∧ (∀ v38_, v38_ = (upd v0 (Int32.toNatClampNeg (402 + r25_)) r29_) → ((fun y1 y2 v0 => PL_M_drop_16 n  y1 y2 v0  Q) y1 (y2 + 1) v38_))))))))
def P_M_drop (v0 : (Nat → Int32)) (Q : (Nat → Int32) → Prop) : Prop := vp_in 400 621 ∧ (P_M_behind (v0 (Int32.toNatClampNeg 400)) v0 (fun r2_ => (vp_in 400 621 ∧ ((∃ n41_, PL_M_drop_16 n41_ r2_ (v0 (Int32.toNatClampNeg 400)) v0 Q)))))
set_option maxRecDepth 100000 in
theorem s_M_drop {l : Launch} {D : zD} {B : Nat} {sa : Nat → Nat} (hfl : l.stackTraces = false) {z : Nat} {G : zG} {b0 : Nat} {v0 : (Nat → Int32)} {Q : (Nat → Int32) → Prop} (h0 : G b0 = some (zia 621 v0)) (h : P_M_drop v0 Q) : zSp l D B sa yX6_drop cX6_drop 3 none 2 43 0 0 [.ref b0] z G (zRv fun z' G' => z = z' ∧ ∃ w, G' b0 = some (zia 621 w) ∧ Fr b0 1 G G' ∧ Q w) := by
  unfold P_M_drop at h
  refine z_ofW (by decide +kernel) hfl [some (.ref b0), none, none] rfl (Nat.le_of_ble_eq_true rfl) (fun p e s m args below meth c O hret hlk hnm => ?_)
  have O : zO p l s m args c D B sa 3 cX6_drop RX6 := O
  have HL16 : ∀ (n9 : Nat)    (y1 : Int32) (y2 : Int32) (v0 : (Nat → Int32)) (G9 : zG) (g0 : G9 b0 = some (zia 621 v0)) (gF : Fr b0 1 G G9) (h : PL_M_drop_16 n9 y1 y2 v0 Q), zT p l e (zrm 2 43 0 0) s m args below meth c (zEnd below D B (zRv fun z' G' => z = z' ∧ ∃ w, G' b0 = some (zia 621 w) ∧ Fr b0 1 G G' ∧ Q w) args s 0 0) D B 3 0 0 16 [] [some (.ref b0), some (.int y1), some (.int y2)] z G9 := by
    intro n9   
    induction n9 with
    | zero =>
      intro _ _ _ _ _ _ h
      exact (h : False).elim
    | succ n ih =>
      intro y1 y2 v0 G9 g0 gF h
      rw [PL_M_drop_16] at h
      refine z_iload_n O dX6_drop_16 rfl rfl ?_
      refine z_iload_n O dX6_drop_17 rfl rfl ?_
      refine z_icmp_ge (tgt := 43) O dX6_drop_18 (by decide) (fun c7_ => ?_) (fun c7_ => ?_)
      · have h := h.1 c7_
        refine z_aload_n O dX6_drop_43 rfl rfl ?_
        refine z_sipush (v := 400) O dX6_drop_44 (by decide) ?_
        refine z_iload_n O dX6_drop_47 rfl rfl ?_
        obtain ⟨q8_, h⟩ := h
        refine y_iast O dX6_drop_48 g0 q8_ (fun G9_ hw10_ => ?_)
        have k11_ := hw10_.1
        have f12_ := hw10_.fr
        obtain ⟨v13_, ev13_⟩ : ∃ w, w = (upd v0 (Int32.toNatClampNeg 400) y1) := ⟨_, rfl⟩
        have h := h v13_ ev13_
        have k14_ : G9_ b0 = some (zia 621 v13_) := by rw [ev13_]; exact k11_
        have F15_ : Fr b0 1 G G9_ := Fr.trans gF f12_
        refine z_aload_n O dX6_drop_49 rfl rfl ?_
        refine z_sipush (v := 617) O dX6_drop_50 (by decide) ?_
        refine z_dup2 O dX6_drop_53 rfl rfl ?_
        obtain ⟨q16_, h⟩ := h
        refine z_iald O dX6_drop_54 k14_ q16_ ?_
        refine z_iconst (v := 1) O dX6_drop_55 (by decide) ?_
        refine z_iadd O dX6_drop_56 ?_
        obtain ⟨q17_, h⟩ := h
        refine y_iast O dX6_drop_57 k14_ q17_ (fun G18_ hw19_ => ?_)
        have k20_ := hw19_.1
        have f21_ := hw19_.fr
        obtain ⟨v22_, ev22_⟩ : ∃ w, w = (upd v13_ (Int32.toNatClampNeg 617) ((v13_ (Int32.toNatClampNeg 617)) + 1)) := ⟨_, rfl⟩
        have h := h v22_ ev22_
        have k23_ : G18_ b0 = some (zia 621 v22_) := by rw [ev22_]; exact k20_
        have F24_ : Fr b0 1 G G18_ := Fr.trans F15_ f21_
        exact z_vret O hret hlk dX6_drop_58 (Nat.le_of_ble_eq_true rfl) (Nat.le_of_ble_eq_true rfl) ⟨rfl, rfl, _, k23_, F24_, h⟩
      · have h := h.2 c7_
        refine z_aload_n O dX6_drop_21 rfl rfl ?_
        refine z_sipush (v := 402) O dX6_drop_22 (by decide) ?_
        refine z_aload_n O dX6_drop_25 rfl rfl ?_
        refine z_iload_n O dX6_drop_26 rfl rfl ?_
        refine z_callSi (As := [.ref b0, .int y2]) (st := [.int 402, .ref b0]) O (s_M_key hfl g0 h) wy_X6_key wl_RX6_97 dX6_drop_27 rfl rfl ⟨Nat.le_of_ble_eq_true rfl, Nat.le_of_ble_eq_true rfl⟩ (Nat.le_of_ble_eq_true rfl) ⟨Nat.le_of_ble_eq_true rfl, Nat.le_of_ble_eq_true rfl⟩ (fun r25_ z26_ G27_ hq28_ => ?_)
        obtain ⟨rfl, rfl, h⟩ := hq28_
        refine z_iadd O dX6_drop_30 ?_
        refine z_aload_n O dX6_drop_31 rfl rfl ?_
        refine z_iload_n O dX6_drop_32 rfl rfl ?_
        refine z_callSi (As := [.ref b0, .int y2]) (st := [.int (402 + r25_), .ref b0]) O (s_M_value hfl g0 h) wy_X6_value wl_RX6_100 dX6_drop_33 rfl rfl ⟨Nat.le_of_ble_eq_true rfl, Nat.le_of_ble_eq_true rfl⟩ (Nat.le_of_ble_eq_true rfl) ⟨Nat.le_of_ble_eq_true rfl, Nat.le_of_ble_eq_true rfl⟩ (fun r29_ z30_ G31_ hq32_ => ?_)
        obtain ⟨rfl, rfl, h⟩ := hq32_
        obtain ⟨q33_, h⟩ := h
        refine y_iast O dX6_drop_36 g0 q33_ (fun G34_ hw35_ => ?_)
        have k36_ := hw35_.1
        have f37_ := hw35_.fr
        obtain ⟨v38_, ev38_⟩ : ∃ w, w = (upd v0 (Int32.toNatClampNeg (402 + r25_)) r29_) := ⟨_, rfl⟩
        have h := h v38_ ev38_
        have k39_ : G34_ b0 = some (zia 621 v38_) := by rw [ev38_]; exact k36_
        have F40_ : Fr b0 1 G G34_ := Fr.trans gF f37_
        refine z_iinc (v := (y2 + 1)) (L' := [some (.ref b0), some (.int y1), some (.int (y2 + 1))]) O dX6_drop_37 rfl (by first | rfl | decide) (by decide) rfl ?_
        refine z_goto (tgt := 16) O dX6_drop_40 (by decide) ?_
        exact z_subL (L' := [some (.ref b0), some (.int y1), some (.int (y2 + 1))]) (zLe.sub (And.intro rfl (And.intro rfl (And.intro rfl True.intro)))) (ih y1 (y2 + 1) v38_ G34_ k39_ F40_ h)
  refine z_aload_n O dX6_drop_0 rfl rfl ?_
  refine z_aload_n O dX6_drop_1 rfl rfl ?_
  refine z_sipush (v := 400) O dX6_drop_2 (by decide) ?_
  obtain ⟨q1_, h⟩ := h
  refine z_iald O dX6_drop_5 h0 q1_ ?_
  refine z_callSi (As := [.ref b0, .int (v0 (Int32.toNatClampNeg 400))]) (st := []) O (s_M_behind hfl h0 h) wy_X6_behind wl_RX6_77 dX6_drop_6 rfl rfl ⟨Nat.le_of_ble_eq_true rfl, Nat.le_of_ble_eq_true rfl⟩ (Nat.le_of_ble_eq_true rfl) ⟨Nat.le_of_ble_eq_true rfl, Nat.le_of_ble_eq_true rfl⟩ (fun r2_ z3_ G4_ hq5_ => ?_)
  obtain ⟨rfl, rfl, h⟩ := hq5_
  refine z_istore_n (L' := [some (.ref b0), some (.int r2_), none]) O dX6_drop_9 rfl (by decide) rfl ?_
  refine z_aload_n O dX6_drop_10 rfl rfl ?_
  refine z_sipush (v := 400) O dX6_drop_11 (by decide) ?_
  obtain ⟨q6_, h⟩ := h
  refine z_iald O dX6_drop_14 h0 q6_ ?_
  refine z_istore_n (L' := [some (.ref b0), some (.int r2_), some (.int (v0 (Int32.toNatClampNeg 400)))]) O dX6_drop_15 rfl (by decide) rfl ?_
  obtain ⟨n41_, h⟩ := h
  exact z_subL (L' := [some (.ref b0), some (.int r2_), some (.int (v0 (Int32.toNatClampNeg 400)))]) (zLe.sub (And.intro rfl (And.intro rfl (And.intro rfl True.intro)))) (HL16 n41_ r2_ (v0 (Int32.toNatClampNeg 400)) v0 G h0 Fr.rf h)
