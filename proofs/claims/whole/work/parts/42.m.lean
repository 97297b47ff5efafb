theorem dX6_droppedIn_0 : decode cX6_droppedIn 0 = .ok (.aload_n 0, 1) := by decide +kernel
theorem dX6_droppedIn_1 : decode cX6_droppedIn 1 = .ok (.iconst 0, 1) := by decide +kernel
theorem dX6_droppedIn_2 : decode cX6_droppedIn 2 = .ok (.putfield 36, 3) := by decide +kernel
theorem dX6_droppedIn_5 : decode cX6_droppedIn 5 = .ok (.aload_n 0, 1) := by decide +kernel
theorem dX6_droppedIn_6 : decode cX6_droppedIn 6 = .ok (.getfield 7, 3) := by decide +kernel
theorem dX6_droppedIn_9 : decode cX6_droppedIn 9 = .ok (.aload_n 0, 1) := by decide +kernel
theorem dX6_droppedIn_10 : decode cX6_droppedIn 10 = .ok (.getfield 13, 3) := by decide +kernel
theorem dX6_droppedIn_13 : decode cX6_droppedIn 13 = .ok (.invokestatic 233, 3) := by decide +kernel
theorem dX6_droppedIn_16 : decode cX6_droppedIn 16 = .ok (.iconst 1, 1) := by decide +kernel
theorem dX6_droppedIn_17 : decode cX6_droppedIn 17 = .ok (.istore_n 1, 1) := by decide +kernel
theorem dX6_droppedIn_18 : decode cX6_droppedIn 18 = .ok (.iload_n 1, 1) := by decide +kernel
theorem dX6_droppedIn_19 : decode cX6_droppedIn 19 = .ok (.sipush 300, 3) := by decide +kernel
theorem dX6_droppedIn_22 : decode cX6_droppedIn 22 = .ok (.if_icmp .gt 37, 3) := by decide +kernel
theorem dX6_droppedIn_25 : decode cX6_droppedIn 25 = .ok (.aload_n 0, 1) := by decide +kernel
theorem dX6_droppedIn_26 : decode cX6_droppedIn 26 = .ok (.getfield 13, 3) := by decide +kernel
theorem dX6_droppedIn_29 : decode cX6_droppedIn 29 = .ok (.invokestatic 113, 3) := by decide +kernel
theorem dX6_droppedIn_32 : decode cX6_droppedIn 32 = .ok (.aload_n 0, 1) := by decide +kernel
theorem dX6_droppedIn_33 : decode cX6_droppedIn 33 = .ok (.getfield 13, 3) := by decide +kernel
theorem dX6_droppedIn_36 : decode cX6_droppedIn 36 = .ok (.sipush 617, 3) := by decide +kernel
theorem dX6_droppedIn_39 : decode cX6_droppedIn 39 = .ok (.iaload, 1) := by decide +kernel
theorem dX6_droppedIn_40 : decode cX6_droppedIn 40 = .ok (.aload_n 0, 1) := by decide +kernel
theorem dX6_droppedIn_41 : decode cX6_droppedIn 41 = .ok (.getfield 7, 3) := by decide +kernel
theorem dX6_droppedIn_44 : decode cX6_droppedIn 44 = .ok (.sipush 617, 3) := by decide +kernel
theorem dX6_droppedIn_47 : decode cX6_droppedIn 47 = .ok (.iaload, 1) := by decide +kernel
theorem dX6_droppedIn_48 : decode cX6_droppedIn 48 = .ok (.if_icmp .le 5, 3) := by decide +kernel
theorem dX6_droppedIn_51 : decode cX6_droppedIn 51 = .ok (.iload_n 1, 1) := by decide +kernel
theorem dX6_droppedIn_52 : decode cX6_droppedIn 52 = .ok (.ireturn, 1) := by decide +kernel
theorem dX6_droppedIn_53 : decode cX6_droppedIn 53 = .ok (.iinc 1 1, 3) := by decide +kernel
theorem dX6_droppedIn_56 : decode cX6_droppedIn 56 = .ok (.goto (-38), 3) := by decide +kernel
theorem dX6_droppedIn_59 : decode cX6_droppedIn 59 = .ok (.iconst (-1), 1) := by decide +kernel
theorem dX6_droppedIn_60 : decode cX6_droppedIn 60 = .ok (.ireturn, 1) := by decide +kernel
def PL_M_droppedIn_18 : Nat → Int32 → MT → (Int32 → MT → Prop) → Prop
  | 0, _, _, _ => False
  | n + 1, y1, v0, Q => ((300 < y1 → Q (-1) v0) ∧ (¬ 300 < y1 → P_M_tick (M_trial v0) (fun v26_ => (∀ v31_, v31_ = (M_set_trial v0 v26_) → (vp_in 617 621 ∧ (vp_in 617 621 ∧ (((((M_trial v31_) (Int32.toNatClampNeg 617)) ≤ ((M_now v31_) (Int32.toNatClampNeg 617)) → (fun y1 v0 => PL_M_droppedIn_18 n  y1 v0  Q) (y1 + 1) v31_) ∧ (¬ ((M_trial v31_) (Int32.toNatClampNeg 617)) ≤ ((M_now v31_) (Int32.toNatClampNeg 617)) → Q y1 v31_)))))))))
def P_M_droppedIn (v0 : MT) (Q : Int32 → MT → Prop) : Prop := ∀ v6_, v6_ = (M_set_refusal v0 0) → (P_M_copy (M_now v6_) (M_trial v6_) (fun v13_ => (∀ v18_, v18_ = (M_set_trial v6_ v13_) → ((∃ n37_, PL_M_droppedIn_18 n37_ 1 v18_ Q)))))
set_option maxRecDepth 100000 in
theorem s_M_droppedIn {l : Launch} {D : zD} {B : Nat} {sa : Nat → Nat} (hfl : l.stackTraces = false) {z : Nat} {G : zG} {b0 : Nat} {v0 : MT} {Q : Int32 → MT → Prop} (h0 : MA b0 v0 G) (h : P_M_droppedIn v0 Q) : zSp l D B sa yX6_droppedIn cX6_droppedIn 2 (some .int) 5 109 0 0 [.ref b0] z G (zRi fun r z' G' => z = z' ∧ ∃ w, MA b0 w G' ∧ Fr b0 8 G G' ∧ Q r w) := by
  unfold P_M_droppedIn at h
  refine z_ofW (by decide +kernel) hfl [some (.ref b0), none] rfl (Nat.le_of_ble_eq_true rfl) (fun p e s m args below meth c O hret hlk hnm => ?_)
  have O : zO p l s m args c D B sa 2 cX6_droppedIn RX6 := O
  have HL18 : ∀ (n9 : Nat)    (y1 : Int32) (v0 : MT) (G9 : zG) (g0 : MA b0 v0 G9) (gF : Fr b0 8 G G9) (h : PL_M_droppedIn_18 n9 y1 v0 Q), zT p l e (zrm 5 109 0 0) s m args below meth c (zEnd below D B (zRi fun r z' G' => z = z' ∧ ∃ w, MA b0 w G' ∧ Fr b0 8 G G' ∧ Q r w) args s 0 0) D B 2 0 0 18 [] [some (.ref b0), some (.int y1)] z G9 := by
    intro n9   
    induction n9 with
    | zero =>
      intro _ _ _ _ _ h
      exact (h : False).elim
    | succ n ih =>
      intro y1 v0 G9 g0 gF h
      rw [PL_M_droppedIn_18] at h
      refine z_iload_n O dX6_droppedIn_18 rfl rfl ?_
      refine z_sipush (v := 300) O dX6_droppedIn_19 (by decide) ?_
      refine z_icmp_gt (tgt := 59) O dX6_droppedIn_22 (by decide) (fun c21_ => ?_) (fun c21_ => ?_)
      · have h := h.1 c21_
        refine z_iconst (v := (-1)) O dX6_droppedIn_59 (by decide) ?_
        exact z_iret O hret hlk dX6_droppedIn_60 (Nat.le_of_ble_eq_true rfl) (Nat.le_of_ble_eq_true rfl) ⟨_, rfl, rfl, _, g0, gF, h⟩
      · have h := h.2 c21_
        refine z_aload_n O dX6_droppedIn_25 rfl rfl ?_
        refine z_get (v := .ref (b0 + 2)) O wf_RX6_13 dX6_droppedIn_26 (M_obj g0) rfl ?_
        refine z_callSv (As := [.ref (b0 + 2)]) (st := []) O (s_M_tick hfl (M_trial_of g0) h) wy_X6_tick wl_RX6_113 dX6_droppedIn_29 rfl rfl ⟨Nat.le_of_ble_eq_true rfl, Nat.le_of_ble_eq_true rfl⟩ (Nat.le_of_ble_eq_true rfl) ⟨Nat.le_of_ble_eq_true rfl, Nat.le_of_ble_eq_true rfl⟩ (fun z23_ G24_ hq25_ => ?_)
        obtain ⟨rfl, v26_, k27_, f28_, h⟩ := hq25_
        have k29_ := M_put_trial g0 k27_ f28_
        have f30_ : Fr b0 8 G9 G24_ := Fr.mono f28_ (by omega) (by omega)
        obtain ⟨v31_, ev31_⟩ : ∃ w, w = (M_set_trial v0 v26_) := ⟨_, rfl⟩
        have h := h v31_ ev31_
        have k32_ : MA b0 v31_ G24_ := by rw [ev31_]; exact k29_
        have F33_ : Fr b0 8 G G24_ := Fr.trans gF f30_
        refine z_aload_n O dX6_droppedIn_32 rfl rfl ?_
        refine z_get (v := .ref (b0 + 2)) O wf_RX6_13 dX6_droppedIn_33 (M_obj k32_) rfl ?_
        refine z_sipush (v := 617) O dX6_droppedIn_36 (by decide) ?_
        obtain ⟨q34_, h⟩ := h
        refine z_iald O dX6_droppedIn_39 (M_trial_of k32_) q34_ ?_
        refine z_aload_n O dX6_droppedIn_40 rfl rfl ?_
        refine z_get (v := .ref (b0 + 1)) O wf_RX6_7 dX6_droppedIn_41 (M_obj k32_) rfl ?_
        refine z_sipush (v := 617) O dX6_droppedIn_44 (by decide) ?_
        obtain ⟨q35_, h⟩ := h
        refine z_iald O dX6_droppedIn_47 (M_now_of k32_) q35_ ?_
        refine z_icmp_le (tgt := 53) O dX6_droppedIn_48 (by decide) (fun c36_ => ?_) (fun c36_ => ?_)
        · have h := h.1 c36_
          refine z_iinc (v := (y1 + 1)) (L' := [some (.ref b0), some (.int (y1 + 1))]) O dX6_droppedIn_53 rfl (by first | rfl | decide) (by decide) rfl ?_
          refine z_goto (tgt := 18) O dX6_droppedIn_56 (by decide) ?_
          exact z_subL (L' := [some (.ref b0), some (.int (y1 + 1))]) (zLe.sub (And.intro rfl (And.intro rfl True.intro))) (ih (y1 + 1) v31_ G24_ k32_ F33_ h)
        · have h := h.2 c36_
          refine z_iload_n O dX6_droppedIn_51 rfl rfl ?_
          exact z_iret O hret hlk dX6_droppedIn_52 (Nat.le_of_ble_eq_true rfl) (Nat.le_of_ble_eq_true rfl) ⟨_, rfl, rfl, _, k32_, F33_, h⟩
  refine z_aload_n O dX6_droppedIn_0 rfl rfl ?_
  refine z_iconst (v := 0) O dX6_droppedIn_1 (by decide) ?_
  refine y_put O wp_RX6_36 dX6_droppedIn_2 (M_obj h0) rfl rfl (fun G1_ hw2_ => ?_)
  have k3_ := M_w_refusal h0 hw2_
  have f4_ := hw2_.fr
  have f5_ : Fr b0 8 G G1_ := Fr.mono f4_ (by omega) (by omega)
  obtain ⟨v6_, ev6_⟩ : ∃ w, w = (M_set_refusal v0 0) := ⟨_, rfl⟩
  have h := h v6_ ev6_
  have k7_ : MA b0 v6_ G1_ := by rw [ev6_]; exact k3_
  have F8_ : Fr b0 8 G G1_ := Fr.trans Fr.rf f5_
  refine z_aload_n O dX6_droppedIn_5 rfl rfl ?_
  refine z_get (v := .ref (b0 + 1)) O wf_RX6_7 dX6_droppedIn_6 (M_obj k7_) rfl ?_
  refine z_aload_n O dX6_droppedIn_9 rfl rfl ?_
  refine z_get (v := .ref (b0 + 2)) O wf_RX6_13 dX6_droppedIn_10 (M_obj k7_) rfl ?_
  refine z_callSv (As := [.ref (b0 + 1), .ref (b0 + 2)]) (st := []) O (s_M_copy hfl (M_now_of k7_) (M_trial_of k7_) (by omega) h) wy_X6_copy wl_RX6_233 dX6_droppedIn_13 rfl rfl ⟨Nat.le_of_ble_eq_true rfl, Nat.le_of_ble_eq_true rfl⟩ (Nat.le_of_ble_eq_true rfl) ⟨Nat.le_of_ble_eq_true rfl, Nat.le_of_ble_eq_true rfl⟩ (fun z10_ G11_ hq12_ => ?_)
  obtain ⟨rfl, v13_, k14_, f15_, h⟩ := hq12_
  have k16_ := M_put_trial k7_ k14_ f15_
  have f17_ : Fr b0 8 G1_ G11_ := Fr.mono f15_ (by omega) (by omega)
  obtain ⟨v18_, ev18_⟩ : ∃ w, w = (M_set_trial v6_ v13_) := ⟨_, rfl⟩
  have h := h v18_ ev18_
  have k19_ : MA b0 v18_ G11_ := by rw [ev18_]; exact k16_
  have F20_ : Fr b0 8 G G11_ := Fr.trans F8_ f17_
  refine z_iconst (v := 1) O dX6_droppedIn_16 (by decide) ?_
  refine z_istore_n (L' := [some (.ref b0), some (.int 1)]) O dX6_droppedIn_17 rfl (by decide) rfl ?_
  obtain ⟨n37_, h⟩ := h
  exact z_subL (L' := [some (.ref b0), some (.int 1)]) (zLe.sub (And.intro rfl (And.intro rfl True.intro))) (HL18 n37_ 1 v18_ G11_ k19_ F20_ h)

theorem dX6_lostIn_0 : decode cX6_lostIn 0 = .ok (.aload_n 0, 1) := by decide +kernel
theorem dX6_lostIn_1 : decode cX6_lostIn 1 = .ok (.aload_n 0, 1) := by decide +kernel
theorem dX6_lostIn_2 : decode cX6_lostIn 2 = .ok (.getfield 7, 3) := by decide +kernel
theorem dX6_lostIn_5 : decode cX6_lostIn 5 = .ok (.iload_n 1, 1) := by decide +kernel
theorem dX6_lostIn_6 : decode cX6_lostIn 6 = .ok (.invokestatic 184, 3) := by decide +kernel
theorem dX6_lostIn_9 : decode cX6_lostIn 9 = .ok (.ifCond .eq 7, 3) := by decide +kernel
theorem dX6_lostIn_12 : decode cX6_lostIn 12 = .ok (.iconst 0, 1) := by decide +kernel
theorem dX6_lostIn_13 : decode cX6_lostIn 13 = .ok (.goto 4, 3) := by decide +kernel
theorem dX6_lostIn_16 : decode cX6_lostIn 16 = .ok (.iconst 1, 1) := by decide +kernel
theorem dX6_lostIn_17 : decode cX6_lostIn 17 = .ok (.invokevirtual 136, 3) := by decide +kernel
theorem dX6_lostIn_20 : decode cX6_lostIn 20 = .ok (.ifCond .eq 5, 3) := by decide +kernel
theorem dX6_lostIn_23 : decode cX6_lostIn 23 = .ok (.iconst 0, 1) := by decide +kernel
theorem dX6_lostIn_24 : decode cX6_lostIn 24 = .ok (.ireturn, 1) := by decide +kernel
theorem dX6_lostIn_25 : decode cX6_lostIn 25 = .ok (.aload_n 0, 1) := by decide +kernel
theorem dX6_lostIn_26 : decode cX6_lostIn 26 = .ok (.getfield 7, 3) := by decide +kernel
theorem dX6_lostIn_29 : decode cX6_lostIn 29 = .ok (.iload_n 1, 1) := by decide +kernel
theorem dX6_lostIn_30 : decode cX6_lostIn 30 = .ok (.invokestatic 65, 3) := by decide +kernel
theorem dX6_lostIn_33 : decode cX6_lostIn 33 = .ok (.iconst 2, 1) := by decide +kernel
theorem dX6_lostIn_34 : decode cX6_lostIn 34 = .ok (.iadd, 1) := by decide +kernel
theorem dX6_lostIn_35 : decode cX6_lostIn 35 = .ok (.iaload, 1) := by decide +kernel
theorem dX6_lostIn_36 : decode cX6_lostIn 36 = .ok (.ifCond .ne 5, 3) := by decide +kernel
theorem dX6_lostIn_39 : decode cX6_lostIn 39 = .ok (.iconst (-1), 1) := by decide +kernel
theorem dX6_lostIn_40 : decode cX6_lostIn 40 = .ok (.ireturn, 1) := by decide +kernel
theorem dX6_lostIn_41 : decode cX6_lostIn 41 = .ok (.aload_n 0, 1) := by decide +kernel
theorem dX6_lostIn_42 : decode cX6_lostIn 42 = .ok (.getfield 7, 3) := by decide +kernel
theorem dX6_lostIn_45 : decode cX6_lostIn 45 = .ok (.aload_n 0, 1) := by decide +kernel
theorem dX6_lostIn_46 : decode cX6_lostIn 46 = .ok (.getfield 13, 3) := by decide +kernel
theorem dX6_lostIn_49 : decode cX6_lostIn 49 = .ok (.invokestatic 233, 3) := by decide +kernel
theorem dX6_lostIn_52 : decode cX6_lostIn 52 = .ok (.iconst 1, 1) := by decide +kernel
theorem dX6_lostIn_53 : decode cX6_lostIn 53 = .ok (.istore_n 2, 1) := by decide +kernel
theorem dX6_lostIn_54 : decode cX6_lostIn 54 = .ok (.iload_n 2, 1) := by decide +kernel
theorem dX6_lostIn_55 : decode cX6_lostIn 55 = .ok (.sipush 300, 3) := by decide +kernel
theorem dX6_lostIn_58 : decode cX6_lostIn 58 = .ok (.if_icmp .gt 32, 3) := by decide +kernel
theorem dX6_lostIn_61 : decode cX6_lostIn 61 = .ok (.aload_n 0, 1) := by decide +kernel
theorem dX6_lostIn_62 : decode cX6_lostIn 62 = .ok (.getfield 13, 3) := by decide +kernel
theorem dX6_lostIn_65 : decode cX6_lostIn 65 = .ok (.invokestatic 113, 3) := by decide +kernel
theorem dX6_lostIn_68 : decode cX6_lostIn 68 = .ok (.aload_n 0, 1) := by decide +kernel
theorem dX6_lostIn_69 : decode cX6_lostIn 69 = .ok (.getfield 13, 3) := by decide +kernel
theorem dX6_lostIn_72 : decode cX6_lostIn 72 = .ok (.iload_n 1, 1) := by decide +kernel
theorem dX6_lostIn_73 : decode cX6_lostIn 73 = .ok (.invokestatic 65, 3) := by decide +kernel
theorem dX6_lostIn_76 : decode cX6_lostIn 76 = .ok (.iconst 2, 1) := by decide +kernel
theorem dX6_lostIn_77 : decode cX6_lostIn 77 = .ok (.iadd, 1) := by decide +kernel
theorem dX6_lostIn_78 : decode cX6_lostIn 78 = .ok (.iaload, 1) := by decide +kernel
theorem dX6_lostIn_79 : decode cX6_lostIn 79 = .ok (.ifCond .ne 5, 3) := by decide +kernel
theorem dX6_lostIn_82 : decode cX6_lostIn 82 = .ok (.iload_n 2, 1) := by decide +kernel
theorem dX6_lostIn_83 : decode cX6_lostIn 83 = .ok (.ireturn, 1) := by decide +kernel
theorem dX6_lostIn_84 : decode cX6_lostIn 84 = .ok (.iinc 2 1, 3) := by decide +kernel
theorem dX6_lostIn_87 : decode cX6_lostIn 87 = .ok (.goto (-33), 3) := by decide +kernel
theorem dX6_lostIn_90 : decode cX6_lostIn 90 = .ok (.iconst (-1), 1) := by decide +kernel
theorem dX6_lostIn_91 : decode cX6_lostIn 91 = .ok (.ireturn, 1) := by decide +kernel
def PL_M_lostIn_54 : Nat → Int32 → Int32 → Int32 → MT → (Int32 → MT → Prop) → Prop
  | 0, _, _, _, _, _ => False
  | n + 1, x1, y1, y2, v0, Q => ((300 < y2 → Q (-1) v0) ∧ (¬ 300 < y2 → P_M_tick (M_trial v0) (fun v38_ => (∀ v43_, v43_ = (M_set_trial v0 v38_) → (P_M_reader y1 (fun r46_ => (vp_in (r46_ + 2) 621 ∧ (((¬ ((M_trial v43_) (Int32.toNatClampNeg (r46_ + 2))) = 0 → (fun y1 y2 v0 => PL_M_lostIn_54 n x1 y1 y2 v0  Q) y1 (y2 + 1) v43_) ∧ (((M_trial v43_) (Int32.toNatClampNeg (r46_ + 2))) = 0 → Q y2 v43_))))))))))
def PJ_M_lostIn_17 (x1 : Int32) (y1 : Int32) (u0 : Int32) (v0 : MT) (Q : Int32 → MT → Prop) : Prop := P_M_refused u0 v0 (fun r6_ v10_ => (((r6_ = 0 → P_M_reader y1 (fun r15_ => (vp_in (r15_ + 2) 621 ∧ (((¬ ((M_now v10_) (Int32.toNatClampNeg (r15_ + 2))) = 0 → P_M_copy (M_now v10_) (M_trial v10_) (fun v25_ => (∀ v30_, v30_ = (M_set_trial v10_ v25_) → ((∃ n52_, PL_M_lostIn_54 n52_ x1 y1 1 v30_ Q))))) ∧ (((M_now v10_) (Int32.toNatClampNeg (r15_ + 2))) = 0 → Q (-1) v10_)))))) ∧ (¬ r6_ = 0 → Q 0 v10_))))
def P_M_lostIn (x1 : Int32) (v0 : MT) (Q : Int32 → MT → Prop) : Prop := P_M_isReader x1 (M_now v0) (fun r1_ => (((r1_ = 0 → PJ_M_lostIn_17 x1 x1 1 v0 Q) ∧ (¬ r1_ = 0 → PJ_M_lostIn_17 x1 x1 0 v0 Q))))
set_option maxRecDepth 100000 in
theorem s_M_lostIn {l : Launch} {D : zD} {B : Nat} {sa : Nat → Nat} (hfl : l.stackTraces = false) {z : Nat} {G : zG} {b0 : Nat} {x1 : Int32} {v0 : MT} {Q : Int32 → MT → Prop} (h0 : MA b0 v0 G) (h : P_M_lostIn x1 v0 Q) : zSp l D B sa yX6_lostIn cX6_lostIn 3 (some .int) 5 109 0 0 [.ref b0, .int x1] z G (zRi fun r z' G' => z = z' ∧ ∃ w, MA b0 w G' ∧ Fr b0 8 G G' ∧ Q r w) := by
  unfold P_M_lostIn at h
  refine z_ofW (by decide +kernel) hfl [some (.ref b0), some (.int x1), none] rfl (Nat.le_of_ble_eq_true rfl) (fun p e s m args below meth c O hret hlk hnm => ?_)
  have O : zO p l s m args c D B sa 3 cX6_lostIn RX6 := O
  have HL54 : ∀ (n9 : Nat)    (y1 : Int32) (y2 : Int32) (v0 : MT) (G9 : zG) (g0 : MA b0 v0 G9) (gF : Fr b0 8 G G9) (h : PL_M_lostIn_54 n9 x1 y1 y2 v0 Q), zT p l e (zrm 5 109 0 0) s m args below meth c (zEnd below D B (zRi fun r z' G' => z = z' ∧ ∃ w, MA b0 w G' ∧ Fr b0 8 G G' ∧ Q r w) args s 0 0) D B 3 0 0 54 [] [some (.ref b0), some (.int y1), some (.int y2)] z G9 := by
    intro n9   
    induction n9 with
    | zero =>
      intro _ _ _ _ _ _ h
      exact (h : False).elim
    | succ n ih =>
      intro y1 y2 v0 G9 g0 gF h
      rw [PL_M_lostIn_54] at h
      refine z_iload_n O dX6_lostIn_54 rfl rfl ?_
      refine z_sipush (v := 300) O dX6_lostIn_55 (by decide) ?_
      refine z_icmp_gt (tgt := 90) O dX6_lostIn_58 (by decide) (fun c33_ => ?_) (fun c33_ => ?_)
      · have h := h.1 c33_
        refine z_iconst (v := (-1)) O dX6_lostIn_90 (by decide) ?_
        exact z_iret O hret hlk dX6_lostIn_91 (Nat.le_of_ble_eq_true rfl) (Nat.le_of_ble_eq_true rfl) ⟨_, rfl, rfl, _, g0, gF, h⟩
      · have h := h.2 c33_
        refine z_aload_n O dX6_lostIn_61 rfl rfl ?_
        refine z_get (v := .ref (b0 + 2)) O wf_RX6_13 dX6_lostIn_62 (M_obj g0) rfl ?_
        refine z_callSv (As := [.ref (b0 + 2)]) (st := []) O (s_M_tick hfl (M_trial_of g0) h) wy_X6_tick wl_RX6_113 dX6_lostIn_65 rfl rfl ⟨Nat.le_of_ble_eq_true rfl, Nat.le_of_ble_eq_true rfl⟩ (Nat.le_of_ble_eq_true rfl) ⟨Nat.le_of_ble_eq_true rfl, Nat.le_of_ble_eq_true rfl⟩ (fun z35_ G36_ hq37_ => ?_)
        obtain ⟨rfl, v38_, k39_, f40_, h⟩ := hq37_
        have k41_ := M_put_trial g0 k39_ f40_
        have f42_ : Fr b0 8 G9 G36_ := Fr.mono f40_ (by omega) (by omega)
        obtain ⟨v43_, ev43_⟩ : ∃ w, w = (M_set_trial v0 v38_) := ⟨_, rfl⟩
        have h := h v43_ ev43_
        have k44_ : MA b0 v43_ G36_ := by rw [ev43_]; exact k41_
        have F45_ : Fr b0 8 G G36_ := Fr.trans gF f42_
        refine z_aload_n O dX6_lostIn_68 rfl rfl ?_
        refine z_get (v := .ref (b0 + 2)) O wf_RX6_13 dX6_lostIn_69 (M_obj k44_) rfl ?_
        refine z_iload_n O dX6_lostIn_72 rfl rfl ?_
        refine z_callSi (As := [.int y1]) (st := [.ref (b0 + 2)]) O (s_M_reader hfl h) wy_X6_reader wl_RX6_65 dX6_lostIn_73 rfl rfl ⟨Nat.le_of_ble_eq_true rfl, Nat.le_of_ble_eq_true rfl⟩ (Nat.le_of_ble_eq_true rfl) ⟨Nat.le_of_ble_eq_true rfl, Nat.le_of_ble_eq_true rfl⟩ (fun r46_ z47_ G48_ hq49_ => ?_)
        obtain ⟨rfl, rfl, h⟩ := hq49_
        refine z_iconst (v := 2) O dX6_lostIn_76 (by decide) ?_
        refine z_iadd O dX6_lostIn_77 ?_
        obtain ⟨q50_, h⟩ := h
        refine z_iald O dX6_lostIn_78 (M_trial_of k44_) q50_ ?_
        refine z_if_ne (tgt := 84) O dX6_lostIn_79 (by decide) (fun c51_ => ?_) (fun c51_ => ?_)
        · have h := h.1 c51_
          refine z_iinc (v := (y2 + 1)) (L' := [some (.ref b0), some (.int y1), some (.int (y2 + 1))]) O dX6_lostIn_84 rfl (by first | rfl | decide) (by decide) rfl ?_
          refine z_goto (tgt := 54) O dX6_lostIn_87 (by decide) ?_
          exact z_subL (L' := [some (.ref b0), some (.int y1), some (.int (y2 + 1))]) (zLe.sub (And.intro rfl (And.intro rfl (And.intro rfl True.intro)))) (ih y1 (y2 + 1) v43_ G36_ k44_ F45_ h)
        · have h := h.2 c51_
          refine z_iload_n O dX6_lostIn_82 rfl rfl ?_
          exact z_iret O hret hlk dX6_lostIn_83 (Nat.le_of_ble_eq_true rfl) (Nat.le_of_ble_eq_true rfl) ⟨_, rfl, rfl, _, k44_, F45_, h⟩
  have HJ17 : ∀ (y1 : Int32) (u0 : Int32) (v0 : MT) (G9 : zG) (g0 : MA b0 v0 G9) (gF : Fr b0 8 G G9), PJ_M_lostIn_17 x1 y1 u0 v0 Q → zT p l e (zrm 5 109 0 0) s m args below meth c (zEnd below D B (zRi fun r z' G' => z = z' ∧ ∃ w, MA b0 w G' ∧ Fr b0 8 G G' ∧ Q r w) args s 0 0) D B 3 0 0 17 [.int u0, .ref b0] [some (.ref b0), some (.int y1), none] z G9 := by
    intro y1 u0 v0 G9 g0 gF h
    unfold PJ_M_lostIn_17 at h
    refine z_callVi (As := [.int u0]) (st := []) O (s_M_refused hfl g0 h) wy_X6_refused wl_RX6_136 dX6_lostIn_17 rfl rfl (M_obj g0) ⟨by decide, rfl⟩ ⟨Nat.le_of_ble_eq_true rfl, Nat.le_of_ble_eq_true rfl⟩ (Nat.le_of_ble_eq_true rfl) ⟨Nat.le_of_ble_eq_true rfl, Nat.le_of_ble_eq_true rfl⟩ (fun r6_ z7_ G8_ hq9_ => ?_)
    obtain ⟨rfl, v10_, k11_, f12_, h⟩ := hq9_
    have F13_ : Fr b0 8 G G8_ := Fr.trans gF f12_
    refine z_if_eq (tgt := 25) O dX6_lostIn_20 (by decide) (fun c14_ => ?_) (fun c14_ => ?_)
    · have h := h.1 c14_
      refine z_aload_n O dX6_lostIn_25 rfl rfl ?_
      refine z_get (v := .ref (b0 + 1)) O wf_RX6_7 dX6_lostIn_26 (M_obj k11_) rfl ?_
      refine z_iload_n O dX6_lostIn_29 rfl rfl ?_
      refine z_callSi (As := [.int y1]) (st := [.ref (b0 + 1)]) O (s_M_reader hfl h) wy_X6_reader wl_RX6_65 dX6_lostIn_30 rfl rfl ⟨Nat.le_of_ble_eq_true rfl, Nat.le_of_ble_eq_true rfl⟩ (Nat.le_of_ble_eq_true rfl) ⟨Nat.le_of_ble_eq_true rfl, Nat.le_of_ble_eq_true rfl⟩ (fun r15_ z16_ G17_ hq18_ => ?_)
      obtain ⟨rfl, rfl, h⟩ := hq18_
      refine z_iconst (v := 2) O dX6_lostIn_33 (by decide) ?_
      refine z_iadd O dX6_lostIn_34 ?_
      obtain ⟨q19_, h⟩ := h
      refine z_iald O dX6_lostIn_35 (M_now_of k11_) q19_ ?_
      refine z_if_ne (tgt := 41) O dX6_lostIn_36 (by decide) (fun c20_ => ?_) (fun c20_ => ?_)
      · have h := h.1 c20_
        refine z_aload_n O dX6_lostIn_41 rfl rfl ?_
        refine z_get (v := .ref (b0 + 1)) O wf_RX6_7 dX6_lostIn_42 (M_obj k11_) rfl ?_
        refine z_aload_n O dX6_lostIn_45 rfl rfl ?_
        refine z_get (v := .ref (b0 + 2)) O wf_RX6_13 dX6_lostIn_46 (M_obj k11_) rfl ?_
        refine z_callSv (As := [.ref (b0 + 1), .ref (b0 + 2)]) (st := []) O (s_M_copy hfl (M_now_of k11_) (M_trial_of k11_) (by omega) h) wy_X6_copy wl_RX6_233 dX6_lostIn_49 rfl rfl ⟨Nat.le_of_ble_eq_true rfl, Nat.le_of_ble_eq_true rfl⟩ (Nat.le_of_ble_eq_true rfl) ⟨Nat.le_of_ble_eq_true rfl, Nat.le_of_ble_eq_true rfl⟩ (fun z22_ G23_ hq24_ => ?_)
        obtain ⟨rfl, v25_, k26_, f27_, h⟩ := hq24_
        have k28_ := M_put_trial k11_ k26_ f27_
        have f29_ : Fr b0 8 G8_ G23_ := Fr.mono f27_ (by omega) (by omega)
        obtain ⟨v30_, ev30_⟩ : ∃ w, w = (M_set_trial v10_ v25_) := ⟨_, rfl⟩
        have h := h v30_ ev30_
        have k31_ : MA b0 v30_ G23_ := by rw [ev30_]; exact k28_
        have F32_ : Fr b0 8 G G23_ := Fr.trans F13_ f29_
        refine z_iconst (v := 1) O dX6_lostIn_52 (by decide) ?_
        refine z_istore_n (L' := [some (.ref b0), some (.int y1), some (.int 1)]) O dX6_lostIn_53 rfl (by decide) rfl ?_
        obtain ⟨n52_, h⟩ := h
        exact z_subL (L' := [some (.ref b0), some (.int y1), some (.int 1)]) (zLe.sub (And.intro rfl (And.intro rfl (And.intro rfl True.intro)))) (HL54 n52_ y1 1 v30_ G23_ k31_ F32_ h)
      · have h := h.2 c20_
        refine z_iconst (v := (-1)) O dX6_lostIn_39 (by decide) ?_
        exact z_iret O hret hlk dX6_lostIn_40 (Nat.le_of_ble_eq_true rfl) (Nat.le_of_ble_eq_true rfl) ⟨_, rfl, rfl, _, k11_, F13_, h⟩
    · have h := h.2 c14_
      refine z_iconst (v := 0) O dX6_lostIn_23 (by decide) ?_
      exact z_iret O hret hlk dX6_lostIn_24 (Nat.le_of_ble_eq_true rfl) (Nat.le_of_ble_eq_true rfl) ⟨_, rfl, rfl, _, k11_, F13_, h⟩
  refine z_aload_n O dX6_lostIn_0 rfl rfl ?_
  refine z_aload_n O dX6_lostIn_1 rfl rfl ?_
  refine z_get (v := .ref (b0 + 1)) O wf_RX6_7 dX6_lostIn_2 (M_obj h0) rfl ?_
  refine z_iload_n O dX6_lostIn_5 rfl rfl ?_
  refine z_callSi (As := [.ref (b0 + 1), .int x1]) (st := [.ref b0]) O (s_M_isReader hfl (M_now_of h0) h) wy_X6_isReader wl_RX6_184 dX6_lostIn_6 rfl rfl ⟨Nat.le_of_ble_eq_true rfl, Nat.le_of_ble_eq_true rfl⟩ (Nat.le_of_ble_eq_true rfl) ⟨Nat.le_of_ble_eq_true rfl, Nat.le_of_ble_eq_true rfl⟩ (fun r1_ z2_ G3_ hq4_ => ?_)
  obtain ⟨rfl, rfl, h⟩ := hq4_
  refine z_if_eq (tgt := 16) O dX6_lostIn_9 (by decide) (fun c5_ => ?_) (fun c5_ => ?_)
  · have h := h.1 c5_
    refine z_iconst (v := 1) O dX6_lostIn_16 (by decide) ?_
    exact z_subL (L' := [some (.ref b0), some (.int x1), none]) (zLe.sub (And.intro rfl (And.intro rfl True.intro))) (HJ17 x1 1 v0 G h0 Fr.rf h)
  · have h := h.2 c5_
    refine z_iconst (v := 0) O dX6_lostIn_12 (by decide) ?_
    refine z_goto (tgt := 17) O dX6_lostIn_13 (by decide) ?_
    exact z_subL (L' := [some (.ref b0), some (.int x1), none]) (zLe.sub (And.intro rfl (And.intro rfl True.intro))) (HJ17 x1 0 v0 G h0 Fr.rf h)

theorem dX6_ifFree_0 : decode cX6_ifFree 0 = .ok (.aload_n 0, 1) := by decide +kernel
theorem dX6_ifFree_1 : decode cX6_ifFree 1 = .ok (.aload_n 0, 1) := by decide +kernel
theorem dX6_ifFree_2 : decode cX6_ifFree 2 = .ok (.getfield 7, 3) := by decide +kernel
theorem dX6_ifFree_5 : decode cX6_ifFree 5 = .ok (.iload_n 1, 1) := by decide +kernel
theorem dX6_ifFree_6 : decode cX6_ifFree 6 = .ok (.invokestatic 184, 3) := by decide +kernel
theorem dX6_ifFree_9 : decode cX6_ifFree 9 = .ok (.ifCond .eq 7, 3) := by decide +kernel
theorem dX6_ifFree_12 : decode cX6_ifFree 12 = .ok (.iconst 0, 1) := by decide +kernel
theorem dX6_ifFree_13 : decode cX6_ifFree 13 = .ok (.goto 4, 3) := by decide +kernel
theorem dX6_ifFree_16 : decode cX6_ifFree 16 = .ok (.iconst 1, 1) := by decide +kernel
theorem dX6_ifFree_17 : decode cX6_ifFree 17 = .ok (.invokevirtual 136, 3) := by decide +kernel
theorem dX6_ifFree_20 : decode cX6_ifFree 20 = .ok (.ifCond .eq 5, 3) := by decide +kernel
theorem dX6_ifFree_23 : decode cX6_ifFree 23 = .ok (.iconst 0, 1) := by decide +kernel
theorem dX6_ifFree_24 : decode cX6_ifFree 24 = .ok (.ireturn, 1) := by decide +kernel
theorem dX6_ifFree_25 : decode cX6_ifFree 25 = .ok (.aload_n 0, 1) := by decide +kernel
theorem dX6_ifFree_26 : decode cX6_ifFree 26 = .ok (.getfield 7, 3) := by decide +kernel
theorem dX6_ifFree_29 : decode cX6_ifFree 29 = .ok (.aload_n 0, 1) := by decide +kernel
theorem dX6_ifFree_30 : decode cX6_ifFree 30 = .ok (.getfield 13, 3) := by decide +kernel
theorem dX6_ifFree_33 : decode cX6_ifFree 33 = .ok (.invokestatic 233, 3) := by decide +kernel
theorem dX6_ifFree_36 : decode cX6_ifFree 36 = .ok (.aload_n 0, 1) := by decide +kernel
theorem dX6_ifFree_37 : decode cX6_ifFree 37 = .ok (.getfield 13, 3) := by decide +kernel
theorem dX6_ifFree_40 : decode cX6_ifFree 40 = .ok (.iload_n 1, 1) := by decide +kernel
theorem dX6_ifFree_41 : decode cX6_ifFree 41 = .ok (.invokestatic 65, 3) := by decide +kernel
theorem dX6_ifFree_44 : decode cX6_ifFree 44 = .ok (.iconst 2, 1) := by decide +kernel
theorem dX6_ifFree_45 : decode cX6_ifFree 45 = .ok (.iadd, 1) := by decide +kernel
theorem dX6_ifFree_46 : decode cX6_ifFree 46 = .ok (.iconst 0, 1) := by decide +kernel
theorem dX6_ifFree_47 : decode cX6_ifFree 47 = .ok (.iastore, 1) := by decide +kernel
theorem dX6_ifFree_48 : decode cX6_ifFree 48 = .ok (.aload_n 0, 1) := by decide +kernel
theorem dX6_ifFree_49 : decode cX6_ifFree 49 = .ok (.getfield 13, 3) := by decide +kernel
theorem dX6_ifFree_52 : decode cX6_ifFree 52 = .ok (.iconst 1, 1) := by decide +kernel
theorem dX6_ifFree_53 : decode cX6_ifFree 53 = .ok (.invokestatic 208, 3) := by decide +kernel
theorem dX6_ifFree_56 : decode cX6_ifFree 56 = .ok (.ireturn, 1) := by decide +kernel
def PJ_M_ifFree_17 (x1 : Int32) (y1 : Int32) (u0 : Int32) (v0 : MT) (Q : Int32 → MT → Prop) : Prop := P_M_refused u0 v0 (fun r6_ v10_ => (((r6_ = 0 → P_M_copy (M_now v10_) (M_trial v10_) (fun v19_ => (∀ v24_, v24_ = (M_set_trial v10_ v19_) → (P_M_reader y1 (fun r27_ => (vp_in (r27_ + 2) 621 ∧ (∀ v38_, v38_ = (M_set_trial v24_ (upd (M_trial v24_) (Int32.toNatClampNeg (r27_ + 2)) 0)) → (P_M_goTicks 1 (M_trial v38_) (fun r41_ v45_ => (∀ v50_, v50_ = (M_set_trial v38_ v45_) → (Q r41_ v50_))))))))))) ∧ (¬ r6_ = 0 → Q 0 v10_))))
def P_M_ifFree (x1 : Int32) (v0 : MT) (Q : Int32 → MT → Prop) : Prop := P_M_isReader x1 (M_now v0) (fun r1_ => (((r1_ = 0 → PJ_M_ifFree_17 x1 x1 1 v0 Q) ∧ (¬ r1_ = 0 → PJ_M_ifFree_17 x1 x1 0 v0 Q))))
set_option maxRecDepth 100000 in
theorem s_M_ifFree {l : Launch} {D : zD} {B : Nat} {sa : Nat → Nat} (hfl : l.stackTraces = false) {z : Nat} {G : zG} {b0 : Nat} {x1 : Int32} {v0 : MT} {Q : Int32 → MT → Prop} (h0 : MA b0 v0 G) (h : P_M_ifFree x1 v0 Q) : zSp l D B sa yX6_ifFree cX6_ifFree 2 (some .int) 6 132 0 0 [.ref b0, .int x1] z G (zRi fun r z' G' => z = z' ∧ ∃ w, MA b0 w G' ∧ Fr b0 8 G G' ∧ Q r w) := by
  unfold P_M_ifFree at h
  refine z_ofW (by decide +kernel) hfl [some (.ref b0), some (.int x1)] rfl (Nat.le_of_ble_eq_true rfl) (fun p e s m args below meth c O hret hlk hnm => ?_)
  have O : zO p l s m args c D B sa 2 cX6_ifFree RX6 := O
  have HJ17 : ∀ (y1 : Int32) (u0 : Int32) (v0 : MT) (G9 : zG) (g0 : MA b0 v0 G9) (gF : Fr b0 8 G G9), PJ_M_ifFree_17 x1 y1 u0 v0 Q → zT p l e (zrm 6 132 0 0) s m args below meth c (zEnd below D B (zRi fun r z' G' => z = z' ∧ ∃ w, MA b0 w G' ∧ Fr b0 8 G G' ∧ Q r w) args s 0 0) D B 2 0 0 17 [.int u0, .ref b0] [some (.ref b0), some (.int y1)] z G9 := by
    intro y1 u0 v0 G9 g0 gF h
    unfold PJ_M_ifFree_17 at h
    refine z_callVi (As := [.int u0]) (st := []) O (s_M_refused hfl g0 h) wy_X6_refused wl_RX6_136 dX6_ifFree_17 rfl rfl (M_obj g0) ⟨by decide, rfl⟩ ⟨Nat.le_of_ble_eq_true rfl, Nat.le_of_ble_eq_true rfl⟩ (Nat.le_of_ble_eq_true rfl) ⟨Nat.le_of_ble_eq_true rfl, Nat.le_of_ble_eq_true rfl⟩ (fun r6_ z7_ G8_ hq9_ => ?_)
    obtain ⟨rfl, v10_, k11_, f12_, h⟩ := hq9_
    have F13_ : Fr b0 8 G G8_ := Fr.trans gF f12_
    refine z_if_eq (tgt := 25) O dX6_ifFree_20 (by decide) (fun c14_ => ?_) (fun c14_ => ?_)
    · have h := h.1 c14_
      refine z_aload_n O dX6_ifFree_25 rfl rfl ?_
      refine z_get (v := .ref (b0 + 1)) O wf_RX6_7 dX6_ifFree_26 (M_obj k11_) rfl ?_
      refine z_aload_n O dX6_ifFree_29 rfl rfl ?_
      refine z_get (v := .ref (b0 + 2)) O wf_RX6_13 dX6_ifFree_30 (M_obj k11_) rfl ?_
      refine z_callSv (As := [.ref (b0 + 1), .ref (b0 + 2)]) (st := []) O (s_M_copy hfl (M_now_of k11_) (M_trial_of k11_) (by omega) h) wy_X6_copy wl_RX6_233 dX6_ifFree_33 rfl rfl ⟨Nat.le_of_ble_eq_true rfl, Nat.le_of_ble_eq_true rfl⟩ (Nat.le_of_ble_eq_true rfl) ⟨Nat.le_of_ble_eq_true rfl, Nat.le_of_ble_eq_true rfl⟩ (fun z16_ G17_ hq18_ => ?_)
      obtain ⟨rfl, v19_, k20_, f21_, h⟩ := hq18_
      have k22_ := M_put_trial k11_ k20_ f21_
      have f23_ : Fr b0 8 G8_ G17_ := Fr.mono f21_ (by omega) (by omega)
      obtain ⟨v24_, ev24_⟩ : ∃ w, w = (M_set_trial v10_ v19_) := ⟨_, rfl⟩
      have h := h v24_ ev24_
      have k25_ : MA b0 v24_ G17_ := by rw [ev24_]; exact k22_
      have F26_ : Fr b0 8 G G17_ := Fr.trans F13_ f23_
      refine z_aload_n O dX6_ifFree_36 rfl rfl ?_
      refine z_get (v := .ref (b0 + 2)) O wf_RX6_13 dX6_ifFree_37 (M_obj k25_) rfl ?_
      refine z_iload_n O dX6_ifFree_40 rfl rfl ?_
      refine z_callSi (As := [.int y1]) (st := [.ref (b0 + 2)]) O (s_M_reader hfl h) wy_X6_reader wl_RX6_65 dX6_ifFree_41 rfl rfl ⟨Nat.le_of_ble_eq_true rfl, Nat.le_of_ble_eq_true rfl⟩ (Nat.le_of_ble_eq_true rfl) ⟨Nat.le_of_ble_eq_true rfl, Nat.le_of_ble_eq_true rfl⟩ (fun r27_ z28_ G29_ hq30_ => ?_)
      obtain ⟨rfl, rfl, h⟩ := hq30_
      refine z_iconst (v := 2) O dX6_ifFree_44 (by decide) ?_
      refine z_iadd O dX6_ifFree_45 ?_
      refine z_iconst (v := 0) O dX6_ifFree_46 (by decide) ?_
      obtain ⟨q31_, h⟩ := h
      refine y_iast O dX6_ifFree_47 (M_trial_of k25_) q31_ (fun G32_ hw33_ => ?_)
      have k34_ := hw33_.1
      have f35_ := hw33_.fr
      have k36_ := M_put_trial k25_ k34_ f35_
      have f37_ : Fr b0 8 G17_ G32_ := Fr.mono f35_ (by omega) (by omega)
      obtain ⟨v38_, ev38_⟩ : ∃ w, w = (M_set_trial v24_ (upd (M_trial v24_) (Int32.toNatClampNeg (r27_ + 2)) 0)) := ⟨_, rfl⟩
      have h := h v38_ ev38_
      have k39_ : MA b0 v38_ G32_ := by rw [ev38_]; exact k36_
      have F40_ : Fr b0 8 G G32_ := Fr.trans F26_ f37_
      refine z_aload_n O dX6_ifFree_48 rfl rfl ?_
      refine z_get (v := .ref (b0 + 2)) O wf_RX6_13 dX6_ifFree_49 (M_obj k39_) rfl ?_
      refine z_iconst (v := 1) O dX6_ifFree_52 (by decide) ?_
      refine z_callSi (As := [.ref (b0 + 2), .int 1]) (st := []) O (s_M_goTicks hfl (M_trial_of k39_) h) wy_X6_goTicks wl_RX6_208 dX6_ifFree_53 rfl rfl ⟨Nat.le_of_ble_eq_true rfl, Nat.le_of_ble_eq_true rfl⟩ (Nat.le_of_ble_eq_true rfl) ⟨Nat.le_of_ble_eq_true rfl, Nat.le_of_ble_eq_true rfl⟩ (fun r41_ z42_ G43_ hq44_ => ?_)
      obtain ⟨rfl, v45_, k46_, f47_, h⟩ := hq44_
      have k48_ := M_put_trial k39_ k46_ f47_
      have f49_ : Fr b0 8 G32_ G43_ := Fr.mono f47_ (by omega) (by omega)
      obtain ⟨v50_, ev50_⟩ : ∃ w, w = (M_set_trial v38_ v45_) := ⟨_, rfl⟩
      have h := h v50_ ev50_
      have k51_ : MA b0 v50_ G43_ := by rw [ev50_]; exact k48_
      have F52_ : Fr b0 8 G G43_ := Fr.trans F40_ f49_
      exact z_iret O hret hlk dX6_ifFree_56 (Nat.le_of_ble_eq_true rfl) (Nat.le_of_ble_eq_true rfl) ⟨_, rfl, rfl, _, k51_, F52_, h⟩
    · have h := h.2 c14_
      refine z_iconst (v := 0) O dX6_ifFree_23 (by decide) ?_
      exact z_iret O hret hlk dX6_ifFree_24 (Nat.le_of_ble_eq_true rfl) (Nat.le_of_ble_eq_true rfl) ⟨_, rfl, rfl, _, k11_, F13_, h⟩
  refine z_aload_n O dX6_ifFree_0 rfl rfl ?_
  refine z_aload_n O dX6_ifFree_1 rfl rfl ?_
  refine z_get (v := .ref (b0 + 1)) O wf_RX6_7 dX6_ifFree_2 (M_obj h0) rfl ?_
  refine z_iload_n O dX6_ifFree_5 rfl rfl ?_
  refine z_callSi (As := [.ref (b0 + 1), .int x1]) (st := [.ref b0]) O (s_M_isReader hfl (M_now_of h0) h) wy_X6_isReader wl_RX6_184 dX6_ifFree_6 rfl rfl ⟨Nat.le_of_ble_eq_true rfl, Nat.le_of_ble_eq_true rfl⟩ (Nat.le_of_ble_eq_true rfl) ⟨Nat.le_of_ble_eq_true rfl, Nat.le_of_ble_eq_true rfl⟩ (fun r1_ z2_ G3_ hq4_ => ?_)
  obtain ⟨rfl, rfl, h⟩ := hq4_
  refine z_if_eq (tgt := 16) O dX6_ifFree_9 (by decide) (fun c5_ => ?_) (fun c5_ => ?_)
  · have h := h.1 c5_
    refine z_iconst (v := 1) O dX6_ifFree_16 (by decide) ?_
    exact z_subL (L' := [some (.ref b0), some (.int x1)]) (zLe.sub (And.intro rfl (And.intro rfl True.intro))) (HJ17 x1 1 v0 G h0 Fr.rf h)
  · have h := h.2 c5_
    refine z_iconst (v := 0) O dX6_ifFree_12 (by decide) ?_
    refine z_goto (tgt := 17) O dX6_ifFree_13 (by decide) ?_
    exact z_subL (L' := [some (.ref b0), some (.int x1)]) (zLe.sub (And.intro rfl (And.intro rfl True.intro))) (HJ17 x1 0 v0 G h0 Fr.rf h)

theorem dX6_keepsAll_0 : decode cX6_keepsAll 0 = .ok (.aload_n 0, 1) := by decide +kernel
theorem dX6_keepsAll_1 : decode cX6_keepsAll 1 = .ok (.getfield 7, 3) := by decide +kernel
theorem dX6_keepsAll_4 : decode cX6_keepsAll 4 = .ok (.aload_n 0, 1) := by decide +kernel
theorem dX6_keepsAll_5 : decode cX6_keepsAll 5 = .ok (.getfield 13, 3) := by decide +kernel
theorem dX6_keepsAll_8 : decode cX6_keepsAll 8 = .ok (.invokestatic 233, 3) := by decide +kernel
theorem dX6_keepsAll_11 : decode cX6_keepsAll 11 = .ok (.aload_n 0, 1) := by decide +kernel
theorem dX6_keepsAll_12 : decode cX6_keepsAll 12 = .ok (.getfield 13, 3) := by decide +kernel
theorem dX6_keepsAll_15 : decode cX6_keepsAll 15 = .ok (.sipush 613, 3) := by decide +kernel
theorem dX6_keepsAll_18 : decode cX6_keepsAll 18 = .ok (.iload_n 1, 1) := by decide +kernel
theorem dX6_keepsAll_19 : decode cX6_keepsAll 19 = .ok (.iastore, 1) := by decide +kernel
theorem dX6_keepsAll_20 : decode cX6_keepsAll 20 = .ok (.aload_n 0, 1) := by decide +kernel
theorem dX6_keepsAll_21 : decode cX6_keepsAll 21 = .ok (.getfield 13, 3) := by decide +kernel
theorem dX6_keepsAll_24 : decode cX6_keepsAll 24 = .ok (.iload_n 2, 1) := by decide +kernel
theorem dX6_keepsAll_25 : decode cX6_keepsAll 25 = .ok (.invokestatic 208, 3) := by decide +kernel
theorem dX6_keepsAll_28 : decode cX6_keepsAll 28 = .ok (.ifCond .ne 7, 3) := by decide +kernel
theorem dX6_keepsAll_31 : decode cX6_keepsAll 31 = .ok (.iconst 1, 1) := by decide +kernel
theorem dX6_keepsAll_32 : decode cX6_keepsAll 32 = .ok (.goto 4, 3) := by decide +kernel
theorem dX6_keepsAll_35 : decode cX6_keepsAll 35 = .ok (.iconst 0, 1) := by decide +kernel
theorem dX6_keepsAll_36 : decode cX6_keepsAll 36 = .ok (.ireturn, 1) := by decide +kernel
def P_M_keepsAll (x1 : Int32) (x2 : Int32) (v0 : MT) (Q : Int32 → MT → Prop) : Prop := P_M_copy (M_now v0) (M_trial v0) (fun v5_ => (∀ v10_, v10_ = (M_set_trial v0 v5_) → (vp_in 613 621 ∧ (∀ v20_, v20_ = (M_set_trial v10_ (upd (M_trial v10_) (Int32.toNatClampNeg 613) x1)) → (P_M_goTicks x2 (M_trial v20_) (fun r23_ v27_ => (∀ v32_, v32_ = (M_set_trial v20_ v27_) → (((¬ r23_ = 0 → Q 0 v32_) ∧ (r23_ = 0 → Q 1 v32_))))))))))
set_option maxRecDepth 100000 in
theorem s_M_keepsAll {l : Launch} {D : zD} {B : Nat} {sa : Nat → Nat} (hfl : l.stackTraces = false) {z : Nat} {G : zG} {b0 : Nat} {x1 : Int32} {x2 : Int32} {v0 : MT} {Q : Int32 → MT → Prop} (h0 : MA b0 v0 G) (h : P_M_keepsAll x1 x2 v0 Q) : zSp l D B sa yX6_keepsAll cX6_keepsAll 3 (some .boolean) 6 132 0 0 [.ref b0, .int x1, .int x2] z G (zRi fun r z' G' => z = z' ∧ ∃ w, MA b0 w G' ∧ Fr b0 8 G G' ∧ Q r w) := by
  unfold P_M_keepsAll at h
  refine z_ofW (by decide +kernel) hfl [some (.ref b0), some (.int x1), some (.int x2)] rfl (Nat.le_of_ble_eq_true rfl) (fun p e s m args below meth c O hret hlk hnm => ?_)
  have O : zO p l s m args c D B sa 3 cX6_keepsAll RX6 := O
  refine z_aload_n O dX6_keepsAll_0 rfl rfl ?_
  refine z_get (v := .ref (b0 + 1)) O wf_RX6_7 dX6_keepsAll_1 (M_obj h0) rfl ?_
  refine z_aload_n O dX6_keepsAll_4 rfl rfl ?_
  refine z_get (v := .ref (b0 + 2)) O wf_RX6_13 dX6_keepsAll_5 (M_obj h0) rfl ?_
  refine z_callSv (As := [.ref (b0 + 1), .ref (b0 + 2)]) (st := []) O (s_M_copy hfl (M_now_of h0) (M_trial_of h0) (by omega) h) wy_X6_copy wl_RX6_233 dX6_keepsAll_8 rfl rfl ⟨Nat.le_of_ble_eq_true rfl, Nat.le_of_ble_eq_true rfl⟩ (Nat.le_of_ble_eq_true rfl) ⟨Nat.le_of_ble_eq_true rfl, Nat.le_of_ble_eq_true rfl⟩ (fun z2_ G3_ hq4_ => ?_)
  obtain ⟨rfl, v5_, k6_, f7_, h⟩ := hq4_
  have k8_ := M_put_trial h0 k6_ f7_
  have f9_ : Fr b0 8 G G3_ := Fr.mono f7_ (by omega) (by omega)
  obtain ⟨v10_, ev10_⟩ : ∃ w, w = (M_set_trial v0 v5_) := ⟨_, rfl⟩
  have h := h v10_ ev10_
  have k11_ : MA b0 v10_ G3_ := by rw [ev10_]; exact k8_
  have F12_ : Fr b0 8 G G3_ := Fr.trans Fr.rf f9_
  refine z_aload_n O dX6_keepsAll_11 rfl rfl ?_
  refine z_get (v := .ref (b0 + 2)) O wf_RX6_13 dX6_keepsAll_12 (M_obj k11_) rfl ?_
  refine z_sipush (v := 613) O dX6_keepsAll_15 (by decide) ?_
  refine z_iload_n O dX6_keepsAll_18 rfl rfl ?_
  obtain ⟨q13_, h⟩ := h
  refine y_iast O dX6_keepsAll_19 (M_trial_of k11_) q13_ (fun G14_ hw15_ => ?_)
  have k16_ := hw15_.1
  have f17_ := hw15_.fr
  have k18_ := M_put_trial k11_ k16_ f17_
  have f19_ : Fr b0 8 G3_ G14_ := Fr.mono f17_ (by omega) (by omega)
  obtain ⟨v20_, ev20_⟩ : ∃ w, w = (M_set_trial v10_ (upd (M_trial v10_) (Int32.toNatClampNeg 613) x1)) := ⟨_, rfl⟩
  have h := h v20_ ev20_
  have k21_ : MA b0 v20_ G14_ := by rw [ev20_]; exact k18_
  have F22_ : Fr b0 8 G G14_ := Fr.trans F12_ f19_
  refine z_aload_n O dX6_keepsAll_20 rfl rfl ?_
  refine z_get (v := .ref (b0 + 2)) O wf_RX6_13 dX6_keepsAll_21 (M_obj k21_) rfl ?_
  refine z_iload_n O dX6_keepsAll_24 rfl rfl ?_
  refine z_callSi (As := [.ref (b0 + 2), .int x2]) (st := []) O (s_M_goTicks hfl (M_trial_of k21_) h) wy_X6_goTicks wl_RX6_208 dX6_keepsAll_25 rfl rfl ⟨Nat.le_of_ble_eq_true rfl, Nat.le_of_ble_eq_true rfl⟩ (Nat.le_of_ble_eq_true rfl) ⟨Nat.le_of_ble_eq_true rfl, Nat.le_of_ble_eq_true rfl⟩ (fun r23_ z24_ G25_ hq26_ => ?_)
  obtain ⟨rfl, v27_, k28_, f29_, h⟩ := hq26_
  have k30_ := M_put_trial k21_ k28_ f29_
  have f31_ : Fr b0 8 G14_ G25_ := Fr.mono f29_ (by omega) (by omega)
  obtain ⟨v32_, ev32_⟩ : ∃ w, w = (M_set_trial v20_ v27_) := ⟨_, rfl⟩
  have h := h v32_ ev32_
  have k33_ : MA b0 v32_ G25_ := by rw [ev32_]; exact k30_
  have F34_ : Fr b0 8 G G25_ := Fr.trans F22_ f31_
  refine z_if_ne (tgt := 35) O dX6_keepsAll_28 (by decide) (fun c35_ => ?_) (fun c35_ => ?_)
  · have h := h.1 c35_
    refine z_iconst (v := 0) O dX6_keepsAll_35 (by decide) ?_
    exact z_zret O hret rfl hlk dX6_keepsAll_36 (Nat.le_of_ble_eq_true rfl) (Nat.le_of_ble_eq_true rfl) ⟨_, rfl, rfl, _, k33_, F34_, h⟩
  · have h := h.2 c35_
    refine z_iconst (v := 1) O dX6_keepsAll_31 (by decide) ?_
    refine z_goto (tgt := 36) O dX6_keepsAll_32 (by decide) ?_
    exact z_zret O hret rfl hlk dX6_keepsAll_36 (Nat.le_of_ble_eq_true rfl) (Nat.le_of_ble_eq_true rfl) ⟨_, rfl, rfl, _, k33_, F34_, h⟩

theorem dX6_leastRoom_0 : decode cX6_leastRoom 0 = .ok (.aload_n 0, 1) := by decide +kernel
theorem dX6_leastRoom_1 : decode cX6_leastRoom 1 = .ok (.iload_n 1, 1) := by decide +kernel
theorem dX6_leastRoom_2 : decode cX6_leastRoom 2 = .ok (.i2l, 1) := by decide +kernel
theorem dX6_leastRoom_3 : decode cX6_leastRoom 3 = .ok (.lconst 1, 1) := by decide +kernel
theorem dX6_leastRoom_4 : decode cX6_leastRoom 4 = .ok (.ldc2_w 58, 3) := by decide +kernel
theorem dX6_leastRoom_7 : decode cX6_leastRoom 7 = .ok (.invokestatic 44, 3) := by decide +kernel
theorem dX6_leastRoom_10 : decode cX6_leastRoom 10 = .ok (.ifCond .eq 7, 3) := by decide +kernel
theorem dX6_leastRoom_13 : decode cX6_leastRoom 13 = .ok (.iconst 0, 1) := by decide +kernel
theorem dX6_leastRoom_14 : decode cX6_leastRoom 14 = .ok (.goto 4, 3) := by decide +kernel
theorem dX6_leastRoom_17 : decode cX6_leastRoom 17 = .ok (.iconst 1, 1) := by decide +kernel
theorem dX6_leastRoom_18 : decode cX6_leastRoom 18 = .ok (.invokevirtual 136, 3) := by decide +kernel
theorem dX6_leastRoom_21 : decode cX6_leastRoom 21 = .ok (.ifCond .eq 5, 3) := by decide +kernel
theorem dX6_leastRoom_24 : decode cX6_leastRoom 24 = .ok (.iconst 0, 1) := by decide +kernel
theorem dX6_leastRoom_25 : decode cX6_leastRoom 25 = .ok (.ireturn, 1) := by decide +kernel
theorem dX6_leastRoom_26 : decode cX6_leastRoom 26 = .ok (.aload_n 0, 1) := by decide +kernel
theorem dX6_leastRoom_27 : decode cX6_leastRoom 27 = .ok (.getfield 7, 3) := by decide +kernel
theorem dX6_leastRoom_30 : decode cX6_leastRoom 30 = .ok (.aload_n 0, 1) := by decide +kernel
theorem dX6_leastRoom_31 : decode cX6_leastRoom 31 = .ok (.getfield 7, 3) := by decide +kernel
theorem dX6_leastRoom_34 : decode cX6_leastRoom 34 = .ok (.sipush 400, 3) := by decide +kernel
theorem dX6_leastRoom_37 : decode cX6_leastRoom 37 = .ok (.iaload, 1) := by decide +kernel
theorem dX6_leastRoom_38 : decode cX6_leastRoom 38 = .ok (.aload_n 0, 1) := by decide +kernel
theorem dX6_leastRoom_39 : decode cX6_leastRoom 39 = .ok (.getfield 7, 3) := by decide +kernel
theorem dX6_leastRoom_42 : decode cX6_leastRoom 42 = .ok (.sipush 401, 3) := by decide +kernel
theorem dX6_leastRoom_45 : decode cX6_leastRoom 45 = .ok (.iaload, 1) := by decide +kernel
theorem dX6_leastRoom_46 : decode cX6_leastRoom 46 = .ok (.invokestatic 80, 3) := by decide +kernel
theorem dX6_leastRoom_49 : decode cX6_leastRoom 49 = .ok (.istore_n 2, 1) := by decide +kernel
theorem dX6_leastRoom_50 : decode cX6_leastRoom 50 = .ok (.aload_n 0, 1) := by decide +kernel
theorem dX6_leastRoom_51 : decode cX6_leastRoom 51 = .ok (.iconst 0, 1) := by decide +kernel
theorem dX6_leastRoom_52 : decode cX6_leastRoom 52 = .ok (.iload_n 1, 1) := by decide +kernel
theorem dX6_leastRoom_53 : decode cX6_leastRoom 53 = .ok (.invokevirtual 264, 3) := by decide +kernel
theorem dX6_leastRoom_56 : decode cX6_leastRoom 56 = .ok (.ifCond .eq 5, 3) := by decide +kernel
theorem dX6_leastRoom_59 : decode cX6_leastRoom 59 = .ok (.iconst 0, 1) := by decide +kernel
theorem dX6_leastRoom_60 : decode cX6_leastRoom 60 = .ok (.ireturn, 1) := by decide +kernel
theorem dX6_leastRoom_61 : decode cX6_leastRoom 61 = .ok (.iload_n 2, 1) := by decide +kernel
theorem dX6_leastRoom_62 : decode cX6_leastRoom 62 = .ok (.sipush 4000, 3) := by decide +kernel
theorem dX6_leastRoom_65 : decode cX6_leastRoom 65 = .ok (.if_icmp .gt 16, 3) := by decide +kernel
theorem dX6_leastRoom_68 : decode cX6_leastRoom 68 = .ok (.aload_n 0, 1) := by decide +kernel
theorem dX6_leastRoom_69 : decode cX6_leastRoom 69 = .ok (.iload_n 2, 1) := by decide +kernel
theorem dX6_leastRoom_70 : decode cX6_leastRoom 70 = .ok (.iload_n 1, 1) := by decide +kernel
theorem dX6_leastRoom_71 : decode cX6_leastRoom 71 = .ok (.invokevirtual 264, 3) := by decide +kernel
theorem dX6_leastRoom_74 : decode cX6_leastRoom 74 = .ok (.ifCond .eq 7, 3) := by decide +kernel
theorem dX6_leastRoom_77 : decode cX6_leastRoom 77 = .ok (.iload_n 2, 1) := by decide +kernel
theorem dX6_leastRoom_78 : decode cX6_leastRoom 78 = .ok (.goto 4, 3) := by decide +kernel
theorem dX6_leastRoom_81 : decode cX6_leastRoom 81 = .ok (.iconst (-1), 1) := by decide +kernel
theorem dX6_leastRoom_82 : decode cX6_leastRoom 82 = .ok (.ireturn, 1) := by decide +kernel
def PJ_M_leastRoom_18 (x1 : Int32) (y1 : Int32) (u0 : Int32) (v0 : MT) (Q : Int32 → MT → Prop) : Prop := P_M_refused u0 v0 (fun r6_ v10_ => (((r6_ = 0 → vp_in 400 621 ∧ (vp_in 401 621 ∧ (P_M_sizes ((M_now v10_) (Int32.toNatClampNeg 400)) ((M_now v10_) (Int32.toNatClampNeg 401)) (M_now v10_) (fun r17_ => (P_M_keepsAll 0 y1 v10_ (fun r21_ v25_ => (((r21_ = 0 → ((4000 < r17_ → Q (-1) v25_) ∧ (¬ 4000 < r17_ → P_M_keepsAll r17_ y1 v25_ (fun r31_ v35_ => (((r31_ = 0 → Q (-1) v35_) ∧ (¬ r31_ = 0 → Q r17_ v35_))))))) ∧ (¬ r21_ = 0 → Q 0 v25_))))))))) ∧ (¬ r6_ = 0 → Q 0 v10_))))
def P_M_leastRoom (x1 : Int32) (v0 : MT) (Q : Int32 → MT → Prop) : Prop := P_M_in (Int32.toInt64 x1) 1 200 (fun r1_ => (((r1_ = 0 → PJ_M_leastRoom_18 x1 x1 1 v0 Q) ∧ (¬ r1_ = 0 → PJ_M_leastRoom_18 x1 x1 0 v0 Q))))
set_option maxRecDepth 100000 in
theorem s_M_leastRoom {l : Launch} {D : zD} {B : Nat} {sa : Nat → Nat} (hfl : l.stackTraces = false) {z : Nat} {G : zG} {b0 : Nat} {x1 : Int32} {v0 : MT} {Q : Int32 → MT → Prop} (h0 : MA b0 v0 G) (h : P_M_leastRoom x1 v0 Q) : zSp l D B sa yX6_leastRoom cX6_leastRoom 3 (some .int) 7 154 0 0 [.ref b0, .int x1] z G (zRi fun r z' G' => z = z' ∧ ∃ w, MA b0 w G' ∧ Fr b0 8 G G' ∧ Q r w) := by
  unfold P_M_leastRoom at h
  refine z_ofW (by decide +kernel) hfl [some (.ref b0), some (.int x1), none] rfl (Nat.le_of_ble_eq_true rfl) (fun p e s m args below meth c O hret hlk hnm => ?_)
  have O : zO p l s m args c D B sa 3 cX6_leastRoom RX6 := O
  have HJ18 : ∀ (y1 : Int32) (u0 : Int32) (v0 : MT) (G9 : zG) (g0 : MA b0 v0 G9) (gF : Fr b0 8 G G9), PJ_M_leastRoom_18 x1 y1 u0 v0 Q → zT p l e (zrm 7 154 0 0) s m args below meth c (zEnd below D B (zRi fun r z' G' => z = z' ∧ ∃ w, MA b0 w G' ∧ Fr b0 8 G G' ∧ Q r w) args s 0 0) D B 3 0 0 18 [.int u0, .ref b0] [some (.ref b0), some (.int y1), none] z G9 := by
    intro y1 u0 v0 G9 g0 gF h
    unfold PJ_M_leastRoom_18 at h
    refine z_callVi (As := [.int u0]) (st := []) O (s_M_refused hfl g0 h) wy_X6_refused wl_RX6_136 dX6_leastRoom_18 rfl rfl (M_obj g0) ⟨by decide, rfl⟩ ⟨Nat.le_of_ble_eq_true rfl, Nat.le_of_ble_eq_true rfl⟩ (Nat.le_of_ble_eq_true rfl) ⟨Nat.le_of_ble_eq_true rfl, Nat.le_of_ble_eq_true rfl⟩ (fun r6_ z7_ G8_ hq9_ => ?_)
    obtain ⟨rfl, v10_, k11_, f12_, h⟩ := hq9_
    have F13_ : Fr b0 8 G G8_ := Fr.trans gF f12_
    refine z_if_eq (tgt := 26) O dX6_leastRoom_21 (by decide) (fun c14_ => ?_) (fun c14_ => ?_)
    · have h := h.1 c14_
      refine z_aload_n O dX6_leastRoom_26 rfl rfl ?_
      refine z_get (v := .ref (b0 + 1)) O wf_RX6_7 dX6_leastRoom_27 (M_obj k11_) rfl ?_
      refine z_aload_n O dX6_leastRoom_30 rfl rfl ?_
      refine z_get (v := .ref (b0 + 1)) O wf_RX6_7 dX6_leastRoom_31 (M_obj k11_) rfl ?_
      refine z_sipush (v := 400) O dX6_leastRoom_34 (by decide) ?_
      obtain ⟨q15_, h⟩ := h
      refine z_iald O dX6_leastRoom_37 (M_now_of k11_) q15_ ?_
      refine z_aload_n O dX6_leastRoom_38 rfl rfl ?_
      refine z_get (v := .ref (b0 + 1)) O wf_RX6_7 dX6_leastRoom_39 (M_obj k11_) rfl ?_
      refine z_sipush (v := 401) O dX6_leastRoom_42 (by decide) ?_
      obtain ⟨q16_, h⟩ := h
      refine z_iald O dX6_leastRoom_45 (M_now_of k11_) q16_ ?_
      refine z_callSi (As := [.ref (b0 + 1), .int ((M_now v10_) (Int32.toNatClampNeg 400)), .int ((M_now v10_) (Int32.toNatClampNeg 401))]) (st := []) O (s_M_sizes hfl (M_now_of k11_) h) wy_X6_sizes wl_RX6_80 dX6_leastRoom_46 rfl rfl ⟨Nat.le_of_ble_eq_true rfl, Nat.le_of_ble_eq_true rfl⟩ (Nat.le_of_ble_eq_true rfl) ⟨Nat.le_of_ble_eq_true rfl, Nat.le_of_ble_eq_true rfl⟩ (fun r17_ z18_ G19_ hq20_ => ?_)
      obtain ⟨rfl, rfl, h⟩ := hq20_
      refine z_istore_n (L' := [some (.ref b0), some (.int y1), some (.int r17_)]) O dX6_leastRoom_49 rfl (by decide) rfl ?_
      refine z_aload_n O dX6_leastRoom_50 rfl rfl ?_
      refine z_iconst (v := 0) O dX6_leastRoom_51 (by decide) ?_
      refine z_iload_n O dX6_leastRoom_52 rfl rfl ?_
      refine z_callVi (As := [.int 0, .int y1]) (st := []) O (s_M_keepsAll hfl k11_ h) wy_X6_keepsAll wl_RX6_264 dX6_leastRoom_53 rfl rfl (M_obj k11_) ⟨by decide, rfl⟩ ⟨Nat.le_of_ble_eq_true rfl, Nat.le_of_ble_eq_true rfl⟩ (Nat.le_of_ble_eq_true rfl) ⟨Nat.le_of_ble_eq_true rfl, Nat.le_of_ble_eq_true rfl⟩ (fun r21_ z22_ G23_ hq24_ => ?_)
      obtain ⟨rfl, v25_, k26_, f27_, h⟩ := hq24_
      have F28_ : Fr b0 8 G G23_ := Fr.trans F13_ f27_
      refine z_if_eq (tgt := 61) O dX6_leastRoom_56 (by decide) (fun c29_ => ?_) (fun c29_ => ?_)
      · have h := h.1 c29_
        refine z_iload_n O dX6_leastRoom_61 rfl rfl ?_
        refine z_sipush (v := 4000) O dX6_leastRoom_62 (by decide) ?_
        refine z_icmp_gt (tgt := 81) O dX6_leastRoom_65 (by decide) (fun c30_ => ?_) (fun c30_ => ?_)
        · have h := h.1 c30_
          refine z_iconst (v := (-1)) O dX6_leastRoom_81 (by decide) ?_
          exact z_iret O hret hlk dX6_leastRoom_82 (Nat.le_of_ble_eq_true rfl) (Nat.le_of_ble_eq_true rfl) ⟨_, rfl, rfl, _, k26_, F28_, h⟩
        · have h := h.2 c30_
          refine z_aload_n O dX6_leastRoom_68 rfl rfl ?_
          refine z_iload_n O dX6_leastRoom_69 rfl rfl ?_
          refine z_iload_n O dX6_leastRoom_70 rfl rfl ?_
          refine z_callVi (As := [.int r17_, .int y1]) (st := []) O (s_M_keepsAll hfl k26_ h) wy_X6_keepsAll wl_RX6_264 dX6_leastRoom_71 rfl rfl (M_obj k26_) ⟨by decide, rfl⟩ ⟨Nat.le_of_ble_eq_true rfl, Nat.le_of_ble_eq_true rfl⟩ (Nat.le_of_ble_eq_true rfl) ⟨Nat.le_of_ble_eq_true rfl, Nat.le_of_ble_eq_true rfl⟩ (fun r31_ z32_ G33_ hq34_ => ?_)
          obtain ⟨rfl, v35_, k36_, f37_, h⟩ := hq34_
          have F38_ : Fr b0 8 G G33_ := Fr.trans F28_ f37_
          refine z_if_eq (tgt := 81) O dX6_leastRoom_74 (by decide) (fun c39_ => ?_) (fun c39_ => ?_)
          · have h := h.1 c39_
            refine z_iconst (v := (-1)) O dX6_leastRoom_81 (by decide) ?_
            exact z_iret O hret hlk dX6_leastRoom_82 (Nat.le_of_ble_eq_true rfl) (Nat.le_of_ble_eq_true rfl) ⟨_, rfl, rfl, _, k36_, F38_, h⟩
          · have h := h.2 c39_
            refine z_iload_n O dX6_leastRoom_77 rfl rfl ?_
            refine z_goto (tgt := 82) O dX6_leastRoom_78 (by decide) ?_
            exact z_iret O hret hlk dX6_leastRoom_82 (Nat.le_of_ble_eq_true rfl) (Nat.le_of_ble_eq_true rfl) ⟨_, rfl, rfl, _, k36_, F38_, h⟩
      · have h := h.2 c29_
        refine z_iconst (v := 0) O dX6_leastRoom_59 (by decide) ?_
        exact z_iret O hret hlk dX6_leastRoom_60 (Nat.le_of_ble_eq_true rfl) (Nat.le_of_ble_eq_true rfl) ⟨_, rfl, rfl, _, k26_, F28_, h⟩
    · have h := h.2 c14_
      refine z_iconst (v := 0) O dX6_leastRoom_24 (by decide) ?_
      exact z_iret O hret hlk dX6_leastRoom_25 (Nat.le_of_ble_eq_true rfl) (Nat.le_of_ble_eq_true rfl) ⟨_, rfl, rfl, _, k11_, F13_, h⟩
  refine z_aload_n O dX6_leastRoom_0 rfl rfl ?_
  refine z_iload_n O dX6_leastRoom_1 rfl rfl ?_
  refine z_i2l O dX6_leastRoom_2 ?_
  refine z_lconst (v := 1) O dX6_leastRoom_3 (by decide) ?_
  refine z_ldc2 (v := 200) O wc_RX6_58 dX6_leastRoom_4 ?_
  refine z_callSi (As := [.long (Int32.toInt64 x1), .long 1, .long 200]) (st := [.ref b0]) O (s_M_in hfl h) wy_X6_in wl_RX6_44 dX6_leastRoom_7 rfl rfl ⟨Nat.le_of_ble_eq_true rfl, Nat.le_of_ble_eq_true rfl⟩ (Nat.le_of_ble_eq_true rfl) ⟨Nat.le_of_ble_eq_true rfl, Nat.le_of_ble_eq_true rfl⟩ (fun r1_ z2_ G3_ hq4_ => ?_)
  obtain ⟨rfl, rfl, h⟩ := hq4_
  refine z_if_eq (tgt := 17) O dX6_leastRoom_10 (by decide) (fun c5_ => ?_) (fun c5_ => ?_)
  · have h := h.1 c5_
    refine z_iconst (v := 1) O dX6_leastRoom_17 (by decide) ?_
    exact z_subL (L' := [some (.ref b0), some (.int x1), none]) (zLe.sub (And.intro rfl (And.intro rfl True.intro))) (HJ18 x1 1 v0 G h0 Fr.rf h)
  · have h := h.2 c5_
    refine z_iconst (v := 0) O dX6_leastRoom_13 (by decide) ?_
    refine z_goto (tgt := 18) O dX6_leastRoom_14 (by decide) ?_
    exact z_subL (L' := [some (.ref b0), some (.int x1), none]) (zLe.sub (And.intro rfl (And.intro rfl True.intro))) (HJ18 x1 0 v0 G h0 Fr.rf h)

theorem dX6_runWrite_0 : decode cX6_runWrite 0 = .ok (.iload_n 1, 1) := by decide +kernel
theorem dX6_runWrite_1 : decode cX6_runWrite 1 = .ok (.iload_n 2, 1) := by decide +kernel
theorem dX6_runWrite_2 : decode cX6_runWrite 2 = .ok (.iload_n 3, 1) := by decide +kernel
theorem dX6_runWrite_3 : decode cX6_runWrite 3 = .ok (.invokestatic 250, 3) := by decide +kernel
theorem dX6_runWrite_6 : decode cX6_runWrite 6 = .ok (.ifCond .eq 34, 3) := by decide +kernel
theorem dX6_runWrite_9 : decode cX6_runWrite 9 = .ok (.aload_n 0, 1) := by decide +kernel
theorem dX6_runWrite_10 : decode cX6_runWrite 10 = .ok (.getfield 13, 3) := by decide +kernel
theorem dX6_runWrite_13 : decode cX6_runWrite 13 = .ok (.sipush 401, 3) := by decide +kernel
theorem dX6_runWrite_16 : decode cX6_runWrite 16 = .ok (.iaload, 1) := by decide +kernel
theorem dX6_runWrite_17 : decode cX6_runWrite 17 = .ok (.sipush 200, 3) := by decide +kernel
theorem dX6_runWrite_20 : decode cX6_runWrite 20 = .ok (.if_icmp .ge 20, 3) := by decide +kernel
theorem dX6_runWrite_23 : decode cX6_runWrite 23 = .ok (.aload_n 0, 1) := by decide +kernel
theorem dX6_runWrite_24 : decode cX6_runWrite 24 = .ok (.getfield 13, 3) := by decide +kernel
theorem dX6_runWrite_27 : decode cX6_runWrite 27 = .ok (.iload_n 1, 1) := by decide +kernel
theorem dX6_runWrite_28 : decode cX6_runWrite 28 = .ok (.iload_n 2, 1) := by decide +kernel
theorem dX6_runWrite_29 : decode cX6_runWrite 29 = .ok (.iload_n 3, 1) := by decide +kernel
theorem dX6_runWrite_30 : decode cX6_runWrite 30 = .ok (.invokestatic 168, 3) := by decide +kernel
theorem dX6_runWrite_33 : decode cX6_runWrite 33 = .ok (.ifCond .lt 7, 3) := by decide +kernel
theorem dX6_runWrite_36 : decode cX6_runWrite 36 = .ok (.iconst 1, 1) := by decide +kernel
theorem dX6_runWrite_37 : decode cX6_runWrite 37 = .ok (.goto 4, 3) := by decide +kernel
theorem dX6_runWrite_40 : decode cX6_runWrite 40 = .ok (.iconst 0, 1) := by decide +kernel
theorem dX6_runWrite_41 : decode cX6_runWrite 41 = .ok (.ireturn, 1) := by decide +kernel
def P_M_runWrite (x1 : Int32) (x2 : Int32) (x3 : Int32) (v0 : MT) (Q : Int32 → MT → Prop) : Prop := P_M_isRow x1 x2 x3 (fun r1_ => (((r1_ = 0 → Q 0 v0) ∧ (¬ r1_ = 0 → vp_in 401 621 ∧ (((200 ≤ ((M_trial v0) (Int32.toNatClampNeg 401)) → Q 0 v0) ∧ (¬ 200 ≤ ((M_trial v0) (Int32.toNatClampNeg 401)) → P_M_goWrite x1 x2 x3 (M_trial v0) (fun r8_ v12_ => (∀ v17_, v17_ = (M_set_trial v0 v12_) → (((r8_ < 0 → Q 0 v17_) ∧ (¬ r8_ < 0 → Q 1 v17_))))))))))))
set_option maxRecDepth 100000 in
theorem s_M_runWrite {l : Launch} {D : zD} {B : Nat} {sa : Nat → Nat} (hfl : l.stackTraces = false) {z : Nat} {G : zG} {b0 : Nat} {x1 : Int32} {x2 : Int32} {x3 : Int32} {v0 : MT} {Q : Int32 → MT → Prop} (h0 : MA b0 v0 G) (h : P_M_runWrite x1 x2 x3 v0 Q) : zSp l D B sa yX6_runWrite cX6_runWrite 4 (some .boolean) 3 71 0 0 [.ref b0, .int x1, .int x2, .int x3] z G (zRi fun r z' G' => z = z' ∧ ∃ w, MA b0 w G' ∧ Fr b0 8 G G' ∧ Q r w) := by
  unfold P_M_runWrite at h
  refine z_ofW (by decide +kernel) hfl [some (.ref b0), some (.int x1), some (.int x2), some (.int x3)] rfl (Nat.le_of_ble_eq_true rfl) (fun p e s m args below meth c O hret hlk hnm => ?_)
  have O : zO p l s m args c D B sa 4 cX6_runWrite RX6 := O
  refine z_iload_n O dX6_runWrite_0 rfl rfl ?_
  refine z_iload_n O dX6_runWrite_1 rfl rfl ?_
  refine z_iload_n O dX6_runWrite_2 rfl rfl ?_
  refine z_callSi (As := [.int x1, .int x2, .int x3]) (st := []) O (s_M_isRow hfl h) wy_X6_isRow wl_RX6_250 dX6_runWrite_3 rfl rfl ⟨Nat.le_of_ble_eq_true rfl, Nat.le_of_ble_eq_true rfl⟩ (Nat.le_of_ble_eq_true rfl) ⟨Nat.le_of_ble_eq_true rfl, Nat.le_of_ble_eq_true rfl⟩ (fun r1_ z2_ G3_ hq4_ => ?_)
  obtain ⟨rfl, rfl, h⟩ := hq4_
  refine z_if_eq (tgt := 40) O dX6_runWrite_6 (by decide) (fun c5_ => ?_) (fun c5_ => ?_)
  · have h := h.1 c5_
    refine z_iconst (v := 0) O dX6_runWrite_40 (by decide) ?_
    exact z_zret O hret rfl hlk dX6_runWrite_41 (Nat.le_of_ble_eq_true rfl) (Nat.le_of_ble_eq_true rfl) ⟨_, rfl, rfl, _, h0, Fr.rf, h⟩
  · have h := h.2 c5_
    refine z_aload_n O dX6_runWrite_9 rfl rfl ?_
    refine z_get (v := .ref (b0 + 2)) O wf_RX6_13 dX6_runWrite_10 (M_obj h0) rfl ?_
    refine z_sipush (v := 401) O dX6_runWrite_13 (by decide) ?_
    obtain ⟨q6_, h⟩ := h
    refine z_iald O dX6_runWrite_16 (M_trial_of h0) q6_ ?_
    refine z_sipush (v := 200) O dX6_runWrite_17 (by decide) ?_
    refine z_icmp_ge (tgt := 40) O dX6_runWrite_20 (by decide) (fun c7_ => ?_) (fun c7_ => ?_)
    · have h := h.1 c7_
      refine z_iconst (v := 0) O dX6_runWrite_40 (by decide) ?_
      exact z_zret O hret rfl hlk dX6_runWrite_41 (Nat.le_of_ble_eq_true rfl) (Nat.le_of_ble_eq_true rfl) ⟨_, rfl, rfl, _, h0, Fr.rf, h⟩
    · have h := h.2 c7_
      refine z_aload_n O dX6_runWrite_23 rfl rfl ?_
      refine z_get (v := .ref (b0 + 2)) O wf_RX6_13 dX6_runWrite_24 (M_obj h0) rfl ?_
      refine z_iload_n O dX6_runWrite_27 rfl rfl ?_
      refine z_iload_n O dX6_runWrite_28 rfl rfl ?_
      refine z_iload_n O dX6_runWrite_29 rfl rfl ?_
      refine z_callSi (As := [.ref (b0 + 2), .int x1, .int x2, .int x3]) (st := []) O (s_M_goWrite hfl (M_trial_of h0) h) wy_X6_goWrite wl_RX6_168 dX6_runWrite_30 rfl rfl ⟨Nat.le_of_ble_eq_true rfl, Nat.le_of_ble_eq_true rfl⟩ (Nat.le_of_ble_eq_true rfl) ⟨Nat.le_of_ble_eq_true rfl, Nat.le_of_ble_eq_true rfl⟩ (fun r8_ z9_ G10_ hq11_ => ?_)
      obtain ⟨rfl, v12_, k13_, f14_, h⟩ := hq11_
      have k15_ := M_put_trial h0 k13_ f14_
      have f16_ : Fr b0 8 G G10_ := Fr.mono f14_ (by omega) (by omega)
      obtain ⟨v17_, ev17_⟩ : ∃ w, w = (M_set_trial v0 v12_) := ⟨_, rfl⟩
      have h := h v17_ ev17_
      have k18_ : MA b0 v17_ G10_ := by rw [ev17_]; exact k15_
      have F19_ : Fr b0 8 G G10_ := Fr.trans Fr.rf f16_
      refine z_if_lt (tgt := 40) O dX6_runWrite_33 (by decide) (fun c20_ => ?_) (fun c20_ => ?_)
      · have h := h.1 c20_
        refine z_iconst (v := 0) O dX6_runWrite_40 (by decide) ?_
        exact z_zret O hret rfl hlk dX6_runWrite_41 (Nat.le_of_ble_eq_true rfl) (Nat.le_of_ble_eq_true rfl) ⟨_, rfl, rfl, _, k18_, F19_, h⟩
      · have h := h.2 c20_
        refine z_iconst (v := 1) O dX6_runWrite_36 (by decide) ?_
        refine z_goto (tgt := 41) O dX6_runWrite_37 (by decide) ?_
        exact z_zret O hret rfl hlk dX6_runWrite_41 (Nat.le_of_ble_eq_true rfl) (Nat.le_of_ble_eq_true rfl) ⟨_, rfl, rfl, _, k18_, F19_, h⟩
