theorem dX6_goHold_0 : decode cX6_goHold 0 = .ok (.iload_n 1, 1) := by decide +kernel
theorem dX6_goHold_1 : decode cX6_goHold 1 = .ok (.invokestatic 65, 3) := by decide +kernel
theorem dX6_goHold_4 : decode cX6_goHold 4 = .ok (.istore_n 3, 1) := by decide +kernel
theorem dX6_goHold_5 : decode cX6_goHold 5 = .ok (.aload_n 0, 1) := by decide +kernel
theorem dX6_goHold_6 : decode cX6_goHold 6 = .ok (.iload_n 3, 1) := by decide +kernel
theorem dX6_goHold_7 : decode cX6_goHold 7 = .ok (.iconst 2, 1) := by decide +kernel
theorem dX6_goHold_8 : decode cX6_goHold 8 = .ok (.iadd, 1) := by decide +kernel
theorem dX6_goHold_9 : decode cX6_goHold 9 = .ok (.iaload, 1) := by decide +kernel
theorem dX6_goHold_10 : decode cX6_goHold 10 = .ok (.istore 4, 2) := by decide +kernel
theorem dX6_goHold_12 : decode cX6_goHold 12 = .ok (.aload_n 0, 1) := by decide +kernel
theorem dX6_goHold_13 : decode cX6_goHold 13 = .ok (.iload_n 3, 1) := by decide +kernel
theorem dX6_goHold_14 : decode cX6_goHold 14 = .ok (.iconst 2, 1) := by decide +kernel
theorem dX6_goHold_15 : decode cX6_goHold 15 = .ok (.iadd, 1) := by decide +kernel
theorem dX6_goHold_16 : decode cX6_goHold 16 = .ok (.iload_n 2, 1) := by decide +kernel
theorem dX6_goHold_17 : decode cX6_goHold 17 = .ok (.ifCond .eq 7, 3) := by decide +kernel
theorem dX6_goHold_20 : decode cX6_goHold 20 = .ok (.iconst 1, 1) := by decide +kernel
theorem dX6_goHold_21 : decode cX6_goHold 21 = .ok (.goto 4, 3) := by decide +kernel
theorem dX6_goHold_24 : decode cX6_goHold 24 = .ok (.iconst 0, 1) := by decide +kernel
theorem dX6_goHold_25 : decode cX6_goHold 25 = .ok (.iastore, 1) := by decide +kernel
theorem dX6_goHold_26 : decode cX6_goHold 26 = .ok (.aload_n 0, 1) := by decide +kernel
theorem dX6_goHold_27 : decode cX6_goHold 27 = .ok (.iload_n 3, 1) := by decide +kernel
theorem dX6_goHold_28 : decode cX6_goHold 28 = .ok (.bipush 6, 2) := by decide +kernel
theorem dX6_goHold_30 : decode cX6_goHold 30 = .ok (.iadd, 1) := by decide +kernel
theorem dX6_goHold_31 : decode cX6_goHold 31 = .ok (.iconst 0, 1) := by decide +kernel
theorem dX6_goHold_32 : decode cX6_goHold 32 = .ok (.iastore, 1) := by decide +kernel
theorem dX6_goHold_33 : decode cX6_goHold 33 = .ok (.iload 4, 2) := by decide +kernel
theorem dX6_goHold_35 : decode cX6_goHold 35 = .ok (.ireturn, 1) := by decide +kernel
def PJ_M_goHold_25 (x1 : Int32) (x2 : Int32) (y3 : Int32) (y4 : Int32) (u0 : Int32) (u1 : Int32) (v0 : (Nat → Int32)) (Q : Int32 → (Nat → Int32) → Prop) : Prop := vp_in u1 621 ∧ (∀ v12_, v12_ = (upd v0 (Int32.toNatClampNeg u1) u0) → (vp_in (y3 + 6) 621 ∧ (∀ v20_, v20_ = (upd v12_ (Int32.toNatClampNeg (y3 + 6)) 0) → (Q y4 v20_))))
def P_M_goHold (x1 : Int32) (x2 : Int32) (v0 : (Nat → Int32)) (Q : Int32 → (Nat → Int32) → Prop) : Prop := P_M_reader x1 (fun r1_ => (vp_in (r1_ + 2) 621 ∧ (((x2 = 0 → PJ_M_goHold_25 x1 x2 r1_ (v0 (Int32.toNatClampNeg (r1_ + 2))) 0 (r1_ + 2) v0 Q) ∧ (¬ x2 = 0 → PJ_M_goHold_25 x1 x2 r1_ (v0 (Int32.toNatClampNeg (r1_ + 2))) 1 (r1_ + 2) v0 Q)))))
set_option maxRecDepth 100000 in
theorem s_M_goHold {l : Launch} {D : zD} {B : Nat} {sa : Nat → Nat} (hfl : l.stackTraces = false) {z : Nat} {G : zG} {b0 : Nat} {x1 : Int32} {x2 : Int32} {v0 : (Nat → Int32)} {Q : Int32 → (Nat → Int32) → Prop} (h0 : G b0 = some (zia 621 v0)) (h : P_M_goHold x1 x2 v0 Q) : zSp l D B sa yX6_goHold cX6_goHold 5 (some .int) 1 20 0 0 [.ref b0, .int x1, .int x2] z G (zRi fun r z' G' => z = z' ∧ ∃ w, G' b0 = some (zia 621 w) ∧ Fr b0 1 G G' ∧ Q r w) := by
  unfold P_M_goHold at h
  refine z_ofW (by decide +kernel) hfl [some (.ref b0), some (.int x1), some (.int x2), none, none] rfl (Nat.le_of_ble_eq_true rfl) (fun p e s m args below meth c O hret hlk hnm => ?_)
  have O : zO p l s m args c D B sa 5 cX6_goHold RX6 := O
  have HJ25 : ∀ (y3 : Int32) (y4 : Int32) (u0 : Int32) (u1 : Int32) (v0 : (Nat → Int32)) (G9 : zG) (g0 : G9 b0 = some (zia 621 v0)) (gF : Fr b0 1 G G9), PJ_M_goHold_25 x1 x2 y3 y4 u0 u1 v0 Q → zT p l e (zrm 1 20 0 0) s m args below meth c (zEnd below D B (zRi fun r z' G' => z = z' ∧ ∃ w, G' b0 = some (zia 621 w) ∧ Fr b0 1 G G' ∧ Q r w) args s 0 0) D B 5 0 0 25 [.int u0, .int u1, .ref b0] [some (.ref b0), none, none, some (.int y3), some (.int y4)] z G9 := by
    intro y3 y4 u0 u1 v0 G9 g0 gF h
    unfold PJ_M_goHold_25 at h
    obtain ⟨q7_, h⟩ := h
    refine y_iast O dX6_goHold_25 g0 q7_ (fun G8_ hw9_ => ?_)
    have k10_ := hw9_.1
    have f11_ := hw9_.fr
    obtain ⟨v12_, ev12_⟩ : ∃ w, w = (upd v0 (Int32.toNatClampNeg u1) u0) := ⟨_, rfl⟩
    have h := h v12_ ev12_
    have k13_ : G8_ b0 = some (zia 621 v12_) := by rw [ev12_]; exact k10_
    have F14_ : Fr b0 1 G G8_ := Fr.trans gF f11_
    refine z_aload_n O dX6_goHold_26 rfl rfl ?_
    refine z_iload_n O dX6_goHold_27 rfl rfl ?_
    refine z_bipush (v := 6) O dX6_goHold_28 (by decide) ?_
    refine z_iadd O dX6_goHold_30 ?_
    refine z_iconst (v := 0) O dX6_goHold_31 (by decide) ?_
    obtain ⟨q15_, h⟩ := h
    refine y_iast O dX6_goHold_32 k13_ q15_ (fun G16_ hw17_ => ?_)
    have k18_ := hw17_.1
    have f19_ := hw17_.fr
    obtain ⟨v20_, ev20_⟩ : ∃ w, w = (upd v12_ (Int32.toNatClampNeg (y3 + 6)) 0) := ⟨_, rfl⟩
    have h := h v20_ ev20_
    have k21_ : G16_ b0 = some (zia 621 v20_) := by rw [ev20_]; exact k18_
    have F22_ : Fr b0 1 G G16_ := Fr.trans F14_ f19_
    refine z_iload O dX6_goHold_33 rfl ?_
    exact z_iret O hret hlk dX6_goHold_35 (Nat.le_of_ble_eq_true rfl) (Nat.le_of_ble_eq_true rfl) ⟨_, rfl, rfl, _, k21_, F22_, h⟩
  refine z_iload_n O dX6_goHold_0 rfl rfl ?_
  refine z_callSi (As := [.int x1]) (st := []) O (s_M_reader hfl h) wy_X6_reader wl_RX6_65 dX6_goHold_1 rfl rfl ⟨Nat.le_of_ble_eq_true rfl, Nat.le_of_ble_eq_true rfl⟩ (Nat.le_of_ble_eq_true rfl) ⟨Nat.le_of_ble_eq_true rfl, Nat.le_of_ble_eq_true rfl⟩ (fun r1_ z2_ G3_ hq4_ => ?_)
  obtain ⟨rfl, rfl, h⟩ := hq4_
  refine z_istore_n (L' := [some (.ref b0), some (.int x1), some (.int x2), some (.int r1_), none]) O dX6_goHold_4 rfl (by decide) rfl ?_
  refine z_aload_n O dX6_goHold_5 rfl rfl ?_
  refine z_iload_n O dX6_goHold_6 rfl rfl ?_
  refine z_iconst (v := 2) O dX6_goHold_7 (by decide) ?_
  refine z_iadd O dX6_goHold_8 ?_
  obtain ⟨q5_, h⟩ := h
  refine z_iald O dX6_goHold_9 h0 q5_ ?_
  refine z_istore (L' := [some (.ref b0), some (.int x1), some (.int x2), some (.int r1_), some (.int (v0 (Int32.toNatClampNeg (r1_ + 2))))]) O dX6_goHold_10 (by decide) rfl ?_
  refine z_aload_n O dX6_goHold_12 rfl rfl ?_
  refine z_iload_n O dX6_goHold_13 rfl rfl ?_
  refine z_iconst (v := 2) O dX6_goHold_14 (by decide) ?_
  refine z_iadd O dX6_goHold_15 ?_
  refine z_iload_n O dX6_goHold_16 rfl rfl ?_
  refine z_if_eq (tgt := 24) O dX6_goHold_17 (by decide) (fun c6_ => ?_) (fun c6_ => ?_)
  · have h := h.1 c6_
    refine z_iconst (v := 0) O dX6_goHold_24 (by decide) ?_
    exact z_subL (L' := [some (.ref b0), none, none, some (.int r1_), some (.int (v0 (Int32.toNatClampNeg (r1_ + 2))))]) (zLe.sub (And.intro rfl (And.intro rfl (And.intro rfl True.intro)))) (HJ25 r1_ (v0 (Int32.toNatClampNeg (r1_ + 2))) 0 (r1_ + 2) v0 G h0 Fr.rf h)
  · have h := h.2 c6_
    refine z_iconst (v := 1) O dX6_goHold_20 (by decide) ?_
    refine z_goto (tgt := 25) O dX6_goHold_21 (by decide) ?_
    exact z_subL (L' := [some (.ref b0), none, none, some (.int r1_), some (.int (v0 (Int32.toNatClampNeg (r1_ + 2))))]) (zLe.sub (And.intro rfl (And.intro rfl (And.intro rfl True.intro)))) (HJ25 r1_ (v0 (Int32.toNatClampNeg (r1_ + 2))) 1 (r1_ + 2) v0 G h0 Fr.rf h)

theorem dX6_put_0 : decode cX6_put 0 = .ok (.aload_n 0, 1) := by decide +kernel
theorem dX6_put_1 : decode cX6_put 1 = .ok (.sipush 610, 3) := by decide +kernel
theorem dX6_put_4 : decode cX6_put 4 = .ok (.iload_n 1, 1) := by decide +kernel
theorem dX6_put_5 : decode cX6_put 5 = .ok (.iadd, 1) := by decide +kernel
theorem dX6_put_6 : decode cX6_put 6 = .ok (.iaload, 1) := by decide +kernel
theorem dX6_put_7 : decode cX6_put 7 = .ok (.istore_n 3, 1) := by decide +kernel
theorem dX6_put_8 : decode cX6_put 8 = .ok (.aload_n 0, 1) := by decide +kernel
theorem dX6_put_9 : decode cX6_put 9 = .ok (.sipush 610, 3) := by decide +kernel
theorem dX6_put_12 : decode cX6_put 12 = .ok (.iload_n 1, 1) := by decide +kernel
theorem dX6_put_13 : decode cX6_put 13 = .ok (.iadd, 1) := by decide +kernel
theorem dX6_put_14 : decode cX6_put 14 = .ok (.iload_n 2, 1) := by decide +kernel
theorem dX6_put_15 : decode cX6_put 15 = .ok (.iastore, 1) := by decide +kernel
theorem dX6_put_16 : decode cX6_put 16 = .ok (.iload_n 3, 1) := by decide +kernel
theorem dX6_put_17 : decode cX6_put 17 = .ok (.ireturn, 1) := by decide +kernel
def P_M_put (x1 : Int32) (x2 : Int32) (v0 : (Nat → Int32)) (Q : Int32 → (Nat → Int32) → Prop) : Prop := vp_in (610 + x1) 621 ∧ (vp_in (610 + x1) 621 ∧ (∀ v7_, v7_ = (upd v0 (Int32.toNatClampNeg (610 + x1)) x2) → (Q (v0 (Int32.toNatClampNeg (610 + x1))) v7_)))
set_option maxRecDepth 100000 in
theorem s_M_put {l : Launch} {D : zD} {B : Nat} {sa : Nat → Nat} (hfl : l.stackTraces = false) {z : Nat} {G : zG} {b0 : Nat} {x1 : Int32} {x2 : Int32} {v0 : (Nat → Int32)} {Q : Int32 → (Nat → Int32) → Prop} (h0 : G b0 = some (zia 621 v0)) (h : P_M_put x1 x2 v0 Q) : zSp l D B sa yX6_put cX6_put 4 (some .int) 0 0 0 0 [.ref b0, .int x1, .int x2] z G (zRi fun r z' G' => z = z' ∧ ∃ w, G' b0 = some (zia 621 w) ∧ Fr b0 1 G G' ∧ Q r w) := by
  unfold P_M_put at h
  refine z_ofW (by decide +kernel) hfl [some (.ref b0), some (.int x1), some (.int x2), none] rfl (Nat.le_of_ble_eq_true rfl) (fun p e s m args below meth c O hret hlk hnm => ?_)
  have O : zO p l s m args c D B sa 4 cX6_put RX6 := O
  refine z_aload_n O dX6_put_0 rfl rfl ?_
  refine z_sipush (v := 610) O dX6_put_1 (by decide) ?_
  refine z_iload_n O dX6_put_4 rfl rfl ?_
  refine z_iadd O dX6_put_5 ?_
  obtain ⟨q1_, h⟩ := h
  refine z_iald O dX6_put_6 h0 q1_ ?_
  refine z_istore_n (L' := [some (.ref b0), some (.int x1), some (.int x2), some (.int (v0 (Int32.toNatClampNeg (610 + x1))))]) O dX6_put_7 rfl (by decide) rfl ?_
  refine z_aload_n O dX6_put_8 rfl rfl ?_
  refine z_sipush (v := 610) O dX6_put_9 (by decide) ?_
  refine z_iload_n O dX6_put_12 rfl rfl ?_
  refine z_iadd O dX6_put_13 ?_
  refine z_iload_n O dX6_put_14 rfl rfl ?_
  obtain ⟨q2_, h⟩ := h
  refine y_iast O dX6_put_15 h0 q2_ (fun G3_ hw4_ => ?_)
  have k5_ := hw4_.1
  have f6_ := hw4_.fr
  obtain ⟨v7_, ev7_⟩ : ∃ w, w = (upd v0 (Int32.toNatClampNeg (610 + x1)) x2) := ⟨_, rfl⟩
  have h := h v7_ ev7_
  have k8_ : G3_ b0 = some (zia 621 v7_) := by rw [ev7_]; exact k5_
  have F9_ : Fr b0 1 G G3_ := Fr.trans Fr.rf f6_
  refine z_iload_n O dX6_put_16 rfl rfl ?_
  exact z_iret O hret hlk dX6_put_17 (Nat.le_of_ble_eq_true rfl) (Nat.le_of_ble_eq_true rfl) ⟨_, rfl, rfl, _, k8_, F9_, h⟩

theorem dX6_remember_0 : decode cX6_remember 0 = .ok (.aload_n 0, 1) := by decide +kernel
theorem dX6_remember_1 : decode cX6_remember 1 = .ok (.getfield 128, 3) := by decide +kernel
theorem dX6_remember_4 : decode cX6_remember 4 = .ok (.bipush 14, 2) := by decide +kernel
theorem dX6_remember_6 : decode cX6_remember 6 = .ok (.if_icmp .ne 44, 3) := by decide +kernel
theorem dX6_remember_9 : decode cX6_remember 9 = .ok (.iconst 0, 1) := by decide +kernel
theorem dX6_remember_10 : decode cX6_remember 10 = .ok (.istore_n 1, 1) := by decide +kernel
theorem dX6_remember_11 : decode cX6_remember 11 = .ok (.iload_n 1, 1) := by decide +kernel
theorem dX6_remember_12 : decode cX6_remember 12 = .ok (.sipush 8073, 3) := by decide +kernel
theorem dX6_remember_15 : decode cX6_remember 15 = .ok (.if_icmp .ge 25, 3) := by decide +kernel
theorem dX6_remember_18 : decode cX6_remember 18 = .ok (.aload_n 0, 1) := by decide +kernel
theorem dX6_remember_19 : decode cX6_remember 19 = .ok (.getfield 19, 3) := by decide +kernel
theorem dX6_remember_22 : decode cX6_remember 22 = .ok (.iload_n 1, 1) := by decide +kernel
theorem dX6_remember_23 : decode cX6_remember 23 = .ok (.aload_n 0, 1) := by decide +kernel
theorem dX6_remember_24 : decode cX6_remember 24 = .ok (.getfield 19, 3) := by decide +kernel
theorem dX6_remember_27 : decode cX6_remember 27 = .ok (.sipush 621, 3) := by decide +kernel
theorem dX6_remember_30 : decode cX6_remember 30 = .ok (.iload_n 1, 1) := by decide +kernel
theorem dX6_remember_31 : decode cX6_remember 31 = .ok (.iadd, 1) := by decide +kernel
theorem dX6_remember_32 : decode cX6_remember 32 = .ok (.iaload, 1) := by decide +kernel
theorem dX6_remember_33 : decode cX6_remember 33 = .ok (.iastore, 1) := by decide +kernel
theorem dX6_remember_34 : decode cX6_remember 34 = .ok (.iinc 1 1, 3) := by decide +kernel
theorem dX6_remember_37 : decode cX6_remember 37 = .ok (.goto (-26), 3) := by decide +kernel
theorem dX6_remember_40 : decode cX6_remember 40 = .ok (.aload_n 0, 1) := by decide +kernel
theorem dX6_remember_41 : decode cX6_remember 41 = .ok (.dup, 1) := by decide +kernel
theorem dX6_remember_42 : decode cX6_remember 42 = .ok (.getfield 128, 3) := by decide +kernel
theorem dX6_remember_45 : decode cX6_remember 45 = .ok (.iconst 1, 1) := by decide +kernel
theorem dX6_remember_46 : decode cX6_remember 46 = .ok (.isub, 1) := by decide +kernel
theorem dX6_remember_47 : decode cX6_remember 47 = .ok (.putfield 128, 3) := by decide +kernel
theorem dX6_remember_50 : decode cX6_remember 50 = .ok (.iconst 0, 1) := by decide +kernel
theorem dX6_remember_51 : decode cX6_remember 51 = .ok (.istore_n 1, 1) := by decide +kernel
theorem dX6_remember_52 : decode cX6_remember 52 = .ok (.iload_n 1, 1) := by decide +kernel
theorem dX6_remember_53 : decode cX6_remember 53 = .ok (.sipush 621, 3) := by decide +kernel
theorem dX6_remember_56 : decode cX6_remember 56 = .ok (.if_icmp .ge 30, 3) := by decide +kernel
theorem dX6_remember_59 : decode cX6_remember 59 = .ok (.aload_n 0, 1) := by decide +kernel
theorem dX6_remember_60 : decode cX6_remember 60 = .ok (.getfield 19, 3) := by decide +kernel
theorem dX6_remember_63 : decode cX6_remember 63 = .ok (.sipush 621, 3) := by decide +kernel
theorem dX6_remember_66 : decode cX6_remember 66 = .ok (.aload_n 0, 1) := by decide +kernel
theorem dX6_remember_67 : decode cX6_remember 67 = .ok (.getfield 128, 3) := by decide +kernel
theorem dX6_remember_70 : decode cX6_remember 70 = .ok (.imul, 1) := by decide +kernel
theorem dX6_remember_71 : decode cX6_remember 71 = .ok (.iload_n 1, 1) := by decide +kernel
theorem dX6_remember_72 : decode cX6_remember 72 = .ok (.iadd, 1) := by decide +kernel
theorem dX6_remember_73 : decode cX6_remember 73 = .ok (.aload_n 0, 1) := by decide +kernel
theorem dX6_remember_74 : decode cX6_remember 74 = .ok (.getfield 7, 3) := by decide +kernel
theorem dX6_remember_77 : decode cX6_remember 77 = .ok (.iload_n 1, 1) := by decide +kernel
theorem dX6_remember_78 : decode cX6_remember 78 = .ok (.iaload, 1) := by decide +kernel
theorem dX6_remember_79 : decode cX6_remember 79 = .ok (.iastore, 1) := by decide +kernel
theorem dX6_remember_80 : decode cX6_remember 80 = .ok (.iinc 1 1, 3) := by decide +kernel
theorem dX6_remember_83 : decode cX6_remember 83 = .ok (.goto (-31), 3) := by decide +kernel
theorem dX6_remember_86 : decode cX6_remember 86 = .ok (.aload_n 0, 1) := by decide +kernel
theorem dX6_remember_87 : decode cX6_remember 87 = .ok (.dup, 1) := by decide +kernel
theorem dX6_remember_88 : decode cX6_remember 88 = .ok (.getfield 128, 3) := by decide +kernel
theorem dX6_remember_91 : decode cX6_remember 91 = .ok (.iconst 1, 1) := by decide +kernel
theorem dX6_remember_92 : decode cX6_remember 92 = .ok (.iadd, 1) := by decide +kernel
theorem dX6_remember_93 : decode cX6_remember 93 = .ok (.putfield 128, 3) := by decide +kernel
theorem dX6_remember_96 : decode cX6_remember 96 = .ok (.return_, 1) := by decide +kernel
def PL_M_remember_52 : Nat → Int32 → MT → (MT → Prop) → Prop
  | 0, _, _, _ => False
  | n + 1, y1, v0, Q => ((621 ≤ y1 → ∀ v8_, v8_ = (M_set_states v0 ((M_states v0) + 1)) → (Q v8_)) ∧ (¬ 621 ≤ y1 → vp_in y1 621 ∧ (vp_in ((621 * (M_states v0)) + y1) 8694 ∧ (∀ v19_, v19_ = (M_set_book v0 (upd (M_book v0) (Int32.toNatClampNeg ((621 * (M_states v0)) + y1)) ((M_now v0) (Int32.toNatClampNeg y1)))) → ((fun y1 v0 => PL_M_remember_52 n  y1 v0  Q) (y1 + 1) v19_)))))
def PL_M_remember_11 : Nat → Int32 → MT → (MT → Prop) → Prop
  | 0, _, _, _ => False
  | n + 1, y1, v0, Q => ((8073 ≤ y1 → ∀ v29_, v29_ = (M_set_states v0 ((M_states v0) - 1)) → ((∃ n32_, PL_M_remember_52 n32_ 0 v29_ Q))) ∧ (¬ 8073 ≤ y1 → vp_in (621 + y1) 8694 ∧ (vp_in y1 8694 ∧ (∀ v41_, v41_ = (M_set_book v0 (upd (M_book v0) (Int32.toNatClampNeg y1) ((M_book v0) (Int32.toNatClampNeg (621 + y1))))) → ((fun y1 v0 => PL_M_remember_11 n  y1 v0  Q) (y1 + 1) v41_)))))
def P_M_remember (v0 : MT) (Q : MT → Prop) : Prop := ((¬ (M_states v0) = 14 → (∃ n22_, PL_M_remember_52 n22_ 0 v0 Q)) ∧ ((M_states v0) = 14 → (∃ n44_, PL_M_remember_11 n44_ 0 v0 Q)))
set_option maxRecDepth 100000 in
theorem s_M_remember {l : Launch} {D : zD} {B : Nat} {sa : Nat → Nat} (hfl : l.stackTraces = false) {z : Nat} {G : zG} {b0 : Nat} {v0 : MT} {Q : MT → Prop} (h0 : MA b0 v0 G) (h : P_M_remember v0 Q) : zSp l D B sa yX6_remember cX6_remember 2 none 0 0 0 0 [.ref b0] z G (zRv fun z' G' => z = z' ∧ ∃ w, MA b0 w G' ∧ Fr b0 8 G G' ∧ Q w) := by
  unfold P_M_remember at h
  refine z_ofW (by decide +kernel) hfl [some (.ref b0), none] rfl (Nat.le_of_ble_eq_true rfl) (fun p e s m args below meth c O hret hlk hnm => ?_)
  have O : zO p l s m args c D B sa 2 cX6_remember RX6 := O
  have HL52 : ∀ (n9 : Nat)    (y1 : Int32) (v0 : MT) (G9 : zG) (g0 : MA b0 v0 G9) (gF : Fr b0 8 G G9) (h : PL_M_remember_52 n9 y1 v0 Q), zT p l e (zrm 0 0 0 0) s m args below meth c (zEnd below D B (zRv fun z' G' => z = z' ∧ ∃ w, MA b0 w G' ∧ Fr b0 8 G G' ∧ Q w) args s 0 0) D B 2 0 0 52 [] [some (.ref b0), some (.int y1)] z G9 := by
    intro n9   
    induction n9 with
    | zero =>
      intro _ _ _ _ _ h
      exact (h : False).elim
    | succ n ih =>
      intro y1 v0 G9 g0 gF h
      rw [PL_M_remember_52] at h
      refine z_iload_n O dX6_remember_52 rfl rfl ?_
      refine z_sipush (v := 621) O dX6_remember_53 (by decide) ?_
      refine z_icmp_ge (tgt := 86) O dX6_remember_56 (by decide) (fun c2_ => ?_) (fun c2_ => ?_)
      · have h := h.1 c2_
        refine z_aload_n O dX6_remember_86 rfl rfl ?_
        refine z_dup O dX6_remember_87 rfl ?_
        refine z_get (v := .int (M_states v0)) O wf_RX6_128 dX6_remember_88 (M_obj g0) rfl ?_
        refine z_iconst (v := 1) O dX6_remember_91 (by decide) ?_
        refine z_iadd O dX6_remember_92 ?_
        refine y_put O wp_RX6_128 dX6_remember_93 (M_obj g0) rfl rfl (fun G3_ hw4_ => ?_)
        have k5_ := M_w_states g0 hw4_
        have f6_ := hw4_.fr
        have f7_ : Fr b0 8 G9 G3_ := Fr.mono f6_ (by omega) (by omega)
        obtain ⟨v8_, ev8_⟩ : ∃ w, w = (M_set_states v0 ((M_states v0) + 1)) := ⟨_, rfl⟩
        have h := h v8_ ev8_
        have k9_ : MA b0 v8_ G3_ := by rw [ev8_]; exact k5_
        have F10_ : Fr b0 8 G G3_ := Fr.trans gF f7_
        exact z_vret O hret hlk dX6_remember_96 (Nat.le_of_ble_eq_true rfl) (Nat.le_of_ble_eq_true rfl) ⟨rfl, rfl, _, k9_, F10_, h⟩
      · have h := h.2 c2_
        refine z_aload_n O dX6_remember_59 rfl rfl ?_
        refine z_get (v := .ref (b0 + 4)) O wf_RX6_19 dX6_remember_60 (M_obj g0) rfl ?_
        refine z_sipush (v := 621) O dX6_remember_63 (by decide) ?_
        refine z_aload_n O dX6_remember_66 rfl rfl ?_
        refine z_get (v := .int (M_states v0)) O wf_RX6_128 dX6_remember_67 (M_obj g0) rfl ?_
        refine z_imul O dX6_remember_70 ?_
        refine z_iload_n O dX6_remember_71 rfl rfl ?_
        refine z_iadd O dX6_remember_72 ?_
        refine z_aload_n O dX6_remember_73 rfl rfl ?_
        refine z_get (v := .ref (b0 + 1)) O wf_RX6_7 dX6_remember_74 (M_obj g0) rfl ?_
        refine z_iload_n O dX6_remember_77 rfl rfl ?_
        obtain ⟨q11_, h⟩ := h
        refine z_iald O dX6_remember_78 (M_now_of g0) q11_ ?_
        obtain ⟨q12_, h⟩ := h
        refine y_iast O dX6_remember_79 (M_book_of g0) q12_ (fun G13_ hw14_ => ?_)
        have k15_ := hw14_.1
        have f16_ := hw14_.fr
        have k17_ := M_put_book g0 k15_ f16_
        have f18_ : Fr b0 8 G9 G13_ := Fr.mono f16_ (by omega) (by omega)
        obtain ⟨v19_, ev19_⟩ : ∃ w, w = (M_set_book v0 (upd (M_book v0) (Int32.toNatClampNeg ((621 * (M_states v0)) + y1)) ((M_now v0) (Int32.toNatClampNeg y1)))) := ⟨_, rfl⟩
        have h := h v19_ ev19_
        have k20_ : MA b0 v19_ G13_ := by rw [ev19_]; exact k17_
        have F21_ : Fr b0 8 G G13_ := Fr.trans gF f18_
        refine z_iinc (v := (y1 + 1)) (L' := [some (.ref b0), some (.int (y1 + 1))]) O dX6_remember_80 rfl (by first | rfl | decide) (by decide) rfl ?_
        refine z_goto (tgt := 52) O dX6_remember_83 (by decide) ?_
        exact z_subL (L' := [some (.ref b0), some (.int (y1 + 1))]) (zLe.sub (And.intro rfl (And.intro rfl True.intro))) (ih (y1 + 1) v19_ G13_ k20_ F21_ h)
  have HL11 : ∀ (n9 : Nat)    (y1 : Int32) (v0 : MT) (G9 : zG) (g0 : MA b0 v0 G9) (gF : Fr b0 8 G G9) (h : PL_M_remember_11 n9 y1 v0 Q), zT p l e (zrm 0 0 0 0) s m args below meth c (zEnd below D B (zRv fun z' G' => z = z' ∧ ∃ w, MA b0 w G' ∧ Fr b0 8 G G' ∧ Q w) args s 0 0) D B 2 0 0 11 [] [some (.ref b0), some (.int y1)] z G9 := by
    intro n9   
    induction n9 with
    | zero =>
      intro _ _ _ _ _ h
      exact (h : False).elim
    | succ n ih =>
      intro y1 v0 G9 g0 gF h
      rw [PL_M_remember_11] at h
      refine z_iload_n O dX6_remember_11 rfl rfl ?_
      refine z_sipush (v := 8073) O dX6_remember_12 (by decide) ?_
      refine z_icmp_ge (tgt := 40) O dX6_remember_15 (by decide) (fun c23_ => ?_) (fun c23_ => ?_)
      · have h := h.1 c23_
        refine z_aload_n O dX6_remember_40 rfl rfl ?_
        refine z_dup O dX6_remember_41 rfl ?_
        refine z_get (v := .int (M_states v0)) O wf_RX6_128 dX6_remember_42 (M_obj g0) rfl ?_
        refine z_iconst (v := 1) O dX6_remember_45 (by decide) ?_
        refine z_isub O dX6_remember_46 ?_
        refine y_put O wp_RX6_128 dX6_remember_47 (M_obj g0) rfl rfl (fun G24_ hw25_ => ?_)
        have k26_ := M_w_states g0 hw25_
        have f27_ := hw25_.fr
        have f28_ : Fr b0 8 G9 G24_ := Fr.mono f27_ (by omega) (by omega)
        obtain ⟨v29_, ev29_⟩ : ∃ w, w = (M_set_states v0 ((M_states v0) - 1)) := ⟨_, rfl⟩
        have h := h v29_ ev29_
        have k30_ : MA b0 v29_ G24_ := by rw [ev29_]; exact k26_
        have F31_ : Fr b0 8 G G24_ := Fr.trans gF f28_
        refine z_iconst (v := 0) O dX6_remember_50 (by decide) ?_
        refine z_istore_n (L' := [some (.ref b0), some (.int 0)]) O dX6_remember_51 rfl (by decide) rfl ?_
        obtain ⟨n32_, h⟩ := h
        exact z_subL (L' := [some (.ref b0), some (.int 0)]) (zLe.sub (And.intro rfl (And.intro rfl True.intro))) (HL52 n32_ 0 v29_ G24_ k30_ F31_ h)
      · have h := h.2 c23_
        refine z_aload_n O dX6_remember_18 rfl rfl ?_
        refine z_get (v := .ref (b0 + 4)) O wf_RX6_19 dX6_remember_19 (M_obj g0) rfl ?_
        refine z_iload_n O dX6_remember_22 rfl rfl ?_
        refine z_aload_n O dX6_remember_23 rfl rfl ?_
        refine z_get (v := .ref (b0 + 4)) O wf_RX6_19 dX6_remember_24 (M_obj g0) rfl ?_
        refine z_sipush (v := 621) O dX6_remember_27 (by decide) ?_
        refine z_iload_n O dX6_remember_30 rfl rfl ?_
        refine z_iadd O dX6_remember_31 ?_
        obtain ⟨q33_, h⟩ := h
        refine z_iald O dX6_remember_32 (M_book_of g0) q33_ ?_
        obtain ⟨q34_, h⟩ := h
        refine y_iast O dX6_remember_33 (M_book_of g0) q34_ (fun G35_ hw36_ => ?_)
        have k37_ := hw36_.1
        have f38_ := hw36_.fr
        have k39_ := M_put_book g0 k37_ f38_
        have f40_ : Fr b0 8 G9 G35_ := Fr.mono f38_ (by omega) (by omega)
        obtain ⟨v41_, ev41_⟩ : ∃ w, w = (M_set_book v0 (upd (M_book v0) (Int32.toNatClampNeg y1) ((M_book v0) (Int32.toNatClampNeg (621 + y1))))) := ⟨_, rfl⟩
        have h := h v41_ ev41_
        have k42_ : MA b0 v41_ G35_ := by rw [ev41_]; exact k39_
        have F43_ : Fr b0 8 G G35_ := Fr.trans gF f40_
        refine z_iinc (v := (y1 + 1)) (L' := [some (.ref b0), some (.int (y1 + 1))]) O dX6_remember_34 rfl (by first | rfl | decide) (by decide) rfl ?_
        refine z_goto (tgt := 11) O dX6_remember_37 (by decide) ?_
        exact z_subL (L' := [some (.ref b0), some (.int (y1 + 1))]) (zLe.sub (And.intro rfl (And.intro rfl True.intro))) (ih (y1 + 1) v41_ G35_ k42_ F43_ h)
  refine z_aload_n O dX6_remember_0 rfl rfl ?_
  refine z_get (v := .int (M_states v0)) O wf_RX6_128 dX6_remember_1 (M_obj h0) rfl ?_
  refine z_bipush (v := 14) O dX6_remember_4 (by decide) ?_
  refine z_icmp_ne (tgt := 50) O dX6_remember_6 (by decide) (fun c1_ => ?_) (fun c1_ => ?_)
  · have h := h.1 c1_
    refine z_iconst (v := 0) O dX6_remember_50 (by decide) ?_
    refine z_istore_n (L' := [some (.ref b0), some (.int 0)]) O dX6_remember_51 rfl (by decide) rfl ?_
    obtain ⟨n22_, h⟩ := h
    exact z_subL (L' := [some (.ref b0), some (.int 0)]) (zLe.sub (And.intro rfl (And.intro rfl True.intro))) (HL52 n22_ 0 v0 G h0 Fr.rf h)
  · have h := h.2 c1_
    refine z_iconst (v := 0) O dX6_remember_9 (by decide) ?_
    refine z_istore_n (L' := [some (.ref b0), some (.int 0)]) O dX6_remember_10 rfl (by decide) rfl ?_
    obtain ⟨n44_, h⟩ := h
    exact z_subL (L' := [some (.ref b0), some (.int 0)]) (zLe.sub (And.intro rfl (And.intro rfl True.intro))) (HL11 n44_ 0 v0 G h0 Fr.rf h)

theorem dX6_append_0 : decode cX6_append 0 = .ok (.aload_n 0, 1) := by decide +kernel
theorem dX6_append_1 : decode cX6_append 1 = .ok (.iload_n 1, 1) := by decide +kernel
theorem dX6_append_2 : decode cX6_append 2 = .ok (.i2l, 1) := by decide +kernel
theorem dX6_append_3 : decode cX6_append 3 = .ok (.lconst 0, 1) := by decide +kernel
theorem dX6_append_4 : decode cX6_append 4 = .ok (.ldc2_w 131, 3) := by decide +kernel
theorem dX6_append_7 : decode cX6_append 7 = .ok (.invokestatic 44, 3) := by decide +kernel
theorem dX6_append_10 : decode cX6_append 10 = .ok (.ifCond .ne 7, 3) := by decide +kernel
theorem dX6_append_13 : decode cX6_append 13 = .ok (.iconst 1, 1) := by decide +kernel
theorem dX6_append_14 : decode cX6_append 14 = .ok (.goto 17, 3) := by decide +kernel
theorem dX6_append_17 : decode cX6_append 17 = .ok (.aload_n 0, 1) := by decide +kernel
theorem dX6_append_18 : decode cX6_append 18 = .ok (.getfield 133, 3) := by decide +kernel
theorem dX6_append_21 : decode cX6_append 21 = .ok (.bipush 120, 2) := by decide +kernel
theorem dX6_append_23 : decode cX6_append 23 = .ok (.if_icmp .ne 7, 3) := by decide +kernel
theorem dX6_append_26 : decode cX6_append 26 = .ok (.iconst 2, 1) := by decide +kernel
theorem dX6_append_27 : decode cX6_append 27 = .ok (.goto 4, 3) := by decide +kernel
theorem dX6_append_30 : decode cX6_append 30 = .ok (.iconst 0, 1) := by decide +kernel
theorem dX6_append_31 : decode cX6_append 31 = .ok (.invokevirtual 136, 3) := by decide +kernel
theorem dX6_append_34 : decode cX6_append 34 = .ok (.ifCond .eq 5, 3) := by decide +kernel
theorem dX6_append_37 : decode cX6_append 37 = .ok (.iconst 0, 1) := by decide +kernel
theorem dX6_append_38 : decode cX6_append 38 = .ok (.ireturn, 1) := by decide +kernel
theorem dX6_append_39 : decode cX6_append 39 = .ok (.aload_n 0, 1) := by decide +kernel
theorem dX6_append_40 : decode cX6_append 40 = .ok (.getfield 29, 3) := by decide +kernel
theorem dX6_append_43 : decode cX6_append 43 = .ok (.aload_n 0, 1) := by decide +kernel
theorem dX6_append_44 : decode cX6_append 44 = .ok (.getfield 133, 3) := by decide +kernel
theorem dX6_append_47 : decode cX6_append 47 = .ok (.iload_n 1, 1) := by decide +kernel
theorem dX6_append_48 : decode cX6_append 48 = .ok (.iastore, 1) := by decide +kernel
theorem dX6_append_49 : decode cX6_append 49 = .ok (.aload_n 0, 1) := by decide +kernel
theorem dX6_append_50 : decode cX6_append 50 = .ok (.dup, 1) := by decide +kernel
theorem dX6_append_51 : decode cX6_append 51 = .ok (.getfield 133, 3) := by decide +kernel
theorem dX6_append_54 : decode cX6_append 54 = .ok (.iconst 1, 1) := by decide +kernel
theorem dX6_append_55 : decode cX6_append 55 = .ok (.iadd, 1) := by decide +kernel
theorem dX6_append_56 : decode cX6_append 56 = .ok (.putfield 133, 3) := by decide +kernel
theorem dX6_append_59 : decode cX6_append 59 = .ok (.aload_n 0, 1) := by decide +kernel
theorem dX6_append_60 : decode cX6_append 60 = .ok (.getfield 133, 3) := by decide +kernel
theorem dX6_append_63 : decode cX6_append 63 = .ok (.ireturn, 1) := by decide +kernel
def PJ_M_append_31 (x1 : Int32) (y1 : Int32) (u0 : Int32) (v0 : MT) (Q : Int32 → MT → Prop) : Prop := P_M_refused u0 v0 (fun r7_ v11_ => (((r7_ = 0 → vp_in (M_length v11_) 120 ∧ (∀ v23_, v23_ = (M_set_text v11_ (upd (M_text v11_) (Int32.toNatClampNeg (M_length v11_)) y1)) → (∀ v31_, v31_ = (M_set_length v23_ ((M_length v23_) + 1)) → (Q (M_length v31_) v31_)))) ∧ (¬ r7_ = 0 → Q 0 v11_))))
def P_M_append (x1 : Int32) (v0 : MT) (Q : Int32 → MT → Prop) : Prop := P_M_in (Int32.toInt64 x1) 0 255 (fun r1_ => (((¬ r1_ = 0 → ((¬ (M_length v0) = 120 → PJ_M_append_31 x1 x1 0 v0 Q) ∧ ((M_length v0) = 120 → PJ_M_append_31 x1 x1 2 v0 Q))) ∧ (r1_ = 0 → PJ_M_append_31 x1 x1 1 v0 Q))))
set_option maxRecDepth 100000 in
theorem s_M_append {l : Launch} {D : zD} {B : Nat} {sa : Nat → Nat} (hfl : l.stackTraces = false) {z : Nat} {G : zG} {b0 : Nat} {x1 : Int32} {v0 : MT} {Q : Int32 → MT → Prop} (h0 : MA b0 v0 G) (h : P_M_append x1 v0 Q) : zSp l D B sa yX6_append cX6_append 2 (some .int) 1 25 0 0 [.ref b0, .int x1] z G (zRi fun r z' G' => z = z' ∧ ∃ w, MA b0 w G' ∧ Fr b0 8 G G' ∧ Q r w) := by
  unfold P_M_append at h
  refine z_ofW (by decide +kernel) hfl [some (.ref b0), some (.int x1)] rfl (Nat.le_of_ble_eq_true rfl) (fun p e s m args below meth c O hret hlk hnm => ?_)
  have O : zO p l s m args c D B sa 2 cX6_append RX6 := O
  have HJ31 : ∀ (y1 : Int32) (u0 : Int32) (v0 : MT) (G9 : zG) (g0 : MA b0 v0 G9) (gF : Fr b0 8 G G9), PJ_M_append_31 x1 y1 u0 v0 Q → zT p l e (zrm 1 25 0 0) s m args below meth c (zEnd below D B (zRi fun r z' G' => z = z' ∧ ∃ w, MA b0 w G' ∧ Fr b0 8 G G' ∧ Q r w) args s 0 0) D B 2 0 0 31 [.int u0, .ref b0] [some (.ref b0), some (.int y1)] z G9 := by
    intro y1 u0 v0 G9 g0 gF h
    unfold PJ_M_append_31 at h
    refine z_callVi (As := [.int u0]) (st := []) O (s_M_refused hfl g0 h) wy_X6_refused wl_RX6_136 dX6_append_31 rfl rfl (M_obj g0) ⟨by decide, rfl⟩ ⟨Nat.le_of_ble_eq_true rfl, Nat.le_of_ble_eq_true rfl⟩ (Nat.le_of_ble_eq_true rfl) ⟨Nat.le_of_ble_eq_true rfl, Nat.le_of_ble_eq_true rfl⟩ (fun r7_ z8_ G9_ hq10_ => ?_)
    obtain ⟨rfl, v11_, k12_, f13_, h⟩ := hq10_
    have F14_ : Fr b0 8 G G9_ := Fr.trans gF f13_
    refine z_if_eq (tgt := 39) O dX6_append_34 (by decide) (fun c15_ => ?_) (fun c15_ => ?_)
    · have h := h.1 c15_
      refine z_aload_n O dX6_append_39 rfl rfl ?_
      refine z_get (v := .ref (b0 + 7)) O wf_RX6_29 dX6_append_40 (M_obj k12_) rfl ?_
      refine z_aload_n O dX6_append_43 rfl rfl ?_
      refine z_get (v := .int (M_length v11_)) O wf_RX6_133 dX6_append_44 (M_obj k12_) rfl ?_
      refine z_iload_n O dX6_append_47 rfl rfl ?_
      obtain ⟨q16_, h⟩ := h
      refine y_iast O dX6_append_48 (M_text_of k12_) q16_ (fun G17_ hw18_ => ?_)
      have k19_ := hw18_.1
      have f20_ := hw18_.fr
      have k21_ := M_put_text k12_ k19_ f20_
      have f22_ : Fr b0 8 G9_ G17_ := Fr.mono f20_ (by omega) (by omega)
      obtain ⟨v23_, ev23_⟩ : ∃ w, w = (M_set_text v11_ (upd (M_text v11_) (Int32.toNatClampNeg (M_length v11_)) y1)) := ⟨_, rfl⟩
      have h := h v23_ ev23_
      have k24_ : MA b0 v23_ G17_ := by rw [ev23_]; exact k21_
      have F25_ : Fr b0 8 G G17_ := Fr.trans F14_ f22_
      refine z_aload_n O dX6_append_49 rfl rfl ?_
      refine z_dup O dX6_append_50 rfl ?_
      refine z_get (v := .int (M_length v23_)) O wf_RX6_133 dX6_append_51 (M_obj k24_) rfl ?_
      refine z_iconst (v := 1) O dX6_append_54 (by decide) ?_
      refine z_iadd O dX6_append_55 ?_
      refine y_put O wp_RX6_133 dX6_append_56 (M_obj k24_) rfl rfl (fun G26_ hw27_ => ?_)
      have k28_ := M_w_length k24_ hw27_
      have f29_ := hw27_.fr
      have f30_ : Fr b0 8 G17_ G26_ := Fr.mono f29_ (by omega) (by omega)
      obtain ⟨v31_, ev31_⟩ : ∃ w, w = (M_set_length v23_ ((M_length v23_) + 1)) := ⟨_, rfl⟩
      have h := h v31_ ev31_
      have k32_ : MA b0 v31_ G26_ := by rw [ev31_]; exact k28_
      have F33_ : Fr b0 8 G G26_ := Fr.trans F25_ f30_
      refine z_aload_n O dX6_append_59 rfl rfl ?_
      refine z_get (v := .int (M_length v31_)) O wf_RX6_133 dX6_append_60 (M_obj k32_) rfl ?_
      exact z_iret O hret hlk dX6_append_63 (Nat.le_of_ble_eq_true rfl) (Nat.le_of_ble_eq_true rfl) ⟨_, rfl, rfl, _, k32_, F33_, h⟩
    · have h := h.2 c15_
      refine z_iconst (v := 0) O dX6_append_37 (by decide) ?_
      exact z_iret O hret hlk dX6_append_38 (Nat.le_of_ble_eq_true rfl) (Nat.le_of_ble_eq_true rfl) ⟨_, rfl, rfl, _, k12_, F14_, h⟩
  refine z_aload_n O dX6_append_0 rfl rfl ?_
  refine z_iload_n O dX6_append_1 rfl rfl ?_
  refine z_i2l O dX6_append_2 ?_
  refine z_lconst (v := 0) O dX6_append_3 (by decide) ?_
  refine z_ldc2 (v := 255) O wc_RX6_131 dX6_append_4 ?_
  refine z_callSi (As := [.long (Int32.toInt64 x1), .long 0, .long 255]) (st := [.ref b0]) O (s_M_in hfl h) wy_X6_in wl_RX6_44 dX6_append_7 rfl rfl ⟨Nat.le_of_ble_eq_true rfl, Nat.le_of_ble_eq_true rfl⟩ (Nat.le_of_ble_eq_true rfl) ⟨Nat.le_of_ble_eq_true rfl, Nat.le_of_ble_eq_true rfl⟩ (fun r1_ z2_ G3_ hq4_ => ?_)
  obtain ⟨rfl, rfl, h⟩ := hq4_
  refine z_if_ne (tgt := 17) O dX6_append_10 (by decide) (fun c5_ => ?_) (fun c5_ => ?_)
  · have h := h.1 c5_
    refine z_aload_n O dX6_append_17 rfl rfl ?_
    refine z_get (v := .int (M_length v0)) O wf_RX6_133 dX6_append_18 (M_obj h0) rfl ?_
    refine z_bipush (v := 120) O dX6_append_21 (by decide) ?_
    refine z_icmp_ne (tgt := 30) O dX6_append_23 (by decide) (fun c6_ => ?_) (fun c6_ => ?_)
    · have h := h.1 c6_
      refine z_iconst (v := 0) O dX6_append_30 (by decide) ?_
      exact z_subL (L' := [some (.ref b0), some (.int x1)]) (zLe.sub (And.intro rfl (And.intro rfl True.intro))) (HJ31 x1 0 v0 G h0 Fr.rf h)
    · have h := h.2 c6_
      refine z_iconst (v := 2) O dX6_append_26 (by decide) ?_
      refine z_goto (tgt := 31) O dX6_append_27 (by decide) ?_
      exact z_subL (L' := [some (.ref b0), some (.int x1)]) (zLe.sub (And.intro rfl (And.intro rfl True.intro))) (HJ31 x1 2 v0 G h0 Fr.rf h)
  · have h := h.2 c5_
    refine z_iconst (v := 1) O dX6_append_13 (by decide) ?_
    refine z_goto (tgt := 31) O dX6_append_14 (by decide) ?_
    exact z_subL (L' := [some (.ref b0), some (.int x1)]) (zLe.sub (And.intro rfl (And.intro rfl True.intro))) (HJ31 x1 1 v0 G h0 Fr.rf h)

theorem dX6_clearText_0 : decode cX6_clearText 0 = .ok (.aload_n 0, 1) := by decide +kernel
theorem dX6_clearText_1 : decode cX6_clearText 1 = .ok (.iconst 0, 1) := by decide +kernel
theorem dX6_clearText_2 : decode cX6_clearText 2 = .ok (.putfield 36, 3) := by decide +kernel
theorem dX6_clearText_5 : decode cX6_clearText 5 = .ok (.aload_n 0, 1) := by decide +kernel
theorem dX6_clearText_6 : decode cX6_clearText 6 = .ok (.getfield 133, 3) := by decide +kernel
theorem dX6_clearText_9 : decode cX6_clearText 9 = .ok (.istore_n 1, 1) := by decide +kernel
theorem dX6_clearText_10 : decode cX6_clearText 10 = .ok (.aload_n 0, 1) := by decide +kernel
theorem dX6_clearText_11 : decode cX6_clearText 11 = .ok (.iconst 0, 1) := by decide +kernel
theorem dX6_clearText_12 : decode cX6_clearText 12 = .ok (.putfield 133, 3) := by decide +kernel
theorem dX6_clearText_15 : decode cX6_clearText 15 = .ok (.iload_n 1, 1) := by decide +kernel
theorem dX6_clearText_16 : decode cX6_clearText 16 = .ok (.ireturn, 1) := by decide +kernel
def P_M_clearText (v0 : MT) (Q : Int32 → MT → Prop) : Prop := ∀ v6_, v6_ = (M_set_refusal v0 0) → (∀ v14_, v14_ = (M_set_length v6_ 0) → (Q (M_length v6_) v14_))
set_option maxRecDepth 100000 in
theorem s_M_clearText {l : Launch} {D : zD} {B : Nat} {sa : Nat → Nat} (hfl : l.stackTraces = false) {z : Nat} {G : zG} {b0 : Nat} {v0 : MT} {Q : Int32 → MT → Prop} (h0 : MA b0 v0 G) (h : P_M_clearText v0 Q) : zSp l D B sa yX6_clearText cX6_clearText 2 (some .int) 0 0 0 0 [.ref b0] z G (zRi fun r z' G' => z = z' ∧ ∃ w, MA b0 w G' ∧ Fr b0 8 G G' ∧ Q r w) := by
  unfold P_M_clearText at h
  refine z_ofW (by decide +kernel) hfl [some (.ref b0), none] rfl (Nat.le_of_ble_eq_true rfl) (fun p e s m args below meth c O hret hlk hnm => ?_)
  have O : zO p l s m args c D B sa 2 cX6_clearText RX6 := O
  refine z_aload_n O dX6_clearText_0 rfl rfl ?_
  refine z_iconst (v := 0) O dX6_clearText_1 (by decide) ?_
  refine y_put O wp_RX6_36 dX6_clearText_2 (M_obj h0) rfl rfl (fun G1_ hw2_ => ?_)
  have k3_ := M_w_refusal h0 hw2_
  have f4_ := hw2_.fr
  have f5_ : Fr b0 8 G G1_ := Fr.mono f4_ (by omega) (by omega)
  obtain ⟨v6_, ev6_⟩ : ∃ w, w = (M_set_refusal v0 0) := ⟨_, rfl⟩
  have h := h v6_ ev6_
  have k7_ : MA b0 v6_ G1_ := by rw [ev6_]; exact k3_
  have F8_ : Fr b0 8 G G1_ := Fr.trans Fr.rf f5_
  refine z_aload_n O dX6_clearText_5 rfl rfl ?_
  refine z_get (v := .int (M_length v6_)) O wf_RX6_133 dX6_clearText_6 (M_obj k7_) rfl ?_
  refine z_istore_n (L' := [some (.ref b0), some (.int (M_length v6_))]) O dX6_clearText_9 rfl (by decide) rfl ?_
  refine z_aload_n O dX6_clearText_10 rfl rfl ?_
  refine z_iconst (v := 0) O dX6_clearText_11 (by decide) ?_
  refine y_put O wp_RX6_133 dX6_clearText_12 (M_obj k7_) rfl rfl (fun G9_ hw10_ => ?_)
  have k11_ := M_w_length k7_ hw10_
  have f12_ := hw10_.fr
  have f13_ : Fr b0 8 G1_ G9_ := Fr.mono f12_ (by omega) (by omega)
  obtain ⟨v14_, ev14_⟩ : ∃ w, w = (M_set_length v6_ 0) := ⟨_, rfl⟩
  have h := h v14_ ev14_
  have k15_ : MA b0 v14_ G9_ := by rw [ev14_]; exact k11_
  have F16_ : Fr b0 8 G G9_ := Fr.trans F8_ f13_
  refine z_iload_n O dX6_clearText_15 rfl rfl ?_
  exact z_iret O hret hlk dX6_clearText_16 (Nat.le_of_ble_eq_true rfl) (Nat.le_of_ble_eq_true rfl) ⟨_, rfl, rfl, _, k15_, F16_, h⟩

theorem dX6_here_0 : decode cX6_here 0 = .ok (.aload_n 0, 1) := by decide +kernel
theorem dX6_here_1 : decode cX6_here 1 = .ok (.getfield 139, 3) := by decide +kernel
theorem dX6_here_4 : decode cX6_here 4 = .ok (.aload_n 0, 1) := by decide +kernel
theorem dX6_here_5 : decode cX6_here 5 = .ok (.getfield 133, 3) := by decide +kernel
theorem dX6_here_8 : decode cX6_here 8 = .ok (.if_icmp .ge 15, 3) := by decide +kernel
theorem dX6_here_11 : decode cX6_here 11 = .ok (.aload_n 0, 1) := by decide +kernel
theorem dX6_here_12 : decode cX6_here 12 = .ok (.getfield 29, 3) := by decide +kernel
theorem dX6_here_15 : decode cX6_here 15 = .ok (.aload_n 0, 1) := by decide +kernel
theorem dX6_here_16 : decode cX6_here 16 = .ok (.getfield 139, 3) := by decide +kernel
theorem dX6_here_19 : decode cX6_here 19 = .ok (.iaload, 1) := by decide +kernel
theorem dX6_here_20 : decode cX6_here 20 = .ok (.goto 4, 3) := by decide +kernel
theorem dX6_here_23 : decode cX6_here 23 = .ok (.iconst (-1), 1) := by decide +kernel
theorem dX6_here_24 : decode cX6_here 24 = .ok (.ireturn, 1) := by decide +kernel
def P_M_here (v0 : MT) (Q : Int32 → Prop) : Prop := (((M_length v0) ≤ (M_at v0) → Q (-1)) ∧ (¬ (M_length v0) ≤ (M_at v0) → vp_in (M_at v0) 120 ∧ (Q ((M_text v0) (Int32.toNatClampNeg (M_at v0))))))
set_option maxRecDepth 100000 in
theorem s_M_here {l : Launch} {D : zD} {B : Nat} {sa : Nat → Nat} (hfl : l.stackTraces = false) {z : Nat} {G : zG} {b0 : Nat} {v0 : MT} {Q : Int32 → Prop} (h0 : MA b0 v0 G) (h : P_M_here v0 Q) : zSp l D B sa yX6_here cX6_here 1 (some .int) 0 0 0 0 [.ref b0] z G (zRi fun r z' G' => z = z' ∧ G = G' ∧ Q r) := by
  unfold P_M_here at h
  refine z_ofW (by decide +kernel) hfl [some (.ref b0)] rfl (Nat.le_of_ble_eq_true rfl) (fun p e s m args below meth c O hret hlk hnm => ?_)
  have O : zO p l s m args c D B sa 1 cX6_here RX6 := O
  refine z_aload_n O dX6_here_0 rfl rfl ?_
  refine z_get (v := .int (M_at v0)) O wf_RX6_139 dX6_here_1 (M_obj h0) rfl ?_
  refine z_aload_n O dX6_here_4 rfl rfl ?_
  refine z_get (v := .int (M_length v0)) O wf_RX6_133 dX6_here_5 (M_obj h0) rfl ?_
  refine z_icmp_ge (tgt := 23) O dX6_here_8 (by decide) (fun c1_ => ?_) (fun c1_ => ?_)
  · have h := h.1 c1_
    refine z_iconst (v := (-1)) O dX6_here_23 (by decide) ?_
    exact z_iret O hret hlk dX6_here_24 (Nat.le_of_ble_eq_true rfl) (Nat.le_of_ble_eq_true rfl) ⟨_, rfl, rfl, rfl, h⟩
  · have h := h.2 c1_
    refine z_aload_n O dX6_here_11 rfl rfl ?_
    refine z_get (v := .ref (b0 + 7)) O wf_RX6_29 dX6_here_12 (M_obj h0) rfl ?_
    refine z_aload_n O dX6_here_15 rfl rfl ?_
    refine z_get (v := .int (M_at v0)) O wf_RX6_139 dX6_here_16 (M_obj h0) rfl ?_
    obtain ⟨q2_, h⟩ := h
    refine z_iald O dX6_here_19 (M_text_of h0) q2_ ?_
    refine z_goto (tgt := 24) O dX6_here_20 (by decide) ?_
    exact z_iret O hret hlk dX6_here_24 (Nat.le_of_ble_eq_true rfl) (Nat.le_of_ble_eq_true rfl) ⟨_, rfl, rfl, rfl, h⟩

theorem dX6_take_0 : decode cX6_take 0 = .ok (.aload_n 0, 1) := by decide +kernel
theorem dX6_take_1 : decode cX6_take 1 = .ok (.aload_n 0, 1) := by decide +kernel
theorem dX6_take_2 : decode cX6_take 2 = .ok (.getfield 142, 3) := by decide +kernel
theorem dX6_take_5 : decode cX6_take 5 = .ok (.ifCond .eq 11, 3) := by decide +kernel
theorem dX6_take_8 : decode cX6_take 8 = .ok (.iload_n 1, 1) := by decide +kernel
theorem dX6_take_9 : decode cX6_take 9 = .ok (.ifCond .eq 7, 3) := by decide +kernel
theorem dX6_take_12 : decode cX6_take 12 = .ok (.iconst 1, 1) := by decide +kernel
theorem dX6_take_13 : decode cX6_take 13 = .ok (.goto 4, 3) := by decide +kernel
theorem dX6_take_16 : decode cX6_take 16 = .ok (.iconst 0, 1) := by decide +kernel
theorem dX6_take_17 : decode cX6_take 17 = .ok (.putfield 142, 3) := by decide +kernel
theorem dX6_take_20 : decode cX6_take 20 = .ok (.aload_n 0, 1) := by decide +kernel
theorem dX6_take_21 : decode cX6_take 21 = .ok (.dup, 1) := by decide +kernel
theorem dX6_take_22 : decode cX6_take 22 = .ok (.getfield 139, 3) := by decide +kernel
theorem dX6_take_25 : decode cX6_take 25 = .ok (.aload_n 0, 1) := by decide +kernel
theorem dX6_take_26 : decode cX6_take 26 = .ok (.getfield 142, 3) := by decide +kernel
theorem dX6_take_29 : decode cX6_take 29 = .ok (.ifCond .eq 7, 3) := by decide +kernel
theorem dX6_take_32 : decode cX6_take 32 = .ok (.iconst 1, 1) := by decide +kernel
theorem dX6_take_33 : decode cX6_take 33 = .ok (.goto 4, 3) := by decide +kernel
theorem dX6_take_36 : decode cX6_take 36 = .ok (.iconst 0, 1) := by decide +kernel
theorem dX6_take_37 : decode cX6_take 37 = .ok (.iadd, 1) := by decide +kernel
theorem dX6_take_38 : decode cX6_take 38 = .ok (.putfield 139, 3) := by decide +kernel
theorem dX6_take_41 : decode cX6_take 41 = .ok (.return_, 1) := by decide +kernel
def PJ_M_take_17 (x1 : Int32) (u0 : Int32) (v0 : MT) (Q : MT → Prop) : Prop := zb u0 ∧ (∀ v8_, v8_ = (M_set_good v0 u0) → ((((M_good v8_) = 0 → ∀ v17_, v17_ = (M_set_at v8_ ((M_at v8_) + 0)) → (Q v17_)) ∧ (¬ (M_good v8_) = 0 → ∀ v25_, v25_ = (M_set_at v8_ ((M_at v8_) + 1)) → (Q v25_)))))
def PJ_M_take_16 (x1 : Int32) (v0 : MT) (Q : MT → Prop) : Prop := PJ_M_take_17 x1 0 v0 Q
def P_M_take (x1 : Int32) (v0 : MT) (Q : MT → Prop) : Prop := (((M_good v0) = 0 → PJ_M_take_16 x1 v0 Q) ∧ (¬ (M_good v0) = 0 → ((x1 = 0 → PJ_M_take_16 x1 v0 Q) ∧ (¬ x1 = 0 → PJ_M_take_17 x1 1 v0 Q))))
set_option maxRecDepth 100000 in
theorem s_M_take {l : Launch} {D : zD} {B : Nat} {sa : Nat → Nat} (hfl : l.stackTraces = false) {z : Nat} {G : zG} {b0 : Nat} {x1 : Int32} {v0 : MT} {Q : MT → Prop} (h0 : MA b0 v0 G) (h : P_M_take x1 v0 Q) : zSp l D B sa yX6_take cX6_take 2 none 0 0 0 0 [.ref b0, .int x1] z G (zRv fun z' G' => z = z' ∧ ∃ w, MA b0 w G' ∧ Fr b0 8 G G' ∧ Q w) := by
  unfold P_M_take at h
  refine z_ofW (by decide +kernel) hfl [some (.ref b0), some (.int x1)] rfl (Nat.le_of_ble_eq_true rfl) (fun p e s m args below meth c O hret hlk hnm => ?_)
  have O : zO p l s m args c D B sa 2 cX6_take RX6 := O
  have HJ17 : ∀ (u0 : Int32) (v0 : MT) (G9 : zG) (g0 : MA b0 v0 G9) (gF : Fr b0 8 G G9), PJ_M_take_17 x1 u0 v0 Q → zT p l e (zrm 0 0 0 0) s m args below meth c (zEnd below D B (zRv fun z' G' => z = z' ∧ ∃ w, MA b0 w G' ∧ Fr b0 8 G G' ∧ Q w) args s 0 0) D B 2 0 0 17 [.int u0, .ref b0] [some (.ref b0), none] z G9 := by
    intro u0 v0 G9 g0 gF h
    unfold PJ_M_take_17 at h
    obtain ⟨q2_, h⟩ := h
    refine y_put O wp_RX6_142 dX6_take_17 (M_obj g0) (z_narb q2_) (z_fitb q2_) (fun G3_ hw4_ => ?_)
    have k5_ := M_w_good g0 hw4_
    have f6_ := hw4_.fr
    have f7_ : Fr b0 8 G9 G3_ := Fr.mono f6_ (by omega) (by omega)
    obtain ⟨v8_, ev8_⟩ : ∃ w, w = (M_set_good v0 u0) := ⟨_, rfl⟩
    have h := h v8_ ev8_
    have k9_ : MA b0 v8_ G3_ := by rw [ev8_]; exact k5_
    have F10_ : Fr b0 8 G G3_ := Fr.trans gF f7_
    refine z_aload_n O dX6_take_20 rfl rfl ?_
    refine z_dup O dX6_take_21 rfl ?_
    refine z_get (v := .int (M_at v8_)) O wf_RX6_139 dX6_take_22 (M_obj k9_) rfl ?_
    refine z_aload_n O dX6_take_25 rfl rfl ?_
    refine z_get (v := .int (M_good v8_)) O wf_RX6_142 dX6_take_26 (M_obj k9_) rfl ?_
    refine z_if_eq (tgt := 36) O dX6_take_29 (by decide) (fun c11_ => ?_) (fun c11_ => ?_)
    · have h := h.1 c11_
      refine z_iconst (v := 0) O dX6_take_36 (by decide) ?_
      refine z_iadd O dX6_take_37 ?_
      refine y_put O wp_RX6_139 dX6_take_38 (M_obj k9_) rfl rfl (fun G12_ hw13_ => ?_)
      have k14_ := M_w_at k9_ hw13_
      have f15_ := hw13_.fr
      have f16_ : Fr b0 8 G3_ G12_ := Fr.mono f15_ (by omega) (by omega)
      obtain ⟨v17_, ev17_⟩ : ∃ w, w = (M_set_at v8_ ((M_at v8_) + 0)) := ⟨_, rfl⟩
      have h := h v17_ ev17_
      have k18_ : MA b0 v17_ G12_ := by rw [ev17_]; exact k14_
      have F19_ : Fr b0 8 G G12_ := Fr.trans F10_ f16_
      exact z_vret O hret hlk dX6_take_41 (Nat.le_of_ble_eq_true rfl) (Nat.le_of_ble_eq_true rfl) ⟨rfl, rfl, _, k18_, F19_, h⟩
    · have h := h.2 c11_
      refine z_iconst (v := 1) O dX6_take_32 (by decide) ?_
      refine z_goto (tgt := 37) O dX6_take_33 (by decide) ?_
      refine z_iadd O dX6_take_37 ?_
      refine y_put O wp_RX6_139 dX6_take_38 (M_obj k9_) rfl rfl (fun G20_ hw21_ => ?_)
      have k22_ := M_w_at k9_ hw21_
      have f23_ := hw21_.fr
      have f24_ : Fr b0 8 G3_ G20_ := Fr.mono f23_ (by omega) (by omega)
      obtain ⟨v25_, ev25_⟩ : ∃ w, w = (M_set_at v8_ ((M_at v8_) + 1)) := ⟨_, rfl⟩
      have h := h v25_ ev25_
      have k26_ : MA b0 v25_ G20_ := by rw [ev25_]; exact k22_
      have F27_ : Fr b0 8 G G20_ := Fr.trans F10_ f24_
      exact z_vret O hret hlk dX6_take_41 (Nat.le_of_ble_eq_true rfl) (Nat.le_of_ble_eq_true rfl) ⟨rfl, rfl, _, k26_, F27_, h⟩
  have HJ16 : ∀ (v0 : MT) (G9 : zG) (g0 : MA b0 v0 G9) (gF : Fr b0 8 G G9), PJ_M_take_16 x1 v0 Q → zT p l e (zrm 0 0 0 0) s m args below meth c (zEnd below D B (zRv fun z' G' => z = z' ∧ ∃ w, MA b0 w G' ∧ Fr b0 8 G G' ∧ Q w) args s 0 0) D B 2 0 0 16 [.ref b0] [some (.ref b0), none] z G9 := by
    intro v0 G9 g0 gF h
    unfold PJ_M_take_16 at h
    refine z_iconst (v := 0) O dX6_take_16 (by decide) ?_
    exact z_subL (L' := [some (.ref b0), none]) (zLe.sub (And.intro rfl True.intro)) (HJ17 0 v0 G9 g0 gF h)
  refine z_aload_n O dX6_take_0 rfl rfl ?_
  refine z_aload_n O dX6_take_1 rfl rfl ?_
  refine z_get (v := .int (M_good v0)) O wf_RX6_142 dX6_take_2 (M_obj h0) rfl ?_
  refine z_if_eq (tgt := 16) O dX6_take_5 (by decide) (fun c1_ => ?_) (fun c1_ => ?_)
  · have h := h.1 c1_
    exact z_subL (L' := [some (.ref b0), none]) (zLe.sub (And.intro rfl True.intro)) (HJ16 v0 G h0 Fr.rf h)
  · have h := h.2 c1_
    refine z_iload_n O dX6_take_8 rfl rfl ?_
    refine z_if_eq (tgt := 16) O dX6_take_9 (by decide) (fun c28_ => ?_) (fun c28_ => ?_)
    · have h := h.1 c28_
      exact z_subL (L' := [some (.ref b0), none]) (zLe.sub (And.intro rfl True.intro)) (HJ16 v0 G h0 Fr.rf h)
    · have h := h.2 c28_
      refine z_iconst (v := 1) O dX6_take_12 (by decide) ?_
      refine z_goto (tgt := 17) O dX6_take_13 (by decide) ?_
      exact z_subL (L' := [some (.ref b0), none]) (zLe.sub (And.intro rfl True.intro)) (HJ17 1 v0 G h0 Fr.rf h)

theorem dX6_digit_0 : decode cX6_digit 0 = .ok (.aload_n 0, 1) := by decide +kernel
theorem dX6_digit_1 : decode cX6_digit 1 = .ok (.invokevirtual 146, 3) := by decide +kernel
theorem dX6_digit_4 : decode cX6_digit 4 = .ok (.bipush 48, 2) := by decide +kernel
theorem dX6_digit_6 : decode cX6_digit 6 = .ok (.isub, 1) := by decide +kernel
theorem dX6_digit_7 : decode cX6_digit 7 = .ok (.istore_n 3, 1) := by decide +kernel
theorem dX6_digit_8 : decode cX6_digit 8 = .ok (.aload_n 0, 1) := by decide +kernel
theorem dX6_digit_9 : decode cX6_digit 9 = .ok (.iload_n 3, 1) := by decide +kernel
theorem dX6_digit_10 : decode cX6_digit 10 = .ok (.i2l, 1) := by decide +kernel
theorem dX6_digit_11 : decode cX6_digit 11 = .ok (.iload_n 1, 1) := by decide +kernel
theorem dX6_digit_12 : decode cX6_digit 12 = .ok (.i2l, 1) := by decide +kernel
theorem dX6_digit_13 : decode cX6_digit 13 = .ok (.iload_n 2, 1) := by decide +kernel
theorem dX6_digit_14 : decode cX6_digit 14 = .ok (.i2l, 1) := by decide +kernel
theorem dX6_digit_15 : decode cX6_digit 15 = .ok (.invokestatic 44, 3) := by decide +kernel
theorem dX6_digit_18 : decode cX6_digit 18 = .ok (.invokevirtual 150, 3) := by decide +kernel
theorem dX6_digit_21 : decode cX6_digit 21 = .ok (.aload_n 0, 1) := by decide +kernel
theorem dX6_digit_22 : decode cX6_digit 22 = .ok (.getfield 142, 3) := by decide +kernel
theorem dX6_digit_25 : decode cX6_digit 25 = .ok (.ifCond .eq 7, 3) := by decide +kernel
theorem dX6_digit_28 : decode cX6_digit 28 = .ok (.iload_n 3, 1) := by decide +kernel
theorem dX6_digit_29 : decode cX6_digit 29 = .ok (.goto 4, 3) := by decide +kernel
theorem dX6_digit_32 : decode cX6_digit 32 = .ok (.iload_n 1, 1) := by decide +kernel
theorem dX6_digit_33 : decode cX6_digit 33 = .ok (.ireturn, 1) := by decide +kernel
def P_M_digit (x1 : Int32) (x2 : Int32) (v0 : MT) (Q : Int32 → MT → Prop) : Prop := P_M_here v0 (fun r1_ => (P_M_in (Int32.toInt64 (r1_ - 48)) (Int32.toInt64 x1) (Int32.toInt64 x2) (fun r5_ => (P_M_take r5_ v0 (fun v13_ => ((((M_good v13_) = 0 → Q x1 v13_) ∧ (¬ (M_good v13_) = 0 → Q (r1_ - 48) v13_))))))))
set_option maxRecDepth 100000 in
theorem s_M_digit {l : Launch} {D : zD} {B : Nat} {sa : Nat → Nat} (hfl : l.stackTraces = false) {z : Nat} {G : zG} {b0 : Nat} {x1 : Int32} {x2 : Int32} {v0 : MT} {Q : Int32 → MT → Prop} (h0 : MA b0 v0 G) (h : P_M_digit x1 x2 v0 Q) : zSp l D B sa yX6_digit cX6_digit 4 (some .int) 1 25 0 0 [.ref b0, .int x1, .int x2] z G (zRi fun r z' G' => z = z' ∧ ∃ w, MA b0 w G' ∧ Fr b0 8 G G' ∧ Q r w) := by
  unfold P_M_digit at h
  refine z_ofW (by decide +kernel) hfl [some (.ref b0), some (.int x1), some (.int x2), none] rfl (Nat.le_of_ble_eq_true rfl) (fun p e s m args below meth c O hret hlk hnm => ?_)
  have O : zO p l s m args c D B sa 4 cX6_digit RX6 := O
  refine z_aload_n O dX6_digit_0 rfl rfl ?_
  refine z_callVi (As := []) (st := []) O (s_M_here hfl h0 h) wy_X6_here wl_RX6_146 dX6_digit_1 rfl rfl (M_obj h0) ⟨by decide, rfl⟩ ⟨Nat.le_of_ble_eq_true rfl, Nat.le_of_ble_eq_true rfl⟩ (Nat.le_of_ble_eq_true rfl) ⟨Nat.le_of_ble_eq_true rfl, Nat.le_of_ble_eq_true rfl⟩ (fun r1_ z2_ G3_ hq4_ => ?_)
  obtain ⟨rfl, rfl, h⟩ := hq4_
  refine z_bipush (v := 48) O dX6_digit_4 (by decide) ?_
  refine z_isub O dX6_digit_6 ?_
  refine z_istore_n (L' := [some (.ref b0), some (.int x1), some (.int x2), some (.int (r1_ - 48))]) O dX6_digit_7 rfl (by decide) rfl ?_
  refine z_aload_n O dX6_digit_8 rfl rfl ?_
  refine z_iload_n O dX6_digit_9 rfl rfl ?_
  refine z_i2l O dX6_digit_10 ?_
  refine z_iload_n O dX6_digit_11 rfl rfl ?_
  refine z_i2l O dX6_digit_12 ?_
  refine z_iload_n O dX6_digit_13 rfl rfl ?_
  refine z_i2l O dX6_digit_14 ?_
  refine z_callSi (As := [.long (Int32.toInt64 (r1_ - 48)), .long (Int32.toInt64 x1), .long (Int32.toInt64 x2)]) (st := [.ref b0]) O (s_M_in hfl h) wy_X6_in wl_RX6_44 dX6_digit_15 rfl rfl ⟨Nat.le_of_ble_eq_true rfl, Nat.le_of_ble_eq_true rfl⟩ (Nat.le_of_ble_eq_true rfl) ⟨Nat.le_of_ble_eq_true rfl, Nat.le_of_ble_eq_true rfl⟩ (fun r5_ z6_ G7_ hq8_ => ?_)
  obtain ⟨rfl, rfl, h⟩ := hq8_
  refine z_callVv (As := [.int r5_]) (st := []) O (s_M_take hfl h0 h) wy_X6_take wl_RX6_150 dX6_digit_18 rfl rfl (M_obj h0) ⟨by decide, rfl⟩ ⟨Nat.le_of_ble_eq_true rfl, Nat.le_of_ble_eq_true rfl⟩ (Nat.le_of_ble_eq_true rfl) ⟨Nat.le_of_ble_eq_true rfl, Nat.le_of_ble_eq_true rfl⟩ (fun z10_ G11_ hq12_ => ?_)
  obtain ⟨rfl, v13_, k14_, f15_, h⟩ := hq12_
  have F16_ : Fr b0 8 G G11_ := Fr.trans Fr.rf f15_
  refine z_aload_n O dX6_digit_21 rfl rfl ?_
  refine z_get (v := .int (M_good v13_)) O wf_RX6_142 dX6_digit_22 (M_obj k14_) rfl ?_
  refine z_if_eq (tgt := 32) O dX6_digit_25 (by decide) (fun c17_ => ?_) (fun c17_ => ?_)
  · have h := h.1 c17_
    refine z_iload_n O dX6_digit_32 rfl rfl ?_
    exact z_iret O hret hlk dX6_digit_33 (Nat.le_of_ble_eq_true rfl) (Nat.le_of_ble_eq_true rfl) ⟨_, rfl, rfl, _, k14_, F16_, h⟩
  · have h := h.2 c17_
    refine z_iload_n O dX6_digit_28 rfl rfl ?_
    refine z_goto (tgt := 33) O dX6_digit_29 (by decide) ?_
    exact z_iret O hret hlk dX6_digit_33 (Nat.le_of_ble_eq_true rfl) (Nat.le_of_ble_eq_true rfl) ⟨_, rfl, rfl, _, k14_, F16_, h⟩
