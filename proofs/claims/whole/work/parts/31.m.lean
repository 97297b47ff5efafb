theorem dX6_goWrite_0 : decode cX6_goWrite 0 = .ok (.aload_n 0, 1) := by decide +kernel
theorem dX6_goWrite_1 : decode cX6_goWrite 1 = .ok (.sipush 401, 3) := by decide +kernel
theorem dX6_goWrite_4 : decode cX6_goWrite 4 = .ok (.iaload, 1) := by decide +kernel
theorem dX6_goWrite_5 : decode cX6_goWrite 5 = .ok (.istore 4, 2) := by decide +kernel
theorem dX6_goWrite_7 : decode cX6_goWrite 7 = .ok (.aload_n 0, 1) := by decide +kernel
theorem dX6_goWrite_8 : decode cX6_goWrite 8 = .ok (.sipush 400, 3) := by decide +kernel
theorem dX6_goWrite_11 : decode cX6_goWrite 11 = .ok (.iaload, 1) := by decide +kernel
theorem dX6_goWrite_12 : decode cX6_goWrite 12 = .ok (.iload 4, 2) := by decide +kernel
theorem dX6_goWrite_14 : decode cX6_goWrite 14 = .ok (.if_icmp .ne 7, 3) := by decide +kernel
theorem dX6_goWrite_17 : decode cX6_goWrite 17 = .ok (.iconst 1, 1) := by decide +kernel
theorem dX6_goWrite_18 : decode cX6_goWrite 18 = .ok (.goto 4, 3) := by decide +kernel
theorem dX6_goWrite_21 : decode cX6_goWrite 21 = .ok (.iconst 0, 1) := by decide +kernel
theorem dX6_goWrite_22 : decode cX6_goWrite 22 = .ok (.istore 5, 2) := by decide +kernel
theorem dX6_goWrite_24 : decode cX6_goWrite 24 = .ok (.iload 5, 2) := by decide +kernel
theorem dX6_goWrite_26 : decode cX6_goWrite 26 = .ok (.ifCond .ne 51, 3) := by decide +kernel
theorem dX6_goWrite_29 : decode cX6_goWrite 29 = .ok (.aload_n 0, 1) := by decide +kernel
theorem dX6_goWrite_30 : decode cX6_goWrite 30 = .ok (.iload 4, 2) := by decide +kernel
theorem dX6_goWrite_32 : decode cX6_goWrite 32 = .ok (.iconst 1, 1) := by decide +kernel
theorem dX6_goWrite_33 : decode cX6_goWrite 33 = .ok (.isub, 1) := by decide +kernel
theorem dX6_goWrite_34 : decode cX6_goWrite 34 = .ok (.invokestatic 116, 3) := by decide +kernel
theorem dX6_goWrite_37 : decode cX6_goWrite 37 = .ok (.istore 6, 2) := by decide +kernel
theorem dX6_goWrite_39 : decode cX6_goWrite 39 = .ok (.iload 4, 2) := by decide +kernel
theorem dX6_goWrite_41 : decode cX6_goWrite 41 = .ok (.iload 6, 2) := by decide +kernel
theorem dX6_goWrite_43 : decode cX6_goWrite 43 = .ok (.isub, 1) := by decide +kernel
theorem dX6_goWrite_44 : decode cX6_goWrite 44 = .ok (.aload_n 0, 1) := by decide +kernel
theorem dX6_goWrite_45 : decode cX6_goWrite 45 = .ok (.sipush 610, 3) := by decide +kernel
theorem dX6_goWrite_48 : decode cX6_goWrite 48 = .ok (.iaload, 1) := by decide +kernel
theorem dX6_goWrite_49 : decode cX6_goWrite 49 = .ok (.if_icmp .ge 21, 3) := by decide +kernel
theorem dX6_goWrite_52 : decode cX6_goWrite 52 = .ok (.aload_n 0, 1) := by decide +kernel
theorem dX6_goWrite_53 : decode cX6_goWrite 53 = .ok (.iload 6, 2) := by decide +kernel
theorem dX6_goWrite_55 : decode cX6_goWrite 55 = .ok (.iload 4, 2) := by decide +kernel
theorem dX6_goWrite_57 : decode cX6_goWrite 57 = .ok (.invokestatic 80, 3) := by decide +kernel
theorem dX6_goWrite_60 : decode cX6_goWrite 60 = .ok (.iload_n 3, 1) := by decide +kernel
theorem dX6_goWrite_61 : decode cX6_goWrite 61 = .ok (.iadd, 1) := by decide +kernel
theorem dX6_goWrite_62 : decode cX6_goWrite 62 = .ok (.aload_n 0, 1) := by decide +kernel
theorem dX6_goWrite_63 : decode cX6_goWrite 63 = .ok (.sipush 611, 3) := by decide +kernel
theorem dX6_goWrite_66 : decode cX6_goWrite 66 = .ok (.iaload, 1) := by decide +kernel
theorem dX6_goWrite_67 : decode cX6_goWrite 67 = .ok (.if_icmp .le 7, 3) := by decide +kernel
theorem dX6_goWrite_70 : decode cX6_goWrite 70 = .ok (.iconst 1, 1) := by decide +kernel
theorem dX6_goWrite_71 : decode cX6_goWrite 71 = .ok (.goto 4, 3) := by decide +kernel
theorem dX6_goWrite_74 : decode cX6_goWrite 74 = .ok (.iconst 0, 1) := by decide +kernel
theorem dX6_goWrite_75 : decode cX6_goWrite 75 = .ok (.istore 5, 2) := by decide +kernel
theorem dX6_goWrite_77 : decode cX6_goWrite 77 = .ok (.aload_n 0, 1) := by decide +kernel
theorem dX6_goWrite_78 : decode cX6_goWrite 78 = .ok (.iconst 0, 1) := by decide +kernel
theorem dX6_goWrite_79 : decode cX6_goWrite 79 = .ok (.iload 4, 2) := by decide +kernel
theorem dX6_goWrite_81 : decode cX6_goWrite 81 = .ok (.iadd, 1) := by decide +kernel
theorem dX6_goWrite_82 : decode cX6_goWrite 82 = .ok (.iload_n 1, 1) := by decide +kernel
theorem dX6_goWrite_83 : decode cX6_goWrite 83 = .ok (.iload 5, 2) := by decide +kernel
theorem dX6_goWrite_85 : decode cX6_goWrite 85 = .ok (.ifCond .eq 8, 3) := by decide +kernel
theorem dX6_goWrite_88 : decode cX6_goWrite 88 = .ok (.bipush 8, 2) := by decide +kernel
theorem dX6_goWrite_90 : decode cX6_goWrite 90 = .ok (.goto 4, 3) := by decide +kernel
theorem dX6_goWrite_93 : decode cX6_goWrite 93 = .ok (.iconst 0, 1) := by decide +kernel
theorem dX6_goWrite_94 : decode cX6_goWrite 94 = .ok (.iadd, 1) := by decide +kernel
theorem dX6_goWrite_95 : decode cX6_goWrite 95 = .ok (.bipush 16, 2) := by decide +kernel
theorem dX6_goWrite_97 : decode cX6_goWrite 97 = .ok (.iload_n 2, 1) := by decide +kernel
theorem dX6_goWrite_98 : decode cX6_goWrite 98 = .ok (.imul, 1) := by decide +kernel
theorem dX6_goWrite_99 : decode cX6_goWrite 99 = .ok (.iadd, 1) := by decide +kernel
theorem dX6_goWrite_100 : decode cX6_goWrite 100 = .ok (.sipush 1600, 3) := by decide +kernel
theorem dX6_goWrite_103 : decode cX6_goWrite 103 = .ok (.iload_n 3, 1) := by decide +kernel
theorem dX6_goWrite_104 : decode cX6_goWrite 104 = .ok (.imul, 1) := by decide +kernel
theorem dX6_goWrite_105 : decode cX6_goWrite 105 = .ok (.iadd, 1) := by decide +kernel
theorem dX6_goWrite_106 : decode cX6_goWrite 106 = .ok (.iastore, 1) := by decide +kernel
theorem dX6_goWrite_107 : decode cX6_goWrite 107 = .ok (.aload_n 0, 1) := by decide +kernel
theorem dX6_goWrite_108 : decode cX6_goWrite 108 = .ok (.sipush 200, 3) := by decide +kernel
theorem dX6_goWrite_111 : decode cX6_goWrite 111 = .ok (.iload 4, 2) := by decide +kernel
theorem dX6_goWrite_113 : decode cX6_goWrite 113 = .ok (.iadd, 1) := by decide +kernel
theorem dX6_goWrite_114 : decode cX6_goWrite 114 = .ok (.aload_n 0, 1) := by decide +kernel
theorem dX6_goWrite_115 : decode cX6_goWrite 115 = .ok (.sipush 616, 3) := by decide +kernel
theorem dX6_goWrite_118 : decode cX6_goWrite 118 = .ok (.iaload, 1) := by decide +kernel
theorem dX6_goWrite_119 : decode cX6_goWrite 119 = .ok (.iastore, 1) := by decide +kernel
theorem dX6_goWrite_120 : decode cX6_goWrite 120 = .ok (.aload_n 0, 1) := by decide +kernel
theorem dX6_goWrite_121 : decode cX6_goWrite 121 = .ok (.sipush 401, 3) := by decide +kernel
theorem dX6_goWrite_124 : decode cX6_goWrite 124 = .ok (.dup2, 1) := by decide +kernel
theorem dX6_goWrite_125 : decode cX6_goWrite 125 = .ok (.iaload, 1) := by decide +kernel
theorem dX6_goWrite_126 : decode cX6_goWrite 126 = .ok (.iconst 1, 1) := by decide +kernel
theorem dX6_goWrite_127 : decode cX6_goWrite 127 = .ok (.iadd, 1) := by decide +kernel
theorem dX6_goWrite_128 : decode cX6_goWrite 128 = .ok (.iastore, 1) := by decide +kernel
theorem dX6_goWrite_129 : decode cX6_goWrite 129 = .ok (.iload 4, 2) := by decide +kernel
theorem dX6_goWrite_131 : decode cX6_goWrite 131 = .ok (.ireturn, 1) := by decide +kernel
def PJ_M_goWrite_94 (x1 : Int32) (x2 : Int32) (x3 : Int32) (y2 : Int32) (y3 : Int32) (y4 : Int32) (u0 : Int32) (u1 : Int32) (u2 : Int32) (v0 : (Nat → Int32)) (Q : Int32 → (Nat → Int32) → Prop) : Prop := vp_in u2 621 ∧ (∀ v11_, v11_ = (upd v0 (Int32.toNatClampNeg u2) (((u1 + u0) + (16 * y2)) + (1600 * y3))) → (vp_in 616 621 ∧ (vp_in (200 + y4) 621 ∧ (∀ v20_, v20_ = (upd v11_ (Int32.toNatClampNeg (200 + y4)) (v11_ (Int32.toNatClampNeg 616))) → (vp_in 401 621 ∧ (vp_in 401 621 ∧ (∀ v29_, v29_ = (upd v20_ (Int32.toNatClampNeg 401) ((v20_ (Int32.toNatClampNeg 401)) + 1)) → (Q y4 v29_))))))))
def PJ_M_goWrite_77 (x1 : Int32) (x2 : Int32) (x3 : Int32) (y1 : Int32) (y2 : Int32) (y3 : Int32) (y4 : Int32) (y5 : Int32) (v0 : (Nat → Int32)) (Q : Int32 → (Nat → Int32) → Prop) : Prop := ((y5 = 0 → PJ_M_goWrite_94 x1 x2 x3 y2 y3 y4 0 y1 (0 + y4) v0 Q) ∧ (¬ y5 = 0 → PJ_M_goWrite_94 x1 x2 x3 y2 y3 y4 8 y1 (0 + y4) v0 Q))
def PJ_M_goWrite_75 (x1 : Int32) (x2 : Int32) (x3 : Int32) (y1 : Int32) (y2 : Int32) (y3 : Int32) (y4 : Int32) (u0 : Int32) (v0 : (Nat → Int32)) (Q : Int32 → (Nat → Int32) → Prop) : Prop := PJ_M_goWrite_77 x1 x2 x3 y1 y2 y3 y4 u0 v0 Q
def PJ_M_goWrite_70 (x1 : Int32) (x2 : Int32) (x3 : Int32) (y1 : Int32) (y2 : Int32) (y3 : Int32) (y4 : Int32) (v0 : (Nat → Int32)) (Q : Int32 → (Nat → Int32) → Prop) : Prop := PJ_M_goWrite_75 x1 x2 x3 y1 y2 y3 y4 1 v0 Q
def PJ_M_goWrite_22 (x1 : Int32) (x2 : Int32) (x3 : Int32) (y1 : Int32) (y2 : Int32) (y3 : Int32) (y4 : Int32) (u0 : Int32) (v0 : (Nat → Int32)) (Q : Int32 → (Nat → Int32) → Prop) : Prop := ((¬ u0 = 0 → PJ_M_goWrite_77 x1 x2 x3 y1 y2 y3 y4 u0 v0 Q) ∧ (u0 = 0 → P_M_segmentAt (y4 - 1) v0 (fun r32_ => (vp_in 610 621 ∧ ((((v0 (Int32.toNatClampNeg 610)) ≤ (y4 - r32_) → PJ_M_goWrite_70 x1 x2 x3 y1 y2 y3 y4 v0 Q) ∧ (¬ (v0 (Int32.toNatClampNeg 610)) ≤ (y4 - r32_) → P_M_sizes r32_ y4 v0 (fun r38_ => (vp_in 611 621 ∧ ((((r38_ + y3) ≤ (v0 (Int32.toNatClampNeg 611)) → PJ_M_goWrite_75 x1 x2 x3 y1 y2 y3 y4 0 v0 Q) ∧ (¬ (r38_ + y3) ≤ (v0 (Int32.toNatClampNeg 611)) → PJ_M_goWrite_70 x1 x2 x3 y1 y2 y3 y4 v0 Q))))))))))))
def P_M_goWrite (x1 : Int32) (x2 : Int32) (x3 : Int32) (v0 : (Nat → Int32)) (Q : Int32 → (Nat → Int32) → Prop) : Prop := vp_in 401 621 ∧ (vp_in 400 621 ∧ (((¬ (v0 (Int32.toNatClampNeg 400)) = (v0 (Int32.toNatClampNeg 401)) → PJ_M_goWrite_22 x1 x2 x3 x1 x2 x3 (v0 (Int32.toNatClampNeg 401)) 0 v0 Q) ∧ ((v0 (Int32.toNatClampNeg 400)) = (v0 (Int32.toNatClampNeg 401)) → PJ_M_goWrite_22 x1 x2 x3 x1 x2 x3 (v0 (Int32.toNatClampNeg 401)) 1 v0 Q))))
set_option maxRecDepth 100000 in
theorem s_M_goWrite {l : Launch} {D : zD} {B : Nat} {sa : Nat → Nat} (hfl : l.stackTraces = false) {z : Nat} {G : zG} {b0 : Nat} {x1 : Int32} {x2 : Int32} {x3 : Int32} {v0 : (Nat → Int32)} {Q : Int32 → (Nat → Int32) → Prop} (h0 : G b0 = some (zia 621 v0)) (h : P_M_goWrite x1 x2 x3 v0 Q) : zSp l D B sa yX6_goWrite cX6_goWrite 7 (some .int) 2 45 0 0 [.ref b0, .int x1, .int x2, .int x3] z G (zRi fun r z' G' => z = z' ∧ ∃ w, G' b0 = some (zia 621 w) ∧ Fr b0 1 G G' ∧ Q r w) := by
  unfold P_M_goWrite at h
  refine z_ofW (by decide +kernel) hfl [some (.ref b0), some (.int x1), some (.int x2), some (.int x3), none, none, none] rfl (Nat.le_of_ble_eq_true rfl) (fun p e s m args below meth c O hret hlk hnm => ?_)
  have O : zO p l s m args c D B sa 7 cX6_goWrite RX6 := O
  have HJ94 : ∀ (y2 : Int32) (y3 : Int32) (y4 : Int32) (u0 : Int32) (u1 : Int32) (u2 : Int32) (v0 : (Nat → Int32)) (G9 : zG) (g0 : G9 b0 = some (zia 621 v0)) (gF : Fr b0 1 G G9), PJ_M_goWrite_94 x1 x2 x3 y2 y3 y4 u0 u1 u2 v0 Q → zT p l e (zrm 2 45 0 0) s m args below meth c (zEnd below D B (zRi fun r z' G' => z = z' ∧ ∃ w, G' b0 = some (zia 621 w) ∧ Fr b0 1 G G' ∧ Q r w) args s 0 0) D B 7 0 0 94 [.int u0, .int u1, .int u2, .ref b0] [some (.ref b0), none, some (.int y2), some (.int y3), some (.int y4), none, none] z G9 := by
    intro y2 y3 y4 u0 u1 u2 v0 G9 g0 gF h
    unfold PJ_M_goWrite_94 at h
    refine z_iadd O dX6_goWrite_94 ?_
    refine z_bipush (v := 16) O dX6_goWrite_95 (by decide) ?_
    refine z_iload_n O dX6_goWrite_97 rfl rfl ?_
    refine z_imul O dX6_goWrite_98 ?_
    refine z_iadd O dX6_goWrite_99 ?_
    refine z_sipush (v := 1600) O dX6_goWrite_100 (by decide) ?_
    refine z_iload_n O dX6_goWrite_103 rfl rfl ?_
    refine z_imul O dX6_goWrite_104 ?_
    refine z_iadd O dX6_goWrite_105 ?_
    obtain ⟨q6_, h⟩ := h
    refine y_iast O dX6_goWrite_106 g0 q6_ (fun G7_ hw8_ => ?_)
    have k9_ := hw8_.1
    have f10_ := hw8_.fr
    obtain ⟨v11_, ev11_⟩ : ∃ w, w = (upd v0 (Int32.toNatClampNeg u2) (((u1 + u0) + (16 * y2)) + (1600 * y3))) := ⟨_, rfl⟩
    have h := h v11_ ev11_
    have k12_ : G7_ b0 = some (zia 621 v11_) := by rw [ev11_]; exact k9_
    have F13_ : Fr b0 1 G G7_ := Fr.trans gF f10_
    refine z_aload_n O dX6_goWrite_107 rfl rfl ?_
    refine z_sipush (v := 200) O dX6_goWrite_108 (by decide) ?_
    refine z_iload O dX6_goWrite_111 rfl ?_
    refine z_iadd O dX6_goWrite_113 ?_
    refine z_aload_n O dX6_goWrite_114 rfl rfl ?_
    refine z_sipush (v := 616) O dX6_goWrite_115 (by decide) ?_
    obtain ⟨q14_, h⟩ := h
    refine z_iald O dX6_goWrite_118 k12_ q14_ ?_
    obtain ⟨q15_, h⟩ := h
    refine y_iast O dX6_goWrite_119 k12_ q15_ (fun G16_ hw17_ => ?_)
    have k18_ := hw17_.1
    have f19_ := hw17_.fr
    obtain ⟨v20_, ev20_⟩ : ∃ w, w = (upd v11_ (Int32.toNatClampNeg (200 + y4)) (v11_ (Int32.toNatClampNeg 616))) := ⟨_, rfl⟩
    have h := h v20_ ev20_
    have k21_ : G16_ b0 = some (zia 621 v20_) := by rw [ev20_]; exact k18_
    have F22_ : Fr b0 1 G G16_ := Fr.trans F13_ f19_
    refine z_aload_n O dX6_goWrite_120 rfl rfl ?_
    refine z_sipush (v := 401) O dX6_goWrite_121 (by decide) ?_
    refine z_dup2 O dX6_goWrite_124 rfl rfl ?_
    obtain ⟨q23_, h⟩ := h
    refine z_iald O dX6_goWrite_125 k21_ q23_ ?_
    refine z_iconst (v := 1) O dX6_goWrite_126 (by decide) ?_
    refine z_iadd O dX6_goWrite_127 ?_
    obtain ⟨q24_, h⟩ := h
    refine y_iast O dX6_goWrite_128 k21_ q24_ (fun G25_ hw26_ => ?_)
    have k27_ := hw26_.1
    have f28_ := hw26_.fr
    obtain ⟨v29_, ev29_⟩ : ∃ w, w = (upd v20_ (Int32.toNatClampNeg 401) ((v20_ (Int32.toNatClampNeg 401)) + 1)) := ⟨_, rfl⟩
    have h := h v29_ ev29_
    have k30_ : G25_ b0 = some (zia 621 v29_) := by rw [ev29_]; exact k27_
    have F31_ : Fr b0 1 G G25_ := Fr.trans F22_ f28_
    refine z_iload O dX6_goWrite_129 rfl ?_
    exact z_iret O hret hlk dX6_goWrite_131 (Nat.le_of_ble_eq_true rfl) (Nat.le_of_ble_eq_true rfl) ⟨_, rfl, rfl, _, k30_, F31_, h⟩
  have HJ77 : ∀ (y1 : Int32) (y2 : Int32) (y3 : Int32) (y4 : Int32) (y5 : Int32) (v0 : (Nat → Int32)) (G9 : zG) (g0 : G9 b0 = some (zia 621 v0)) (gF : Fr b0 1 G G9), PJ_M_goWrite_77 x1 x2 x3 y1 y2 y3 y4 y5 v0 Q → zT p l e (zrm 2 45 0 0) s m args below meth c (zEnd below D B (zRi fun r z' G' => z = z' ∧ ∃ w, G' b0 = some (zia 621 w) ∧ Fr b0 1 G G' ∧ Q r w) args s 0 0) D B 7 0 0 77 [] [some (.ref b0), some (.int y1), some (.int y2), some (.int y3), some (.int y4), some (.int y5), none] z G9 := by
    intro y1 y2 y3 y4 y5 v0 G9 g0 gF h
    unfold PJ_M_goWrite_77 at h
    refine z_aload_n O dX6_goWrite_77 rfl rfl ?_
    refine z_iconst (v := 0) O dX6_goWrite_78 (by decide) ?_
    refine z_iload O dX6_goWrite_79 rfl ?_
    refine z_iadd O dX6_goWrite_81 ?_
    refine z_iload_n O dX6_goWrite_82 rfl rfl ?_
    refine z_iload O dX6_goWrite_83 rfl ?_
    refine z_if_eq (tgt := 93) O dX6_goWrite_85 (by decide) (fun c5_ => ?_) (fun c5_ => ?_)
    · have h := h.1 c5_
      refine z_iconst (v := 0) O dX6_goWrite_93 (by decide) ?_
      exact z_subL (L' := [some (.ref b0), none, some (.int y2), some (.int y3), some (.int y4), none, none]) (zLe.sub (And.intro rfl (And.intro rfl (And.intro rfl (And.intro rfl True.intro))))) (HJ94 y2 y3 y4 0 y1 (0 + y4) v0 G9 g0 gF h)
    · have h := h.2 c5_
      refine z_bipush (v := 8) O dX6_goWrite_88 (by decide) ?_
      refine z_goto (tgt := 94) O dX6_goWrite_90 (by decide) ?_
      exact z_subL (L' := [some (.ref b0), none, some (.int y2), some (.int y3), some (.int y4), none, none]) (zLe.sub (And.intro rfl (And.intro rfl (And.intro rfl (And.intro rfl True.intro))))) (HJ94 y2 y3 y4 8 y1 (0 + y4) v0 G9 g0 gF h)
  have HJ75 : ∀ (y1 : Int32) (y2 : Int32) (y3 : Int32) (y4 : Int32) (u0 : Int32) (v0 : (Nat → Int32)) (G9 : zG) (g0 : G9 b0 = some (zia 621 v0)) (gF : Fr b0 1 G G9), PJ_M_goWrite_75 x1 x2 x3 y1 y2 y3 y4 u0 v0 Q → zT p l e (zrm 2 45 0 0) s m args below meth c (zEnd below D B (zRi fun r z' G' => z = z' ∧ ∃ w, G' b0 = some (zia 621 w) ∧ Fr b0 1 G G' ∧ Q r w) args s 0 0) D B 7 0 0 75 [.int u0] [some (.ref b0), some (.int y1), some (.int y2), some (.int y3), some (.int y4), none, none] z G9 := by
    intro y1 y2 y3 y4 u0 v0 G9 g0 gF h
    unfold PJ_M_goWrite_75 at h
    refine z_istore (L' := [some (.ref b0), some (.int y1), some (.int y2), some (.int y3), some (.int y4), some (.int u0), none]) O dX6_goWrite_75 (by decide) rfl ?_
    exact z_subL (L' := [some (.ref b0), some (.int y1), some (.int y2), some (.int y3), some (.int y4), some (.int u0), none]) (zLe.sub (And.intro rfl (And.intro rfl (And.intro rfl (And.intro rfl (And.intro rfl (And.intro rfl True.intro))))))) (HJ77 y1 y2 y3 y4 u0 v0 G9 g0 gF h)
  have HJ70 : ∀ (y1 : Int32) (y2 : Int32) (y3 : Int32) (y4 : Int32) (v0 : (Nat → Int32)) (G9 : zG) (g0 : G9 b0 = some (zia 621 v0)) (gF : Fr b0 1 G G9), PJ_M_goWrite_70 x1 x2 x3 y1 y2 y3 y4 v0 Q → zT p l e (zrm 2 45 0 0) s m args below meth c (zEnd below D B (zRi fun r z' G' => z = z' ∧ ∃ w, G' b0 = some (zia 621 w) ∧ Fr b0 1 G G' ∧ Q r w) args s 0 0) D B 7 0 0 70 [] [some (.ref b0), some (.int y1), some (.int y2), some (.int y3), some (.int y4), none, none] z G9 := by
    intro y1 y2 y3 y4 v0 G9 g0 gF h
    unfold PJ_M_goWrite_70 at h
    refine z_iconst (v := 1) O dX6_goWrite_70 (by decide) ?_
    refine z_goto (tgt := 75) O dX6_goWrite_71 (by decide) ?_
    exact z_subL (L' := [some (.ref b0), some (.int y1), some (.int y2), some (.int y3), some (.int y4), none, none]) (zLe.sub (And.intro rfl (And.intro rfl (And.intro rfl (And.intro rfl (And.intro rfl True.intro)))))) (HJ75 y1 y2 y3 y4 1 v0 G9 g0 gF h)
  have HJ22 : ∀ (y1 : Int32) (y2 : Int32) (y3 : Int32) (y4 : Int32) (u0 : Int32) (v0 : (Nat → Int32)) (G9 : zG) (g0 : G9 b0 = some (zia 621 v0)) (gF : Fr b0 1 G G9), PJ_M_goWrite_22 x1 x2 x3 y1 y2 y3 y4 u0 v0 Q → zT p l e (zrm 2 45 0 0) s m args below meth c (zEnd below D B (zRi fun r z' G' => z = z' ∧ ∃ w, G' b0 = some (zia 621 w) ∧ Fr b0 1 G G' ∧ Q r w) args s 0 0) D B 7 0 0 22 [.int u0] [some (.ref b0), some (.int y1), some (.int y2), some (.int y3), some (.int y4), none, none] z G9 := by
    intro y1 y2 y3 y4 u0 v0 G9 g0 gF h
    unfold PJ_M_goWrite_22 at h
    refine z_istore (L' := [some (.ref b0), some (.int y1), some (.int y2), some (.int y3), some (.int y4), some (.int u0), none]) O dX6_goWrite_22 (by decide) rfl ?_
    refine z_iload O dX6_goWrite_24 rfl ?_
    refine z_if_ne (tgt := 77) O dX6_goWrite_26 (by decide) (fun c4_ => ?_) (fun c4_ => ?_)
    · have h := h.1 c4_
      exact z_subL (L' := [some (.ref b0), some (.int y1), some (.int y2), some (.int y3), some (.int y4), some (.int u0), none]) (zLe.sub (And.intro rfl (And.intro rfl (And.intro rfl (And.intro rfl (And.intro rfl (And.intro rfl True.intro))))))) (HJ77 y1 y2 y3 y4 u0 v0 G9 g0 gF h)
    · have h := h.2 c4_
      refine z_aload_n O dX6_goWrite_29 rfl rfl ?_
      refine z_iload O dX6_goWrite_30 rfl ?_
      refine z_iconst (v := 1) O dX6_goWrite_32 (by decide) ?_
      refine z_isub O dX6_goWrite_33 ?_
      refine z_callSi (As := [.ref b0, .int (y4 - 1)]) (st := []) O (s_M_segmentAt hfl g0 h) wy_X6_segmentAt wl_RX6_116 dX6_goWrite_34 rfl rfl ⟨Nat.le_of_ble_eq_true rfl, Nat.le_of_ble_eq_true rfl⟩ (Nat.le_of_ble_eq_true rfl) ⟨Nat.le_of_ble_eq_true rfl, Nat.le_of_ble_eq_true rfl⟩ (fun r32_ z33_ G34_ hq35_ => ?_)
      obtain ⟨rfl, rfl, h⟩ := hq35_
      refine z_istore (L' := [some (.ref b0), some (.int y1), some (.int y2), some (.int y3), some (.int y4), some (.int u0), some (.int r32_)]) O dX6_goWrite_37 (by decide) rfl ?_
      refine z_iload O dX6_goWrite_39 rfl ?_
      refine z_iload O dX6_goWrite_41 rfl ?_
      refine z_isub O dX6_goWrite_43 ?_
      refine z_aload_n O dX6_goWrite_44 rfl rfl ?_
      refine z_sipush (v := 610) O dX6_goWrite_45 (by decide) ?_
      obtain ⟨q36_, h⟩ := h
      refine z_iald O dX6_goWrite_48 g0 q36_ ?_
      refine z_icmp_ge (tgt := 70) O dX6_goWrite_49 (by decide) (fun c37_ => ?_) (fun c37_ => ?_)
      · have h := h.1 c37_
        exact z_subL (L' := [some (.ref b0), some (.int y1), some (.int y2), some (.int y3), some (.int y4), none, none]) (zLe.sub (And.intro rfl (And.intro rfl (And.intro rfl (And.intro rfl (And.intro rfl True.intro)))))) (HJ70 y1 y2 y3 y4 v0 G9 g0 gF h)
      · have h := h.2 c37_
        refine z_aload_n O dX6_goWrite_52 rfl rfl ?_
        refine z_iload O dX6_goWrite_53 rfl ?_
        refine z_iload O dX6_goWrite_55 rfl ?_
        refine z_callSi (As := [.ref b0, .int r32_, .int y4]) (st := []) O (s_M_sizes hfl g0 h) wy_X6_sizes wl_RX6_80 dX6_goWrite_57 rfl rfl ⟨Nat.le_of_ble_eq_true rfl, Nat.le_of_ble_eq_true rfl⟩ (Nat.le_of_ble_eq_true rfl) ⟨Nat.le_of_ble_eq_true rfl, Nat.le_of_ble_eq_true rfl⟩ (fun r38_ z39_ G40_ hq41_ => ?_)
        obtain ⟨rfl, rfl, h⟩ := hq41_
        refine z_iload_n O dX6_goWrite_60 rfl rfl ?_
        refine z_iadd O dX6_goWrite_61 ?_
        refine z_aload_n O dX6_goWrite_62 rfl rfl ?_
        refine z_sipush (v := 611) O dX6_goWrite_63 (by decide) ?_
        obtain ⟨q42_, h⟩ := h
        refine z_iald O dX6_goWrite_66 g0 q42_ ?_
        refine z_icmp_le (tgt := 74) O dX6_goWrite_67 (by decide) (fun c43_ => ?_) (fun c43_ => ?_)
        · have h := h.1 c43_
          refine z_iconst (v := 0) O dX6_goWrite_74 (by decide) ?_
          exact z_subL (L' := [some (.ref b0), some (.int y1), some (.int y2), some (.int y3), some (.int y4), none, none]) (zLe.sub (And.intro rfl (And.intro rfl (And.intro rfl (And.intro rfl (And.intro rfl True.intro)))))) (HJ75 y1 y2 y3 y4 0 v0 G9 g0 gF h)
        · have h := h.2 c43_
          exact z_subL (L' := [some (.ref b0), some (.int y1), some (.int y2), some (.int y3), some (.int y4), none, none]) (zLe.sub (And.intro rfl (And.intro rfl (And.intro rfl (And.intro rfl (And.intro rfl True.intro)))))) (HJ70 y1 y2 y3 y4 v0 G9 g0 gF h)
  refine z_aload_n O dX6_goWrite_0 rfl rfl ?_
  refine z_sipush (v := 401) O dX6_goWrite_1 (by decide) ?_
  obtain ⟨q1_, h⟩ := h
  refine z_iald O dX6_goWrite_4 h0 q1_ ?_
  refine z_istore (L' := [some (.ref b0), some (.int x1), some (.int x2), some (.int x3), some (.int (v0 (Int32.toNatClampNeg 401))), none, none]) O dX6_goWrite_5 (by decide) rfl ?_
  refine z_aload_n O dX6_goWrite_7 rfl rfl ?_
  refine z_sipush (v := 400) O dX6_goWrite_8 (by decide) ?_
  obtain ⟨q2_, h⟩ := h
  refine z_iald O dX6_goWrite_11 h0 q2_ ?_
  refine z_iload O dX6_goWrite_12 rfl ?_
  refine z_icmp_ne (tgt := 21) O dX6_goWrite_14 (by decide) (fun c3_ => ?_) (fun c3_ => ?_)
  · have h := h.1 c3_
    refine z_iconst (v := 0) O dX6_goWrite_21 (by decide) ?_
    exact z_subL (L' := [some (.ref b0), some (.int x1), some (.int x2), some (.int x3), some (.int (v0 (Int32.toNatClampNeg 401))), none, none]) (zLe.sub (And.intro rfl (And.intro rfl (And.intro rfl (And.intro rfl (And.intro rfl True.intro)))))) (HJ22 x1 x2 x3 (v0 (Int32.toNatClampNeg 401)) 0 v0 G h0 Fr.rf h)
  · have h := h.2 c3_
    refine z_iconst (v := 1) O dX6_goWrite_17 (by decide) ?_
    refine z_goto (tgt := 22) O dX6_goWrite_18 (by decide) ?_
    exact z_subL (L' := [some (.ref b0), some (.int x1), some (.int x2), some (.int x3), some (.int (v0 (Int32.toNatClampNeg 401))), none, none]) (zLe.sub (And.intro rfl (And.intro rfl (And.intro rfl (And.intro rfl (And.intro rfl True.intro)))))) (HJ22 x1 x2 x3 (v0 (Int32.toNatClampNeg 401)) 1 v0 G h0 Fr.rf h)

theorem dX6_canJoin_0 : decode cX6_canJoin 0 = .ok (.sipush 530, 3) := by decide +kernel
theorem dX6_canJoin_3 : decode cX6_canJoin 3 = .ok (.bipush 10, 2) := by decide +kernel
theorem dX6_canJoin_5 : decode cX6_canJoin 5 = .ok (.iload_n 1, 1) := by decide +kernel
theorem dX6_canJoin_6 : decode cX6_canJoin 6 = .ok (.imul, 1) := by decide +kernel
theorem dX6_canJoin_7 : decode cX6_canJoin 7 = .ok (.iadd, 1) := by decide +kernel
theorem dX6_canJoin_8 : decode cX6_canJoin 8 = .ok (.istore 4, 2) := by decide +kernel
theorem dX6_canJoin_10 : decode cX6_canJoin 10 = .ok (.aload_n 0, 1) := by decide +kernel
theorem dX6_canJoin_11 : decode cX6_canJoin 11 = .ok (.iload_n 1, 1) := by decide +kernel
theorem dX6_canJoin_12 : decode cX6_canJoin 12 = .ok (.invokestatic 65, 3) := by decide +kernel
theorem dX6_canJoin_15 : decode cX6_canJoin 15 = .ok (.iconst 0, 1) := by decide +kernel
theorem dX6_canJoin_16 : decode cX6_canJoin 16 = .ok (.iadd, 1) := by decide +kernel
theorem dX6_canJoin_17 : decode cX6_canJoin 17 = .ok (.iaload, 1) := by decide +kernel
theorem dX6_canJoin_18 : decode cX6_canJoin 18 = .ok (.ifCond .ne 7, 3) := by decide +kernel
theorem dX6_canJoin_21 : decode cX6_canJoin 21 = .ok (.iconst 1, 1) := by decide +kernel
theorem dX6_canJoin_22 : decode cX6_canJoin 22 = .ok (.goto 4, 3) := by decide +kernel
theorem dX6_canJoin_25 : decode cX6_canJoin 25 = .ok (.iconst 0, 1) := by decide +kernel
theorem dX6_canJoin_26 : decode cX6_canJoin 26 = .ok (.istore 5, 2) := by decide +kernel
theorem dX6_canJoin_28 : decode cX6_canJoin 28 = .ok (.iload 5, 2) := by decide +kernel
theorem dX6_canJoin_30 : decode cX6_canJoin 30 = .ok (.ifCond .eq 38, 3) := by decide +kernel
theorem dX6_canJoin_33 : decode cX6_canJoin 33 = .ok (.iload_n 2, 1) := by decide +kernel
theorem dX6_canJoin_34 : decode cX6_canJoin 34 = .ok (.iconst 2, 1) := by decide +kernel
theorem dX6_canJoin_35 : decode cX6_canJoin 35 = .ok (.if_icmp .lt 29, 3) := by decide +kernel
theorem dX6_canJoin_38 : decode cX6_canJoin 38 = .ok (.aload_n 0, 1) := by decide +kernel
theorem dX6_canJoin_39 : decode cX6_canJoin 39 = .ok (.iload 4, 2) := by decide +kernel
theorem dX6_canJoin_41 : decode cX6_canJoin 41 = .ok (.iaload, 1) := by decide +kernel
theorem dX6_canJoin_42 : decode cX6_canJoin 42 = .ok (.iconst 1, 1) := by decide +kernel
theorem dX6_canJoin_43 : decode cX6_canJoin 43 = .ok (.if_icmp .ne 25, 3) := by decide +kernel
theorem dX6_canJoin_46 : decode cX6_canJoin 46 = .ok (.iload_n 3, 1) := by decide +kernel
theorem dX6_canJoin_47 : decode cX6_canJoin 47 = .ok (.ifCond .eq 17, 3) := by decide +kernel
theorem dX6_canJoin_50 : decode cX6_canJoin 50 = .ok (.aload_n 0, 1) := by decide +kernel
theorem dX6_canJoin_51 : decode cX6_canJoin 51 = .ok (.iload 4, 2) := by decide +kernel
theorem dX6_canJoin_53 : decode cX6_canJoin 53 = .ok (.iconst 1, 1) := by decide +kernel
theorem dX6_canJoin_54 : decode cX6_canJoin 54 = .ok (.iadd, 1) := by decide +kernel
theorem dX6_canJoin_55 : decode cX6_canJoin 55 = .ok (.iaload, 1) := by decide +kernel
theorem dX6_canJoin_56 : decode cX6_canJoin 56 = .ok (.aload_n 0, 1) := by decide +kernel
theorem dX6_canJoin_57 : decode cX6_canJoin 57 = .ok (.sipush 400, 3) := by decide +kernel
theorem dX6_canJoin_60 : decode cX6_canJoin 60 = .ok (.iaload, 1) := by decide +kernel
theorem dX6_canJoin_61 : decode cX6_canJoin 61 = .ok (.if_icmp .lt 7, 3) := by decide +kernel
theorem dX6_canJoin_64 : decode cX6_canJoin 64 = .ok (.iconst 1, 1) := by decide +kernel
theorem dX6_canJoin_65 : decode cX6_canJoin 65 = .ok (.goto 4, 3) := by decide +kernel
theorem dX6_canJoin_68 : decode cX6_canJoin 68 = .ok (.iconst 0, 1) := by decide +kernel
theorem dX6_canJoin_69 : decode cX6_canJoin 69 = .ok (.ireturn, 1) := by decide +kernel
def PJ_M_canJoin_26 (x1 : Int32) (x2 : Int32) (x3 : Int32) (v0 : (Nat → Int32)) (y2 : Int32) (y3 : Int32) (y4 : Int32) (u0 : Int32) (Q : Int32 → Prop) : Prop := ((u0 = 0 → Q 0) ∧ (¬ u0 = 0 → ((y2 < 2 → Q 1) ∧ (¬ y2 < 2 → vp_in y4 621 ∧ (((¬ (v0 (Int32.toNatClampNeg y4)) = 1 → Q 0) ∧ ((v0 (Int32.toNatClampNeg y4)) = 1 → ((y3 = 0 → Q 1) ∧ (¬ y3 = 0 → vp_in (y4 + 1) 621 ∧ (vp_in 400 621 ∧ ((((v0 (Int32.toNatClampNeg (y4 + 1))) < (v0 (Int32.toNatClampNeg 400)) → Q 0) ∧ (¬ (v0 (Int32.toNatClampNeg (y4 + 1))) < (v0 (Int32.toNatClampNeg 400)) → Q 1)))))))))))))
def P_M_canJoin (x1 : Int32) (x2 : Int32) (x3 : Int32) (v0 : (Nat → Int32)) (Q : Int32 → Prop) : Prop := P_M_reader x1 (fun r1_ => (vp_in (r1_ + 0) 621 ∧ (((¬ (v0 (Int32.toNatClampNeg (r1_ + 0))) = 0 → PJ_M_canJoin_26 x1 x2 x3 v0 x2 x3 (530 + (10 * x1)) 0 Q) ∧ ((v0 (Int32.toNatClampNeg (r1_ + 0))) = 0 → PJ_M_canJoin_26 x1 x2 x3 v0 x2 x3 (530 + (10 * x1)) 1 Q)))))
set_option maxRecDepth 100000 in
theorem s_M_canJoin {l : Launch} {D : zD} {B : Nat} {sa : Nat → Nat} (hfl : l.stackTraces = false) {z : Nat} {G : zG} {b0 : Nat} {x1 : Int32} {x2 : Int32} {x3 : Int32} {v0 : (Nat → Int32)} {Q : Int32 → Prop} (h0 : G b0 = some (zia 621 v0)) (h : P_M_canJoin x1 x2 x3 v0 Q) : zSp l D B sa yX6_canJoin cX6_canJoin 6 (some .boolean) 1 20 0 0 [.ref b0, .int x1, .int x2, .int x3] z G (zRi fun r z' G' => z = z' ∧ G = G' ∧ Q r) := by
  unfold P_M_canJoin at h
  refine z_ofW (by decide +kernel) hfl [some (.ref b0), some (.int x1), some (.int x2), some (.int x3), none, none] rfl (Nat.le_of_ble_eq_true rfl) (fun p e s m args below meth c O hret hlk hnm => ?_)
  have O : zO p l s m args c D B sa 6 cX6_canJoin RX6 := O
  have HJ26 : ∀ (y2 : Int32) (y3 : Int32) (y4 : Int32) (u0 : Int32), PJ_M_canJoin_26 x1 x2 x3 v0 y2 y3 y4 u0 Q → zT p l e (zrm 1 20 0 0) s m args below meth c (zEnd below D B (zRi fun r z' G' => z = z' ∧ G = G' ∧ Q r) args s 0 0) D B 6 0 0 26 [.int u0] [some (.ref b0), none, some (.int y2), some (.int y3), some (.int y4), none] z G := by
    intro y2 y3 y4 u0 h
    unfold PJ_M_canJoin_26 at h
    refine z_istore (L' := [some (.ref b0), none, some (.int y2), some (.int y3), some (.int y4), some (.int u0)]) O dX6_canJoin_26 (by decide) rfl ?_
    refine z_iload O dX6_canJoin_28 rfl ?_
    refine z_if_eq (tgt := 68) O dX6_canJoin_30 (by decide) (fun c7_ => ?_) (fun c7_ => ?_)
    · have h := h.1 c7_
      refine z_iconst (v := 0) O dX6_canJoin_68 (by decide) ?_
      exact z_zret O hret rfl hlk dX6_canJoin_69 (Nat.le_of_ble_eq_true rfl) (Nat.le_of_ble_eq_true rfl) ⟨_, rfl, rfl, rfl, h⟩
    · have h := h.2 c7_
      refine z_iload_n O dX6_canJoin_33 rfl rfl ?_
      refine z_iconst (v := 2) O dX6_canJoin_34 (by decide) ?_
      refine z_icmp_lt (tgt := 64) O dX6_canJoin_35 (by decide) (fun c8_ => ?_) (fun c8_ => ?_)
      · have h := h.1 c8_
        refine z_iconst (v := 1) O dX6_canJoin_64 (by decide) ?_
        refine z_goto (tgt := 69) O dX6_canJoin_65 (by decide) ?_
        exact z_zret O hret rfl hlk dX6_canJoin_69 (Nat.le_of_ble_eq_true rfl) (Nat.le_of_ble_eq_true rfl) ⟨_, rfl, rfl, rfl, h⟩
      · have h := h.2 c8_
        refine z_aload_n O dX6_canJoin_38 rfl rfl ?_
        refine z_iload O dX6_canJoin_39 rfl ?_
        obtain ⟨q9_, h⟩ := h
        refine z_iald O dX6_canJoin_41 h0 q9_ ?_
        refine z_iconst (v := 1) O dX6_canJoin_42 (by decide) ?_
        refine z_icmp_ne (tgt := 68) O dX6_canJoin_43 (by decide) (fun c10_ => ?_) (fun c10_ => ?_)
        · have h := h.1 c10_
          refine z_iconst (v := 0) O dX6_canJoin_68 (by decide) ?_
          exact z_zret O hret rfl hlk dX6_canJoin_69 (Nat.le_of_ble_eq_true rfl) (Nat.le_of_ble_eq_true rfl) ⟨_, rfl, rfl, rfl, h⟩
        · have h := h.2 c10_
          refine z_iload_n O dX6_canJoin_46 rfl rfl ?_
          refine z_if_eq (tgt := 64) O dX6_canJoin_47 (by decide) (fun c11_ => ?_) (fun c11_ => ?_)
          · have h := h.1 c11_
            refine z_iconst (v := 1) O dX6_canJoin_64 (by decide) ?_
            refine z_goto (tgt := 69) O dX6_canJoin_65 (by decide) ?_
            exact z_zret O hret rfl hlk dX6_canJoin_69 (Nat.le_of_ble_eq_true rfl) (Nat.le_of_ble_eq_true rfl) ⟨_, rfl, rfl, rfl, h⟩
          · have h := h.2 c11_
            refine z_aload_n O dX6_canJoin_50 rfl rfl ?_
            refine z_iload O dX6_canJoin_51 rfl ?_
            refine z_iconst (v := 1) O dX6_canJoin_53 (by decide) ?_
            refine z_iadd O dX6_canJoin_54 ?_
            obtain ⟨q12_, h⟩ := h
            refine z_iald O dX6_canJoin_55 h0 q12_ ?_
            refine z_aload_n O dX6_canJoin_56 rfl rfl ?_
            refine z_sipush (v := 400) O dX6_canJoin_57 (by decide) ?_
            obtain ⟨q13_, h⟩ := h
            refine z_iald O dX6_canJoin_60 h0 q13_ ?_
            refine z_icmp_lt (tgt := 68) O dX6_canJoin_61 (by decide) (fun c14_ => ?_) (fun c14_ => ?_)
            · have h := h.1 c14_
              refine z_iconst (v := 0) O dX6_canJoin_68 (by decide) ?_
              exact z_zret O hret rfl hlk dX6_canJoin_69 (Nat.le_of_ble_eq_true rfl) (Nat.le_of_ble_eq_true rfl) ⟨_, rfl, rfl, rfl, h⟩
            · have h := h.2 c14_
              refine z_iconst (v := 1) O dX6_canJoin_64 (by decide) ?_
              refine z_goto (tgt := 69) O dX6_canJoin_65 (by decide) ?_
              exact z_zret O hret rfl hlk dX6_canJoin_69 (Nat.le_of_ble_eq_true rfl) (Nat.le_of_ble_eq_true rfl) ⟨_, rfl, rfl, rfl, h⟩
  refine z_sipush (v := 530) O dX6_canJoin_0 (by decide) ?_
  refine z_bipush (v := 10) O dX6_canJoin_3 (by decide) ?_
  refine z_iload_n O dX6_canJoin_5 rfl rfl ?_
  refine z_imul O dX6_canJoin_6 ?_
  refine z_iadd O dX6_canJoin_7 ?_
  refine z_istore (L' := [some (.ref b0), some (.int x1), some (.int x2), some (.int x3), some (.int (530 + (10 * x1))), none]) O dX6_canJoin_8 (by decide) rfl ?_
  refine z_aload_n O dX6_canJoin_10 rfl rfl ?_
  refine z_iload_n O dX6_canJoin_11 rfl rfl ?_
  refine z_callSi (As := [.int x1]) (st := [.ref b0]) O (s_M_reader hfl h) wy_X6_reader wl_RX6_65 dX6_canJoin_12 rfl rfl ⟨Nat.le_of_ble_eq_true rfl, Nat.le_of_ble_eq_true rfl⟩ (Nat.le_of_ble_eq_true rfl) ⟨Nat.le_of_ble_eq_true rfl, Nat.le_of_ble_eq_true rfl⟩ (fun r1_ z2_ G3_ hq4_ => ?_)
  obtain ⟨rfl, rfl, h⟩ := hq4_
  refine z_iconst (v := 0) O dX6_canJoin_15 (by decide) ?_
  refine z_iadd O dX6_canJoin_16 ?_
  obtain ⟨q5_, h⟩ := h
  refine z_iald O dX6_canJoin_17 h0 q5_ ?_
  refine z_if_ne (tgt := 25) O dX6_canJoin_18 (by decide) (fun c6_ => ?_) (fun c6_ => ?_)
  · have h := h.1 c6_
    refine z_iconst (v := 0) O dX6_canJoin_25 (by decide) ?_
    exact z_subL (L' := [some (.ref b0), none, some (.int x2), some (.int x3), some (.int (530 + (10 * x1))), none]) (zLe.sub (And.intro rfl (And.intro rfl (And.intro rfl (And.intro rfl True.intro))))) (HJ26 x2 x3 (530 + (10 * x1)) 0 h)
  · have h := h.2 c6_
    refine z_iconst (v := 1) O dX6_canJoin_21 (by decide) ?_
    refine z_goto (tgt := 26) O dX6_canJoin_22 (by decide) ?_
    exact z_subL (L' := [some (.ref b0), none, some (.int x2), some (.int x3), some (.int (530 + (10 * x1))), none]) (zLe.sub (And.intro rfl (And.intro rfl (And.intro rfl (And.intro rfl True.intro))))) (HJ26 x2 x3 (530 + (10 * x1)) 1 h)
