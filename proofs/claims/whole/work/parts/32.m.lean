theorem dX6_goJoin_0 : decode cX6_goJoin 0 = .ok (.iload_n 1, 1) := by decide +kernel
theorem dX6_goJoin_1 : decode cX6_goJoin 1 = .ok (.invokestatic 65, 3) := by decide +kernel
theorem dX6_goJoin_4 : decode cX6_goJoin 4 = .ok (.istore 4, 2) := by decide +kernel
theorem dX6_goJoin_6 : decode cX6_goJoin 6 = .ok (.sipush 530, 3) := by decide +kernel
theorem dX6_goJoin_9 : decode cX6_goJoin 9 = .ok (.bipush 10, 2) := by decide +kernel
theorem dX6_goJoin_11 : decode cX6_goJoin 11 = .ok (.iload_n 1, 1) := by decide +kernel
theorem dX6_goJoin_12 : decode cX6_goJoin 12 = .ok (.imul, 1) := by decide +kernel
theorem dX6_goJoin_13 : decode cX6_goJoin 13 = .ok (.iadd, 1) := by decide +kernel
theorem dX6_goJoin_14 : decode cX6_goJoin 14 = .ok (.istore 5, 2) := by decide +kernel
theorem dX6_goJoin_16 : decode cX6_goJoin 16 = .ok (.aload_n 0, 1) := by decide +kernel
theorem dX6_goJoin_17 : decode cX6_goJoin 17 = .ok (.iload 4, 2) := by decide +kernel
theorem dX6_goJoin_19 : decode cX6_goJoin 19 = .ok (.iconst 0, 1) := by decide +kernel
theorem dX6_goJoin_20 : decode cX6_goJoin 20 = .ok (.iadd, 1) := by decide +kernel
theorem dX6_goJoin_21 : decode cX6_goJoin 21 = .ok (.iconst 1, 1) := by decide +kernel
theorem dX6_goJoin_22 : decode cX6_goJoin 22 = .ok (.iastore, 1) := by decide +kernel
theorem dX6_goJoin_23 : decode cX6_goJoin 23 = .ok (.aload_n 0, 1) := by decide +kernel
theorem dX6_goJoin_24 : decode cX6_goJoin 24 = .ok (.iload 4, 2) := by decide +kernel
theorem dX6_goJoin_26 : decode cX6_goJoin 26 = .ok (.iconst 1, 1) := by decide +kernel
theorem dX6_goJoin_27 : decode cX6_goJoin 27 = .ok (.iadd, 1) := by decide +kernel
theorem dX6_goJoin_28 : decode cX6_goJoin 28 = .ok (.iload_n 2, 1) := by decide +kernel
theorem dX6_goJoin_29 : decode cX6_goJoin 29 = .ok (.ifCond .ne 11, 3) := by decide +kernel
theorem dX6_goJoin_32 : decode cX6_goJoin 32 = .ok (.aload_n 0, 1) := by decide +kernel
theorem dX6_goJoin_33 : decode cX6_goJoin 33 = .ok (.sipush 400, 3) := by decide +kernel
theorem dX6_goJoin_36 : decode cX6_goJoin 36 = .ok (.iaload, 1) := by decide +kernel
theorem dX6_goJoin_37 : decode cX6_goJoin 37 = .ok (.goto 22, 3) := by decide +kernel
theorem dX6_goJoin_40 : decode cX6_goJoin 40 = .ok (.iload_n 2, 1) := by decide +kernel
theorem dX6_goJoin_41 : decode cX6_goJoin 41 = .ok (.iconst 1, 1) := by decide +kernel
theorem dX6_goJoin_42 : decode cX6_goJoin 42 = .ok (.if_icmp .ne 11, 3) := by decide +kernel
theorem dX6_goJoin_45 : decode cX6_goJoin 45 = .ok (.aload_n 0, 1) := by decide +kernel
theorem dX6_goJoin_46 : decode cX6_goJoin 46 = .ok (.sipush 401, 3) := by decide +kernel
theorem dX6_goJoin_49 : decode cX6_goJoin 49 = .ok (.iaload, 1) := by decide +kernel
theorem dX6_goJoin_50 : decode cX6_goJoin 50 = .ok (.goto 9, 3) := by decide +kernel
theorem dX6_goJoin_53 : decode cX6_goJoin 53 = .ok (.aload_n 0, 1) := by decide +kernel
theorem dX6_goJoin_54 : decode cX6_goJoin 54 = .ok (.iload 5, 2) := by decide +kernel
theorem dX6_goJoin_56 : decode cX6_goJoin 56 = .ok (.iconst 1, 1) := by decide +kernel
theorem dX6_goJoin_57 : decode cX6_goJoin 57 = .ok (.iadd, 1) := by decide +kernel
theorem dX6_goJoin_58 : decode cX6_goJoin 58 = .ok (.iaload, 1) := by decide +kernel
theorem dX6_goJoin_59 : decode cX6_goJoin 59 = .ok (.iastore, 1) := by decide +kernel
theorem dX6_goJoin_60 : decode cX6_goJoin 60 = .ok (.aload_n 0, 1) := by decide +kernel
theorem dX6_goJoin_61 : decode cX6_goJoin 61 = .ok (.iload 4, 2) := by decide +kernel
theorem dX6_goJoin_63 : decode cX6_goJoin 63 = .ok (.iconst 2, 1) := by decide +kernel
theorem dX6_goJoin_64 : decode cX6_goJoin 64 = .ok (.iadd, 1) := by decide +kernel
theorem dX6_goJoin_65 : decode cX6_goJoin 65 = .ok (.iload_n 3, 1) := by decide +kernel
theorem dX6_goJoin_66 : decode cX6_goJoin 66 = .ok (.ifCond .eq 7, 3) := by decide +kernel
theorem dX6_goJoin_69 : decode cX6_goJoin 69 = .ok (.iconst 1, 1) := by decide +kernel
theorem dX6_goJoin_70 : decode cX6_goJoin 70 = .ok (.goto 4, 3) := by decide +kernel
theorem dX6_goJoin_73 : decode cX6_goJoin 73 = .ok (.iconst 0, 1) := by decide +kernel
theorem dX6_goJoin_74 : decode cX6_goJoin 74 = .ok (.iastore, 1) := by decide +kernel
theorem dX6_goJoin_75 : decode cX6_goJoin 75 = .ok (.aload_n 0, 1) := by decide +kernel
theorem dX6_goJoin_76 : decode cX6_goJoin 76 = .ok (.iload 4, 2) := by decide +kernel
theorem dX6_goJoin_78 : decode cX6_goJoin 78 = .ok (.iconst 3, 1) := by decide +kernel
theorem dX6_goJoin_79 : decode cX6_goJoin 79 = .ok (.iadd, 1) := by decide +kernel
theorem dX6_goJoin_80 : decode cX6_goJoin 80 = .ok (.iconst 0, 1) := by decide +kernel
theorem dX6_goJoin_81 : decode cX6_goJoin 81 = .ok (.iastore, 1) := by decide +kernel
theorem dX6_goJoin_82 : decode cX6_goJoin 82 = .ok (.aload_n 0, 1) := by decide +kernel
theorem dX6_goJoin_83 : decode cX6_goJoin 83 = .ok (.iload 4, 2) := by decide +kernel
theorem dX6_goJoin_85 : decode cX6_goJoin 85 = .ok (.iconst 4, 1) := by decide +kernel
theorem dX6_goJoin_86 : decode cX6_goJoin 86 = .ok (.iadd, 1) := by decide +kernel
theorem dX6_goJoin_87 : decode cX6_goJoin 87 = .ok (.iconst 0, 1) := by decide +kernel
theorem dX6_goJoin_88 : decode cX6_goJoin 88 = .ok (.iastore, 1) := by decide +kernel
theorem dX6_goJoin_89 : decode cX6_goJoin 89 = .ok (.aload_n 0, 1) := by decide +kernel
theorem dX6_goJoin_90 : decode cX6_goJoin 90 = .ok (.iload 4, 2) := by decide +kernel
theorem dX6_goJoin_92 : decode cX6_goJoin 92 = .ok (.iconst 5, 1) := by decide +kernel
theorem dX6_goJoin_93 : decode cX6_goJoin 93 = .ok (.iadd, 1) := by decide +kernel
theorem dX6_goJoin_94 : decode cX6_goJoin 94 = .ok (.aload_n 0, 1) := by decide +kernel
theorem dX6_goJoin_95 : decode cX6_goJoin 95 = .ok (.sipush 616, 3) := by decide +kernel
theorem dX6_goJoin_98 : decode cX6_goJoin 98 = .ok (.iaload, 1) := by decide +kernel
theorem dX6_goJoin_99 : decode cX6_goJoin 99 = .ok (.iastore, 1) := by decide +kernel
theorem dX6_goJoin_100 : decode cX6_goJoin 100 = .ok (.aload_n 0, 1) := by decide +kernel
theorem dX6_goJoin_101 : decode cX6_goJoin 101 = .ok (.iload 4, 2) := by decide +kernel
theorem dX6_goJoin_103 : decode cX6_goJoin 103 = .ok (.bipush 6, 2) := by decide +kernel
theorem dX6_goJoin_105 : decode cX6_goJoin 105 = .ok (.iadd, 1) := by decide +kernel
theorem dX6_goJoin_106 : decode cX6_goJoin 106 = .ok (.iconst 0, 1) := by decide +kernel
theorem dX6_goJoin_107 : decode cX6_goJoin 107 = .ok (.iastore, 1) := by decide +kernel
theorem dX6_goJoin_108 : decode cX6_goJoin 108 = .ok (.iconst 0, 1) := by decide +kernel
theorem dX6_goJoin_109 : decode cX6_goJoin 109 = .ok (.istore 6, 2) := by decide +kernel
theorem dX6_goJoin_111 : decode cX6_goJoin 111 = .ok (.iload 6, 2) := by decide +kernel
theorem dX6_goJoin_113 : decode cX6_goJoin 113 = .ok (.bipush 8, 2) := by decide +kernel
theorem dX6_goJoin_115 : decode cX6_goJoin 115 = .ok (.if_icmp .ge 62, 3) := by decide +kernel
theorem dX6_goJoin_118 : decode cX6_goJoin 118 = .ok (.aload_n 0, 1) := by decide +kernel
theorem dX6_goJoin_119 : decode cX6_goJoin 119 = .ok (.iload 4, 2) := by decide +kernel
theorem dX6_goJoin_121 : decode cX6_goJoin 121 = .ok (.bipush 7, 2) := by decide +kernel
theorem dX6_goJoin_123 : decode cX6_goJoin 123 = .ok (.iadd, 1) := by decide +kernel
theorem dX6_goJoin_124 : decode cX6_goJoin 124 = .ok (.iload 6, 2) := by decide +kernel
theorem dX6_goJoin_126 : decode cX6_goJoin 126 = .ok (.iadd, 1) := by decide +kernel
theorem dX6_goJoin_127 : decode cX6_goJoin 127 = .ok (.iload_n 2, 1) := by decide +kernel
theorem dX6_goJoin_128 : decode cX6_goJoin 128 = .ok (.ifCond .ne 14, 3) := by decide +kernel
theorem dX6_goJoin_131 : decode cX6_goJoin 131 = .ok (.aload_n 0, 1) := by decide +kernel
theorem dX6_goJoin_132 : decode cX6_goJoin 132 = .ok (.sipush 402, 3) := by decide +kernel
theorem dX6_goJoin_135 : decode cX6_goJoin 135 = .ok (.iload 6, 2) := by decide +kernel
theorem dX6_goJoin_137 : decode cX6_goJoin 137 = .ok (.iadd, 1) := by decide +kernel
theorem dX6_goJoin_138 : decode cX6_goJoin 138 = .ok (.iaload, 1) := by decide +kernel
theorem dX6_goJoin_139 : decode cX6_goJoin 139 = .ok (.goto 31, 3) := by decide +kernel
theorem dX6_goJoin_142 : decode cX6_goJoin 142 = .ok (.iload_n 2, 1) := by decide +kernel
theorem dX6_goJoin_143 : decode cX6_goJoin 143 = .ok (.iconst 1, 1) := by decide +kernel
theorem dX6_goJoin_144 : decode cX6_goJoin 144 = .ok (.if_icmp .ne 17, 3) := by decide +kernel
theorem dX6_goJoin_147 : decode cX6_goJoin 147 = .ok (.aload_n 0, 1) := by decide +kernel
theorem dX6_goJoin_148 : decode cX6_goJoin 148 = .ok (.iload 6, 2) := by decide +kernel
theorem dX6_goJoin_150 : decode cX6_goJoin 150 = .ok (.aload_n 0, 1) := by decide +kernel
theorem dX6_goJoin_151 : decode cX6_goJoin 151 = .ok (.sipush 401, 3) := by decide +kernel
theorem dX6_goJoin_154 : decode cX6_goJoin 154 = .ok (.iaload, 1) := by decide +kernel
theorem dX6_goJoin_155 : decode cX6_goJoin 155 = .ok (.invokestatic 119, 3) := by decide +kernel
theorem dX6_goJoin_158 : decode cX6_goJoin 158 = .ok (.goto 12, 3) := by decide +kernel
theorem dX6_goJoin_161 : decode cX6_goJoin 161 = .ok (.aload_n 0, 1) := by decide +kernel
theorem dX6_goJoin_162 : decode cX6_goJoin 162 = .ok (.iload 5, 2) := by decide +kernel
theorem dX6_goJoin_164 : decode cX6_goJoin 164 = .ok (.iconst 2, 1) := by decide +kernel
theorem dX6_goJoin_165 : decode cX6_goJoin 165 = .ok (.iadd, 1) := by decide +kernel
theorem dX6_goJoin_166 : decode cX6_goJoin 166 = .ok (.iload 6, 2) := by decide +kernel
theorem dX6_goJoin_168 : decode cX6_goJoin 168 = .ok (.iadd, 1) := by decide +kernel
theorem dX6_goJoin_169 : decode cX6_goJoin 169 = .ok (.iaload, 1) := by decide +kernel
theorem dX6_goJoin_170 : decode cX6_goJoin 170 = .ok (.iastore, 1) := by decide +kernel
theorem dX6_goJoin_171 : decode cX6_goJoin 171 = .ok (.iinc 6 1, 3) := by decide +kernel
theorem dX6_goJoin_174 : decode cX6_goJoin 174 = .ok (.goto (-63), 3) := by decide +kernel
theorem dX6_goJoin_177 : decode cX6_goJoin 177 = .ok (.aload_n 0, 1) := by decide +kernel
theorem dX6_goJoin_178 : decode cX6_goJoin 178 = .ok (.iload 4, 2) := by decide +kernel
theorem dX6_goJoin_180 : decode cX6_goJoin 180 = .ok (.iconst 1, 1) := by decide +kernel
theorem dX6_goJoin_181 : decode cX6_goJoin 181 = .ok (.iadd, 1) := by decide +kernel
theorem dX6_goJoin_182 : decode cX6_goJoin 182 = .ok (.iaload, 1) := by decide +kernel
theorem dX6_goJoin_183 : decode cX6_goJoin 183 = .ok (.ireturn, 1) := by decide +kernel
def PL_M_goJoin_111 : Nat → Int32 → Int32 → Int32 → Int32 → Int32 → Int32 → Int32 → (Nat → Int32) → (Int32 → (Nat → Int32) → Prop) → Prop
  | 0, _, _, _, _, _, _, _, _, _ => False
  | n + 1, x1, x2, x3, y2, y4, y5, y6, v0, Q => ((8 ≤ y6 → vp_in (y4 + 1) 621 ∧ (Q (v0 (Int32.toNatClampNeg (y4 + 1))) v0)) ∧ (¬ 8 ≤ y6 → ((¬ y2 = 0 → ((¬ y2 = 1 → vp_in ((y5 + 2) + y6) 621 ∧ (vp_in ((y4 + 7) + y6) 621 ∧ (∀ v76_, v76_ = (upd v0 (Int32.toNatClampNeg ((y4 + 7) + y6)) (v0 (Int32.toNatClampNeg ((y5 + 2) + y6)))) → ((fun y2 y4 y5 y6 v0 => PL_M_goJoin_111 n x1 x2 x3 y2 y4 y5 y6 v0  Q) y2 y4 y5 (y6 + 1) v76_)))) ∧ (y2 = 1 → vp_in 401 621 ∧ (P_M_told y6 (v0 (Int32.toNatClampNeg 401)) v0 (fun r80_ => (vp_in ((y4 + 7) + y6) 621 ∧ (∀ v89_, v89_ = (upd v0 (Int32.toNatClampNeg ((y4 + 7) + y6)) r80_) → ((fun y2 y4 y5 y6 v0 => PL_M_goJoin_111 n x1 x2 x3 y2 y4 y5 y6 v0  Q) y2 y4 y5 (y6 + 1) v89_)))))))) ∧ (y2 = 0 → vp_in (402 + y6) 621 ∧ (vp_in ((y4 + 7) + y6) 621 ∧ (∀ v98_, v98_ = (upd v0 (Int32.toNatClampNeg ((y4 + 7) + y6)) (v0 (Int32.toNatClampNeg (402 + y6)))) → ((fun y2 y4 y5 y6 v0 => PL_M_goJoin_111 n x1 x2 x3 y2 y4 y5 y6 v0  Q) y2 y4 y5 (y6 + 1) v98_)))))))
def PJ_M_goJoin_74 (x1 : Int32) (x2 : Int32) (x3 : Int32) (y2 : Int32) (y4 : Int32) (y5 : Int32) (u0 : Int32) (u1 : Int32) (v0 : (Nat → Int32)) (Q : Int32 → (Nat → Int32) → Prop) : Prop := vp_in u1 621 ∧ (∀ v30_, v30_ = (upd v0 (Int32.toNatClampNeg u1) u0) → (vp_in (y4 + 3) 621 ∧ (∀ v38_, v38_ = (upd v30_ (Int32.toNatClampNeg (y4 + 3)) 0) → (vp_in (y4 + 4) 621 ∧ (∀ v46_, v46_ = (upd v38_ (Int32.toNatClampNeg (y4 + 4)) 0) → (vp_in 616 621 ∧ (vp_in (y4 + 5) 621 ∧ (∀ v55_, v55_ = (upd v46_ (Int32.toNatClampNeg (y4 + 5)) (v46_ (Int32.toNatClampNeg 616))) → (vp_in (y4 + 6) 621 ∧ (∀ v63_, v63_ = (upd v55_ (Int32.toNatClampNeg (y4 + 6)) 0) → ((∃ n101_, PL_M_goJoin_111 n101_ x1 x2 x3 y2 y4 y5 0 v63_ Q))))))))))))
def PJ_M_goJoin_59 (x1 : Int32) (x2 : Int32) (x3 : Int32) (y2 : Int32) (y3 : Int32) (y4 : Int32) (y5 : Int32) (u0 : Int32) (u1 : Int32) (v0 : (Nat → Int32)) (Q : Int32 → (Nat → Int32) → Prop) : Prop := vp_in u1 621 ∧ (∀ v21_, v21_ = (upd v0 (Int32.toNatClampNeg u1) u0) → (((y3 = 0 → PJ_M_goJoin_74 x1 x2 x3 y2 y4 y5 0 (y4 + 2) v21_ Q) ∧ (¬ y3 = 0 → PJ_M_goJoin_74 x1 x2 x3 y2 y4 y5 1 (y4 + 2) v21_ Q))))
def P_M_goJoin (x1 : Int32) (x2 : Int32) (x3 : Int32) (v0 : (Nat → Int32)) (Q : Int32 → (Nat → Int32) → Prop) : Prop := P_M_reader x1 (fun r1_ => (vp_in (r1_ + 0) 621 ∧ (∀ v10_, v10_ = (upd v0 (Int32.toNatClampNeg (r1_ + 0)) 1) → (((¬ x2 = 0 → ((¬ x2 = 1 → vp_in ((530 + (10 * x1)) + 1) 621 ∧ (PJ_M_goJoin_59 x1 x2 x3 x2 x3 r1_ (530 + (10 * x1)) (v10_ (Int32.toNatClampNeg ((530 + (10 * x1)) + 1))) (r1_ + 1) v10_ Q)) ∧ (x2 = 1 → vp_in 401 621 ∧ (PJ_M_goJoin_59 x1 x2 x3 x2 x3 r1_ (530 + (10 * x1)) (v10_ (Int32.toNatClampNeg 401)) (r1_ + 1) v10_ Q)))) ∧ (x2 = 0 → vp_in 400 621 ∧ (PJ_M_goJoin_59 x1 x2 x3 x2 x3 r1_ (530 + (10 * x1)) (v10_ (Int32.toNatClampNeg 400)) (r1_ + 1) v10_ Q)))))))
set_option maxRecDepth 100000 in
theorem s_M_goJoin {l : Launch} {D : zD} {B : Nat} {sa : Nat → Nat} (hfl : l.stackTraces = false) {z : Nat} {G : zG} {b0 : Nat} {x1 : Int32} {x2 : Int32} {x3 : Int32} {v0 : (Nat → Int32)} {Q : Int32 → (Nat → Int32) → Prop} (h0 : G b0 = some (zia 621 v0)) (h : P_M_goJoin x1 x2 x3 v0 Q) : zSp l D B sa yX6_goJoin cX6_goJoin 7 (some .int) 2 45 0 0 [.ref b0, .int x1, .int x2, .int x3] z G (zRi fun r z' G' => z = z' ∧ ∃ w, G' b0 = some (zia 621 w) ∧ Fr b0 1 G G' ∧ Q r w) := by
  unfold P_M_goJoin at h
  refine z_ofW (by decide +kernel) hfl [some (.ref b0), some (.int x1), some (.int x2), some (.int x3), none, none, none] rfl (Nat.le_of_ble_eq_true rfl) (fun p e s m args below meth c O hret hlk hnm => ?_)
  have O : zO p l s m args c D B sa 7 cX6_goJoin RX6 := O
  have HL111 : ∀ (n9 : Nat)    (y2 : Int32) (y4 : Int32) (y5 : Int32) (y6 : Int32) (v0 : (Nat → Int32)) (G9 : zG) (g0 : G9 b0 = some (zia 621 v0)) (gF : Fr b0 1 G G9) (h : PL_M_goJoin_111 n9 x1 x2 x3 y2 y4 y5 y6 v0 Q), zT p l e (zrm 2 45 0 0) s m args below meth c (zEnd below D B (zRi fun r z' G' => z = z' ∧ ∃ w, G' b0 = some (zia 621 w) ∧ Fr b0 1 G G' ∧ Q r w) args s 0 0) D B 7 0 0 111 [] [some (.ref b0), none, some (.int y2), none, some (.int y4), some (.int y5), some (.int y6)] z G9 := by
    intro n9   
    induction n9 with
    | zero =>
      intro _ _ _ _ _ _ _ _ h
      exact (h : False).elim
    | succ n ih =>
      intro y2 y4 y5 y6 v0 G9 g0 gF h
      rw [PL_M_goJoin_111] at h
      refine z_iload O dX6_goJoin_111 rfl ?_
      refine z_bipush (v := 8) O dX6_goJoin_113 (by decide) ?_
      refine z_icmp_ge (tgt := 177) O dX6_goJoin_115 (by decide) (fun c66_ => ?_) (fun c66_ => ?_)
      · have h := h.1 c66_
        refine z_aload_n O dX6_goJoin_177 rfl rfl ?_
        refine z_iload O dX6_goJoin_178 rfl ?_
        refine z_iconst (v := 1) O dX6_goJoin_180 (by decide) ?_
        refine z_iadd O dX6_goJoin_181 ?_
        obtain ⟨q67_, h⟩ := h
        refine z_iald O dX6_goJoin_182 g0 q67_ ?_
        exact z_iret O hret hlk dX6_goJoin_183 (Nat.le_of_ble_eq_true rfl) (Nat.le_of_ble_eq_true rfl) ⟨_, rfl, rfl, _, g0, gF, h⟩
      · have h := h.2 c66_
        refine z_aload_n O dX6_goJoin_118 rfl rfl ?_
        refine z_iload O dX6_goJoin_119 rfl ?_
        refine z_bipush (v := 7) O dX6_goJoin_121 (by decide) ?_
        refine z_iadd O dX6_goJoin_123 ?_
        refine z_iload O dX6_goJoin_124 rfl ?_
        refine z_iadd O dX6_goJoin_126 ?_
        refine z_iload_n O dX6_goJoin_127 rfl rfl ?_
        refine z_if_ne (tgt := 142) O dX6_goJoin_128 (by decide) (fun c68_ => ?_) (fun c68_ => ?_)
        · have h := h.1 c68_
          refine z_iload_n O dX6_goJoin_142 rfl rfl ?_
          refine z_iconst (v := 1) O dX6_goJoin_143 (by decide) ?_
          refine z_icmp_ne (tgt := 161) O dX6_goJoin_144 (by decide) (fun c69_ => ?_) (fun c69_ => ?_)
          · have h := h.1 c69_
            refine z_aload_n O dX6_goJoin_161 rfl rfl ?_
            refine z_iload O dX6_goJoin_162 rfl ?_
            refine z_iconst (v := 2) O dX6_goJoin_164 (by decide) ?_
            refine z_iadd O dX6_goJoin_165 ?_
            refine z_iload O dX6_goJoin_166 rfl ?_
            refine z_iadd O dX6_goJoin_168 ?_
            obtain ⟨q70_, h⟩ := h
            refine z_iald O dX6_goJoin_169 g0 q70_ ?_
            obtain ⟨q71_, h⟩ := h
            refine y_iast O dX6_goJoin_170 g0 q71_ (fun G72_ hw73_ => ?_)
            have k74_ := hw73_.1
            have f75_ := hw73_.fr
            obtain ⟨v76_, ev76_⟩ : ∃ w, w = (upd v0 (Int32.toNatClampNeg ((y4 + 7) + y6)) (v0 (Int32.toNatClampNeg ((y5 + 2) + y6)))) := ⟨_, rfl⟩
            have h := h v76_ ev76_
            have k77_ : G72_ b0 = some (zia 621 v76_) := by rw [ev76_]; exact k74_
            have F78_ : Fr b0 1 G G72_ := Fr.trans gF f75_
            refine z_iinc (v := (y6 + 1)) (L' := [some (.ref b0), none, some (.int y2), none, some (.int y4), some (.int y5), some (.int (y6 + 1))]) O dX6_goJoin_171 rfl (by first | rfl | decide) (by decide) rfl ?_
            refine z_goto (tgt := 111) O dX6_goJoin_174 (by decide) ?_
            exact z_subL (L' := [some (.ref b0), none, some (.int y2), none, some (.int y4), some (.int y5), some (.int (y6 + 1))]) (zLe.sub (And.intro rfl (And.intro rfl (And.intro rfl (And.intro rfl (And.intro rfl True.intro)))))) (ih y2 y4 y5 (y6 + 1) v76_ G72_ k77_ F78_ h)
          · have h := h.2 c69_
            refine z_aload_n O dX6_goJoin_147 rfl rfl ?_
            refine z_iload O dX6_goJoin_148 rfl ?_
            refine z_aload_n O dX6_goJoin_150 rfl rfl ?_
            refine z_sipush (v := 401) O dX6_goJoin_151 (by decide) ?_
            obtain ⟨q79_, h⟩ := h
            refine z_iald O dX6_goJoin_154 g0 q79_ ?_
            refine z_callSi (As := [.ref b0, .int y6, .int (v0 (Int32.toNatClampNeg 401))]) (st := [.int ((y4 + 7) + y6), .ref b0]) O (s_M_told hfl g0 h) wy_X6_told wl_RX6_119 dX6_goJoin_155 rfl rfl ⟨Nat.le_of_ble_eq_true rfl, Nat.le_of_ble_eq_true rfl⟩ (Nat.le_of_ble_eq_true rfl) ⟨Nat.le_of_ble_eq_true rfl, Nat.le_of_ble_eq_true rfl⟩ (fun r80_ z81_ G82_ hq83_ => ?_)
            obtain ⟨rfl, rfl, h⟩ := hq83_
            refine z_goto (tgt := 170) O dX6_goJoin_158 (by decide) ?_
            obtain ⟨q84_, h⟩ := h
            refine y_iast O dX6_goJoin_170 g0 q84_ (fun G85_ hw86_ => ?_)
            have k87_ := hw86_.1
            have f88_ := hw86_.fr
            obtain ⟨v89_, ev89_⟩ : ∃ w, w = (upd v0 (Int32.toNatClampNeg ((y4 + 7) + y6)) r80_) := ⟨_, rfl⟩
            have h := h v89_ ev89_
            have k90_ : G85_ b0 = some (zia 621 v89_) := by rw [ev89_]; exact k87_
            have F91_ : Fr b0 1 G G85_ := Fr.trans gF f88_
            refine z_iinc (v := (y6 + 1)) (L' := [some (.ref b0), none, some (.int y2), none, some (.int y4), some (.int y5), some (.int (y6 + 1))]) O dX6_goJoin_171 rfl (by first | rfl | decide) (by decide) rfl ?_
            refine z_goto (tgt := 111) O dX6_goJoin_174 (by decide) ?_
            exact z_subL (L' := [some (.ref b0), none, some (.int y2), none, some (.int y4), some (.int y5), some (.int (y6 + 1))]) (zLe.sub (And.intro rfl (And.intro rfl (And.intro rfl (And.intro rfl (And.intro rfl True.intro)))))) (ih y2 y4 y5 (y6 + 1) v89_ G85_ k90_ F91_ h)
        · have h := h.2 c68_
          refine z_aload_n O dX6_goJoin_131 rfl rfl ?_
          refine z_sipush (v := 402) O dX6_goJoin_132 (by decide) ?_
          refine z_iload O dX6_goJoin_135 rfl ?_
          refine z_iadd O dX6_goJoin_137 ?_
          obtain ⟨q92_, h⟩ := h
          refine z_iald O dX6_goJoin_138 g0 q92_ ?_
          refine z_goto (tgt := 170) O dX6_goJoin_139 (by decide) ?_
          obtain ⟨q93_, h⟩ := h
          refine y_iast O dX6_goJoin_170 g0 q93_ (fun G94_ hw95_ => ?_)
          have k96_ := hw95_.1
          have f97_ := hw95_.fr
          obtain ⟨v98_, ev98_⟩ : ∃ w, w = (upd v0 (Int32.toNatClampNeg ((y4 + 7) + y6)) (v0 (Int32.toNatClampNeg (402 + y6)))) := ⟨_, rfl⟩
          have h := h v98_ ev98_
          have k99_ : G94_ b0 = some (zia 621 v98_) := by rw [ev98_]; exact k96_
          have F100_ : Fr b0 1 G G94_ := Fr.trans gF f97_
          refine z_iinc (v := (y6 + 1)) (L' := [some (.ref b0), none, some (.int y2), none, some (.int y4), some (.int y5), some (.int (y6 + 1))]) O dX6_goJoin_171 rfl (by first | rfl | decide) (by decide) rfl ?_
          refine z_goto (tgt := 111) O dX6_goJoin_174 (by decide) ?_
          exact z_subL (L' := [some (.ref b0), none, some (.int y2), none, some (.int y4), some (.int y5), some (.int (y6 + 1))]) (zLe.sub (And.intro rfl (And.intro rfl (And.intro rfl (And.intro rfl (And.intro rfl True.intro)))))) (ih y2 y4 y5 (y6 + 1) v98_ G94_ k99_ F100_ h)
  have HJ74 : ∀ (y2 : Int32) (y4 : Int32) (y5 : Int32) (u0 : Int32) (u1 : Int32) (v0 : (Nat → Int32)) (G9 : zG) (g0 : G9 b0 = some (zia 621 v0)) (gF : Fr b0 1 G G9), PJ_M_goJoin_74 x1 x2 x3 y2 y4 y5 u0 u1 v0 Q → zT p l e (zrm 2 45 0 0) s m args below meth c (zEnd below D B (zRi fun r z' G' => z = z' ∧ ∃ w, G' b0 = some (zia 621 w) ∧ Fr b0 1 G G' ∧ Q r w) args s 0 0) D B 7 0 0 74 [.int u0, .int u1, .ref b0] [some (.ref b0), none, some (.int y2), none, some (.int y4), some (.int y5), none] z G9 := by
    intro y2 y4 y5 u0 u1 v0 G9 g0 gF h
    unfold PJ_M_goJoin_74 at h
    obtain ⟨q25_, h⟩ := h
    refine y_iast O dX6_goJoin_74 g0 q25_ (fun G26_ hw27_ => ?_)
    have k28_ := hw27_.1
    have f29_ := hw27_.fr
    obtain ⟨v30_, ev30_⟩ : ∃ w, w = (upd v0 (Int32.toNatClampNeg u1) u0) := ⟨_, rfl⟩
    have h := h v30_ ev30_
    have k31_ : G26_ b0 = some (zia 621 v30_) := by rw [ev30_]; exact k28_
    have F32_ : Fr b0 1 G G26_ := Fr.trans gF f29_
    refine z_aload_n O dX6_goJoin_75 rfl rfl ?_
    refine z_iload O dX6_goJoin_76 rfl ?_
    refine z_iconst (v := 3) O dX6_goJoin_78 (by decide) ?_
    refine z_iadd O dX6_goJoin_79 ?_
    refine z_iconst (v := 0) O dX6_goJoin_80 (by decide) ?_
    obtain ⟨q33_, h⟩ := h
    refine y_iast O dX6_goJoin_81 k31_ q33_ (fun G34_ hw35_ => ?_)
    have k36_ := hw35_.1
    have f37_ := hw35_.fr
    obtain ⟨v38_, ev38_⟩ : ∃ w, w = (upd v30_ (Int32.toNatClampNeg (y4 + 3)) 0) := ⟨_, rfl⟩
    have h := h v38_ ev38_
    have k39_ : G34_ b0 = some (zia 621 v38_) := by rw [ev38_]; exact k36_
    have F40_ : Fr b0 1 G G34_ := Fr.trans F32_ f37_
    refine z_aload_n O dX6_goJoin_82 rfl rfl ?_
    refine z_iload O dX6_goJoin_83 rfl ?_
    refine z_iconst (v := 4) O dX6_goJoin_85 (by decide) ?_
    refine z_iadd O dX6_goJoin_86 ?_
    refine z_iconst (v := 0) O dX6_goJoin_87 (by decide) ?_
    obtain ⟨q41_, h⟩ := h
    refine y_iast O dX6_goJoin_88 k39_ q41_ (fun G42_ hw43_ => ?_)
    have k44_ := hw43_.1
    have f45_ := hw43_.fr
    obtain ⟨v46_, ev46_⟩ : ∃ w, w = (upd v38_ (Int32.toNatClampNeg (y4 + 4)) 0) := ⟨_, rfl⟩
    have h := h v46_ ev46_
    have k47_ : G42_ b0 = some (zia 621 v46_) := by rw [ev46_]; exact k44_
    have F48_ : Fr b0 1 G G42_ := Fr.trans F40_ f45_
    refine z_aload_n O dX6_goJoin_89 rfl rfl ?_
    refine z_iload O dX6_goJoin_90 rfl ?_
    refine z_iconst (v := 5) O dX6_goJoin_92 (by decide) ?_
    refine z_iadd O dX6_goJoin_93 ?_
    refine z_aload_n O dX6_goJoin_94 rfl rfl ?_
    refine z_sipush (v := 616) O dX6_goJoin_95 (by decide) ?_
    obtain ⟨q49_, h⟩ := h
    refine z_iald O dX6_goJoin_98 k47_ q49_ ?_
    obtain ⟨q50_, h⟩ := h
    refine y_iast O dX6_goJoin_99 k47_ q50_ (fun G51_ hw52_ => ?_)
    have k53_ := hw52_.1
    have f54_ := hw52_.fr
    obtain ⟨v55_, ev55_⟩ : ∃ w, w = (upd v46_ (Int32.toNatClampNeg (y4 + 5)) (v46_ (Int32.toNatClampNeg 616))) := ⟨_, rfl⟩
    have h := h v55_ ev55_
    have k56_ : G51_ b0 = some (zia 621 v55_) := by rw [ev55_]; exact k53_
    have F57_ : Fr b0 1 G G51_ := Fr.trans F48_ f54_
    refine z_aload_n O dX6_goJoin_100 rfl rfl ?_
    refine z_iload O dX6_goJoin_101 rfl ?_
    refine z_bipush (v := 6) O dX6_goJoin_103 (by decide) ?_
    refine z_iadd O dX6_goJoin_105 ?_
    refine z_iconst (v := 0) O dX6_goJoin_106 (by decide) ?_
    obtain ⟨q58_, h⟩ := h
    refine y_iast O dX6_goJoin_107 k56_ q58_ (fun G59_ hw60_ => ?_)
    have k61_ := hw60_.1
    have f62_ := hw60_.fr
    obtain ⟨v63_, ev63_⟩ : ∃ w, w = (upd v55_ (Int32.toNatClampNeg (y4 + 6)) 0) := ⟨_, rfl⟩
    have h := h v63_ ev63_
    have k64_ : G59_ b0 = some (zia 621 v63_) := by rw [ev63_]; exact k61_
    have F65_ : Fr b0 1 G G59_ := Fr.trans F57_ f62_
    refine z_iconst (v := 0) O dX6_goJoin_108 (by decide) ?_
    refine z_istore (L' := [some (.ref b0), none, some (.int y2), none, some (.int y4), some (.int y5), some (.int 0)]) O dX6_goJoin_109 (by decide) rfl ?_
    obtain ⟨n101_, h⟩ := h
    exact z_subL (L' := [some (.ref b0), none, some (.int y2), none, some (.int y4), some (.int y5), some (.int 0)]) (zLe.sub (And.intro rfl (And.intro rfl (And.intro rfl (And.intro rfl (And.intro rfl True.intro)))))) (HL111 n101_ y2 y4 y5 0 v63_ G59_ k64_ F65_ h)
  have HJ59 : ∀ (y2 : Int32) (y3 : Int32) (y4 : Int32) (y5 : Int32) (u0 : Int32) (u1 : Int32) (v0 : (Nat → Int32)) (G9 : zG) (g0 : G9 b0 = some (zia 621 v0)) (gF : Fr b0 1 G G9), PJ_M_goJoin_59 x1 x2 x3 y2 y3 y4 y5 u0 u1 v0 Q → zT p l e (zrm 2 45 0 0) s m args below meth c (zEnd below D B (zRi fun r z' G' => z = z' ∧ ∃ w, G' b0 = some (zia 621 w) ∧ Fr b0 1 G G' ∧ Q r w) args s 0 0) D B 7 0 0 59 [.int u0, .int u1, .ref b0] [some (.ref b0), none, some (.int y2), some (.int y3), some (.int y4), some (.int y5), none] z G9 := by
    intro y2 y3 y4 y5 u0 u1 v0 G9 g0 gF h
    unfold PJ_M_goJoin_59 at h
    obtain ⟨q16_, h⟩ := h
    refine y_iast O dX6_goJoin_59 g0 q16_ (fun G17_ hw18_ => ?_)
    have k19_ := hw18_.1
    have f20_ := hw18_.fr
    obtain ⟨v21_, ev21_⟩ : ∃ w, w = (upd v0 (Int32.toNatClampNeg u1) u0) := ⟨_, rfl⟩
    have h := h v21_ ev21_
    have k22_ : G17_ b0 = some (zia 621 v21_) := by rw [ev21_]; exact k19_
    have F23_ : Fr b0 1 G G17_ := Fr.trans gF f20_
    refine z_aload_n O dX6_goJoin_60 rfl rfl ?_
    refine z_iload O dX6_goJoin_61 rfl ?_
    refine z_iconst (v := 2) O dX6_goJoin_63 (by decide) ?_
    refine z_iadd O dX6_goJoin_64 ?_
    refine z_iload_n O dX6_goJoin_65 rfl rfl ?_
    refine z_if_eq (tgt := 73) O dX6_goJoin_66 (by decide) (fun c24_ => ?_) (fun c24_ => ?_)
    · have h := h.1 c24_
      refine z_iconst (v := 0) O dX6_goJoin_73 (by decide) ?_
      exact z_subL (L' := [some (.ref b0), none, some (.int y2), none, some (.int y4), some (.int y5), none]) (zLe.sub (And.intro rfl (And.intro rfl (And.intro rfl (And.intro rfl True.intro))))) (HJ74 y2 y4 y5 0 (y4 + 2) v21_ G17_ k22_ F23_ h)
    · have h := h.2 c24_
      refine z_iconst (v := 1) O dX6_goJoin_69 (by decide) ?_
      refine z_goto (tgt := 74) O dX6_goJoin_70 (by decide) ?_
      exact z_subL (L' := [some (.ref b0), none, some (.int y2), none, some (.int y4), some (.int y5), none]) (zLe.sub (And.intro rfl (And.intro rfl (And.intro rfl (And.intro rfl True.intro))))) (HJ74 y2 y4 y5 1 (y4 + 2) v21_ G17_ k22_ F23_ h)
  refine z_iload_n O dX6_goJoin_0 rfl rfl ?_
  refine z_callSi (As := [.int x1]) (st := []) O (s_M_reader hfl h) wy_X6_reader wl_RX6_65 dX6_goJoin_1 rfl rfl ⟨Nat.le_of_ble_eq_true rfl, Nat.le_of_ble_eq_true rfl⟩ (Nat.le_of_ble_eq_true rfl) ⟨Nat.le_of_ble_eq_true rfl, Nat.le_of_ble_eq_true rfl⟩ (fun r1_ z2_ G3_ hq4_ => ?_)
  obtain ⟨rfl, rfl, h⟩ := hq4_
  refine z_istore (L' := [some (.ref b0), some (.int x1), some (.int x2), some (.int x3), some (.int r1_), none, none]) O dX6_goJoin_4 (by decide) rfl ?_
  refine z_sipush (v := 530) O dX6_goJoin_6 (by decide) ?_
  refine z_bipush (v := 10) O dX6_goJoin_9 (by decide) ?_
  refine z_iload_n O dX6_goJoin_11 rfl rfl ?_
  refine z_imul O dX6_goJoin_12 ?_
  refine z_iadd O dX6_goJoin_13 ?_
  refine z_istore (L' := [some (.ref b0), some (.int x1), some (.int x2), some (.int x3), some (.int r1_), some (.int (530 + (10 * x1))), none]) O dX6_goJoin_14 (by decide) rfl ?_
  refine z_aload_n O dX6_goJoin_16 rfl rfl ?_
  refine z_iload O dX6_goJoin_17 rfl ?_
  refine z_iconst (v := 0) O dX6_goJoin_19 (by decide) ?_
  refine z_iadd O dX6_goJoin_20 ?_
  refine z_iconst (v := 1) O dX6_goJoin_21 (by decide) ?_
  obtain ⟨q5_, h⟩ := h
  refine y_iast O dX6_goJoin_22 h0 q5_ (fun G6_ hw7_ => ?_)
  have k8_ := hw7_.1
  have f9_ := hw7_.fr
  obtain ⟨v10_, ev10_⟩ : ∃ w, w = (upd v0 (Int32.toNatClampNeg (r1_ + 0)) 1) := ⟨_, rfl⟩
  have h := h v10_ ev10_
  have k11_ : G6_ b0 = some (zia 621 v10_) := by rw [ev10_]; exact k8_
  have F12_ : Fr b0 1 G G6_ := Fr.trans Fr.rf f9_
  refine z_aload_n O dX6_goJoin_23 rfl rfl ?_
  refine z_iload O dX6_goJoin_24 rfl ?_
  refine z_iconst (v := 1) O dX6_goJoin_26 (by decide) ?_
  refine z_iadd O dX6_goJoin_27 ?_
  refine z_iload_n O dX6_goJoin_28 rfl rfl ?_
  refine z_if_ne (tgt := 40) O dX6_goJoin_29 (by decide) (fun c13_ => ?_) (fun c13_ => ?_)
  · have h := h.1 c13_
    refine z_iload_n O dX6_goJoin_40 rfl rfl ?_
    refine z_iconst (v := 1) O dX6_goJoin_41 (by decide) ?_
    refine z_icmp_ne (tgt := 53) O dX6_goJoin_42 (by decide) (fun c14_ => ?_) (fun c14_ => ?_)
    · have h := h.1 c14_
      refine z_aload_n O dX6_goJoin_53 rfl rfl ?_
      refine z_iload O dX6_goJoin_54 rfl ?_
      refine z_iconst (v := 1) O dX6_goJoin_56 (by decide) ?_
      refine z_iadd O dX6_goJoin_57 ?_
      obtain ⟨q15_, h⟩ := h
      refine z_iald O dX6_goJoin_58 k11_ q15_ ?_
      exact z_subL (L' := [some (.ref b0), none, some (.int x2), some (.int x3), some (.int r1_), some (.int (530 + (10 * x1))), none]) (zLe.sub (And.intro rfl (And.intro rfl (And.intro rfl (And.intro rfl (And.intro rfl True.intro)))))) (HJ59 x2 x3 r1_ (530 + (10 * x1)) (v10_ (Int32.toNatClampNeg ((530 + (10 * x1)) + 1))) (r1_ + 1) v10_ G6_ k11_ F12_ h)
    · have h := h.2 c14_
      refine z_aload_n O dX6_goJoin_45 rfl rfl ?_
      refine z_sipush (v := 401) O dX6_goJoin_46 (by decide) ?_
      obtain ⟨q102_, h⟩ := h
      refine z_iald O dX6_goJoin_49 k11_ q102_ ?_
      refine z_goto (tgt := 59) O dX6_goJoin_50 (by decide) ?_
      exact z_subL (L' := [some (.ref b0), none, some (.int x2), some (.int x3), some (.int r1_), some (.int (530 + (10 * x1))), none]) (zLe.sub (And.intro rfl (And.intro rfl (And.intro rfl (And.intro rfl (And.intro rfl True.intro)))))) (HJ59 x2 x3 r1_ (530 + (10 * x1)) (v10_ (Int32.toNatClampNeg 401)) (r1_ + 1) v10_ G6_ k11_ F12_ h)
  · have h := h.2 c13_
    refine z_aload_n O dX6_goJoin_32 rfl rfl ?_
    refine z_sipush (v := 400) O dX6_goJoin_33 (by decide) ?_
    obtain ⟨q103_, h⟩ := h
    refine z_iald O dX6_goJoin_36 k11_ q103_ ?_
    refine z_goto (tgt := 59) O dX6_goJoin_37 (by decide) ?_
    exact z_subL (L' := [some (.ref b0), none, some (.int x2), some (.int x3), some (.int r1_), some (.int (530 + (10 * x1))), none]) (zLe.sub (And.intro rfl (And.intro rfl (And.intro rfl (And.intro rfl (And.intro rfl True.intro)))))) (HJ59 x2 x3 r1_ (530 + (10 * x1)) (v10_ (Int32.toNatClampNeg 400)) (r1_ + 1) v10_ G6_ k11_ F12_ h)
