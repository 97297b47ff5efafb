theorem dL_alike_0 : decode cL_alike 0 = .ok (.aload_n 0, 1) := by decide +kernel
theorem dL_alike_1 : decode cL_alike 1 = .ok (.invokestatic 128, 3) := by decide +kernel
theorem dL_alike_4 : decode cL_alike 4 = .ok (.aload_n 1, 1) := by decide +kernel
theorem dL_alike_5 : decode cL_alike 5 = .ok (.invokestatic 128, 3) := by decide +kernel
theorem dL_alike_8 : decode cL_alike 8 = .ok (.lcmp, 1) := by decide +kernel
theorem dL_alike_9 : decode cL_alike 9 = .ok (.ifCond .ne 139, 3) := by decide +kernel
theorem dL_alike_12 : decode cL_alike 12 = .ok (.aload_n 0, 1) := by decide +kernel
theorem dL_alike_13 : decode cL_alike 13 = .ok (.invokevirtual 193, 3) := by decide +kernel
theorem dL_alike_16 : decode cL_alike 16 = .ok (.aload_n 1, 1) := by decide +kernel
theorem dL_alike_17 : decode cL_alike 17 = .ok (.invokevirtual 193, 3) := by decide +kernel
theorem dL_alike_20 : decode cL_alike 20 = .ok (.if_icmp .ne 128, 3) := by decide +kernel
theorem dL_alike_23 : decode cL_alike 23 = .ok (.aload_n 0, 1) := by decide +kernel
theorem dL_alike_24 : decode cL_alike 24 = .ok (.invokevirtual 184, 3) := by decide +kernel
theorem dL_alike_27 : decode cL_alike 27 = .ok (.aload_n 1, 1) := by decide +kernel
theorem dL_alike_28 : decode cL_alike 28 = .ok (.invokevirtual 184, 3) := by decide +kernel
theorem dL_alike_31 : decode cL_alike 31 = .ok (.if_icmp .ne 117, 3) := by decide +kernel
theorem dL_alike_34 : decode cL_alike 34 = .ok (.aload_n 0, 1) := by decide +kernel
theorem dL_alike_35 : decode cL_alike 35 = .ok (.iconst 1, 1) := by decide +kernel
theorem dL_alike_36 : decode cL_alike 36 = .ok (.iload_n 2, 1) := by decide +kernel
theorem dL_alike_37 : decode cL_alike 37 = .ok (.sipush 200, 3) := by decide +kernel
theorem dL_alike_40 : decode cL_alike 40 = .ok (.irem, 1) := by decide +kernel
theorem dL_alike_41 : decode cL_alike 41 = .ok (.iadd, 1) := by decide +kernel
theorem dL_alike_42 : decode cL_alike 42 = .ok (.invokestatic 159, 3) := by decide +kernel
theorem dL_alike_45 : decode cL_alike 45 = .ok (.aload_n 1, 1) := by decide +kernel
theorem dL_alike_46 : decode cL_alike 46 = .ok (.iconst 1, 1) := by decide +kernel
theorem dL_alike_47 : decode cL_alike 47 = .ok (.iload_n 2, 1) := by decide +kernel
theorem dL_alike_48 : decode cL_alike 48 = .ok (.sipush 200, 3) := by decide +kernel
theorem dL_alike_51 : decode cL_alike 51 = .ok (.irem, 1) := by decide +kernel
theorem dL_alike_52 : decode cL_alike 52 = .ok (.iadd, 1) := by decide +kernel
theorem dL_alike_53 : decode cL_alike 53 = .ok (.invokestatic 159, 3) := by decide +kernel
theorem dL_alike_56 : decode cL_alike 56 = .ok (.lcmp, 1) := by decide +kernel
theorem dL_alike_57 : decode cL_alike 57 = .ok (.ifCond .ne 91, 3) := by decide +kernel
theorem dL_alike_60 : decode cL_alike 60 = .ok (.aload_n 0, 1) := by decide +kernel
theorem dL_alike_61 : decode cL_alike 61 = .ok (.iload_n 2, 1) := by decide +kernel
theorem dL_alike_62 : decode cL_alike 62 = .ok (.bipush 8, 2) := by decide +kernel
theorem dL_alike_64 : decode cL_alike 64 = .ok (.irem, 1) := by decide +kernel
theorem dL_alike_65 : decode cL_alike 65 = .ok (.aload_n 0, 1) := by decide +kernel
theorem dL_alike_66 : decode cL_alike 66 = .ok (.iconst 0, 1) := by decide +kernel
theorem dL_alike_67 : decode cL_alike 67 = .ok (.invokestatic 110, 3) := by decide +kernel
theorem dL_alike_70 : decode cL_alike 70 = .ok (.l2i, 1) := by decide +kernel
theorem dL_alike_71 : decode cL_alike 71 = .ok (.iconst 1, 1) := by decide +kernel
theorem dL_alike_72 : decode cL_alike 72 = .ok (.invokestatic 157, 3) := by decide +kernel
theorem dL_alike_75 : decode cL_alike 75 = .ok (.aload_n 1, 1) := by decide +kernel
theorem dL_alike_76 : decode cL_alike 76 = .ok (.iload_n 2, 1) := by decide +kernel
theorem dL_alike_77 : decode cL_alike 77 = .ok (.bipush 8, 2) := by decide +kernel
theorem dL_alike_79 : decode cL_alike 79 = .ok (.irem, 1) := by decide +kernel
theorem dL_alike_80 : decode cL_alike 80 = .ok (.aload_n 1, 1) := by decide +kernel
theorem dL_alike_81 : decode cL_alike 81 = .ok (.iconst 0, 1) := by decide +kernel
theorem dL_alike_82 : decode cL_alike 82 = .ok (.invokestatic 110, 3) := by decide +kernel
theorem dL_alike_85 : decode cL_alike 85 = .ok (.l2i, 1) := by decide +kernel
theorem dL_alike_86 : decode cL_alike 86 = .ok (.iconst 0, 1) := by decide +kernel
theorem dL_alike_87 : decode cL_alike 87 = .ok (.invokestatic 157, 3) := by decide +kernel
theorem dL_alike_90 : decode cL_alike 90 = .ok (.lcmp, 1) := by decide +kernel
theorem dL_alike_91 : decode cL_alike 91 = .ok (.ifCond .ne 57, 3) := by decide +kernel
theorem dL_alike_94 : decode cL_alike 94 = .ok (.aload_n 0, 1) := by decide +kernel
theorem dL_alike_95 : decode cL_alike 95 = .ok (.iload_n 2, 1) := by decide +kernel
theorem dL_alike_96 : decode cL_alike 96 = .ok (.i2l, 1) := by decide +kernel
theorem dL_alike_97 : decode cL_alike 97 = .ok (.iconst 5, 1) := by decide +kernel
theorem dL_alike_98 : decode cL_alike 98 = .ok (.invokestatic 167, 3) := by decide +kernel
theorem dL_alike_101 : decode cL_alike 101 = .ok (.aload_n 1, 1) := by decide +kernel
theorem dL_alike_102 : decode cL_alike 102 = .ok (.iload_n 2, 1) := by decide +kernel
theorem dL_alike_103 : decode cL_alike 103 = .ok (.i2l, 1) := by decide +kernel
theorem dL_alike_104 : decode cL_alike 104 = .ok (.iconst 5, 1) := by decide +kernel
theorem dL_alike_105 : decode cL_alike 105 = .ok (.invokestatic 167, 3) := by decide +kernel
theorem dL_alike_108 : decode cL_alike 108 = .ok (.lcmp, 1) := by decide +kernel
theorem dL_alike_109 : decode cL_alike 109 = .ok (.ifCond .ne 39, 3) := by decide +kernel
theorem dL_alike_112 : decode cL_alike 112 = .ok (.aload_n 0, 1) := by decide +kernel
theorem dL_alike_113 : decode cL_alike 113 = .ok (.iconst 2, 1) := by decide +kernel
theorem dL_alike_114 : decode cL_alike 114 = .ok (.ldc2_w 196, 3) := by decide +kernel
theorem dL_alike_117 : decode cL_alike 117 = .ok (.iload_n 2, 1) := by decide +kernel
theorem dL_alike_118 : decode cL_alike 118 = .ok (.bipush 100, 2) := by decide +kernel
theorem dL_alike_120 : decode cL_alike 120 = .ok (.irem, 1) := by decide +kernel
theorem dL_alike_121 : decode cL_alike 121 = .ok (.i2l, 1) := by decide +kernel
theorem dL_alike_122 : decode cL_alike 122 = .ok (.ladd, 1) := by decide +kernel
theorem dL_alike_123 : decode cL_alike 123 = .ok (.invokestatic 161, 3) := by decide +kernel
theorem dL_alike_126 : decode cL_alike 126 = .ok (.aload_n 1, 1) := by decide +kernel
theorem dL_alike_127 : decode cL_alike 127 = .ok (.iconst 2, 1) := by decide +kernel
theorem dL_alike_128 : decode cL_alike 128 = .ok (.ldc2_w 196, 3) := by decide +kernel
theorem dL_alike_131 : decode cL_alike 131 = .ok (.iload_n 2, 1) := by decide +kernel
theorem dL_alike_132 : decode cL_alike 132 = .ok (.bipush 100, 2) := by decide +kernel
theorem dL_alike_134 : decode cL_alike 134 = .ok (.irem, 1) := by decide +kernel
theorem dL_alike_135 : decode cL_alike 135 = .ok (.i2l, 1) := by decide +kernel
theorem dL_alike_136 : decode cL_alike 136 = .ok (.ladd, 1) := by decide +kernel
theorem dL_alike_137 : decode cL_alike 137 = .ok (.invokestatic 161, 3) := by decide +kernel
theorem dL_alike_140 : decode cL_alike 140 = .ok (.lcmp, 1) := by decide +kernel
theorem dL_alike_141 : decode cL_alike 141 = .ok (.ifCond .ne 7, 3) := by decide +kernel
theorem dL_alike_144 : decode cL_alike 144 = .ok (.iconst 1, 1) := by decide +kernel
theorem dL_alike_145 : decode cL_alike 145 = .ok (.goto 4, 3) := by decide +kernel
theorem dL_alike_148 : decode cL_alike 148 = .ok (.iconst 0, 1) := by decide +kernel
theorem dL_alike_149 : decode cL_alike 149 = .ok (.ireturn, 1) := by decide +kernel
def P_LAW_alike (x1 : Int32) (v0 : TT) (v1 : TT) (Q : Int32 → TT → TT → Prop) : Prop := P_LAW_now v0 (fun r1_ => (P_LAW_now v1 (fun r6_ => (((¬ (lg_cmp r1_ r6_) = 0 → Q 0 v0 v1) ∧ ((lg_cmp r1_ r6_) = 0 → P_T_errorPosition v0 (fun r12_ v16_ => (P_T_errorPosition v1 (fun r21_ v25_ => (((¬ r12_ = r21_ → Q 0 v16_ v25_) ∧ (r12_ = r21_ → P_T_droppedIn v16_ (fun r31_ v35_ => (P_T_droppedIn v25_ (fun r40_ v44_ => (((¬ r31_ = r40_ → Q 0 v35_ v44_) ∧ (r31_ = r40_ → P_LAW_leastRoom (1 + (zrem x1 200)) v35_ (fun r50_ v55_ => (P_LAW_leastRoom (1 + (zrem x1 200)) v44_ (fun r60_ v65_ => (((¬ (lg_cmp r50_ r60_) = 0 → Q 0 v55_ v65_) ∧ ((lg_cmp r50_ r60_) = 0 → P_LAW_about 0 v55_ (fun r71_ => (P_LAW_truth (zrem x1 8) (Int64.toInt32 r71_) 1 v55_ (fun r76_ => (P_LAW_about 0 v65_ (fun r81_ => (P_LAW_truth (zrem x1 8) (Int64.toInt32 r81_) 0 v65_ (fun r86_ => (((¬ (lg_cmp r76_ r86_) = 0 → Q 0 v55_ v65_) ∧ ((lg_cmp r76_ r86_) = 0 → P_LAW_simulate (Int32.toInt64 x1) 5 v55_ (fun r92_ v97_ => (P_LAW_simulate (Int32.toInt64 x1) 5 v65_ (fun r102_ v107_ => (((¬ (lg_cmp r92_ r102_) = 0 → Q 0 v97_ v107_) ∧ ((lg_cmp r92_ r102_) = 0 → P_LAW_script 2 (500009800000 + (Int32.toInt64 (zrem x1 100))) v97_ (fun r113_ v118_ => (P_LAW_script 2 (500009800000 + (Int32.toInt64 (zrem x1 100))) v107_ (fun r123_ v128_ => (((¬ (lg_cmp r113_ r123_) = 0 → Q 0 v118_ v128_) ∧ ((lg_cmp r113_ r123_) = 0 → Q 1 v118_ v128_))))))))))))))))))))))))))))))))))))))))))))))
set_option maxRecDepth 100000 in
theorem s_LAW_alike {l : Launch} {D : zD} {B : Nat} {sa : Nat → Nat} (hfl : l.stackTraces = false) {z : Nat} {G : zG} {b0 : Nat} {b1 : Nat} {x1 : Int32} {v0 : TT} {v1 : TT} {Q : Int32 → TT → TT → Prop} (h0 : TA b0 v0 G) (h1 : TA b1 v1 G) (d01 : b0 + 475 ≤ b1 ∨ b1 + 475 ≤ b0) (h : P_LAW_alike x1 v0 v1 Q) : zSp l D B sa yL_alike cL_alike 3 (some .boolean) 9 241 414 2484 [.ref b0, .ref b1, .int x1] z G (zRi fun r z' G' => ∃ w w2 G8, TA b0 w G8 ∧ Fr b0 475 G G8 ∧ TA b1 w2 G' ∧ Fr b1 475 G8 G' ∧ Q r w w2) := by
  unfold P_LAW_alike at h
  refine z_ofW (by decide +kernel) hfl [some (.ref b0), some (.ref b1), some (.int x1)] rfl (Nat.le_of_ble_eq_true rfl) (fun p e s m args below meth c O hret hlk hnm => ?_)
  have O : zO p l s m args c D B sa 3 cL_alike RL := O
  have hk0 : 0 + (414 + 0) ≤ 414 ∧ 0 + 6 * (414 + 0) ≤ 2484 := ⟨Nat.le_of_ble_eq_true rfl, Nat.le_of_ble_eq_true rfl⟩
  refine z_aload_n O dL_alike_0 rfl rfl ?_
  have hk2_ := lk_step 202 212 hk0 (Nat.le_of_ble_eq_true rfl)
  refine z_callSl (As := [.ref b0]) (st := []) O (s_LAW_now hfl h0 h) wy_L_now wl_RL_128 dL_alike_1 rfl rfl ⟨Nat.le_of_ble_eq_true rfl, Nat.le_of_ble_eq_true rfl⟩ (Nat.le_of_ble_eq_true rfl) ⟨lk_k hk2_, lk_n hk2_⟩ (fun r1_ z3_ G4_ hq5_ => ?_)
  obtain ⟨rfl, h⟩ := hq5_
  refine z_aload_n O dL_alike_4 rfl rfl ?_
  have hk7_ := lk_step 202 10 hk2_ (Nat.le_of_ble_eq_true rfl)
  refine z_callSl (As := [.ref b1]) (st := [.long r1_]) O (s_LAW_now hfl h1 h) wy_L_now wl_RL_128 dL_alike_5 rfl rfl ⟨Nat.le_of_ble_eq_true rfl, Nat.le_of_ble_eq_true rfl⟩ (Nat.le_of_ble_eq_true rfl) ⟨lk_k hk7_, lk_n hk7_⟩ (fun r6_ z8_ G9_ hq10_ => ?_)
  obtain ⟨rfl, h⟩ := hq10_
  refine z_lcmp O dL_alike_8 ?_
  refine z_if_ne (tgt := 148) O dL_alike_9 (by decide) (fun c11_ => ?_) (fun c11_ => ?_)
  · have h := h.1 c11_
    refine z_iconst (v := 0) O dL_alike_148 (by decide) ?_
    obtain ⟨G8, j1, j2, j3⟩ := Fr2.split Fr2.rf
    have j4 := TA.eq h0 (G1 := G8) (fun q g1 g2 => j3 q g1 g2)
    exact z_zret O hret rfl hlk dL_alike_149 (lk_k hk7_) (lk_n hk7_) ⟨_, rfl, _, _, G8, j4, j1, h1, j2, h⟩
  · have h := h.2 c11_
    refine z_aload_n O dL_alike_12 rfl rfl ?_
    refine z_callVi (As := []) (st := []) O (s_T_errorPosition hfl h0 h) wy_X5_errorPosition wl_RL_193 dL_alike_13 rfl rfl (T_obj h0) ⟨by decide, rfl⟩ ⟨Nat.le_of_ble_eq_true rfl, Nat.le_of_ble_eq_true rfl⟩ (Nat.le_of_ble_eq_true rfl) ⟨lk_k hk7_, lk_n hk7_⟩ (fun r12_ z13_ G14_ hq15_ => ?_)
    obtain ⟨rfl, v16_, k17_, f18_, h⟩ := hq15_
    have k19_ := TA.fr h1 f18_ (by omega)
    have F20_ : Fr2 b0 475 b1 475 G G14_ := Fr2.l Fr2.rf f18_
    refine z_aload_n O dL_alike_16 rfl rfl ?_
    refine z_callVi (As := []) (st := [.int r12_]) O (s_T_errorPosition hfl k19_ h) wy_X5_errorPosition wl_RL_193 dL_alike_17 rfl rfl (T_obj k19_) ⟨by decide, rfl⟩ ⟨Nat.le_of_ble_eq_true rfl, Nat.le_of_ble_eq_true rfl⟩ (Nat.le_of_ble_eq_true rfl) ⟨lk_k hk7_, lk_n hk7_⟩ (fun r21_ z22_ G23_ hq24_ => ?_)
    obtain ⟨rfl, v25_, k26_, f27_, h⟩ := hq24_
    have k28_ := TA.fr k17_ f27_ (by omega)
    have F29_ : Fr2 b0 475 b1 475 G G23_ := Fr2.r F20_ f27_
    refine z_icmp_ne (tgt := 148) O dL_alike_20 (by decide) (fun c30_ => ?_) (fun c30_ => ?_)
    · have h := h.1 c30_
      refine z_iconst (v := 0) O dL_alike_148 (by decide) ?_
      obtain ⟨G8, j1, j2, j3⟩ := Fr2.split F29_
      have j4 := TA.eq k28_ (G1 := G8) (fun q g1 g2 => j3 q g1 g2)
      exact z_zret O hret rfl hlk dL_alike_149 (lk_k hk7_) (lk_n hk7_) ⟨_, rfl, _, _, G8, j4, j1, k26_, j2, h⟩
    · have h := h.2 c30_
      refine z_aload_n O dL_alike_23 rfl rfl ?_
      refine z_callVi (As := []) (st := []) O (s_T_droppedIn hfl k28_ h) wy_X5_droppedIn wl_RL_184 dL_alike_24 rfl rfl (T_obj k28_) ⟨by decide, rfl⟩ ⟨Nat.le_of_ble_eq_true rfl, Nat.le_of_ble_eq_true rfl⟩ (Nat.le_of_ble_eq_true rfl) ⟨lk_k hk7_, lk_n hk7_⟩ (fun r31_ z32_ G33_ hq34_ => ?_)
      obtain ⟨rfl, v35_, k36_, f37_, h⟩ := hq34_
      have k38_ := TA.fr k26_ f37_ (by omega)
      have F39_ : Fr2 b0 475 b1 475 G G33_ := Fr2.l F29_ f37_
      refine z_aload_n O dL_alike_27 rfl rfl ?_
      refine z_callVi (As := []) (st := [.int r31_]) O (s_T_droppedIn hfl k38_ h) wy_X5_droppedIn wl_RL_184 dL_alike_28 rfl rfl (T_obj k38_) ⟨by decide, rfl⟩ ⟨Nat.le_of_ble_eq_true rfl, Nat.le_of_ble_eq_true rfl⟩ (Nat.le_of_ble_eq_true rfl) ⟨lk_k hk7_, lk_n hk7_⟩ (fun r40_ z41_ G42_ hq43_ => ?_)
      obtain ⟨rfl, v44_, k45_, f46_, h⟩ := hq43_
      have k47_ := TA.fr k36_ f46_ (by omega)
      have F48_ : Fr2 b0 475 b1 475 G G42_ := Fr2.r F39_ f46_
      refine z_icmp_ne (tgt := 148) O dL_alike_31 (by decide) (fun c49_ => ?_) (fun c49_ => ?_)
      · have h := h.1 c49_
        refine z_iconst (v := 0) O dL_alike_148 (by decide) ?_
        obtain ⟨G8, j1, j2, j3⟩ := Fr2.split F48_
        have j4 := TA.eq k47_ (G1 := G8) (fun q g1 g2 => j3 q g1 g2)
        exact z_zret O hret rfl hlk dL_alike_149 (lk_k hk7_) (lk_n hk7_) ⟨_, rfl, _, _, G8, j4, j1, k45_, j2, h⟩
      · have h := h.2 c49_
        refine z_aload_n O dL_alike_34 rfl rfl ?_
        refine z_iconst (v := 1) O dL_alike_35 (by decide) ?_
        refine z_iload_n O dL_alike_36 rfl rfl ?_
        refine z_sipush (v := 200) O dL_alike_37 (by decide) ?_
        refine z_irem O dL_alike_40 (by decide) ?_
        refine z_iadd O dL_alike_41 ?_
        have hk51_ := lk_step 1 9 hk7_ (Nat.le_of_ble_eq_true rfl)
        refine z_callHl (As := [.ref b0, .int (1 + (zrem x1 200))]) (st := []) O (s_LAW_leastRoom hfl k47_ h) wh_L_leastRoom wl_RL_159 dL_alike_42 rfl rfl ⟨Nat.le_of_ble_eq_true rfl, Nat.le_of_ble_eq_true rfl⟩ (Nat.le_of_ble_eq_true rfl) ⟨lk_k hk51_, lk_n hk51_⟩ (fun r50_ z52_ G53_ hq54_ => ?_)
        obtain ⟨v55_, k56_, f57_, h⟩ := hq54_
        have k58_ := TA.fr k45_ f57_ (by omega)
        have F59_ : Fr2 b0 475 b1 475 G G53_ := Fr2.l F48_ f57_
        refine z_aload_n O dL_alike_45 rfl rfl ?_
        refine z_iconst (v := 1) O dL_alike_46 (by decide) ?_
        refine z_iload_n O dL_alike_47 rfl rfl ?_
        refine z_sipush (v := 200) O dL_alike_48 (by decide) ?_
        refine z_irem O dL_alike_51 (by decide) ?_
        refine z_iadd O dL_alike_52 ?_
        have hk61_ := lk_step 1 8 hk51_ (Nat.le_of_ble_eq_true rfl)
        refine z_callHl (As := [.ref b1, .int (1 + (zrem x1 200))]) (st := [.long r50_]) O (s_LAW_leastRoom hfl k58_ h) wh_L_leastRoom wl_RL_159 dL_alike_53 rfl rfl ⟨Nat.le_of_ble_eq_true rfl, Nat.le_of_ble_eq_true rfl⟩ (Nat.le_of_ble_eq_true rfl) ⟨lk_k hk61_, lk_n hk61_⟩ (fun r60_ z62_ G63_ hq64_ => ?_)
        obtain ⟨v65_, k66_, f67_, h⟩ := hq64_
        have k68_ := TA.fr k56_ f67_ (by omega)
        have F69_ : Fr2 b0 475 b1 475 G G63_ := Fr2.r F59_ f67_
        refine z_lcmp O dL_alike_56 ?_
        refine z_if_ne (tgt := 148) O dL_alike_57 (by decide) (fun c70_ => ?_) (fun c70_ => ?_)
        · have h := h.1 c70_
          refine z_iconst (v := 0) O dL_alike_148 (by decide) ?_
          obtain ⟨G8, j1, j2, j3⟩ := Fr2.split F69_
          have j4 := TA.eq k68_ (G1 := G8) (fun q g1 g2 => j3 q g1 g2)
          exact z_zret O hret rfl hlk dL_alike_149 (lk_k hk61_) (lk_n hk61_) ⟨_, rfl, _, _, G8, j4, j1, k66_, j2, h⟩
        · have h := h.2 c70_
          refine z_aload_n O dL_alike_60 rfl rfl ?_
          refine z_iload_n O dL_alike_61 rfl rfl ?_
          refine z_bipush (v := 8) O dL_alike_62 (by decide) ?_
          refine z_irem O dL_alike_64 (by decide) ?_
          refine z_aload_n O dL_alike_65 rfl rfl ?_
          refine z_iconst (v := 0) O dL_alike_66 (by decide) ?_
          have hk72_ := lk_step 1 7 hk61_ (Nat.le_of_ble_eq_true rfl)
          refine z_callHl (As := [.ref b0, .int 0]) (st := [.int (zrem x1 8), .ref b0]) O (s_LAW_about hfl k68_ h) wh_L_about wl_RL_110 dL_alike_67 rfl rfl ⟨Nat.le_of_ble_eq_true rfl, Nat.le_of_ble_eq_true rfl⟩ (Nat.le_of_ble_eq_true rfl) ⟨lk_k hk72_, lk_n hk72_⟩ (fun r71_ z73_ G74_ hq75_ => ?_)
          obtain ⟨rfl, h⟩ := hq75_
          refine z_l2i O dL_alike_70 ?_
          refine z_iconst (v := 1) O dL_alike_71 (by decide) ?_
          have hk77_ := lk_step 1 6 hk72_ (Nat.le_of_ble_eq_true rfl)
          refine z_callHl (As := [.ref b0, .int (zrem x1 8), .int (Int64.toInt32 r71_), .int 1]) (st := []) O (s_LAW_truth hfl k68_ h) wh_L_truth wl_RL_157 dL_alike_72 rfl rfl ⟨Nat.le_of_ble_eq_true rfl, Nat.le_of_ble_eq_true rfl⟩ (Nat.le_of_ble_eq_true rfl) ⟨lk_k hk77_, lk_n hk77_⟩ (fun r76_ z78_ G79_ hq80_ => ?_)
          obtain ⟨rfl, h⟩ := hq80_
          refine z_aload_n O dL_alike_75 rfl rfl ?_
          refine z_iload_n O dL_alike_76 rfl rfl ?_
          refine z_bipush (v := 8) O dL_alike_77 (by decide) ?_
          refine z_irem O dL_alike_79 (by decide) ?_
          refine z_aload_n O dL_alike_80 rfl rfl ?_
          refine z_iconst (v := 0) O dL_alike_81 (by decide) ?_
          have hk82_ := lk_step 1 5 hk77_ (Nat.le_of_ble_eq_true rfl)
          refine z_callHl (As := [.ref b1, .int 0]) (st := [.int (zrem x1 8), .ref b1, .long r76_]) O (s_LAW_about hfl k66_ h) wh_L_about wl_RL_110 dL_alike_82 rfl rfl ⟨Nat.le_of_ble_eq_true rfl, Nat.le_of_ble_eq_true rfl⟩ (Nat.le_of_ble_eq_true rfl) ⟨lk_k hk82_, lk_n hk82_⟩ (fun r81_ z83_ G84_ hq85_ => ?_)
          obtain ⟨rfl, h⟩ := hq85_
          refine z_l2i O dL_alike_85 ?_
          refine z_iconst (v := 0) O dL_alike_86 (by decide) ?_
          have hk87_ := lk_step 1 4 hk82_ (Nat.le_of_ble_eq_true rfl)
          refine z_callHl (As := [.ref b1, .int (zrem x1 8), .int (Int64.toInt32 r81_), .int 0]) (st := [.long r76_]) O (s_LAW_truth hfl k66_ h) wh_L_truth wl_RL_157 dL_alike_87 rfl rfl ⟨Nat.le_of_ble_eq_true rfl, Nat.le_of_ble_eq_true rfl⟩ (Nat.le_of_ble_eq_true rfl) ⟨lk_k hk87_, lk_n hk87_⟩ (fun r86_ z88_ G89_ hq90_ => ?_)
          obtain ⟨rfl, h⟩ := hq90_
          refine z_lcmp O dL_alike_90 ?_
          refine z_if_ne (tgt := 148) O dL_alike_91 (by decide) (fun c91_ => ?_) (fun c91_ => ?_)
          · have h := h.1 c91_
            refine z_iconst (v := 0) O dL_alike_148 (by decide) ?_
            obtain ⟨G8, j1, j2, j3⟩ := Fr2.split F69_
            have j4 := TA.eq k68_ (G1 := G8) (fun q g1 g2 => j3 q g1 g2)
            exact z_zret O hret rfl hlk dL_alike_149 (lk_k hk87_) (lk_n hk87_) ⟨_, rfl, _, _, G8, j4, j1, k66_, j2, h⟩
          · have h := h.2 c91_
            refine z_aload_n O dL_alike_94 rfl rfl ?_
            refine z_iload_n O dL_alike_95 rfl rfl ?_
            refine z_i2l O dL_alike_96 ?_
            refine z_iconst (v := 5) O dL_alike_97 (by decide) ?_
            have hk93_ := lk_step 1 3 hk87_ (Nat.le_of_ble_eq_true rfl)
            refine z_callHl (As := [.ref b0, .long (Int32.toInt64 x1), .int 5]) (st := []) O (s_LAW_simulate hfl k68_ h) wh_L_simulate wl_RL_167 dL_alike_98 rfl rfl ⟨Nat.le_of_ble_eq_true rfl, Nat.le_of_ble_eq_true rfl⟩ (Nat.le_of_ble_eq_true rfl) ⟨lk_k hk93_, lk_n hk93_⟩ (fun r92_ z94_ G95_ hq96_ => ?_)
            obtain ⟨v97_, k98_, f99_, h⟩ := hq96_
            have k100_ := TA.fr k66_ f99_ (by omega)
            have F101_ : Fr2 b0 475 b1 475 G G95_ := Fr2.l F69_ f99_
            refine z_aload_n O dL_alike_101 rfl rfl ?_
            refine z_iload_n O dL_alike_102 rfl rfl ?_
            refine z_i2l O dL_alike_103 ?_
            refine z_iconst (v := 5) O dL_alike_104 (by decide) ?_
            have hk103_ := lk_step 1 2 hk93_ (Nat.le_of_ble_eq_true rfl)
            refine z_callHl (As := [.ref b1, .long (Int32.toInt64 x1), .int 5]) (st := [.long r92_]) O (s_LAW_simulate hfl k100_ h) wh_L_simulate wl_RL_167 dL_alike_105 rfl rfl ⟨Nat.le_of_ble_eq_true rfl, Nat.le_of_ble_eq_true rfl⟩ (Nat.le_of_ble_eq_true rfl) ⟨lk_k hk103_, lk_n hk103_⟩ (fun r102_ z104_ G105_ hq106_ => ?_)
            obtain ⟨v107_, k108_, f109_, h⟩ := hq106_
            have k110_ := TA.fr k98_ f109_ (by omega)
            have F111_ : Fr2 b0 475 b1 475 G G105_ := Fr2.r F101_ f109_
            refine z_lcmp O dL_alike_108 ?_
            refine z_if_ne (tgt := 148) O dL_alike_109 (by decide) (fun c112_ => ?_) (fun c112_ => ?_)
            · have h := h.1 c112_
              refine z_iconst (v := 0) O dL_alike_148 (by decide) ?_
              obtain ⟨G8, j1, j2, j3⟩ := Fr2.split F111_
              have j4 := TA.eq k110_ (G1 := G8) (fun q g1 g2 => j3 q g1 g2)
              exact z_zret O hret rfl hlk dL_alike_149 (lk_k hk103_) (lk_n hk103_) ⟨_, rfl, _, _, G8, j4, j1, k108_, j2, h⟩
            · have h := h.2 c112_
              refine z_aload_n O dL_alike_112 rfl rfl ?_
              refine z_iconst (v := 2) O dL_alike_113 (by decide) ?_
              refine z_ldc2 (v := 500009800000) O wc_RL_196 dL_alike_114 ?_
              refine z_iload_n O dL_alike_117 rfl rfl ?_
              refine z_bipush (v := 100) O dL_alike_118 (by decide) ?_
              refine z_irem O dL_alike_120 (by decide) ?_
              refine z_i2l O dL_alike_121 ?_
              refine z_ladd O dL_alike_122 ?_
              have hk114_ := lk_step 1 1 hk103_ (Nat.le_of_ble_eq_true rfl)
              refine z_callHl (As := [.ref b0, .int 2, .long (500009800000 + (Int32.toInt64 (zrem x1 100)))]) (st := []) O (s_LAW_script hfl k110_ h) wh_L_script wl_RL_161 dL_alike_123 rfl rfl ⟨Nat.le_of_ble_eq_true rfl, Nat.le_of_ble_eq_true rfl⟩ (Nat.le_of_ble_eq_true rfl) ⟨lk_k hk114_, lk_n hk114_⟩ (fun r113_ z115_ G116_ hq117_ => ?_)
              obtain ⟨v118_, k119_, f120_, h⟩ := hq117_
              have k121_ := TA.fr k108_ f120_ (by omega)
              have F122_ : Fr2 b0 475 b1 475 G G116_ := Fr2.l F111_ f120_
              refine z_aload_n O dL_alike_126 rfl rfl ?_
              refine z_iconst (v := 2) O dL_alike_127 (by decide) ?_
              refine z_ldc2 (v := 500009800000) O wc_RL_196 dL_alike_128 ?_
              refine z_iload_n O dL_alike_131 rfl rfl ?_
              refine z_bipush (v := 100) O dL_alike_132 (by decide) ?_
              refine z_irem O dL_alike_134 (by decide) ?_
              refine z_i2l O dL_alike_135 ?_
              refine z_ladd O dL_alike_136 ?_
              have hk124_ := lk_step 1 0 hk114_ (Nat.le_of_ble_eq_true rfl)
              refine z_callHl (As := [.ref b1, .int 2, .long (500009800000 + (Int32.toInt64 (zrem x1 100)))]) (st := [.long r113_]) O (s_LAW_script hfl k121_ h) wh_L_script wl_RL_161 dL_alike_137 rfl rfl ⟨Nat.le_of_ble_eq_true rfl, Nat.le_of_ble_eq_true rfl⟩ (Nat.le_of_ble_eq_true rfl) ⟨lk_k hk124_, lk_n hk124_⟩ (fun r123_ z125_ G126_ hq127_ => ?_)
              obtain ⟨v128_, k129_, f130_, h⟩ := hq127_
              have k131_ := TA.fr k119_ f130_ (by omega)
              have F132_ : Fr2 b0 475 b1 475 G G126_ := Fr2.r F122_ f130_
              refine z_lcmp O dL_alike_140 ?_
              refine z_if_ne (tgt := 148) O dL_alike_141 (by decide) (fun c133_ => ?_) (fun c133_ => ?_)
              · have h := h.1 c133_
                refine z_iconst (v := 0) O dL_alike_148 (by decide) ?_
                obtain ⟨G8, j1, j2, j3⟩ := Fr2.split F132_
                have j4 := TA.eq k131_ (G1 := G8) (fun q g1 g2 => j3 q g1 g2)
                exact z_zret O hret rfl hlk dL_alike_149 (lk_k hk124_) (lk_n hk124_) ⟨_, rfl, _, _, G8, j4, j1, k129_, j2, h⟩
              · have h := h.2 c133_
                refine z_iconst (v := 1) O dL_alike_144 (by decide) ?_
                refine z_goto (tgt := 149) O dL_alike_145 (by decide) ?_
                obtain ⟨G8, j1, j2, j3⟩ := Fr2.split F132_
                have j4 := TA.eq k131_ (G1 := G8) (fun q g1 g2 => j3 q g1 g2)
                exact z_zret O hret rfl hlk dL_alike_149 (lk_k hk124_) (lk_n hk124_) ⟨_, rfl, _, _, G8, j4, j1, k129_, j2, h⟩
