theorem dX6_simulate_0 : decode cX6_simulate 0 = .ok (.aload_n 0, 1) := by decide +kernel
theorem dX6_simulate_1 : decode cX6_simulate 1 = .ok (.iload_n 3, 1) := by decide +kernel
theorem dX6_simulate_2 : decode cX6_simulate 2 = .ok (.i2l, 1) := by decide +kernel
theorem dX6_simulate_3 : decode cX6_simulate 3 = .ok (.lconst 1, 1) := by decide +kernel
theorem dX6_simulate_4 : decode cX6_simulate 4 = .ok (.ldc2_w 299, 3) := by decide +kernel
theorem dX6_simulate_7 : decode cX6_simulate 7 = .ok (.invokestatic 44, 3) := by decide +kernel
theorem dX6_simulate_10 : decode cX6_simulate 10 = .ok (.ifCond .eq 7, 3) := by decide +kernel
theorem dX6_simulate_13 : decode cX6_simulate 13 = .ok (.iconst 0, 1) := by decide +kernel
theorem dX6_simulate_14 : decode cX6_simulate 14 = .ok (.goto 4, 3) := by decide +kernel
theorem dX6_simulate_17 : decode cX6_simulate 17 = .ok (.iconst 1, 1) := by decide +kernel
theorem dX6_simulate_18 : decode cX6_simulate 18 = .ok (.invokevirtual 136, 3) := by decide +kernel
theorem dX6_simulate_21 : decode cX6_simulate 21 = .ok (.ifCond .eq 5, 3) := by decide +kernel
theorem dX6_simulate_24 : decode cX6_simulate 24 = .ok (.iconst 0, 1) := by decide +kernel
theorem dX6_simulate_25 : decode cX6_simulate 25 = .ok (.ireturn, 1) := by decide +kernel
theorem dX6_simulate_26 : decode cX6_simulate 26 = .ok (.aload_n 0, 1) := by decide +kernel
theorem dX6_simulate_27 : decode cX6_simulate 27 = .ok (.getfield 7, 3) := by decide +kernel
theorem dX6_simulate_30 : decode cX6_simulate 30 = .ok (.aload_n 0, 1) := by decide +kernel
theorem dX6_simulate_31 : decode cX6_simulate 31 = .ok (.getfield 13, 3) := by decide +kernel
theorem dX6_simulate_34 : decode cX6_simulate 34 = .ok (.invokestatic 233, 3) := by decide +kernel
theorem dX6_simulate_37 : decode cX6_simulate 37 = .ok (.lload_n 1, 1) := by decide +kernel
theorem dX6_simulate_38 : decode cX6_simulate 38 = .ok (.lstore 4, 2) := by decide +kernel
theorem dX6_simulate_40 : decode cX6_simulate 40 = .ok (.iconst 0, 1) := by decide +kernel
theorem dX6_simulate_41 : decode cX6_simulate 41 = .ok (.istore 6, 2) := by decide +kernel
theorem dX6_simulate_43 : decode cX6_simulate 43 = .ok (.iload 6, 2) := by decide +kernel
theorem dX6_simulate_45 : decode cX6_simulate 45 = .ok (.iload_n 3, 1) := by decide +kernel
theorem dX6_simulate_46 : decode cX6_simulate 46 = .ok (.if_icmp .ge 31, 3) := by decide +kernel
theorem dX6_simulate_49 : decode cX6_simulate 49 = .ok (.lload 4, 2) := by decide +kernel
theorem dX6_simulate_51 : decode cX6_simulate 51 = .ok (.ldc2_w 301, 3) := by decide +kernel
theorem dX6_simulate_54 : decode cX6_simulate 54 = .ok (.lmul, 1) := by decide +kernel
theorem dX6_simulate_55 : decode cX6_simulate 55 = .ok (.ldc2_w 303, 3) := by decide +kernel
theorem dX6_simulate_58 : decode cX6_simulate 58 = .ok (.ladd, 1) := by decide +kernel
theorem dX6_simulate_59 : decode cX6_simulate 59 = .ok (.lstore 4, 2) := by decide +kernel
theorem dX6_simulate_61 : decode cX6_simulate 61 = .ok (.aload_n 0, 1) := by decide +kernel
theorem dX6_simulate_62 : decode cX6_simulate 62 = .ok (.lload 4, 2) := by decide +kernel
theorem dX6_simulate_64 : decode cX6_simulate 64 = .ok (.bipush 33, 2) := by decide +kernel
theorem dX6_simulate_66 : decode cX6_simulate 66 = .ok (.lushr, 1) := by decide +kernel
theorem dX6_simulate_67 : decode cX6_simulate 67 = .ok (.l2i, 1) := by decide +kernel
theorem dX6_simulate_68 : decode cX6_simulate 68 = .ok (.invokevirtual 305, 3) := by decide +kernel
theorem dX6_simulate_71 : decode cX6_simulate 71 = .ok (.iinc 6 1, 3) := by decide +kernel
theorem dX6_simulate_74 : decode cX6_simulate 74 = .ok (.goto (-31), 3) := by decide +kernel
theorem dX6_simulate_77 : decode cX6_simulate 77 = .ok (.aload_n 0, 1) := by decide +kernel
theorem dX6_simulate_78 : decode cX6_simulate 78 = .ok (.getfield 13, 3) := by decide +kernel
theorem dX6_simulate_81 : decode cX6_simulate 81 = .ok (.sipush 620, 3) := by decide +kernel
theorem dX6_simulate_84 : decode cX6_simulate 84 = .ok (.iaload, 1) := by decide +kernel
theorem dX6_simulate_85 : decode cX6_simulate 85 = .ok (.aload_n 0, 1) := by decide +kernel
theorem dX6_simulate_86 : decode cX6_simulate 86 = .ok (.getfield 7, 3) := by decide +kernel
theorem dX6_simulate_89 : decode cX6_simulate 89 = .ok (.sipush 620, 3) := by decide +kernel
theorem dX6_simulate_92 : decode cX6_simulate 92 = .ok (.iaload, 1) := by decide +kernel
theorem dX6_simulate_93 : decode cX6_simulate 93 = .ok (.isub, 1) := by decide +kernel
theorem dX6_simulate_94 : decode cX6_simulate 94 = .ok (.istore 6, 2) := by decide +kernel
theorem dX6_simulate_96 : decode cX6_simulate 96 = .ok (.sipush 10000, 3) := by decide +kernel
theorem dX6_simulate_99 : decode cX6_simulate 99 = .ok (.aload_n 0, 1) := by decide +kernel
theorem dX6_simulate_100 : decode cX6_simulate 100 = .ok (.getfield 13, 3) := by decide +kernel
theorem dX6_simulate_103 : decode cX6_simulate 103 = .ok (.sipush 617, 3) := by decide +kernel
theorem dX6_simulate_106 : decode cX6_simulate 106 = .ok (.iaload, 1) := by decide +kernel
theorem dX6_simulate_107 : decode cX6_simulate 107 = .ok (.aload_n 0, 1) := by decide +kernel
theorem dX6_simulate_108 : decode cX6_simulate 108 = .ok (.getfield 7, 3) := by decide +kernel
theorem dX6_simulate_111 : decode cX6_simulate 111 = .ok (.sipush 617, 3) := by decide +kernel
theorem dX6_simulate_114 : decode cX6_simulate 114 = .ok (.iaload, 1) := by decide +kernel
theorem dX6_simulate_115 : decode cX6_simulate 115 = .ok (.isub, 1) := by decide +kernel
theorem dX6_simulate_116 : decode cX6_simulate 116 = .ok (.imul, 1) := by decide +kernel
theorem dX6_simulate_117 : decode cX6_simulate 117 = .ok (.bipush 100, 2) := by decide +kernel
theorem dX6_simulate_119 : decode cX6_simulate 119 = .ok (.iload 6, 2) := by decide +kernel
theorem dX6_simulate_121 : decode cX6_simulate 121 = .ok (.bipush 99, 2) := by decide +kernel
theorem dX6_simulate_123 : decode cX6_simulate 123 = .ok (.if_icmp .le 8, 3) := by decide +kernel
theorem dX6_simulate_126 : decode cX6_simulate 126 = .ok (.bipush 99, 2) := by decide +kernel
theorem dX6_simulate_128 : decode cX6_simulate 128 = .ok (.goto 5, 3) := by decide +kernel
theorem dX6_simulate_131 : decode cX6_simulate 131 = .ok (.iload 6, 2) := by decide +kernel
theorem dX6_simulate_133 : decode cX6_simulate 133 = .ok (.imul, 1) := by decide +kernel
theorem dX6_simulate_134 : decode cX6_simulate 134 = .ok (.iadd, 1) := by decide +kernel
theorem dX6_simulate_135 : decode cX6_simulate 135 = .ok (.aload_n 0, 1) := by decide +kernel
theorem dX6_simulate_136 : decode cX6_simulate 136 = .ok (.getfield 13, 3) := by decide +kernel
theorem dX6_simulate_139 : decode cX6_simulate 139 = .ok (.invokestatic 122, 3) := by decide +kernel
theorem dX6_simulate_142 : decode cX6_simulate 142 = .ok (.iadd, 1) := by decide +kernel
theorem dX6_simulate_143 : decode cX6_simulate 143 = .ok (.ireturn, 1) := by decide +kernel
def PL_M_simulate_43 : Nat → Int64 → Int32 → Int32 → Int64 → Int32 → MT → (Int32 → MT → Prop) → Prop
  | 0, _, _, _, _, _, _, _ => False
  | n + 1, x1, x2, y3, y4, y6, v0, Q => ((y3 ≤ y6 → vp_in 620 621 ∧ (vp_in 620 621 ∧ (vp_in 617 621 ∧ (vp_in 617 621 ∧ ((((((M_trial v0) (Int32.toNatClampNeg 620)) - ((M_now v0) (Int32.toNatClampNeg 620))) ≤ 99 → P_M_readers (M_trial v0) (fun r33_ => (Q (((10000 * (((M_trial v0) (Int32.toNatClampNeg 617)) - ((M_now v0) (Int32.toNatClampNeg 617)))) + (100 * (((M_trial v0) (Int32.toNatClampNeg 620)) - ((M_now v0) (Int32.toNatClampNeg 620))))) + r33_) v0))) ∧ (¬ (((M_trial v0) (Int32.toNatClampNeg 620)) - ((M_now v0) (Int32.toNatClampNeg 620))) ≤ 99 → P_M_readers (M_trial v0) (fun r37_ => (Q (((10000 * (((M_trial v0) (Int32.toNatClampNeg 617)) - ((M_now v0) (Int32.toNatClampNeg 617)))) + (100 * 99)) + r37_) v0))))))))) ∧ (¬ y3 ≤ y6 → P_M_stir (Int64.toInt32 (zushr ((y4 * 6364136223846793005) + 1442695040888963407) 33)) v0 (fun v45_ => ((fun y3 y4 y6 v0 => PL_M_simulate_43 n x1 x2 y3 y4 y6 v0  Q) y3 ((y4 * 6364136223846793005) + 1442695040888963407) (y6 + 1) v45_))))
def PJ_M_simulate_18 (x1 : Int64) (x2 : Int32) (y1 : Int64) (y3 : Int32) (u0 : Int32) (v0 : MT) (Q : Int32 → MT → Prop) : Prop := P_M_refused u0 v0 (fun r6_ v10_ => (((r6_ = 0 → P_M_copy (M_now v10_) (M_trial v10_) (fun v19_ => (∀ v24_, v24_ = (M_set_trial v10_ v19_) → ((∃ n49_, PL_M_simulate_43 n49_ x1 x2 y3 y1 0 v24_ Q))))) ∧ (¬ r6_ = 0 → Q 0 v10_))))
def P_M_simulate (x1 : Int64) (x2 : Int32) (v0 : MT) (Q : Int32 → MT → Prop) : Prop := P_M_in (Int32.toInt64 x2) 1 60 (fun r1_ => (((r1_ = 0 → PJ_M_simulate_18 x1 x2 x1 x2 1 v0 Q) ∧ (¬ r1_ = 0 → PJ_M_simulate_18 x1 x2 x1 x2 0 v0 Q))))
set_option maxRecDepth 100000 in
theorem s_M_simulate {l : Launch} {D : zD} {B : Nat} {sa : Nat → Nat} (hfl : l.stackTraces = false) {z : Nat} {G : zG} {b0 : Nat} {x1 : Int64} {x2 : Int32} {v0 : MT} {Q : Int32 → MT → Prop} (h0 : MA b0 v0 G) (h : P_M_simulate x1 x2 v0 Q) : zSp l D B sa yX6_simulate cX6_simulate 7 (some .int) 8 177 0 0 [.ref b0, .long x1, .int x2] z G (zRi fun r z' G' => z = z' ∧ ∃ w, MA b0 w G' ∧ Fr b0 8 G G' ∧ Q r w) := by
  unfold P_M_simulate at h
  refine z_ofW (by decide +kernel) hfl [some (.ref b0), some (.long x1), none, some (.int x2), none, none, none] rfl (Nat.le_of_ble_eq_true rfl) (fun p e s m args below meth c O hret hlk hnm => ?_)
  have O : zO p l s m args c D B sa 7 cX6_simulate RX6 := O
  have HL43 : ∀ (n9 : Nat)    (y3 : Int32) (y4 : Int64) (y6 : Int32) (v0 : MT) (G9 : zG) (g0 : MA b0 v0 G9) (gF : Fr b0 8 G G9) (h : PL_M_simulate_43 n9 x1 x2 y3 y4 y6 v0 Q), zT p l e (zrm 8 177 0 0) s m args below meth c (zEnd below D B (zRi fun r z' G' => z = z' ∧ ∃ w, MA b0 w G' ∧ Fr b0 8 G G' ∧ Q r w) args s 0 0) D B 7 0 0 43 [] [some (.ref b0), none, none, some (.int y3), some (.long y4), none, some (.int y6)] z G9 := by
    intro n9   
    induction n9 with
    | zero =>
      intro _ _ _ _ _ _ _ h
      exact (h : False).elim
    | succ n ih =>
      intro y3 y4 y6 v0 G9 g0 gF h
      rw [PL_M_simulate_43] at h
      refine z_iload O dX6_simulate_43 rfl ?_
      refine z_iload_n O dX6_simulate_45 rfl rfl ?_
      refine z_icmp_ge (tgt := 77) O dX6_simulate_46 (by decide) (fun c27_ => ?_) (fun c27_ => ?_)
      · have h := h.1 c27_
        refine z_aload_n O dX6_simulate_77 rfl rfl ?_
        refine z_get (v := .ref (b0 + 2)) O wf_RX6_13 dX6_simulate_78 (M_obj g0) rfl ?_
        refine z_sipush (v := 620) O dX6_simulate_81 (by decide) ?_
        obtain ⟨q28_, h⟩ := h
        refine z_iald O dX6_simulate_84 (M_trial_of g0) q28_ ?_
        refine z_aload_n O dX6_simulate_85 rfl rfl ?_
        refine z_get (v := .ref (b0 + 1)) O wf_RX6_7 dX6_simulate_86 (M_obj g0) rfl ?_
        refine z_sipush (v := 620) O dX6_simulate_89 (by decide) ?_
        obtain ⟨q29_, h⟩ := h
        refine z_iald O dX6_simulate_92 (M_now_of g0) q29_ ?_
        refine z_isub O dX6_simulate_93 ?_
        refine z_istore (L' := [some (.ref b0), none, none, some (.int y3), some (.long y4), none, some (.int (((M_trial v0) (Int32.toNatClampNeg 620)) - ((M_now v0) (Int32.toNatClampNeg 620))))]) O dX6_simulate_94 (by decide) rfl ?_
        refine z_sipush (v := 10000) O dX6_simulate_96 (by decide) ?_
        refine z_aload_n O dX6_simulate_99 rfl rfl ?_
        refine z_get (v := .ref (b0 + 2)) O wf_RX6_13 dX6_simulate_100 (M_obj g0) rfl ?_
        refine z_sipush (v := 617) O dX6_simulate_103 (by decide) ?_
        obtain ⟨q30_, h⟩ := h
        refine z_iald O dX6_simulate_106 (M_trial_of g0) q30_ ?_
        refine z_aload_n O dX6_simulate_107 rfl rfl ?_
        refine z_get (v := .ref (b0 + 1)) O wf_RX6_7 dX6_simulate_108 (M_obj g0) rfl ?_
        refine z_sipush (v := 617) O dX6_simulate_111 (by decide) ?_
        obtain ⟨q31_, h⟩ := h
        refine z_iald O dX6_simulate_114 (M_now_of g0) q31_ ?_
        refine z_isub O dX6_simulate_115 ?_
        refine z_imul O dX6_simulate_116 ?_
        refine z_bipush (v := 100) O dX6_simulate_117 (by decide) ?_
        refine z_iload O dX6_simulate_119 rfl ?_
        refine z_bipush (v := 99) O dX6_simulate_121 (by decide) ?_
        refine z_icmp_le (tgt := 131) O dX6_simulate_123 (by decide) (fun c32_ => ?_) (fun c32_ => ?_)
        · have h := h.1 c32_
          refine z_iload O dX6_simulate_131 rfl ?_
          refine z_imul O dX6_simulate_133 ?_
          refine z_iadd O dX6_simulate_134 ?_
          refine z_aload_n O dX6_simulate_135 rfl rfl ?_
          refine z_get (v := .ref (b0 + 2)) O wf_RX6_13 dX6_simulate_136 (M_obj g0) rfl ?_
          refine z_callSi (As := [.ref (b0 + 2)]) (st := [.int ((10000 * (((M_trial v0) (Int32.toNatClampNeg 617)) - ((M_now v0) (Int32.toNatClampNeg 617)))) + (100 * (((M_trial v0) (Int32.toNatClampNeg 620)) - ((M_now v0) (Int32.toNatClampNeg 620)))))]) O (s_M_readers hfl (M_trial_of g0) h) wy_X6_readers wl_RX6_122 dX6_simulate_139 rfl rfl ⟨Nat.le_of_ble_eq_true rfl, Nat.le_of_ble_eq_true rfl⟩ (Nat.le_of_ble_eq_true rfl) ⟨Nat.le_of_ble_eq_true rfl, Nat.le_of_ble_eq_true rfl⟩ (fun r33_ z34_ G35_ hq36_ => ?_)
          obtain ⟨rfl, rfl, h⟩ := hq36_
          refine z_iadd O dX6_simulate_142 ?_
          exact z_iret O hret hlk dX6_simulate_143 (Nat.le_of_ble_eq_true rfl) (Nat.le_of_ble_eq_true rfl) ⟨_, rfl, rfl, _, g0, gF, h⟩
        · have h := h.2 c32_
          refine z_bipush (v := 99) O dX6_simulate_126 (by decide) ?_
          refine z_goto (tgt := 133) O dX6_simulate_128 (by decide) ?_
          refine z_imul O dX6_simulate_133 ?_
          refine z_iadd O dX6_simulate_134 ?_
          refine z_aload_n O dX6_simulate_135 rfl rfl ?_
          refine z_get (v := .ref (b0 + 2)) O wf_RX6_13 dX6_simulate_136 (M_obj g0) rfl ?_
          refine z_callSi (As := [.ref (b0 + 2)]) (st := [.int ((10000 * (((M_trial v0) (Int32.toNatClampNeg 617)) - ((M_now v0) (Int32.toNatClampNeg 617)))) + (100 * 99))]) O (s_M_readers hfl (M_trial_of g0) h) wy_X6_readers wl_RX6_122 dX6_simulate_139 rfl rfl ⟨Nat.le_of_ble_eq_true rfl, Nat.le_of_ble_eq_true rfl⟩ (Nat.le_of_ble_eq_true rfl) ⟨Nat.le_of_ble_eq_true rfl, Nat.le_of_ble_eq_true rfl⟩ (fun r37_ z38_ G39_ hq40_ => ?_)
          obtain ⟨rfl, rfl, h⟩ := hq40_
          refine z_iadd O dX6_simulate_142 ?_
          exact z_iret O hret hlk dX6_simulate_143 (Nat.le_of_ble_eq_true rfl) (Nat.le_of_ble_eq_true rfl) ⟨_, rfl, rfl, _, g0, gF, h⟩
      · have h := h.2 c27_
        refine z_lload O dX6_simulate_49 rfl ?_
        refine z_ldc2 (v := 6364136223846793005) O wc_RX6_301 dX6_simulate_51 ?_
        refine z_lmul O dX6_simulate_54 ?_
        refine z_ldc2 (v := 1442695040888963407) O wc_RX6_303 dX6_simulate_55 ?_
        refine z_ladd O dX6_simulate_58 ?_
        refine z_lstore (L' := [some (.ref b0), none, none, some (.int y3), some (.long ((y4 * 6364136223846793005) + 1442695040888963407)), none, some (.int y6)]) O dX6_simulate_59 (by decide) rfl ?_
        refine z_aload_n O dX6_simulate_61 rfl rfl ?_
        refine z_lload O dX6_simulate_62 rfl ?_
        refine z_bipush (v := 33) O dX6_simulate_64 (by decide) ?_
        refine z_lushr O dX6_simulate_66 ?_
        refine z_l2i O dX6_simulate_67 ?_
        refine z_callVv (As := [.int (Int64.toInt32 (zushr ((y4 * 6364136223846793005) + 1442695040888963407) 33))]) (st := []) O (s_M_stir hfl g0 h) wy_X6_stir wl_RX6_305 dX6_simulate_68 rfl rfl (M_obj g0) ⟨by decide, rfl⟩ ⟨Nat.le_of_ble_eq_true rfl, Nat.le_of_ble_eq_true rfl⟩ (Nat.le_of_ble_eq_true rfl) ⟨Nat.le_of_ble_eq_true rfl, Nat.le_of_ble_eq_true rfl⟩ (fun z42_ G43_ hq44_ => ?_)
        obtain ⟨rfl, v45_, k46_, f47_, h⟩ := hq44_
        have F48_ : Fr b0 8 G G43_ := Fr.trans gF f47_
        refine z_iinc (v := (y6 + 1)) (L' := [some (.ref b0), none, none, some (.int y3), some (.long ((y4 * 6364136223846793005) + 1442695040888963407)), none, some (.int (y6 + 1))]) O dX6_simulate_71 rfl (by first | rfl | decide) (by decide) rfl ?_
        refine z_goto (tgt := 43) O dX6_simulate_74 (by decide) ?_
        exact z_subL (L' := [some (.ref b0), none, none, some (.int y3), some (.long ((y4 * 6364136223846793005) + 1442695040888963407)), none, some (.int (y6 + 1))]) (zLe.sub (And.intro rfl (And.intro rfl (And.intro rfl (And.intro rfl True.intro))))) (ih y3 ((y4 * 6364136223846793005) + 1442695040888963407) (y6 + 1) v45_ G43_ k46_ F48_ h)
  have HJ18 : ∀ (y1 : Int64) (y3 : Int32) (u0 : Int32) (v0 : MT) (G9 : zG) (g0 : MA b0 v0 G9) (gF : Fr b0 8 G G9), PJ_M_simulate_18 x1 x2 y1 y3 u0 v0 Q → zT p l e (zrm 8 177 0 0) s m args below meth c (zEnd below D B (zRi fun r z' G' => z = z' ∧ ∃ w, MA b0 w G' ∧ Fr b0 8 G G' ∧ Q r w) args s 0 0) D B 7 0 0 18 [.int u0, .ref b0] [some (.ref b0), some (.long y1), none, some (.int y3), none, none, none] z G9 := by
    intro y1 y3 u0 v0 G9 g0 gF h
    unfold PJ_M_simulate_18 at h
    refine z_callVi (As := [.int u0]) (st := []) O (s_M_refused hfl g0 h) wy_X6_refused wl_RX6_136 dX6_simulate_18 rfl rfl (M_obj g0) ⟨by decide, rfl⟩ ⟨Nat.le_of_ble_eq_true rfl, Nat.le_of_ble_eq_true rfl⟩ (Nat.le_of_ble_eq_true rfl) ⟨Nat.le_of_ble_eq_true rfl, Nat.le_of_ble_eq_true rfl⟩ (fun r6_ z7_ G8_ hq9_ => ?_)
    obtain ⟨rfl, v10_, k11_, f12_, h⟩ := hq9_
    have F13_ : Fr b0 8 G G8_ := Fr.trans gF f12_
    refine z_if_eq (tgt := 26) O dX6_simulate_21 (by decide) (fun c14_ => ?_) (fun c14_ => ?_)
    · have h := h.1 c14_
      refine z_aload_n O dX6_simulate_26 rfl rfl ?_
      refine z_get (v := .ref (b0 + 1)) O wf_RX6_7 dX6_simulate_27 (M_obj k11_) rfl ?_
      refine z_aload_n O dX6_simulate_30 rfl rfl ?_
      refine z_get (v := .ref (b0 + 2)) O wf_RX6_13 dX6_simulate_31 (M_obj k11_) rfl ?_
      refine z_callSv (As := [.ref (b0 + 1), .ref (b0 + 2)]) (st := []) O (s_M_copy hfl (M_now_of k11_) (M_trial_of k11_) (by omega) h) wy_X6_copy wl_RX6_233 dX6_simulate_34 rfl rfl ⟨Nat.le_of_ble_eq_true rfl, Nat.le_of_ble_eq_true rfl⟩ (Nat.le_of_ble_eq_true rfl) ⟨Nat.le_of_ble_eq_true rfl, Nat.le_of_ble_eq_true rfl⟩ (fun z16_ G17_ hq18_ => ?_)
      obtain ⟨rfl, v19_, k20_, f21_, h⟩ := hq18_
      have k22_ := M_put_trial k11_ k20_ f21_
      have f23_ : Fr b0 8 G8_ G17_ := Fr.mono f21_ (by omega) (by omega)
      obtain ⟨v24_, ev24_⟩ : ∃ w, w = (M_set_trial v10_ v19_) := ⟨_, rfl⟩
      have h := h v24_ ev24_
      have k25_ : MA b0 v24_ G17_ := by rw [ev24_]; exact k22_
      have F26_ : Fr b0 8 G G17_ := Fr.trans F13_ f23_
      refine z_lload_n O dX6_simulate_37 rfl rfl ?_
      refine z_lstore (L' := [some (.ref b0), some (.long y1), none, some (.int y3), some (.long y1), none, none]) O dX6_simulate_38 (by decide) rfl ?_
      refine z_iconst (v := 0) O dX6_simulate_40 (by decide) ?_
      refine z_istore (L' := [some (.ref b0), some (.long y1), none, some (.int y3), some (.long y1), none, some (.int 0)]) O dX6_simulate_41 (by decide) rfl ?_
      obtain ⟨n49_, h⟩ := h
      exact z_subL (L' := [some (.ref b0), none, none, some (.int y3), some (.long y1), none, some (.int 0)]) (zLe.sub (And.intro rfl (And.intro rfl (And.intro rfl (And.intro rfl True.intro))))) (HL43 n49_ y3 y1 0 v24_ G17_ k25_ F26_ h)
    · have h := h.2 c14_
      refine z_iconst (v := 0) O dX6_simulate_24 (by decide) ?_
      exact z_iret O hret hlk dX6_simulate_25 (Nat.le_of_ble_eq_true rfl) (Nat.le_of_ble_eq_true rfl) ⟨_, rfl, rfl, _, k11_, F13_, h⟩
  refine z_aload_n O dX6_simulate_0 rfl rfl ?_
  refine z_iload_n O dX6_simulate_1 rfl rfl ?_
  refine z_i2l O dX6_simulate_2 ?_
  refine z_lconst (v := 1) O dX6_simulate_3 (by decide) ?_
  refine z_ldc2 (v := 60) O wc_RX6_299 dX6_simulate_4 ?_
  refine z_callSi (As := [.long (Int32.toInt64 x2), .long 1, .long 60]) (st := [.ref b0]) O (s_M_in hfl h) wy_X6_in wl_RX6_44 dX6_simulate_7 rfl rfl ⟨Nat.le_of_ble_eq_true rfl, Nat.le_of_ble_eq_true rfl⟩ (Nat.le_of_ble_eq_true rfl) ⟨Nat.le_of_ble_eq_true rfl, Nat.le_of_ble_eq_true rfl⟩ (fun r1_ z2_ G3_ hq4_ => ?_)
  obtain ⟨rfl, rfl, h⟩ := hq4_
  refine z_if_eq (tgt := 17) O dX6_simulate_10 (by decide) (fun c5_ => ?_) (fun c5_ => ?_)
  · have h := h.1 c5_
    refine z_iconst (v := 1) O dX6_simulate_17 (by decide) ?_
    exact z_subL (L' := [some (.ref b0), some (.long x1), none, some (.int x2), none, none, none]) (zLe.sub (And.intro rfl (And.intro rfl (And.intro rfl True.intro)))) (HJ18 x1 x2 1 v0 G h0 Fr.rf h)
  · have h := h.2 c5_
    refine z_iconst (v := 0) O dX6_simulate_13 (by decide) ?_
    refine z_goto (tgt := 18) O dX6_simulate_14 (by decide) ?_
    exact z_subL (L' := [some (.ref b0), some (.long x1), none, some (.int x2), none, none, none]) (zLe.sub (And.intro rfl (And.intro rfl (And.intro rfl True.intro)))) (HJ18 x1 x2 0 v0 G h0 Fr.rf h)

theorem dX6_save_0 : decode cX6_save 0 = .ok (.aload_n 0, 1) := by decide +kernel
theorem dX6_save_1 : decode cX6_save 1 = .ok (.iload_n 1, 1) := by decide +kernel
theorem dX6_save_2 : decode cX6_save 2 = .ok (.i2l, 1) := by decide +kernel
theorem dX6_save_3 : decode cX6_save 3 = .ok (.lconst 0, 1) := by decide +kernel
theorem dX6_save_4 : decode cX6_save 4 = .ok (.lconst 1, 1) := by decide +kernel
theorem dX6_save_5 : decode cX6_save 5 = .ok (.invokestatic 44, 3) := by decide +kernel
theorem dX6_save_8 : decode cX6_save 8 = .ok (.ifCond .eq 7, 3) := by decide +kernel
theorem dX6_save_11 : decode cX6_save 11 = .ok (.iconst 0, 1) := by decide +kernel
theorem dX6_save_12 : decode cX6_save 12 = .ok (.goto 4, 3) := by decide +kernel
theorem dX6_save_15 : decode cX6_save 15 = .ok (.iconst 1, 1) := by decide +kernel
theorem dX6_save_16 : decode cX6_save 16 = .ok (.invokevirtual 136, 3) := by decide +kernel
theorem dX6_save_19 : decode cX6_save 19 = .ok (.ifCond .eq 5, 3) := by decide +kernel
theorem dX6_save_22 : decode cX6_save 22 = .ok (.iconst 0, 1) := by decide +kernel
theorem dX6_save_23 : decode cX6_save 23 = .ok (.ireturn, 1) := by decide +kernel
theorem dX6_save_24 : decode cX6_save 24 = .ok (.iconst 0, 1) := by decide +kernel
theorem dX6_save_25 : decode cX6_save 25 = .ok (.istore_n 2, 1) := by decide +kernel
theorem dX6_save_26 : decode cX6_save 26 = .ok (.iload_n 2, 1) := by decide +kernel
theorem dX6_save_27 : decode cX6_save 27 = .ok (.sipush 621, 3) := by decide +kernel
theorem dX6_save_30 : decode cX6_save 30 = .ok (.if_icmp .ge 27, 3) := by decide +kernel
theorem dX6_save_33 : decode cX6_save 33 = .ok (.aload_n 0, 1) := by decide +kernel
theorem dX6_save_34 : decode cX6_save 34 = .ok (.getfield 22, 3) := by decide +kernel
theorem dX6_save_37 : decode cX6_save 37 = .ok (.sipush 621, 3) := by decide +kernel
theorem dX6_save_40 : decode cX6_save 40 = .ok (.iload_n 1, 1) := by decide +kernel
theorem dX6_save_41 : decode cX6_save 41 = .ok (.imul, 1) := by decide +kernel
theorem dX6_save_42 : decode cX6_save 42 = .ok (.iload_n 2, 1) := by decide +kernel
theorem dX6_save_43 : decode cX6_save 43 = .ok (.iadd, 1) := by decide +kernel
theorem dX6_save_44 : decode cX6_save 44 = .ok (.aload_n 0, 1) := by decide +kernel
theorem dX6_save_45 : decode cX6_save 45 = .ok (.getfield 7, 3) := by decide +kernel
theorem dX6_save_48 : decode cX6_save 48 = .ok (.iload_n 2, 1) := by decide +kernel
theorem dX6_save_49 : decode cX6_save 49 = .ok (.iaload, 1) := by decide +kernel
theorem dX6_save_50 : decode cX6_save 50 = .ok (.iastore, 1) := by decide +kernel
theorem dX6_save_51 : decode cX6_save 51 = .ok (.iinc 2 1, 3) := by decide +kernel
theorem dX6_save_54 : decode cX6_save 54 = .ok (.goto (-28), 3) := by decide +kernel
theorem dX6_save_57 : decode cX6_save 57 = .ok (.aload_n 0, 1) := by decide +kernel
theorem dX6_save_58 : decode cX6_save 58 = .ok (.getfield 25, 3) := by decide +kernel
theorem dX6_save_61 : decode cX6_save 61 = .ok (.iload_n 1, 1) := by decide +kernel
theorem dX6_save_62 : decode cX6_save 62 = .ok (.iconst 1, 1) := by decide +kernel
theorem dX6_save_63 : decode cX6_save 63 = .ok (.bastore, 1) := by decide +kernel
theorem dX6_save_64 : decode cX6_save 64 = .ok (.aload_n 0, 1) := by decide +kernel
theorem dX6_save_65 : decode cX6_save 65 = .ok (.getfield 7, 3) := by decide +kernel
theorem dX6_save_68 : decode cX6_save 68 = .ok (.sipush 616, 3) := by decide +kernel
theorem dX6_save_71 : decode cX6_save 71 = .ok (.iaload, 1) := by decide +kernel
theorem dX6_save_72 : decode cX6_save 72 = .ok (.ireturn, 1) := by decide +kernel
def PL_M_save_26 : Nat → Int32 → Int32 → Int32 → MT → (Int32 → MT → Prop) → Prop
  | 0, _, _, _, _, _ => False
  | n + 1, x1, y1, y2, v0, Q => ((621 ≤ y2 → vp_in y1 2 ∧ (∀ v23_, v23_ = (M_set_isKept v0 (upd (M_isKept v0) (Int32.toNatClampNeg y1) 1)) → (vp_in 616 621 ∧ (Q ((M_now v23_) (Int32.toNatClampNeg 616)) v23_)))) ∧ (¬ 621 ≤ y2 → vp_in y2 621 ∧ (vp_in ((621 * y1) + y2) 1242 ∧ (∀ v35_, v35_ = (M_set_kept v0 (upd (M_kept v0) (Int32.toNatClampNeg ((621 * y1) + y2)) ((M_now v0) (Int32.toNatClampNeg y2)))) → ((fun y1 y2 v0 => PL_M_save_26 n x1 y1 y2 v0  Q) y1 (y2 + 1) v35_)))))
def P_M_save (x1 : Int32) (v0 : MT) (Q : Int32 → MT → Prop) : Prop := P_M_in (Int32.toInt64 x1) 0 1 (fun r1_ => (((r1_ = 0 → P_M_refused 1 v0 (fun r6_ v10_ => (((r6_ = 0 → (∃ n38_, PL_M_save_26 n38_ x1 x1 0 v10_ Q)) ∧ (¬ r6_ = 0 → Q 0 v10_))))) ∧ (¬ r1_ = 0 → P_M_refused 0 v0 (fun r39_ v43_ => (((r39_ = 0 → (∃ n48_, PL_M_save_26 n48_ x1 x1 0 v43_ Q)) ∧ (¬ r39_ = 0 → Q 0 v43_))))))))
set_option maxRecDepth 100000 in
theorem s_M_save {l : Launch} {D : zD} {B : Nat} {sa : Nat → Nat} (hfl : l.stackTraces = false) {z : Nat} {G : zG} {b0 : Nat} {x1 : Int32} {v0 : MT} {Q : Int32 → MT → Prop} (h0 : MA b0 v0 G) (h : P_M_save x1 v0 Q) : zSp l D B sa yX6_save cX6_save 3 (some .int) 1 25 0 0 [.ref b0, .int x1] z G (zRi fun r z' G' => z = z' ∧ ∃ w, MA b0 w G' ∧ Fr b0 8 G G' ∧ Q r w) := by
  unfold P_M_save at h
  refine z_ofW (by decide +kernel) hfl [some (.ref b0), some (.int x1), none] rfl (Nat.le_of_ble_eq_true rfl) (fun p e s m args below meth c O hret hlk hnm => ?_)
  have O : zO p l s m args c D B sa 3 cX6_save RX6 := O
  have HL26 : ∀ (n9 : Nat)    (y1 : Int32) (y2 : Int32) (v0 : MT) (G9 : zG) (g0 : MA b0 v0 G9) (gF : Fr b0 8 G G9) (h : PL_M_save_26 n9 x1 y1 y2 v0 Q), zT p l e (zrm 1 25 0 0) s m args below meth c (zEnd below D B (zRi fun r z' G' => z = z' ∧ ∃ w, MA b0 w G' ∧ Fr b0 8 G G' ∧ Q r w) args s 0 0) D B 3 0 0 26 [] [some (.ref b0), some (.int y1), some (.int y2)] z G9 := by
    intro n9   
    induction n9 with
    | zero =>
      intro _ _ _ _ _ _ h
      exact (h : False).elim
    | succ n ih =>
      intro y1 y2 v0 G9 g0 gF h
      rw [PL_M_save_26] at h
      refine z_iload_n O dX6_save_26 rfl rfl ?_
      refine z_sipush (v := 621) O dX6_save_27 (by decide) ?_
      refine z_icmp_ge (tgt := 57) O dX6_save_30 (by decide) (fun c15_ => ?_) (fun c15_ => ?_)
      · have h := h.1 c15_
        refine z_aload_n O dX6_save_57 rfl rfl ?_
        refine z_get (v := .ref (b0 + 6)) O wf_RX6_25 dX6_save_58 (M_obj g0) rfl ?_
        refine z_iload_n O dX6_save_61 rfl rfl ?_
        refine z_iconst (v := 1) O dX6_save_62 (by decide) ?_
        obtain ⟨q16_, h⟩ := h
        refine y_zast O dX6_save_63 (M_isKept_of g0) q16_ rfl (fun G17_ hw18_ => ?_)
        have k19_ := hw18_.1
        have f20_ := hw18_.fr
        have k21_ := M_put_isKept g0 k19_ f20_
        have f22_ : Fr b0 8 G9 G17_ := Fr.mono f20_ (by omega) (by omega)
        obtain ⟨v23_, ev23_⟩ : ∃ w, w = (M_set_isKept v0 (upd (M_isKept v0) (Int32.toNatClampNeg y1) 1)) := ⟨_, rfl⟩
        have h := h v23_ ev23_
        have k24_ : MA b0 v23_ G17_ := by rw [ev23_]; exact k21_
        have F25_ : Fr b0 8 G G17_ := Fr.trans gF f22_
        refine z_aload_n O dX6_save_64 rfl rfl ?_
        refine z_get (v := .ref (b0 + 1)) O wf_RX6_7 dX6_save_65 (M_obj k24_) rfl ?_
        refine z_sipush (v := 616) O dX6_save_68 (by decide) ?_
        obtain ⟨q26_, h⟩ := h
        refine z_iald O dX6_save_71 (M_now_of k24_) q26_ ?_
        exact z_iret O hret hlk dX6_save_72 (Nat.le_of_ble_eq_true rfl) (Nat.le_of_ble_eq_true rfl) ⟨_, rfl, rfl, _, k24_, F25_, h⟩
      · have h := h.2 c15_
        refine z_aload_n O dX6_save_33 rfl rfl ?_
        refine z_get (v := .ref (b0 + 5)) O wf_RX6_22 dX6_save_34 (M_obj g0) rfl ?_
        refine z_sipush (v := 621) O dX6_save_37 (by decide) ?_
        refine z_iload_n O dX6_save_40 rfl rfl ?_
        refine z_imul O dX6_save_41 ?_
        refine z_iload_n O dX6_save_42 rfl rfl ?_
        refine z_iadd O dX6_save_43 ?_
        refine z_aload_n O dX6_save_44 rfl rfl ?_
        refine z_get (v := .ref (b0 + 1)) O wf_RX6_7 dX6_save_45 (M_obj g0) rfl ?_
        refine z_iload_n O dX6_save_48 rfl rfl ?_
        obtain ⟨q27_, h⟩ := h
        refine z_iald O dX6_save_49 (M_now_of g0) q27_ ?_
        obtain ⟨q28_, h⟩ := h
        refine y_iast O dX6_save_50 (M_kept_of g0) q28_ (fun G29_ hw30_ => ?_)
        have k31_ := hw30_.1
        have f32_ := hw30_.fr
        have k33_ := M_put_kept g0 k31_ f32_
        have f34_ : Fr b0 8 G9 G29_ := Fr.mono f32_ (by omega) (by omega)
        obtain ⟨v35_, ev35_⟩ : ∃ w, w = (M_set_kept v0 (upd (M_kept v0) (Int32.toNatClampNeg ((621 * y1) + y2)) ((M_now v0) (Int32.toNatClampNeg y2)))) := ⟨_, rfl⟩
        have h := h v35_ ev35_
        have k36_ : MA b0 v35_ G29_ := by rw [ev35_]; exact k33_
        have F37_ : Fr b0 8 G G29_ := Fr.trans gF f34_
        refine z_iinc (v := (y2 + 1)) (L' := [some (.ref b0), some (.int y1), some (.int (y2 + 1))]) O dX6_save_51 rfl (by first | rfl | decide) (by decide) rfl ?_
        refine z_goto (tgt := 26) O dX6_save_54 (by decide) ?_
        exact z_subL (L' := [some (.ref b0), some (.int y1), some (.int (y2 + 1))]) (zLe.sub (And.intro rfl (And.intro rfl (And.intro rfl True.intro)))) (ih y1 (y2 + 1) v35_ G29_ k36_ F37_ h)
  refine z_aload_n O dX6_save_0 rfl rfl ?_
  refine z_iload_n O dX6_save_1 rfl rfl ?_
  refine z_i2l O dX6_save_2 ?_
  refine z_lconst (v := 0) O dX6_save_3 (by decide) ?_
  refine z_lconst (v := 1) O dX6_save_4 (by decide) ?_
  refine z_callSi (As := [.long (Int32.toInt64 x1), .long 0, .long 1]) (st := [.ref b0]) O (s_M_in hfl h) wy_X6_in wl_RX6_44 dX6_save_5 rfl rfl ⟨Nat.le_of_ble_eq_true rfl, Nat.le_of_ble_eq_true rfl⟩ (Nat.le_of_ble_eq_true rfl) ⟨Nat.le_of_ble_eq_true rfl, Nat.le_of_ble_eq_true rfl⟩ (fun r1_ z2_ G3_ hq4_ => ?_)
  obtain ⟨rfl, rfl, h⟩ := hq4_
  refine z_if_eq (tgt := 15) O dX6_save_8 (by decide) (fun c5_ => ?_) (fun c5_ => ?_)
  · have h := h.1 c5_
    refine z_iconst (v := 1) O dX6_save_15 (by decide) ?_
    refine z_callVi (As := [.int 1]) (st := []) O (s_M_refused hfl h0 h) wy_X6_refused wl_RX6_136 dX6_save_16 rfl rfl (M_obj h0) ⟨by decide, rfl⟩ ⟨Nat.le_of_ble_eq_true rfl, Nat.le_of_ble_eq_true rfl⟩ (Nat.le_of_ble_eq_true rfl) ⟨Nat.le_of_ble_eq_true rfl, Nat.le_of_ble_eq_true rfl⟩ (fun r6_ z7_ G8_ hq9_ => ?_)
    obtain ⟨rfl, v10_, k11_, f12_, h⟩ := hq9_
    have F13_ : Fr b0 8 G G8_ := Fr.trans Fr.rf f12_
    refine z_if_eq (tgt := 24) O dX6_save_19 (by decide) (fun c14_ => ?_) (fun c14_ => ?_)
    · have h := h.1 c14_
      refine z_iconst (v := 0) O dX6_save_24 (by decide) ?_
      refine z_istore_n (L' := [some (.ref b0), some (.int x1), some (.int 0)]) O dX6_save_25 rfl (by decide) rfl ?_
      obtain ⟨n38_, h⟩ := h
      exact z_subL (L' := [some (.ref b0), some (.int x1), some (.int 0)]) (zLe.sub (And.intro rfl (And.intro rfl (And.intro rfl True.intro)))) (HL26 n38_ x1 0 v10_ G8_ k11_ F13_ h)
    · have h := h.2 c14_
      refine z_iconst (v := 0) O dX6_save_22 (by decide) ?_
      exact z_iret O hret hlk dX6_save_23 (Nat.le_of_ble_eq_true rfl) (Nat.le_of_ble_eq_true rfl) ⟨_, rfl, rfl, _, k11_, F13_, h⟩
  · have h := h.2 c5_
    refine z_iconst (v := 0) O dX6_save_11 (by decide) ?_
    refine z_goto (tgt := 16) O dX6_save_12 (by decide) ?_
    refine z_callVi (As := [.int 0]) (st := []) O (s_M_refused hfl h0 h) wy_X6_refused wl_RX6_136 dX6_save_16 rfl rfl (M_obj h0) ⟨by decide, rfl⟩ ⟨Nat.le_of_ble_eq_true rfl, Nat.le_of_ble_eq_true rfl⟩ (Nat.le_of_ble_eq_true rfl) ⟨Nat.le_of_ble_eq_true rfl, Nat.le_of_ble_eq_true rfl⟩ (fun r39_ z40_ G41_ hq42_ => ?_)
    obtain ⟨rfl, v43_, k44_, f45_, h⟩ := hq42_
    have F46_ : Fr b0 8 G G41_ := Fr.trans Fr.rf f45_
    refine z_if_eq (tgt := 24) O dX6_save_19 (by decide) (fun c47_ => ?_) (fun c47_ => ?_)
    · have h := h.1 c47_
      refine z_iconst (v := 0) O dX6_save_24 (by decide) ?_
      refine z_istore_n (L' := [some (.ref b0), some (.int x1), some (.int 0)]) O dX6_save_25 rfl (by decide) rfl ?_
      obtain ⟨n48_, h⟩ := h
      exact z_subL (L' := [some (.ref b0), some (.int x1), some (.int 0)]) (zLe.sub (And.intro rfl (And.intro rfl (And.intro rfl True.intro)))) (HL26 n48_ x1 0 v43_ G41_ k44_ F46_ h)
    · have h := h.2 c47_
      refine z_iconst (v := 0) O dX6_save_22 (by decide) ?_
      exact z_iret O hret hlk dX6_save_23 (Nat.le_of_ble_eq_true rfl) (Nat.le_of_ble_eq_true rfl) ⟨_, rfl, rfl, _, k44_, F46_, h⟩

theorem dX6_restore_0 : decode cX6_restore 0 = .ok (.aload_n 0, 1) := by decide +kernel
theorem dX6_restore_1 : decode cX6_restore 1 = .ok (.iload_n 1, 1) := by decide +kernel
theorem dX6_restore_2 : decode cX6_restore 2 = .ok (.i2l, 1) := by decide +kernel
theorem dX6_restore_3 : decode cX6_restore 3 = .ok (.lconst 0, 1) := by decide +kernel
theorem dX6_restore_4 : decode cX6_restore 4 = .ok (.lconst 1, 1) := by decide +kernel
theorem dX6_restore_5 : decode cX6_restore 5 = .ok (.invokestatic 44, 3) := by decide +kernel
theorem dX6_restore_8 : decode cX6_restore 8 = .ok (.ifCond .ne 7, 3) := by decide +kernel
theorem dX6_restore_11 : decode cX6_restore 11 = .ok (.iconst 1, 1) := by decide +kernel
theorem dX6_restore_12 : decode cX6_restore 12 = .ok (.goto 17, 3) := by decide +kernel
theorem dX6_restore_15 : decode cX6_restore 15 = .ok (.aload_n 0, 1) := by decide +kernel
theorem dX6_restore_16 : decode cX6_restore 16 = .ok (.getfield 25, 3) := by decide +kernel
theorem dX6_restore_19 : decode cX6_restore 19 = .ok (.iload_n 1, 1) := by decide +kernel
theorem dX6_restore_20 : decode cX6_restore 20 = .ok (.baload, 1) := by decide +kernel
theorem dX6_restore_21 : decode cX6_restore 21 = .ok (.ifCond .ne 7, 3) := by decide +kernel
theorem dX6_restore_24 : decode cX6_restore 24 = .ok (.iconst 2, 1) := by decide +kernel
theorem dX6_restore_25 : decode cX6_restore 25 = .ok (.goto 4, 3) := by decide +kernel
theorem dX6_restore_28 : decode cX6_restore 28 = .ok (.iconst 0, 1) := by decide +kernel
theorem dX6_restore_29 : decode cX6_restore 29 = .ok (.invokevirtual 136, 3) := by decide +kernel
theorem dX6_restore_32 : decode cX6_restore 32 = .ok (.ifCond .eq 5, 3) := by decide +kernel
theorem dX6_restore_35 : decode cX6_restore 35 = .ok (.iconst 0, 1) := by decide +kernel
theorem dX6_restore_36 : decode cX6_restore 36 = .ok (.ireturn, 1) := by decide +kernel
theorem dX6_restore_37 : decode cX6_restore 37 = .ok (.iconst 0, 1) := by decide +kernel
theorem dX6_restore_38 : decode cX6_restore 38 = .ok (.istore_n 2, 1) := by decide +kernel
theorem dX6_restore_39 : decode cX6_restore 39 = .ok (.iload_n 2, 1) := by decide +kernel
theorem dX6_restore_40 : decode cX6_restore 40 = .ok (.sipush 621, 3) := by decide +kernel
theorem dX6_restore_43 : decode cX6_restore 43 = .ok (.if_icmp .ge 27, 3) := by decide +kernel
theorem dX6_restore_46 : decode cX6_restore 46 = .ok (.aload_n 0, 1) := by decide +kernel
theorem dX6_restore_47 : decode cX6_restore 47 = .ok (.getfield 7, 3) := by decide +kernel
theorem dX6_restore_50 : decode cX6_restore 50 = .ok (.iload_n 2, 1) := by decide +kernel
theorem dX6_restore_51 : decode cX6_restore 51 = .ok (.aload_n 0, 1) := by decide +kernel
theorem dX6_restore_52 : decode cX6_restore 52 = .ok (.getfield 22, 3) := by decide +kernel
theorem dX6_restore_55 : decode cX6_restore 55 = .ok (.sipush 621, 3) := by decide +kernel
theorem dX6_restore_58 : decode cX6_restore 58 = .ok (.iload_n 1, 1) := by decide +kernel
theorem dX6_restore_59 : decode cX6_restore 59 = .ok (.imul, 1) := by decide +kernel
theorem dX6_restore_60 : decode cX6_restore 60 = .ok (.iload_n 2, 1) := by decide +kernel
theorem dX6_restore_61 : decode cX6_restore 61 = .ok (.iadd, 1) := by decide +kernel
theorem dX6_restore_62 : decode cX6_restore 62 = .ok (.iaload, 1) := by decide +kernel
theorem dX6_restore_63 : decode cX6_restore 63 = .ok (.iastore, 1) := by decide +kernel
theorem dX6_restore_64 : decode cX6_restore 64 = .ok (.iinc 2 1, 3) := by decide +kernel
theorem dX6_restore_67 : decode cX6_restore 67 = .ok (.goto (-28), 3) := by decide +kernel
theorem dX6_restore_70 : decode cX6_restore 70 = .ok (.aload_n 0, 1) := by decide +kernel
theorem dX6_restore_71 : decode cX6_restore 71 = .ok (.iconst 0, 1) := by decide +kernel
theorem dX6_restore_72 : decode cX6_restore 72 = .ok (.putfield 128, 3) := by decide +kernel
theorem dX6_restore_75 : decode cX6_restore 75 = .ok (.aload_n 0, 1) := by decide +kernel
theorem dX6_restore_76 : decode cX6_restore 76 = .ok (.getfield 7, 3) := by decide +kernel
theorem dX6_restore_79 : decode cX6_restore 79 = .ok (.sipush 616, 3) := by decide +kernel
theorem dX6_restore_82 : decode cX6_restore 82 = .ok (.iaload, 1) := by decide +kernel
theorem dX6_restore_83 : decode cX6_restore 83 = .ok (.ireturn, 1) := by decide +kernel
def PL_M_restore_39 : Nat → Int32 → Int32 → Int32 → MT → (Int32 → MT → Prop) → Prop
  | 0, _, _, _, _, _ => False
  | n + 1, x1, y1, y2, v0, Q => ((621 ≤ y2 → ∀ v23_, v23_ = (M_set_states v0 0) → (vp_in 616 621 ∧ (Q ((M_now v23_) (Int32.toNatClampNeg 616)) v23_))) ∧ (¬ 621 ≤ y2 → vp_in ((621 * y1) + y2) 1242 ∧ (vp_in y2 621 ∧ (∀ v35_, v35_ = (M_set_now v0 (upd (M_now v0) (Int32.toNatClampNeg y2) ((M_kept v0) (Int32.toNatClampNeg ((621 * y1) + y2))))) → ((fun y1 y2 v0 => PL_M_restore_39 n x1 y1 y2 v0  Q) y1 (y2 + 1) v35_)))))
def P_M_restore (x1 : Int32) (v0 : MT) (Q : Int32 → MT → Prop) : Prop := P_M_in (Int32.toInt64 x1) 0 1 (fun r1_ => (((¬ r1_ = 0 → vp_in x1 2 ∧ (((¬ ((M_isKept v0) (Int32.toNatClampNeg x1)) = 0 → P_M_refused 0 v0 (fun r8_ v12_ => (((r8_ = 0 → (∃ n38_, PL_M_restore_39 n38_ x1 x1 0 v12_ Q)) ∧ (¬ r8_ = 0 → Q 0 v12_))))) ∧ (((M_isKept v0) (Int32.toNatClampNeg x1)) = 0 → P_M_refused 2 v0 (fun r39_ v43_ => (((r39_ = 0 → (∃ n48_, PL_M_restore_39 n48_ x1 x1 0 v43_ Q)) ∧ (¬ r39_ = 0 → Q 0 v43_)))))))) ∧ (r1_ = 0 → P_M_refused 1 v0 (fun r49_ v53_ => (((r49_ = 0 → (∃ n58_, PL_M_restore_39 n58_ x1 x1 0 v53_ Q)) ∧ (¬ r49_ = 0 → Q 0 v53_))))))))
set_option maxRecDepth 100000 in
theorem s_M_restore {l : Launch} {D : zD} {B : Nat} {sa : Nat → Nat} (hfl : l.stackTraces = false) {z : Nat} {G : zG} {b0 : Nat} {x1 : Int32} {v0 : MT} {Q : Int32 → MT → Prop} (h0 : MA b0 v0 G) (h : P_M_restore x1 v0 Q) : zSp l D B sa yX6_restore cX6_restore 3 (some .int) 1 25 0 0 [.ref b0, .int x1] z G (zRi fun r z' G' => z = z' ∧ ∃ w, MA b0 w G' ∧ Fr b0 8 G G' ∧ Q r w) := by
  unfold P_M_restore at h
  refine z_ofW (by decide +kernel) hfl [some (.ref b0), some (.int x1), none] rfl (Nat.le_of_ble_eq_true rfl) (fun p e s m args below meth c O hret hlk hnm => ?_)
  have O : zO p l s m args c D B sa 3 cX6_restore RX6 := O
  have HL39 : ∀ (n9 : Nat)    (y1 : Int32) (y2 : Int32) (v0 : MT) (G9 : zG) (g0 : MA b0 v0 G9) (gF : Fr b0 8 G G9) (h : PL_M_restore_39 n9 x1 y1 y2 v0 Q), zT p l e (zrm 1 25 0 0) s m args below meth c (zEnd below D B (zRi fun r z' G' => z = z' ∧ ∃ w, MA b0 w G' ∧ Fr b0 8 G G' ∧ Q r w) args s 0 0) D B 3 0 0 39 [] [some (.ref b0), some (.int y1), some (.int y2)] z G9 := by
    intro n9   
    induction n9 with
    | zero =>
      intro _ _ _ _ _ _ h
      exact (h : False).elim
    | succ n ih =>
      intro y1 y2 v0 G9 g0 gF h
      rw [PL_M_restore_39] at h
      refine z_iload_n O dX6_restore_39 rfl rfl ?_
      refine z_sipush (v := 621) O dX6_restore_40 (by decide) ?_
      refine z_icmp_ge (tgt := 70) O dX6_restore_43 (by decide) (fun c17_ => ?_) (fun c17_ => ?_)
      · have h := h.1 c17_
        refine z_aload_n O dX6_restore_70 rfl rfl ?_
        refine z_iconst (v := 0) O dX6_restore_71 (by decide) ?_
        refine y_put O wp_RX6_128 dX6_restore_72 (M_obj g0) rfl rfl (fun G18_ hw19_ => ?_)
        have k20_ := M_w_states g0 hw19_
        have f21_ := hw19_.fr
        have f22_ : Fr b0 8 G9 G18_ := Fr.mono f21_ (by omega) (by omega)
        obtain ⟨v23_, ev23_⟩ : ∃ w, w = (M_set_states v0 0) := ⟨_, rfl⟩
        have h := h v23_ ev23_
        have k24_ : MA b0 v23_ G18_ := by rw [ev23_]; exact k20_
        have F25_ : Fr b0 8 G G18_ := Fr.trans gF f22_
        refine z_aload_n O dX6_restore_75 rfl rfl ?_
        refine z_get (v := .ref (b0 + 1)) O wf_RX6_7 dX6_restore_76 (M_obj k24_) rfl ?_
        refine z_sipush (v := 616) O dX6_restore_79 (by decide) ?_
        obtain ⟨q26_, h⟩ := h
        refine z_iald O dX6_restore_82 (M_now_of k24_) q26_ ?_
        exact z_iret O hret hlk dX6_restore_83 (Nat.le_of_ble_eq_true rfl) (Nat.le_of_ble_eq_true rfl) ⟨_, rfl, rfl, _, k24_, F25_, h⟩
      · have h := h.2 c17_
        refine z_aload_n O dX6_restore_46 rfl rfl ?_
        refine z_get (v := .ref (b0 + 1)) O wf_RX6_7 dX6_restore_47 (M_obj g0) rfl ?_
        refine z_iload_n O dX6_restore_50 rfl rfl ?_
        refine z_aload_n O dX6_restore_51 rfl rfl ?_
        refine z_get (v := .ref (b0 + 5)) O wf_RX6_22 dX6_restore_52 (M_obj g0) rfl ?_
        refine z_sipush (v := 621) O dX6_restore_55 (by decide) ?_
        refine z_iload_n O dX6_restore_58 rfl rfl ?_
        refine z_imul O dX6_restore_59 ?_
        refine z_iload_n O dX6_restore_60 rfl rfl ?_
        refine z_iadd O dX6_restore_61 ?_
        obtain ⟨q27_, h⟩ := h
        refine z_iald O dX6_restore_62 (M_kept_of g0) q27_ ?_
        obtain ⟨q28_, h⟩ := h
        refine y_iast O dX6_restore_63 (M_now_of g0) q28_ (fun G29_ hw30_ => ?_)
        have k31_ := hw30_.1
        have f32_ := hw30_.fr
        have k33_ := M_put_now g0 k31_ f32_
        have f34_ : Fr b0 8 G9 G29_ := Fr.mono f32_ (by omega) (by omega)
        obtain ⟨v35_, ev35_⟩ : ∃ w, w = (M_set_now v0 (upd (M_now v0) (Int32.toNatClampNeg y2) ((M_kept v0) (Int32.toNatClampNeg ((621 * y1) + y2))))) := ⟨_, rfl⟩
        have h := h v35_ ev35_
        have k36_ : MA b0 v35_ G29_ := by rw [ev35_]; exact k33_
        have F37_ : Fr b0 8 G G29_ := Fr.trans gF f34_
        refine z_iinc (v := (y2 + 1)) (L' := [some (.ref b0), some (.int y1), some (.int (y2 + 1))]) O dX6_restore_64 rfl (by first | rfl | decide) (by decide) rfl ?_
        refine z_goto (tgt := 39) O dX6_restore_67 (by decide) ?_
        exact z_subL (L' := [some (.ref b0), some (.int y1), some (.int (y2 + 1))]) (zLe.sub (And.intro rfl (And.intro rfl (And.intro rfl True.intro)))) (ih y1 (y2 + 1) v35_ G29_ k36_ F37_ h)
  refine z_aload_n O dX6_restore_0 rfl rfl ?_
  refine z_iload_n O dX6_restore_1 rfl rfl ?_
  refine z_i2l O dX6_restore_2 ?_
  refine z_lconst (v := 0) O dX6_restore_3 (by decide) ?_
  refine z_lconst (v := 1) O dX6_restore_4 (by decide) ?_
  refine z_callSi (As := [.long (Int32.toInt64 x1), .long 0, .long 1]) (st := [.ref b0]) O (s_M_in hfl h) wy_X6_in wl_RX6_44 dX6_restore_5 rfl rfl ⟨Nat.le_of_ble_eq_true rfl, Nat.le_of_ble_eq_true rfl⟩ (Nat.le_of_ble_eq_true rfl) ⟨Nat.le_of_ble_eq_true rfl, Nat.le_of_ble_eq_true rfl⟩ (fun r1_ z2_ G3_ hq4_ => ?_)
  obtain ⟨rfl, rfl, h⟩ := hq4_
  refine z_if_ne (tgt := 15) O dX6_restore_8 (by decide) (fun c5_ => ?_) (fun c5_ => ?_)
  · have h := h.1 c5_
    refine z_aload_n O dX6_restore_15 rfl rfl ?_
    refine z_get (v := .ref (b0 + 6)) O wf_RX6_25 dX6_restore_16 (M_obj h0) rfl ?_
    refine z_iload_n O dX6_restore_19 rfl rfl ?_
    obtain ⟨q6_, h⟩ := h
    refine z_zald O dX6_restore_20 (M_isKept_of h0) q6_ ?_
    refine z_if_ne (tgt := 28) O dX6_restore_21 (by decide) (fun c7_ => ?_) (fun c7_ => ?_)
    · have h := h.1 c7_
      refine z_iconst (v := 0) O dX6_restore_28 (by decide) ?_
      refine z_callVi (As := [.int 0]) (st := []) O (s_M_refused hfl h0 h) wy_X6_refused wl_RX6_136 dX6_restore_29 rfl rfl (M_obj h0) ⟨by decide, rfl⟩ ⟨Nat.le_of_ble_eq_true rfl, Nat.le_of_ble_eq_true rfl⟩ (Nat.le_of_ble_eq_true rfl) ⟨Nat.le_of_ble_eq_true rfl, Nat.le_of_ble_eq_true rfl⟩ (fun r8_ z9_ G10_ hq11_ => ?_)
      obtain ⟨rfl, v12_, k13_, f14_, h⟩ := hq11_
      have F15_ : Fr b0 8 G G10_ := Fr.trans Fr.rf f14_
      refine z_if_eq (tgt := 37) O dX6_restore_32 (by decide) (fun c16_ => ?_) (fun c16_ => ?_)
      · have h := h.1 c16_
        refine z_iconst (v := 0) O dX6_restore_37 (by decide) ?_
        refine z_istore_n (L' := [some (.ref b0), some (.int x1), some (.int 0)]) O dX6_restore_38 rfl (by decide) rfl ?_
        obtain ⟨n38_, h⟩ := h
        exact z_subL (L' := [some (.ref b0), some (.int x1), some (.int 0)]) (zLe.sub (And.intro rfl (And.intro rfl (And.intro rfl True.intro)))) (HL39 n38_ x1 0 v12_ G10_ k13_ F15_ h)
      · have h := h.2 c16_
        refine z_iconst (v := 0) O dX6_restore_35 (by decide) ?_
        exact z_iret O hret hlk dX6_restore_36 (Nat.le_of_ble_eq_true rfl) (Nat.le_of_ble_eq_true rfl) ⟨_, rfl, rfl, _, k13_, F15_, h⟩
    · have h := h.2 c7_
      refine z_iconst (v := 2) O dX6_restore_24 (by decide) ?_
      refine z_goto (tgt := 29) O dX6_restore_25 (by decide) ?_
      refine z_callVi (As := [.int 2]) (st := []) O (s_M_refused hfl h0 h) wy_X6_refused wl_RX6_136 dX6_restore_29 rfl rfl (M_obj h0) ⟨by decide, rfl⟩ ⟨Nat.le_of_ble_eq_true rfl, Nat.le_of_ble_eq_true rfl⟩ (Nat.le_of_ble_eq_true rfl) ⟨Nat.le_of_ble_eq_true rfl, Nat.le_of_ble_eq_true rfl⟩ (fun r39_ z40_ G41_ hq42_ => ?_)
      obtain ⟨rfl, v43_, k44_, f45_, h⟩ := hq42_
      have F46_ : Fr b0 8 G G41_ := Fr.trans Fr.rf f45_
      refine z_if_eq (tgt := 37) O dX6_restore_32 (by decide) (fun c47_ => ?_) (fun c47_ => ?_)
      · have h := h.1 c47_
        refine z_iconst (v := 0) O dX6_restore_37 (by decide) ?_
        refine z_istore_n (L' := [some (.ref b0), some (.int x1), some (.int 0)]) O dX6_restore_38 rfl (by decide) rfl ?_
        obtain ⟨n48_, h⟩ := h
        exact z_subL (L' := [some (.ref b0), some (.int x1), some (.int 0)]) (zLe.sub (And.intro rfl (And.intro rfl (And.intro rfl True.intro)))) (HL39 n48_ x1 0 v43_ G41_ k44_ F46_ h)
      · have h := h.2 c47_
        refine z_iconst (v := 0) O dX6_restore_35 (by decide) ?_
        exact z_iret O hret hlk dX6_restore_36 (Nat.le_of_ble_eq_true rfl) (Nat.le_of_ble_eq_true rfl) ⟨_, rfl, rfl, _, k44_, F46_, h⟩
  · have h := h.2 c5_
    refine z_iconst (v := 1) O dX6_restore_11 (by decide) ?_
    refine z_goto (tgt := 29) O dX6_restore_12 (by decide) ?_
    refine z_callVi (As := [.int 1]) (st := []) O (s_M_refused hfl h0 h) wy_X6_refused wl_RX6_136 dX6_restore_29 rfl rfl (M_obj h0) ⟨by decide, rfl⟩ ⟨Nat.le_of_ble_eq_true rfl, Nat.le_of_ble_eq_true rfl⟩ (Nat.le_of_ble_eq_true rfl) ⟨Nat.le_of_ble_eq_true rfl, Nat.le_of_ble_eq_true rfl⟩ (fun r49_ z50_ G51_ hq52_ => ?_)
    obtain ⟨rfl, v53_, k54_, f55_, h⟩ := hq52_
    have F56_ : Fr b0 8 G G51_ := Fr.trans Fr.rf f55_
    refine z_if_eq (tgt := 37) O dX6_restore_32 (by decide) (fun c57_ => ?_) (fun c57_ => ?_)
    · have h := h.1 c57_
      refine z_iconst (v := 0) O dX6_restore_37 (by decide) ?_
      refine z_istore_n (L' := [some (.ref b0), some (.int x1), some (.int 0)]) O dX6_restore_38 rfl (by decide) rfl ?_
      obtain ⟨n58_, h⟩ := h
      exact z_subL (L' := [some (.ref b0), some (.int x1), some (.int 0)]) (zLe.sub (And.intro rfl (And.intro rfl (And.intro rfl True.intro)))) (HL39 n58_ x1 0 v53_ G51_ k54_ F56_ h)
    · have h := h.2 c57_
      refine z_iconst (v := 0) O dX6_restore_35 (by decide) ?_
      exact z_iret O hret hlk dX6_restore_36 (Nat.le_of_ble_eq_true rfl) (Nat.le_of_ble_eq_true rfl) ⟨_, rfl, rfl, _, k54_, F56_, h⟩
