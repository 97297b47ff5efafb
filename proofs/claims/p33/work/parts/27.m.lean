theorem dX5_simulate_0 : decode cX5_simulate 0 = .ok (.iload_n 3, 1) := by decide +kernel
theorem dX5_simulate_1 : decode cX5_simulate 1 = .ok (.iconst 1, 1) := by decide +kernel
theorem dX5_simulate_2 : decode cX5_simulate 2 = .ok (.bipush 60, 2) := by decide +kernel
theorem dX5_simulate_4 : decode cX5_simulate 4 = .ok (.invokestatic 41, 3) := by decide +kernel
theorem dX5_simulate_7 : decode cX5_simulate 7 = .ok (.ifCond .ne 13, 3) := by decide +kernel
theorem dX5_simulate_10 : decode cX5_simulate 10 = .ok (.new 45, 3) := by decide +kernel
theorem dX5_simulate_13 : decode cX5_simulate 13 = .ok (.dup, 1) := by decide +kernel
theorem dX5_simulate_14 : decode cX5_simulate 14 = .ok (.ldc 228, 2) := by decide +kernel
theorem dX5_simulate_16 : decode cX5_simulate 16 = .ok (.invokespecial 49, 3) := by decide +kernel
theorem dX5_simulate_19 : decode cX5_simulate 19 = .ok (.athrow, 1) := by decide +kernel
theorem dX5_simulate_20 : decode cX5_simulate 20 = .ok (.aload_n 0, 1) := by decide +kernel
theorem dX5_simulate_21 : decode cX5_simulate 21 = .ok (.invokevirtual 191, 3) := by decide +kernel
theorem dX5_simulate_24 : decode cX5_simulate 24 = .ok (.astore 4, 2) := by decide +kernel
theorem dX5_simulate_26 : decode cX5_simulate 26 = .ok (.lload_n 1, 1) := by decide +kernel
theorem dX5_simulate_27 : decode cX5_simulate 27 = .ok (.lstore 5, 2) := by decide +kernel
theorem dX5_simulate_29 : decode cX5_simulate 29 = .ok (.iconst 0, 1) := by decide +kernel
theorem dX5_simulate_30 : decode cX5_simulate 30 = .ok (.istore 7, 2) := by decide +kernel
theorem dX5_simulate_32 : decode cX5_simulate 32 = .ok (.iload 7, 2) := by decide +kernel
theorem dX5_simulate_34 : decode cX5_simulate 34 = .ok (.iload_n 3, 1) := by decide +kernel
theorem dX5_simulate_35 : decode cX5_simulate 35 = .ok (.if_icmp .ge 32, 3) := by decide +kernel
theorem dX5_simulate_38 : decode cX5_simulate 38 = .ok (.lload 5, 2) := by decide +kernel
theorem dX5_simulate_40 : decode cX5_simulate 40 = .ok (.ldc2_w 230, 3) := by decide +kernel
theorem dX5_simulate_43 : decode cX5_simulate 43 = .ok (.lmul, 1) := by decide +kernel
theorem dX5_simulate_44 : decode cX5_simulate 44 = .ok (.ldc2_w 232, 3) := by decide +kernel
theorem dX5_simulate_47 : decode cX5_simulate 47 = .ok (.ladd, 1) := by decide +kernel
theorem dX5_simulate_48 : decode cX5_simulate 48 = .ok (.lstore 5, 2) := by decide +kernel
theorem dX5_simulate_50 : decode cX5_simulate 50 = .ok (.aload 4, 2) := by decide +kernel
theorem dX5_simulate_52 : decode cX5_simulate 52 = .ok (.lload 5, 2) := by decide +kernel
theorem dX5_simulate_54 : decode cX5_simulate 54 = .ok (.bipush 33, 2) := by decide +kernel
theorem dX5_simulate_56 : decode cX5_simulate 56 = .ok (.lushr, 1) := by decide +kernel
theorem dX5_simulate_57 : decode cX5_simulate 57 = .ok (.l2i, 1) := by decide +kernel
theorem dX5_simulate_58 : decode cX5_simulate 58 = .ok (.invokestatic 234, 3) := by decide +kernel
theorem dX5_simulate_61 : decode cX5_simulate 61 = .ok (.iinc 7 1, 3) := by decide +kernel
theorem dX5_simulate_64 : decode cX5_simulate 64 = .ok (.goto (-32), 3) := by decide +kernel
theorem dX5_simulate_67 : decode cX5_simulate 67 = .ok (.aload 4, 2) := by decide +kernel
theorem dX5_simulate_69 : decode cX5_simulate 69 = .ok (.getfield 90, 3) := by decide +kernel
theorem dX5_simulate_72 : decode cX5_simulate 72 = .ok (.getfield 238, 3) := by decide +kernel
theorem dX5_simulate_75 : decode cX5_simulate 75 = .ok (.aload_n 0, 1) := by decide +kernel
theorem dX5_simulate_76 : decode cX5_simulate 76 = .ok (.getfield 19, 3) := by decide +kernel
theorem dX5_simulate_79 : decode cX5_simulate 79 = .ok (.getfield 90, 3) := by decide +kernel
theorem dX5_simulate_82 : decode cX5_simulate 82 = .ok (.getfield 238, 3) := by decide +kernel
theorem dX5_simulate_85 : decode cX5_simulate 85 = .ok (.isub, 1) := by decide +kernel
theorem dX5_simulate_86 : decode cX5_simulate 86 = .ok (.istore 7, 2) := by decide +kernel
theorem dX5_simulate_88 : decode cX5_simulate 88 = .ok (.aload 4, 2) := by decide +kernel
theorem dX5_simulate_90 : decode cX5_simulate 90 = .ok (.getfield 241, 3) := by decide +kernel
theorem dX5_simulate_93 : decode cX5_simulate 93 = .ok (.aload_n 0, 1) := by decide +kernel
theorem dX5_simulate_94 : decode cX5_simulate 94 = .ok (.getfield 19, 3) := by decide +kernel
theorem dX5_simulate_97 : decode cX5_simulate 97 = .ok (.getfield 241, 3) := by decide +kernel
theorem dX5_simulate_100 : decode cX5_simulate 100 = .ok (.isub, 1) := by decide +kernel
theorem dX5_simulate_101 : decode cX5_simulate 101 = .ok (.bipush 99, 2) := by decide +kernel
theorem dX5_simulate_103 : decode cX5_simulate 103 = .ok (.invokestatic 244, 3) := by decide +kernel
theorem dX5_simulate_106 : decode cX5_simulate 106 = .ok (.istore 8, 2) := by decide +kernel
theorem dX5_simulate_108 : decode cX5_simulate 108 = .ok (.sipush 10000, 3) := by decide +kernel
theorem dX5_simulate_111 : decode cX5_simulate 111 = .ok (.iload 7, 2) := by decide +kernel
theorem dX5_simulate_113 : decode cX5_simulate 113 = .ok (.imul, 1) := by decide +kernel
theorem dX5_simulate_114 : decode cX5_simulate 114 = .ok (.bipush 100, 2) := by decide +kernel
theorem dX5_simulate_116 : decode cX5_simulate 116 = .ok (.iload 8, 2) := by decide +kernel
theorem dX5_simulate_118 : decode cX5_simulate 118 = .ok (.imul, 1) := by decide +kernel
theorem dX5_simulate_119 : decode cX5_simulate 119 = .ok (.iadd, 1) := by decide +kernel
theorem dX5_simulate_120 : decode cX5_simulate 120 = .ok (.aload 4, 2) := by decide +kernel
theorem dX5_simulate_122 : decode cX5_simulate 122 = .ok (.invokevirtual 249, 3) := by decide +kernel
theorem dX5_simulate_125 : decode cX5_simulate 125 = .ok (.iadd, 1) := by decide +kernel
theorem dX5_simulate_126 : decode cX5_simulate 126 = .ok (.ireturn, 1) := by decide +kernel
def PL_T_simulate_32 : Nat → Int64 → Int32 → Int32 → Int64 → Int32 → TT → (String → TT → Prop) → (Int32 → TT → Prop) → Prop
  | 0, _, _, _, _, _, _, _, _ => False
  | n + 1, x1, x2, y3, y5, y7, v0, X, Q => ((y3 ≤ y7 → P_S_readerCount (T_trial v0) (fun r15_ => (Q (((10000 * ((L_dropped (S_log (T_trial v0))) - (L_dropped (S_log (T_state v0))))) + (100 * (zmin ((S_missed (T_trial v0)) - (S_missed (T_state v0))) 99))) + r15_) v0))) ∧ (¬ y3 ≤ y7 → P_T_takeTurn (Int64.toInt32 (zushr ((y5 * 6364136223846793005) + 1442695040888963407) 33)) (T_trial v0) (fun v23_ => (∀ v28_, v28_ = (T_set_trial v0 v23_) → ((fun y3 y5 y7 v0 => PL_T_simulate_32 n x1 x2 y3 y5 y7 v0  X Q) y3 ((y5 * 6364136223846793005) + 1442695040888963407) (y7 + 1) v28_)))))
def P_T_simulate (x1 : Int64) (x2 : Int32) (v0 : TT) (X : String → TT → Prop) (Q : Int32 → TT → Prop) : Prop := P_T_isIn x2 1 60 (fun r1_ => (((¬ r1_ = 0 → P_T_copyToTry v0 (fun v10_ => ((∃ n31_, PL_T_simulate_32 n31_ x1 x2 x2 x1 0 v10_ X Q)))) ∧ (r1_ = 0 → X "java/lang/IllegalArgumentException" v0))))
set_option maxRecDepth 100000 in
theorem s_T_simulate {l : Launch} {D : zD} {B : Nat} {sa : Nat → Nat} (hfl : l.stackTraces = false) {z : Nat} {G : zG} {b0 : Nat} {x1 : Int64} {x2 : Int32} {v0 : TT} {X : String → TT → Prop} {Q : Int32 → TT → Prop} (h0 : TA b0 v0 G) (h : P_T_simulate x1 x2 v0 X Q) : zSx l D B sa yX5_simulate cX5_simulate 9 (some .int) 7 188 1 6 [.ref b0, .long x1, .int x2] z G (zRi fun r z' G' => z = z' ∧ ∃ w, TA b0 w G' ∧ Fr b0 475 G G' ∧ Q r w) (fun E z' G' => ∃ w, TA b0 w G' ∧ Fr b0 475 G G' ∧ X E w) := by
  unfold P_T_simulate at h
  refine z_ofX (by decide +kernel) hfl [some (.ref b0), some (.long x1), none, some (.int x2), none, none, none, none, none] rfl (Nat.le_of_ble_eq_true rfl) (fun p e s m args below meth c O hret hlk hout => ?_)
  have O : zO p l s m args c D B sa 9 cX5_simulate RX5 := O
  have HL32 : ∀ (n9 : Nat)    (y3 : Int32) (y5 : Int64) (y7 : Int32) (v0 : TT) (G9 : zG) (g0 : TA b0 v0 G9) (gF : Fr b0 475 G G9) (h : PL_T_simulate_32 n9 x1 x2 y3 y5 y7 v0 X Q), zT p l e (zrm 7 188 1 6) s m args below meth c (zEnx below D B (zRi fun r z' G' => z = z' ∧ ∃ w, TA b0 w G' ∧ Fr b0 475 G G' ∧ Q r w) (fun E z' G' => ∃ w, TA b0 w G' ∧ Fr b0 475 G G' ∧ X E w) args s 1 6) D B 9 0 0 32 [] [some (.ref b0), none, none, some (.int y3), some (.ref (b0 + 29)), some (.long y5), none, some (.int y7), none] z G9 := by
    intro n9   
    induction n9 with
    | zero =>
      intro _ _ _ _ _ _ _ h
      exact (h : False).elim
    | succ n ih =>
      intro y3 y5 y7 v0 G9 g0 gF h
      rw [PL_T_simulate_32] at h
      refine z_iload O dX5_simulate_32 rfl ?_
      refine z_iload_n O dX5_simulate_34 rfl rfl ?_
      refine z_icmp_ge (tgt := 67) O dX5_simulate_35 (by decide) (fun c14_ => ?_) (fun c14_ => ?_)
      · have h := h.1 c14_
        refine z_aload O dX5_simulate_67 rfl ?_
        refine z_get (v := .ref ((b0 + 29) + 1)) O wf_RX5_90 dX5_simulate_69 (S_obj (T_trial_of g0)) rfl ?_
        refine z_get (v := .int (L_dropped (S_log (T_trial v0)))) O wf_RX5_238 dX5_simulate_72 (L_obj (S_log_of (T_trial_of g0))) rfl ?_
        refine z_aload_n O dX5_simulate_75 rfl rfl ?_
        refine z_get (v := .ref (b0 + 3)) O wf_RX5_19 dX5_simulate_76 (T_obj g0) rfl ?_
        refine z_get (v := .ref ((b0 + 3) + 1)) O wf_RX5_90 dX5_simulate_79 (S_obj (T_state_of g0)) rfl ?_
        refine z_get (v := .int (L_dropped (S_log (T_state v0)))) O wf_RX5_238 dX5_simulate_82 (L_obj (S_log_of (T_state_of g0))) rfl ?_
        refine z_isub O dX5_simulate_85 ?_
        refine z_istore (L' := [some (.ref b0), none, none, some (.int y3), some (.ref (b0 + 29)), some (.long y5), none, some (.int ((L_dropped (S_log (T_trial v0))) - (L_dropped (S_log (T_state v0))))), none]) O dX5_simulate_86 (by decide) rfl ?_
        refine z_aload O dX5_simulate_88 rfl ?_
        refine z_get (v := .int (S_missed (T_trial v0))) O wf_RX5_241 dX5_simulate_90 (S_obj (T_trial_of g0)) rfl ?_
        refine z_aload_n O dX5_simulate_93 rfl rfl ?_
        refine z_get (v := .ref (b0 + 3)) O wf_RX5_19 dX5_simulate_94 (T_obj g0) rfl ?_
        refine z_get (v := .int (S_missed (T_state v0))) O wf_RX5_241 dX5_simulate_97 (S_obj (T_state_of g0)) rfl ?_
        refine z_isub O dX5_simulate_100 ?_
        refine z_bipush (v := 99) O dX5_simulate_101 (by decide) ?_
        refine z_mmin O wm_RX5_244 wm_min_s wm_math wm_min_c dX5_simulate_103 (Nat.le_of_ble_eq_true rfl) (Nat.le_of_ble_eq_true rfl) (Nat.le_of_ble_eq_true rfl) (Nat.le_of_ble_eq_true rfl) ?_
        refine z_istore (L' := [some (.ref b0), none, none, some (.int y3), some (.ref (b0 + 29)), some (.long y5), none, some (.int ((L_dropped (S_log (T_trial v0))) - (L_dropped (S_log (T_state v0))))), some (.int (zmin ((S_missed (T_trial v0)) - (S_missed (T_state v0))) 99))]) O dX5_simulate_106 (by decide) rfl ?_
        refine z_sipush (v := 10000) O dX5_simulate_108 (by decide) ?_
        refine z_iload O dX5_simulate_111 rfl ?_
        refine z_imul O dX5_simulate_113 ?_
        refine z_bipush (v := 100) O dX5_simulate_114 (by decide) ?_
        refine z_iload O dX5_simulate_116 rfl ?_
        refine z_imul O dX5_simulate_118 ?_
        refine z_iadd O dX5_simulate_119 ?_
        refine z_aload O dX5_simulate_120 rfl ?_
        refine z_callVi (As := []) (st := [.int ((10000 * ((L_dropped (S_log (T_trial v0))) - (L_dropped (S_log (T_state v0))))) + (100 * (zmin ((S_missed (T_trial v0)) - (S_missed (T_state v0))) 99)))]) O (s_S_readerCount hfl (T_trial_of g0) h) wy_X3_readerCount wl_RX5_249 dX5_simulate_122 rfl rfl (S_obj (T_trial_of g0)) ⟨by decide, rfl⟩ ⟨Nat.le_of_ble_eq_true rfl, Nat.le_of_ble_eq_true rfl⟩ (Nat.le_of_ble_eq_true rfl) ⟨Nat.le_of_ble_eq_true rfl, Nat.le_of_ble_eq_true rfl⟩ (fun r15_ z16_ G17_ hq18_ => ?_)
        obtain ⟨rfl, rfl, h⟩ := hq18_
        refine z_iadd O dX5_simulate_125 ?_
        exact z_iretx O hret hlk dX5_simulate_126 (Nat.le_of_ble_eq_true rfl) (Nat.le_of_ble_eq_true rfl) ⟨_, rfl, rfl, _, g0, gF, h⟩
      · have h := h.2 c14_
        refine z_lload O dX5_simulate_38 rfl ?_
        refine z_ldc2 (v := 6364136223846793005) O wc_RX5_230 dX5_simulate_40 ?_
        refine z_lmul O dX5_simulate_43 ?_
        refine z_ldc2 (v := 1442695040888963407) O wc_RX5_232 dX5_simulate_44 ?_
        refine z_ladd O dX5_simulate_47 ?_
        refine z_lstore (L' := [some (.ref b0), none, none, some (.int y3), some (.ref (b0 + 29)), some (.long ((y5 * 6364136223846793005) + 1442695040888963407)), none, some (.int y7), none]) O dX5_simulate_48 (by decide) rfl ?_
        refine z_aload O dX5_simulate_50 rfl ?_
        refine z_lload O dX5_simulate_52 rfl ?_
        refine z_bipush (v := 33) O dX5_simulate_54 (by decide) ?_
        refine z_lushr O dX5_simulate_56 ?_
        refine z_l2i O dX5_simulate_57 ?_
        refine z_callSv (As := [.ref (b0 + 29), .int (Int64.toInt32 (zushr ((y5 * 6364136223846793005) + 1442695040888963407) 33))]) (st := []) O (s_T_takeTurn hfl (T_trial_of g0) h) wy_X5_takeTurn wl_RX5_234 dX5_simulate_58 rfl rfl ⟨Nat.le_of_ble_eq_true rfl, Nat.le_of_ble_eq_true rfl⟩ (Nat.le_of_ble_eq_true rfl) ⟨Nat.le_of_ble_eq_true rfl, Nat.le_of_ble_eq_true rfl⟩ (fun z20_ G21_ hq22_ => ?_)
        obtain ⟨rfl, v23_, k24_, f25_, h⟩ := hq22_
        have k26_ := T_put_trial g0 k24_ f25_
        have f27_ : Fr b0 475 G9 G21_ := Fr.mono f25_ (by omega) (by omega)
        obtain ⟨v28_, ev28_⟩ : ∃ w, w = (T_set_trial v0 v23_) := ⟨_, rfl⟩
        have h := h v28_ ev28_
        have k29_ : TA b0 v28_ G21_ := by rw [ev28_]; exact k26_
        have F30_ : Fr b0 475 G G21_ := Fr.trans gF f27_
        refine z_iinc (v := (y7 + 1)) (L' := [some (.ref b0), none, none, some (.int y3), some (.ref (b0 + 29)), some (.long ((y5 * 6364136223846793005) + 1442695040888963407)), none, some (.int (y7 + 1)), none]) O dX5_simulate_61 rfl (by first | rfl | decide) (by decide) rfl ?_
        refine z_goto (tgt := 32) O dX5_simulate_64 (by decide) ?_
        exact z_subL (L' := [some (.ref b0), none, none, some (.int y3), some (.ref (b0 + 29)), some (.long ((y5 * 6364136223846793005) + 1442695040888963407)), none, some (.int (y7 + 1)), none]) (zLe.sub (And.intro rfl (And.intro rfl (And.intro rfl (And.intro rfl (And.intro rfl True.intro)))))) (ih y3 ((y5 * 6364136223846793005) + 1442695040888963407) (y7 + 1) v28_ G21_ k29_ F30_ h)
  refine z_iload_n O dX5_simulate_0 rfl rfl ?_
  refine z_iconst (v := 1) O dX5_simulate_1 (by decide) ?_
  refine z_bipush (v := 60) O dX5_simulate_2 (by decide) ?_
  refine z_callSi (As := [.int x2, .int 1, .int 60]) (st := []) O (s_T_isIn hfl h) wy_X5_isIn wl_RX5_41 dX5_simulate_4 rfl rfl ⟨Nat.le_of_ble_eq_true rfl, Nat.le_of_ble_eq_true rfl⟩ (Nat.le_of_ble_eq_true rfl) ⟨Nat.le_of_ble_eq_true rfl, Nat.le_of_ble_eq_true rfl⟩ (fun r1_ z2_ G3_ hq4_ => ?_)
  obtain ⟨rfl, rfl, h⟩ := hq4_
  refine z_if_ne (tgt := 20) O dX5_simulate_7 (by decide) (fun c5_ => ?_) (fun c5_ => ?_)
  · have h := h.1 c5_
    refine z_aload_n O dX5_simulate_20 rfl rfl ?_
    refine z_callVa (As := []) (st := []) O (s_T_copyToTry hfl h0 h) wy_X5_copyToTry wl_RX5_191 dX5_simulate_21 rfl rfl (T_obj h0) ⟨by decide, rfl⟩ ⟨Nat.le_of_ble_eq_true rfl, Nat.le_of_ble_eq_true rfl⟩ (Nat.le_of_ble_eq_true rfl) ⟨Nat.le_of_ble_eq_true rfl, Nat.le_of_ble_eq_true rfl⟩ (fun r6_ z7_ G8_ hq9_ => ?_)
    obtain ⟨rfl, rfl, v10_, k11_, f12_, h⟩ := hq9_
    have F13_ : Fr b0 475 G G8_ := Fr.trans Fr.rf f12_
    refine z_astore (L' := [some (.ref b0), some (.long x1), none, some (.int x2), some (.ref (b0 + 29)), none, none, none, none]) O dX5_simulate_24 (by decide) rfl ?_
    refine z_lload_n O dX5_simulate_26 rfl rfl ?_
    refine z_lstore (L' := [some (.ref b0), some (.long x1), none, some (.int x2), some (.ref (b0 + 29)), some (.long x1), none, none, none]) O dX5_simulate_27 (by decide) rfl ?_
    refine z_iconst (v := 0) O dX5_simulate_29 (by decide) ?_
    refine z_istore (L' := [some (.ref b0), some (.long x1), none, some (.int x2), some (.ref (b0 + 29)), some (.long x1), none, some (.int 0), none]) O dX5_simulate_30 (by decide) rfl ?_
    obtain ⟨n31_, h⟩ := h
    exact z_subL (L' := [some (.ref b0), none, none, some (.int x2), some (.ref (b0 + 29)), some (.long x1), none, some (.int 0), none]) (zLe.sub (And.intro rfl (And.intro rfl (And.intro rfl (And.intro rfl (And.intro rfl True.intro)))))) (HL32 n31_ x2 x1 0 v10_ G8_ k11_ F13_ h)
  · have h := h.2 c5_
    exact z_throw O wt_RX5_45_49 (tx := "m is not 1 to 60") (is := 228) (by decide +kernel) dX5_simulate_10 dX5_simulate_13 dX5_simulate_14 dX5_simulate_16 dX5_simulate_19 hout (Nat.le_of_ble_eq_true rfl) (Nat.le_of_ble_eq_true rfl) (Nat.le_of_ble_eq_true rfl) (Nat.le_of_ble_eq_true rfl) hlk (fun z1 => ⟨_, h0, Fr.rf, h⟩) (Nat.le_of_ble_eq_true rfl) (Nat.le_of_ble_eq_true rfl)

theorem dX5_save_0 : decode cX5_save 0 = .ok (.iload_n 1, 1) := by decide +kernel
theorem dX5_save_1 : decode cX5_save 1 = .ok (.iconst 0, 1) := by decide +kernel
theorem dX5_save_2 : decode cX5_save 2 = .ok (.iconst 1, 1) := by decide +kernel
theorem dX5_save_3 : decode cX5_save 3 = .ok (.invokestatic 41, 3) := by decide +kernel
theorem dX5_save_6 : decode cX5_save 6 = .ok (.ifCond .ne 13, 3) := by decide +kernel
theorem dX5_save_9 : decode cX5_save 9 = .ok (.new 100, 3) := by decide +kernel
theorem dX5_save_12 : decode cX5_save 12 = .ok (.dup, 1) := by decide +kernel
theorem dX5_save_13 : decode cX5_save 13 = .ok (.ldc 252, 2) := by decide +kernel
theorem dX5_save_15 : decode cX5_save 15 = .ok (.invokespecial 104, 3) := by decide +kernel
theorem dX5_save_18 : decode cX5_save 18 = .ok (.athrow, 1) := by decide +kernel
theorem dX5_save_19 : decode cX5_save 19 = .ok (.aload_n 0, 1) := by decide +kernel
theorem dX5_save_20 : decode cX5_save 20 = .ok (.getfield 33, 3) := by decide +kernel
theorem dX5_save_23 : decode cX5_save 23 = .ok (.iload_n 1, 1) := by decide +kernel
theorem dX5_save_24 : decode cX5_save 24 = .ok (.aaload, 1) := by decide +kernel
theorem dX5_save_25 : decode cX5_save 25 = .ok (.astore_n 2, 1) := by decide +kernel
theorem dX5_save_26 : decode cX5_save 26 = .ok (.aload_n 2, 1) := by decide +kernel
theorem dX5_save_27 : decode cX5_save 27 = .ok (.ifnull 11, 3) := by decide +kernel
theorem dX5_save_30 : decode cX5_save 30 = .ok (.aload_n 2, 1) := by decide +kernel
theorem dX5_save_31 : decode cX5_save 31 = .ok (.aload_n 0, 1) := by decide +kernel
theorem dX5_save_32 : decode cX5_save 32 = .ok (.getfield 19, 3) := by decide +kernel
theorem dX5_save_35 : decode cX5_save 35 = .ok (.invokevirtual 254, 3) := by decide +kernel
theorem dX5_save_38 : decode cX5_save 38 = .ok (.aload_n 0, 1) := by decide +kernel
theorem dX5_save_39 : decode cX5_save 39 = .ok (.getfield 37, 3) := by decide +kernel
theorem dX5_save_42 : decode cX5_save 42 = .ok (.iload_n 1, 1) := by decide +kernel
theorem dX5_save_43 : decode cX5_save 43 = .ok (.iconst 1, 1) := by decide +kernel
theorem dX5_save_44 : decode cX5_save 44 = .ok (.bastore, 1) := by decide +kernel
theorem dX5_save_45 : decode cX5_save 45 = .ok (.aload_n 0, 1) := by decide +kernel
theorem dX5_save_46 : decode cX5_save 46 = .ok (.getfield 19, 3) := by decide +kernel
theorem dX5_save_49 : decode cX5_save 49 = .ok (.getfield 258, 3) := by decide +kernel
theorem dX5_save_52 : decode cX5_save 52 = .ok (.ireturn, 1) := by decide +kernel
def PJ_T_save_38 (x1 : Int32) (y1 : Int32) (v0 : TT) (X : String → TT → Prop) (Q : Int32 → TT → Prop) : Prop := vp_in y1 2 ∧ (∀ v26_, v26_ = (T_set_filled v0 (upd (T_filled v0) (Int32.toNatClampNeg y1) 1)) → (Q (S_time (T_state v26_)) v26_))
def P_T_save (x1 : Int32) (v0 : TT) (X : String → TT → Prop) (Q : Int32 → TT → Prop) : Prop := P_T_isIn x1 0 1 (fun r1_ => (((¬ r1_ = 0 → vp_in x1 2 ∧ (P_S_takeOver (T_slots v0 (Int32.toNatClampNeg x1)) (T_state v0) (fun v11_ => (∀ v16_, v16_ = (T_seti_slots v0 (Int32.toNatClampNeg x1) v11_) → (PJ_T_save_38 x1 x1 v16_ X Q))))) ∧ (r1_ = 0 → X "java/lang/IndexOutOfBoundsException" v0))))
set_option maxRecDepth 100000 in
theorem s_T_save {l : Launch} {D : zD} {B : Nat} {sa : Nat → Nat} (hfl : l.stackTraces = false) {z : Nat} {G : zG} {b0 : Nat} {x1 : Int32} {v0 : TT} {X : String → TT → Prop} {Q : Int32 → TT → Prop} (h0 : TA b0 v0 G) (h : P_T_save x1 v0 X Q) : zSx l D B sa yX5_save cX5_save 3 (some .int) 6 118 1 6 [.ref b0, .int x1] z G (zRi fun r z' G' => z = z' ∧ ∃ w, TA b0 w G' ∧ Fr b0 475 G G' ∧ Q r w) (fun E z' G' => ∃ w, TA b0 w G' ∧ Fr b0 475 G G' ∧ X E w) := by
  unfold P_T_save at h
  refine z_ofX (by decide +kernel) hfl [some (.ref b0), some (.int x1), none] rfl (Nat.le_of_ble_eq_true rfl) (fun p e s m args below meth c O hret hlk hout => ?_)
  have O : zO p l s m args c D B sa 3 cX5_save RX5 := O
  have HJ38 : ∀ (y1 : Int32) (v0 : TT) (G9 : zG) (g0 : TA b0 v0 G9) (gF : Fr b0 475 G G9), PJ_T_save_38 x1 y1 v0 X Q → zT p l e (zrm 6 118 1 6) s m args below meth c (zEnx below D B (zRi fun r z' G' => z = z' ∧ ∃ w, TA b0 w G' ∧ Fr b0 475 G G' ∧ Q r w) (fun E z' G' => ∃ w, TA b0 w G' ∧ Fr b0 475 G G' ∧ X E w) args s 1 6) D B 3 0 0 38 [] [some (.ref b0), some (.int y1), none] z G9 := by
    intro y1 v0 G9 g0 gF h
    unfold PJ_T_save_38 at h
    refine z_aload_n O dX5_save_38 rfl rfl ?_
    refine z_get (v := .ref (b0 + 422)) O wf_RX5_37 dX5_save_39 (T_obj g0) rfl ?_
    refine z_iload_n O dX5_save_42 rfl rfl ?_
    refine z_iconst (v := 1) O dX5_save_43 (by decide) ?_
    obtain ⟨q19_, h⟩ := h
    refine y_zast O dX5_save_44 (T_filled_of g0) q19_ rfl (fun G20_ hw21_ => ?_)
    have k22_ := hw21_.1
    have f23_ := hw21_.fr
    have k24_ := T_put_filled g0 k22_ f23_
    have f25_ : Fr b0 475 G9 G20_ := Fr.mono f23_ (by omega) (by omega)
    obtain ⟨v26_, ev26_⟩ : ∃ w, w = (T_set_filled v0 (upd (T_filled v0) (Int32.toNatClampNeg y1) 1)) := ⟨_, rfl⟩
    have h := h v26_ ev26_
    have k27_ : TA b0 v26_ G20_ := by rw [ev26_]; exact k24_
    have F28_ : Fr b0 475 G G20_ := Fr.trans gF f25_
    refine z_aload_n O dX5_save_45 rfl rfl ?_
    refine z_get (v := .ref (b0 + 3)) O wf_RX5_19 dX5_save_46 (T_obj k27_) rfl ?_
    refine z_get (v := .int (S_time (T_state v26_))) O wf_RX5_258 dX5_save_49 (S_obj (T_state_of k27_)) rfl ?_
    exact z_iretx O hret hlk dX5_save_52 (Nat.le_of_ble_eq_true rfl) (Nat.le_of_ble_eq_true rfl) ⟨_, rfl, rfl, _, k27_, F28_, h⟩
  refine z_iload_n O dX5_save_0 rfl rfl ?_
  refine z_iconst (v := 0) O dX5_save_1 (by decide) ?_
  refine z_iconst (v := 1) O dX5_save_2 (by decide) ?_
  refine z_callSi (As := [.int x1, .int 0, .int 1]) (st := []) O (s_T_isIn hfl h) wy_X5_isIn wl_RX5_41 dX5_save_3 rfl rfl ⟨Nat.le_of_ble_eq_true rfl, Nat.le_of_ble_eq_true rfl⟩ (Nat.le_of_ble_eq_true rfl) ⟨Nat.le_of_ble_eq_true rfl, Nat.le_of_ble_eq_true rfl⟩ (fun r1_ z2_ G3_ hq4_ => ?_)
  obtain ⟨rfl, rfl, h⟩ := hq4_
  refine z_if_ne (tgt := 19) O dX5_save_6 (by decide) (fun c5_ => ?_) (fun c5_ => ?_)
  · have h := h.1 c5_
    refine z_aload_n O dX5_save_19 rfl rfl ?_
    refine z_get (v := .ref (b0 + 421)) O wf_RX5_33 dX5_save_20 (T_obj h0) rfl ?_
    refine z_iload_n O dX5_save_23 rfl rfl ?_
    obtain ⟨q6_, h⟩ := h
    refine z_sald O dX5_save_24 (T_slots_row h0) q6_ ?_
    refine z_astore_n (L' := [some (.ref b0), some (.int x1), some (.ref (b0 + 423 + 26 * (Int32.toNatClampNeg x1)))]) O dX5_save_25 rfl (by decide) rfl ?_
    refine z_aload_n O dX5_save_26 rfl rfl ?_
    refine z_ifnull O dX5_save_27 ?_
    refine z_aload_n O dX5_save_30 rfl rfl ?_
    refine z_aload_n O dX5_save_31 rfl rfl ?_
    refine z_get (v := .ref (b0 + 3)) O wf_RX5_19 dX5_save_32 (T_obj h0) rfl ?_
    refine z_callVv (As := [.ref (b0 + 3)]) (st := []) O (s_S_takeOver hfl (T_slots_of h0 (z_lt q6_)) (T_state_of h0) (by omega) h) wy_X3_takeOver wl_RX5_254 dX5_save_35 rfl rfl (S_obj (T_slots_of h0 (z_lt q6_))) ⟨by decide, rfl⟩ ⟨Nat.le_of_ble_eq_true rfl, Nat.le_of_ble_eq_true rfl⟩ (Nat.le_of_ble_eq_true rfl) ⟨Nat.le_of_ble_eq_true rfl, Nat.le_of_ble_eq_true rfl⟩ (fun z8_ G9_ hq10_ => ?_)
    obtain ⟨rfl, v11_, k12_, f13_, h⟩ := hq10_
    have k14_ := T_put_slots h0 (z_lt q6_) k12_ f13_
    have f15_ : Fr b0 475 G G9_ := Fr.mono f13_ (by have := (z_lt q6_); omega) (by have := (z_lt q6_); omega)
    obtain ⟨v16_, ev16_⟩ : ∃ w, w = (T_seti_slots v0 (Int32.toNatClampNeg x1) v11_) := ⟨_, rfl⟩
    have h := h v16_ ev16_
    have k17_ : TA b0 v16_ G9_ := by rw [ev16_]; exact k14_
    have F18_ : Fr b0 475 G G9_ := Fr.trans Fr.rf f15_
    exact z_subL (L' := [some (.ref b0), some (.int x1), none]) (zLe.sub (And.intro rfl (And.intro rfl True.intro))) (HJ38 x1 v16_ G9_ k17_ F18_ h)
  · have h := h.2 c5_
    exact z_throw O wt_RX5_100_104 (tx := "there is no such save slot") (is := 252) (by decide +kernel) dX5_save_9 dX5_save_12 dX5_save_13 dX5_save_15 dX5_save_18 hout (Nat.le_of_ble_eq_true rfl) (Nat.le_of_ble_eq_true rfl) (Nat.le_of_ble_eq_true rfl) (Nat.le_of_ble_eq_true rfl) hlk (fun z1 => ⟨_, h0, Fr.rf, h⟩) (Nat.le_of_ble_eq_true rfl) (Nat.le_of_ble_eq_true rfl)

theorem dX5_restore_0 : decode cX5_restore 0 = .ok (.iload_n 1, 1) := by decide +kernel
theorem dX5_restore_1 : decode cX5_restore 1 = .ok (.iconst 0, 1) := by decide +kernel
theorem dX5_restore_2 : decode cX5_restore 2 = .ok (.iconst 1, 1) := by decide +kernel
theorem dX5_restore_3 : decode cX5_restore 3 = .ok (.invokestatic 41, 3) := by decide +kernel
theorem dX5_restore_6 : decode cX5_restore 6 = .ok (.ifCond .ne 13, 3) := by decide +kernel
theorem dX5_restore_9 : decode cX5_restore 9 = .ok (.new 100, 3) := by decide +kernel
theorem dX5_restore_12 : decode cX5_restore 12 = .ok (.dup, 1) := by decide +kernel
theorem dX5_restore_13 : decode cX5_restore 13 = .ok (.ldc 252, 2) := by decide +kernel
theorem dX5_restore_15 : decode cX5_restore 15 = .ok (.invokespecial 104, 3) := by decide +kernel
theorem dX5_restore_18 : decode cX5_restore 18 = .ok (.athrow, 1) := by decide +kernel
theorem dX5_restore_19 : decode cX5_restore 19 = .ok (.aload_n 0, 1) := by decide +kernel
theorem dX5_restore_20 : decode cX5_restore 20 = .ok (.getfield 37, 3) := by decide +kernel
theorem dX5_restore_23 : decode cX5_restore 23 = .ok (.iload_n 1, 1) := by decide +kernel
theorem dX5_restore_24 : decode cX5_restore 24 = .ok (.baload, 1) := by decide +kernel
theorem dX5_restore_25 : decode cX5_restore 25 = .ok (.ifCond .ne 14, 3) := by decide +kernel
theorem dX5_restore_28 : decode cX5_restore 28 = .ok (.new 56, 3) := by decide +kernel
theorem dX5_restore_31 : decode cX5_restore 31 = .ok (.dup, 1) := by decide +kernel
theorem dX5_restore_32 : decode cX5_restore 32 = .ok (.ldc_w 261, 3) := by decide +kernel
theorem dX5_restore_35 : decode cX5_restore 35 = .ok (.invokespecial 60, 3) := by decide +kernel
theorem dX5_restore_38 : decode cX5_restore 38 = .ok (.athrow, 1) := by decide +kernel
theorem dX5_restore_39 : decode cX5_restore 39 = .ok (.aload_n 0, 1) := by decide +kernel
theorem dX5_restore_40 : decode cX5_restore 40 = .ok (.getfield 19, 3) := by decide +kernel
theorem dX5_restore_43 : decode cX5_restore 43 = .ok (.aload_n 0, 1) := by decide +kernel
theorem dX5_restore_44 : decode cX5_restore 44 = .ok (.getfield 33, 3) := by decide +kernel
theorem dX5_restore_47 : decode cX5_restore 47 = .ok (.iload_n 1, 1) := by decide +kernel
theorem dX5_restore_48 : decode cX5_restore 48 = .ok (.aaload, 1) := by decide +kernel
theorem dX5_restore_49 : decode cX5_restore 49 = .ok (.invokevirtual 254, 3) := by decide +kernel
theorem dX5_restore_52 : decode cX5_restore 52 = .ok (.aload_n 0, 1) := by decide +kernel
theorem dX5_restore_53 : decode cX5_restore 53 = .ok (.getfield 29, 3) := by decide +kernel
theorem dX5_restore_56 : decode cX5_restore 56 = .ok (.invokevirtual 77, 3) := by decide +kernel
theorem dX5_restore_59 : decode cX5_restore 59 = .ok (.aload_n 0, 1) := by decide +kernel
theorem dX5_restore_60 : decode cX5_restore 60 = .ok (.getfield 19, 3) := by decide +kernel
theorem dX5_restore_63 : decode cX5_restore 63 = .ok (.getfield 258, 3) := by decide +kernel
theorem dX5_restore_66 : decode cX5_restore 66 = .ok (.ireturn, 1) := by decide +kernel
def P_T_restore (x1 : Int32) (v0 : TT) (X : String → TT → Prop) (Q : Int32 → TT → Prop) : Prop := P_T_isIn x1 0 1 (fun r1_ => (((¬ r1_ = 0 → vp_in x1 2 ∧ (((¬ ((T_filled v0) (Int32.toNatClampNeg x1)) = 0 → vp_in x1 2 ∧ (P_S_takeOver (T_state v0) (T_slots v0 (Int32.toNatClampNeg x1)) (fun v13_ => (∀ v18_, v18_ = (T_set_state v0 v13_) → (P_H_forget (T_history v18_) (fun v25_ => (∀ v30_, v30_ = (T_set_history v18_ v25_) → (Q (S_time (T_state v30_)) v30_)))))))) ∧ (((T_filled v0) (Int32.toNatClampNeg x1)) = 0 → X "java/lang/IllegalStateException" v0)))) ∧ (r1_ = 0 → X "java/lang/IndexOutOfBoundsException" v0))))
set_option maxRecDepth 100000 in
theorem s_T_restore {l : Launch} {D : zD} {B : Nat} {sa : Nat → Nat} (hfl : l.stackTraces = false) {z : Nat} {G : zG} {b0 : Nat} {x1 : Int32} {v0 : TT} {X : String → TT → Prop} {Q : Int32 → TT → Prop} (h0 : TA b0 v0 G) (h : P_T_restore x1 v0 X Q) : zSx l D B sa yX5_restore cX5_restore 2 (some .int) 6 118 1 6 [.ref b0, .int x1] z G (zRi fun r z' G' => z = z' ∧ ∃ w, TA b0 w G' ∧ Fr b0 475 G G' ∧ Q r w) (fun E z' G' => ∃ w, TA b0 w G' ∧ Fr b0 475 G G' ∧ X E w) := by
  unfold P_T_restore at h
  refine z_ofX (by decide +kernel) hfl [some (.ref b0), some (.int x1)] rfl (Nat.le_of_ble_eq_true rfl) (fun p e s m args below meth c O hret hlk hout => ?_)
  have O : zO p l s m args c D B sa 2 cX5_restore RX5 := O
  refine z_iload_n O dX5_restore_0 rfl rfl ?_
  refine z_iconst (v := 0) O dX5_restore_1 (by decide) ?_
  refine z_iconst (v := 1) O dX5_restore_2 (by decide) ?_
  refine z_callSi (As := [.int x1, .int 0, .int 1]) (st := []) O (s_T_isIn hfl h) wy_X5_isIn wl_RX5_41 dX5_restore_3 rfl rfl ⟨Nat.le_of_ble_eq_true rfl, Nat.le_of_ble_eq_true rfl⟩ (Nat.le_of_ble_eq_true rfl) ⟨Nat.le_of_ble_eq_true rfl, Nat.le_of_ble_eq_true rfl⟩ (fun r1_ z2_ G3_ hq4_ => ?_)
  obtain ⟨rfl, rfl, h⟩ := hq4_
  refine z_if_ne (tgt := 19) O dX5_restore_6 (by decide) (fun c5_ => ?_) (fun c5_ => ?_)
  · have h := h.1 c5_
    refine z_aload_n O dX5_restore_19 rfl rfl ?_
    refine z_get (v := .ref (b0 + 422)) O wf_RX5_37 dX5_restore_20 (T_obj h0) rfl ?_
    refine z_iload_n O dX5_restore_23 rfl rfl ?_
    obtain ⟨q6_, h⟩ := h
    refine z_zald O dX5_restore_24 (T_filled_of h0) q6_ ?_
    refine z_if_ne (tgt := 39) O dX5_restore_25 (by decide) (fun c7_ => ?_) (fun c7_ => ?_)
    · have h := h.1 c7_
      refine z_aload_n O dX5_restore_39 rfl rfl ?_
      refine z_get (v := .ref (b0 + 3)) O wf_RX5_19 dX5_restore_40 (T_obj h0) rfl ?_
      refine z_aload_n O dX5_restore_43 rfl rfl ?_
      refine z_get (v := .ref (b0 + 421)) O wf_RX5_33 dX5_restore_44 (T_obj h0) rfl ?_
      refine z_iload_n O dX5_restore_47 rfl rfl ?_
      obtain ⟨q8_, h⟩ := h
      refine z_sald O dX5_restore_48 (T_slots_row h0) q8_ ?_
      refine z_callVv (As := [.ref (b0 + 423 + 26 * (Int32.toNatClampNeg x1))]) (st := []) O (s_S_takeOver hfl (T_state_of h0) (T_slots_of h0 (z_lt q8_)) (by omega) h) wy_X3_takeOver wl_RX5_254 dX5_restore_49 rfl rfl (S_obj (T_state_of h0)) ⟨by decide, rfl⟩ ⟨Nat.le_of_ble_eq_true rfl, Nat.le_of_ble_eq_true rfl⟩ (Nat.le_of_ble_eq_true rfl) ⟨Nat.le_of_ble_eq_true rfl, Nat.le_of_ble_eq_true rfl⟩ (fun z10_ G11_ hq12_ => ?_)
      obtain ⟨rfl, v13_, k14_, f15_, h⟩ := hq12_
      have k16_ := T_put_state h0 k14_ f15_
      have f17_ : Fr b0 475 G G11_ := Fr.mono f15_ (by omega) (by omega)
      obtain ⟨v18_, ev18_⟩ : ∃ w, w = (T_set_state v0 v13_) := ⟨_, rfl⟩
      have h := h v18_ ev18_
      have k19_ : TA b0 v18_ G11_ := by rw [ev18_]; exact k16_
      have F20_ : Fr b0 475 G G11_ := Fr.trans Fr.rf f17_
      refine z_aload_n O dX5_restore_52 rfl rfl ?_
      refine z_get (v := .ref (b0 + 55)) O wf_RX5_29 dX5_restore_53 (T_obj k19_) rfl ?_
      refine z_callVv (As := []) (st := []) O (s_H_forget hfl (T_history_of k19_) h) wy_X0_forget wl_RX5_77 dX5_restore_56 rfl rfl (H_obj (T_history_of k19_)) ⟨by decide, rfl⟩ ⟨Nat.le_of_ble_eq_true rfl, Nat.le_of_ble_eq_true rfl⟩ (Nat.le_of_ble_eq_true rfl) ⟨Nat.le_of_ble_eq_true rfl, Nat.le_of_ble_eq_true rfl⟩ (fun z22_ G23_ hq24_ => ?_)
      obtain ⟨rfl, v25_, k26_, f27_, h⟩ := hq24_
      have k28_ := T_put_history k19_ k26_ f27_
      have f29_ : Fr b0 475 G11_ G23_ := Fr.mono f27_ (by omega) (by omega)
      obtain ⟨v30_, ev30_⟩ : ∃ w, w = (T_set_history v18_ v25_) := ⟨_, rfl⟩
      have h := h v30_ ev30_
      have k31_ : TA b0 v30_ G23_ := by rw [ev30_]; exact k28_
      have F32_ : Fr b0 475 G G23_ := Fr.trans F20_ f29_
      refine z_aload_n O dX5_restore_59 rfl rfl ?_
      refine z_get (v := .ref (b0 + 3)) O wf_RX5_19 dX5_restore_60 (T_obj k31_) rfl ?_
      refine z_get (v := .int (S_time (T_state v30_))) O wf_RX5_258 dX5_restore_63 (S_obj (T_state_of k31_)) rfl ?_
      exact z_iretx O hret hlk dX5_restore_66 (Nat.le_of_ble_eq_true rfl) (Nat.le_of_ble_eq_true rfl) ⟨_, rfl, rfl, _, k31_, F32_, h⟩
    · have h := h.2 c7_
      exact z_throwW O wt_RX5_56_60 (tx := "nothing has been saved in it since the last load") (is := 261) (by decide +kernel) dX5_restore_28 dX5_restore_31 dX5_restore_32 dX5_restore_35 dX5_restore_38 hout (Nat.le_of_ble_eq_true rfl) (Nat.le_of_ble_eq_true rfl) (Nat.le_of_ble_eq_true rfl) (Nat.le_of_ble_eq_true rfl) hlk (fun z1 => ⟨_, h0, Fr.rf, h⟩) (Nat.le_of_ble_eq_true rfl) (Nat.le_of_ble_eq_true rfl)
  · have h := h.2 c5_
    exact z_throw O wt_RX5_100_104 (tx := "there is no such save slot") (is := 252) (by decide +kernel) dX5_restore_9 dX5_restore_12 dX5_restore_13 dX5_restore_15 dX5_restore_18 hout (Nat.le_of_ble_eq_true rfl) (Nat.le_of_ble_eq_true rfl) (Nat.le_of_ble_eq_true rfl) (Nat.le_of_ble_eq_true rfl) hlk (fun z1 => ⟨_, h0, Fr.rf, h⟩) (Nat.le_of_ble_eq_true rfl) (Nat.le_of_ble_eq_true rfl)
