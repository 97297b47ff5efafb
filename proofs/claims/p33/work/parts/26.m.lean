theorem dX5_runScript_0 : decode cX5_runScript 0 = .ok (.iload_n 1, 1) := by decide +kernel
theorem dX5_runScript_1 : decode cX5_runScript 1 = .ok (.iconst 1, 1) := by decide +kernel
theorem dX5_runScript_2 : decode cX5_runScript 2 = .ok (.iconst 3, 1) := by decide +kernel
theorem dX5_runScript_3 : decode cX5_runScript 3 = .ok (.invokestatic 41, 3) := by decide +kernel
theorem dX5_runScript_6 : decode cX5_runScript 6 = .ok (.ifCond .ne 13, 3) := by decide +kernel
theorem dX5_runScript_9 : decode cX5_runScript 9 = .ok (.new 45, 3) := by decide +kernel
theorem dX5_runScript_12 : decode cX5_runScript 12 = .ok (.dup, 1) := by decide +kernel
theorem dX5_runScript_13 : decode cX5_runScript 13 = .ok (.ldc 214, 2) := by decide +kernel
theorem dX5_runScript_15 : decode cX5_runScript 15 = .ok (.invokespecial 49, 3) := by decide +kernel
theorem dX5_runScript_18 : decode cX5_runScript 18 = .ok (.athrow, 1) := by decide +kernel
theorem dX5_runScript_19 : decode cX5_runScript 19 = .ok (.lload_n 2, 1) := by decide +kernel
theorem dX5_runScript_20 : decode cX5_runScript 20 = .ok (.lconst 0, 1) := by decide +kernel
theorem dX5_runScript_21 : decode cX5_runScript 21 = .ok (.lcmp, 1) := by decide +kernel
theorem dX5_runScript_22 : decode cX5_runScript 22 = .ok (.ifCond .lt 13, 3) := by decide +kernel
theorem dX5_runScript_25 : decode cX5_runScript 25 = .ok (.lload_n 2, 1) := by decide +kernel
theorem dX5_runScript_26 : decode cX5_runScript 26 = .ok (.iload_n 1, 1) := by decide +kernel
theorem dX5_runScript_27 : decode cX5_runScript 27 = .ok (.invokestatic 216, 3) := by decide +kernel
theorem dX5_runScript_30 : decode cX5_runScript 30 = .ok (.lconst 0, 1) := by decide +kernel
theorem dX5_runScript_31 : decode cX5_runScript 31 = .ok (.lcmp, 1) := by decide +kernel
theorem dX5_runScript_32 : decode cX5_runScript 32 = .ok (.ifCond .le 13, 3) := by decide +kernel
theorem dX5_runScript_35 : decode cX5_runScript 35 = .ok (.new 45, 3) := by decide +kernel
theorem dX5_runScript_38 : decode cX5_runScript 38 = .ok (.dup, 1) := by decide +kernel
theorem dX5_runScript_39 : decode cX5_runScript 39 = .ok (.ldc 220, 2) := by decide +kernel
theorem dX5_runScript_41 : decode cX5_runScript 41 = .ok (.invokespecial 49, 3) := by decide +kernel
theorem dX5_runScript_44 : decode cX5_runScript 44 = .ok (.athrow, 1) := by decide +kernel
theorem dX5_runScript_45 : decode cX5_runScript 45 = .ok (.aload_n 0, 1) := by decide +kernel
theorem dX5_runScript_46 : decode cX5_runScript 46 = .ok (.invokevirtual 191, 3) := by decide +kernel
theorem dX5_runScript_49 : decode cX5_runScript 49 = .ok (.astore 4, 2) := by decide +kernel
theorem dX5_runScript_51 : decode cX5_runScript 51 = .ok (.iconst 0, 1) := by decide +kernel
theorem dX5_runScript_52 : decode cX5_runScript 52 = .ok (.istore 5, 2) := by decide +kernel
theorem dX5_runScript_54 : decode cX5_runScript 54 = .ok (.iload 5, 2) := by decide +kernel
theorem dX5_runScript_56 : decode cX5_runScript 56 = .ok (.iload_n 1, 1) := by decide +kernel
theorem dX5_runScript_57 : decode cX5_runScript 57 = .ok (.if_icmp .ge 39, 3) := by decide +kernel
theorem dX5_runScript_60 : decode cX5_runScript 60 = .ok (.lload_n 2, 1) := by decide +kernel
theorem dX5_runScript_61 : decode cX5_runScript 61 = .ok (.iload_n 1, 1) := by decide +kernel
theorem dX5_runScript_62 : decode cX5_runScript 62 = .ok (.iconst 1, 1) := by decide +kernel
theorem dX5_runScript_63 : decode cX5_runScript 63 = .ok (.isub, 1) := by decide +kernel
theorem dX5_runScript_64 : decode cX5_runScript 64 = .ok (.iload 5, 2) := by decide +kernel
theorem dX5_runScript_66 : decode cX5_runScript 66 = .ok (.isub, 1) := by decide +kernel
theorem dX5_runScript_67 : decode cX5_runScript 67 = .ok (.invokestatic 216, 3) := by decide +kernel
theorem dX5_runScript_70 : decode cX5_runScript 70 = .ok (.ldc2_w 222, 3) := by decide +kernel
theorem dX5_runScript_73 : decode cX5_runScript 73 = .ok (.lrem, 1) := by decide +kernel
theorem dX5_runScript_74 : decode cX5_runScript 74 = .ok (.l2i, 1) := by decide +kernel
theorem dX5_runScript_75 : decode cX5_runScript 75 = .ok (.istore 6, 2) := by decide +kernel
theorem dX5_runScript_77 : decode cX5_runScript 77 = .ok (.aload 4, 2) := by decide +kernel
theorem dX5_runScript_79 : decode cX5_runScript 79 = .ok (.iload 6, 2) := by decide +kernel
theorem dX5_runScript_81 : decode cX5_runScript 81 = .ok (.invokestatic 224, 3) := by decide +kernel
theorem dX5_runScript_84 : decode cX5_runScript 84 = .ok (.ifCond .ne 6, 3) := by decide +kernel
theorem dX5_runScript_87 : decode cX5_runScript 87 = .ok (.iload 5, 2) := by decide +kernel
theorem dX5_runScript_89 : decode cX5_runScript 89 = .ok (.ireturn, 1) := by decide +kernel
theorem dX5_runScript_90 : decode cX5_runScript 90 = .ok (.iinc 5 1, 3) := by decide +kernel
theorem dX5_runScript_93 : decode cX5_runScript 93 = .ok (.goto (-39), 3) := by decide +kernel
theorem dX5_runScript_96 : decode cX5_runScript 96 = .ok (.iconst (-1), 1) := by decide +kernel
theorem dX5_runScript_97 : decode cX5_runScript 97 = .ok (.ireturn, 1) := by decide +kernel
def PL_T_runScript_54 : Nat → Int32 → Int64 → Int32 → Int64 → Int32 → TT → (String → TT → Prop) → (Int32 → TT → Prop) → Prop
  | 0, _, _, _, _, _, _, _, _ => False
  | n + 1, x1, x2, y1, y2, y5, v0, X, Q => ((y1 ≤ y5 → Q (-1) v0) ∧ (¬ y1 ≤ y5 → P_T_withoutGroups y2 ((y1 - 1) - y5) (fun r21_ => (P_T_succeeds (Int64.toInt32 (zreml r21_ 1000000)) (T_trial v0) (fun r25_ v29_ => (∀ v34_, v34_ = (T_set_trial v0 v29_) → (((¬ r25_ = 0 → (fun y1 y2 y5 v0 => PL_T_runScript_54 n x1 x2 y1 y2 y5 v0  X Q) y1 y2 (y5 + 1) v34_) ∧ (r25_ = 0 → Q y5 v34_)))))))))
def P_T_runScript (x1 : Int32) (x2 : Int64) (v0 : TT) (X : String → TT → Prop) (Q : Int32 → TT → Prop) : Prop := P_T_isIn x1 1 3 (fun r1_ => (((¬ r1_ = 0 → (((lg_cmp x2 0) < 0 → X "java/lang/IllegalArgumentException" v0) ∧ (¬ (lg_cmp x2 0) < 0 → P_T_withoutGroups x2 x1 (fun r7_ => ((((lg_cmp r7_ 0) ≤ 0 → P_T_copyToTry v0 (fun v16_ => ((∃ n38_, PL_T_runScript_54 n38_ x1 x2 x1 x2 0 v16_ X Q)))) ∧ (¬ (lg_cmp r7_ 0) ≤ 0 → X "java/lang/IllegalArgumentException" v0))))))) ∧ (r1_ = 0 → X "java/lang/IllegalArgumentException" v0))))
set_option maxRecDepth 100000 in
theorem s_T_runScript {l : Launch} {D : zD} {B : Nat} {sa : Nat → Nat} (hfl : l.stackTraces = false) {z : Nat} {G : zG} {b0 : Nat} {x1 : Int32} {x2 : Int64} {v0 : TT} {X : String → TT → Prop} {Q : Int32 → TT → Prop} (h0 : TA b0 v0 G) (h : P_T_runScript x1 x2 v0 X Q) : zSx l D B sa yX5_runScript cX5_runScript 7 (some .int) 7 191 1 6 [.ref b0, .int x1, .long x2] z G (zRi fun r z' G' => z = z' ∧ ∃ w, TA b0 w G' ∧ Fr b0 475 G G' ∧ Q r w) (fun E z' G' => ∃ w, TA b0 w G' ∧ Fr b0 475 G G' ∧ X E w) := by
  unfold P_T_runScript at h
  refine z_ofX (by decide +kernel) hfl [some (.ref b0), some (.int x1), some (.long x2), none, none, none, none] rfl (Nat.le_of_ble_eq_true rfl) (fun p e s m args below meth c O hret hlk hout => ?_)
  have O : zO p l s m args c D B sa 7 cX5_runScript RX5 := O
  have HL54 : ∀ (n9 : Nat)    (y1 : Int32) (y2 : Int64) (y5 : Int32) (v0 : TT) (G9 : zG) (g0 : TA b0 v0 G9) (gF : Fr b0 475 G G9) (h : PL_T_runScript_54 n9 x1 x2 y1 y2 y5 v0 X Q), zT p l e (zrm 7 191 1 6) s m args below meth c (zEnx below D B (zRi fun r z' G' => z = z' ∧ ∃ w, TA b0 w G' ∧ Fr b0 475 G G' ∧ Q r w) (fun E z' G' => ∃ w, TA b0 w G' ∧ Fr b0 475 G G' ∧ X E w) args s 1 6) D B 7 0 0 54 [] [none, some (.int y1), some (.long y2), none, some (.ref (b0 + 29)), some (.int y5), none] z G9 := by
    intro n9   
    induction n9 with
    | zero =>
      intro _ _ _ _ _ _ _ h
      exact (h : False).elim
    | succ n ih =>
      intro y1 y2 y5 v0 G9 g0 gF h
      rw [PL_T_runScript_54] at h
      refine z_iload O dX5_runScript_54 rfl ?_
      refine z_iload_n O dX5_runScript_56 rfl rfl ?_
      refine z_icmp_ge (tgt := 96) O dX5_runScript_57 (by decide) (fun c20_ => ?_) (fun c20_ => ?_)
      · have h := h.1 c20_
        refine z_iconst (v := (-1)) O dX5_runScript_96 (by decide) ?_
        exact z_iretx O hret hlk dX5_runScript_97 (Nat.le_of_ble_eq_true rfl) (Nat.le_of_ble_eq_true rfl) ⟨_, rfl, rfl, _, g0, gF, h⟩
      · have h := h.2 c20_
        refine z_lload_n O dX5_runScript_60 rfl rfl ?_
        refine z_iload_n O dX5_runScript_61 rfl rfl ?_
        refine z_iconst (v := 1) O dX5_runScript_62 (by decide) ?_
        refine z_isub O dX5_runScript_63 ?_
        refine z_iload O dX5_runScript_64 rfl ?_
        refine z_isub O dX5_runScript_66 ?_
        refine z_callSl (As := [.long y2, .int ((y1 - 1) - y5)]) (st := []) O (s_T_withoutGroups hfl h) wy_X5_withoutGroups wl_RX5_216 dX5_runScript_67 rfl rfl ⟨Nat.le_of_ble_eq_true rfl, Nat.le_of_ble_eq_true rfl⟩ (Nat.le_of_ble_eq_true rfl) ⟨Nat.le_of_ble_eq_true rfl, Nat.le_of_ble_eq_true rfl⟩ (fun r21_ z22_ G23_ hq24_ => ?_)
        obtain ⟨rfl, rfl, h⟩ := hq24_
        refine z_ldc2 (v := 1000000) O wc_RX5_222 dX5_runScript_70 ?_
        refine z_lrem O dX5_runScript_73 (by decide) ?_
        refine z_l2i O dX5_runScript_74 ?_
        refine z_istore (L' := [none, some (.int y1), some (.long y2), none, some (.ref (b0 + 29)), some (.int y5), some (.int (Int64.toInt32 (zreml r21_ 1000000)))]) O dX5_runScript_75 (by decide) rfl ?_
        refine z_aload O dX5_runScript_77 rfl ?_
        refine z_iload O dX5_runScript_79 rfl ?_
        refine z_callSi (As := [.ref (b0 + 29), .int (Int64.toInt32 (zreml r21_ 1000000))]) (st := []) O (s_T_succeeds hfl (T_trial_of g0) h) wy_X5_succeeds wl_RX5_224 dX5_runScript_81 rfl rfl ⟨Nat.le_of_ble_eq_true rfl, Nat.le_of_ble_eq_true rfl⟩ (Nat.le_of_ble_eq_true rfl) ⟨Nat.le_of_ble_eq_true rfl, Nat.le_of_ble_eq_true rfl⟩ (fun r25_ z26_ G27_ hq28_ => ?_)
        obtain ⟨rfl, v29_, k30_, f31_, h⟩ := hq28_
        have k32_ := T_put_trial g0 k30_ f31_
        have f33_ : Fr b0 475 G9 G27_ := Fr.mono f31_ (by omega) (by omega)
        obtain ⟨v34_, ev34_⟩ : ∃ w, w = (T_set_trial v0 v29_) := ⟨_, rfl⟩
        have h := h v34_ ev34_
        have k35_ : TA b0 v34_ G27_ := by rw [ev34_]; exact k32_
        have F36_ : Fr b0 475 G G27_ := Fr.trans gF f33_
        refine z_if_ne (tgt := 90) O dX5_runScript_84 (by decide) (fun c37_ => ?_) (fun c37_ => ?_)
        · have h := h.1 c37_
          refine z_iinc (v := (y5 + 1)) (L' := [none, some (.int y1), some (.long y2), none, some (.ref (b0 + 29)), some (.int (y5 + 1)), some (.int (Int64.toInt32 (zreml r21_ 1000000)))]) O dX5_runScript_90 rfl (by first | rfl | decide) (by decide) rfl ?_
          refine z_goto (tgt := 54) O dX5_runScript_93 (by decide) ?_
          exact z_subL (L' := [none, some (.int y1), some (.long y2), none, some (.ref (b0 + 29)), some (.int (y5 + 1)), none]) (zLe.sub (And.intro rfl (And.intro rfl (And.intro rfl (And.intro rfl True.intro))))) (ih y1 y2 (y5 + 1) v34_ G27_ k35_ F36_ h)
        · have h := h.2 c37_
          refine z_iload O dX5_runScript_87 rfl ?_
          exact z_iretx O hret hlk dX5_runScript_89 (Nat.le_of_ble_eq_true rfl) (Nat.le_of_ble_eq_true rfl) ⟨_, rfl, rfl, _, k35_, F36_, h⟩
  refine z_iload_n O dX5_runScript_0 rfl rfl ?_
  refine z_iconst (v := 1) O dX5_runScript_1 (by decide) ?_
  refine z_iconst (v := 3) O dX5_runScript_2 (by decide) ?_
  refine z_callSi (As := [.int x1, .int 1, .int 3]) (st := []) O (s_T_isIn hfl h) wy_X5_isIn wl_RX5_41 dX5_runScript_3 rfl rfl ⟨Nat.le_of_ble_eq_true rfl, Nat.le_of_ble_eq_true rfl⟩ (Nat.le_of_ble_eq_true rfl) ⟨Nat.le_of_ble_eq_true rfl, Nat.le_of_ble_eq_true rfl⟩ (fun r1_ z2_ G3_ hq4_ => ?_)
  obtain ⟨rfl, rfl, h⟩ := hq4_
  refine z_if_ne (tgt := 19) O dX5_runScript_6 (by decide) (fun c5_ => ?_) (fun c5_ => ?_)
  · have h := h.1 c5_
    refine z_lload_n O dX5_runScript_19 rfl rfl ?_
    refine z_lconst (v := 0) O dX5_runScript_20 (by decide) ?_
    refine z_lcmp O dX5_runScript_21 ?_
    refine z_if_lt (tgt := 35) O dX5_runScript_22 (by decide) (fun c6_ => ?_) (fun c6_ => ?_)
    · have h := h.1 c6_
      exact z_throw O wt_RX5_45_49 (tx := "script is not a number of at most 6 * n digits") (is := 220) (by decide +kernel) dX5_runScript_35 dX5_runScript_38 dX5_runScript_39 dX5_runScript_41 dX5_runScript_44 hout (Nat.le_of_ble_eq_true rfl) (Nat.le_of_ble_eq_true rfl) (Nat.le_of_ble_eq_true rfl) (Nat.le_of_ble_eq_true rfl) hlk (fun z1 => ⟨_, h0, Fr.rf, h⟩) (Nat.le_of_ble_eq_true rfl) (Nat.le_of_ble_eq_true rfl)
    · have h := h.2 c6_
      refine z_lload_n O dX5_runScript_25 rfl rfl ?_
      refine z_iload_n O dX5_runScript_26 rfl rfl ?_
      refine z_callSl (As := [.long x2, .int x1]) (st := []) O (s_T_withoutGroups hfl h) wy_X5_withoutGroups wl_RX5_216 dX5_runScript_27 rfl rfl ⟨Nat.le_of_ble_eq_true rfl, Nat.le_of_ble_eq_true rfl⟩ (Nat.le_of_ble_eq_true rfl) ⟨Nat.le_of_ble_eq_true rfl, Nat.le_of_ble_eq_true rfl⟩ (fun r7_ z8_ G9_ hq10_ => ?_)
      obtain ⟨rfl, rfl, h⟩ := hq10_
      refine z_lconst (v := 0) O dX5_runScript_30 (by decide) ?_
      refine z_lcmp O dX5_runScript_31 ?_
      refine z_if_le (tgt := 45) O dX5_runScript_32 (by decide) (fun c11_ => ?_) (fun c11_ => ?_)
      · have h := h.1 c11_
        refine z_aload_n O dX5_runScript_45 rfl rfl ?_
        refine z_callVa (As := []) (st := []) O (s_T_copyToTry hfl h0 h) wy_X5_copyToTry wl_RX5_191 dX5_runScript_46 rfl rfl (T_obj h0) ⟨by decide, rfl⟩ ⟨Nat.le_of_ble_eq_true rfl, Nat.le_of_ble_eq_true rfl⟩ (Nat.le_of_ble_eq_true rfl) ⟨Nat.le_of_ble_eq_true rfl, Nat.le_of_ble_eq_true rfl⟩ (fun r12_ z13_ G14_ hq15_ => ?_)
        obtain ⟨rfl, rfl, v16_, k17_, f18_, h⟩ := hq15_
        have F19_ : Fr b0 475 G G14_ := Fr.trans Fr.rf f18_
        refine z_astore (L' := [some (.ref b0), some (.int x1), some (.long x2), none, some (.ref (b0 + 29)), none, none]) O dX5_runScript_49 (by decide) rfl ?_
        refine z_iconst (v := 0) O dX5_runScript_51 (by decide) ?_
        refine z_istore (L' := [some (.ref b0), some (.int x1), some (.long x2), none, some (.ref (b0 + 29)), some (.int 0), none]) O dX5_runScript_52 (by decide) rfl ?_
        obtain ⟨n38_, h⟩ := h
        exact z_subL (L' := [none, some (.int x1), some (.long x2), none, some (.ref (b0 + 29)), some (.int 0), none]) (zLe.sub (And.intro rfl (And.intro rfl (And.intro rfl (And.intro rfl True.intro))))) (HL54 n38_ x1 x2 0 v16_ G14_ k17_ F19_ h)
      · have h := h.2 c11_
        exact z_throw O wt_RX5_45_49 (tx := "script is not a number of at most 6 * n digits") (is := 220) (by decide +kernel) dX5_runScript_35 dX5_runScript_38 dX5_runScript_39 dX5_runScript_41 dX5_runScript_44 hout (Nat.le_of_ble_eq_true rfl) (Nat.le_of_ble_eq_true rfl) (Nat.le_of_ble_eq_true rfl) (Nat.le_of_ble_eq_true rfl) hlk (fun z1 => ⟨_, h0, Fr.rf, h⟩) (Nat.le_of_ble_eq_true rfl) (Nat.le_of_ble_eq_true rfl)
  · have h := h.2 c5_
    exact z_throw O wt_RX5_45_49 (tx := "n is not 1 to 3") (is := 214) (by decide +kernel) dX5_runScript_9 dX5_runScript_12 dX5_runScript_13 dX5_runScript_15 dX5_runScript_18 hout (Nat.le_of_ble_eq_true rfl) (Nat.le_of_ble_eq_true rfl) (Nat.le_of_ble_eq_true rfl) (Nat.le_of_ble_eq_true rfl) hlk (fun z1 => ⟨_, h0, Fr.rf, h⟩) (Nat.le_of_ble_eq_true rfl) (Nat.le_of_ble_eq_true rfl)

theorem dX5_takeTurn_0 : decode cX5_takeTurn 0 = .ok (.iload_n 1, 1) := by decide +kernel
theorem dX5_takeTurn_1 : decode cX5_takeTurn 1 = .ok (.bipush 16, 2) := by decide +kernel
theorem dX5_takeTurn_3 : decode cX5_takeTurn 3 = .ok (.idiv, 1) := by decide +kernel
theorem dX5_takeTurn_4 : decode cX5_takeTurn 4 = .ok (.istore_n 2, 1) := by decide +kernel
theorem dX5_takeTurn_5 : decode cX5_takeTurn 5 = .ok (.iload_n 1, 1) := by decide +kernel
theorem dX5_takeTurn_6 : decode cX5_takeTurn 6 = .ok (.bipush 16, 2) := by decide +kernel
theorem dX5_takeTurn_8 : decode cX5_takeTurn 8 = .ok (.irem, 1) := by decide +kernel
theorem dX5_takeTurn_9 : decode cX5_takeTurn 9 = .ok (.istore_n 3, 1) := by decide +kernel
theorem dX5_takeTurn_10 : decode cX5_takeTurn 10 = .ok (.iload_n 3, 1) := by decide +kernel
theorem dX5_takeTurn_11 : decode cX5_takeTurn 11 = .ok (.iconst 5, 1) := by decide +kernel
theorem dX5_takeTurn_12 : decode cX5_takeTurn 12 = .ok (.if_icmp .gt 33, 3) := by decide +kernel
theorem dX5_takeTurn_15 : decode cX5_takeTurn 15 = .ok (.aload_n 0, 1) := by decide +kernel
theorem dX5_takeTurn_16 : decode cX5_takeTurn 16 = .ok (.iconst 0, 1) := by decide +kernel
theorem dX5_takeTurn_17 : decode cX5_takeTurn 17 = .ok (.iload_n 2, 1) := by decide +kernel
theorem dX5_takeTurn_18 : decode cX5_takeTurn 18 = .ok (.bipush 8, 2) := by decide +kernel
theorem dX5_takeTurn_20 : decode cX5_takeTurn 20 = .ok (.irem, 1) := by decide +kernel
theorem dX5_takeTurn_21 : decode cX5_takeTurn 21 = .ok (.iload_n 2, 1) := by decide +kernel
theorem dX5_takeTurn_22 : decode cX5_takeTurn 22 = .ok (.bipush 8, 2) := by decide +kernel
theorem dX5_takeTurn_24 : decode cX5_takeTurn 24 = .ok (.idiv, 1) := by decide +kernel
theorem dX5_takeTurn_25 : decode cX5_takeTurn 25 = .ok (.bipush 100, 2) := by decide +kernel
theorem dX5_takeTurn_27 : decode cX5_takeTurn 27 = .ok (.irem, 1) := by decide +kernel
theorem dX5_takeTurn_28 : decode cX5_takeTurn 28 = .ok (.iconst 1, 1) := by decide +kernel
theorem dX5_takeTurn_29 : decode cX5_takeTurn 29 = .ok (.iload_n 2, 1) := by decide +kernel
theorem dX5_takeTurn_30 : decode cX5_takeTurn 30 = .ok (.sipush 1024, 3) := by decide +kernel
theorem dX5_takeTurn_33 : decode cX5_takeTurn 33 = .ok (.idiv, 1) := by decide +kernel
theorem dX5_takeTurn_34 : decode cX5_takeTurn 34 = .ok (.bipush 40, 2) := by decide +kernel
theorem dX5_takeTurn_36 : decode cX5_takeTurn 36 = .ok (.irem, 1) := by decide +kernel
theorem dX5_takeTurn_37 : decode cX5_takeTurn 37 = .ok (.iadd, 1) := by decide +kernel
theorem dX5_takeTurn_38 : decode cX5_takeTurn 38 = .ok (.invokevirtual 201, 3) := by decide +kernel
theorem dX5_takeTurn_41 : decode cX5_takeTurn 41 = .ok (.pop, 1) := by decide +kernel
theorem dX5_takeTurn_42 : decode cX5_takeTurn 42 = .ok (.goto 187, 3) := by decide +kernel
theorem dX5_takeTurn_45 : decode cX5_takeTurn 45 = .ok (.iload_n 3, 1) := by decide +kernel
theorem dX5_takeTurn_46 : decode cX5_takeTurn 46 = .ok (.bipush 7, 2) := by decide +kernel
theorem dX5_takeTurn_48 : decode cX5_takeTurn 48 = .ok (.if_icmp .gt 28, 3) := by decide +kernel
theorem dX5_takeTurn_51 : decode cX5_takeTurn 51 = .ok (.aload_n 0, 1) := by decide +kernel
theorem dX5_takeTurn_52 : decode cX5_takeTurn 52 = .ok (.iconst 1, 1) := by decide +kernel
theorem dX5_takeTurn_53 : decode cX5_takeTurn 53 = .ok (.iload_n 2, 1) := by decide +kernel
theorem dX5_takeTurn_54 : decode cX5_takeTurn 54 = .ok (.bipush 8, 2) := by decide +kernel
theorem dX5_takeTurn_56 : decode cX5_takeTurn 56 = .ok (.irem, 1) := by decide +kernel
theorem dX5_takeTurn_57 : decode cX5_takeTurn 57 = .ok (.iload_n 2, 1) := by decide +kernel
theorem dX5_takeTurn_58 : decode cX5_takeTurn 58 = .ok (.bipush 8, 2) := by decide +kernel
theorem dX5_takeTurn_60 : decode cX5_takeTurn 60 = .ok (.idiv, 1) := by decide +kernel
theorem dX5_takeTurn_61 : decode cX5_takeTurn 61 = .ok (.iconst 3, 1) := by decide +kernel
theorem dX5_takeTurn_62 : decode cX5_takeTurn 62 = .ok (.irem, 1) := by decide +kernel
theorem dX5_takeTurn_63 : decode cX5_takeTurn 63 = .ok (.iload_n 2, 1) := by decide +kernel
theorem dX5_takeTurn_64 : decode cX5_takeTurn 64 = .ok (.bipush 32, 2) := by decide +kernel
theorem dX5_takeTurn_66 : decode cX5_takeTurn 66 = .ok (.idiv, 1) := by decide +kernel
theorem dX5_takeTurn_67 : decode cX5_takeTurn 67 = .ok (.iconst 2, 1) := by decide +kernel
theorem dX5_takeTurn_68 : decode cX5_takeTurn 68 = .ok (.irem, 1) := by decide +kernel
theorem dX5_takeTurn_69 : decode cX5_takeTurn 69 = .ok (.invokevirtual 201, 3) := by decide +kernel
theorem dX5_takeTurn_72 : decode cX5_takeTurn 72 = .ok (.pop, 1) := by decide +kernel
theorem dX5_takeTurn_73 : decode cX5_takeTurn 73 = .ok (.goto 156, 3) := by decide +kernel
theorem dX5_takeTurn_76 : decode cX5_takeTurn 76 = .ok (.iload_n 3, 1) := by decide +kernel
theorem dX5_takeTurn_77 : decode cX5_takeTurn 77 = .ok (.bipush 9, 2) := by decide +kernel
theorem dX5_takeTurn_79 : decode cX5_takeTurn 79 = .ok (.if_icmp .gt 26, 3) := by decide +kernel
theorem dX5_takeTurn_82 : decode cX5_takeTurn 82 = .ok (.aload_n 0, 1) := by decide +kernel
theorem dX5_takeTurn_83 : decode cX5_takeTurn 83 = .ok (.iconst 2, 1) := by decide +kernel
theorem dX5_takeTurn_84 : decode cX5_takeTurn 84 = .ok (.iload_n 2, 1) := by decide +kernel
theorem dX5_takeTurn_85 : decode cX5_takeTurn 85 = .ok (.bipush 8, 2) := by decide +kernel
theorem dX5_takeTurn_87 : decode cX5_takeTurn 87 = .ok (.irem, 1) := by decide +kernel
theorem dX5_takeTurn_88 : decode cX5_takeTurn 88 = .ok (.iconst 1, 1) := by decide +kernel
theorem dX5_takeTurn_89 : decode cX5_takeTurn 89 = .ok (.iload_n 2, 1) := by decide +kernel
theorem dX5_takeTurn_90 : decode cX5_takeTurn 90 = .ok (.bipush 8, 2) := by decide +kernel
theorem dX5_takeTurn_92 : decode cX5_takeTurn 92 = .ok (.idiv, 1) := by decide +kernel
theorem dX5_takeTurn_93 : decode cX5_takeTurn 93 = .ok (.bipush 12, 2) := by decide +kernel
theorem dX5_takeTurn_95 : decode cX5_takeTurn 95 = .ok (.irem, 1) := by decide +kernel
theorem dX5_takeTurn_96 : decode cX5_takeTurn 96 = .ok (.iadd, 1) := by decide +kernel
theorem dX5_takeTurn_97 : decode cX5_takeTurn 97 = .ok (.iconst 0, 1) := by decide +kernel
theorem dX5_takeTurn_98 : decode cX5_takeTurn 98 = .ok (.invokevirtual 201, 3) := by decide +kernel
theorem dX5_takeTurn_101 : decode cX5_takeTurn 101 = .ok (.pop, 1) := by decide +kernel
theorem dX5_takeTurn_102 : decode cX5_takeTurn 102 = .ok (.goto 127, 3) := by decide +kernel
theorem dX5_takeTurn_105 : decode cX5_takeTurn 105 = .ok (.iload_n 3, 1) := by decide +kernel
theorem dX5_takeTurn_106 : decode cX5_takeTurn 106 = .ok (.bipush 10, 2) := by decide +kernel
theorem dX5_takeTurn_108 : decode cX5_takeTurn 108 = .ok (.if_icmp .ne 27, 3) := by decide +kernel
theorem dX5_takeTurn_111 : decode cX5_takeTurn 111 = .ok (.iload_n 2, 1) := by decide +kernel
theorem dX5_takeTurn_112 : decode cX5_takeTurn 112 = .ok (.bipush 8, 2) := by decide +kernel
theorem dX5_takeTurn_114 : decode cX5_takeTurn 114 = .ok (.idiv, 1) := by decide +kernel
theorem dX5_takeTurn_115 : decode cX5_takeTurn 115 = .ok (.iconst 4, 1) := by decide +kernel
theorem dX5_takeTurn_116 : decode cX5_takeTurn 116 = .ok (.irem, 1) := by decide +kernel
theorem dX5_takeTurn_117 : decode cX5_takeTurn 117 = .ok (.ifCond .ne 18, 3) := by decide +kernel
theorem dX5_takeTurn_120 : decode cX5_takeTurn 120 = .ok (.aload_n 0, 1) := by decide +kernel
theorem dX5_takeTurn_121 : decode cX5_takeTurn 121 = .ok (.iconst 3, 1) := by decide +kernel
theorem dX5_takeTurn_122 : decode cX5_takeTurn 122 = .ok (.iload_n 2, 1) := by decide +kernel
theorem dX5_takeTurn_123 : decode cX5_takeTurn 123 = .ok (.bipush 8, 2) := by decide +kernel
theorem dX5_takeTurn_125 : decode cX5_takeTurn 125 = .ok (.irem, 1) := by decide +kernel
theorem dX5_takeTurn_126 : decode cX5_takeTurn 126 = .ok (.iconst 0, 1) := by decide +kernel
theorem dX5_takeTurn_127 : decode cX5_takeTurn 127 = .ok (.iconst 0, 1) := by decide +kernel
theorem dX5_takeTurn_128 : decode cX5_takeTurn 128 = .ok (.invokevirtual 201, 3) := by decide +kernel
theorem dX5_takeTurn_131 : decode cX5_takeTurn 131 = .ok (.pop, 1) := by decide +kernel
theorem dX5_takeTurn_132 : decode cX5_takeTurn 132 = .ok (.goto 97, 3) := by decide +kernel
theorem dX5_takeTurn_135 : decode cX5_takeTurn 135 = .ok (.iload_n 3, 1) := by decide +kernel
theorem dX5_takeTurn_136 : decode cX5_takeTurn 136 = .ok (.bipush 10, 2) := by decide +kernel
theorem dX5_takeTurn_138 : decode cX5_takeTurn 138 = .ok (.if_icmp .ne 23, 3) := by decide +kernel
theorem dX5_takeTurn_141 : decode cX5_takeTurn 141 = .ok (.aload_n 0, 1) := by decide +kernel
theorem dX5_takeTurn_142 : decode cX5_takeTurn 142 = .ok (.iconst 4, 1) := by decide +kernel
theorem dX5_takeTurn_143 : decode cX5_takeTurn 143 = .ok (.iload_n 2, 1) := by decide +kernel
theorem dX5_takeTurn_144 : decode cX5_takeTurn 144 = .ok (.bipush 8, 2) := by decide +kernel
theorem dX5_takeTurn_146 : decode cX5_takeTurn 146 = .ok (.irem, 1) := by decide +kernel
theorem dX5_takeTurn_147 : decode cX5_takeTurn 147 = .ok (.iload_n 2, 1) := by decide +kernel
theorem dX5_takeTurn_148 : decode cX5_takeTurn 148 = .ok (.bipush 32, 2) := by decide +kernel
theorem dX5_takeTurn_150 : decode cX5_takeTurn 150 = .ok (.idiv, 1) := by decide +kernel
theorem dX5_takeTurn_151 : decode cX5_takeTurn 151 = .ok (.iconst 2, 1) := by decide +kernel
theorem dX5_takeTurn_152 : decode cX5_takeTurn 152 = .ok (.irem, 1) := by decide +kernel
theorem dX5_takeTurn_153 : decode cX5_takeTurn 153 = .ok (.iconst 0, 1) := by decide +kernel
theorem dX5_takeTurn_154 : decode cX5_takeTurn 154 = .ok (.invokevirtual 201, 3) := by decide +kernel
theorem dX5_takeTurn_157 : decode cX5_takeTurn 157 = .ok (.pop, 1) := by decide +kernel
theorem dX5_takeTurn_158 : decode cX5_takeTurn 158 = .ok (.goto 71, 3) := by decide +kernel
theorem dX5_takeTurn_161 : decode cX5_takeTurn 161 = .ok (.iload_n 3, 1) := by decide +kernel
theorem dX5_takeTurn_162 : decode cX5_takeTurn 162 = .ok (.bipush 11, 2) := by decide +kernel
theorem dX5_takeTurn_164 : decode cX5_takeTurn 164 = .ok (.if_icmp .ne 29, 3) := by decide +kernel
theorem dX5_takeTurn_167 : decode cX5_takeTurn 167 = .ok (.iload_n 2, 1) := by decide +kernel
theorem dX5_takeTurn_168 : decode cX5_takeTurn 168 = .ok (.sipush 1024, 3) := by decide +kernel
theorem dX5_takeTurn_171 : decode cX5_takeTurn 171 = .ok (.idiv, 1) := by decide +kernel
theorem dX5_takeTurn_172 : decode cX5_takeTurn 172 = .ok (.iconst 2, 1) := by decide +kernel
theorem dX5_takeTurn_173 : decode cX5_takeTurn 173 = .ok (.irem, 1) := by decide +kernel
theorem dX5_takeTurn_174 : decode cX5_takeTurn 174 = .ok (.ifCond .ne 19, 3) := by decide +kernel
theorem dX5_takeTurn_177 : decode cX5_takeTurn 177 = .ok (.aload_n 0, 1) := by decide +kernel
theorem dX5_takeTurn_178 : decode cX5_takeTurn 178 = .ok (.iconst 5, 1) := by decide +kernel
theorem dX5_takeTurn_179 : decode cX5_takeTurn 179 = .ok (.iconst 3, 1) := by decide +kernel
theorem dX5_takeTurn_180 : decode cX5_takeTurn 180 = .ok (.iload_n 2, 1) := by decide +kernel
theorem dX5_takeTurn_181 : decode cX5_takeTurn 181 = .ok (.sipush 600, 3) := by decide +kernel
theorem dX5_takeTurn_184 : decode cX5_takeTurn 184 = .ok (.irem, 1) := by decide +kernel
theorem dX5_takeTurn_185 : decode cX5_takeTurn 185 = .ok (.iconst 0, 1) := by decide +kernel
theorem dX5_takeTurn_186 : decode cX5_takeTurn 186 = .ok (.invokevirtual 201, 3) := by decide +kernel
theorem dX5_takeTurn_189 : decode cX5_takeTurn 189 = .ok (.pop, 1) := by decide +kernel
theorem dX5_takeTurn_190 : decode cX5_takeTurn 190 = .ok (.goto 39, 3) := by decide +kernel
theorem dX5_takeTurn_193 : decode cX5_takeTurn 193 = .ok (.iload_n 3, 1) := by decide +kernel
theorem dX5_takeTurn_194 : decode cX5_takeTurn 194 = .ok (.bipush 11, 2) := by decide +kernel
theorem dX5_takeTurn_196 : decode cX5_takeTurn 196 = .ok (.if_icmp .ne 18, 3) := by decide +kernel
theorem dX5_takeTurn_199 : decode cX5_takeTurn 199 = .ok (.aload_n 0, 1) := by decide +kernel
theorem dX5_takeTurn_200 : decode cX5_takeTurn 200 = .ok (.iconst 5, 1) := by decide +kernel
theorem dX5_takeTurn_201 : decode cX5_takeTurn 201 = .ok (.iconst 2, 1) := by decide +kernel
theorem dX5_takeTurn_202 : decode cX5_takeTurn 202 = .ok (.iload_n 2, 1) := by decide +kernel
theorem dX5_takeTurn_203 : decode cX5_takeTurn 203 = .ok (.bipush 20, 2) := by decide +kernel
theorem dX5_takeTurn_205 : decode cX5_takeTurn 205 = .ok (.irem, 1) := by decide +kernel
theorem dX5_takeTurn_206 : decode cX5_takeTurn 206 = .ok (.iconst 0, 1) := by decide +kernel
theorem dX5_takeTurn_207 : decode cX5_takeTurn 207 = .ok (.invokevirtual 201, 3) := by decide +kernel
theorem dX5_takeTurn_210 : decode cX5_takeTurn 210 = .ok (.pop, 1) := by decide +kernel
theorem dX5_takeTurn_211 : decode cX5_takeTurn 211 = .ok (.goto 18, 3) := by decide +kernel
theorem dX5_takeTurn_214 : decode cX5_takeTurn 214 = .ok (.aload_n 0, 1) := by decide +kernel
theorem dX5_takeTurn_215 : decode cX5_takeTurn 215 = .ok (.bipush 6, 2) := by decide +kernel
theorem dX5_takeTurn_217 : decode cX5_takeTurn 217 = .ok (.iconst 1, 1) := by decide +kernel
theorem dX5_takeTurn_218 : decode cX5_takeTurn 218 = .ok (.iload_n 2, 1) := by decide +kernel
theorem dX5_takeTurn_219 : decode cX5_takeTurn 219 = .ok (.bipush 8, 2) := by decide +kernel
theorem dX5_takeTurn_221 : decode cX5_takeTurn 221 = .ok (.irem, 1) := by decide +kernel
theorem dX5_takeTurn_222 : decode cX5_takeTurn 222 = .ok (.iadd, 1) := by decide +kernel
theorem dX5_takeTurn_223 : decode cX5_takeTurn 223 = .ok (.iconst 0, 1) := by decide +kernel
theorem dX5_takeTurn_224 : decode cX5_takeTurn 224 = .ok (.iconst 0, 1) := by decide +kernel
theorem dX5_takeTurn_225 : decode cX5_takeTurn 225 = .ok (.invokevirtual 201, 3) := by decide +kernel
theorem dX5_takeTurn_228 : decode cX5_takeTurn 228 = .ok (.pop, 1) := by decide +kernel
theorem dX5_takeTurn_229 : decode cX5_takeTurn 229 = .ok (.return_, 1) := by decide +kernel
def PJ_T_takeTurn_193 (x1 : Int32) (y2 : Int32) (y3 : Int32) (v0 : ST) (Q : ST → Prop) : Prop := ((¬ y3 = 11 → P_S_attempt 6 (1 + (zrem y2 8)) 0 0 v0 (fun r8_ v12_ => (Q v12_))) ∧ (y3 = 11 → P_S_attempt 5 2 (zrem y2 20) 0 v0 (fun r16_ v20_ => (Q v20_))))
def PJ_T_takeTurn_135 (x1 : Int32) (y2 : Int32) (y3 : Int32) (v0 : ST) (Q : ST → Prop) : Prop := ((¬ y3 = 10 → ((¬ y3 = 11 → PJ_T_takeTurn_193 x1 y2 y3 v0 Q) ∧ (y3 = 11 → ((¬ (zrem (y2 / 1024) 2) = 0 → PJ_T_takeTurn_193 x1 y2 y3 v0 Q) ∧ ((zrem (y2 / 1024) 2) = 0 → P_S_attempt 5 3 (zrem y2 600) 0 v0 (fun r25_ v29_ => (Q v29_))))))) ∧ (y3 = 10 → P_S_attempt 4 (zrem y2 8) (zrem (y2 / 32) 2) 0 v0 (fun r33_ v37_ => (Q v37_))))
def P_T_takeTurn (x1 : Int32) (v0 : ST) (Q : ST → Prop) : Prop := ((5 < (zrem x1 16) → ((7 < (zrem x1 16) → ((9 < (zrem x1 16) → ((¬ (zrem x1 16) = 10 → PJ_T_takeTurn_135 x1 (x1 / 16) (zrem x1 16) v0 Q) ∧ ((zrem x1 16) = 10 → ((¬ (zrem ((x1 / 16) / 8) 4) = 0 → PJ_T_takeTurn_135 x1 (x1 / 16) (zrem x1 16) v0 Q) ∧ ((zrem ((x1 / 16) / 8) 4) = 0 → P_S_attempt 3 (zrem (x1 / 16) 8) 0 0 v0 (fun r42_ v46_ => (Q v46_))))))) ∧ (¬ 9 < (zrem x1 16) → P_S_attempt 2 (zrem (x1 / 16) 8) (1 + (zrem ((x1 / 16) / 8) 12)) 0 v0 (fun r50_ v54_ => (Q v54_))))) ∧ (¬ 7 < (zrem x1 16) → P_S_attempt 1 (zrem (x1 / 16) 8) (zrem ((x1 / 16) / 8) 3) (zrem ((x1 / 16) / 32) 2) v0 (fun r58_ v62_ => (Q v62_))))) ∧ (¬ 5 < (zrem x1 16) → P_S_attempt 0 (zrem (x1 / 16) 8) (zrem ((x1 / 16) / 8) 100) (1 + (zrem ((x1 / 16) / 1024) 40)) v0 (fun r66_ v70_ => (Q v70_))))
set_option maxRecDepth 100000 in
theorem s_T_takeTurn {l : Launch} {D : zD} {B : Nat} {sa : Nat → Nat} (hfl : l.stackTraces = false) {z : Nat} {G : zG} {b0 : Nat} {x1 : Int32} {v0 : ST} {Q : ST → Prop} (h0 : SA b0 v0 G) (h : P_T_takeTurn x1 v0 Q) : zSp l D B sa yX5_takeTurn cX5_takeTurn 4 none 6 165 0 0 [.ref b0, .int x1] z G (zRv fun z' G' => z = z' ∧ ∃ w, SA b0 w G' ∧ Fr b0 26 G G' ∧ Q w) := by
  unfold P_T_takeTurn at h
  refine z_ofW (by decide +kernel) hfl [some (.ref b0), some (.int x1), none, none] rfl (Nat.le_of_ble_eq_true rfl) (fun p e s m args below meth c O hret hlk hnm => ?_)
  have O : zO p l s m args c D B sa 4 cX5_takeTurn RX5 := O
  have HJ193 : ∀ (y2 : Int32) (y3 : Int32) (v0 : ST) (G9 : zG) (g0 : SA b0 v0 G9) (gF : Fr b0 26 G G9), PJ_T_takeTurn_193 x1 y2 y3 v0 Q → zT p l e (zrm 6 165 0 0) s m args below meth c (zEnd below D B (zRv fun z' G' => z = z' ∧ ∃ w, SA b0 w G' ∧ Fr b0 26 G G' ∧ Q w) args s 0 0) D B 4 0 0 193 [] [some (.ref b0), none, some (.int y2), some (.int y3)] z G9 := by
    intro y2 y3 v0 G9 g0 gF h
    unfold PJ_T_takeTurn_193 at h
    refine z_iload_n O dX5_takeTurn_193 rfl rfl ?_
    refine z_bipush (v := 11) O dX5_takeTurn_194 (by decide) ?_
    refine z_icmp_ne (tgt := 214) O dX5_takeTurn_196 (by decide) (fun c7_ => ?_) (fun c7_ => ?_)
    · have h := h.1 c7_
      refine z_aload_n O dX5_takeTurn_214 rfl rfl ?_
      refine z_bipush (v := 6) O dX5_takeTurn_215 (by decide) ?_
      refine z_iconst (v := 1) O dX5_takeTurn_217 (by decide) ?_
      refine z_iload_n O dX5_takeTurn_218 rfl rfl ?_
      refine z_bipush (v := 8) O dX5_takeTurn_219 (by decide) ?_
      refine z_irem O dX5_takeTurn_221 (by decide) ?_
      refine z_iadd O dX5_takeTurn_222 ?_
      refine z_iconst (v := 0) O dX5_takeTurn_223 (by decide) ?_
      refine z_iconst (v := 0) O dX5_takeTurn_224 (by decide) ?_
      refine z_callVi (As := [.int 6, .int (1 + (zrem y2 8)), .int 0, .int 0]) (st := []) O (s_S_attempt hfl g0 h) wy_X3_attempt wl_RX5_201 dX5_takeTurn_225 rfl rfl (S_obj g0) ⟨by decide, rfl⟩ ⟨Nat.le_of_ble_eq_true rfl, Nat.le_of_ble_eq_true rfl⟩ (Nat.le_of_ble_eq_true rfl) ⟨Nat.le_of_ble_eq_true rfl, Nat.le_of_ble_eq_true rfl⟩ (fun r8_ z9_ G10_ hq11_ => ?_)
      obtain ⟨rfl, v12_, k13_, f14_, h⟩ := hq11_
      have F15_ : Fr b0 26 G G10_ := Fr.trans gF f14_
      refine z_pop O dX5_takeTurn_228 rfl ?_
      exact z_vret O hret hlk dX5_takeTurn_229 (Nat.le_of_ble_eq_true rfl) (Nat.le_of_ble_eq_true rfl) ⟨rfl, rfl, _, k13_, F15_, h⟩
    · have h := h.2 c7_
      refine z_aload_n O dX5_takeTurn_199 rfl rfl ?_
      refine z_iconst (v := 5) O dX5_takeTurn_200 (by decide) ?_
      refine z_iconst (v := 2) O dX5_takeTurn_201 (by decide) ?_
      refine z_iload_n O dX5_takeTurn_202 rfl rfl ?_
      refine z_bipush (v := 20) O dX5_takeTurn_203 (by decide) ?_
      refine z_irem O dX5_takeTurn_205 (by decide) ?_
      refine z_iconst (v := 0) O dX5_takeTurn_206 (by decide) ?_
      refine z_callVi (As := [.int 5, .int 2, .int (zrem y2 20), .int 0]) (st := []) O (s_S_attempt hfl g0 h) wy_X3_attempt wl_RX5_201 dX5_takeTurn_207 rfl rfl (S_obj g0) ⟨by decide, rfl⟩ ⟨Nat.le_of_ble_eq_true rfl, Nat.le_of_ble_eq_true rfl⟩ (Nat.le_of_ble_eq_true rfl) ⟨Nat.le_of_ble_eq_true rfl, Nat.le_of_ble_eq_true rfl⟩ (fun r16_ z17_ G18_ hq19_ => ?_)
      obtain ⟨rfl, v20_, k21_, f22_, h⟩ := hq19_
      have F23_ : Fr b0 26 G G18_ := Fr.trans gF f22_
      refine z_pop O dX5_takeTurn_210 rfl ?_
      refine z_goto (tgt := 229) O dX5_takeTurn_211 (by decide) ?_
      exact z_vret O hret hlk dX5_takeTurn_229 (Nat.le_of_ble_eq_true rfl) (Nat.le_of_ble_eq_true rfl) ⟨rfl, rfl, _, k21_, F23_, h⟩
  have HJ135 : ∀ (y2 : Int32) (y3 : Int32) (v0 : ST) (G9 : zG) (g0 : SA b0 v0 G9) (gF : Fr b0 26 G G9), PJ_T_takeTurn_135 x1 y2 y3 v0 Q → zT p l e (zrm 6 165 0 0) s m args below meth c (zEnd below D B (zRv fun z' G' => z = z' ∧ ∃ w, SA b0 w G' ∧ Fr b0 26 G G' ∧ Q w) args s 0 0) D B 4 0 0 135 [] [some (.ref b0), none, some (.int y2), some (.int y3)] z G9 := by
    intro y2 y3 v0 G9 g0 gF h
    unfold PJ_T_takeTurn_135 at h
    refine z_iload_n O dX5_takeTurn_135 rfl rfl ?_
    refine z_bipush (v := 10) O dX5_takeTurn_136 (by decide) ?_
    refine z_icmp_ne (tgt := 161) O dX5_takeTurn_138 (by decide) (fun c5_ => ?_) (fun c5_ => ?_)
    · have h := h.1 c5_
      refine z_iload_n O dX5_takeTurn_161 rfl rfl ?_
      refine z_bipush (v := 11) O dX5_takeTurn_162 (by decide) ?_
      refine z_icmp_ne (tgt := 193) O dX5_takeTurn_164 (by decide) (fun c6_ => ?_) (fun c6_ => ?_)
      · have h := h.1 c6_
        exact z_subL (L' := [some (.ref b0), none, some (.int y2), some (.int y3)]) (zLe.sub (And.intro rfl (And.intro rfl (And.intro rfl True.intro)))) (HJ193 y2 y3 v0 G9 g0 gF h)
      · have h := h.2 c6_
        refine z_iload_n O dX5_takeTurn_167 rfl rfl ?_
        refine z_sipush (v := 1024) O dX5_takeTurn_168 (by decide) ?_
        refine z_idiv O dX5_takeTurn_171 (by decide) ?_
        refine z_iconst (v := 2) O dX5_takeTurn_172 (by decide) ?_
        refine z_irem O dX5_takeTurn_173 (by decide) ?_
        refine z_if_ne (tgt := 193) O dX5_takeTurn_174 (by decide) (fun c24_ => ?_) (fun c24_ => ?_)
        · have h := h.1 c24_
          exact z_subL (L' := [some (.ref b0), none, some (.int y2), some (.int y3)]) (zLe.sub (And.intro rfl (And.intro rfl (And.intro rfl True.intro)))) (HJ193 y2 y3 v0 G9 g0 gF h)
        · have h := h.2 c24_
          refine z_aload_n O dX5_takeTurn_177 rfl rfl ?_
          refine z_iconst (v := 5) O dX5_takeTurn_178 (by decide) ?_
          refine z_iconst (v := 3) O dX5_takeTurn_179 (by decide) ?_
          refine z_iload_n O dX5_takeTurn_180 rfl rfl ?_
          refine z_sipush (v := 600) O dX5_takeTurn_181 (by decide) ?_
          refine z_irem O dX5_takeTurn_184 (by decide) ?_
          refine z_iconst (v := 0) O dX5_takeTurn_185 (by decide) ?_
          refine z_callVi (As := [.int 5, .int 3, .int (zrem y2 600), .int 0]) (st := []) O (s_S_attempt hfl g0 h) wy_X3_attempt wl_RX5_201 dX5_takeTurn_186 rfl rfl (S_obj g0) ⟨by decide, rfl⟩ ⟨Nat.le_of_ble_eq_true rfl, Nat.le_of_ble_eq_true rfl⟩ (Nat.le_of_ble_eq_true rfl) ⟨Nat.le_of_ble_eq_true rfl, Nat.le_of_ble_eq_true rfl⟩ (fun r25_ z26_ G27_ hq28_ => ?_)
          obtain ⟨rfl, v29_, k30_, f31_, h⟩ := hq28_
          have F32_ : Fr b0 26 G G27_ := Fr.trans gF f31_
          refine z_pop O dX5_takeTurn_189 rfl ?_
          refine z_goto (tgt := 229) O dX5_takeTurn_190 (by decide) ?_
          exact z_vret O hret hlk dX5_takeTurn_229 (Nat.le_of_ble_eq_true rfl) (Nat.le_of_ble_eq_true rfl) ⟨rfl, rfl, _, k30_, F32_, h⟩
    · have h := h.2 c5_
      refine z_aload_n O dX5_takeTurn_141 rfl rfl ?_
      refine z_iconst (v := 4) O dX5_takeTurn_142 (by decide) ?_
      refine z_iload_n O dX5_takeTurn_143 rfl rfl ?_
      refine z_bipush (v := 8) O dX5_takeTurn_144 (by decide) ?_
      refine z_irem O dX5_takeTurn_146 (by decide) ?_
      refine z_iload_n O dX5_takeTurn_147 rfl rfl ?_
      refine z_bipush (v := 32) O dX5_takeTurn_148 (by decide) ?_
      refine z_idiv O dX5_takeTurn_150 (by decide) ?_
      refine z_iconst (v := 2) O dX5_takeTurn_151 (by decide) ?_
      refine z_irem O dX5_takeTurn_152 (by decide) ?_
      refine z_iconst (v := 0) O dX5_takeTurn_153 (by decide) ?_
      refine z_callVi (As := [.int 4, .int (zrem y2 8), .int (zrem (y2 / 32) 2), .int 0]) (st := []) O (s_S_attempt hfl g0 h) wy_X3_attempt wl_RX5_201 dX5_takeTurn_154 rfl rfl (S_obj g0) ⟨by decide, rfl⟩ ⟨Nat.le_of_ble_eq_true rfl, Nat.le_of_ble_eq_true rfl⟩ (Nat.le_of_ble_eq_true rfl) ⟨Nat.le_of_ble_eq_true rfl, Nat.le_of_ble_eq_true rfl⟩ (fun r33_ z34_ G35_ hq36_ => ?_)
      obtain ⟨rfl, v37_, k38_, f39_, h⟩ := hq36_
      have F40_ : Fr b0 26 G G35_ := Fr.trans gF f39_
      refine z_pop O dX5_takeTurn_157 rfl ?_
      refine z_goto (tgt := 229) O dX5_takeTurn_158 (by decide) ?_
      exact z_vret O hret hlk dX5_takeTurn_229 (Nat.le_of_ble_eq_true rfl) (Nat.le_of_ble_eq_true rfl) ⟨rfl, rfl, _, k38_, F40_, h⟩
  refine z_iload_n O dX5_takeTurn_0 rfl rfl ?_
  refine z_bipush (v := 16) O dX5_takeTurn_1 (by decide) ?_
  refine z_idiv O dX5_takeTurn_3 (by decide) ?_
  refine z_istore_n (L' := [some (.ref b0), some (.int x1), some (.int (x1 / 16)), none]) O dX5_takeTurn_4 rfl (by decide) rfl ?_
  refine z_iload_n O dX5_takeTurn_5 rfl rfl ?_
  refine z_bipush (v := 16) O dX5_takeTurn_6 (by decide) ?_
  refine z_irem O dX5_takeTurn_8 (by decide) ?_
  refine z_istore_n (L' := [some (.ref b0), some (.int x1), some (.int (x1 / 16)), some (.int (zrem x1 16))]) O dX5_takeTurn_9 rfl (by decide) rfl ?_
  refine z_iload_n O dX5_takeTurn_10 rfl rfl ?_
  refine z_iconst (v := 5) O dX5_takeTurn_11 (by decide) ?_
  refine z_icmp_gt (tgt := 45) O dX5_takeTurn_12 (by decide) (fun c1_ => ?_) (fun c1_ => ?_)
  · have h := h.1 c1_
    refine z_iload_n O dX5_takeTurn_45 rfl rfl ?_
    refine z_bipush (v := 7) O dX5_takeTurn_46 (by decide) ?_
    refine z_icmp_gt (tgt := 76) O dX5_takeTurn_48 (by decide) (fun c2_ => ?_) (fun c2_ => ?_)
    · have h := h.1 c2_
      refine z_iload_n O dX5_takeTurn_76 rfl rfl ?_
      refine z_bipush (v := 9) O dX5_takeTurn_77 (by decide) ?_
      refine z_icmp_gt (tgt := 105) O dX5_takeTurn_79 (by decide) (fun c3_ => ?_) (fun c3_ => ?_)
      · have h := h.1 c3_
        refine z_iload_n O dX5_takeTurn_105 rfl rfl ?_
        refine z_bipush (v := 10) O dX5_takeTurn_106 (by decide) ?_
        refine z_icmp_ne (tgt := 135) O dX5_takeTurn_108 (by decide) (fun c4_ => ?_) (fun c4_ => ?_)
        · have h := h.1 c4_
          exact z_subL (L' := [some (.ref b0), none, some (.int (x1 / 16)), some (.int (zrem x1 16))]) (zLe.sub (And.intro rfl (And.intro rfl (And.intro rfl True.intro)))) (HJ135 (x1 / 16) (zrem x1 16) v0 G h0 Fr.rf h)
        · have h := h.2 c4_
          refine z_iload_n O dX5_takeTurn_111 rfl rfl ?_
          refine z_bipush (v := 8) O dX5_takeTurn_112 (by decide) ?_
          refine z_idiv O dX5_takeTurn_114 (by decide) ?_
          refine z_iconst (v := 4) O dX5_takeTurn_115 (by decide) ?_
          refine z_irem O dX5_takeTurn_116 (by decide) ?_
          refine z_if_ne (tgt := 135) O dX5_takeTurn_117 (by decide) (fun c41_ => ?_) (fun c41_ => ?_)
          · have h := h.1 c41_
            exact z_subL (L' := [some (.ref b0), none, some (.int (x1 / 16)), some (.int (zrem x1 16))]) (zLe.sub (And.intro rfl (And.intro rfl (And.intro rfl True.intro)))) (HJ135 (x1 / 16) (zrem x1 16) v0 G h0 Fr.rf h)
          · have h := h.2 c41_
            refine z_aload_n O dX5_takeTurn_120 rfl rfl ?_
            refine z_iconst (v := 3) O dX5_takeTurn_121 (by decide) ?_
            refine z_iload_n O dX5_takeTurn_122 rfl rfl ?_
            refine z_bipush (v := 8) O dX5_takeTurn_123 (by decide) ?_
            refine z_irem O dX5_takeTurn_125 (by decide) ?_
            refine z_iconst (v := 0) O dX5_takeTurn_126 (by decide) ?_
            refine z_iconst (v := 0) O dX5_takeTurn_127 (by decide) ?_
            refine z_callVi (As := [.int 3, .int (zrem (x1 / 16) 8), .int 0, .int 0]) (st := []) O (s_S_attempt hfl h0 h) wy_X3_attempt wl_RX5_201 dX5_takeTurn_128 rfl rfl (S_obj h0) ⟨by decide, rfl⟩ ⟨Nat.le_of_ble_eq_true rfl, Nat.le_of_ble_eq_true rfl⟩ (Nat.le_of_ble_eq_true rfl) ⟨Nat.le_of_ble_eq_true rfl, Nat.le_of_ble_eq_true rfl⟩ (fun r42_ z43_ G44_ hq45_ => ?_)
            obtain ⟨rfl, v46_, k47_, f48_, h⟩ := hq45_
            have F49_ : Fr b0 26 G G44_ := Fr.trans Fr.rf f48_
            refine z_pop O dX5_takeTurn_131 rfl ?_
            refine z_goto (tgt := 229) O dX5_takeTurn_132 (by decide) ?_
            exact z_vret O hret hlk dX5_takeTurn_229 (Nat.le_of_ble_eq_true rfl) (Nat.le_of_ble_eq_true rfl) ⟨rfl, rfl, _, k47_, F49_, h⟩
      · have h := h.2 c3_
        refine z_aload_n O dX5_takeTurn_82 rfl rfl ?_
        refine z_iconst (v := 2) O dX5_takeTurn_83 (by decide) ?_
        refine z_iload_n O dX5_takeTurn_84 rfl rfl ?_
        refine z_bipush (v := 8) O dX5_takeTurn_85 (by decide) ?_
        refine z_irem O dX5_takeTurn_87 (by decide) ?_
        refine z_iconst (v := 1) O dX5_takeTurn_88 (by decide) ?_
        refine z_iload_n O dX5_takeTurn_89 rfl rfl ?_
        refine z_bipush (v := 8) O dX5_takeTurn_90 (by decide) ?_
        refine z_idiv O dX5_takeTurn_92 (by decide) ?_
        refine z_bipush (v := 12) O dX5_takeTurn_93 (by decide) ?_
        refine z_irem O dX5_takeTurn_95 (by decide) ?_
        refine z_iadd O dX5_takeTurn_96 ?_
        refine z_iconst (v := 0) O dX5_takeTurn_97 (by decide) ?_
        refine z_callVi (As := [.int 2, .int (zrem (x1 / 16) 8), .int (1 + (zrem ((x1 / 16) / 8) 12)), .int 0]) (st := []) O (s_S_attempt hfl h0 h) wy_X3_attempt wl_RX5_201 dX5_takeTurn_98 rfl rfl (S_obj h0) ⟨by decide, rfl⟩ ⟨Nat.le_of_ble_eq_true rfl, Nat.le_of_ble_eq_true rfl⟩ (Nat.le_of_ble_eq_true rfl) ⟨Nat.le_of_ble_eq_true rfl, Nat.le_of_ble_eq_true rfl⟩ (fun r50_ z51_ G52_ hq53_ => ?_)
        obtain ⟨rfl, v54_, k55_, f56_, h⟩ := hq53_
        have F57_ : Fr b0 26 G G52_ := Fr.trans Fr.rf f56_
        refine z_pop O dX5_takeTurn_101 rfl ?_
        refine z_goto (tgt := 229) O dX5_takeTurn_102 (by decide) ?_
        exact z_vret O hret hlk dX5_takeTurn_229 (Nat.le_of_ble_eq_true rfl) (Nat.le_of_ble_eq_true rfl) ⟨rfl, rfl, _, k55_, F57_, h⟩
    · have h := h.2 c2_
      refine z_aload_n O dX5_takeTurn_51 rfl rfl ?_
      refine z_iconst (v := 1) O dX5_takeTurn_52 (by decide) ?_
      refine z_iload_n O dX5_takeTurn_53 rfl rfl ?_
      refine z_bipush (v := 8) O dX5_takeTurn_54 (by decide) ?_
      refine z_irem O dX5_takeTurn_56 (by decide) ?_
      refine z_iload_n O dX5_takeTurn_57 rfl rfl ?_
      refine z_bipush (v := 8) O dX5_takeTurn_58 (by decide) ?_
      refine z_idiv O dX5_takeTurn_60 (by decide) ?_
      refine z_iconst (v := 3) O dX5_takeTurn_61 (by decide) ?_
      refine z_irem O dX5_takeTurn_62 (by decide) ?_
      refine z_iload_n O dX5_takeTurn_63 rfl rfl ?_
      refine z_bipush (v := 32) O dX5_takeTurn_64 (by decide) ?_
      refine z_idiv O dX5_takeTurn_66 (by decide) ?_
      refine z_iconst (v := 2) O dX5_takeTurn_67 (by decide) ?_
      refine z_irem O dX5_takeTurn_68 (by decide) ?_
      refine z_callVi (As := [.int 1, .int (zrem (x1 / 16) 8), .int (zrem ((x1 / 16) / 8) 3), .int (zrem ((x1 / 16) / 32) 2)]) (st := []) O (s_S_attempt hfl h0 h) wy_X3_attempt wl_RX5_201 dX5_takeTurn_69 rfl rfl (S_obj h0) ⟨by decide, rfl⟩ ⟨Nat.le_of_ble_eq_true rfl, Nat.le_of_ble_eq_true rfl⟩ (Nat.le_of_ble_eq_true rfl) ⟨Nat.le_of_ble_eq_true rfl, Nat.le_of_ble_eq_true rfl⟩ (fun r58_ z59_ G60_ hq61_ => ?_)
      obtain ⟨rfl, v62_, k63_, f64_, h⟩ := hq61_
      have F65_ : Fr b0 26 G G60_ := Fr.trans Fr.rf f64_
      refine z_pop O dX5_takeTurn_72 rfl ?_
      refine z_goto (tgt := 229) O dX5_takeTurn_73 (by decide) ?_
      exact z_vret O hret hlk dX5_takeTurn_229 (Nat.le_of_ble_eq_true rfl) (Nat.le_of_ble_eq_true rfl) ⟨rfl, rfl, _, k63_, F65_, h⟩
  · have h := h.2 c1_
    refine z_aload_n O dX5_takeTurn_15 rfl rfl ?_
    refine z_iconst (v := 0) O dX5_takeTurn_16 (by decide) ?_
    refine z_iload_n O dX5_takeTurn_17 rfl rfl ?_
    refine z_bipush (v := 8) O dX5_takeTurn_18 (by decide) ?_
    refine z_irem O dX5_takeTurn_20 (by decide) ?_
    refine z_iload_n O dX5_takeTurn_21 rfl rfl ?_
    refine z_bipush (v := 8) O dX5_takeTurn_22 (by decide) ?_
    refine z_idiv O dX5_takeTurn_24 (by decide) ?_
    refine z_bipush (v := 100) O dX5_takeTurn_25 (by decide) ?_
    refine z_irem O dX5_takeTurn_27 (by decide) ?_
    refine z_iconst (v := 1) O dX5_takeTurn_28 (by decide) ?_
    refine z_iload_n O dX5_takeTurn_29 rfl rfl ?_
    refine z_sipush (v := 1024) O dX5_takeTurn_30 (by decide) ?_
    refine z_idiv O dX5_takeTurn_33 (by decide) ?_
    refine z_bipush (v := 40) O dX5_takeTurn_34 (by decide) ?_
    refine z_irem O dX5_takeTurn_36 (by decide) ?_
    refine z_iadd O dX5_takeTurn_37 ?_
    refine z_callVi (As := [.int 0, .int (zrem (x1 / 16) 8), .int (zrem ((x1 / 16) / 8) 100), .int (1 + (zrem ((x1 / 16) / 1024) 40))]) (st := []) O (s_S_attempt hfl h0 h) wy_X3_attempt wl_RX5_201 dX5_takeTurn_38 rfl rfl (S_obj h0) ⟨by decide, rfl⟩ ⟨Nat.le_of_ble_eq_true rfl, Nat.le_of_ble_eq_true rfl⟩ (Nat.le_of_ble_eq_true rfl) ⟨Nat.le_of_ble_eq_true rfl, Nat.le_of_ble_eq_true rfl⟩ (fun r66_ z67_ G68_ hq69_ => ?_)
    obtain ⟨rfl, v70_, k71_, f72_, h⟩ := hq69_
    have F73_ : Fr b0 26 G G68_ := Fr.trans Fr.rf f72_
    refine z_pop O dX5_takeTurn_41 rfl ?_
    refine z_goto (tgt := 229) O dX5_takeTurn_42 (by decide) ?_
    exact z_vret O hret hlk dX5_takeTurn_229 (Nat.le_of_ble_eq_true rfl) (Nat.le_of_ble_eq_true rfl) ⟨rfl, rfl, _, k71_, F73_, h⟩
