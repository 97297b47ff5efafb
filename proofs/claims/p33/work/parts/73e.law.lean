theorem dL_says_0 : decode cL_says 0 = .ok (.aload_n 0, 1) := by decide +kernel
theorem dL_says_1 : decode cL_says 1 = .ok (.iload_n 1, 1) := by decide +kernel
theorem dL_says_2 : decode cL_says 2 = .ok (.invokestatic 174, 3) := by decide +kernel
theorem dL_says_5 : decode cL_says 5 = .ok (.lconst 0, 1) := by decide +kernel
theorem dL_says_6 : decode cL_says 6 = .ok (.lcmp, 1) := by decide +kernel
theorem dL_says_7 : decode cL_says 7 = .ok (.ifCond .le 38, 3) := by decide +kernel
theorem dL_says_10 : decode cL_says 10 = .ok (.aload_n 0, 1) := by decide +kernel
theorem dL_says_11 : decode cL_says 11 = .ok (.iload_n 2, 1) := by decide +kernel
theorem dL_says_12 : decode cL_says 12 = .ok (.invokestatic 174, 3) := by decide +kernel
theorem dL_says_15 : decode cL_says 15 = .ok (.lconst 0, 1) := by decide +kernel
theorem dL_says_16 : decode cL_says 16 = .ok (.lcmp, 1) := by decide +kernel
theorem dL_says_17 : decode cL_says 17 = .ok (.ifCond .le 28, 3) := by decide +kernel
theorem dL_says_20 : decode cL_says 20 = .ok (.aload_n 0, 1) := by decide +kernel
theorem dL_says_21 : decode cL_says 21 = .ok (.iload_n 3, 1) := by decide +kernel
theorem dL_says_22 : decode cL_says 22 = .ok (.invokestatic 174, 3) := by decide +kernel
theorem dL_says_25 : decode cL_says 25 = .ok (.lconst 0, 1) := by decide +kernel
theorem dL_says_26 : decode cL_says 26 = .ok (.lcmp, 1) := by decide +kernel
theorem dL_says_27 : decode cL_says 27 = .ok (.ifCond .le 18, 3) := by decide +kernel
theorem dL_says_30 : decode cL_says 30 = .ok (.aload_n 0, 1) := by decide +kernel
theorem dL_says_31 : decode cL_says 31 = .ok (.iload 4, 2) := by decide +kernel
theorem dL_says_33 : decode cL_says 33 = .ok (.invokestatic 174, 3) := by decide +kernel
theorem dL_says_36 : decode cL_says 36 = .ok (.lconst 0, 1) := by decide +kernel
theorem dL_says_37 : decode cL_says 37 = .ok (.lcmp, 1) := by decide +kernel
theorem dL_says_38 : decode cL_says 38 = .ok (.ifCond .le 7, 3) := by decide +kernel
theorem dL_says_41 : decode cL_says 41 = .ok (.iconst 1, 1) := by decide +kernel
theorem dL_says_42 : decode cL_says 42 = .ok (.goto 4, 3) := by decide +kernel
theorem dL_says_45 : decode cL_says 45 = .ok (.iconst 0, 1) := by decide +kernel
theorem dL_says_46 : decode cL_says 46 = .ok (.ireturn, 1) := by decide +kernel
def P_LAW_says (x1 : Int32) (x2 : Int32) (x3 : Int32) (x4 : Int32) (v0 : TT) (Q : Int32 → TT → Prop) : Prop := P_LAW_append x1 v0 (fun r1_ v6_ => ((((lg_cmp r1_ 0) ≤ 0 → Q 0 v6_) ∧ (¬ (lg_cmp r1_ 0) ≤ 0 → P_LAW_append x2 v6_ (fun r11_ v16_ => ((((lg_cmp r11_ 0) ≤ 0 → Q 0 v16_) ∧ (¬ (lg_cmp r11_ 0) ≤ 0 → P_LAW_append x3 v16_ (fun r21_ v26_ => ((((lg_cmp r21_ 0) ≤ 0 → Q 0 v26_) ∧ (¬ (lg_cmp r21_ 0) ≤ 0 → P_LAW_append x4 v26_ (fun r31_ v36_ => ((((lg_cmp r31_ 0) ≤ 0 → Q 0 v36_) ∧ (¬ (lg_cmp r31_ 0) ≤ 0 → Q 1 v36_))))))))))))))))
set_option maxRecDepth 100000 in
theorem s_LAW_says {l : Launch} {D : zD} {B : Nat} {sa : Nat → Nat} (hfl : l.stackTraces = false) {z : Nat} {G : zG} {b0 : Nat} {x1 : Int32} {x2 : Int32} {x3 : Int32} {x4 : Int32} {v0 : TT} {Q : Int32 → TT → Prop} (h0 : TA b0 v0 G) (h : P_LAW_says x1 x2 x3 x4 v0 Q) : zSp l D B sa yL_says cL_says 5 (some .boolean) 8 133 4 24 [.ref b0, .int x1, .int x2, .int x3, .int x4] z G (zRi fun r z' G' => ∃ w, TA b0 w G' ∧ Fr b0 475 G G' ∧ Q r w) := by
  unfold P_LAW_says at h
  refine z_ofW (by decide +kernel) hfl [some (.ref b0), some (.int x1), some (.int x2), some (.int x3), some (.int x4)] rfl (Nat.le_of_ble_eq_true rfl) (fun p e s m args below meth c O hret hlk hnm => ?_)
  have O : zO p l s m args c D B sa 5 cL_says RL := O
  have hk0 : 0 + (4 + 0) ≤ 4 ∧ 0 + 6 * (4 + 0) ≤ 24 := ⟨Nat.le_of_ble_eq_true rfl, Nat.le_of_ble_eq_true rfl⟩
  refine z_aload_n O dL_says_0 rfl rfl ?_
  refine z_iload_n O dL_says_1 rfl rfl ?_
  have hk2_ := lk_step 1 3 hk0 (Nat.le_of_ble_eq_true rfl)
  refine z_callHl (As := [.ref b0, .int x1]) (st := []) O (s_LAW_append hfl h0 h) wh_L_append wl_RL_174 dL_says_2 rfl rfl ⟨Nat.le_of_ble_eq_true rfl, Nat.le_of_ble_eq_true rfl⟩ (Nat.le_of_ble_eq_true rfl) ⟨lk_k hk2_, lk_n hk2_⟩ (fun r1_ z3_ G4_ hq5_ => ?_)
  obtain ⟨v6_, k7_, f8_, h⟩ := hq5_
  have F9_ : Fr b0 475 G G4_ := Fr.trans Fr.rf f8_
  refine z_lconst (v := 0) O dL_says_5 (by decide) ?_
  refine z_lcmp O dL_says_6 ?_
  refine z_if_le (tgt := 45) O dL_says_7 (by decide) (fun c10_ => ?_) (fun c10_ => ?_)
  · have h := h.1 c10_
    refine z_iconst (v := 0) O dL_says_45 (by decide) ?_
    exact z_zret O hret rfl hlk dL_says_46 (lk_k hk2_) (lk_n hk2_) ⟨_, rfl, _, k7_, F9_, h⟩
  · have h := h.2 c10_
    refine z_aload_n O dL_says_10 rfl rfl ?_
    refine z_iload_n O dL_says_11 rfl rfl ?_
    have hk12_ := lk_step 1 2 hk2_ (Nat.le_of_ble_eq_true rfl)
    refine z_callHl (As := [.ref b0, .int x2]) (st := []) O (s_LAW_append hfl k7_ h) wh_L_append wl_RL_174 dL_says_12 rfl rfl ⟨Nat.le_of_ble_eq_true rfl, Nat.le_of_ble_eq_true rfl⟩ (Nat.le_of_ble_eq_true rfl) ⟨lk_k hk12_, lk_n hk12_⟩ (fun r11_ z13_ G14_ hq15_ => ?_)
    obtain ⟨v16_, k17_, f18_, h⟩ := hq15_
    have F19_ : Fr b0 475 G G14_ := Fr.trans F9_ f18_
    refine z_lconst (v := 0) O dL_says_15 (by decide) ?_
    refine z_lcmp O dL_says_16 ?_
    refine z_if_le (tgt := 45) O dL_says_17 (by decide) (fun c20_ => ?_) (fun c20_ => ?_)
    · have h := h.1 c20_
      refine z_iconst (v := 0) O dL_says_45 (by decide) ?_
      exact z_zret O hret rfl hlk dL_says_46 (lk_k hk12_) (lk_n hk12_) ⟨_, rfl, _, k17_, F19_, h⟩
    · have h := h.2 c20_
      refine z_aload_n O dL_says_20 rfl rfl ?_
      refine z_iload_n O dL_says_21 rfl rfl ?_
      have hk22_ := lk_step 1 1 hk12_ (Nat.le_of_ble_eq_true rfl)
      refine z_callHl (As := [.ref b0, .int x3]) (st := []) O (s_LAW_append hfl k17_ h) wh_L_append wl_RL_174 dL_says_22 rfl rfl ⟨Nat.le_of_ble_eq_true rfl, Nat.le_of_ble_eq_true rfl⟩ (Nat.le_of_ble_eq_true rfl) ⟨lk_k hk22_, lk_n hk22_⟩ (fun r21_ z23_ G24_ hq25_ => ?_)
      obtain ⟨v26_, k27_, f28_, h⟩ := hq25_
      have F29_ : Fr b0 475 G G24_ := Fr.trans F19_ f28_
      refine z_lconst (v := 0) O dL_says_25 (by decide) ?_
      refine z_lcmp O dL_says_26 ?_
      refine z_if_le (tgt := 45) O dL_says_27 (by decide) (fun c30_ => ?_) (fun c30_ => ?_)
      · have h := h.1 c30_
        refine z_iconst (v := 0) O dL_says_45 (by decide) ?_
        exact z_zret O hret rfl hlk dL_says_46 (lk_k hk22_) (lk_n hk22_) ⟨_, rfl, _, k27_, F29_, h⟩
      · have h := h.2 c30_
        refine z_aload_n O dL_says_30 rfl rfl ?_
        refine z_iload O dL_says_31 rfl ?_
        have hk32_ := lk_step 1 0 hk22_ (Nat.le_of_ble_eq_true rfl)
        refine z_callHl (As := [.ref b0, .int x4]) (st := []) O (s_LAW_append hfl k27_ h) wh_L_append wl_RL_174 dL_says_33 rfl rfl ⟨Nat.le_of_ble_eq_true rfl, Nat.le_of_ble_eq_true rfl⟩ (Nat.le_of_ble_eq_true rfl) ⟨lk_k hk32_, lk_n hk32_⟩ (fun r31_ z33_ G34_ hq35_ => ?_)
        obtain ⟨v36_, k37_, f38_, h⟩ := hq35_
        have F39_ : Fr b0 475 G G34_ := Fr.trans F29_ f38_
        refine z_lconst (v := 0) O dL_says_36 (by decide) ?_
        refine z_lcmp O dL_says_37 ?_
        refine z_if_le (tgt := 45) O dL_says_38 (by decide) (fun c40_ => ?_) (fun c40_ => ?_)
        · have h := h.1 c40_
          refine z_iconst (v := 0) O dL_says_45 (by decide) ?_
          exact z_zret O hret rfl hlk dL_says_46 (lk_k hk32_) (lk_n hk32_) ⟨_, rfl, _, k37_, F39_, h⟩
        · have h := h.2 c40_
          refine z_iconst (v := 1) O dL_says_41 (by decide) ?_
          refine z_goto (tgt := 46) O dL_says_42 (by decide) ?_
          exact z_zret O hret rfl hlk dL_says_46 (lk_k hk32_) (lk_n hk32_) ⟨_, rfl, _, k37_, F39_, h⟩
