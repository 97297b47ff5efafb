theorem dX5_leastRoom_0 : decode cX5_leastRoom 0 = .ok (.iload_n 1, 1) := by decide +kernel
theorem dX5_leastRoom_1 : decode cX5_leastRoom 1 = .ok (.iconst 1, 1) := by decide +kernel
theorem dX5_leastRoom_2 : decode cX5_leastRoom 2 = .ok (.sipush 200, 3) := by decide +kernel
theorem dX5_leastRoom_5 : decode cX5_leastRoom 5 = .ok (.invokestatic 41, 3) := by decide +kernel
theorem dX5_leastRoom_8 : decode cX5_leastRoom 8 = .ok (.ifCond .ne 13, 3) := by decide +kernel
theorem dX5_leastRoom_11 : decode cX5_leastRoom 11 = .ok (.new 45, 3) := by decide +kernel
theorem dX5_leastRoom_14 : decode cX5_leastRoom 14 = .ok (.dup, 1) := by decide +kernel
theorem dX5_leastRoom_15 : decode cX5_leastRoom 15 = .ok (.ldc 205, 2) := by decide +kernel
theorem dX5_leastRoom_17 : decode cX5_leastRoom 17 = .ok (.invokespecial 49, 3) := by decide +kernel
theorem dX5_leastRoom_20 : decode cX5_leastRoom 20 = .ok (.athrow, 1) := by decide +kernel
theorem dX5_leastRoom_21 : decode cX5_leastRoom 21 = .ok (.aload_n 0, 1) := by decide +kernel
theorem dX5_leastRoom_22 : decode cX5_leastRoom 22 = .ok (.iconst 0, 1) := by decide +kernel
theorem dX5_leastRoom_23 : decode cX5_leastRoom 23 = .ok (.iload_n 1, 1) := by decide +kernel
theorem dX5_leastRoom_24 : decode cX5_leastRoom 24 = .ok (.invokevirtual 207, 3) := by decide +kernel
theorem dX5_leastRoom_27 : decode cX5_leastRoom 27 = .ok (.ifCond .eq 5, 3) := by decide +kernel
theorem dX5_leastRoom_30 : decode cX5_leastRoom 30 = .ok (.iconst 0, 1) := by decide +kernel
theorem dX5_leastRoom_31 : decode cX5_leastRoom 31 = .ok (.ireturn, 1) := by decide +kernel
theorem dX5_leastRoom_32 : decode cX5_leastRoom 32 = .ok (.aload_n 0, 1) := by decide +kernel
theorem dX5_leastRoom_33 : decode cX5_leastRoom 33 = .ok (.getfield 19, 3) := by decide +kernel
theorem dX5_leastRoom_36 : decode cX5_leastRoom 36 = .ok (.getfield 90, 3) := by decide +kernel
theorem dX5_leastRoom_39 : decode cX5_leastRoom 39 = .ok (.getfield 211, 3) := by decide +kernel
theorem dX5_leastRoom_42 : decode cX5_leastRoom 42 = .ok (.istore_n 2, 1) := by decide +kernel
theorem dX5_leastRoom_43 : decode cX5_leastRoom 43 = .ok (.iload_n 2, 1) := by decide +kernel
theorem dX5_leastRoom_44 : decode cX5_leastRoom 44 = .ok (.sipush 4000, 3) := by decide +kernel
theorem dX5_leastRoom_47 : decode cX5_leastRoom 47 = .ok (.if_icmp .gt 16, 3) := by decide +kernel
theorem dX5_leastRoom_50 : decode cX5_leastRoom 50 = .ok (.aload_n 0, 1) := by decide +kernel
theorem dX5_leastRoom_51 : decode cX5_leastRoom 51 = .ok (.iload_n 2, 1) := by decide +kernel
theorem dX5_leastRoom_52 : decode cX5_leastRoom 52 = .ok (.iload_n 1, 1) := by decide +kernel
theorem dX5_leastRoom_53 : decode cX5_leastRoom 53 = .ok (.invokevirtual 207, 3) := by decide +kernel
theorem dX5_leastRoom_56 : decode cX5_leastRoom 56 = .ok (.ifCond .eq 7, 3) := by decide +kernel
theorem dX5_leastRoom_59 : decode cX5_leastRoom 59 = .ok (.iload_n 2, 1) := by decide +kernel
theorem dX5_leastRoom_60 : decode cX5_leastRoom 60 = .ok (.goto 4, 3) := by decide +kernel
theorem dX5_leastRoom_63 : decode cX5_leastRoom 63 = .ok (.iconst (-1), 1) := by decide +kernel
theorem dX5_leastRoom_64 : decode cX5_leastRoom 64 = .ok (.ireturn, 1) := by decide +kernel
def P_T_leastRoom (x1 : Int32) (v0 : TT) (X : String → TT → Prop) (Q : Int32 → TT → Prop) : Prop := P_T_isIn x1 1 200 (fun r1_ => (((¬ r1_ = 0 → P_T_dropsNone 0 x1 v0 (fun r6_ v10_ => (((r6_ = 0 → ((4000 < (L_length (S_log (T_state v10_))) → Q (-1) v10_) ∧ (¬ 4000 < (L_length (S_log (T_state v10_))) → P_T_dropsNone (L_length (S_log (T_state v10_))) x1 v10_ (fun r16_ v20_ => (((r16_ = 0 → Q (-1) v20_) ∧ (¬ r16_ = 0 → Q (L_length (S_log (T_state v10_))) v20_))))))) ∧ (¬ r6_ = 0 → Q 0 v10_))))) ∧ (r1_ = 0 → X "java/lang/IllegalArgumentException" v0))))
set_option maxRecDepth 100000 in
theorem s_T_leastRoom {l : Launch} {D : zD} {B : Nat} {sa : Nat → Nat} (hfl : l.stackTraces = false) {z : Nat} {G : zG} {b0 : Nat} {x1 : Int32} {v0 : TT} {X : String → TT → Prop} {Q : Int32 → TT → Prop} (h0 : TA b0 v0 G) (h : P_T_leastRoom x1 v0 X Q) : zSx l D B sa yX5_leastRoom cX5_leastRoom 3 (some .int) 7 188 1 6 [.ref b0, .int x1] z G (zRi fun r z' G' => z = z' ∧ ∃ w, TA b0 w G' ∧ Fr b0 475 G G' ∧ Q r w) (fun E z' G' => ∃ w, TA b0 w G' ∧ Fr b0 475 G G' ∧ X E w) := by
  unfold P_T_leastRoom at h
  refine z_ofX (by decide +kernel) hfl [some (.ref b0), some (.int x1), none] rfl (Nat.le_of_ble_eq_true rfl) (fun p e s m args below meth c O hret hlk hout => ?_)
  have O : zO p l s m args c D B sa 3 cX5_leastRoom RX5 := O
  refine z_iload_n O dX5_leastRoom_0 rfl rfl ?_
  refine z_iconst (v := 1) O dX5_leastRoom_1 (by decide) ?_
  refine z_sipush (v := 200) O dX5_leastRoom_2 (by decide) ?_
  refine z_callSi (As := [.int x1, .int 1, .int 200]) (st := []) O (s_T_isIn hfl h) wy_X5_isIn wl_RX5_41 dX5_leastRoom_5 rfl rfl ⟨Nat.le_of_ble_eq_true rfl, Nat.le_of_ble_eq_true rfl⟩ (Nat.le_of_ble_eq_true rfl) ⟨Nat.le_of_ble_eq_true rfl, Nat.le_of_ble_eq_true rfl⟩ (fun r1_ z2_ G3_ hq4_ => ?_)
  obtain ⟨rfl, rfl, h⟩ := hq4_
  refine z_if_ne (tgt := 21) O dX5_leastRoom_8 (by decide) (fun c5_ => ?_) (fun c5_ => ?_)
  · have h := h.1 c5_
    refine z_aload_n O dX5_leastRoom_21 rfl rfl ?_
    refine z_iconst (v := 0) O dX5_leastRoom_22 (by decide) ?_
    refine z_iload_n O dX5_leastRoom_23 rfl rfl ?_
    refine z_callVi (As := [.int 0, .int x1]) (st := []) O (s_T_dropsNone hfl h0 h) wy_X5_dropsNone wl_RX5_207 dX5_leastRoom_24 rfl rfl (T_obj h0) ⟨by decide, rfl⟩ ⟨Nat.le_of_ble_eq_true rfl, Nat.le_of_ble_eq_true rfl⟩ (Nat.le_of_ble_eq_true rfl) ⟨Nat.le_of_ble_eq_true rfl, Nat.le_of_ble_eq_true rfl⟩ (fun r6_ z7_ G8_ hq9_ => ?_)
    obtain ⟨rfl, v10_, k11_, f12_, h⟩ := hq9_
    have F13_ : Fr b0 475 G G8_ := Fr.trans Fr.rf f12_
    refine z_if_eq (tgt := 32) O dX5_leastRoom_27 (by decide) (fun c14_ => ?_) (fun c14_ => ?_)
    · have h := h.1 c14_
      refine z_aload_n O dX5_leastRoom_32 rfl rfl ?_
      refine z_get (v := .ref (b0 + 3)) O wf_RX5_19 dX5_leastRoom_33 (T_obj k11_) rfl ?_
      refine z_get (v := .ref ((b0 + 3) + 1)) O wf_RX5_90 dX5_leastRoom_36 (S_obj (T_state_of k11_)) rfl ?_
      refine z_get (v := .int (L_length (S_log (T_state v10_)))) O wf_RX5_211 dX5_leastRoom_39 (L_obj (S_log_of (T_state_of k11_))) rfl ?_
      refine z_istore_n (L' := [some (.ref b0), some (.int x1), some (.int (L_length (S_log (T_state v10_))))]) O dX5_leastRoom_42 rfl (by decide) rfl ?_
      refine z_iload_n O dX5_leastRoom_43 rfl rfl ?_
      refine z_sipush (v := 4000) O dX5_leastRoom_44 (by decide) ?_
      refine z_icmp_gt (tgt := 63) O dX5_leastRoom_47 (by decide) (fun c15_ => ?_) (fun c15_ => ?_)
      · have h := h.1 c15_
        refine z_iconst (v := (-1)) O dX5_leastRoom_63 (by decide) ?_
        exact z_iretx O hret hlk dX5_leastRoom_64 (Nat.le_of_ble_eq_true rfl) (Nat.le_of_ble_eq_true rfl) ⟨_, rfl, rfl, _, k11_, F13_, h⟩
      · have h := h.2 c15_
        refine z_aload_n O dX5_leastRoom_50 rfl rfl ?_
        refine z_iload_n O dX5_leastRoom_51 rfl rfl ?_
        refine z_iload_n O dX5_leastRoom_52 rfl rfl ?_
        refine z_callVi (As := [.int (L_length (S_log (T_state v10_))), .int x1]) (st := []) O (s_T_dropsNone hfl k11_ h) wy_X5_dropsNone wl_RX5_207 dX5_leastRoom_53 rfl rfl (T_obj k11_) ⟨by decide, rfl⟩ ⟨Nat.le_of_ble_eq_true rfl, Nat.le_of_ble_eq_true rfl⟩ (Nat.le_of_ble_eq_true rfl) ⟨Nat.le_of_ble_eq_true rfl, Nat.le_of_ble_eq_true rfl⟩ (fun r16_ z17_ G18_ hq19_ => ?_)
        obtain ⟨rfl, v20_, k21_, f22_, h⟩ := hq19_
        have F23_ : Fr b0 475 G G18_ := Fr.trans F13_ f22_
        refine z_if_eq (tgt := 63) O dX5_leastRoom_56 (by decide) (fun c24_ => ?_) (fun c24_ => ?_)
        · have h := h.1 c24_
          refine z_iconst (v := (-1)) O dX5_leastRoom_63 (by decide) ?_
          exact z_iretx O hret hlk dX5_leastRoom_64 (Nat.le_of_ble_eq_true rfl) (Nat.le_of_ble_eq_true rfl) ⟨_, rfl, rfl, _, k21_, F23_, h⟩
        · have h := h.2 c24_
          refine z_iload_n O dX5_leastRoom_59 rfl rfl ?_
          refine z_goto (tgt := 64) O dX5_leastRoom_60 (by decide) ?_
          exact z_iretx O hret hlk dX5_leastRoom_64 (Nat.le_of_ble_eq_true rfl) (Nat.le_of_ble_eq_true rfl) ⟨_, rfl, rfl, _, k21_, F23_, h⟩
    · have h := h.2 c14_
      refine z_iconst (v := 0) O dX5_leastRoom_30 (by decide) ?_
      exact z_iretx O hret hlk dX5_leastRoom_31 (Nat.le_of_ble_eq_true rfl) (Nat.le_of_ble_eq_true rfl) ⟨_, rfl, rfl, _, k11_, F13_, h⟩
  · have h := h.2 c5_
    exact z_throw O wt_RX5_45_49 (tx := "n is not 1 to 200") (is := 205) (by decide +kernel) dX5_leastRoom_11 dX5_leastRoom_14 dX5_leastRoom_15 dX5_leastRoom_17 dX5_leastRoom_20 hout (Nat.le_of_ble_eq_true rfl) (Nat.le_of_ble_eq_true rfl) (Nat.le_of_ble_eq_true rfl) (Nat.le_of_ble_eq_true rfl) hlk (fun z1 => ⟨_, h0, Fr.rf, h⟩) (Nat.le_of_ble_eq_true rfl) (Nat.le_of_ble_eq_true rfl)

theorem dX5_withoutGroups_0 : decode cX5_withoutGroups 0 = .ok (.lload_n 0, 1) := by decide +kernel
theorem dX5_withoutGroups_1 : decode cX5_withoutGroups 1 = .ok (.lstore_n 3, 1) := by decide +kernel
theorem dX5_withoutGroups_2 : decode cX5_withoutGroups 2 = .ok (.iconst 0, 1) := by decide +kernel
theorem dX5_withoutGroups_3 : decode cX5_withoutGroups 3 = .ok (.istore 5, 2) := by decide +kernel
theorem dX5_withoutGroups_5 : decode cX5_withoutGroups 5 = .ok (.iload 5, 2) := by decide +kernel
theorem dX5_withoutGroups_7 : decode cX5_withoutGroups 7 = .ok (.iload_n 2, 1) := by decide +kernel
theorem dX5_withoutGroups_8 : decode cX5_withoutGroups 8 = .ok (.if_icmp .ge 15, 3) := by decide +kernel
theorem dX5_withoutGroups_11 : decode cX5_withoutGroups 11 = .ok (.lload_n 3, 1) := by decide +kernel
theorem dX5_withoutGroups_12 : decode cX5_withoutGroups 12 = .ok (.ldc2_w 222, 3) := by decide +kernel
theorem dX5_withoutGroups_15 : decode cX5_withoutGroups 15 = .ok (.ldiv, 1) := by decide +kernel
theorem dX5_withoutGroups_16 : decode cX5_withoutGroups 16 = .ok (.lstore_n 3, 1) := by decide +kernel
theorem dX5_withoutGroups_17 : decode cX5_withoutGroups 17 = .ok (.iinc 5 1, 3) := by decide +kernel
theorem dX5_withoutGroups_20 : decode cX5_withoutGroups 20 = .ok (.goto (-15), 3) := by decide +kernel
theorem dX5_withoutGroups_23 : decode cX5_withoutGroups 23 = .ok (.lload_n 3, 1) := by decide +kernel
theorem dX5_withoutGroups_24 : decode cX5_withoutGroups 24 = .ok (.lreturn, 1) := by decide +kernel
def PL_T_withoutGroups_5 : Nat → Int64 → Int32 → Int32 → Int64 → Int32 → (Int64 → Prop) → Prop
  | 0, _, _, _, _, _, _ => False
  | n + 1, x1, x2, y2, y3, y5, Q => ((y2 ≤ y5 → Q y3) ∧ (¬ y2 ≤ y5 → (fun y2 y3 y5 => PL_T_withoutGroups_5 n x1 x2 y2 y3 y5  Q) y2 (y3 / 1000000) (y5 + 1)))
def P_T_withoutGroups (x1 : Int64) (x2 : Int32) (Q : Int64 → Prop) : Prop := (∃ n2_, PL_T_withoutGroups_5 n2_ x1 x2 x2 x1 0 Q)
set_option maxRecDepth 100000 in
theorem s_T_withoutGroups {l : Launch} {D : zD} {B : Nat} {sa : Nat → Nat} (hfl : l.stackTraces = false) {z : Nat} {G : zG} {x1 : Int64} {x2 : Int32} {Q : Int64 → Prop}  (h : P_T_withoutGroups x1 x2 Q) : zSp l D B sa yX5_withoutGroups cX5_withoutGroups 6 (some .long) 0 0 0 0 [.long x1, .int x2] z G (zRl fun r z' G' => z = z' ∧ G = G' ∧ Q r) := by
  unfold P_T_withoutGroups at h
  refine z_ofW (by decide +kernel) hfl [some (.long x1), none, some (.int x2), none, none, none] rfl (Nat.le_of_ble_eq_true rfl) (fun p e s m args below meth c O hret hlk hnm => ?_)
  have O : zO p l s m args c D B sa 6 cX5_withoutGroups RX5 := O
  have HL5 : ∀ (n9 : Nat)    (y2 : Int32) (y3 : Int64) (y5 : Int32) (h : PL_T_withoutGroups_5 n9 x1 x2 y2 y3 y5 Q), zT p l e (zrm 0 0 0 0) s m args below meth c (zEnd below D B (zRl fun r z' G' => z = z' ∧ G = G' ∧ Q r) args s 0 0) D B 6 0 0 5 [] [none, none, some (.int y2), some (.long y3), none, some (.int y5)] z G := by
    intro n9   
    induction n9 with
    | zero =>
      intro _ _ _ h
      exact (h : False).elim
    | succ n ih =>
      intro y2 y3 y5 h
      rw [PL_T_withoutGroups_5] at h
      refine z_iload O dX5_withoutGroups_5 rfl ?_
      refine z_iload_n O dX5_withoutGroups_7 rfl rfl ?_
      refine z_icmp_ge (tgt := 23) O dX5_withoutGroups_8 (by decide) (fun c1_ => ?_) (fun c1_ => ?_)
      · have h := h.1 c1_
        refine z_lload_n O dX5_withoutGroups_23 rfl rfl ?_
        exact z_lret O hret hlk dX5_withoutGroups_24 (Nat.le_of_ble_eq_true rfl) (Nat.le_of_ble_eq_true rfl) ⟨_, rfl, rfl, rfl, h⟩
      · have h := h.2 c1_
        refine z_lload_n O dX5_withoutGroups_11 rfl rfl ?_
        refine z_ldc2 (v := 1000000) O wc_RX5_222 dX5_withoutGroups_12 ?_
        refine z_ldiv O dX5_withoutGroups_15 (by decide) ?_
        refine z_lstore_n (L' := [none, none, some (.int y2), some (.long (y3 / 1000000)), none, some (.int y5)]) O dX5_withoutGroups_16 rfl (by decide) rfl ?_
        refine z_iinc (v := (y5 + 1)) (L' := [none, none, some (.int y2), some (.long (y3 / 1000000)), none, some (.int (y5 + 1))]) O dX5_withoutGroups_17 rfl (by first | rfl | decide) (by decide) rfl ?_
        refine z_goto (tgt := 5) O dX5_withoutGroups_20 (by decide) ?_
        exact z_subL (L' := [none, none, some (.int y2), some (.long (y3 / 1000000)), none, some (.int (y5 + 1))]) (zLe.sub (And.intro rfl (And.intro rfl (And.intro rfl True.intro)))) (ih y2 (y3 / 1000000) (y5 + 1) h)
  refine z_lload_n O dX5_withoutGroups_0 rfl rfl ?_
  refine z_lstore_n (L' := [some (.long x1), none, some (.int x2), some (.long x1), none, none]) O dX5_withoutGroups_1 rfl (by decide) rfl ?_
  refine z_iconst (v := 0) O dX5_withoutGroups_2 (by decide) ?_
  refine z_istore (L' := [some (.long x1), none, some (.int x2), some (.long x1), none, some (.int 0)]) O dX5_withoutGroups_3 (by decide) rfl ?_
  obtain ⟨n2_, h⟩ := h
  exact z_subL (L' := [none, none, some (.int x2), some (.long x1), none, some (.int 0)]) (zLe.sub (And.intro rfl (And.intro rfl (And.intro rfl True.intro)))) (HL5 n2_ x2 x1 0 h)
