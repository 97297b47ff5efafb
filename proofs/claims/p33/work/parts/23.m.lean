theorem dX5_undo_0 : decode cX5_undo 0 = .ok (.aload_n 0, 1) := by decide +kernel
theorem dX5_undo_1 : decode cX5_undo 1 = .ok (.getfield 29, 3) := by decide +kernel
theorem dX5_undo_4 : decode cX5_undo 4 = .ok (.getfield 160, 3) := by decide +kernel
theorem dX5_undo_7 : decode cX5_undo 7 = .ok (.ifCond .ne 13, 3) := by decide +kernel
theorem dX5_undo_10 : decode cX5_undo 10 = .ok (.new 56, 3) := by decide +kernel
theorem dX5_undo_13 : decode cX5_undo 13 = .ok (.dup, 1) := by decide +kernel
theorem dX5_undo_14 : decode cX5_undo 14 = .ok (.ldc 164, 2) := by decide +kernel
theorem dX5_undo_16 : decode cX5_undo 16 = .ok (.invokespecial 60, 3) := by decide +kernel
theorem dX5_undo_19 : decode cX5_undo 19 = .ok (.athrow, 1) := by decide +kernel
theorem dX5_undo_20 : decode cX5_undo 20 = .ok (.aload_n 0, 1) := by decide +kernel
theorem dX5_undo_21 : decode cX5_undo 21 = .ok (.getfield 29, 3) := by decide +kernel
theorem dX5_undo_24 : decode cX5_undo 24 = .ok (.aload_n 0, 1) := by decide +kernel
theorem dX5_undo_25 : decode cX5_undo 25 = .ok (.getfield 19, 3) := by decide +kernel
theorem dX5_undo_28 : decode cX5_undo 28 = .ok (.invokevirtual 166, 3) := by decide +kernel
theorem dX5_undo_31 : decode cX5_undo 31 = .ok (.ireturn, 1) := by decide +kernel
def P_T_undo (v0 : TT) (X : String → TT → Prop) (Q : Int32 → TT → Prop) : Prop := ((¬ (H_count (T_history v0)) = 0 → P_H_takeBack (T_history v0) (T_state v0) (fun r2_ v6_ v7_ => (∀ v15_, v15_ = (T_set_history v0 v6_) → (∀ v20_, v20_ = (T_set_state v15_ v7_) → (Q r2_ v20_))))) ∧ ((H_count (T_history v0)) = 0 → X "java/lang/IllegalStateException" v0))
set_option maxRecDepth 100000 in
theorem s_T_undo {l : Launch} {D : zD} {B : Nat} {sa : Nat → Nat} (hfl : l.stackTraces = false) {z : Nat} {G : zG} {b0 : Nat} {v0 : TT} {X : String → TT → Prop} {Q : Int32 → TT → Prop} (h0 : TA b0 v0 G) (h : P_T_undo v0 X Q) : zSx l D B sa yX5_undo cX5_undo 1 (some .int) 6 139 1 6 [.ref b0] z G (zRi fun r z' G' => z = z' ∧ ∃ w, TA b0 w G' ∧ Fr b0 475 G G' ∧ Q r w) (fun E z' G' => ∃ w, TA b0 w G' ∧ Fr b0 475 G G' ∧ X E w) := by
  unfold P_T_undo at h
  refine z_ofX (by decide +kernel) hfl [some (.ref b0)] rfl (Nat.le_of_ble_eq_true rfl) (fun p e s m args below meth c O hret hlk hout => ?_)
  have O : zO p l s m args c D B sa 1 cX5_undo RX5 := O
  refine z_aload_n O dX5_undo_0 rfl rfl ?_
  refine z_get (v := .ref (b0 + 55)) O wf_RX5_29 dX5_undo_1 (T_obj h0) rfl ?_
  refine z_get (v := .int (H_count (T_history v0))) O wf_RX5_160 dX5_undo_4 (H_obj (T_history_of h0)) rfl ?_
  refine z_if_ne (tgt := 20) O dX5_undo_7 (by decide) (fun c1_ => ?_) (fun c1_ => ?_)
  · have h := h.1 c1_
    refine z_aload_n O dX5_undo_20 rfl rfl ?_
    refine z_get (v := .ref (b0 + 55)) O wf_RX5_29 dX5_undo_21 (T_obj h0) rfl ?_
    refine z_aload_n O dX5_undo_24 rfl rfl ?_
    refine z_get (v := .ref (b0 + 3)) O wf_RX5_19 dX5_undo_25 (T_obj h0) rfl ?_
    refine z_callVi (As := [.ref (b0 + 3)]) (st := []) O (s_H_takeBack hfl (T_history_of h0) (T_state_of h0) (by omega) h) wy_X0_takeBack wl_RX5_166 dX5_undo_28 rfl rfl (H_obj (T_history_of h0)) ⟨by decide, rfl⟩ ⟨Nat.le_of_ble_eq_true rfl, Nat.le_of_ble_eq_true rfl⟩ (Nat.le_of_ble_eq_true rfl) ⟨Nat.le_of_ble_eq_true rfl, Nat.le_of_ble_eq_true rfl⟩ (fun r2_ z3_ G4_ hq5_ => ?_)
    obtain ⟨rfl, v6_, v7_, G8_, k9_, f10_, k11_, f12_, h⟩ := hq5_
    have k13_ := T_put_history h0 k9_ f10_
    have f14_ : Fr b0 475 G G8_ := Fr.mono f10_ (by omega) (by omega)
    obtain ⟨v15_, ev15_⟩ : ∃ w, w = (T_set_history v0 v6_) := ⟨_, rfl⟩
    have h := h v15_ ev15_
    have k16_ : TA b0 v15_ G8_ := by rw [ev15_]; exact k13_
    have F17_ : Fr b0 475 G G8_ := Fr.trans Fr.rf f14_
    have k18_ := T_put_state k16_ k11_ f12_
    have f19_ : Fr b0 475 G8_ G4_ := Fr.mono f12_ (by omega) (by omega)
    obtain ⟨v20_, ev20_⟩ : ∃ w, w = (T_set_state v15_ v7_) := ⟨_, rfl⟩
    have h := h v20_ ev20_
    have k21_ : TA b0 v20_ G4_ := by rw [ev20_]; exact k18_
    have F22_ : Fr b0 475 G G4_ := Fr.trans F17_ f19_
    exact z_iretx O hret hlk dX5_undo_31 (Nat.le_of_ble_eq_true rfl) (Nat.le_of_ble_eq_true rfl) ⟨_, rfl, rfl, _, k21_, F22_, h⟩
  · have h := h.2 c1_
    exact z_throw O wt_RX5_56_60 (tx := "no state is remembered") (is := 164) (by decide +kernel) dX5_undo_10 dX5_undo_13 dX5_undo_14 dX5_undo_16 dX5_undo_19 hout (Nat.le_of_ble_eq_true rfl) (Nat.le_of_ble_eq_true rfl) (Nat.le_of_ble_eq_true rfl) (Nat.le_of_ble_eq_true rfl) hlk (fun z1 => ⟨_, h0, Fr.rf, h⟩) (Nat.le_of_ble_eq_true rfl) (Nat.le_of_ble_eq_true rfl)

theorem dX5_why_0 : decode cX5_why 0 = .ok (.aload_n 0, 1) := by decide +kernel
theorem dX5_why_1 : decode cX5_why 1 = .ok (.getfield 19, 3) := by decide +kernel
theorem dX5_why_4 : decode cX5_why 4 = .ok (.invokevirtual 169, 3) := by decide +kernel
theorem dX5_why_7 : decode cX5_why 7 = .ok (.ireturn, 1) := by decide +kernel
def P_T_why (v0 : TT) (Q : Int32 → Prop) : Prop := P_S_firstStays (T_state v0) (fun r1_ => (Q r1_))
set_option maxRecDepth 100000 in
theorem s_T_why {l : Launch} {D : zD} {B : Nat} {sa : Nat → Nat} (hfl : l.stackTraces = false) {z : Nat} {G : zG} {b0 : Nat} {v0 : TT} {Q : Int32 → Prop} (h0 : TA b0 v0 G) (h : P_T_why v0 Q) : zSp l D B sa yX5_why cX5_why 1 (some .int) 3 65 0 0 [.ref b0] z G (zRi fun r z' G' => z = z' ∧ G = G' ∧ Q r) := by
  unfold P_T_why at h
  refine z_ofW (by decide +kernel) hfl [some (.ref b0)] rfl (Nat.le_of_ble_eq_true rfl) (fun p e s m args below meth c O hret hlk hnm => ?_)
  have O : zO p l s m args c D B sa 1 cX5_why RX5 := O
  refine z_aload_n O dX5_why_0 rfl rfl ?_
  refine z_get (v := .ref (b0 + 3)) O wf_RX5_19 dX5_why_1 (T_obj h0) rfl ?_
  refine z_callVi (As := []) (st := []) O (s_S_firstStays hfl (T_state_of h0) h) wy_X3_firstStays wl_RX5_169 dX5_why_4 rfl rfl (S_obj (T_state_of h0)) ⟨by decide, rfl⟩ ⟨Nat.le_of_ble_eq_true rfl, Nat.le_of_ble_eq_true rfl⟩ (Nat.le_of_ble_eq_true rfl) ⟨Nat.le_of_ble_eq_true rfl, Nat.le_of_ble_eq_true rfl⟩ (fun r1_ z2_ G3_ hq4_ => ?_)
  obtain ⟨rfl, rfl, h⟩ := hq4_
  exact z_iret O hret hlk dX5_why_7 (Nat.le_of_ble_eq_true rfl) (Nat.le_of_ble_eq_true rfl) ⟨_, rfl, rfl, rfl, h⟩

theorem dX5_slowest_0 : decode cX5_slowest 0 = .ok (.aload_n 0, 1) := by decide +kernel
theorem dX5_slowest_1 : decode cX5_slowest 1 = .ok (.getfield 19, 3) := by decide +kernel
theorem dX5_slowest_4 : decode cX5_slowest 4 = .ok (.invokevirtual 172, 3) := by decide +kernel
theorem dX5_slowest_7 : decode cX5_slowest 7 = .ok (.ireturn, 1) := by decide +kernel
def P_T_slowest (v0 : TT) (Q : Int32 → Prop) : Prop := P_S_slowestHolder (T_state v0) (fun r1_ => (Q r1_))
set_option maxRecDepth 100000 in
theorem s_T_slowest {l : Launch} {D : zD} {B : Nat} {sa : Nat → Nat} (hfl : l.stackTraces = false) {z : Nat} {G : zG} {b0 : Nat} {v0 : TT} {Q : Int32 → Prop} (h0 : TA b0 v0 G) (h : P_T_slowest v0 Q) : zSp l D B sa yX5_slowest cX5_slowest 1 (some .int) 3 67 0 0 [.ref b0] z G (zRi fun r z' G' => z = z' ∧ G = G' ∧ Q r) := by
  unfold P_T_slowest at h
  refine z_ofW (by decide +kernel) hfl [some (.ref b0)] rfl (Nat.le_of_ble_eq_true rfl) (fun p e s m args below meth c O hret hlk hnm => ?_)
  have O : zO p l s m args c D B sa 1 cX5_slowest RX5 := O
  refine z_aload_n O dX5_slowest_0 rfl rfl ?_
  refine z_get (v := .ref (b0 + 3)) O wf_RX5_19 dX5_slowest_1 (T_obj h0) rfl ?_
  refine z_callVi (As := []) (st := []) O (s_S_slowestHolder hfl (T_state_of h0) h) wy_X3_slowestHolder wl_RX5_172 dX5_slowest_4 rfl rfl (S_obj (T_state_of h0)) ⟨by decide, rfl⟩ ⟨Nat.le_of_ble_eq_true rfl, Nat.le_of_ble_eq_true rfl⟩ (Nat.le_of_ble_eq_true rfl) ⟨Nat.le_of_ble_eq_true rfl, Nat.le_of_ble_eq_true rfl⟩ (fun r1_ z2_ G3_ hq4_ => ?_)
  obtain ⟨rfl, rfl, h⟩ := hq4_
  exact z_iret O hret hlk dX5_slowest_7 (Nat.le_of_ble_eq_true rfl) (Nat.le_of_ble_eq_true rfl) ⟨_, rfl, rfl, rfl, h⟩

theorem dX5_truth_0 : decode cX5_truth 0 = .ok (.iload_n 2, 1) := by decide +kernel
theorem dX5_truth_1 : decode cX5_truth 1 = .ok (.aload_n 0, 1) := by decide +kernel
theorem dX5_truth_2 : decode cX5_truth 2 = .ok (.getfield 19, 3) := by decide +kernel
theorem dX5_truth_5 : decode cX5_truth 5 = .ok (.getfield 90, 3) := by decide +kernel
theorem dX5_truth_8 : decode cX5_truth 8 = .ok (.getfield 175, 3) := by decide +kernel
theorem dX5_truth_11 : decode cX5_truth 11 = .ok (.aload_n 0, 1) := by decide +kernel
theorem dX5_truth_12 : decode cX5_truth 12 = .ok (.getfield 19, 3) := by decide +kernel
theorem dX5_truth_15 : decode cX5_truth 15 = .ok (.getfield 90, 3) := by decide +kernel
theorem dX5_truth_18 : decode cX5_truth 18 = .ok (.getfield 178, 3) := by decide +kernel
theorem dX5_truth_21 : decode cX5_truth 21 = .ok (.invokestatic 41, 3) := by decide +kernel
theorem dX5_truth_24 : decode cX5_truth 24 = .ok (.ifCond .ne 13, 3) := by decide +kernel
theorem dX5_truth_27 : decode cX5_truth 27 = .ok (.new 100, 3) := by decide +kernel
theorem dX5_truth_30 : decode cX5_truth 30 = .ok (.dup, 1) := by decide +kernel
theorem dX5_truth_31 : decode cX5_truth 31 = .ok (.ldc 181, 2) := by decide +kernel
theorem dX5_truth_33 : decode cX5_truth 33 = .ok (.invokespecial 104, 3) := by decide +kernel
theorem dX5_truth_36 : decode cX5_truth 36 = .ok (.athrow, 1) := by decide +kernel
theorem dX5_truth_37 : decode cX5_truth 37 = .ok (.iload_n 1, 1) := by decide +kernel
theorem dX5_truth_38 : decode cX5_truth 38 = .ok (.iconst 0, 1) := by decide +kernel
theorem dX5_truth_39 : decode cX5_truth 39 = .ok (.bipush 7, 2) := by decide +kernel
theorem dX5_truth_41 : decode cX5_truth 41 = .ok (.invokestatic 41, 3) := by decide +kernel
theorem dX5_truth_44 : decode cX5_truth 44 = .ok (.ifCond .eq 12, 3) := by decide +kernel
theorem dX5_truth_47 : decode cX5_truth 47 = .ok (.iload_n 3, 1) := by decide +kernel
theorem dX5_truth_48 : decode cX5_truth 48 = .ok (.iconst 0, 1) := by decide +kernel
theorem dX5_truth_49 : decode cX5_truth 49 = .ok (.iconst 1, 1) := by decide +kernel
theorem dX5_truth_50 : decode cX5_truth 50 = .ok (.invokestatic 41, 3) := by decide +kernel
theorem dX5_truth_53 : decode cX5_truth 53 = .ok (.ifCond .ne 13, 3) := by decide +kernel
theorem dX5_truth_56 : decode cX5_truth 56 = .ok (.new 45, 3) := by decide +kernel
theorem dX5_truth_59 : decode cX5_truth 59 = .ok (.dup, 1) := by decide +kernel
theorem dX5_truth_60 : decode cX5_truth 60 = .ok (.ldc 183, 2) := by decide +kernel
theorem dX5_truth_62 : decode cX5_truth 62 = .ok (.invokespecial 49, 3) := by decide +kernel
theorem dX5_truth_65 : decode cX5_truth 65 = .ok (.athrow, 1) := by decide +kernel
theorem dX5_truth_66 : decode cX5_truth 66 = .ok (.iload_n 3, 1) := by decide +kernel
theorem dX5_truth_67 : decode cX5_truth 67 = .ok (.ifCond .ne 18, 3) := by decide +kernel
theorem dX5_truth_70 : decode cX5_truth 70 = .ok (.aload_n 0, 1) := by decide +kernel
theorem dX5_truth_71 : decode cX5_truth 71 = .ok (.getfield 19, 3) := by decide +kernel
theorem dX5_truth_74 : decode cX5_truth 74 = .ok (.getfield 90, 3) := by decide +kernel
theorem dX5_truth_77 : decode cX5_truth 77 = .ok (.iload_n 1, 1) := by decide +kernel
theorem dX5_truth_78 : decode cX5_truth 78 = .ok (.iload_n 2, 1) := by decide +kernel
theorem dX5_truth_79 : decode cX5_truth 79 = .ok (.invokevirtual 185, 3) := by decide +kernel
theorem dX5_truth_82 : decode cX5_truth 82 = .ok (.goto 15, 3) := by decide +kernel
theorem dX5_truth_85 : decode cX5_truth 85 = .ok (.aload_n 0, 1) := by decide +kernel
theorem dX5_truth_86 : decode cX5_truth 86 = .ok (.getfield 19, 3) := by decide +kernel
theorem dX5_truth_89 : decode cX5_truth 89 = .ok (.getfield 90, 3) := by decide +kernel
theorem dX5_truth_92 : decode cX5_truth 92 = .ok (.iload_n 1, 1) := by decide +kernel
theorem dX5_truth_93 : decode cX5_truth 93 = .ok (.iload_n 2, 1) := by decide +kernel
theorem dX5_truth_94 : decode cX5_truth 94 = .ok (.invokevirtual 188, 3) := by decide +kernel
theorem dX5_truth_97 : decode cX5_truth 97 = .ok (.ireturn, 1) := by decide +kernel
def P_T_truth (x1 : Int32) (x2 : Int32) (x3 : Int32) (v0 : TT) (X : String → Prop) (Q : Int32 → Prop) : Prop := P_T_isIn x2 (L_first (S_log (T_state v0))) (L_end (S_log (T_state v0))) (fun r1_ => (((¬ r1_ = 0 → P_T_isIn x1 0 7 (fun r6_ => (((r6_ = 0 → X "java/lang/IllegalArgumentException") ∧ (¬ r6_ = 0 → P_T_isIn x3 0 1 (fun r11_ => (((¬ r11_ = 0 → ((¬ x3 = 0 → P_L_toldBackwards x1 x2 (S_log (T_state v0)) (fun r17_ => (Q r17_))) ∧ (x3 = 0 → P_L_toldForwards x1 x2 (S_log (T_state v0)) (fun r21_ => (Q r21_))))) ∧ (r11_ = 0 → X "java/lang/IllegalArgumentException"))))))))) ∧ (r1_ = 0 → X "java/lang/IndexOutOfBoundsException"))))
set_option maxRecDepth 100000 in
theorem s_T_truth {l : Launch} {D : zD} {B : Nat} {sa : Nat → Nat} (hfl : l.stackTraces = false) {z : Nat} {G : zG} {b0 : Nat} {x1 : Int32} {x2 : Int32} {x3 : Int32} {v0 : TT} {X : String → Prop} {Q : Int32 → Prop} (h0 : TA b0 v0 G) (h : P_T_truth x1 x2 x3 v0 X Q) : zSx l D B sa yX5_truth cX5_truth 4 (some .int) 6 90 1 6 [.ref b0, .int x1, .int x2, .int x3] z G (zRi fun r z' G' => z = z' ∧ G = G' ∧ Q r) (fun E z' G' => G = G' ∧ X E) := by
  unfold P_T_truth at h
  refine z_ofX (by decide +kernel) hfl [some (.ref b0), some (.int x1), some (.int x2), some (.int x3)] rfl (Nat.le_of_ble_eq_true rfl) (fun p e s m args below meth c O hret hlk hout => ?_)
  have O : zO p l s m args c D B sa 4 cX5_truth RX5 := O
  refine z_iload_n O dX5_truth_0 rfl rfl ?_
  refine z_aload_n O dX5_truth_1 rfl rfl ?_
  refine z_get (v := .ref (b0 + 3)) O wf_RX5_19 dX5_truth_2 (T_obj h0) rfl ?_
  refine z_get (v := .ref ((b0 + 3) + 1)) O wf_RX5_90 dX5_truth_5 (S_obj (T_state_of h0)) rfl ?_
  refine z_get (v := .int (L_first (S_log (T_state v0)))) O wf_RX5_175 dX5_truth_8 (L_obj (S_log_of (T_state_of h0))) rfl ?_
  refine z_aload_n O dX5_truth_11 rfl rfl ?_
  refine z_get (v := .ref (b0 + 3)) O wf_RX5_19 dX5_truth_12 (T_obj h0) rfl ?_
  refine z_get (v := .ref ((b0 + 3) + 1)) O wf_RX5_90 dX5_truth_15 (S_obj (T_state_of h0)) rfl ?_
  refine z_get (v := .int (L_end (S_log (T_state v0)))) O wf_RX5_178 dX5_truth_18 (L_obj (S_log_of (T_state_of h0))) rfl ?_
  refine z_callSi (As := [.int x2, .int (L_first (S_log (T_state v0))), .int (L_end (S_log (T_state v0)))]) (st := []) O (s_T_isIn hfl h) wy_X5_isIn wl_RX5_41 dX5_truth_21 rfl rfl ⟨Nat.le_of_ble_eq_true rfl, Nat.le_of_ble_eq_true rfl⟩ (Nat.le_of_ble_eq_true rfl) ⟨Nat.le_of_ble_eq_true rfl, Nat.le_of_ble_eq_true rfl⟩ (fun r1_ z2_ G3_ hq4_ => ?_)
  obtain ⟨rfl, rfl, h⟩ := hq4_
  refine z_if_ne (tgt := 37) O dX5_truth_24 (by decide) (fun c5_ => ?_) (fun c5_ => ?_)
  · have h := h.1 c5_
    refine z_iload_n O dX5_truth_37 rfl rfl ?_
    refine z_iconst (v := 0) O dX5_truth_38 (by decide) ?_
    refine z_bipush (v := 7) O dX5_truth_39 (by decide) ?_
    refine z_callSi (As := [.int x1, .int 0, .int 7]) (st := []) O (s_T_isIn hfl h) wy_X5_isIn wl_RX5_41 dX5_truth_41 rfl rfl ⟨Nat.le_of_ble_eq_true rfl, Nat.le_of_ble_eq_true rfl⟩ (Nat.le_of_ble_eq_true rfl) ⟨Nat.le_of_ble_eq_true rfl, Nat.le_of_ble_eq_true rfl⟩ (fun r6_ z7_ G8_ hq9_ => ?_)
    obtain ⟨rfl, rfl, h⟩ := hq9_
    refine z_if_eq (tgt := 56) O dX5_truth_44 (by decide) (fun c10_ => ?_) (fun c10_ => ?_)
    · have h := h.1 c10_
      exact z_throw O wt_RX5_45_49 (tx := "key is not 0 to 7, or way is not 0 or 1") (is := 183) (by decide +kernel) dX5_truth_56 dX5_truth_59 dX5_truth_60 dX5_truth_62 dX5_truth_65 hout (Nat.le_of_ble_eq_true rfl) (Nat.le_of_ble_eq_true rfl) (Nat.le_of_ble_eq_true rfl) (Nat.le_of_ble_eq_true rfl) hlk (fun z1 => ⟨rfl, h⟩) (Nat.le_of_ble_eq_true rfl) (Nat.le_of_ble_eq_true rfl)
    · have h := h.2 c10_
      refine z_iload_n O dX5_truth_47 rfl rfl ?_
      refine z_iconst (v := 0) O dX5_truth_48 (by decide) ?_
      refine z_iconst (v := 1) O dX5_truth_49 (by decide) ?_
      refine z_callSi (As := [.int x3, .int 0, .int 1]) (st := []) O (s_T_isIn hfl h) wy_X5_isIn wl_RX5_41 dX5_truth_50 rfl rfl ⟨Nat.le_of_ble_eq_true rfl, Nat.le_of_ble_eq_true rfl⟩ (Nat.le_of_ble_eq_true rfl) ⟨Nat.le_of_ble_eq_true rfl, Nat.le_of_ble_eq_true rfl⟩ (fun r11_ z12_ G13_ hq14_ => ?_)
      obtain ⟨rfl, rfl, h⟩ := hq14_
      refine z_if_ne (tgt := 66) O dX5_truth_53 (by decide) (fun c15_ => ?_) (fun c15_ => ?_)
      · have h := h.1 c15_
        refine z_iload_n O dX5_truth_66 rfl rfl ?_
        refine z_if_ne (tgt := 85) O dX5_truth_67 (by decide) (fun c16_ => ?_) (fun c16_ => ?_)
        · have h := h.1 c16_
          refine z_aload_n O dX5_truth_85 rfl rfl ?_
          refine z_get (v := .ref (b0 + 3)) O wf_RX5_19 dX5_truth_86 (T_obj h0) rfl ?_
          refine z_get (v := .ref ((b0 + 3) + 1)) O wf_RX5_90 dX5_truth_89 (S_obj (T_state_of h0)) rfl ?_
          refine z_iload_n O dX5_truth_92 rfl rfl ?_
          refine z_iload_n O dX5_truth_93 rfl rfl ?_
          refine z_callVi (As := [.int x1, .int x2]) (st := []) O (s_L_toldBackwards hfl (S_log_of (T_state_of h0)) h) wy_X1_toldBackwards wl_RX5_188 dX5_truth_94 rfl rfl (L_obj (S_log_of (T_state_of h0))) ⟨by decide, rfl⟩ ⟨Nat.le_of_ble_eq_true rfl, Nat.le_of_ble_eq_true rfl⟩ (Nat.le_of_ble_eq_true rfl) ⟨Nat.le_of_ble_eq_true rfl, Nat.le_of_ble_eq_true rfl⟩ (fun r17_ z18_ G19_ hq20_ => ?_)
          obtain ⟨rfl, rfl, h⟩ := hq20_
          exact z_iretx O hret hlk dX5_truth_97 (Nat.le_of_ble_eq_true rfl) (Nat.le_of_ble_eq_true rfl) ⟨_, rfl, rfl, rfl, h⟩
        · have h := h.2 c16_
          refine z_aload_n O dX5_truth_70 rfl rfl ?_
          refine z_get (v := .ref (b0 + 3)) O wf_RX5_19 dX5_truth_71 (T_obj h0) rfl ?_
          refine z_get (v := .ref ((b0 + 3) + 1)) O wf_RX5_90 dX5_truth_74 (S_obj (T_state_of h0)) rfl ?_
          refine z_iload_n O dX5_truth_77 rfl rfl ?_
          refine z_iload_n O dX5_truth_78 rfl rfl ?_
          refine z_callVi (As := [.int x1, .int x2]) (st := []) O (s_L_toldForwards hfl (S_log_of (T_state_of h0)) h) wy_X1_toldForwards wl_RX5_185 dX5_truth_79 rfl rfl (L_obj (S_log_of (T_state_of h0))) ⟨by decide, rfl⟩ ⟨Nat.le_of_ble_eq_true rfl, Nat.le_of_ble_eq_true rfl⟩ (Nat.le_of_ble_eq_true rfl) ⟨Nat.le_of_ble_eq_true rfl, Nat.le_of_ble_eq_true rfl⟩ (fun r21_ z22_ G23_ hq24_ => ?_)
          obtain ⟨rfl, rfl, h⟩ := hq24_
          refine z_goto (tgt := 97) O dX5_truth_82 (by decide) ?_
          exact z_iretx O hret hlk dX5_truth_97 (Nat.le_of_ble_eq_true rfl) (Nat.le_of_ble_eq_true rfl) ⟨_, rfl, rfl, rfl, h⟩
      · have h := h.2 c15_
        exact z_throw O wt_RX5_45_49 (tx := "key is not 0 to 7, or way is not 0 or 1") (is := 183) (by decide +kernel) dX5_truth_56 dX5_truth_59 dX5_truth_60 dX5_truth_62 dX5_truth_65 hout (Nat.le_of_ble_eq_true rfl) (Nat.le_of_ble_eq_true rfl) (Nat.le_of_ble_eq_true rfl) (Nat.le_of_ble_eq_true rfl) hlk (fun z1 => ⟨rfl, h⟩) (Nat.le_of_ble_eq_true rfl) (Nat.le_of_ble_eq_true rfl)
  · have h := h.2 c5_
    exact z_throw O wt_RX5_100_104 (tx := "row is not from the first row to the end") (is := 181) (by decide +kernel) dX5_truth_27 dX5_truth_30 dX5_truth_31 dX5_truth_33 dX5_truth_36 hout (Nat.le_of_ble_eq_true rfl) (Nat.le_of_ble_eq_true rfl) (Nat.le_of_ble_eq_true rfl) (Nat.le_of_ble_eq_true rfl) hlk (fun z1 => ⟨rfl, h⟩) (Nat.le_of_ble_eq_true rfl) (Nat.le_of_ble_eq_true rfl)

theorem dX5_copyToTry_0 : decode cX5_copyToTry 0 = .ok (.aload_n 0, 1) := by decide +kernel
theorem dX5_copyToTry_1 : decode cX5_copyToTry 1 = .ok (.getfield 23, 3) := by decide +kernel
theorem dX5_copyToTry_4 : decode cX5_copyToTry 4 = .ok (.aload_n 0, 1) := by decide +kernel
theorem dX5_copyToTry_5 : decode cX5_copyToTry 5 = .ok (.getfield 19, 3) := by decide +kernel
theorem dX5_copyToTry_8 : decode cX5_copyToTry 8 = .ok (.invokevirtual 254, 3) := by decide +kernel
theorem dX5_copyToTry_11 : decode cX5_copyToTry 11 = .ok (.aload_n 0, 1) := by decide +kernel
theorem dX5_copyToTry_12 : decode cX5_copyToTry 12 = .ok (.getfield 23, 3) := by decide +kernel
theorem dX5_copyToTry_15 : decode cX5_copyToTry 15 = .ok (.areturn, 1) := by decide +kernel
def P_T_copyToTry (v0 : TT) (Q : TT → Prop) : Prop := P_S_takeOver (T_trial v0) (T_state v0) (fun v5_ => (∀ v10_, v10_ = (T_set_trial v0 v5_) → (Q v10_)))
set_option maxRecDepth 100000 in
theorem s_T_copyToTry {l : Launch} {D : zD} {B : Nat} {sa : Nat → Nat} (hfl : l.stackTraces = false) {z : Nat} {G : zG} {b0 : Nat} {v0 : TT} {Q : TT → Prop} (h0 : TA b0 v0 G) (h : P_T_copyToTry v0 Q) : zSp l D B sa yX5_copyToTry cX5_copyToTry 1 (some (.object "TrimmedLog$State")) 4 118 0 0 [.ref b0] z G (zRa fun r z' G' => r = some (b0 + 29) ∧ z = z' ∧ ∃ w, TA b0 w G' ∧ Fr b0 475 G G' ∧ Q w) := by
  unfold P_T_copyToTry at h
  refine z_ofW (by decide +kernel) hfl [some (.ref b0)] rfl (Nat.le_of_ble_eq_true rfl) (fun p e s m args below meth c O hret hlk hnm => ?_)
  have O : zO p l s m args c D B sa 1 cX5_copyToTry RX5 := O
  refine z_aload_n O dX5_copyToTry_0 rfl rfl ?_
  refine z_get (v := .ref (b0 + 29)) O wf_RX5_23 dX5_copyToTry_1 (T_obj h0) rfl ?_
  refine z_aload_n O dX5_copyToTry_4 rfl rfl ?_
  refine z_get (v := .ref (b0 + 3)) O wf_RX5_19 dX5_copyToTry_5 (T_obj h0) rfl ?_
  refine z_callVv (As := [.ref (b0 + 3)]) (st := []) O (s_S_takeOver hfl (T_trial_of h0) (T_state_of h0) (by omega) h) wy_X3_takeOver wl_RX5_254 dX5_copyToTry_8 rfl rfl (S_obj (T_trial_of h0)) ⟨by decide, rfl⟩ ⟨Nat.le_of_ble_eq_true rfl, Nat.le_of_ble_eq_true rfl⟩ (Nat.le_of_ble_eq_true rfl) ⟨Nat.le_of_ble_eq_true rfl, Nat.le_of_ble_eq_true rfl⟩ (fun z2_ G3_ hq4_ => ?_)
  obtain ⟨rfl, v5_, k6_, f7_, h⟩ := hq4_
  have k8_ := T_put_trial h0 k6_ f7_
  have f9_ : Fr b0 475 G G3_ := Fr.mono f7_ (by omega) (by omega)
  obtain ⟨v10_, ev10_⟩ : ∃ w, w = (T_set_trial v0 v5_) := ⟨_, rfl⟩
  have h := h v10_ ev10_
  have k11_ : TA b0 v10_ G3_ := by rw [ev10_]; exact k8_
  have F12_ : Fr b0 475 G G3_ := Fr.trans Fr.rf f9_
  refine z_aload_n O dX5_copyToTry_11 rfl rfl ?_
  refine z_get (v := .ref (b0 + 29)) O wf_RX5_23 dX5_copyToTry_12 (T_obj k11_) rfl ?_
  exact z_aret O hret (Or.inl ⟨_, rfl⟩) (Or.inr ⟨_, rfl⟩) hlk dX5_copyToTry_15 (Nat.le_of_ble_eq_true rfl) (Nat.le_of_ble_eq_true rfl) ⟨some _, rfl, rfl, rfl, _, k11_, F12_, h⟩

theorem dX5_droppedIn_0 : decode cX5_droppedIn 0 = .ok (.aload_n 0, 1) := by decide +kernel
theorem dX5_droppedIn_1 : decode cX5_droppedIn 1 = .ok (.invokevirtual 191, 3) := by decide +kernel
theorem dX5_droppedIn_4 : decode cX5_droppedIn 4 = .ok (.astore_n 1, 1) := by decide +kernel
theorem dX5_droppedIn_5 : decode cX5_droppedIn 5 = .ok (.iconst 1, 1) := by decide +kernel
theorem dX5_droppedIn_6 : decode cX5_droppedIn 6 = .ok (.istore_n 2, 1) := by decide +kernel
theorem dX5_droppedIn_7 : decode cX5_droppedIn 7 = .ok (.iload_n 2, 1) := by decide +kernel
theorem dX5_droppedIn_8 : decode cX5_droppedIn 8 = .ok (.sipush 300, 3) := by decide +kernel
theorem dX5_droppedIn_11 : decode cX5_droppedIn 11 = .ok (.if_icmp .gt 19, 3) := by decide +kernel
theorem dX5_droppedIn_14 : decode cX5_droppedIn 14 = .ok (.aload_n 1, 1) := by decide +kernel
theorem dX5_droppedIn_15 : decode cX5_droppedIn 15 = .ok (.iconst 1, 1) := by decide +kernel
theorem dX5_droppedIn_16 : decode cX5_droppedIn 16 = .ok (.invokevirtual 195, 3) := by decide +kernel
theorem dX5_droppedIn_19 : decode cX5_droppedIn 19 = .ok (.ifCond .le 5, 3) := by decide +kernel
theorem dX5_droppedIn_22 : decode cX5_droppedIn 22 = .ok (.iload_n 2, 1) := by decide +kernel
theorem dX5_droppedIn_23 : decode cX5_droppedIn 23 = .ok (.ireturn, 1) := by decide +kernel
theorem dX5_droppedIn_24 : decode cX5_droppedIn 24 = .ok (.iinc 2 1, 3) := by decide +kernel
theorem dX5_droppedIn_27 : decode cX5_droppedIn 27 = .ok (.goto (-20), 3) := by decide +kernel
theorem dX5_droppedIn_30 : decode cX5_droppedIn 30 = .ok (.iconst (-1), 1) := by decide +kernel
theorem dX5_droppedIn_31 : decode cX5_droppedIn 31 = .ok (.ireturn, 1) := by decide +kernel
def PL_T_droppedIn_7 : Nat → Int32 → TT → (Int32 → TT → Prop) → Prop
  | 0, _, _, _ => False
  | n + 1, y2, v0, Q => ((300 < y2 → Q (-1) v0) ∧ (¬ 300 < y2 → P_S_passTime 1 (T_trial v0) (fun r10_ v14_ => (∀ v19_, v19_ = (T_set_trial v0 v14_) → (((r10_ ≤ 0 → (fun y2 v0 => PL_T_droppedIn_7 n  y2 v0  Q) (y2 + 1) v19_) ∧ (¬ r10_ ≤ 0 → Q y2 v19_)))))))
def P_T_droppedIn (v0 : TT) (Q : Int32 → TT → Prop) : Prop := P_T_copyToTry v0 (fun v5_ => ((∃ n23_, PL_T_droppedIn_7 n23_ 1 v5_ Q)))
set_option maxRecDepth 100000 in
theorem s_T_droppedIn {l : Launch} {D : zD} {B : Nat} {sa : Nat → Nat} (hfl : l.stackTraces = false) {z : Nat} {G : zG} {b0 : Nat} {v0 : TT} {Q : Int32 → TT → Prop} (h0 : TA b0 v0 G) (h : P_T_droppedIn v0 Q) : zSp l D B sa yX5_droppedIn cX5_droppedIn 3 (some .int) 5 138 0 0 [.ref b0] z G (zRi fun r z' G' => z = z' ∧ ∃ w, TA b0 w G' ∧ Fr b0 475 G G' ∧ Q r w) := by
  unfold P_T_droppedIn at h
  refine z_ofW (by decide +kernel) hfl [some (.ref b0), none, none] rfl (Nat.le_of_ble_eq_true rfl) (fun p e s m args below meth c O hret hlk hnm => ?_)
  have O : zO p l s m args c D B sa 3 cX5_droppedIn RX5 := O
  have HL7 : ∀ (n9 : Nat)    (y2 : Int32) (v0 : TT) (G9 : zG) (g0 : TA b0 v0 G9) (gF : Fr b0 475 G G9) (h : PL_T_droppedIn_7 n9 y2 v0 Q), zT p l e (zrm 5 138 0 0) s m args below meth c (zEnd below D B (zRi fun r z' G' => z = z' ∧ ∃ w, TA b0 w G' ∧ Fr b0 475 G G' ∧ Q r w) args s 0 0) D B 3 0 0 7 [] [none, some (.ref (b0 + 29)), some (.int y2)] z G9 := by
    intro n9   
    induction n9 with
    | zero =>
      intro _ _ _ _ _ h
      exact (h : False).elim
    | succ n ih =>
      intro y2 v0 G9 g0 gF h
      rw [PL_T_droppedIn_7] at h
      refine z_iload_n O dX5_droppedIn_7 rfl rfl ?_
      refine z_sipush (v := 300) O dX5_droppedIn_8 (by decide) ?_
      refine z_icmp_gt (tgt := 30) O dX5_droppedIn_11 (by decide) (fun c9_ => ?_) (fun c9_ => ?_)
      · have h := h.1 c9_
        refine z_iconst (v := (-1)) O dX5_droppedIn_30 (by decide) ?_
        exact z_iret O hret hlk dX5_droppedIn_31 (Nat.le_of_ble_eq_true rfl) (Nat.le_of_ble_eq_true rfl) ⟨_, rfl, rfl, _, g0, gF, h⟩
      · have h := h.2 c9_
        refine z_aload_n O dX5_droppedIn_14 rfl rfl ?_
        refine z_iconst (v := 1) O dX5_droppedIn_15 (by decide) ?_
        refine z_callVi (As := [.int 1]) (st := []) O (s_S_passTime hfl (T_trial_of g0) h) wy_X3_passTime wl_RX5_195 dX5_droppedIn_16 rfl rfl (S_obj (T_trial_of g0)) ⟨by decide, rfl⟩ ⟨Nat.le_of_ble_eq_true rfl, Nat.le_of_ble_eq_true rfl⟩ (Nat.le_of_ble_eq_true rfl) ⟨Nat.le_of_ble_eq_true rfl, Nat.le_of_ble_eq_true rfl⟩ (fun r10_ z11_ G12_ hq13_ => ?_)
        obtain ⟨rfl, v14_, k15_, f16_, h⟩ := hq13_
        have k17_ := T_put_trial g0 k15_ f16_
        have f18_ : Fr b0 475 G9 G12_ := Fr.mono f16_ (by omega) (by omega)
        obtain ⟨v19_, ev19_⟩ : ∃ w, w = (T_set_trial v0 v14_) := ⟨_, rfl⟩
        have h := h v19_ ev19_
        have k20_ : TA b0 v19_ G12_ := by rw [ev19_]; exact k17_
        have F21_ : Fr b0 475 G G12_ := Fr.trans gF f18_
        refine z_if_le (tgt := 24) O dX5_droppedIn_19 (by decide) (fun c22_ => ?_) (fun c22_ => ?_)
        · have h := h.1 c22_
          refine z_iinc (v := (y2 + 1)) (L' := [none, some (.ref (b0 + 29)), some (.int (y2 + 1))]) O dX5_droppedIn_24 rfl (by first | rfl | decide) (by decide) rfl ?_
          refine z_goto (tgt := 7) O dX5_droppedIn_27 (by decide) ?_
          exact z_subL (L' := [none, some (.ref (b0 + 29)), some (.int (y2 + 1))]) (zLe.sub (And.intro rfl (And.intro rfl True.intro))) (ih (y2 + 1) v19_ G12_ k20_ F21_ h)
        · have h := h.2 c22_
          refine z_iload_n O dX5_droppedIn_22 rfl rfl ?_
          exact z_iret O hret hlk dX5_droppedIn_23 (Nat.le_of_ble_eq_true rfl) (Nat.le_of_ble_eq_true rfl) ⟨_, rfl, rfl, _, k20_, F21_, h⟩
  refine z_aload_n O dX5_droppedIn_0 rfl rfl ?_
  refine z_callVa (As := []) (st := []) O (s_T_copyToTry hfl h0 h) wy_X5_copyToTry wl_RX5_191 dX5_droppedIn_1 rfl rfl (T_obj h0) ⟨by decide, rfl⟩ ⟨Nat.le_of_ble_eq_true rfl, Nat.le_of_ble_eq_true rfl⟩ (Nat.le_of_ble_eq_true rfl) ⟨Nat.le_of_ble_eq_true rfl, Nat.le_of_ble_eq_true rfl⟩ (fun r1_ z2_ G3_ hq4_ => ?_)
  obtain ⟨rfl, rfl, v5_, k6_, f7_, h⟩ := hq4_
  have F8_ : Fr b0 475 G G3_ := Fr.trans Fr.rf f7_
  refine z_astore_n (L' := [some (.ref b0), some (.ref (b0 + 29)), none]) O dX5_droppedIn_4 rfl (by decide) rfl ?_
  refine z_iconst (v := 1) O dX5_droppedIn_5 (by decide) ?_
  refine z_istore_n (L' := [some (.ref b0), some (.ref (b0 + 29)), some (.int 1)]) O dX5_droppedIn_6 rfl (by decide) rfl ?_
  obtain ⟨n23_, h⟩ := h
  exact z_subL (L' := [none, some (.ref (b0 + 29)), some (.int 1)]) (zLe.sub (And.intro rfl (And.intro rfl True.intro))) (HL7 n23_ 1 v5_ G3_ k6_ F8_ h)

theorem dX5_lostIn_0 : decode cX5_lostIn 0 = .ok (.aload_n 0, 1) := by decide +kernel
theorem dX5_lostIn_1 : decode cX5_lostIn 1 = .ok (.getfield 19, 3) := by decide +kernel
theorem dX5_lostIn_4 : decode cX5_lostIn 4 = .ok (.iload_n 1, 1) := by decide +kernel
theorem dX5_lostIn_5 : decode cX5_lostIn 5 = .ok (.invokevirtual 122, 3) := by decide +kernel
theorem dX5_lostIn_8 : decode cX5_lostIn 8 = .ok (.ifnonnull 13, 3) := by decide +kernel
theorem dX5_lostIn_11 : decode cX5_lostIn 11 = .ok (.new 100, 3) := by decide +kernel
theorem dX5_lostIn_14 : decode cX5_lostIn 14 = .ok (.dup, 1) := by decide +kernel
theorem dX5_lostIn_15 : decode cX5_lostIn 15 = .ok (.ldc 126, 2) := by decide +kernel
theorem dX5_lostIn_17 : decode cX5_lostIn 17 = .ok (.invokespecial 104, 3) := by decide +kernel
theorem dX5_lostIn_20 : decode cX5_lostIn 20 = .ok (.athrow, 1) := by decide +kernel
theorem dX5_lostIn_21 : decode cX5_lostIn 21 = .ok (.aload_n 0, 1) := by decide +kernel
theorem dX5_lostIn_22 : decode cX5_lostIn 22 = .ok (.invokevirtual 191, 3) := by decide +kernel
theorem dX5_lostIn_25 : decode cX5_lostIn 25 = .ok (.astore_n 2, 1) := by decide +kernel
theorem dX5_lostIn_26 : decode cX5_lostIn 26 = .ok (.aload_n 2, 1) := by decide +kernel
theorem dX5_lostIn_27 : decode cX5_lostIn 27 = .ok (.iload_n 1, 1) := by decide +kernel
theorem dX5_lostIn_28 : decode cX5_lostIn 28 = .ok (.invokevirtual 198, 3) := by decide +kernel
theorem dX5_lostIn_31 : decode cX5_lostIn 31 = .ok (.ifCond .ne 5, 3) := by decide +kernel
theorem dX5_lostIn_34 : decode cX5_lostIn 34 = .ok (.iconst (-1), 1) := by decide +kernel
theorem dX5_lostIn_35 : decode cX5_lostIn 35 = .ok (.ireturn, 1) := by decide +kernel
theorem dX5_lostIn_36 : decode cX5_lostIn 36 = .ok (.iconst 1, 1) := by decide +kernel
theorem dX5_lostIn_37 : decode cX5_lostIn 37 = .ok (.istore_n 3, 1) := by decide +kernel
theorem dX5_lostIn_38 : decode cX5_lostIn 38 = .ok (.iload_n 3, 1) := by decide +kernel
theorem dX5_lostIn_39 : decode cX5_lostIn 39 = .ok (.sipush 300, 3) := by decide +kernel
theorem dX5_lostIn_42 : decode cX5_lostIn 42 = .ok (.if_icmp .gt 25, 3) := by decide +kernel
theorem dX5_lostIn_45 : decode cX5_lostIn 45 = .ok (.aload_n 2, 1) := by decide +kernel
theorem dX5_lostIn_46 : decode cX5_lostIn 46 = .ok (.iconst 1, 1) := by decide +kernel
theorem dX5_lostIn_47 : decode cX5_lostIn 47 = .ok (.invokevirtual 195, 3) := by decide +kernel
theorem dX5_lostIn_50 : decode cX5_lostIn 50 = .ok (.pop, 1) := by decide +kernel
theorem dX5_lostIn_51 : decode cX5_lostIn 51 = .ok (.aload_n 2, 1) := by decide +kernel
theorem dX5_lostIn_52 : decode cX5_lostIn 52 = .ok (.iload_n 1, 1) := by decide +kernel
theorem dX5_lostIn_53 : decode cX5_lostIn 53 = .ok (.invokevirtual 198, 3) := by decide +kernel
theorem dX5_lostIn_56 : decode cX5_lostIn 56 = .ok (.ifCond .ne 5, 3) := by decide +kernel
theorem dX5_lostIn_59 : decode cX5_lostIn 59 = .ok (.iload_n 3, 1) := by decide +kernel
theorem dX5_lostIn_60 : decode cX5_lostIn 60 = .ok (.ireturn, 1) := by decide +kernel
theorem dX5_lostIn_61 : decode cX5_lostIn 61 = .ok (.iinc 3 1, 3) := by decide +kernel
theorem dX5_lostIn_64 : decode cX5_lostIn 64 = .ok (.goto (-26), 3) := by decide +kernel
theorem dX5_lostIn_67 : decode cX5_lostIn 67 = .ok (.iconst (-1), 1) := by decide +kernel
theorem dX5_lostIn_68 : decode cX5_lostIn 68 = .ok (.ireturn, 1) := by decide +kernel
def PL_T_lostIn_38 : Nat → Int32 → Int32 → Int32 → TT → (String → TT → Prop) → (Int32 → TT → Prop) → Prop
  | 0, _, _, _, _, _, _ => False
  | n + 1, x1, y1, y3, v0, X, Q => ((300 < y3 → Q (-1) v0) ∧ (¬ 300 < y3 → P_S_passTime 1 (T_trial v0) (fun r23_ v27_ => (∀ v32_, v32_ = (T_set_trial v0 v27_) → (P_S_hasHold y1 (T_trial v32_) (fun r35_ => (((¬ r35_ = 0 → (fun y1 y3 v0 => PL_T_lostIn_38 n x1 y1 y3 v0  X Q) y1 (y3 + 1) v32_) ∧ (r35_ = 0 → Q y3 v32_)))))))))
def P_T_lostIn (x1 : Int32) (v0 : TT) (X : String → TT → Prop) (Q : Int32 → TT → Prop) : Prop := P_S_reader x1 (T_state v0) (fun r5_ => ((r5_ = none → X "java/lang/IndexOutOfBoundsException" v0) ∧ (∀ i7_, r5_ = some i7_ → P_T_copyToTry v0 (fun v13_ => (P_S_hasHold x1 (T_trial v13_) (fun r17_ => (((¬ r17_ = 0 → (∃ n40_, PL_T_lostIn_38 n40_ x1 x1 1 v13_ X Q)) ∧ (r17_ = 0 → Q (-1) v13_)))))))))
set_option maxRecDepth 100000 in
theorem s_T_lostIn {l : Launch} {D : zD} {B : Nat} {sa : Nat → Nat} (hfl : l.stackTraces = false) {z : Nat} {G : zG} {b0 : Nat} {x1 : Int32} {v0 : TT} {X : String → TT → Prop} {Q : Int32 → TT → Prop} (h0 : TA b0 v0 G) (h : P_T_lostIn x1 v0 X Q) : zSx l D B sa yX5_lostIn cX5_lostIn 4 (some .int) 6 138 1 6 [.ref b0, .int x1] z G (zRi fun r z' G' => z = z' ∧ ∃ w, TA b0 w G' ∧ Fr b0 475 G G' ∧ Q r w) (fun E z' G' => ∃ w, TA b0 w G' ∧ Fr b0 475 G G' ∧ X E w) := by
  unfold P_T_lostIn at h
  refine z_ofX (by decide +kernel) hfl [some (.ref b0), some (.int x1), none, none] rfl (Nat.le_of_ble_eq_true rfl) (fun p e s m args below meth c O hret hlk hout => ?_)
  have O : zO p l s m args c D B sa 4 cX5_lostIn RX5 := O
  have HL38 : ∀ (n9 : Nat)    (y1 : Int32) (y3 : Int32) (v0 : TT) (G9 : zG) (g0 : TA b0 v0 G9) (gF : Fr b0 475 G G9) (h : PL_T_lostIn_38 n9 x1 y1 y3 v0 X Q), zT p l e (zrm 6 138 1 6) s m args below meth c (zEnx below D B (zRi fun r z' G' => z = z' ∧ ∃ w, TA b0 w G' ∧ Fr b0 475 G G' ∧ Q r w) (fun E z' G' => ∃ w, TA b0 w G' ∧ Fr b0 475 G G' ∧ X E w) args s 1 6) D B 4 0 0 38 [] [none, some (.int y1), some (.ref (b0 + 29)), some (.int y3)] z G9 := by
    intro n9   
    induction n9 with
    | zero =>
      intro _ _ _ _ _ _ h
      exact (h : False).elim
    | succ n ih =>
      intro y1 y3 v0 G9 g0 gF h
      rw [PL_T_lostIn_38] at h
      refine z_iload_n O dX5_lostIn_38 rfl rfl ?_
      refine z_sipush (v := 300) O dX5_lostIn_39 (by decide) ?_
      refine z_icmp_gt (tgt := 67) O dX5_lostIn_42 (by decide) (fun c22_ => ?_) (fun c22_ => ?_)
      · have h := h.1 c22_
        refine z_iconst (v := (-1)) O dX5_lostIn_67 (by decide) ?_
        exact z_iretx O hret hlk dX5_lostIn_68 (Nat.le_of_ble_eq_true rfl) (Nat.le_of_ble_eq_true rfl) ⟨_, rfl, rfl, _, g0, gF, h⟩
      · have h := h.2 c22_
        refine z_aload_n O dX5_lostIn_45 rfl rfl ?_
        refine z_iconst (v := 1) O dX5_lostIn_46 (by decide) ?_
        refine z_callVi (As := [.int 1]) (st := []) O (s_S_passTime hfl (T_trial_of g0) h) wy_X3_passTime wl_RX5_195 dX5_lostIn_47 rfl rfl (S_obj (T_trial_of g0)) ⟨by decide, rfl⟩ ⟨Nat.le_of_ble_eq_true rfl, Nat.le_of_ble_eq_true rfl⟩ (Nat.le_of_ble_eq_true rfl) ⟨Nat.le_of_ble_eq_true rfl, Nat.le_of_ble_eq_true rfl⟩ (fun r23_ z24_ G25_ hq26_ => ?_)
        obtain ⟨rfl, v27_, k28_, f29_, h⟩ := hq26_
        have k30_ := T_put_trial g0 k28_ f29_
        have f31_ : Fr b0 475 G9 G25_ := Fr.mono f29_ (by omega) (by omega)
        obtain ⟨v32_, ev32_⟩ : ∃ w, w = (T_set_trial v0 v27_) := ⟨_, rfl⟩
        have h := h v32_ ev32_
        have k33_ : TA b0 v32_ G25_ := by rw [ev32_]; exact k30_
        have F34_ : Fr b0 475 G G25_ := Fr.trans gF f31_
        refine z_pop O dX5_lostIn_50 rfl ?_
        refine z_aload_n O dX5_lostIn_51 rfl rfl ?_
        refine z_iload_n O dX5_lostIn_52 rfl rfl ?_
        refine z_callVi (As := [.int y1]) (st := []) O (s_S_hasHold hfl (T_trial_of k33_) h) wy_X3_hasHold wl_RX5_198 dX5_lostIn_53 rfl rfl (S_obj (T_trial_of k33_)) ⟨by decide, rfl⟩ ⟨Nat.le_of_ble_eq_true rfl, Nat.le_of_ble_eq_true rfl⟩ (Nat.le_of_ble_eq_true rfl) ⟨Nat.le_of_ble_eq_true rfl, Nat.le_of_ble_eq_true rfl⟩ (fun r35_ z36_ G37_ hq38_ => ?_)
        obtain ⟨rfl, rfl, h⟩ := hq38_
        refine z_if_ne (tgt := 61) O dX5_lostIn_56 (by decide) (fun c39_ => ?_) (fun c39_ => ?_)
        · have h := h.1 c39_
          refine z_iinc (v := (y3 + 1)) (L' := [none, some (.int y1), some (.ref (b0 + 29)), some (.int (y3 + 1))]) O dX5_lostIn_61 rfl (by first | rfl | decide) (by decide) rfl ?_
          refine z_goto (tgt := 38) O dX5_lostIn_64 (by decide) ?_
          exact z_subL (L' := [none, some (.int y1), some (.ref (b0 + 29)), some (.int (y3 + 1))]) (zLe.sub (And.intro rfl (And.intro rfl (And.intro rfl True.intro)))) (ih y1 (y3 + 1) v32_ G25_ k33_ F34_ h)
        · have h := h.2 c39_
          refine z_iload_n O dX5_lostIn_59 rfl rfl ?_
          exact z_iretx O hret hlk dX5_lostIn_60 (Nat.le_of_ble_eq_true rfl) (Nat.le_of_ble_eq_true rfl) ⟨_, rfl, rfl, _, k33_, F34_, h⟩
  refine z_aload_n O dX5_lostIn_0 rfl rfl ?_
  refine z_get (v := .ref (b0 + 3)) O wf_RX5_19 dX5_lostIn_1 (T_obj h0) rfl ?_
  refine z_iload_n O dX5_lostIn_4 rfl rfl ?_
  refine z_callVa (As := [.int x1]) (st := []) O (s_S_reader hfl (T_state_of h0) h) wy_X3_reader wl_RX5_122 dX5_lostIn_5 rfl rfl (S_obj (T_state_of h0)) ⟨by decide, rfl⟩ ⟨Nat.le_of_ble_eq_true rfl, Nat.le_of_ble_eq_true rfl⟩ (Nat.le_of_ble_eq_true rfl) ⟨Nat.le_of_ble_eq_true rfl, Nat.le_of_ble_eq_true rfl⟩ (fun r1_ z2_ G3_ hq4_ => ?_)
  obtain ⟨rfl, rfl, r5_, rfl, hb6_, h⟩ := hq4_
  cases r5_ with
  | none =>
    have h := h.1 rfl
    refine z_ifnonnullN O dX5_lostIn_8 ?_
    exact z_throw O wt_RX5_100_104 (tx := "there is no such reader") (is := 126) (by decide +kernel) dX5_lostIn_11 dX5_lostIn_14 dX5_lostIn_15 dX5_lostIn_17 dX5_lostIn_20 hout (Nat.le_of_ble_eq_true rfl) (Nat.le_of_ble_eq_true rfl) (Nat.le_of_ble_eq_true rfl) (Nat.le_of_ble_eq_true rfl) hlk (fun z1 => ⟨_, h0, Fr.rf, h⟩) (Nat.le_of_ble_eq_true rfl) (Nat.le_of_ble_eq_true rfl)
  | some i7_ =>
    have hi8_ := hb6_ _ rfl
    have h := h.2 i7_ rfl
    refine z_ifnonnull (tgt := 21) O dX5_lostIn_8 (by decide) ?_
    refine z_aload_n O dX5_lostIn_21 rfl rfl ?_
    refine z_callVa (As := []) (st := []) O (s_T_copyToTry hfl h0 h) wy_X5_copyToTry wl_RX5_191 dX5_lostIn_22 rfl rfl (T_obj h0) ⟨by decide, rfl⟩ ⟨Nat.le_of_ble_eq_true rfl, Nat.le_of_ble_eq_true rfl⟩ (Nat.le_of_ble_eq_true rfl) ⟨Nat.le_of_ble_eq_true rfl, Nat.le_of_ble_eq_true rfl⟩ (fun r9_ z10_ G11_ hq12_ => ?_)
    obtain ⟨rfl, rfl, v13_, k14_, f15_, h⟩ := hq12_
    have F16_ : Fr b0 475 G G11_ := Fr.trans Fr.rf f15_
    refine z_astore_n (L' := [some (.ref b0), some (.int x1), some (.ref (b0 + 29)), none]) O dX5_lostIn_25 rfl (by decide) rfl ?_
    refine z_aload_n O dX5_lostIn_26 rfl rfl ?_
    refine z_iload_n O dX5_lostIn_27 rfl rfl ?_
    refine z_callVi (As := [.int x1]) (st := []) O (s_S_hasHold hfl (T_trial_of k14_) h) wy_X3_hasHold wl_RX5_198 dX5_lostIn_28 rfl rfl (S_obj (T_trial_of k14_)) ⟨by decide, rfl⟩ ⟨Nat.le_of_ble_eq_true rfl, Nat.le_of_ble_eq_true rfl⟩ (Nat.le_of_ble_eq_true rfl) ⟨Nat.le_of_ble_eq_true rfl, Nat.le_of_ble_eq_true rfl⟩ (fun r17_ z18_ G19_ hq20_ => ?_)
    obtain ⟨rfl, rfl, h⟩ := hq20_
    refine z_if_ne (tgt := 36) O dX5_lostIn_31 (by decide) (fun c21_ => ?_) (fun c21_ => ?_)
    · have h := h.1 c21_
      refine z_iconst (v := 1) O dX5_lostIn_36 (by decide) ?_
      refine z_istore_n (L' := [some (.ref b0), some (.int x1), some (.ref (b0 + 29)), some (.int 1)]) O dX5_lostIn_37 rfl (by decide) rfl ?_
      obtain ⟨n40_, h⟩ := h
      exact z_subL (L' := [none, some (.int x1), some (.ref (b0 + 29)), some (.int 1)]) (zLe.sub (And.intro rfl (And.intro rfl (And.intro rfl True.intro)))) (HL38 n40_ x1 1 v13_ G11_ k14_ F16_ h)
    · have h := h.2 c21_
      refine z_iconst (v := (-1)) O dX5_lostIn_34 (by decide) ?_
      exact z_iretx O hret hlk dX5_lostIn_35 (Nat.le_of_ble_eq_true rfl) (Nat.le_of_ble_eq_true rfl) ⟨_, rfl, rfl, _, k14_, F16_, h⟩

theorem dX5_ifFree_0 : decode cX5_ifFree 0 = .ok (.aload_n 0, 1) := by decide +kernel
theorem dX5_ifFree_1 : decode cX5_ifFree 1 = .ok (.getfield 19, 3) := by decide +kernel
theorem dX5_ifFree_4 : decode cX5_ifFree 4 = .ok (.iload_n 1, 1) := by decide +kernel
theorem dX5_ifFree_5 : decode cX5_ifFree 5 = .ok (.invokevirtual 122, 3) := by decide +kernel
theorem dX5_ifFree_8 : decode cX5_ifFree 8 = .ok (.ifnonnull 13, 3) := by decide +kernel
theorem dX5_ifFree_11 : decode cX5_ifFree 11 = .ok (.new 100, 3) := by decide +kernel
theorem dX5_ifFree_14 : decode cX5_ifFree 14 = .ok (.dup, 1) := by decide +kernel
theorem dX5_ifFree_15 : decode cX5_ifFree 15 = .ok (.ldc 126, 2) := by decide +kernel
theorem dX5_ifFree_17 : decode cX5_ifFree 17 = .ok (.invokespecial 104, 3) := by decide +kernel
theorem dX5_ifFree_20 : decode cX5_ifFree 20 = .ok (.athrow, 1) := by decide +kernel
theorem dX5_ifFree_21 : decode cX5_ifFree 21 = .ok (.aload_n 0, 1) := by decide +kernel
theorem dX5_ifFree_22 : decode cX5_ifFree 22 = .ok (.invokevirtual 191, 3) := by decide +kernel
theorem dX5_ifFree_25 : decode cX5_ifFree 25 = .ok (.astore_n 2, 1) := by decide +kernel
theorem dX5_ifFree_26 : decode cX5_ifFree 26 = .ok (.aload_n 2, 1) := by decide +kernel
theorem dX5_ifFree_27 : decode cX5_ifFree 27 = .ok (.iconst 4, 1) := by decide +kernel
theorem dX5_ifFree_28 : decode cX5_ifFree 28 = .ok (.iload_n 1, 1) := by decide +kernel
theorem dX5_ifFree_29 : decode cX5_ifFree 29 = .ok (.iconst 0, 1) := by decide +kernel
theorem dX5_ifFree_30 : decode cX5_ifFree 30 = .ok (.iconst 0, 1) := by decide +kernel
theorem dX5_ifFree_31 : decode cX5_ifFree 31 = .ok (.invokevirtual 201, 3) := by decide +kernel
theorem dX5_ifFree_34 : decode cX5_ifFree 34 = .ok (.pop, 1) := by decide +kernel
theorem dX5_ifFree_35 : decode cX5_ifFree 35 = .ok (.aload_n 2, 1) := by decide +kernel
theorem dX5_ifFree_36 : decode cX5_ifFree 36 = .ok (.iconst 1, 1) := by decide +kernel
theorem dX5_ifFree_37 : decode cX5_ifFree 37 = .ok (.invokevirtual 195, 3) := by decide +kernel
theorem dX5_ifFree_40 : decode cX5_ifFree 40 = .ok (.ireturn, 1) := by decide +kernel
def P_T_ifFree (x1 : Int32) (v0 : TT) (X : String → TT → Prop) (Q : Int32 → TT → Prop) : Prop := P_S_reader x1 (T_state v0) (fun r5_ => ((r5_ = none → X "java/lang/IndexOutOfBoundsException" v0) ∧ (∀ i7_, r5_ = some i7_ → P_T_copyToTry v0 (fun v13_ => (P_S_attempt 4 x1 0 0 (T_trial v13_) (fun r17_ v21_ => (∀ v26_, v26_ = (T_set_trial v13_ v21_) → (P_S_passTime 1 (T_trial v26_) (fun r29_ v33_ => (∀ v38_, v38_ = (T_set_trial v26_ v33_) → (Q r29_ v38_)))))))))))
set_option maxRecDepth 100000 in
theorem s_T_ifFree {l : Launch} {D : zD} {B : Nat} {sa : Nat → Nat} (hfl : l.stackTraces = false) {z : Nat} {G : zG} {b0 : Nat} {x1 : Int32} {v0 : TT} {X : String → TT → Prop} {Q : Int32 → TT → Prop} (h0 : TA b0 v0 G) (h : P_T_ifFree x1 v0 X Q) : zSx l D B sa yX5_ifFree cX5_ifFree 3 (some .int) 6 165 1 6 [.ref b0, .int x1] z G (zRi fun r z' G' => z = z' ∧ ∃ w, TA b0 w G' ∧ Fr b0 475 G G' ∧ Q r w) (fun E z' G' => ∃ w, TA b0 w G' ∧ Fr b0 475 G G' ∧ X E w) := by
  unfold P_T_ifFree at h
  refine z_ofX (by decide +kernel) hfl [some (.ref b0), some (.int x1), none] rfl (Nat.le_of_ble_eq_true rfl) (fun p e s m args below meth c O hret hlk hout => ?_)
  have O : zO p l s m args c D B sa 3 cX5_ifFree RX5 := O
  refine z_aload_n O dX5_ifFree_0 rfl rfl ?_
  refine z_get (v := .ref (b0 + 3)) O wf_RX5_19 dX5_ifFree_1 (T_obj h0) rfl ?_
  refine z_iload_n O dX5_ifFree_4 rfl rfl ?_
  refine z_callVa (As := [.int x1]) (st := []) O (s_S_reader hfl (T_state_of h0) h) wy_X3_reader wl_RX5_122 dX5_ifFree_5 rfl rfl (S_obj (T_state_of h0)) ⟨by decide, rfl⟩ ⟨Nat.le_of_ble_eq_true rfl, Nat.le_of_ble_eq_true rfl⟩ (Nat.le_of_ble_eq_true rfl) ⟨Nat.le_of_ble_eq_true rfl, Nat.le_of_ble_eq_true rfl⟩ (fun r1_ z2_ G3_ hq4_ => ?_)
  obtain ⟨rfl, rfl, r5_, rfl, hb6_, h⟩ := hq4_
  cases r5_ with
  | none =>
    have h := h.1 rfl
    refine z_ifnonnullN O dX5_ifFree_8 ?_
    exact z_throw O wt_RX5_100_104 (tx := "there is no such reader") (is := 126) (by decide +kernel) dX5_ifFree_11 dX5_ifFree_14 dX5_ifFree_15 dX5_ifFree_17 dX5_ifFree_20 hout (Nat.le_of_ble_eq_true rfl) (Nat.le_of_ble_eq_true rfl) (Nat.le_of_ble_eq_true rfl) (Nat.le_of_ble_eq_true rfl) hlk (fun z1 => ⟨_, h0, Fr.rf, h⟩) (Nat.le_of_ble_eq_true rfl) (Nat.le_of_ble_eq_true rfl)
  | some i7_ =>
    have hi8_ := hb6_ _ rfl
    have h := h.2 i7_ rfl
    refine z_ifnonnull (tgt := 21) O dX5_ifFree_8 (by decide) ?_
    refine z_aload_n O dX5_ifFree_21 rfl rfl ?_
    refine z_callVa (As := []) (st := []) O (s_T_copyToTry hfl h0 h) wy_X5_copyToTry wl_RX5_191 dX5_ifFree_22 rfl rfl (T_obj h0) ⟨by decide, rfl⟩ ⟨Nat.le_of_ble_eq_true rfl, Nat.le_of_ble_eq_true rfl⟩ (Nat.le_of_ble_eq_true rfl) ⟨Nat.le_of_ble_eq_true rfl, Nat.le_of_ble_eq_true rfl⟩ (fun r9_ z10_ G11_ hq12_ => ?_)
    obtain ⟨rfl, rfl, v13_, k14_, f15_, h⟩ := hq12_
    have F16_ : Fr b0 475 G G11_ := Fr.trans Fr.rf f15_
    refine z_astore_n (L' := [some (.ref b0), some (.int x1), some (.ref (b0 + 29))]) O dX5_ifFree_25 rfl (by decide) rfl ?_
    refine z_aload_n O dX5_ifFree_26 rfl rfl ?_
    refine z_iconst (v := 4) O dX5_ifFree_27 (by decide) ?_
    refine z_iload_n O dX5_ifFree_28 rfl rfl ?_
    refine z_iconst (v := 0) O dX5_ifFree_29 (by decide) ?_
    refine z_iconst (v := 0) O dX5_ifFree_30 (by decide) ?_
    refine z_callVi (As := [.int 4, .int x1, .int 0, .int 0]) (st := []) O (s_S_attempt hfl (T_trial_of k14_) h) wy_X3_attempt wl_RX5_201 dX5_ifFree_31 rfl rfl (S_obj (T_trial_of k14_)) ⟨by decide, rfl⟩ ⟨Nat.le_of_ble_eq_true rfl, Nat.le_of_ble_eq_true rfl⟩ (Nat.le_of_ble_eq_true rfl) ⟨Nat.le_of_ble_eq_true rfl, Nat.le_of_ble_eq_true rfl⟩ (fun r17_ z18_ G19_ hq20_ => ?_)
    obtain ⟨rfl, v21_, k22_, f23_, h⟩ := hq20_
    have k24_ := T_put_trial k14_ k22_ f23_
    have f25_ : Fr b0 475 G11_ G19_ := Fr.mono f23_ (by omega) (by omega)
    obtain ⟨v26_, ev26_⟩ : ∃ w, w = (T_set_trial v13_ v21_) := ⟨_, rfl⟩
    have h := h v26_ ev26_
    have k27_ : TA b0 v26_ G19_ := by rw [ev26_]; exact k24_
    have F28_ : Fr b0 475 G G19_ := Fr.trans F16_ f25_
    refine z_pop O dX5_ifFree_34 rfl ?_
    refine z_aload_n O dX5_ifFree_35 rfl rfl ?_
    refine z_iconst (v := 1) O dX5_ifFree_36 (by decide) ?_
    refine z_callVi (As := [.int 1]) (st := []) O (s_S_passTime hfl (T_trial_of k27_) h) wy_X3_passTime wl_RX5_195 dX5_ifFree_37 rfl rfl (S_obj (T_trial_of k27_)) ⟨by decide, rfl⟩ ⟨Nat.le_of_ble_eq_true rfl, Nat.le_of_ble_eq_true rfl⟩ (Nat.le_of_ble_eq_true rfl) ⟨Nat.le_of_ble_eq_true rfl, Nat.le_of_ble_eq_true rfl⟩ (fun r29_ z30_ G31_ hq32_ => ?_)
    obtain ⟨rfl, v33_, k34_, f35_, h⟩ := hq32_
    have k36_ := T_put_trial k27_ k34_ f35_
    have f37_ : Fr b0 475 G19_ G31_ := Fr.mono f35_ (by omega) (by omega)
    obtain ⟨v38_, ev38_⟩ : ∃ w, w = (T_set_trial v26_ v33_) := ⟨_, rfl⟩
    have h := h v38_ ev38_
    have k39_ : TA b0 v38_ G31_ := by rw [ev38_]; exact k36_
    have F40_ : Fr b0 475 G G31_ := Fr.trans F28_ f37_
    exact z_iretx O hret hlk dX5_ifFree_40 (Nat.le_of_ble_eq_true rfl) (Nat.le_of_ble_eq_true rfl) ⟨_, rfl, rfl, _, k39_, F40_, h⟩

theorem dX5_dropsNone_0 : decode cX5_dropsNone 0 = .ok (.aload_n 0, 1) := by decide +kernel
theorem dX5_dropsNone_1 : decode cX5_dropsNone 1 = .ok (.invokevirtual 191, 3) := by decide +kernel
theorem dX5_dropsNone_4 : decode cX5_dropsNone 4 = .ok (.astore_n 3, 1) := by decide +kernel
theorem dX5_dropsNone_5 : decode cX5_dropsNone 5 = .ok (.aload_n 3, 1) := by decide +kernel
theorem dX5_dropsNone_6 : decode cX5_dropsNone 6 = .ok (.iconst 5, 1) := by decide +kernel
theorem dX5_dropsNone_7 : decode cX5_dropsNone 7 = .ok (.iconst 3, 1) := by decide +kernel
theorem dX5_dropsNone_8 : decode cX5_dropsNone 8 = .ok (.iload_n 1, 1) := by decide +kernel
theorem dX5_dropsNone_9 : decode cX5_dropsNone 9 = .ok (.iconst 0, 1) := by decide +kernel
theorem dX5_dropsNone_10 : decode cX5_dropsNone 10 = .ok (.invokevirtual 201, 3) := by decide +kernel
theorem dX5_dropsNone_13 : decode cX5_dropsNone 13 = .ok (.pop, 1) := by decide +kernel
theorem dX5_dropsNone_14 : decode cX5_dropsNone 14 = .ok (.aload_n 3, 1) := by decide +kernel
theorem dX5_dropsNone_15 : decode cX5_dropsNone 15 = .ok (.iload_n 2, 1) := by decide +kernel
theorem dX5_dropsNone_16 : decode cX5_dropsNone 16 = .ok (.invokevirtual 195, 3) := by decide +kernel
theorem dX5_dropsNone_19 : decode cX5_dropsNone 19 = .ok (.ifCond .ne 7, 3) := by decide +kernel
theorem dX5_dropsNone_22 : decode cX5_dropsNone 22 = .ok (.iconst 1, 1) := by decide +kernel
theorem dX5_dropsNone_23 : decode cX5_dropsNone 23 = .ok (.goto 4, 3) := by decide +kernel
theorem dX5_dropsNone_26 : decode cX5_dropsNone 26 = .ok (.iconst 0, 1) := by decide +kernel
theorem dX5_dropsNone_27 : decode cX5_dropsNone 27 = .ok (.ireturn, 1) := by decide +kernel
def P_T_dropsNone (x1 : Int32) (x2 : Int32) (v0 : TT) (Q : Int32 → TT → Prop) : Prop := P_T_copyToTry v0 (fun v5_ => (P_S_attempt 5 3 x1 0 (T_trial v5_) (fun r9_ v13_ => (∀ v18_, v18_ = (T_set_trial v5_ v13_) → (P_S_passTime x2 (T_trial v18_) (fun r21_ v25_ => (∀ v30_, v30_ = (T_set_trial v18_ v25_) → (((¬ r21_ = 0 → Q 0 v30_) ∧ (r21_ = 0 → Q 1 v30_))))))))))
set_option maxRecDepth 100000 in
theorem s_T_dropsNone {l : Launch} {D : zD} {B : Nat} {sa : Nat → Nat} (hfl : l.stackTraces = false) {z : Nat} {G : zG} {b0 : Nat} {x1 : Int32} {x2 : Int32} {v0 : TT} {Q : Int32 → TT → Prop} (h0 : TA b0 v0 G) (h : P_T_dropsNone x1 x2 v0 Q) : zSp l D B sa yX5_dropsNone cX5_dropsNone 4 (some .boolean) 6 165 0 0 [.ref b0, .int x1, .int x2] z G (zRi fun r z' G' => z = z' ∧ ∃ w, TA b0 w G' ∧ Fr b0 475 G G' ∧ Q r w) := by
  unfold P_T_dropsNone at h
  refine z_ofW (by decide +kernel) hfl [some (.ref b0), some (.int x1), some (.int x2), none] rfl (Nat.le_of_ble_eq_true rfl) (fun p e s m args below meth c O hret hlk hnm => ?_)
  have O : zO p l s m args c D B sa 4 cX5_dropsNone RX5 := O
  refine z_aload_n O dX5_dropsNone_0 rfl rfl ?_
  refine z_callVa (As := []) (st := []) O (s_T_copyToTry hfl h0 h) wy_X5_copyToTry wl_RX5_191 dX5_dropsNone_1 rfl rfl (T_obj h0) ⟨by decide, rfl⟩ ⟨Nat.le_of_ble_eq_true rfl, Nat.le_of_ble_eq_true rfl⟩ (Nat.le_of_ble_eq_true rfl) ⟨Nat.le_of_ble_eq_true rfl, Nat.le_of_ble_eq_true rfl⟩ (fun r1_ z2_ G3_ hq4_ => ?_)
  obtain ⟨rfl, rfl, v5_, k6_, f7_, h⟩ := hq4_
  have F8_ : Fr b0 475 G G3_ := Fr.trans Fr.rf f7_
  refine z_astore_n (L' := [some (.ref b0), some (.int x1), some (.int x2), some (.ref (b0 + 29))]) O dX5_dropsNone_4 rfl (by decide) rfl ?_
  refine z_aload_n O dX5_dropsNone_5 rfl rfl ?_
  refine z_iconst (v := 5) O dX5_dropsNone_6 (by decide) ?_
  refine z_iconst (v := 3) O dX5_dropsNone_7 (by decide) ?_
  refine z_iload_n O dX5_dropsNone_8 rfl rfl ?_
  refine z_iconst (v := 0) O dX5_dropsNone_9 (by decide) ?_
  refine z_callVi (As := [.int 5, .int 3, .int x1, .int 0]) (st := []) O (s_S_attempt hfl (T_trial_of k6_) h) wy_X3_attempt wl_RX5_201 dX5_dropsNone_10 rfl rfl (S_obj (T_trial_of k6_)) ⟨by decide, rfl⟩ ⟨Nat.le_of_ble_eq_true rfl, Nat.le_of_ble_eq_true rfl⟩ (Nat.le_of_ble_eq_true rfl) ⟨Nat.le_of_ble_eq_true rfl, Nat.le_of_ble_eq_true rfl⟩ (fun r9_ z10_ G11_ hq12_ => ?_)
  obtain ⟨rfl, v13_, k14_, f15_, h⟩ := hq12_
  have k16_ := T_put_trial k6_ k14_ f15_
  have f17_ : Fr b0 475 G3_ G11_ := Fr.mono f15_ (by omega) (by omega)
  obtain ⟨v18_, ev18_⟩ : ∃ w, w = (T_set_trial v5_ v13_) := ⟨_, rfl⟩
  have h := h v18_ ev18_
  have k19_ : TA b0 v18_ G11_ := by rw [ev18_]; exact k16_
  have F20_ : Fr b0 475 G G11_ := Fr.trans F8_ f17_
  refine z_pop O dX5_dropsNone_13 rfl ?_
  refine z_aload_n O dX5_dropsNone_14 rfl rfl ?_
  refine z_iload_n O dX5_dropsNone_15 rfl rfl ?_
  refine z_callVi (As := [.int x2]) (st := []) O (s_S_passTime hfl (T_trial_of k19_) h) wy_X3_passTime wl_RX5_195 dX5_dropsNone_16 rfl rfl (S_obj (T_trial_of k19_)) ⟨by decide, rfl⟩ ⟨Nat.le_of_ble_eq_true rfl, Nat.le_of_ble_eq_true rfl⟩ (Nat.le_of_ble_eq_true rfl) ⟨Nat.le_of_ble_eq_true rfl, Nat.le_of_ble_eq_true rfl⟩ (fun r21_ z22_ G23_ hq24_ => ?_)
  obtain ⟨rfl, v25_, k26_, f27_, h⟩ := hq24_
  have k28_ := T_put_trial k19_ k26_ f27_
  have f29_ : Fr b0 475 G11_ G23_ := Fr.mono f27_ (by omega) (by omega)
  obtain ⟨v30_, ev30_⟩ : ∃ w, w = (T_set_trial v18_ v25_) := ⟨_, rfl⟩
  have h := h v30_ ev30_
  have k31_ : TA b0 v30_ G23_ := by rw [ev30_]; exact k28_
  have F32_ : Fr b0 475 G G23_ := Fr.trans F20_ f29_
  refine z_if_ne (tgt := 26) O dX5_dropsNone_19 (by decide) (fun c33_ => ?_) (fun c33_ => ?_)
  · have h := h.1 c33_
    refine z_iconst (v := 0) O dX5_dropsNone_26 (by decide) ?_
    exact z_zret O hret rfl hlk dX5_dropsNone_27 (Nat.le_of_ble_eq_true rfl) (Nat.le_of_ble_eq_true rfl) ⟨_, rfl, rfl, _, k31_, F32_, h⟩
  · have h := h.2 c33_
    refine z_iconst (v := 1) O dX5_dropsNone_22 (by decide) ?_
    refine z_goto (tgt := 27) O dX5_dropsNone_23 (by decide) ?_
    exact z_zret O hret rfl hlk dX5_dropsNone_27 (Nat.le_of_ble_eq_true rfl) (Nat.le_of_ble_eq_true rfl) ⟨_, rfl, rfl, _, k31_, F32_, h⟩
