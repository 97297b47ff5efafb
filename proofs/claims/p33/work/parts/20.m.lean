theorem dX4_understandRest_0 : decode cX4_understandRest 0 = .ok (.aload_n 0, 1) := by decide +kernel
theorem dX4_understandRest_1 : decode cX4_understandRest 1 = .ok (.getfield 36, 3) := by decide +kernel
theorem dX4_understandRest_4 : decode cX4_understandRest 4 = .ok (.ifCond .ne 30, 3) := by decide +kernel
theorem dX4_understandRest_7 : decode cX4_understandRest 7 = .ok (.aload_n 0, 1) := by decide +kernel
theorem dX4_understandRest_8 : decode cX4_understandRest 8 = .ok (.aload_n 0, 1) := by decide +kernel
theorem dX4_understandRest_9 : decode cX4_understandRest 9 = .ok (.iconst 2, 1) := by decide +kernel
theorem dX4_understandRest_10 : decode cX4_understandRest 10 = .ok (.iconst 0, 1) := by decide +kernel
theorem dX4_understandRest_11 : decode cX4_understandRest 11 = .ok (.bipush 99, 2) := by decide +kernel
theorem dX4_understandRest_13 : decode cX4_understandRest 13 = .ok (.invokevirtual 66, 3) := by decide +kernel
theorem dX4_understandRest_16 : decode cX4_understandRest 16 = .ok (.putfield 42, 3) := by decide +kernel
theorem dX4_understandRest_19 : decode cX4_understandRest 19 = .ok (.aload_n 0, 1) := by decide +kernel
theorem dX4_understandRest_20 : decode cX4_understandRest 20 = .ok (.aload_n 0, 1) := by decide +kernel
theorem dX4_understandRest_21 : decode cX4_understandRest 21 = .ok (.iconst 2, 1) := by decide +kernel
theorem dX4_understandRest_22 : decode cX4_understandRest 22 = .ok (.iconst 1, 1) := by decide +kernel
theorem dX4_understandRest_23 : decode cX4_understandRest 23 = .ok (.bipush 40, 2) := by decide +kernel
theorem dX4_understandRest_25 : decode cX4_understandRest 25 = .ok (.invokevirtual 66, 3) := by decide +kernel
theorem dX4_understandRest_28 : decode cX4_understandRest 28 = .ok (.putfield 45, 3) := by decide +kernel
theorem dX4_understandRest_31 : decode cX4_understandRest 31 = .ok (.goto 72, 3) := by decide +kernel
theorem dX4_understandRest_34 : decode cX4_understandRest 34 = .ok (.aload_n 0, 1) := by decide +kernel
theorem dX4_understandRest_35 : decode cX4_understandRest 35 = .ok (.getfield 36, 3) := by decide +kernel
theorem dX4_understandRest_38 : decode cX4_understandRest 38 = .ok (.iconst 1, 1) := by decide +kernel
theorem dX4_understandRest_39 : decode cX4_understandRest 39 = .ok (.if_icmp .ne 25, 3) := by decide +kernel
theorem dX4_understandRest_42 : decode cX4_understandRest 42 = .ok (.aload_n 0, 1) := by decide +kernel
theorem dX4_understandRest_43 : decode cX4_understandRest 43 = .ok (.aload_n 0, 1) := by decide +kernel
theorem dX4_understandRest_44 : decode cX4_understandRest 44 = .ok (.iconst 1, 1) := by decide +kernel
theorem dX4_understandRest_45 : decode cX4_understandRest 45 = .ok (.iconst 0, 1) := by decide +kernel
theorem dX4_understandRest_46 : decode cX4_understandRest 46 = .ok (.iconst 2, 1) := by decide +kernel
theorem dX4_understandRest_47 : decode cX4_understandRest 47 = .ok (.invokevirtual 66, 3) := by decide +kernel
theorem dX4_understandRest_50 : decode cX4_understandRest 50 = .ok (.putfield 42, 3) := by decide +kernel
theorem dX4_understandRest_53 : decode cX4_understandRest 53 = .ok (.aload_n 0, 1) := by decide +kernel
theorem dX4_understandRest_54 : decode cX4_understandRest 54 = .ok (.aload_n 0, 1) := by decide +kernel
theorem dX4_understandRest_55 : decode cX4_understandRest 55 = .ok (.invokevirtual 73, 3) := by decide +kernel
theorem dX4_understandRest_58 : decode cX4_understandRest 58 = .ok (.putfield 45, 3) := by decide +kernel
theorem dX4_understandRest_61 : decode cX4_understandRest 61 = .ok (.goto 42, 3) := by decide +kernel
theorem dX4_understandRest_64 : decode cX4_understandRest 64 = .ok (.aload_n 0, 1) := by decide +kernel
theorem dX4_understandRest_65 : decode cX4_understandRest 65 = .ok (.getfield 36, 3) := by decide +kernel
theorem dX4_understandRest_68 : decode cX4_understandRest 68 = .ok (.iconst 2, 1) := by decide +kernel
theorem dX4_understandRest_69 : decode cX4_understandRest 69 = .ok (.if_icmp .ne 18, 3) := by decide +kernel
theorem dX4_understandRest_72 : decode cX4_understandRest 72 = .ok (.aload_n 0, 1) := by decide +kernel
theorem dX4_understandRest_73 : decode cX4_understandRest 73 = .ok (.aload_n 0, 1) := by decide +kernel
theorem dX4_understandRest_74 : decode cX4_understandRest 74 = .ok (.iconst 2, 1) := by decide +kernel
theorem dX4_understandRest_75 : decode cX4_understandRest 75 = .ok (.iconst 1, 1) := by decide +kernel
theorem dX4_understandRest_76 : decode cX4_understandRest 76 = .ok (.bipush 50, 2) := by decide +kernel
theorem dX4_understandRest_78 : decode cX4_understandRest 78 = .ok (.invokevirtual 66, 3) := by decide +kernel
theorem dX4_understandRest_81 : decode cX4_understandRest 81 = .ok (.putfield 42, 3) := by decide +kernel
theorem dX4_understandRest_84 : decode cX4_understandRest 84 = .ok (.goto 19, 3) := by decide +kernel
theorem dX4_understandRest_87 : decode cX4_understandRest 87 = .ok (.aload_n 0, 1) := by decide +kernel
theorem dX4_understandRest_88 : decode cX4_understandRest 88 = .ok (.getfield 36, 3) := by decide +kernel
theorem dX4_understandRest_91 : decode cX4_understandRest 91 = .ok (.iconst 4, 1) := by decide +kernel
theorem dX4_understandRest_92 : decode cX4_understandRest 92 = .ok (.if_icmp .ne 11, 3) := by decide +kernel
theorem dX4_understandRest_95 : decode cX4_understandRest 95 = .ok (.aload_n 0, 1) := by decide +kernel
theorem dX4_understandRest_96 : decode cX4_understandRest 96 = .ok (.aload_n 0, 1) := by decide +kernel
theorem dX4_understandRest_97 : decode cX4_understandRest 97 = .ok (.invokevirtual 73, 3) := by decide +kernel
theorem dX4_understandRest_100 : decode cX4_understandRest 100 = .ok (.putfield 42, 3) := by decide +kernel
theorem dX4_understandRest_103 : decode cX4_understandRest 103 = .ok (.return_, 1) := by decide +kernel
def P_X_understandRest (v0 : XT) (Q : XT → Prop) : Prop := ((¬ (X_action v0) = 0 → ((¬ (X_action v0) = 1 → ((¬ (X_action v0) = 2 → ((¬ (X_action v0) = 4 → Q v0) ∧ ((X_action v0) = 4 → P_X_plusOrMinus v0 (fun r5_ v9_ => (∀ v18_, v18_ = (X_set_b v9_ r5_) → (Q v18_)))))) ∧ ((X_action v0) = 2 → P_X_digits 2 1 50 v0 (fun r21_ v25_ => (∀ v34_, v34_ = (X_set_b v25_ r21_) → (Q v34_)))))) ∧ ((X_action v0) = 1 → P_X_digits 1 0 2 v0 (fun r37_ v41_ => (∀ v50_, v50_ = (X_set_b v41_ r37_) → (P_X_plusOrMinus v50_ (fun r53_ v57_ => (∀ v66_, v66_ = (X_set_c v57_ r53_) → (Q v66_))))))))) ∧ ((X_action v0) = 0 → P_X_digits 2 0 99 v0 (fun r69_ v73_ => (∀ v82_, v82_ = (X_set_b v73_ r69_) → (P_X_digits 2 1 40 v82_ (fun r85_ v89_ => (∀ v98_, v98_ = (X_set_c v89_ r85_) → (Q v98_))))))))
set_option maxRecDepth 100000 in
theorem s_X_understandRest {l : Launch} {D : zD} {B : Nat} {sa : Nat → Nat} (hfl : l.stackTraces = false) {z : Nat} {G : zG} {b0 : Nat} {v0 : XT} {Q : XT → Prop} (h0 : XA b0 v0 G) (h : P_X_understandRest v0 Q) : zSp l D B sa yX4_understandRest cX4_understandRest 1 none 2 48 0 0 [.ref b0] z G (zRv fun z' G' => z = z' ∧ ∃ w, XA b0 w G' ∧ Fr b0 2 G G' ∧ Q w) := by
  unfold P_X_understandRest at h
  refine z_ofW (by decide +kernel) hfl [some (.ref b0)] rfl (Nat.le_of_ble_eq_true rfl) (fun p e s m args below meth c O hret hlk hnm => ?_)
  have O : zO p l s m args c D B sa 1 cX4_understandRest RX4 := O
  refine z_aload_n O dX4_understandRest_0 rfl rfl ?_
  refine z_get (v := .int (X_action v0)) O wf_RX4_36 dX4_understandRest_1 (X_obj h0) rfl ?_
  refine z_if_ne (tgt := 34) O dX4_understandRest_4 (by decide) (fun c1_ => ?_) (fun c1_ => ?_)
  · have h := h.1 c1_
    refine z_aload_n O dX4_understandRest_34 rfl rfl ?_
    refine z_get (v := .int (X_action v0)) O wf_RX4_36 dX4_understandRest_35 (X_obj h0) rfl ?_
    refine z_iconst (v := 1) O dX4_understandRest_38 (by decide) ?_
    refine z_icmp_ne (tgt := 64) O dX4_understandRest_39 (by decide) (fun c2_ => ?_) (fun c2_ => ?_)
    · have h := h.1 c2_
      refine z_aload_n O dX4_understandRest_64 rfl rfl ?_
      refine z_get (v := .int (X_action v0)) O wf_RX4_36 dX4_understandRest_65 (X_obj h0) rfl ?_
      refine z_iconst (v := 2) O dX4_understandRest_68 (by decide) ?_
      refine z_icmp_ne (tgt := 87) O dX4_understandRest_69 (by decide) (fun c3_ => ?_) (fun c3_ => ?_)
      · have h := h.1 c3_
        refine z_aload_n O dX4_understandRest_87 rfl rfl ?_
        refine z_get (v := .int (X_action v0)) O wf_RX4_36 dX4_understandRest_88 (X_obj h0) rfl ?_
        refine z_iconst (v := 4) O dX4_understandRest_91 (by decide) ?_
        refine z_icmp_ne (tgt := 103) O dX4_understandRest_92 (by decide) (fun c4_ => ?_) (fun c4_ => ?_)
        · have h := h.1 c4_
          exact z_vret O hret hlk dX4_understandRest_103 (Nat.le_of_ble_eq_true rfl) (Nat.le_of_ble_eq_true rfl) ⟨rfl, rfl, _, h0, Fr.rf, h⟩
        · have h := h.2 c4_
          refine z_aload_n O dX4_understandRest_95 rfl rfl ?_
          refine z_aload_n O dX4_understandRest_96 rfl rfl ?_
          refine z_callVi (As := []) (st := [.ref b0]) O (s_X_plusOrMinus hfl h0 h) wy_X4_plusOrMinus wl_RX4_73 dX4_understandRest_97 rfl rfl (X_obj h0) ⟨by decide, rfl⟩ ⟨Nat.le_of_ble_eq_true rfl, Nat.le_of_ble_eq_true rfl⟩ (Nat.le_of_ble_eq_true rfl) ⟨Nat.le_of_ble_eq_true rfl, Nat.le_of_ble_eq_true rfl⟩ (fun r5_ z6_ G7_ hq8_ => ?_)
          obtain ⟨rfl, v9_, k10_, f11_, h⟩ := hq8_
          have F12_ : Fr b0 2 G G7_ := Fr.trans Fr.rf f11_
          refine y_put O wp_RX4_42 dX4_understandRest_100 (X_obj k10_) rfl rfl (fun G13_ hw14_ => ?_)
          have k15_ := X_w_b k10_ hw14_
          have f16_ := hw14_.fr
          have f17_ : Fr b0 2 G7_ G13_ := Fr.mono f16_ (by omega) (by omega)
          obtain ⟨v18_, ev18_⟩ : ∃ w, w = (X_set_b v9_ r5_) := ⟨_, rfl⟩
          have h := h v18_ ev18_
          have k19_ : XA b0 v18_ G13_ := by rw [ev18_]; exact k15_
          have F20_ : Fr b0 2 G G13_ := Fr.trans F12_ f17_
          exact z_vret O hret hlk dX4_understandRest_103 (Nat.le_of_ble_eq_true rfl) (Nat.le_of_ble_eq_true rfl) ⟨rfl, rfl, _, k19_, F20_, h⟩
      · have h := h.2 c3_
        refine z_aload_n O dX4_understandRest_72 rfl rfl ?_
        refine z_aload_n O dX4_understandRest_73 rfl rfl ?_
        refine z_iconst (v := 2) O dX4_understandRest_74 (by decide) ?_
        refine z_iconst (v := 1) O dX4_understandRest_75 (by decide) ?_
        refine z_bipush (v := 50) O dX4_understandRest_76 (by decide) ?_
        refine z_callVi (As := [.int 2, .int 1, .int 50]) (st := [.ref b0]) O (s_X_digits hfl h0 h) wy_X4_digits wl_RX4_66 dX4_understandRest_78 rfl rfl (X_obj h0) ⟨by decide, rfl⟩ ⟨Nat.le_of_ble_eq_true rfl, Nat.le_of_ble_eq_true rfl⟩ (Nat.le_of_ble_eq_true rfl) ⟨Nat.le_of_ble_eq_true rfl, Nat.le_of_ble_eq_true rfl⟩ (fun r21_ z22_ G23_ hq24_ => ?_)
        obtain ⟨rfl, v25_, k26_, f27_, h⟩ := hq24_
        have F28_ : Fr b0 2 G G23_ := Fr.trans Fr.rf f27_
        refine y_put O wp_RX4_42 dX4_understandRest_81 (X_obj k26_) rfl rfl (fun G29_ hw30_ => ?_)
        have k31_ := X_w_b k26_ hw30_
        have f32_ := hw30_.fr
        have f33_ : Fr b0 2 G23_ G29_ := Fr.mono f32_ (by omega) (by omega)
        obtain ⟨v34_, ev34_⟩ : ∃ w, w = (X_set_b v25_ r21_) := ⟨_, rfl⟩
        have h := h v34_ ev34_
        have k35_ : XA b0 v34_ G29_ := by rw [ev34_]; exact k31_
        have F36_ : Fr b0 2 G G29_ := Fr.trans F28_ f33_
        refine z_goto (tgt := 103) O dX4_understandRest_84 (by decide) ?_
        exact z_vret O hret hlk dX4_understandRest_103 (Nat.le_of_ble_eq_true rfl) (Nat.le_of_ble_eq_true rfl) ⟨rfl, rfl, _, k35_, F36_, h⟩
    · have h := h.2 c2_
      refine z_aload_n O dX4_understandRest_42 rfl rfl ?_
      refine z_aload_n O dX4_understandRest_43 rfl rfl ?_
      refine z_iconst (v := 1) O dX4_understandRest_44 (by decide) ?_
      refine z_iconst (v := 0) O dX4_understandRest_45 (by decide) ?_
      refine z_iconst (v := 2) O dX4_understandRest_46 (by decide) ?_
      refine z_callVi (As := [.int 1, .int 0, .int 2]) (st := [.ref b0]) O (s_X_digits hfl h0 h) wy_X4_digits wl_RX4_66 dX4_understandRest_47 rfl rfl (X_obj h0) ⟨by decide, rfl⟩ ⟨Nat.le_of_ble_eq_true rfl, Nat.le_of_ble_eq_true rfl⟩ (Nat.le_of_ble_eq_true rfl) ⟨Nat.le_of_ble_eq_true rfl, Nat.le_of_ble_eq_true rfl⟩ (fun r37_ z38_ G39_ hq40_ => ?_)
      obtain ⟨rfl, v41_, k42_, f43_, h⟩ := hq40_
      have F44_ : Fr b0 2 G G39_ := Fr.trans Fr.rf f43_
      refine y_put O wp_RX4_42 dX4_understandRest_50 (X_obj k42_) rfl rfl (fun G45_ hw46_ => ?_)
      have k47_ := X_w_b k42_ hw46_
      have f48_ := hw46_.fr
      have f49_ : Fr b0 2 G39_ G45_ := Fr.mono f48_ (by omega) (by omega)
      obtain ⟨v50_, ev50_⟩ : ∃ w, w = (X_set_b v41_ r37_) := ⟨_, rfl⟩
      have h := h v50_ ev50_
      have k51_ : XA b0 v50_ G45_ := by rw [ev50_]; exact k47_
      have F52_ : Fr b0 2 G G45_ := Fr.trans F44_ f49_
      refine z_aload_n O dX4_understandRest_53 rfl rfl ?_
      refine z_aload_n O dX4_understandRest_54 rfl rfl ?_
      refine z_callVi (As := []) (st := [.ref b0]) O (s_X_plusOrMinus hfl k51_ h) wy_X4_plusOrMinus wl_RX4_73 dX4_understandRest_55 rfl rfl (X_obj k51_) ⟨by decide, rfl⟩ ⟨Nat.le_of_ble_eq_true rfl, Nat.le_of_ble_eq_true rfl⟩ (Nat.le_of_ble_eq_true rfl) ⟨Nat.le_of_ble_eq_true rfl, Nat.le_of_ble_eq_true rfl⟩ (fun r53_ z54_ G55_ hq56_ => ?_)
      obtain ⟨rfl, v57_, k58_, f59_, h⟩ := hq56_
      have F60_ : Fr b0 2 G G55_ := Fr.trans F52_ f59_
      refine y_put O wp_RX4_45 dX4_understandRest_58 (X_obj k58_) rfl rfl (fun G61_ hw62_ => ?_)
      have k63_ := X_w_c k58_ hw62_
      have f64_ := hw62_.fr
      have f65_ : Fr b0 2 G55_ G61_ := Fr.mono f64_ (by omega) (by omega)
      obtain ⟨v66_, ev66_⟩ : ∃ w, w = (X_set_c v57_ r53_) := ⟨_, rfl⟩
      have h := h v66_ ev66_
      have k67_ : XA b0 v66_ G61_ := by rw [ev66_]; exact k63_
      have F68_ : Fr b0 2 G G61_ := Fr.trans F60_ f65_
      refine z_goto (tgt := 103) O dX4_understandRest_61 (by decide) ?_
      exact z_vret O hret hlk dX4_understandRest_103 (Nat.le_of_ble_eq_true rfl) (Nat.le_of_ble_eq_true rfl) ⟨rfl, rfl, _, k67_, F68_, h⟩
  · have h := h.2 c1_
    refine z_aload_n O dX4_understandRest_7 rfl rfl ?_
    refine z_aload_n O dX4_understandRest_8 rfl rfl ?_
    refine z_iconst (v := 2) O dX4_understandRest_9 (by decide) ?_
    refine z_iconst (v := 0) O dX4_understandRest_10 (by decide) ?_
    refine z_bipush (v := 99) O dX4_understandRest_11 (by decide) ?_
    refine z_callVi (As := [.int 2, .int 0, .int 99]) (st := [.ref b0]) O (s_X_digits hfl h0 h) wy_X4_digits wl_RX4_66 dX4_understandRest_13 rfl rfl (X_obj h0) ⟨by decide, rfl⟩ ⟨Nat.le_of_ble_eq_true rfl, Nat.le_of_ble_eq_true rfl⟩ (Nat.le_of_ble_eq_true rfl) ⟨Nat.le_of_ble_eq_true rfl, Nat.le_of_ble_eq_true rfl⟩ (fun r69_ z70_ G71_ hq72_ => ?_)
    obtain ⟨rfl, v73_, k74_, f75_, h⟩ := hq72_
    have F76_ : Fr b0 2 G G71_ := Fr.trans Fr.rf f75_
    refine y_put O wp_RX4_42 dX4_understandRest_16 (X_obj k74_) rfl rfl (fun G77_ hw78_ => ?_)
    have k79_ := X_w_b k74_ hw78_
    have f80_ := hw78_.fr
    have f81_ : Fr b0 2 G71_ G77_ := Fr.mono f80_ (by omega) (by omega)
    obtain ⟨v82_, ev82_⟩ : ∃ w, w = (X_set_b v73_ r69_) := ⟨_, rfl⟩
    have h := h v82_ ev82_
    have k83_ : XA b0 v82_ G77_ := by rw [ev82_]; exact k79_
    have F84_ : Fr b0 2 G G77_ := Fr.trans F76_ f81_
    refine z_aload_n O dX4_understandRest_19 rfl rfl ?_
    refine z_aload_n O dX4_understandRest_20 rfl rfl ?_
    refine z_iconst (v := 2) O dX4_understandRest_21 (by decide) ?_
    refine z_iconst (v := 1) O dX4_understandRest_22 (by decide) ?_
    refine z_bipush (v := 40) O dX4_understandRest_23 (by decide) ?_
    refine z_callVi (As := [.int 2, .int 1, .int 40]) (st := [.ref b0]) O (s_X_digits hfl k83_ h) wy_X4_digits wl_RX4_66 dX4_understandRest_25 rfl rfl (X_obj k83_) ⟨by decide, rfl⟩ ⟨Nat.le_of_ble_eq_true rfl, Nat.le_of_ble_eq_true rfl⟩ (Nat.le_of_ble_eq_true rfl) ⟨Nat.le_of_ble_eq_true rfl, Nat.le_of_ble_eq_true rfl⟩ (fun r85_ z86_ G87_ hq88_ => ?_)
    obtain ⟨rfl, v89_, k90_, f91_, h⟩ := hq88_
    have F92_ : Fr b0 2 G G87_ := Fr.trans F84_ f91_
    refine y_put O wp_RX4_45 dX4_understandRest_28 (X_obj k90_) rfl rfl (fun G93_ hw94_ => ?_)
    have k95_ := X_w_c k90_ hw94_
    have f96_ := hw94_.fr
    have f97_ : Fr b0 2 G87_ G93_ := Fr.mono f96_ (by omega) (by omega)
    obtain ⟨v98_, ev98_⟩ : ∃ w, w = (X_set_c v89_ r85_) := ⟨_, rfl⟩
    have h := h v98_ ev98_
    have k99_ : XA b0 v98_ G93_ := by rw [ev98_]; exact k95_
    have F100_ : Fr b0 2 G G93_ := Fr.trans F92_ f97_
    refine z_goto (tgt := 103) O dX4_understandRest_31 (by decide) ?_
    exact z_vret O hret hlk dX4_understandRest_103 (Nat.le_of_ble_eq_true rfl) (Nat.le_of_ble_eq_true rfl) ⟨rfl, rfl, _, k99_, F100_, h⟩

theorem dX4_understand_0 : decode cX4_understand 0 = .ok (.aload_n 0, 1) := by decide +kernel
theorem dX4_understand_1 : decode cX4_understand 1 = .ok (.aload_n 0, 1) := by decide +kernel
theorem dX4_understand_2 : decode cX4_understand 2 = .ok (.aload_n 0, 1) := by decide +kernel
theorem dX4_understand_3 : decode cX4_understand 3 = .ok (.invokevirtual 58, 3) := by decide +kernel
theorem dX4_understand_6 : decode cX4_understand 6 = .ok (.invokevirtual 62, 3) := by decide +kernel
theorem dX4_understand_9 : decode cX4_understand 9 = .ok (.putfield 36, 3) := by decide +kernel
theorem dX4_understand_12 : decode cX4_understand 12 = .ok (.aload_n 0, 1) := by decide +kernel
theorem dX4_understand_13 : decode cX4_understand 13 = .ok (.getfield 36, 3) := by decide +kernel
theorem dX4_understand_16 : decode cX4_understand 16 = .ok (.iconst (-1), 1) := by decide +kernel
theorem dX4_understand_17 : decode cX4_understand 17 = .ok (.if_icmp .ne 9, 3) := by decide +kernel
theorem dX4_understand_20 : decode cX4_understand 20 = .ok (.aload_n 0, 1) := by decide +kernel
theorem dX4_understand_21 : decode cX4_understand 21 = .ok (.iconst 1, 1) := by decide +kernel
theorem dX4_understand_22 : decode cX4_understand 22 = .ok (.putfield 29, 3) := by decide +kernel
theorem dX4_understand_25 : decode cX4_understand 25 = .ok (.return_, 1) := by decide +kernel
theorem dX4_understand_26 : decode cX4_understand 26 = .ok (.aload_n 0, 1) := by decide +kernel
theorem dX4_understand_27 : decode cX4_understand 27 = .ok (.dup, 1) := by decide +kernel
theorem dX4_understand_28 : decode cX4_understand 28 = .ok (.getfield 33, 3) := by decide +kernel
theorem dX4_understand_31 : decode cX4_understand 31 = .ok (.iconst 1, 1) := by decide +kernel
theorem dX4_understand_32 : decode cX4_understand 32 = .ok (.iadd, 1) := by decide +kernel
theorem dX4_understand_33 : decode cX4_understand 33 = .ok (.putfield 33, 3) := by decide +kernel
theorem dX4_understand_36 : decode cX4_understand 36 = .ok (.aload_n 0, 1) := by decide +kernel
theorem dX4_understand_37 : decode cX4_understand 37 = .ok (.iconst 0, 1) := by decide +kernel
theorem dX4_understand_38 : decode cX4_understand 38 = .ok (.putfield 42, 3) := by decide +kernel
theorem dX4_understand_41 : decode cX4_understand 41 = .ok (.aload_n 0, 1) := by decide +kernel
theorem dX4_understand_42 : decode cX4_understand 42 = .ok (.iconst 0, 1) := by decide +kernel
theorem dX4_understand_43 : decode cX4_understand 43 = .ok (.putfield 45, 3) := by decide +kernel
theorem dX4_understand_46 : decode cX4_understand 46 = .ok (.aload_n 0, 1) := by decide +kernel
theorem dX4_understand_47 : decode cX4_understand 47 = .ok (.getfield 36, 3) := by decide +kernel
theorem dX4_understand_50 : decode cX4_understand 50 = .ok (.bipush 6, 2) := by decide +kernel
theorem dX4_understand_52 : decode cX4_understand 52 = .ok (.if_icmp .ne 18, 3) := by decide +kernel
theorem dX4_understand_55 : decode cX4_understand 55 = .ok (.aload_n 0, 1) := by decide +kernel
theorem dX4_understand_56 : decode cX4_understand 56 = .ok (.aload_n 0, 1) := by decide +kernel
theorem dX4_understand_57 : decode cX4_understand 57 = .ok (.iconst 2, 1) := by decide +kernel
theorem dX4_understand_58 : decode cX4_understand 58 = .ok (.iconst 1, 1) := by decide +kernel
theorem dX4_understand_59 : decode cX4_understand 59 = .ok (.bipush 99, 2) := by decide +kernel
theorem dX4_understand_61 : decode cX4_understand 61 = .ok (.invokevirtual 66, 3) := by decide +kernel
theorem dX4_understand_64 : decode cX4_understand 64 = .ok (.putfield 39, 3) := by decide +kernel
theorem dX4_understand_67 : decode cX4_understand 67 = .ok (.goto 54, 3) := by decide +kernel
theorem dX4_understand_70 : decode cX4_understand 70 = .ok (.aload_n 0, 1) := by decide +kernel
theorem dX4_understand_71 : decode cX4_understand 71 = .ok (.getfield 36, 3) := by decide +kernel
theorem dX4_understand_74 : decode cX4_understand 74 = .ok (.iconst 5, 1) := by decide +kernel
theorem dX4_understand_75 : decode cX4_understand 75 = .ok (.if_icmp .ne 30, 3) := by decide +kernel
theorem dX4_understand_78 : decode cX4_understand 78 = .ok (.aload_n 0, 1) := by decide +kernel
theorem dX4_understand_79 : decode cX4_understand 79 = .ok (.aload_n 0, 1) := by decide +kernel
theorem dX4_understand_80 : decode cX4_understand 80 = .ok (.iconst 1, 1) := by decide +kernel
theorem dX4_understand_81 : decode cX4_understand 81 = .ok (.iconst 0, 1) := by decide +kernel
theorem dX4_understand_82 : decode cX4_understand 82 = .ok (.iconst 5, 1) := by decide +kernel
theorem dX4_understand_83 : decode cX4_understand 83 = .ok (.invokevirtual 66, 3) := by decide +kernel
theorem dX4_understand_86 : decode cX4_understand 86 = .ok (.putfield 39, 3) := by decide +kernel
theorem dX4_understand_89 : decode cX4_understand 89 = .ok (.aload_n 0, 1) := by decide +kernel
theorem dX4_understand_90 : decode cX4_understand 90 = .ok (.aload_n 0, 1) := by decide +kernel
theorem dX4_understand_91 : decode cX4_understand 91 = .ok (.iconst 4, 1) := by decide +kernel
theorem dX4_understand_92 : decode cX4_understand 92 = .ok (.iconst 0, 1) := by decide +kernel
theorem dX4_understand_93 : decode cX4_understand 93 = .ok (.sipush 4000, 3) := by decide +kernel
theorem dX4_understand_96 : decode cX4_understand 96 = .ok (.invokevirtual 66, 3) := by decide +kernel
theorem dX4_understand_99 : decode cX4_understand 99 = .ok (.putfield 42, 3) := by decide +kernel
theorem dX4_understand_102 : decode cX4_understand 102 = .ok (.goto 19, 3) := by decide +kernel
theorem dX4_understand_105 : decode cX4_understand 105 = .ok (.aload_n 0, 1) := by decide +kernel
theorem dX4_understand_106 : decode cX4_understand 106 = .ok (.aload_n 0, 1) := by decide +kernel
theorem dX4_understand_107 : decode cX4_understand 107 = .ok (.iconst 1, 1) := by decide +kernel
theorem dX4_understand_108 : decode cX4_understand 108 = .ok (.iconst 0, 1) := by decide +kernel
theorem dX4_understand_109 : decode cX4_understand 109 = .ok (.bipush 7, 2) := by decide +kernel
theorem dX4_understand_111 : decode cX4_understand 111 = .ok (.invokevirtual 66, 3) := by decide +kernel
theorem dX4_understand_114 : decode cX4_understand 114 = .ok (.putfield 39, 3) := by decide +kernel
theorem dX4_understand_117 : decode cX4_understand 117 = .ok (.aload_n 0, 1) := by decide +kernel
theorem dX4_understand_118 : decode cX4_understand 118 = .ok (.invokevirtual 70, 3) := by decide +kernel
theorem dX4_understand_121 : decode cX4_understand 121 = .ok (.return_, 1) := by decide +kernel
def P_X_understand (v0 : XT) (Q : XT → Prop) : Prop := P_X_sign v0 (fun r1_ => (P_X_actionOf r1_ v0 (fun r5_ => (∀ v14_, v14_ = (X_set_action v0 r5_) → (((¬ (X_action v14_) = (-1) → ∀ v23_, v23_ = (X_set_position v14_ ((X_position v14_) + 1)) → (∀ v31_, v31_ = (X_set_b v23_ 0) → (∀ v39_, v39_ = (X_set_c v31_ 0) → (((¬ (X_action v39_) = 6 → ((¬ (X_action v39_) = 5 → P_X_digits 1 0 7 v39_ (fun r44_ v48_ => (∀ v57_, v57_ = (X_set_a v48_ r44_) → (P_X_understandRest v57_ (fun v64_ => (Q v64_)))))) ∧ ((X_action v39_) = 5 → P_X_digits 1 0 5 v39_ (fun r68_ v72_ => (∀ v81_, v81_ = (X_set_a v72_ r68_) → (P_X_digits 4 0 4000 v81_ (fun r84_ v88_ => (∀ v97_, v97_ = (X_set_b v88_ r84_) → (Q v97_))))))))) ∧ ((X_action v39_) = 6 → P_X_digits 2 1 99 v39_ (fun r100_ v104_ => (∀ v113_, v113_ = (X_set_a v104_ r100_) → (Q v113_))))))))) ∧ ((X_action v14_) = (-1) → ∀ v121_, v121_ = (X_set_wrong v14_ 1) → (Q v121_))))))))
set_option maxRecDepth 100000 in
theorem s_X_understand {l : Launch} {D : zD} {B : Nat} {sa : Nat → Nat} (hfl : l.stackTraces = false) {z : Nat} {G : zG} {b0 : Nat} {v0 : XT} {Q : XT → Prop} (h0 : XA b0 v0 G) (h : P_X_understand v0 Q) : zSp l D B sa yX4_understand cX4_understand 1 none 3 68 0 0 [.ref b0] z G (zRv fun z' G' => z = z' ∧ ∃ w, XA b0 w G' ∧ Fr b0 2 G G' ∧ Q w) := by
  unfold P_X_understand at h
  refine z_ofW (by decide +kernel) hfl [some (.ref b0)] rfl (Nat.le_of_ble_eq_true rfl) (fun p e s m args below meth c O hret hlk hnm => ?_)
  have O : zO p l s m args c D B sa 1 cX4_understand RX4 := O
  refine z_aload_n O dX4_understand_0 rfl rfl ?_
  refine z_aload_n O dX4_understand_1 rfl rfl ?_
  refine z_aload_n O dX4_understand_2 rfl rfl ?_
  refine z_callVi (As := []) (st := [.ref b0, .ref b0]) O (s_X_sign hfl h0 h) wy_X4_sign wl_RX4_58 dX4_understand_3 rfl rfl (X_obj h0) ⟨by decide, rfl⟩ ⟨Nat.le_of_ble_eq_true rfl, Nat.le_of_ble_eq_true rfl⟩ (Nat.le_of_ble_eq_true rfl) ⟨Nat.le_of_ble_eq_true rfl, Nat.le_of_ble_eq_true rfl⟩ (fun r1_ z2_ G3_ hq4_ => ?_)
  obtain ⟨rfl, rfl, h⟩ := hq4_
  refine z_callVi (As := [.int r1_]) (st := [.ref b0]) O (s_X_actionOf hfl h0 h) wy_X4_actionOf wl_RX4_62 dX4_understand_6 rfl rfl (X_obj h0) ⟨by decide, rfl⟩ ⟨Nat.le_of_ble_eq_true rfl, Nat.le_of_ble_eq_true rfl⟩ (Nat.le_of_ble_eq_true rfl) ⟨Nat.le_of_ble_eq_true rfl, Nat.le_of_ble_eq_true rfl⟩ (fun r5_ z6_ G7_ hq8_ => ?_)
  obtain ⟨rfl, rfl, h⟩ := hq8_
  refine y_put O wp_RX4_36 dX4_understand_9 (X_obj h0) rfl rfl (fun G9_ hw10_ => ?_)
  have k11_ := X_w_action h0 hw10_
  have f12_ := hw10_.fr
  have f13_ : Fr b0 2 G G9_ := Fr.mono f12_ (by omega) (by omega)
  obtain ⟨v14_, ev14_⟩ : ∃ w, w = (X_set_action v0 r5_) := ⟨_, rfl⟩
  have h := h v14_ ev14_
  have k15_ : XA b0 v14_ G9_ := by rw [ev14_]; exact k11_
  have F16_ : Fr b0 2 G G9_ := Fr.trans Fr.rf f13_
  refine z_aload_n O dX4_understand_12 rfl rfl ?_
  refine z_get (v := .int (X_action v14_)) O wf_RX4_36 dX4_understand_13 (X_obj k15_) rfl ?_
  refine z_iconst (v := (-1)) O dX4_understand_16 (by decide) ?_
  refine z_icmp_ne (tgt := 26) O dX4_understand_17 (by decide) (fun c17_ => ?_) (fun c17_ => ?_)
  · have h := h.1 c17_
    refine z_aload_n O dX4_understand_26 rfl rfl ?_
    refine z_dup O dX4_understand_27 rfl ?_
    refine z_get (v := .int (X_position v14_)) O wf_RX4_33 dX4_understand_28 (X_obj k15_) rfl ?_
    refine z_iconst (v := 1) O dX4_understand_31 (by decide) ?_
    refine z_iadd O dX4_understand_32 ?_
    refine y_put O wp_RX4_33 dX4_understand_33 (X_obj k15_) rfl rfl (fun G18_ hw19_ => ?_)
    have k20_ := X_w_position k15_ hw19_
    have f21_ := hw19_.fr
    have f22_ : Fr b0 2 G9_ G18_ := Fr.mono f21_ (by omega) (by omega)
    obtain ⟨v23_, ev23_⟩ : ∃ w, w = (X_set_position v14_ ((X_position v14_) + 1)) := ⟨_, rfl⟩
    have h := h v23_ ev23_
    have k24_ : XA b0 v23_ G18_ := by rw [ev23_]; exact k20_
    have F25_ : Fr b0 2 G G18_ := Fr.trans F16_ f22_
    refine z_aload_n O dX4_understand_36 rfl rfl ?_
    refine z_iconst (v := 0) O dX4_understand_37 (by decide) ?_
    refine y_put O wp_RX4_42 dX4_understand_38 (X_obj k24_) rfl rfl (fun G26_ hw27_ => ?_)
    have k28_ := X_w_b k24_ hw27_
    have f29_ := hw27_.fr
    have f30_ : Fr b0 2 G18_ G26_ := Fr.mono f29_ (by omega) (by omega)
    obtain ⟨v31_, ev31_⟩ : ∃ w, w = (X_set_b v23_ 0) := ⟨_, rfl⟩
    have h := h v31_ ev31_
    have k32_ : XA b0 v31_ G26_ := by rw [ev31_]; exact k28_
    have F33_ : Fr b0 2 G G26_ := Fr.trans F25_ f30_
    refine z_aload_n O dX4_understand_41 rfl rfl ?_
    refine z_iconst (v := 0) O dX4_understand_42 (by decide) ?_
    refine y_put O wp_RX4_45 dX4_understand_43 (X_obj k32_) rfl rfl (fun G34_ hw35_ => ?_)
    have k36_ := X_w_c k32_ hw35_
    have f37_ := hw35_.fr
    have f38_ : Fr b0 2 G26_ G34_ := Fr.mono f37_ (by omega) (by omega)
    obtain ⟨v39_, ev39_⟩ : ∃ w, w = (X_set_c v31_ 0) := ⟨_, rfl⟩
    have h := h v39_ ev39_
    have k40_ : XA b0 v39_ G34_ := by rw [ev39_]; exact k36_
    have F41_ : Fr b0 2 G G34_ := Fr.trans F33_ f38_
    refine z_aload_n O dX4_understand_46 rfl rfl ?_
    refine z_get (v := .int (X_action v39_)) O wf_RX4_36 dX4_understand_47 (X_obj k40_) rfl ?_
    refine z_bipush (v := 6) O dX4_understand_50 (by decide) ?_
    refine z_icmp_ne (tgt := 70) O dX4_understand_52 (by decide) (fun c42_ => ?_) (fun c42_ => ?_)
    · have h := h.1 c42_
      refine z_aload_n O dX4_understand_70 rfl rfl ?_
      refine z_get (v := .int (X_action v39_)) O wf_RX4_36 dX4_understand_71 (X_obj k40_) rfl ?_
      refine z_iconst (v := 5) O dX4_understand_74 (by decide) ?_
      refine z_icmp_ne (tgt := 105) O dX4_understand_75 (by decide) (fun c43_ => ?_) (fun c43_ => ?_)
      · have h := h.1 c43_
        refine z_aload_n O dX4_understand_105 rfl rfl ?_
        refine z_aload_n O dX4_understand_106 rfl rfl ?_
        refine z_iconst (v := 1) O dX4_understand_107 (by decide) ?_
        refine z_iconst (v := 0) O dX4_understand_108 (by decide) ?_
        refine z_bipush (v := 7) O dX4_understand_109 (by decide) ?_
        refine z_callVi (As := [.int 1, .int 0, .int 7]) (st := [.ref b0]) O (s_X_digits hfl k40_ h) wy_X4_digits wl_RX4_66 dX4_understand_111 rfl rfl (X_obj k40_) ⟨by decide, rfl⟩ ⟨Nat.le_of_ble_eq_true rfl, Nat.le_of_ble_eq_true rfl⟩ (Nat.le_of_ble_eq_true rfl) ⟨Nat.le_of_ble_eq_true rfl, Nat.le_of_ble_eq_true rfl⟩ (fun r44_ z45_ G46_ hq47_ => ?_)
        obtain ⟨rfl, v48_, k49_, f50_, h⟩ := hq47_
        have F51_ : Fr b0 2 G G46_ := Fr.trans F41_ f50_
        refine y_put O wp_RX4_39 dX4_understand_114 (X_obj k49_) rfl rfl (fun G52_ hw53_ => ?_)
        have k54_ := X_w_a k49_ hw53_
        have f55_ := hw53_.fr
        have f56_ : Fr b0 2 G46_ G52_ := Fr.mono f55_ (by omega) (by omega)
        obtain ⟨v57_, ev57_⟩ : ∃ w, w = (X_set_a v48_ r44_) := ⟨_, rfl⟩
        have h := h v57_ ev57_
        have k58_ : XA b0 v57_ G52_ := by rw [ev57_]; exact k54_
        have F59_ : Fr b0 2 G G52_ := Fr.trans F51_ f56_
        refine z_aload_n O dX4_understand_117 rfl rfl ?_
        refine z_callVv (As := []) (st := []) O (s_X_understandRest hfl k58_ h) wy_X4_understandRest wl_RX4_70 dX4_understand_118 rfl rfl (X_obj k58_) ⟨by decide, rfl⟩ ⟨Nat.le_of_ble_eq_true rfl, Nat.le_of_ble_eq_true rfl⟩ (Nat.le_of_ble_eq_true rfl) ⟨Nat.le_of_ble_eq_true rfl, Nat.le_of_ble_eq_true rfl⟩ (fun z61_ G62_ hq63_ => ?_)
        obtain ⟨rfl, v64_, k65_, f66_, h⟩ := hq63_
        have F67_ : Fr b0 2 G G62_ := Fr.trans F59_ f66_
        exact z_vret O hret hlk dX4_understand_121 (Nat.le_of_ble_eq_true rfl) (Nat.le_of_ble_eq_true rfl) ⟨rfl, rfl, _, k65_, F67_, h⟩
      · have h := h.2 c43_
        refine z_aload_n O dX4_understand_78 rfl rfl ?_
        refine z_aload_n O dX4_understand_79 rfl rfl ?_
        refine z_iconst (v := 1) O dX4_understand_80 (by decide) ?_
        refine z_iconst (v := 0) O dX4_understand_81 (by decide) ?_
        refine z_iconst (v := 5) O dX4_understand_82 (by decide) ?_
        refine z_callVi (As := [.int 1, .int 0, .int 5]) (st := [.ref b0]) O (s_X_digits hfl k40_ h) wy_X4_digits wl_RX4_66 dX4_understand_83 rfl rfl (X_obj k40_) ⟨by decide, rfl⟩ ⟨Nat.le_of_ble_eq_true rfl, Nat.le_of_ble_eq_true rfl⟩ (Nat.le_of_ble_eq_true rfl) ⟨Nat.le_of_ble_eq_true rfl, Nat.le_of_ble_eq_true rfl⟩ (fun r68_ z69_ G70_ hq71_ => ?_)
        obtain ⟨rfl, v72_, k73_, f74_, h⟩ := hq71_
        have F75_ : Fr b0 2 G G70_ := Fr.trans F41_ f74_
        refine y_put O wp_RX4_39 dX4_understand_86 (X_obj k73_) rfl rfl (fun G76_ hw77_ => ?_)
        have k78_ := X_w_a k73_ hw77_
        have f79_ := hw77_.fr
        have f80_ : Fr b0 2 G70_ G76_ := Fr.mono f79_ (by omega) (by omega)
        obtain ⟨v81_, ev81_⟩ : ∃ w, w = (X_set_a v72_ r68_) := ⟨_, rfl⟩
        have h := h v81_ ev81_
        have k82_ : XA b0 v81_ G76_ := by rw [ev81_]; exact k78_
        have F83_ : Fr b0 2 G G76_ := Fr.trans F75_ f80_
        refine z_aload_n O dX4_understand_89 rfl rfl ?_
        refine z_aload_n O dX4_understand_90 rfl rfl ?_
        refine z_iconst (v := 4) O dX4_understand_91 (by decide) ?_
        refine z_iconst (v := 0) O dX4_understand_92 (by decide) ?_
        refine z_sipush (v := 4000) O dX4_understand_93 (by decide) ?_
        refine z_callVi (As := [.int 4, .int 0, .int 4000]) (st := [.ref b0]) O (s_X_digits hfl k82_ h) wy_X4_digits wl_RX4_66 dX4_understand_96 rfl rfl (X_obj k82_) ⟨by decide, rfl⟩ ⟨Nat.le_of_ble_eq_true rfl, Nat.le_of_ble_eq_true rfl⟩ (Nat.le_of_ble_eq_true rfl) ⟨Nat.le_of_ble_eq_true rfl, Nat.le_of_ble_eq_true rfl⟩ (fun r84_ z85_ G86_ hq87_ => ?_)
        obtain ⟨rfl, v88_, k89_, f90_, h⟩ := hq87_
        have F91_ : Fr b0 2 G G86_ := Fr.trans F83_ f90_
        refine y_put O wp_RX4_42 dX4_understand_99 (X_obj k89_) rfl rfl (fun G92_ hw93_ => ?_)
        have k94_ := X_w_b k89_ hw93_
        have f95_ := hw93_.fr
        have f96_ : Fr b0 2 G86_ G92_ := Fr.mono f95_ (by omega) (by omega)
        obtain ⟨v97_, ev97_⟩ : ∃ w, w = (X_set_b v88_ r84_) := ⟨_, rfl⟩
        have h := h v97_ ev97_
        have k98_ : XA b0 v97_ G92_ := by rw [ev97_]; exact k94_
        have F99_ : Fr b0 2 G G92_ := Fr.trans F91_ f96_
        refine z_goto (tgt := 121) O dX4_understand_102 (by decide) ?_
        exact z_vret O hret hlk dX4_understand_121 (Nat.le_of_ble_eq_true rfl) (Nat.le_of_ble_eq_true rfl) ⟨rfl, rfl, _, k98_, F99_, h⟩
    · have h := h.2 c42_
      refine z_aload_n O dX4_understand_55 rfl rfl ?_
      refine z_aload_n O dX4_understand_56 rfl rfl ?_
      refine z_iconst (v := 2) O dX4_understand_57 (by decide) ?_
      refine z_iconst (v := 1) O dX4_understand_58 (by decide) ?_
      refine z_bipush (v := 99) O dX4_understand_59 (by decide) ?_
      refine z_callVi (As := [.int 2, .int 1, .int 99]) (st := [.ref b0]) O (s_X_digits hfl k40_ h) wy_X4_digits wl_RX4_66 dX4_understand_61 rfl rfl (X_obj k40_) ⟨by decide, rfl⟩ ⟨Nat.le_of_ble_eq_true rfl, Nat.le_of_ble_eq_true rfl⟩ (Nat.le_of_ble_eq_true rfl) ⟨Nat.le_of_ble_eq_true rfl, Nat.le_of_ble_eq_true rfl⟩ (fun r100_ z101_ G102_ hq103_ => ?_)
      obtain ⟨rfl, v104_, k105_, f106_, h⟩ := hq103_
      have F107_ : Fr b0 2 G G102_ := Fr.trans F41_ f106_
      refine y_put O wp_RX4_39 dX4_understand_64 (X_obj k105_) rfl rfl (fun G108_ hw109_ => ?_)
      have k110_ := X_w_a k105_ hw109_
      have f111_ := hw109_.fr
      have f112_ : Fr b0 2 G102_ G108_ := Fr.mono f111_ (by omega) (by omega)
      obtain ⟨v113_, ev113_⟩ : ∃ w, w = (X_set_a v104_ r100_) := ⟨_, rfl⟩
      have h := h v113_ ev113_
      have k114_ : XA b0 v113_ G108_ := by rw [ev113_]; exact k110_
      have F115_ : Fr b0 2 G G108_ := Fr.trans F107_ f112_
      refine z_goto (tgt := 121) O dX4_understand_67 (by decide) ?_
      exact z_vret O hret hlk dX4_understand_121 (Nat.le_of_ble_eq_true rfl) (Nat.le_of_ble_eq_true rfl) ⟨rfl, rfl, _, k114_, F115_, h⟩
  · have h := h.2 c17_
    refine z_aload_n O dX4_understand_20 rfl rfl ?_
    refine z_iconst (v := 1) O dX4_understand_21 (by decide) ?_
    refine y_put O wp_RX4_29 dX4_understand_22 (X_obj k15_) rfl rfl (fun G116_ hw117_ => ?_)
    have k118_ := X_w_wrong k15_ hw117_
    have f119_ := hw117_.fr
    have f120_ : Fr b0 2 G9_ G116_ := Fr.mono f119_ (by omega) (by omega)
    obtain ⟨v121_, ev121_⟩ : ∃ w, w = (X_set_wrong v14_ 1) := ⟨_, rfl⟩
    have h := h v121_ ev121_
    have k122_ : XA b0 v121_ G116_ := by rw [ev121_]; exact k118_
    have F123_ : Fr b0 2 G G116_ := Fr.trans F16_ f120_
    exact z_vret O hret hlk dX4_understand_25 (Nat.le_of_ble_eq_true rfl) (Nat.le_of_ble_eq_true rfl) ⟨rfl, rfl, _, k122_, F123_, h⟩

theorem dX4_findError_0 : decode cX4_findError 0 = .ok (.aload_n 0, 1) := by decide +kernel
theorem dX4_findError_1 : decode cX4_findError 1 = .ok (.invokevirtual 19, 3) := by decide +kernel
theorem dX4_findError_4 : decode cX4_findError 4 = .ok (.iconst 0, 1) := by decide +kernel
theorem dX4_findError_5 : decode cX4_findError 5 = .ok (.istore_n 1, 1) := by decide +kernel
theorem dX4_findError_6 : decode cX4_findError 6 = .ok (.iload_n 1, 1) := by decide +kernel
theorem dX4_findError_7 : decode cX4_findError 7 = .ok (.bipush 120, 2) := by decide +kernel
theorem dX4_findError_9 : decode cX4_findError 9 = .ok (.if_icmp .ge 20, 3) := by decide +kernel
theorem dX4_findError_12 : decode cX4_findError 12 = .ok (.aload_n 0, 1) := by decide +kernel
theorem dX4_findError_13 : decode cX4_findError 13 = .ok (.invokevirtual 22, 3) := by decide +kernel
theorem dX4_findError_16 : decode cX4_findError 16 = .ok (.ifCond .eq 13, 3) := by decide +kernel
theorem dX4_findError_19 : decode cX4_findError 19 = .ok (.aload_n 0, 1) := by decide +kernel
theorem dX4_findError_20 : decode cX4_findError 20 = .ok (.invokevirtual 26, 3) := by decide +kernel
theorem dX4_findError_23 : decode cX4_findError 23 = .ok (.iinc 1 1, 3) := by decide +kernel
theorem dX4_findError_26 : decode cX4_findError 26 = .ok (.goto (-20), 3) := by decide +kernel
theorem dX4_findError_29 : decode cX4_findError 29 = .ok (.aload_n 0, 1) := by decide +kernel
theorem dX4_findError_30 : decode cX4_findError 30 = .ok (.getfield 29, 3) := by decide +kernel
theorem dX4_findError_33 : decode cX4_findError 33 = .ok (.ifCond .eq 10, 3) := by decide +kernel
theorem dX4_findError_36 : decode cX4_findError 36 = .ok (.aload_n 0, 1) := by decide +kernel
theorem dX4_findError_37 : decode cX4_findError 37 = .ok (.getfield 33, 3) := by decide +kernel
theorem dX4_findError_40 : decode cX4_findError 40 = .ok (.goto 4, 3) := by decide +kernel
theorem dX4_findError_43 : decode cX4_findError 43 = .ok (.iconst (-1), 1) := by decide +kernel
theorem dX4_findError_44 : decode cX4_findError 44 = .ok (.ireturn, 1) := by decide +kernel
def PL_X_findError_6 : Nat → Int32 → XT → (Int32 → XT → Prop) → Prop
  | 0, _, _, _ => False
  | n + 1, y1, v0, Q => ((120 ≤ y1 → (((X_wrong v0) = 0 → Q (-1) v0) ∧ (¬ (X_wrong v0) = 0 → Q (X_position v0) v0))) ∧ (¬ 120 ≤ y1 → P_X_hasMore v0 (fun r11_ => (((r11_ = 0 → (((X_wrong v0) = 0 → Q (-1) v0) ∧ (¬ (X_wrong v0) = 0 → Q (X_position v0) v0))) ∧ (¬ r11_ = 0 → P_X_understand v0 (fun v21_ => ((fun y1 v0 => PL_X_findError_6 n  y1 v0  Q) (y1 + 1) v21_))))))))
def P_X_findError (v0 : XT) (Q : Int32 → XT → Prop) : Prop := P_X_begin v0 (fun v5_ => ((∃ n25_, PL_X_findError_6 n25_ 0 v5_ Q)))
set_option maxRecDepth 100000 in
theorem s_X_findError {l : Launch} {D : zD} {B : Nat} {sa : Nat → Nat} (hfl : l.stackTraces = false) {z : Nat} {G : zG} {b0 : Nat} {v0 : XT} {Q : Int32 → XT → Prop} (h0 : XA b0 v0 G) (h : P_X_findError v0 Q) : zSp l D B sa yX4_findError cX4_findError 2 (some .int) 4 88 0 0 [.ref b0] z G (zRi fun r z' G' => z = z' ∧ ∃ w, XA b0 w G' ∧ Fr b0 2 G G' ∧ Q r w) := by
  unfold P_X_findError at h
  refine z_ofW (by decide +kernel) hfl [some (.ref b0), none] rfl (Nat.le_of_ble_eq_true rfl) (fun p e s m args below meth c O hret hlk hnm => ?_)
  have O : zO p l s m args c D B sa 2 cX4_findError RX4 := O
  have HL6 : ∀ (n9 : Nat)    (y1 : Int32) (v0 : XT) (G9 : zG) (g0 : XA b0 v0 G9) (gF : Fr b0 2 G G9) (h : PL_X_findError_6 n9 y1 v0 Q), zT p l e (zrm 4 88 0 0) s m args below meth c (zEnd below D B (zRi fun r z' G' => z = z' ∧ ∃ w, XA b0 w G' ∧ Fr b0 2 G G' ∧ Q r w) args s 0 0) D B 2 0 0 6 [] [some (.ref b0), some (.int y1)] z G9 := by
    intro n9   
    induction n9 with
    | zero =>
      intro _ _ _ _ _ h
      exact (h : False).elim
    | succ n ih =>
      intro y1 v0 G9 g0 gF h
      rw [PL_X_findError_6] at h
      refine z_iload_n O dX4_findError_6 rfl rfl ?_
      refine z_bipush (v := 120) O dX4_findError_7 (by decide) ?_
      refine z_icmp_ge (tgt := 29) O dX4_findError_9 (by decide) (fun c9_ => ?_) (fun c9_ => ?_)
      · have h := h.1 c9_
        refine z_aload_n O dX4_findError_29 rfl rfl ?_
        refine z_get (v := .int (X_wrong v0)) O wf_RX4_29 dX4_findError_30 (X_obj g0) rfl ?_
        refine z_if_eq (tgt := 43) O dX4_findError_33 (by decide) (fun c10_ => ?_) (fun c10_ => ?_)
        · have h := h.1 c10_
          refine z_iconst (v := (-1)) O dX4_findError_43 (by decide) ?_
          exact z_iret O hret hlk dX4_findError_44 (Nat.le_of_ble_eq_true rfl) (Nat.le_of_ble_eq_true rfl) ⟨_, rfl, rfl, _, g0, gF, h⟩
        · have h := h.2 c10_
          refine z_aload_n O dX4_findError_36 rfl rfl ?_
          refine z_get (v := .int (X_position v0)) O wf_RX4_33 dX4_findError_37 (X_obj g0) rfl ?_
          refine z_goto (tgt := 44) O dX4_findError_40 (by decide) ?_
          exact z_iret O hret hlk dX4_findError_44 (Nat.le_of_ble_eq_true rfl) (Nat.le_of_ble_eq_true rfl) ⟨_, rfl, rfl, _, g0, gF, h⟩
      · have h := h.2 c9_
        refine z_aload_n O dX4_findError_12 rfl rfl ?_
        refine z_callVi (As := []) (st := []) O (s_X_hasMore hfl g0 h) wy_X4_hasMore wl_RX4_22 dX4_findError_13 rfl rfl (X_obj g0) ⟨by decide, rfl⟩ ⟨Nat.le_of_ble_eq_true rfl, Nat.le_of_ble_eq_true rfl⟩ (Nat.le_of_ble_eq_true rfl) ⟨Nat.le_of_ble_eq_true rfl, Nat.le_of_ble_eq_true rfl⟩ (fun r11_ z12_ G13_ hq14_ => ?_)
        obtain ⟨rfl, rfl, h⟩ := hq14_
        refine z_if_eq (tgt := 29) O dX4_findError_16 (by decide) (fun c15_ => ?_) (fun c15_ => ?_)
        · have h := h.1 c15_
          refine z_aload_n O dX4_findError_29 rfl rfl ?_
          refine z_get (v := .int (X_wrong v0)) O wf_RX4_29 dX4_findError_30 (X_obj g0) rfl ?_
          refine z_if_eq (tgt := 43) O dX4_findError_33 (by decide) (fun c16_ => ?_) (fun c16_ => ?_)
          · have h := h.1 c16_
            refine z_iconst (v := (-1)) O dX4_findError_43 (by decide) ?_
            exact z_iret O hret hlk dX4_findError_44 (Nat.le_of_ble_eq_true rfl) (Nat.le_of_ble_eq_true rfl) ⟨_, rfl, rfl, _, g0, gF, h⟩
          · have h := h.2 c16_
            refine z_aload_n O dX4_findError_36 rfl rfl ?_
            refine z_get (v := .int (X_position v0)) O wf_RX4_33 dX4_findError_37 (X_obj g0) rfl ?_
            refine z_goto (tgt := 44) O dX4_findError_40 (by decide) ?_
            exact z_iret O hret hlk dX4_findError_44 (Nat.le_of_ble_eq_true rfl) (Nat.le_of_ble_eq_true rfl) ⟨_, rfl, rfl, _, g0, gF, h⟩
        · have h := h.2 c15_
          refine z_aload_n O dX4_findError_19 rfl rfl ?_
          refine z_callVv (As := []) (st := []) O (s_X_understand hfl g0 h) wy_X4_understand wl_RX4_26 dX4_findError_20 rfl rfl (X_obj g0) ⟨by decide, rfl⟩ ⟨Nat.le_of_ble_eq_true rfl, Nat.le_of_ble_eq_true rfl⟩ (Nat.le_of_ble_eq_true rfl) ⟨Nat.le_of_ble_eq_true rfl, Nat.le_of_ble_eq_true rfl⟩ (fun z18_ G19_ hq20_ => ?_)
          obtain ⟨rfl, v21_, k22_, f23_, h⟩ := hq20_
          have F24_ : Fr b0 2 G G19_ := Fr.trans gF f23_
          refine z_iinc (v := (y1 + 1)) (L' := [some (.ref b0), some (.int (y1 + 1))]) O dX4_findError_23 rfl (by first | rfl | decide) (by decide) rfl ?_
          refine z_goto (tgt := 6) O dX4_findError_26 (by decide) ?_
          exact z_subL (L' := [some (.ref b0), some (.int (y1 + 1))]) (zLe.sub (And.intro rfl (And.intro rfl True.intro))) (ih (y1 + 1) v21_ G19_ k22_ F24_ h)
  refine z_aload_n O dX4_findError_0 rfl rfl ?_
  refine z_callVv (As := []) (st := []) O (s_X_begin hfl h0 h) wy_X4_begin wl_RX4_19 dX4_findError_1 rfl rfl (X_obj h0) ⟨by decide, rfl⟩ ⟨Nat.le_of_ble_eq_true rfl, Nat.le_of_ble_eq_true rfl⟩ (Nat.le_of_ble_eq_true rfl) ⟨Nat.le_of_ble_eq_true rfl, Nat.le_of_ble_eq_true rfl⟩ (fun z2_ G3_ hq4_ => ?_)
  obtain ⟨rfl, v5_, k6_, f7_, h⟩ := hq4_
  have F8_ : Fr b0 2 G G3_ := Fr.trans Fr.rf f7_
  refine z_iconst (v := 0) O dX4_findError_4 (by decide) ?_
  refine z_istore_n (L' := [some (.ref b0), some (.int 0)]) O dX4_findError_5 rfl (by decide) rfl ?_
  obtain ⟨n25_, h⟩ := h
  exact z_subL (L' := [some (.ref b0), some (.int 0)]) (zLe.sub (And.intro rfl (And.intro rfl True.intro))) (HL6 n25_ 0 v5_ G3_ k6_ F8_ h)

theorem dX4_runOn_0 : decode cX4_runOn 0 = .ok (.iconst 0, 1) := by decide +kernel
theorem dX4_runOn_1 : decode cX4_runOn 1 = .ok (.istore_n 2, 1) := by decide +kernel
theorem dX4_runOn_2 : decode cX4_runOn 2 = .ok (.aload_n 0, 1) := by decide +kernel
theorem dX4_runOn_3 : decode cX4_runOn 3 = .ok (.invokevirtual 19, 3) := by decide +kernel
theorem dX4_runOn_6 : decode cX4_runOn 6 = .ok (.iconst 0, 1) := by decide +kernel
theorem dX4_runOn_7 : decode cX4_runOn 7 = .ok (.istore_n 3, 1) := by decide +kernel
theorem dX4_runOn_8 : decode cX4_runOn 8 = .ok (.iload_n 3, 1) := by decide +kernel
theorem dX4_runOn_9 : decode cX4_runOn 9 = .ok (.bipush 120, 2) := by decide +kernel
theorem dX4_runOn_11 : decode cX4_runOn 11 = .ok (.if_icmp .ge 61, 3) := by decide +kernel
theorem dX4_runOn_14 : decode cX4_runOn 14 = .ok (.aload_n 0, 1) := by decide +kernel
theorem dX4_runOn_15 : decode cX4_runOn 15 = .ok (.invokevirtual 22, 3) := by decide +kernel
theorem dX4_runOn_18 : decode cX4_runOn 18 = .ok (.ifCond .eq 54, 3) := by decide +kernel
theorem dX4_runOn_21 : decode cX4_runOn 21 = .ok (.aload_n 0, 1) := by decide +kernel
theorem dX4_runOn_22 : decode cX4_runOn 22 = .ok (.invokevirtual 26, 3) := by decide +kernel
theorem dX4_runOn_25 : decode cX4_runOn 25 = .ok (.iload_n 2, 1) := by decide +kernel
theorem dX4_runOn_26 : decode cX4_runOn 26 = .ok (.aload_n 0, 1) := by decide +kernel
theorem dX4_runOn_27 : decode cX4_runOn 27 = .ok (.getfield 29, 3) := by decide +kernel
theorem dX4_runOn_30 : decode cX4_runOn 30 = .ok (.ifCond .ne 30, 3) := by decide +kernel
theorem dX4_runOn_33 : decode cX4_runOn 33 = .ok (.aload_n 1, 1) := by decide +kernel
theorem dX4_runOn_34 : decode cX4_runOn 34 = .ok (.aload_n 0, 1) := by decide +kernel
theorem dX4_runOn_35 : decode cX4_runOn 35 = .ok (.getfield 36, 3) := by decide +kernel
theorem dX4_runOn_38 : decode cX4_runOn 38 = .ok (.aload_n 0, 1) := by decide +kernel
theorem dX4_runOn_39 : decode cX4_runOn 39 = .ok (.getfield 39, 3) := by decide +kernel
theorem dX4_runOn_42 : decode cX4_runOn 42 = .ok (.aload_n 0, 1) := by decide +kernel
theorem dX4_runOn_43 : decode cX4_runOn 43 = .ok (.getfield 42, 3) := by decide +kernel
theorem dX4_runOn_46 : decode cX4_runOn 46 = .ok (.aload_n 0, 1) := by decide +kernel
theorem dX4_runOn_47 : decode cX4_runOn 47 = .ok (.getfield 45, 3) := by decide +kernel
theorem dX4_runOn_50 : decode cX4_runOn 50 = .ok (.invokevirtual 48, 3) := by decide +kernel
theorem dX4_runOn_53 : decode cX4_runOn 53 = .ok (.ifCond .ne 7, 3) := by decide +kernel
theorem dX4_runOn_56 : decode cX4_runOn 56 = .ok (.iconst 1, 1) := by decide +kernel
theorem dX4_runOn_57 : decode cX4_runOn 57 = .ok (.goto 4, 3) := by decide +kernel
theorem dX4_runOn_60 : decode cX4_runOn 60 = .ok (.iconst 0, 1) := by decide +kernel
theorem dX4_runOn_61 : decode cX4_runOn 61 = .ok (.invokestatic 54, 3) := by decide +kernel
theorem dX4_runOn_64 : decode cX4_runOn 64 = .ok (.iadd, 1) := by decide +kernel
theorem dX4_runOn_65 : decode cX4_runOn 65 = .ok (.istore_n 2, 1) := by decide +kernel
theorem dX4_runOn_66 : decode cX4_runOn 66 = .ok (.iinc 3 1, 3) := by decide +kernel
theorem dX4_runOn_69 : decode cX4_runOn 69 = .ok (.goto (-61), 3) := by decide +kernel
theorem dX4_runOn_72 : decode cX4_runOn 72 = .ok (.iload_n 2, 1) := by decide +kernel
theorem dX4_runOn_73 : decode cX4_runOn 73 = .ok (.ireturn, 1) := by decide +kernel
def PL_X_runOn_8 : Nat → Int32 → Int32 → XT → ST → (Int32 → XT → ST → Prop) → Prop
  | 0, _, _, _, _, _ => False
  | n + 1, y2, y3, v0, v1, Q => ((120 ≤ y3 → Q y2 v0 v1) ∧ (¬ 120 ≤ y3 → P_X_hasMore v0 (fun r11_ => (((r11_ = 0 → Q y2 v0 v1) ∧ (¬ r11_ = 0 → P_X_understand v0 (fun v20_ => (((¬ (X_wrong v20_) = 0 → P_T_asNumber 0 (fun r26_ => ((fun y2 y3 v0 v1 => PL_X_runOn_8 n  y2 y3 v0 v1  Q) (y2 + r26_) (y3 + 1) v20_ v1))) ∧ ((X_wrong v20_) = 0 → P_S_attempt (X_action v20_) (X_a v20_) (X_b v20_) (X_c v20_) v1 (fun r30_ v34_ => (((¬ r30_ = 0 → P_T_asNumber 0 (fun r40_ => ((fun y2 y3 v0 v1 => PL_X_runOn_8 n  y2 y3 v0 v1  Q) (y2 + r40_) (y3 + 1) v20_ v34_))) ∧ (r30_ = 0 → P_T_asNumber 1 (fun r44_ => ((fun y2 y3 v0 v1 => PL_X_runOn_8 n  y2 y3 v0 v1  Q) (y2 + r44_) (y3 + 1) v20_ v34_))))))))))))))))
def P_X_runOn (v0 : XT) (v1 : ST) (Q : Int32 → XT → ST → Prop) : Prop := P_X_begin v0 (fun v5_ => ((∃ n48_, PL_X_runOn_8 n48_ 0 0 v5_ v1 Q)))
set_option maxRecDepth 100000 in
theorem s_X_runOn {l : Launch} {D : zD} {B : Nat} {sa : Nat → Nat} (hfl : l.stackTraces = false) {z : Nat} {G : zG} {b0 : Nat} {b1 : Nat} {v0 : XT} {v1 : ST} {Q : Int32 → XT → ST → Prop} (h0 : XA b0 v0 G) (h1 : SA b1 v1 G) (d01 : b0 + 2 ≤ b1 ∨ b1 + 26 ≤ b0) (h : P_X_runOn v0 v1 Q) : zSp l D B sa yX4_runOn cX4_runOn 4 (some .int) 6 165 0 0 [.ref b0, .ref b1] z G (zRi fun r z' G' => z = z' ∧ ∃ w w2 G8, XA b0 w G8 ∧ Fr b0 2 G G8 ∧ SA b1 w2 G' ∧ Fr b1 26 G8 G' ∧ Q r w w2) := by
  unfold P_X_runOn at h
  refine z_ofW (by decide +kernel) hfl [some (.ref b0), some (.ref b1), none, none] rfl (Nat.le_of_ble_eq_true rfl) (fun p e s m args below meth c O hret hlk hnm => ?_)
  have O : zO p l s m args c D B sa 4 cX4_runOn RX4 := O
  have HL8 : ∀ (n9 : Nat)    (y2 : Int32) (y3 : Int32) (v0 : XT) (v1 : ST) (G9 : zG) (g0 : XA b0 v0 G9) (g1 : SA b1 v1 G9) (gF : Fr2 b0 2 b1 26 G G9) (h : PL_X_runOn_8 n9 y2 y3 v0 v1 Q), zT p l e (zrm 6 165 0 0) s m args below meth c (zEnd below D B (zRi fun r z' G' => z = z' ∧ ∃ w w2 G8, XA b0 w G8 ∧ Fr b0 2 G G8 ∧ SA b1 w2 G' ∧ Fr b1 26 G8 G' ∧ Q r w w2) args s 0 0) D B 4 0 0 8 [] [some (.ref b0), some (.ref b1), some (.int y2), some (.int y3)] z G9 := by
    intro n9   
    induction n9 with
    | zero =>
      intro _ _ _ _ _ _ _ _ h
      exact (h : False).elim
    | succ n ih =>
      intro y2 y3 v0 v1 G9 g0 g1 gF h
      rw [PL_X_runOn_8] at h
      refine z_iload_n O dX4_runOn_8 rfl rfl ?_
      refine z_bipush (v := 120) O dX4_runOn_9 (by decide) ?_
      refine z_icmp_ge (tgt := 72) O dX4_runOn_11 (by decide) (fun c10_ => ?_) (fun c10_ => ?_)
      · have h := h.1 c10_
        refine z_iload_n O dX4_runOn_72 rfl rfl ?_
        obtain ⟨G8, j1, j2, j3⟩ := Fr2.split gF
        have j4 := XA.eq g0 (G1 := G8) (fun q g1 g2 => j3 q g1 g2)
        exact z_iret O hret hlk dX4_runOn_73 (Nat.le_of_ble_eq_true rfl) (Nat.le_of_ble_eq_true rfl) ⟨_, rfl, rfl, _, _, G8, j4, j1, g1, j2, h⟩
      · have h := h.2 c10_
        refine z_aload_n O dX4_runOn_14 rfl rfl ?_
        refine z_callVi (As := []) (st := []) O (s_X_hasMore hfl g0 h) wy_X4_hasMore wl_RX4_22 dX4_runOn_15 rfl rfl (X_obj g0) ⟨by decide, rfl⟩ ⟨Nat.le_of_ble_eq_true rfl, Nat.le_of_ble_eq_true rfl⟩ (Nat.le_of_ble_eq_true rfl) ⟨Nat.le_of_ble_eq_true rfl, Nat.le_of_ble_eq_true rfl⟩ (fun r11_ z12_ G13_ hq14_ => ?_)
        obtain ⟨rfl, rfl, h⟩ := hq14_
        refine z_if_eq (tgt := 72) O dX4_runOn_18 (by decide) (fun c15_ => ?_) (fun c15_ => ?_)
        · have h := h.1 c15_
          refine z_iload_n O dX4_runOn_72 rfl rfl ?_
          obtain ⟨G8, j1, j2, j3⟩ := Fr2.split gF
          have j4 := XA.eq g0 (G1 := G8) (fun q g1 g2 => j3 q g1 g2)
          exact z_iret O hret hlk dX4_runOn_73 (Nat.le_of_ble_eq_true rfl) (Nat.le_of_ble_eq_true rfl) ⟨_, rfl, rfl, _, _, G8, j4, j1, g1, j2, h⟩
        · have h := h.2 c15_
          refine z_aload_n O dX4_runOn_21 rfl rfl ?_
          refine z_callVv (As := []) (st := []) O (s_X_understand hfl g0 h) wy_X4_understand wl_RX4_26 dX4_runOn_22 rfl rfl (X_obj g0) ⟨by decide, rfl⟩ ⟨Nat.le_of_ble_eq_true rfl, Nat.le_of_ble_eq_true rfl⟩ (Nat.le_of_ble_eq_true rfl) ⟨Nat.le_of_ble_eq_true rfl, Nat.le_of_ble_eq_true rfl⟩ (fun z17_ G18_ hq19_ => ?_)
          obtain ⟨rfl, v20_, k21_, f22_, h⟩ := hq19_
          have k23_ := SA.fr g1 f22_ (by omega)
          have F24_ : Fr2 b0 2 b1 26 G G18_ := Fr2.l gF f22_
          refine z_iload_n O dX4_runOn_25 rfl rfl ?_
          refine z_aload_n O dX4_runOn_26 rfl rfl ?_
          refine z_get (v := .int (X_wrong v20_)) O wf_RX4_29 dX4_runOn_27 (X_obj k21_) rfl ?_
          refine z_if_ne (tgt := 60) O dX4_runOn_30 (by decide) (fun c25_ => ?_) (fun c25_ => ?_)
          · have h := h.1 c25_
            refine z_iconst (v := 0) O dX4_runOn_60 (by decide) ?_
            refine z_callNi (As := [.int 0]) (st := [.int y2]) O (s_T_asNumber hfl h) wy_X5_asNumber wl_RX4_54 dX4_runOn_61 rfl rfl ⟨Nat.le_of_ble_eq_true rfl, Nat.le_of_ble_eq_true rfl⟩ (Nat.le_of_ble_eq_true rfl) ⟨Nat.le_of_ble_eq_true rfl, Nat.le_of_ble_eq_true rfl⟩ (fun r26_ z27_ G28_ hq29_ => ?_)
            obtain ⟨rfl, rfl, h⟩ := hq29_
            refine z_iadd O dX4_runOn_64 ?_
            refine z_istore_n (L' := [some (.ref b0), some (.ref b1), some (.int (y2 + r26_)), some (.int y3)]) O dX4_runOn_65 rfl (by decide) rfl ?_
            refine z_iinc (v := (y3 + 1)) (L' := [some (.ref b0), some (.ref b1), some (.int (y2 + r26_)), some (.int (y3 + 1))]) O dX4_runOn_66 rfl (by first | rfl | decide) (by decide) rfl ?_
            refine z_goto (tgt := 8) O dX4_runOn_69 (by decide) ?_
            exact z_subL (L' := [some (.ref b0), some (.ref b1), some (.int (y2 + r26_)), some (.int (y3 + 1))]) (zLe.sub (And.intro rfl (And.intro rfl (And.intro rfl (And.intro rfl True.intro))))) (ih (y2 + r26_) (y3 + 1) v20_ v1 G18_ k21_ k23_ F24_ h)
          · have h := h.2 c25_
            refine z_aload_n O dX4_runOn_33 rfl rfl ?_
            refine z_aload_n O dX4_runOn_34 rfl rfl ?_
            refine z_get (v := .int (X_action v20_)) O wf_RX4_36 dX4_runOn_35 (X_obj k21_) rfl ?_
            refine z_aload_n O dX4_runOn_38 rfl rfl ?_
            refine z_get (v := .int (X_a v20_)) O wf_RX4_39 dX4_runOn_39 (X_obj k21_) rfl ?_
            refine z_aload_n O dX4_runOn_42 rfl rfl ?_
            refine z_get (v := .int (X_b v20_)) O wf_RX4_42 dX4_runOn_43 (X_obj k21_) rfl ?_
            refine z_aload_n O dX4_runOn_46 rfl rfl ?_
            refine z_get (v := .int (X_c v20_)) O wf_RX4_45 dX4_runOn_47 (X_obj k21_) rfl ?_
            refine z_callVi (As := [.int (X_action v20_), .int (X_a v20_), .int (X_b v20_), .int (X_c v20_)]) (st := [.int y2]) O (s_S_attempt hfl k23_ h) wy_X3_attempt wl_RX4_48 dX4_runOn_50 rfl rfl (S_obj k23_) ⟨by decide, rfl⟩ ⟨Nat.le_of_ble_eq_true rfl, Nat.le_of_ble_eq_true rfl⟩ (Nat.le_of_ble_eq_true rfl) ⟨Nat.le_of_ble_eq_true rfl, Nat.le_of_ble_eq_true rfl⟩ (fun r30_ z31_ G32_ hq33_ => ?_)
            obtain ⟨rfl, v34_, k35_, f36_, h⟩ := hq33_
            have k37_ := XA.fr k21_ f36_ (by omega)
            have F38_ : Fr2 b0 2 b1 26 G G32_ := Fr2.r F24_ f36_
            refine z_if_ne (tgt := 60) O dX4_runOn_53 (by decide) (fun c39_ => ?_) (fun c39_ => ?_)
            · have h := h.1 c39_
              refine z_iconst (v := 0) O dX4_runOn_60 (by decide) ?_
              refine z_callNi (As := [.int 0]) (st := [.int y2]) O (s_T_asNumber hfl h) wy_X5_asNumber wl_RX4_54 dX4_runOn_61 rfl rfl ⟨Nat.le_of_ble_eq_true rfl, Nat.le_of_ble_eq_true rfl⟩ (Nat.le_of_ble_eq_true rfl) ⟨Nat.le_of_ble_eq_true rfl, Nat.le_of_ble_eq_true rfl⟩ (fun r40_ z41_ G42_ hq43_ => ?_)
              obtain ⟨rfl, rfl, h⟩ := hq43_
              refine z_iadd O dX4_runOn_64 ?_
              refine z_istore_n (L' := [some (.ref b0), some (.ref b1), some (.int (y2 + r40_)), some (.int y3)]) O dX4_runOn_65 rfl (by decide) rfl ?_
              refine z_iinc (v := (y3 + 1)) (L' := [some (.ref b0), some (.ref b1), some (.int (y2 + r40_)), some (.int (y3 + 1))]) O dX4_runOn_66 rfl (by first | rfl | decide) (by decide) rfl ?_
              refine z_goto (tgt := 8) O dX4_runOn_69 (by decide) ?_
              exact z_subL (L' := [some (.ref b0), some (.ref b1), some (.int (y2 + r40_)), some (.int (y3 + 1))]) (zLe.sub (And.intro rfl (And.intro rfl (And.intro rfl (And.intro rfl True.intro))))) (ih (y2 + r40_) (y3 + 1) v20_ v34_ G32_ k37_ k35_ F38_ h)
            · have h := h.2 c39_
              refine z_iconst (v := 1) O dX4_runOn_56 (by decide) ?_
              refine z_goto (tgt := 61) O dX4_runOn_57 (by decide) ?_
              refine z_callNi (As := [.int 1]) (st := [.int y2]) O (s_T_asNumber hfl h) wy_X5_asNumber wl_RX4_54 dX4_runOn_61 rfl rfl ⟨Nat.le_of_ble_eq_true rfl, Nat.le_of_ble_eq_true rfl⟩ (Nat.le_of_ble_eq_true rfl) ⟨Nat.le_of_ble_eq_true rfl, Nat.le_of_ble_eq_true rfl⟩ (fun r44_ z45_ G46_ hq47_ => ?_)
              obtain ⟨rfl, rfl, h⟩ := hq47_
              refine z_iadd O dX4_runOn_64 ?_
              refine z_istore_n (L' := [some (.ref b0), some (.ref b1), some (.int (y2 + r44_)), some (.int y3)]) O dX4_runOn_65 rfl (by decide) rfl ?_
              refine z_iinc (v := (y3 + 1)) (L' := [some (.ref b0), some (.ref b1), some (.int (y2 + r44_)), some (.int (y3 + 1))]) O dX4_runOn_66 rfl (by first | rfl | decide) (by decide) rfl ?_
              refine z_goto (tgt := 8) O dX4_runOn_69 (by decide) ?_
              exact z_subL (L' := [some (.ref b0), some (.ref b1), some (.int (y2 + r44_)), some (.int (y3 + 1))]) (zLe.sub (And.intro rfl (And.intro rfl (And.intro rfl (And.intro rfl True.intro))))) (ih (y2 + r44_) (y3 + 1) v20_ v34_ G32_ k37_ k35_ F38_ h)
  refine z_iconst (v := 0) O dX4_runOn_0 (by decide) ?_
  refine z_istore_n (L' := [some (.ref b0), some (.ref b1), some (.int 0), none]) O dX4_runOn_1 rfl (by decide) rfl ?_
  refine z_aload_n O dX4_runOn_2 rfl rfl ?_
  refine z_callVv (As := []) (st := []) O (s_X_begin hfl h0 h) wy_X4_begin wl_RX4_19 dX4_runOn_3 rfl rfl (X_obj h0) ⟨by decide, rfl⟩ ⟨Nat.le_of_ble_eq_true rfl, Nat.le_of_ble_eq_true rfl⟩ (Nat.le_of_ble_eq_true rfl) ⟨Nat.le_of_ble_eq_true rfl, Nat.le_of_ble_eq_true rfl⟩ (fun z2_ G3_ hq4_ => ?_)
  obtain ⟨rfl, v5_, k6_, f7_, h⟩ := hq4_
  have k8_ := SA.fr h1 f7_ (by omega)
  have F9_ : Fr2 b0 2 b1 26 G G3_ := Fr2.l Fr2.rf f7_
  refine z_iconst (v := 0) O dX4_runOn_6 (by decide) ?_
  refine z_istore_n (L' := [some (.ref b0), some (.ref b1), some (.int 0), some (.int 0)]) O dX4_runOn_7 rfl (by decide) rfl ?_
  obtain ⟨n48_, h⟩ := h
  exact z_subL (L' := [some (.ref b0), some (.ref b1), some (.int 0), some (.int 0)]) (zLe.sub (And.intro rfl (And.intro rfl (And.intro rfl (And.intro rfl True.intro))))) (HL8 n48_ 0 0 v5_ v1 G3_ k6_ k8_ F9_ h)
