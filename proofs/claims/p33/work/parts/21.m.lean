theorem dX0_forget_0 : decode cX0_forget 0 = .ok (.aload_n 0, 1) := by decide +kernel
theorem dX0_forget_1 : decode cX0_forget 1 = .ok (.iconst 0, 1) := by decide +kernel
theorem dX0_forget_2 : decode cX0_forget 2 = .ok (.putfield 18, 3) := by decide +kernel
theorem dX0_forget_5 : decode cX0_forget 5 = .ok (.aload_n 0, 1) := by decide +kernel
theorem dX0_forget_6 : decode cX0_forget 6 = .ok (.iconst 0, 1) := by decide +kernel
theorem dX0_forget_7 : decode cX0_forget 7 = .ok (.putfield 22, 3) := by decide +kernel
theorem dX0_forget_10 : decode cX0_forget 10 = .ok (.return_, 1) := by decide +kernel
def P_H_forget (v0 : HT) (Q : HT → Prop) : Prop := ∀ v6_, v6_ = (H_set_next v0 0) → (∀ v14_, v14_ = (H_set_count v6_ 0) → (Q v14_))
set_option maxRecDepth 100000 in
theorem s_H_forget {l : Launch} {D : zD} {B : Nat} {sa : Nat → Nat} (hfl : l.stackTraces = false) {z : Nat} {G : zG} {b0 : Nat} {v0 : HT} {Q : HT → Prop} (h0 : HA b0 v0 G) (h : P_H_forget v0 Q) : zSp l D B sa yX0_forget cX0_forget 1 none 0 0 0 0 [.ref b0] z G (zRv fun z' G' => z = z' ∧ ∃ w, HA b0 w G' ∧ Fr b0 366 G G' ∧ Q w) := by
  unfold P_H_forget at h
  refine z_ofW (by decide +kernel) hfl [some (.ref b0)] rfl (Nat.le_of_ble_eq_true rfl) (fun p e s m args below meth c O hret hlk hnm => ?_)
  have O : zO p l s m args c D B sa 1 cX0_forget RX0 := O
  refine z_aload_n O dX0_forget_0 rfl rfl ?_
  refine z_iconst (v := 0) O dX0_forget_1 (by decide) ?_
  refine y_put O wp_RX0_18 dX0_forget_2 (H_obj h0) rfl rfl (fun G1_ hw2_ => ?_)
  have k3_ := H_w_next h0 hw2_
  have f4_ := hw2_.fr
  have f5_ : Fr b0 366 G G1_ := Fr.mono f4_ (by omega) (by omega)
  obtain ⟨v6_, ev6_⟩ : ∃ w, w = (H_set_next v0 0) := ⟨_, rfl⟩
  have h := h v6_ ev6_
  have k7_ : HA b0 v6_ G1_ := by rw [ev6_]; exact k3_
  have F8_ : Fr b0 366 G G1_ := Fr.trans Fr.rf f5_
  refine z_aload_n O dX0_forget_5 rfl rfl ?_
  refine z_iconst (v := 0) O dX0_forget_6 (by decide) ?_
  refine y_put O wp_RX0_22 dX0_forget_7 (H_obj k7_) rfl rfl (fun G9_ hw10_ => ?_)
  have k11_ := H_w_count k7_ hw10_
  have f12_ := hw10_.fr
  have f13_ : Fr b0 366 G1_ G9_ := Fr.mono f12_ (by omega) (by omega)
  obtain ⟨v14_, ev14_⟩ : ∃ w, w = (H_set_count v6_ 0) := ⟨_, rfl⟩
  have h := h v14_ ev14_
  have k15_ : HA b0 v14_ G9_ := by rw [ev14_]; exact k11_
  have F16_ : Fr b0 366 G G9_ := Fr.trans F8_ f13_
  exact z_vret O hret hlk dX0_forget_10 (Nat.le_of_ble_eq_true rfl) (Nat.le_of_ble_eq_true rfl) ⟨rfl, rfl, _, k15_, F16_, h⟩

theorem dX0_stateAt_0 : decode cX0_stateAt 0 = .ok (.iload_n 1, 1) := by decide +kernel
theorem dX0_stateAt_1 : decode cX0_stateAt 1 = .ok (.ifCond .lt 18, 3) := by decide +kernel
theorem dX0_stateAt_4 : decode cX0_stateAt 4 = .ok (.iload_n 1, 1) := by decide +kernel
theorem dX0_stateAt_5 : decode cX0_stateAt 5 = .ok (.bipush 14, 2) := by decide +kernel
theorem dX0_stateAt_7 : decode cX0_stateAt 7 = .ok (.if_icmp .ge 12, 3) := by decide +kernel
theorem dX0_stateAt_10 : decode cX0_stateAt 10 = .ok (.aload_n 0, 1) := by decide +kernel
theorem dX0_stateAt_11 : decode cX0_stateAt 11 = .ok (.getfield 11, 3) := by decide +kernel
theorem dX0_stateAt_14 : decode cX0_stateAt 14 = .ok (.iload_n 1, 1) := by decide +kernel
theorem dX0_stateAt_15 : decode cX0_stateAt 15 = .ok (.aaload, 1) := by decide +kernel
theorem dX0_stateAt_16 : decode cX0_stateAt 16 = .ok (.goto 4, 3) := by decide +kernel
theorem dX0_stateAt_19 : decode cX0_stateAt 19 = .ok (.aconst_null, 1) := by decide +kernel
theorem dX0_stateAt_20 : decode cX0_stateAt 20 = .ok (.areturn, 1) := by decide +kernel
def P_H_stateAt (x1 : Int32) (v0 : HT) (Q : Option Nat → Prop) : Prop := ((x1 < 0 → Q none) ∧ (¬ x1 < 0 → ((14 ≤ x1 → Q none) ∧ (¬ 14 ≤ x1 → vp_in x1 14 ∧ (Q (some (Int32.toNatClampNeg x1)))))))
set_option maxRecDepth 100000 in
theorem s_H_stateAt {l : Launch} {D : zD} {B : Nat} {sa : Nat → Nat} (hfl : l.stackTraces = false) {z : Nat} {G : zG} {b0 : Nat} {x1 : Int32} {v0 : HT} {Q : Option Nat → Prop} (h0 : HA b0 v0 G) (h : P_H_stateAt x1 v0 Q) : zSp l D B sa yX0_stateAt cX0_stateAt 2 (some (.object "TrimmedLog$State")) 0 0 0 0 [.ref b0, .int x1] z G (zRa fun r z' G' => z = z' ∧ G = G' ∧ ∃ q : Option Nat, r = q.map (fun i => b0 + 2 + 26 * i) ∧ (∀ i, q = some i → i < 14) ∧ Q q) := by
  unfold P_H_stateAt at h
  refine z_ofW (by decide +kernel) hfl [some (.ref b0), some (.int x1)] rfl (Nat.le_of_ble_eq_true rfl) (fun p e s m args below meth c O hret hlk hnm => ?_)
  have O : zO p l s m args c D B sa 2 cX0_stateAt RX0 := O
  refine z_iload_n O dX0_stateAt_0 rfl rfl ?_
  refine z_if_lt (tgt := 19) O dX0_stateAt_1 (by decide) (fun c1_ => ?_) (fun c1_ => ?_)
  · have h := h.1 c1_
    refine z_null O dX0_stateAt_19 ?_
    exact z_aret O hret (Or.inl ⟨_, rfl⟩) (Or.inl rfl) hlk dX0_stateAt_20 (Nat.le_of_ble_eq_true rfl) (Nat.le_of_ble_eq_true rfl) ⟨none, rfl, rfl, rfl, none, rfl, (fun _ h => by cases h), h⟩
  · have h := h.2 c1_
    refine z_iload_n O dX0_stateAt_4 rfl rfl ?_
    refine z_bipush (v := 14) O dX0_stateAt_5 (by decide) ?_
    refine z_icmp_ge (tgt := 19) O dX0_stateAt_7 (by decide) (fun c2_ => ?_) (fun c2_ => ?_)
    · have h := h.1 c2_
      refine z_null O dX0_stateAt_19 ?_
      exact z_aret O hret (Or.inl ⟨_, rfl⟩) (Or.inl rfl) hlk dX0_stateAt_20 (Nat.le_of_ble_eq_true rfl) (Nat.le_of_ble_eq_true rfl) ⟨none, rfl, rfl, rfl, none, rfl, (fun _ h => by cases h), h⟩
    · have h := h.2 c2_
      refine z_aload_n O dX0_stateAt_10 rfl rfl ?_
      refine z_get (v := .ref (b0 + 1)) O wf_RX0_11 dX0_stateAt_11 (H_obj h0) rfl ?_
      refine z_iload_n O dX0_stateAt_14 rfl rfl ?_
      obtain ⟨q3_, h⟩ := h
      refine z_sald O dX0_stateAt_15 (H_states_row h0) q3_ ?_
      refine z_goto (tgt := 20) O dX0_stateAt_16 (by decide) ?_
      exact z_aret O hret (Or.inl ⟨_, rfl⟩) (Or.inr ⟨_, rfl⟩) hlk dX0_stateAt_20 (Nat.le_of_ble_eq_true rfl) (Nat.le_of_ble_eq_true rfl) ⟨some _, rfl, rfl, rfl, some (Int32.toNatClampNeg x1), rfl, (fun _ h => by cases h; exact (z_lt q3_)), h⟩

theorem dX0_remember_0 : decode cX0_remember 0 = .ok (.aload_n 0, 1) := by decide +kernel
theorem dX0_remember_1 : decode cX0_remember 1 = .ok (.aload_n 0, 1) := by decide +kernel
theorem dX0_remember_2 : decode cX0_remember 2 = .ok (.getfield 18, 3) := by decide +kernel
theorem dX0_remember_5 : decode cX0_remember 5 = .ok (.invokevirtual 25, 3) := by decide +kernel
theorem dX0_remember_8 : decode cX0_remember 8 = .ok (.astore_n 2, 1) := by decide +kernel
theorem dX0_remember_9 : decode cX0_remember 9 = .ok (.aload_n 2, 1) := by decide +kernel
theorem dX0_remember_10 : decode cX0_remember 10 = .ok (.ifnull 8, 3) := by decide +kernel
theorem dX0_remember_13 : decode cX0_remember 13 = .ok (.aload_n 2, 1) := by decide +kernel
theorem dX0_remember_14 : decode cX0_remember 14 = .ok (.aload_n 1, 1) := by decide +kernel
theorem dX0_remember_15 : decode cX0_remember 15 = .ok (.invokevirtual 29, 3) := by decide +kernel
theorem dX0_remember_18 : decode cX0_remember 18 = .ok (.aload_n 0, 1) := by decide +kernel
theorem dX0_remember_19 : decode cX0_remember 19 = .ok (.aload_n 0, 1) := by decide +kernel
theorem dX0_remember_20 : decode cX0_remember 20 = .ok (.getfield 18, 3) := by decide +kernel
theorem dX0_remember_23 : decode cX0_remember 23 = .ok (.iconst 1, 1) := by decide +kernel
theorem dX0_remember_24 : decode cX0_remember 24 = .ok (.iadd, 1) := by decide +kernel
theorem dX0_remember_25 : decode cX0_remember 25 = .ok (.bipush 14, 2) := by decide +kernel
theorem dX0_remember_27 : decode cX0_remember 27 = .ok (.irem, 1) := by decide +kernel
theorem dX0_remember_28 : decode cX0_remember 28 = .ok (.putfield 18, 3) := by decide +kernel
theorem dX0_remember_31 : decode cX0_remember 31 = .ok (.aload_n 0, 1) := by decide +kernel
theorem dX0_remember_32 : decode cX0_remember 32 = .ok (.aload_n 0, 1) := by decide +kernel
theorem dX0_remember_33 : decode cX0_remember 33 = .ok (.getfield 22, 3) := by decide +kernel
theorem dX0_remember_36 : decode cX0_remember 36 = .ok (.iconst 1, 1) := by decide +kernel
theorem dX0_remember_37 : decode cX0_remember 37 = .ok (.iadd, 1) := by decide +kernel
theorem dX0_remember_38 : decode cX0_remember 38 = .ok (.bipush 14, 2) := by decide +kernel
theorem dX0_remember_40 : decode cX0_remember 40 = .ok (.invokestatic 33, 3) := by decide +kernel
theorem dX0_remember_43 : decode cX0_remember 43 = .ok (.putfield 22, 3) := by decide +kernel
theorem dX0_remember_46 : decode cX0_remember 46 = .ok (.return_, 1) := by decide +kernel
def PJ_H_remember_18 (v1 : ST) (v0 : HT) (Q : HT → Prop) : Prop := ∀ v14_, v14_ = (H_set_next v0 (zrem ((H_next v0) + 1) 14)) → (∀ v23_, v23_ = (H_set_count v14_ (zmin ((H_count v14_) + 1) 14)) → (Q v23_))
def P_H_remember (v0 : HT) (v1 : ST) (Q : HT → Prop) : Prop := P_H_stateAt (H_next v0) v0 (fun r5_ => ((r5_ = none → PJ_H_remember_18 v1 v0 Q) ∧ (∀ i7_, r5_ = some i7_ → P_S_takeOver (H_states v0 i7_) v1 (fun v31_ => (∀ v36_, v36_ = (H_seti_states v0 i7_ v31_) → (PJ_H_remember_18 v1 v36_ Q))))))
set_option maxRecDepth 100000 in
theorem s_H_remember {l : Launch} {D : zD} {B : Nat} {sa : Nat → Nat} (hfl : l.stackTraces = false) {z : Nat} {G : zG} {b0 : Nat} {b1 : Nat} {v0 : HT} {v1 : ST} {Q : HT → Prop} (h0 : HA b0 v0 G) (h1 : SA b1 v1 G) (d01 : b0 + 366 ≤ b1 ∨ b1 + 26 ≤ b0) (h : P_H_remember v0 v1 Q) : zSp l D B sa yX0_remember cX0_remember 3 none 4 118 0 0 [.ref b0, .ref b1] z G (zRv fun z' G' => z = z' ∧ ∃ w, HA b0 w G' ∧ Fr b0 366 G G' ∧ Q w) := by
  unfold P_H_remember at h
  refine z_ofW (by decide +kernel) hfl [some (.ref b0), some (.ref b1), none] rfl (Nat.le_of_ble_eq_true rfl) (fun p e s m args below meth c O hret hlk hnm => ?_)
  have O : zO p l s m args c D B sa 3 cX0_remember RX0 := O
  have HJ18 : ∀ (v0 : HT) (G9 : zG) (g0 : HA b0 v0 G9) (g1 : SA b1 v1 G9) (gF : Fr b0 366 G G9), PJ_H_remember_18 v1 v0 Q → zT p l e (zrm 4 118 0 0) s m args below meth c (zEnd below D B (zRv fun z' G' => z = z' ∧ ∃ w, HA b0 w G' ∧ Fr b0 366 G G' ∧ Q w) args s 0 0) D B 3 0 0 18 [] [some (.ref b0), none, none] z G9 := by
    intro v0 G9 g0 g1 gF h
    unfold PJ_H_remember_18 at h
    refine z_aload_n O dX0_remember_18 rfl rfl ?_
    refine z_aload_n O dX0_remember_19 rfl rfl ?_
    refine z_get (v := .int (H_next v0)) O wf_RX0_18 dX0_remember_20 (H_obj g0) rfl ?_
    refine z_iconst (v := 1) O dX0_remember_23 (by decide) ?_
    refine z_iadd O dX0_remember_24 ?_
    refine z_bipush (v := 14) O dX0_remember_25 (by decide) ?_
    refine z_irem O dX0_remember_27 (by decide) ?_
    refine y_put O wp_RX0_18 dX0_remember_28 (H_obj g0) rfl rfl (fun G9_ hw10_ => ?_)
    have k11_ := H_w_next g0 hw10_
    have f12_ := hw10_.fr
    have f13_ : Fr b0 366 G9 G9_ := Fr.mono f12_ (by omega) (by omega)
    obtain ⟨v14_, ev14_⟩ : ∃ w, w = (H_set_next v0 (zrem ((H_next v0) + 1) 14)) := ⟨_, rfl⟩
    have h := h v14_ ev14_
    have k15_ : HA b0 v14_ G9_ := by rw [ev14_]; exact k11_
    have k16_ := SA.fr g1 f13_ (by omega)
    have F17_ : Fr b0 366 G G9_ := Fr.trans gF f13_
    refine z_aload_n O dX0_remember_31 rfl rfl ?_
    refine z_aload_n O dX0_remember_32 rfl rfl ?_
    refine z_get (v := .int (H_count v14_)) O wf_RX0_22 dX0_remember_33 (H_obj k15_) rfl ?_
    refine z_iconst (v := 1) O dX0_remember_36 (by decide) ?_
    refine z_iadd O dX0_remember_37 ?_
    refine z_bipush (v := 14) O dX0_remember_38 (by decide) ?_
    refine z_mmin O wm_RX0_33 wm_min_s wm_math wm_min_c dX0_remember_40 (Nat.le_of_ble_eq_true rfl) (Nat.le_of_ble_eq_true rfl) (Nat.le_of_ble_eq_true rfl) (Nat.le_of_ble_eq_true rfl) ?_
    refine y_put O wp_RX0_22 dX0_remember_43 (H_obj k15_) rfl rfl (fun G18_ hw19_ => ?_)
    have k20_ := H_w_count k15_ hw19_
    have f21_ := hw19_.fr
    have f22_ : Fr b0 366 G9_ G18_ := Fr.mono f21_ (by omega) (by omega)
    obtain ⟨v23_, ev23_⟩ : ∃ w, w = (H_set_count v14_ (zmin ((H_count v14_) + 1) 14)) := ⟨_, rfl⟩
    have h := h v23_ ev23_
    have k24_ : HA b0 v23_ G18_ := by rw [ev23_]; exact k20_
    have k25_ := SA.fr k16_ f22_ (by omega)
    have F26_ : Fr b0 366 G G18_ := Fr.trans F17_ f22_
    exact z_vret O hret hlk dX0_remember_46 (Nat.le_of_ble_eq_true rfl) (Nat.le_of_ble_eq_true rfl) ⟨rfl, rfl, _, k24_, F26_, h⟩
  refine z_aload_n O dX0_remember_0 rfl rfl ?_
  refine z_aload_n O dX0_remember_1 rfl rfl ?_
  refine z_get (v := .int (H_next v0)) O wf_RX0_18 dX0_remember_2 (H_obj h0) rfl ?_
  refine z_callVa (As := [.int (H_next v0)]) (st := []) O (s_H_stateAt hfl h0 h) wy_X0_stateAt wl_RX0_25 dX0_remember_5 rfl rfl (H_obj h0) ⟨by decide, rfl⟩ ⟨Nat.le_of_ble_eq_true rfl, Nat.le_of_ble_eq_true rfl⟩ (Nat.le_of_ble_eq_true rfl) ⟨Nat.le_of_ble_eq_true rfl, Nat.le_of_ble_eq_true rfl⟩ (fun r1_ z2_ G3_ hq4_ => ?_)
  obtain ⟨rfl, rfl, r5_, rfl, hb6_, h⟩ := hq4_
  cases r5_ with
  | none =>
    have h := h.1 rfl
    refine z_astoreN_n (L' := [some (.ref b0), some (.ref b1), some (.null)]) O dX0_remember_8 rfl (by decide) rfl ?_
    refine z_aloadN_n O dX0_remember_9 rfl rfl ?_
    refine z_ifnullN (tgt := 18) O dX0_remember_10 (by decide) ?_
    exact z_subL (L' := [some (.ref b0), none, none]) (zLe.sub (And.intro rfl True.intro)) (HJ18 v0 G h0 h1 Fr.rf h)
  | some i7_ =>
    have hi8_ := hb6_ _ rfl
    have h := h.2 i7_ rfl
    refine z_astore_n (L' := [some (.ref b0), some (.ref b1), some (.ref (b0 + 2 + 26 * i7_))]) O dX0_remember_8 rfl (by decide) rfl ?_
    refine z_aload_n O dX0_remember_9 rfl rfl ?_
    refine z_ifnull O dX0_remember_10 ?_
    refine z_aload_n O dX0_remember_13 rfl rfl ?_
    refine z_aload_n O dX0_remember_14 rfl rfl ?_
    refine z_callVv (As := [.ref b1]) (st := []) O (s_S_takeOver hfl (H_states_of h0 hi8_) h1 (by omega) h) wy_X3_takeOver wl_RX0_29 dX0_remember_15 rfl rfl (S_obj (H_states_of h0 hi8_)) ⟨by decide, rfl⟩ ⟨Nat.le_of_ble_eq_true rfl, Nat.le_of_ble_eq_true rfl⟩ (Nat.le_of_ble_eq_true rfl) ⟨Nat.le_of_ble_eq_true rfl, Nat.le_of_ble_eq_true rfl⟩ (fun z28_ G29_ hq30_ => ?_)
    obtain ⟨rfl, v31_, k32_, f33_, h⟩ := hq30_
    have k34_ := H_put_states h0 hi8_ k32_ f33_
    have f35_ : Fr b0 366 G G29_ := Fr.mono f33_ (by have := hi8_; omega) (by have := hi8_; omega)
    obtain ⟨v36_, ev36_⟩ : ∃ w, w = (H_seti_states v0 i7_ v31_) := ⟨_, rfl⟩
    have h := h v36_ ev36_
    have k37_ : HA b0 v36_ G29_ := by rw [ev36_]; exact k34_
    have k38_ := SA.fr h1 f35_ (by omega)
    have F39_ : Fr b0 366 G G29_ := Fr.trans Fr.rf f35_
    exact z_subL (L' := [some (.ref b0), none, none]) (zLe.sub (And.intro rfl True.intro)) (HJ18 v36_ G29_ k37_ k38_ F39_ h)

theorem dX0_takeBack_0 : decode cX0_takeBack 0 = .ok (.aload_n 0, 1) := by decide +kernel
theorem dX0_takeBack_1 : decode cX0_takeBack 1 = .ok (.aload_n 0, 1) := by decide +kernel
theorem dX0_takeBack_2 : decode cX0_takeBack 2 = .ok (.getfield 18, 3) := by decide +kernel
theorem dX0_takeBack_5 : decode cX0_takeBack 5 = .ok (.bipush 14, 2) := by decide +kernel
theorem dX0_takeBack_7 : decode cX0_takeBack 7 = .ok (.iadd, 1) := by decide +kernel
theorem dX0_takeBack_8 : decode cX0_takeBack 8 = .ok (.iconst 1, 1) := by decide +kernel
theorem dX0_takeBack_9 : decode cX0_takeBack 9 = .ok (.isub, 1) := by decide +kernel
theorem dX0_takeBack_10 : decode cX0_takeBack 10 = .ok (.bipush 14, 2) := by decide +kernel
theorem dX0_takeBack_12 : decode cX0_takeBack 12 = .ok (.irem, 1) := by decide +kernel
theorem dX0_takeBack_13 : decode cX0_takeBack 13 = .ok (.putfield 18, 3) := by decide +kernel
theorem dX0_takeBack_16 : decode cX0_takeBack 16 = .ok (.aload_n 1, 1) := by decide +kernel
theorem dX0_takeBack_17 : decode cX0_takeBack 17 = .ok (.aload_n 0, 1) := by decide +kernel
theorem dX0_takeBack_18 : decode cX0_takeBack 18 = .ok (.aload_n 0, 1) := by decide +kernel
theorem dX0_takeBack_19 : decode cX0_takeBack 19 = .ok (.getfield 18, 3) := by decide +kernel
theorem dX0_takeBack_22 : decode cX0_takeBack 22 = .ok (.invokevirtual 25, 3) := by decide +kernel
theorem dX0_takeBack_25 : decode cX0_takeBack 25 = .ok (.invokevirtual 29, 3) := by decide +kernel
theorem dX0_takeBack_28 : decode cX0_takeBack 28 = .ok (.aload_n 0, 1) := by decide +kernel
theorem dX0_takeBack_29 : decode cX0_takeBack 29 = .ok (.dup, 1) := by decide +kernel
theorem dX0_takeBack_30 : decode cX0_takeBack 30 = .ok (.getfield 22, 3) := by decide +kernel
theorem dX0_takeBack_33 : decode cX0_takeBack 33 = .ok (.iconst 1, 1) := by decide +kernel
theorem dX0_takeBack_34 : decode cX0_takeBack 34 = .ok (.isub, 1) := by decide +kernel
theorem dX0_takeBack_35 : decode cX0_takeBack 35 = .ok (.putfield 22, 3) := by decide +kernel
theorem dX0_takeBack_38 : decode cX0_takeBack 38 = .ok (.aload_n 0, 1) := by decide +kernel
theorem dX0_takeBack_39 : decode cX0_takeBack 39 = .ok (.getfield 22, 3) := by decide +kernel
theorem dX0_takeBack_42 : decode cX0_takeBack 42 = .ok (.ireturn, 1) := by decide +kernel
def P_H_takeBack (v0 : HT) (v1 : ST) (Q : Int32 → HT → ST → Prop) : Prop := ∀ v6_, v6_ = (H_set_next v0 (zrem (((H_next v0) + 14) - 1) 14)) → (P_H_stateAt (H_next v6_) v6_ (fun r14_ => ((r14_ = none → False) ∧ (∀ i16_, r14_ = some i16_ → P_S_takeOver v1 (H_states v6_ i16_) (fun v22_ => (∀ v32_, v32_ = (H_set_count v6_ ((H_count v6_) - 1)) → (Q (H_count v32_) v32_ v22_)))))))
set_option maxRecDepth 100000 in
theorem s_H_takeBack {l : Launch} {D : zD} {B : Nat} {sa : Nat → Nat} (hfl : l.stackTraces = false) {z : Nat} {G : zG} {b0 : Nat} {b1 : Nat} {v0 : HT} {v1 : ST} {Q : Int32 → HT → ST → Prop} (h0 : HA b0 v0 G) (h1 : SA b1 v1 G) (d01 : b0 + 366 ≤ b1 ∨ b1 + 26 ≤ b0) (h : P_H_takeBack v0 v1 Q) : zSp l D B sa yX0_takeBack cX0_takeBack 2 (some .int) 4 118 0 0 [.ref b0, .ref b1] z G (zRi fun r z' G' => z = z' ∧ ∃ w w2 G8, HA b0 w G8 ∧ Fr b0 366 G G8 ∧ SA b1 w2 G' ∧ Fr b1 26 G8 G' ∧ Q r w w2) := by
  unfold P_H_takeBack at h
  refine z_ofW (by decide +kernel) hfl [some (.ref b0), some (.ref b1)] rfl (Nat.le_of_ble_eq_true rfl) (fun p e s m args below meth c O hret hlk hnm => ?_)
  have O : zO p l s m args c D B sa 2 cX0_takeBack RX0 := O
  refine z_aload_n O dX0_takeBack_0 rfl rfl ?_
  refine z_aload_n O dX0_takeBack_1 rfl rfl ?_
  refine z_get (v := .int (H_next v0)) O wf_RX0_18 dX0_takeBack_2 (H_obj h0) rfl ?_
  refine z_bipush (v := 14) O dX0_takeBack_5 (by decide) ?_
  refine z_iadd O dX0_takeBack_7 ?_
  refine z_iconst (v := 1) O dX0_takeBack_8 (by decide) ?_
  refine z_isub O dX0_takeBack_9 ?_
  refine z_bipush (v := 14) O dX0_takeBack_10 (by decide) ?_
  refine z_irem O dX0_takeBack_12 (by decide) ?_
  refine y_put O wp_RX0_18 dX0_takeBack_13 (H_obj h0) rfl rfl (fun G1_ hw2_ => ?_)
  have k3_ := H_w_next h0 hw2_
  have f4_ := hw2_.fr
  have f5_ : Fr b0 366 G G1_ := Fr.mono f4_ (by omega) (by omega)
  obtain ⟨v6_, ev6_⟩ : ∃ w, w = (H_set_next v0 (zrem (((H_next v0) + 14) - 1) 14)) := ⟨_, rfl⟩
  have h := h v6_ ev6_
  have k7_ : HA b0 v6_ G1_ := by rw [ev6_]; exact k3_
  have k8_ := SA.fr h1 f5_ (by omega)
  have F9_ : Fr2 b0 366 b1 26 G G1_ := Fr2.l Fr2.rf f5_
  refine z_aload_n O dX0_takeBack_16 rfl rfl ?_
  refine z_aload_n O dX0_takeBack_17 rfl rfl ?_
  refine z_aload_n O dX0_takeBack_18 rfl rfl ?_
  refine z_get (v := .int (H_next v6_)) O wf_RX0_18 dX0_takeBack_19 (H_obj k7_) rfl ?_
  refine z_callVa (As := [.int (H_next v6_)]) (st := [.ref b1]) O (s_H_stateAt hfl k7_ h) wy_X0_stateAt wl_RX0_25 dX0_takeBack_22 rfl rfl (H_obj k7_) ⟨by decide, rfl⟩ ⟨Nat.le_of_ble_eq_true rfl, Nat.le_of_ble_eq_true rfl⟩ (Nat.le_of_ble_eq_true rfl) ⟨Nat.le_of_ble_eq_true rfl, Nat.le_of_ble_eq_true rfl⟩ (fun r10_ z11_ G12_ hq13_ => ?_)
  obtain ⟨rfl, rfl, r14_, rfl, hb15_, h⟩ := hq13_
  cases r14_ with
  | none =>
    have h := h.1 rfl
    exact (h : False).elim
  | some i16_ =>
    have hi17_ := hb15_ _ rfl
    have h := h.2 i16_ rfl
    refine z_callVv (As := [.ref (b0 + 2 + 26 * i16_)]) (st := []) O (s_S_takeOver hfl k8_ (H_states_of k7_ hi17_) (by omega) h) wy_X3_takeOver wl_RX0_29 dX0_takeBack_25 rfl rfl (S_obj k8_) ⟨by decide, rfl⟩ ⟨Nat.le_of_ble_eq_true rfl, Nat.le_of_ble_eq_true rfl⟩ (Nat.le_of_ble_eq_true rfl) ⟨Nat.le_of_ble_eq_true rfl, Nat.le_of_ble_eq_true rfl⟩ (fun z19_ G20_ hq21_ => ?_)
    obtain ⟨rfl, v22_, k23_, f24_, h⟩ := hq21_
    have k25_ := HA.fr k7_ f24_ (by omega)
    have F26_ : Fr2 b0 366 b1 26 G G20_ := Fr2.r F9_ f24_
    refine z_aload_n O dX0_takeBack_28 rfl rfl ?_
    refine z_dup O dX0_takeBack_29 rfl ?_
    refine z_get (v := .int (H_count v6_)) O wf_RX0_22 dX0_takeBack_30 (H_obj k25_) rfl ?_
    refine z_iconst (v := 1) O dX0_takeBack_33 (by decide) ?_
    refine z_isub O dX0_takeBack_34 ?_
    refine y_put O wp_RX0_22 dX0_takeBack_35 (H_obj k25_) rfl rfl (fun G27_ hw28_ => ?_)
    have k29_ := H_w_count k25_ hw28_
    have f30_ := hw28_.fr
    have f31_ : Fr b0 366 G20_ G27_ := Fr.mono f30_ (by omega) (by omega)
    obtain ⟨v32_, ev32_⟩ : ∃ w, w = (H_set_count v6_ ((H_count v6_) - 1)) := ⟨_, rfl⟩
    have h := h v32_ ev32_
    have k33_ : HA b0 v32_ G27_ := by rw [ev32_]; exact k29_
    have k34_ := SA.fr k23_ f31_ (by omega)
    have F35_ : Fr2 b0 366 b1 26 G G27_ := Fr2.l F26_ f31_
    refine z_aload_n O dX0_takeBack_38 rfl rfl ?_
    refine z_get (v := .int (H_count v32_)) O wf_RX0_22 dX0_takeBack_39 (H_obj k33_) rfl ?_
    obtain ⟨G8, j1, j2, j3⟩ := Fr2.split F35_
    have j4 := HA.eq k33_ (G1 := G8) (fun q g1 g2 => j3 q g1 g2)
    exact z_iret O hret hlk dX0_takeBack_42 (Nat.le_of_ble_eq_true rfl) (Nat.le_of_ble_eq_true rfl) ⟨_, rfl, rfl, _, _, G8, j4, j1, k34_, j2, h⟩

theorem dX5_append_0 : decode cX5_append 0 = .ok (.iload_n 1, 1) := by decide +kernel
theorem dX5_append_1 : decode cX5_append 1 = .ok (.iconst 0, 1) := by decide +kernel
theorem dX5_append_2 : decode cX5_append 2 = .ok (.sipush 255, 3) := by decide +kernel
theorem dX5_append_5 : decode cX5_append 5 = .ok (.invokestatic 41, 3) := by decide +kernel
theorem dX5_append_8 : decode cX5_append 8 = .ok (.ifCond .ne 13, 3) := by decide +kernel
theorem dX5_append_11 : decode cX5_append 11 = .ok (.new 45, 3) := by decide +kernel
theorem dX5_append_14 : decode cX5_append 14 = .ok (.dup, 1) := by decide +kernel
theorem dX5_append_15 : decode cX5_append 15 = .ok (.ldc 47, 2) := by decide +kernel
theorem dX5_append_17 : decode cX5_append 17 = .ok (.invokespecial 49, 3) := by decide +kernel
theorem dX5_append_20 : decode cX5_append 20 = .ok (.athrow, 1) := by decide +kernel
theorem dX5_append_21 : decode cX5_append 21 = .ok (.aload_n 0, 1) := by decide +kernel
theorem dX5_append_22 : decode cX5_append 22 = .ok (.getfield 10, 3) := by decide +kernel
theorem dX5_append_25 : decode cX5_append 25 = .ok (.invokevirtual 52, 3) := by decide +kernel
theorem dX5_append_28 : decode cX5_append 28 = .ok (.ifCond .eq 13, 3) := by decide +kernel
theorem dX5_append_31 : decode cX5_append 31 = .ok (.new 56, 3) := by decide +kernel
theorem dX5_append_34 : decode cX5_append 34 = .ok (.dup, 1) := by decide +kernel
theorem dX5_append_35 : decode cX5_append 35 = .ok (.ldc 58, 2) := by decide +kernel
theorem dX5_append_37 : decode cX5_append 37 = .ok (.invokespecial 60, 3) := by decide +kernel
theorem dX5_append_40 : decode cX5_append 40 = .ok (.athrow, 1) := by decide +kernel
theorem dX5_append_41 : decode cX5_append 41 = .ok (.aload_n 0, 1) := by decide +kernel
theorem dX5_append_42 : decode cX5_append 42 = .ok (.getfield 10, 3) := by decide +kernel
theorem dX5_append_45 : decode cX5_append 45 = .ok (.iload_n 1, 1) := by decide +kernel
theorem dX5_append_46 : decode cX5_append 46 = .ok (.i2c, 1) := by decide +kernel
theorem dX5_append_47 : decode cX5_append 47 = .ok (.invokevirtual 61, 3) := by decide +kernel
theorem dX5_append_50 : decode cX5_append 50 = .ok (.ireturn, 1) := by decide +kernel
def P_T_append (x1 : Int32) (v0 : TT) (X : String → TT → Prop) (Q : Int32 → TT → Prop) : Prop := P_T_isIn x1 0 255 (fun r1_ => (((¬ r1_ = 0 → P_X_isFull (T_text v0) (fun r6_ => (((r6_ = 0 → P_X_add (zi2c x1) (T_text v0) (fun r11_ v15_ => (∀ v20_, v20_ = (T_set_text v0 v15_) → (Q r11_ v20_)))) ∧ (¬ r6_ = 0 → X "java/lang/IllegalStateException" v0))))) ∧ (r1_ = 0 → X "java/lang/IllegalArgumentException" v0))))
set_option maxRecDepth 100000 in
theorem s_T_append {l : Launch} {D : zD} {B : Nat} {sa : Nat → Nat} (hfl : l.stackTraces = false) {z : Nat} {G : zG} {b0 : Nat} {x1 : Int32} {v0 : TT} {X : String → TT → Prop} {Q : Int32 → TT → Prop} (h0 : TA b0 v0 G) (h : P_T_append x1 v0 X Q) : zSx l D B sa yX5_append cX5_append 2 (some .int) 6 90 1 6 [.ref b0, .int x1] z G (zRi fun r z' G' => z = z' ∧ ∃ w, TA b0 w G' ∧ Fr b0 475 G G' ∧ Q r w) (fun E z' G' => ∃ w, TA b0 w G' ∧ Fr b0 475 G G' ∧ X E w) := by
  unfold P_T_append at h
  refine z_ofX (by decide +kernel) hfl [some (.ref b0), some (.int x1)] rfl (Nat.le_of_ble_eq_true rfl) (fun p e s m args below meth c O hret hlk hout => ?_)
  have O : zO p l s m args c D B sa 2 cX5_append RX5 := O
  refine z_iload_n O dX5_append_0 rfl rfl ?_
  refine z_iconst (v := 0) O dX5_append_1 (by decide) ?_
  refine z_sipush (v := 255) O dX5_append_2 (by decide) ?_
  refine z_callSi (As := [.int x1, .int 0, .int 255]) (st := []) O (s_T_isIn hfl h) wy_X5_isIn wl_RX5_41 dX5_append_5 rfl rfl ⟨Nat.le_of_ble_eq_true rfl, Nat.le_of_ble_eq_true rfl⟩ (Nat.le_of_ble_eq_true rfl) ⟨Nat.le_of_ble_eq_true rfl, Nat.le_of_ble_eq_true rfl⟩ (fun r1_ z2_ G3_ hq4_ => ?_)
  obtain ⟨rfl, rfl, h⟩ := hq4_
  refine z_if_ne (tgt := 21) O dX5_append_8 (by decide) (fun c5_ => ?_) (fun c5_ => ?_)
  · have h := h.1 c5_
    refine z_aload_n O dX5_append_21 rfl rfl ?_
    refine z_get (v := .ref (b0 + 1)) O wf_RX5_10 dX5_append_22 (T_obj h0) rfl ?_
    refine z_callVi (As := []) (st := []) O (s_X_isFull hfl (T_text_of h0) h) wy_X4_isFull wl_RX5_52 dX5_append_25 rfl rfl (X_obj (T_text_of h0)) ⟨by decide, rfl⟩ ⟨Nat.le_of_ble_eq_true rfl, Nat.le_of_ble_eq_true rfl⟩ (Nat.le_of_ble_eq_true rfl) ⟨Nat.le_of_ble_eq_true rfl, Nat.le_of_ble_eq_true rfl⟩ (fun r6_ z7_ G8_ hq9_ => ?_)
    obtain ⟨rfl, rfl, h⟩ := hq9_
    refine z_if_eq (tgt := 41) O dX5_append_28 (by decide) (fun c10_ => ?_) (fun c10_ => ?_)
    · have h := h.1 c10_
      refine z_aload_n O dX5_append_41 rfl rfl ?_
      refine z_get (v := .ref (b0 + 1)) O wf_RX5_10 dX5_append_42 (T_obj h0) rfl ?_
      refine z_iload_n O dX5_append_45 rfl rfl ?_
      refine z_i2c O dX5_append_46 ?_
      refine z_callVi (As := [.int (zi2c x1)]) (st := []) O (s_X_add hfl (T_text_of h0) h) wy_X4_add wl_RX5_61 dX5_append_47 rfl rfl (X_obj (T_text_of h0)) ⟨by decide, rfl⟩ ⟨Nat.le_of_ble_eq_true rfl, Nat.le_of_ble_eq_true rfl⟩ (Nat.le_of_ble_eq_true rfl) ⟨Nat.le_of_ble_eq_true rfl, Nat.le_of_ble_eq_true rfl⟩ (fun r11_ z12_ G13_ hq14_ => ?_)
      obtain ⟨rfl, v15_, k16_, f17_, h⟩ := hq14_
      have k18_ := T_put_text h0 k16_ f17_
      have f19_ : Fr b0 475 G G13_ := Fr.mono f17_ (by omega) (by omega)
      obtain ⟨v20_, ev20_⟩ : ∃ w, w = (T_set_text v0 v15_) := ⟨_, rfl⟩
      have h := h v20_ ev20_
      have k21_ : TA b0 v20_ G13_ := by rw [ev20_]; exact k18_
      have F22_ : Fr b0 475 G G13_ := Fr.trans Fr.rf f19_
      exact z_iretx O hret hlk dX5_append_50 (Nat.le_of_ble_eq_true rfl) (Nat.le_of_ble_eq_true rfl) ⟨_, rfl, rfl, _, k21_, F22_, h⟩
    · have h := h.2 c10_
      exact z_throw O wt_RX5_56_60 (tx := "the text is full") (is := 58) (by decide +kernel) dX5_append_31 dX5_append_34 dX5_append_35 dX5_append_37 dX5_append_40 hout (Nat.le_of_ble_eq_true rfl) (Nat.le_of_ble_eq_true rfl) (Nat.le_of_ble_eq_true rfl) (Nat.le_of_ble_eq_true rfl) hlk (fun z1 => ⟨_, h0, Fr.rf, h⟩) (Nat.le_of_ble_eq_true rfl) (Nat.le_of_ble_eq_true rfl)
  · have h := h.2 c5_
    exact z_throw O wt_RX5_45_49 (tx := "c is not 0 to 255") (is := 47) (by decide +kernel) dX5_append_11 dX5_append_14 dX5_append_15 dX5_append_17 dX5_append_20 hout (Nat.le_of_ble_eq_true rfl) (Nat.le_of_ble_eq_true rfl) (Nat.le_of_ble_eq_true rfl) (Nat.le_of_ble_eq_true rfl) hlk (fun z1 => ⟨_, h0, Fr.rf, h⟩) (Nat.le_of_ble_eq_true rfl) (Nat.le_of_ble_eq_true rfl)

theorem dX5_clearText_0 : decode cX5_clearText 0 = .ok (.aload_n 0, 1) := by decide +kernel
theorem dX5_clearText_1 : decode cX5_clearText 1 = .ok (.getfield 10, 3) := by decide +kernel
theorem dX5_clearText_4 : decode cX5_clearText 4 = .ok (.invokevirtual 65, 3) := by decide +kernel
theorem dX5_clearText_7 : decode cX5_clearText 7 = .ok (.ireturn, 1) := by decide +kernel
def P_T_clearText (v0 : TT) (Q : Int32 → TT → Prop) : Prop := P_X_empty (T_text v0) (fun r1_ v5_ => (∀ v10_, v10_ = (T_set_text v0 v5_) → (Q r1_ v10_)))
set_option maxRecDepth 100000 in
theorem s_T_clearText {l : Launch} {D : zD} {B : Nat} {sa : Nat → Nat} (hfl : l.stackTraces = false) {z : Nat} {G : zG} {b0 : Nat} {v0 : TT} {Q : Int32 → TT → Prop} (h0 : TA b0 v0 G) (h : P_T_clearText v0 Q) : zSp l D B sa yX5_clearText cX5_clearText 1 (some .int) 1 21 0 0 [.ref b0] z G (zRi fun r z' G' => z = z' ∧ ∃ w, TA b0 w G' ∧ Fr b0 475 G G' ∧ Q r w) := by
  unfold P_T_clearText at h
  refine z_ofW (by decide +kernel) hfl [some (.ref b0)] rfl (Nat.le_of_ble_eq_true rfl) (fun p e s m args below meth c O hret hlk hnm => ?_)
  have O : zO p l s m args c D B sa 1 cX5_clearText RX5 := O
  refine z_aload_n O dX5_clearText_0 rfl rfl ?_
  refine z_get (v := .ref (b0 + 1)) O wf_RX5_10 dX5_clearText_1 (T_obj h0) rfl ?_
  refine z_callVi (As := []) (st := []) O (s_X_empty hfl (T_text_of h0) h) wy_X4_empty wl_RX5_65 dX5_clearText_4 rfl rfl (X_obj (T_text_of h0)) ⟨by decide, rfl⟩ ⟨Nat.le_of_ble_eq_true rfl, Nat.le_of_ble_eq_true rfl⟩ (Nat.le_of_ble_eq_true rfl) ⟨Nat.le_of_ble_eq_true rfl, Nat.le_of_ble_eq_true rfl⟩ (fun r1_ z2_ G3_ hq4_ => ?_)
  obtain ⟨rfl, v5_, k6_, f7_, h⟩ := hq4_
  have k8_ := T_put_text h0 k6_ f7_
  have f9_ : Fr b0 475 G G3_ := Fr.mono f7_ (by omega) (by omega)
  obtain ⟨v10_, ev10_⟩ : ∃ w, w = (T_set_text v0 v5_) := ⟨_, rfl⟩
  have h := h v10_ ev10_
  have k11_ : TA b0 v10_ G3_ := by rw [ev10_]; exact k8_
  have F12_ : Fr b0 475 G G3_ := Fr.trans Fr.rf f9_
  exact z_iret O hret hlk dX5_clearText_7 (Nat.le_of_ble_eq_true rfl) (Nat.le_of_ble_eq_true rfl) ⟨_, rfl, rfl, _, k11_, F12_, h⟩

theorem dX5_errorPosition_0 : decode cX5_errorPosition 0 = .ok (.aload_n 0, 1) := by decide +kernel
theorem dX5_errorPosition_1 : decode cX5_errorPosition 1 = .ok (.getfield 10, 3) := by decide +kernel
theorem dX5_errorPosition_4 : decode cX5_errorPosition 4 = .ok (.invokevirtual 69, 3) := by decide +kernel
theorem dX5_errorPosition_7 : decode cX5_errorPosition 7 = .ok (.ireturn, 1) := by decide +kernel
def P_T_errorPosition (v0 : TT) (Q : Int32 → TT → Prop) : Prop := P_X_findError (T_text v0) (fun r1_ v5_ => (∀ v10_, v10_ = (T_set_text v0 v5_) → (Q r1_ v10_)))
set_option maxRecDepth 100000 in
theorem s_T_errorPosition {l : Launch} {D : zD} {B : Nat} {sa : Nat → Nat} (hfl : l.stackTraces = false) {z : Nat} {G : zG} {b0 : Nat} {v0 : TT} {Q : Int32 → TT → Prop} (h0 : TA b0 v0 G) (h : P_T_errorPosition v0 Q) : zSp l D B sa yX5_errorPosition cX5_errorPosition 1 (some .int) 5 109 0 0 [.ref b0] z G (zRi fun r z' G' => z = z' ∧ ∃ w, TA b0 w G' ∧ Fr b0 475 G G' ∧ Q r w) := by
  unfold P_T_errorPosition at h
  refine z_ofW (by decide +kernel) hfl [some (.ref b0)] rfl (Nat.le_of_ble_eq_true rfl) (fun p e s m args below meth c O hret hlk hnm => ?_)
  have O : zO p l s m args c D B sa 1 cX5_errorPosition RX5 := O
  refine z_aload_n O dX5_errorPosition_0 rfl rfl ?_
  refine z_get (v := .ref (b0 + 1)) O wf_RX5_10 dX5_errorPosition_1 (T_obj h0) rfl ?_
  refine z_callVi (As := []) (st := []) O (s_X_findError hfl (T_text_of h0) h) wy_X4_findError wl_RX5_69 dX5_errorPosition_4 rfl rfl (X_obj (T_text_of h0)) ⟨by decide, rfl⟩ ⟨Nat.le_of_ble_eq_true rfl, Nat.le_of_ble_eq_true rfl⟩ (Nat.le_of_ble_eq_true rfl) ⟨Nat.le_of_ble_eq_true rfl, Nat.le_of_ble_eq_true rfl⟩ (fun r1_ z2_ G3_ hq4_ => ?_)
  obtain ⟨rfl, v5_, k6_, f7_, h⟩ := hq4_
  have k8_ := T_put_text h0 k6_ f7_
  have f9_ : Fr b0 475 G G3_ := Fr.mono f7_ (by omega) (by omega)
  obtain ⟨v10_, ev10_⟩ : ∃ w, w = (T_set_text v0 v5_) := ⟨_, rfl⟩
  have h := h v10_ ev10_
  have k11_ : TA b0 v10_ G3_ := by rw [ev10_]; exact k8_
  have F12_ : Fr b0 475 G G3_ := Fr.trans Fr.rf f9_
  exact z_iret O hret hlk dX5_errorPosition_7 (Nat.le_of_ble_eq_true rfl) (Nat.le_of_ble_eq_true rfl) ⟨_, rfl, rfl, _, k11_, F12_, h⟩

theorem dX5_load_0 : decode cX5_load 0 = .ok (.aload_n 0, 1) := by decide +kernel
theorem dX5_load_1 : decode cX5_load 1 = .ok (.getfield 10, 3) := by decide +kernel
theorem dX5_load_4 : decode cX5_load 4 = .ok (.invokevirtual 69, 3) := by decide +kernel
theorem dX5_load_7 : decode cX5_load 7 = .ok (.iconst (-1), 1) := by decide +kernel
theorem dX5_load_8 : decode cX5_load 8 = .ok (.if_icmp .eq 13, 3) := by decide +kernel
theorem dX5_load_11 : decode cX5_load 11 = .ok (.new 56, 3) := by decide +kernel
theorem dX5_load_14 : decode cX5_load 14 = .ok (.dup, 1) := by decide +kernel
theorem dX5_load_15 : decode cX5_load 15 = .ok (.ldc 72, 2) := by decide +kernel
theorem dX5_load_17 : decode cX5_load 17 = .ok (.invokespecial 60, 3) := by decide +kernel
theorem dX5_load_20 : decode cX5_load 20 = .ok (.athrow, 1) := by decide +kernel
theorem dX5_load_21 : decode cX5_load 21 = .ok (.aload_n 0, 1) := by decide +kernel
theorem dX5_load_22 : decode cX5_load 22 = .ok (.getfield 19, 3) := by decide +kernel
theorem dX5_load_25 : decode cX5_load 25 = .ok (.invokevirtual 74, 3) := by decide +kernel
theorem dX5_load_28 : decode cX5_load 28 = .ok (.aload_n 0, 1) := by decide +kernel
theorem dX5_load_29 : decode cX5_load 29 = .ok (.getfield 29, 3) := by decide +kernel
theorem dX5_load_32 : decode cX5_load 32 = .ok (.invokevirtual 77, 3) := by decide +kernel
theorem dX5_load_35 : decode cX5_load 35 = .ok (.iconst 0, 1) := by decide +kernel
theorem dX5_load_36 : decode cX5_load 36 = .ok (.istore_n 1, 1) := by decide +kernel
theorem dX5_load_37 : decode cX5_load 37 = .ok (.iload_n 1, 1) := by decide +kernel
theorem dX5_load_38 : decode cX5_load 38 = .ok (.iconst 2, 1) := by decide +kernel
theorem dX5_load_39 : decode cX5_load 39 = .ok (.if_icmp .ge 16, 3) := by decide +kernel
theorem dX5_load_42 : decode cX5_load 42 = .ok (.aload_n 0, 1) := by decide +kernel
theorem dX5_load_43 : decode cX5_load 43 = .ok (.getfield 37, 3) := by decide +kernel
theorem dX5_load_46 : decode cX5_load 46 = .ok (.iload_n 1, 1) := by decide +kernel
theorem dX5_load_47 : decode cX5_load 47 = .ok (.iconst 0, 1) := by decide +kernel
theorem dX5_load_48 : decode cX5_load 48 = .ok (.bastore, 1) := by decide +kernel
theorem dX5_load_49 : decode cX5_load 49 = .ok (.iinc 1 1, 3) := by decide +kernel
theorem dX5_load_52 : decode cX5_load 52 = .ok (.goto (-15), 3) := by decide +kernel
theorem dX5_load_55 : decode cX5_load 55 = .ok (.aload_n 0, 1) := by decide +kernel
theorem dX5_load_56 : decode cX5_load 56 = .ok (.getfield 10, 3) := by decide +kernel
theorem dX5_load_59 : decode cX5_load 59 = .ok (.aload_n 0, 1) := by decide +kernel
theorem dX5_load_60 : decode cX5_load 60 = .ok (.getfield 19, 3) := by decide +kernel
theorem dX5_load_63 : decode cX5_load 63 = .ok (.invokevirtual 80, 3) := by decide +kernel
theorem dX5_load_66 : decode cX5_load 66 = .ok (.ireturn, 1) := by decide +kernel
def PL_T_load_37 : Nat → Int32 → TT → (String → TT → Prop) → (Int32 → TT → Prop) → Prop
  | 0, _, _, _, _ => False
  | n + 1, y1, v0, X, Q => ((2 ≤ y1 → P_X_runOn (T_text v0) (T_state v0) (fun r39_ v43_ v44_ => (∀ v52_, v52_ = (T_set_text v0 v43_) → (∀ v57_, v57_ = (T_set_state v52_ v44_) → (Q r39_ v57_))))) ∧ (¬ 2 ≤ y1 → vp_in y1 2 ∧ (∀ v67_, v67_ = (T_set_filled v0 (upd (T_filled v0) (Int32.toNatClampNeg y1) 0)) → ((fun y1 v0 => PL_T_load_37 n  y1 v0  X Q) (y1 + 1) v67_))))
def P_T_load (v0 : TT) (X : String → TT → Prop) (Q : Int32 → TT → Prop) : Prop := P_X_findError (T_text v0) (fun r1_ v5_ => (∀ v10_, v10_ = (T_set_text v0 v5_) → (((r1_ = (-1) → P_S_renew (T_state v10_) (fun v18_ => (∀ v23_, v23_ = (T_set_state v10_ v18_) → (P_H_forget (T_history v23_) (fun v30_ => (∀ v35_, v35_ = (T_set_history v23_ v30_) → ((∃ n70_, PL_T_load_37 n70_ 0 v35_ X Q)))))))) ∧ (¬ r1_ = (-1) → X "java/lang/IllegalStateException" v10_)))))
set_option maxRecDepth 100000 in
theorem s_T_load {l : Launch} {D : zD} {B : Nat} {sa : Nat → Nat} (hfl : l.stackTraces = false) {z : Nat} {G : zG} {b0 : Nat} {v0 : TT} {X : String → TT → Prop} {Q : Int32 → TT → Prop} (h0 : TA b0 v0 G) (h : P_T_load v0 X Q) : zSx l D B sa yX5_load cX5_load 2 (some .int) 7 188 1 6 [.ref b0] z G (zRi fun r z' G' => z = z' ∧ ∃ w, TA b0 w G' ∧ Fr b0 475 G G' ∧ Q r w) (fun E z' G' => ∃ w, TA b0 w G' ∧ Fr b0 475 G G' ∧ X E w) := by
  unfold P_T_load at h
  refine z_ofX (by decide +kernel) hfl [some (.ref b0), none] rfl (Nat.le_of_ble_eq_true rfl) (fun p e s m args below meth c O hret hlk hout => ?_)
  have O : zO p l s m args c D B sa 2 cX5_load RX5 := O
  have HL37 : ∀ (n9 : Nat)    (y1 : Int32) (v0 : TT) (G9 : zG) (g0 : TA b0 v0 G9) (gF : Fr b0 475 G G9) (h : PL_T_load_37 n9 y1 v0 X Q), zT p l e (zrm 7 188 1 6) s m args below meth c (zEnx below D B (zRi fun r z' G' => z = z' ∧ ∃ w, TA b0 w G' ∧ Fr b0 475 G G' ∧ Q r w) (fun E z' G' => ∃ w, TA b0 w G' ∧ Fr b0 475 G G' ∧ X E w) args s 1 6) D B 2 0 0 37 [] [some (.ref b0), some (.int y1)] z G9 := by
    intro n9   
    induction n9 with
    | zero =>
      intro _ _ _ _ _ h
      exact (h : False).elim
    | succ n ih =>
      intro y1 v0 G9 g0 gF h
      rw [PL_T_load_37] at h
      refine z_iload_n O dX5_load_37 rfl rfl ?_
      refine z_iconst (v := 2) O dX5_load_38 (by decide) ?_
      refine z_icmp_ge (tgt := 55) O dX5_load_39 (by decide) (fun c38_ => ?_) (fun c38_ => ?_)
      · have h := h.1 c38_
        refine z_aload_n O dX5_load_55 rfl rfl ?_
        refine z_get (v := .ref (b0 + 1)) O wf_RX5_10 dX5_load_56 (T_obj g0) rfl ?_
        refine z_aload_n O dX5_load_59 rfl rfl ?_
        refine z_get (v := .ref (b0 + 3)) O wf_RX5_19 dX5_load_60 (T_obj g0) rfl ?_
        refine z_callVi (As := [.ref (b0 + 3)]) (st := []) O (s_X_runOn hfl (T_text_of g0) (T_state_of g0) (by omega) h) wy_X4_runOn wl_RX5_80 dX5_load_63 rfl rfl (X_obj (T_text_of g0)) ⟨by decide, rfl⟩ ⟨Nat.le_of_ble_eq_true rfl, Nat.le_of_ble_eq_true rfl⟩ (Nat.le_of_ble_eq_true rfl) ⟨Nat.le_of_ble_eq_true rfl, Nat.le_of_ble_eq_true rfl⟩ (fun r39_ z40_ G41_ hq42_ => ?_)
        obtain ⟨rfl, v43_, v44_, G45_, k46_, f47_, k48_, f49_, h⟩ := hq42_
        have k50_ := T_put_text g0 k46_ f47_
        have f51_ : Fr b0 475 G9 G45_ := Fr.mono f47_ (by omega) (by omega)
        obtain ⟨v52_, ev52_⟩ : ∃ w, w = (T_set_text v0 v43_) := ⟨_, rfl⟩
        have h := h v52_ ev52_
        have k53_ : TA b0 v52_ G45_ := by rw [ev52_]; exact k50_
        have F54_ : Fr b0 475 G G45_ := Fr.trans gF f51_
        have k55_ := T_put_state k53_ k48_ f49_
        have f56_ : Fr b0 475 G45_ G41_ := Fr.mono f49_ (by omega) (by omega)
        obtain ⟨v57_, ev57_⟩ : ∃ w, w = (T_set_state v52_ v44_) := ⟨_, rfl⟩
        have h := h v57_ ev57_
        have k58_ : TA b0 v57_ G41_ := by rw [ev57_]; exact k55_
        have F59_ : Fr b0 475 G G41_ := Fr.trans F54_ f56_
        exact z_iretx O hret hlk dX5_load_66 (Nat.le_of_ble_eq_true rfl) (Nat.le_of_ble_eq_true rfl) ⟨_, rfl, rfl, _, k58_, F59_, h⟩
      · have h := h.2 c38_
        refine z_aload_n O dX5_load_42 rfl rfl ?_
        refine z_get (v := .ref (b0 + 422)) O wf_RX5_37 dX5_load_43 (T_obj g0) rfl ?_
        refine z_iload_n O dX5_load_46 rfl rfl ?_
        refine z_iconst (v := 0) O dX5_load_47 (by decide) ?_
        obtain ⟨q60_, h⟩ := h
        refine y_zast O dX5_load_48 (T_filled_of g0) q60_ rfl (fun G61_ hw62_ => ?_)
        have k63_ := hw62_.1
        have f64_ := hw62_.fr
        have k65_ := T_put_filled g0 k63_ f64_
        have f66_ : Fr b0 475 G9 G61_ := Fr.mono f64_ (by omega) (by omega)
        obtain ⟨v67_, ev67_⟩ : ∃ w, w = (T_set_filled v0 (upd (T_filled v0) (Int32.toNatClampNeg y1) 0)) := ⟨_, rfl⟩
        have h := h v67_ ev67_
        have k68_ : TA b0 v67_ G61_ := by rw [ev67_]; exact k65_
        have F69_ : Fr b0 475 G G61_ := Fr.trans gF f66_
        refine z_iinc (v := (y1 + 1)) (L' := [some (.ref b0), some (.int (y1 + 1))]) O dX5_load_49 rfl (by first | rfl | decide) (by decide) rfl ?_
        refine z_goto (tgt := 37) O dX5_load_52 (by decide) ?_
        exact z_subL (L' := [some (.ref b0), some (.int (y1 + 1))]) (zLe.sub (And.intro rfl (And.intro rfl True.intro))) (ih (y1 + 1) v67_ G61_ k68_ F69_ h)
  refine z_aload_n O dX5_load_0 rfl rfl ?_
  refine z_get (v := .ref (b0 + 1)) O wf_RX5_10 dX5_load_1 (T_obj h0) rfl ?_
  refine z_callVi (As := []) (st := []) O (s_X_findError hfl (T_text_of h0) h) wy_X4_findError wl_RX5_69 dX5_load_4 rfl rfl (X_obj (T_text_of h0)) ⟨by decide, rfl⟩ ⟨Nat.le_of_ble_eq_true rfl, Nat.le_of_ble_eq_true rfl⟩ (Nat.le_of_ble_eq_true rfl) ⟨Nat.le_of_ble_eq_true rfl, Nat.le_of_ble_eq_true rfl⟩ (fun r1_ z2_ G3_ hq4_ => ?_)
  obtain ⟨rfl, v5_, k6_, f7_, h⟩ := hq4_
  have k8_ := T_put_text h0 k6_ f7_
  have f9_ : Fr b0 475 G G3_ := Fr.mono f7_ (by omega) (by omega)
  obtain ⟨v10_, ev10_⟩ : ∃ w, w = (T_set_text v0 v5_) := ⟨_, rfl⟩
  have h := h v10_ ev10_
  have k11_ : TA b0 v10_ G3_ := by rw [ev10_]; exact k8_
  have F12_ : Fr b0 475 G G3_ := Fr.trans Fr.rf f9_
  refine z_iconst (v := (-1)) O dX5_load_7 (by decide) ?_
  refine z_icmp_eq (tgt := 21) O dX5_load_8 (by decide) (fun c13_ => ?_) (fun c13_ => ?_)
  · have h := h.1 c13_
    refine z_aload_n O dX5_load_21 rfl rfl ?_
    refine z_get (v := .ref (b0 + 3)) O wf_RX5_19 dX5_load_22 (T_obj k11_) rfl ?_
    refine z_callVv (As := []) (st := []) O (s_S_renew hfl (T_state_of k11_) h) wy_X3_renew wl_RX5_74 dX5_load_25 rfl rfl (S_obj (T_state_of k11_)) ⟨by decide, rfl⟩ ⟨Nat.le_of_ble_eq_true rfl, Nat.le_of_ble_eq_true rfl⟩ (Nat.le_of_ble_eq_true rfl) ⟨Nat.le_of_ble_eq_true rfl, Nat.le_of_ble_eq_true rfl⟩ (fun z15_ G16_ hq17_ => ?_)
    obtain ⟨rfl, v18_, k19_, f20_, h⟩ := hq17_
    have k21_ := T_put_state k11_ k19_ f20_
    have f22_ : Fr b0 475 G3_ G16_ := Fr.mono f20_ (by omega) (by omega)
    obtain ⟨v23_, ev23_⟩ : ∃ w, w = (T_set_state v10_ v18_) := ⟨_, rfl⟩
    have h := h v23_ ev23_
    have k24_ : TA b0 v23_ G16_ := by rw [ev23_]; exact k21_
    have F25_ : Fr b0 475 G G16_ := Fr.trans F12_ f22_
    refine z_aload_n O dX5_load_28 rfl rfl ?_
    refine z_get (v := .ref (b0 + 55)) O wf_RX5_29 dX5_load_29 (T_obj k24_) rfl ?_
    refine z_callVv (As := []) (st := []) O (s_H_forget hfl (T_history_of k24_) h) wy_X0_forget wl_RX5_77 dX5_load_32 rfl rfl (H_obj (T_history_of k24_)) ⟨by decide, rfl⟩ ⟨Nat.le_of_ble_eq_true rfl, Nat.le_of_ble_eq_true rfl⟩ (Nat.le_of_ble_eq_true rfl) ⟨Nat.le_of_ble_eq_true rfl, Nat.le_of_ble_eq_true rfl⟩ (fun z27_ G28_ hq29_ => ?_)
    obtain ⟨rfl, v30_, k31_, f32_, h⟩ := hq29_
    have k33_ := T_put_history k24_ k31_ f32_
    have f34_ : Fr b0 475 G16_ G28_ := Fr.mono f32_ (by omega) (by omega)
    obtain ⟨v35_, ev35_⟩ : ∃ w, w = (T_set_history v23_ v30_) := ⟨_, rfl⟩
    have h := h v35_ ev35_
    have k36_ : TA b0 v35_ G28_ := by rw [ev35_]; exact k33_
    have F37_ : Fr b0 475 G G28_ := Fr.trans F25_ f34_
    refine z_iconst (v := 0) O dX5_load_35 (by decide) ?_
    refine z_istore_n (L' := [some (.ref b0), some (.int 0)]) O dX5_load_36 rfl (by decide) rfl ?_
    obtain ⟨n70_, h⟩ := h
    exact z_subL (L' := [some (.ref b0), some (.int 0)]) (zLe.sub (And.intro rfl (And.intro rfl True.intro))) (HL37 n70_ 0 v35_ G28_ k36_ F37_ h)
  · have h := h.2 c13_
    exact z_throw O wt_RX5_56_60 (tx := "the text is not a log") (is := 72) (by decide +kernel) dX5_load_11 dX5_load_14 dX5_load_15 dX5_load_17 dX5_load_20 hout (Nat.le_of_ble_eq_true rfl) (Nat.le_of_ble_eq_true rfl) (Nat.le_of_ble_eq_true rfl) (Nat.le_of_ble_eq_true rfl) hlk (fun z1 => ⟨_, k11_, F12_, h⟩) (Nat.le_of_ble_eq_true rfl) (Nat.le_of_ble_eq_true rfl)

theorem dX5_about_0 : decode cX5_about 0 = .ok (.iload_n 1, 1) := by decide +kernel
theorem dX5_about_1 : decode cX5_about 1 = .ok (.iconst 0, 1) := by decide +kernel
theorem dX5_about_2 : decode cX5_about 2 = .ok (.bipush 11, 2) := by decide +kernel
theorem dX5_about_4 : decode cX5_about 4 = .ok (.invokestatic 41, 3) := by decide +kernel
theorem dX5_about_7 : decode cX5_about 7 = .ok (.ifCond .ne 13, 3) := by decide +kernel
theorem dX5_about_10 : decode cX5_about 10 = .ok (.new 45, 3) := by decide +kernel
theorem dX5_about_13 : decode cX5_about 13 = .ok (.dup, 1) := by decide +kernel
theorem dX5_about_14 : decode cX5_about 14 = .ok (.ldc 84, 2) := by decide +kernel
theorem dX5_about_16 : decode cX5_about 16 = .ok (.invokespecial 49, 3) := by decide +kernel
theorem dX5_about_19 : decode cX5_about 19 = .ok (.athrow, 1) := by decide +kernel
theorem dX5_about_20 : decode cX5_about 20 = .ok (.aload_n 0, 1) := by decide +kernel
theorem dX5_about_21 : decode cX5_about 21 = .ok (.getfield 19, 3) := by decide +kernel
theorem dX5_about_24 : decode cX5_about 24 = .ok (.iload_n 1, 1) := by decide +kernel
theorem dX5_about_25 : decode cX5_about 25 = .ok (.invokevirtual 86, 3) := by decide +kernel
theorem dX5_about_28 : decode cX5_about 28 = .ok (.ireturn, 1) := by decide +kernel
def P_T_about (x1 : Int32) (v0 : TT) (X : String → Prop) (Q : Int32 → Prop) : Prop := P_T_isIn x1 0 11 (fun r1_ => (((¬ r1_ = 0 → P_S_number x1 (T_state v0) (fun r6_ => (Q r6_))) ∧ (r1_ = 0 → X "java/lang/IllegalArgumentException"))))
set_option maxRecDepth 100000 in
theorem s_T_about {l : Launch} {D : zD} {B : Nat} {sa : Nat → Nat} (hfl : l.stackTraces = false) {z : Nat} {G : zG} {b0 : Nat} {x1 : Int32} {v0 : TT} {X : String → Prop} {Q : Int32 → Prop} (h0 : TA b0 v0 G) (h : P_T_about x1 v0 X Q) : zSx l D B sa yX5_about cX5_about 2 (some .int) 6 108 1 6 [.ref b0, .int x1] z G (zRi fun r z' G' => z = z' ∧ G = G' ∧ Q r) (fun E z' G' => G = G' ∧ X E) := by
  unfold P_T_about at h
  refine z_ofX (by decide +kernel) hfl [some (.ref b0), some (.int x1)] rfl (Nat.le_of_ble_eq_true rfl) (fun p e s m args below meth c O hret hlk hout => ?_)
  have O : zO p l s m args c D B sa 2 cX5_about RX5 := O
  refine z_iload_n O dX5_about_0 rfl rfl ?_
  refine z_iconst (v := 0) O dX5_about_1 (by decide) ?_
  refine z_bipush (v := 11) O dX5_about_2 (by decide) ?_
  refine z_callSi (As := [.int x1, .int 0, .int 11]) (st := []) O (s_T_isIn hfl h) wy_X5_isIn wl_RX5_41 dX5_about_4 rfl rfl ⟨Nat.le_of_ble_eq_true rfl, Nat.le_of_ble_eq_true rfl⟩ (Nat.le_of_ble_eq_true rfl) ⟨Nat.le_of_ble_eq_true rfl, Nat.le_of_ble_eq_true rfl⟩ (fun r1_ z2_ G3_ hq4_ => ?_)
  obtain ⟨rfl, rfl, h⟩ := hq4_
  refine z_if_ne (tgt := 20) O dX5_about_7 (by decide) (fun c5_ => ?_) (fun c5_ => ?_)
  · have h := h.1 c5_
    refine z_aload_n O dX5_about_20 rfl rfl ?_
    refine z_get (v := .ref (b0 + 3)) O wf_RX5_19 dX5_about_21 (T_obj h0) rfl ?_
    refine z_iload_n O dX5_about_24 rfl rfl ?_
    refine z_callVi (As := [.int x1]) (st := []) O (s_S_number hfl (T_state_of h0) h) wy_X3_number wl_RX5_86 dX5_about_25 rfl rfl (S_obj (T_state_of h0)) ⟨by decide, rfl⟩ ⟨Nat.le_of_ble_eq_true rfl, Nat.le_of_ble_eq_true rfl⟩ (Nat.le_of_ble_eq_true rfl) ⟨Nat.le_of_ble_eq_true rfl, Nat.le_of_ble_eq_true rfl⟩ (fun r6_ z7_ G8_ hq9_ => ?_)
    obtain ⟨rfl, rfl, h⟩ := hq9_
    exact z_iretx O hret hlk dX5_about_28 (Nat.le_of_ble_eq_true rfl) (Nat.le_of_ble_eq_true rfl) ⟨_, rfl, rfl, rfl, h⟩
  · have h := h.2 c5_
    exact z_throw O wt_RX5_45_49 (tx := "what is not 0 to 11") (is := 84) (by decide +kernel) dX5_about_10 dX5_about_13 dX5_about_14 dX5_about_16 dX5_about_19 hout (Nat.le_of_ble_eq_true rfl) (Nat.le_of_ble_eq_true rfl) (Nat.le_of_ble_eq_true rfl) (Nat.le_of_ble_eq_true rfl) hlk (fun z1 => ⟨rfl, h⟩) (Nat.le_of_ble_eq_true rfl) (Nat.le_of_ble_eq_true rfl)

theorem dX5_rowOf_0 : decode cX5_rowOf 0 = .ok (.aload_n 0, 1) := by decide +kernel
theorem dX5_rowOf_1 : decode cX5_rowOf 1 = .ok (.getfield 19, 3) := by decide +kernel
theorem dX5_rowOf_4 : decode cX5_rowOf 4 = .ok (.getfield 90, 3) := by decide +kernel
theorem dX5_rowOf_7 : decode cX5_rowOf 7 = .ok (.iload_n 1, 1) := by decide +kernel
theorem dX5_rowOf_8 : decode cX5_rowOf 8 = .ok (.invokevirtual 94, 3) := by decide +kernel
theorem dX5_rowOf_11 : decode cX5_rowOf 11 = .ok (.ifCond .ne 13, 3) := by decide +kernel
theorem dX5_rowOf_14 : decode cX5_rowOf 14 = .ok (.new 100, 3) := by decide +kernel
theorem dX5_rowOf_17 : decode cX5_rowOf 17 = .ok (.dup, 1) := by decide +kernel
theorem dX5_rowOf_18 : decode cX5_rowOf 18 = .ok (.ldc 102, 2) := by decide +kernel
theorem dX5_rowOf_20 : decode cX5_rowOf 20 = .ok (.invokespecial 104, 3) := by decide +kernel
theorem dX5_rowOf_23 : decode cX5_rowOf 23 = .ok (.athrow, 1) := by decide +kernel
theorem dX5_rowOf_24 : decode cX5_rowOf 24 = .ok (.iload_n 2, 1) := by decide +kernel
theorem dX5_rowOf_25 : decode cX5_rowOf 25 = .ok (.iconst 0, 1) := by decide +kernel
theorem dX5_rowOf_26 : decode cX5_rowOf 26 = .ok (.iconst 5, 1) := by decide +kernel
theorem dX5_rowOf_27 : decode cX5_rowOf 27 = .ok (.invokestatic 41, 3) := by decide +kernel
theorem dX5_rowOf_30 : decode cX5_rowOf 30 = .ok (.ifCond .ne 13, 3) := by decide +kernel
theorem dX5_rowOf_33 : decode cX5_rowOf 33 = .ok (.new 45, 3) := by decide +kernel
theorem dX5_rowOf_36 : decode cX5_rowOf 36 = .ok (.dup, 1) := by decide +kernel
theorem dX5_rowOf_37 : decode cX5_rowOf 37 = .ok (.ldc 105, 2) := by decide +kernel
theorem dX5_rowOf_39 : decode cX5_rowOf 39 = .ok (.invokespecial 49, 3) := by decide +kernel
theorem dX5_rowOf_42 : decode cX5_rowOf 42 = .ok (.athrow, 1) := by decide +kernel
theorem dX5_rowOf_43 : decode cX5_rowOf 43 = .ok (.iload_n 2, 1) := by decide +kernel
theorem dX5_rowOf_44 : decode cX5_rowOf 44 = .ok (.iconst 5, 1) := by decide +kernel
theorem dX5_rowOf_45 : decode cX5_rowOf 45 = .ok (.if_icmp .ne 14, 3) := by decide +kernel
theorem dX5_rowOf_48 : decode cX5_rowOf 48 = .ok (.aload_n 0, 1) := by decide +kernel
theorem dX5_rowOf_49 : decode cX5_rowOf 49 = .ok (.getfield 19, 3) := by decide +kernel
theorem dX5_rowOf_52 : decode cX5_rowOf 52 = .ok (.iload_n 1, 1) := by decide +kernel
theorem dX5_rowOf_53 : decode cX5_rowOf 53 = .ok (.invokevirtual 107, 3) := by decide +kernel
theorem dX5_rowOf_56 : decode cX5_rowOf 56 = .ok (.goto 15, 3) := by decide +kernel
theorem dX5_rowOf_59 : decode cX5_rowOf 59 = .ok (.aload_n 0, 1) := by decide +kernel
theorem dX5_rowOf_60 : decode cX5_rowOf 60 = .ok (.getfield 19, 3) := by decide +kernel
theorem dX5_rowOf_63 : decode cX5_rowOf 63 = .ok (.getfield 90, 3) := by decide +kernel
theorem dX5_rowOf_66 : decode cX5_rowOf 66 = .ok (.iload_n 1, 1) := by decide +kernel
theorem dX5_rowOf_67 : decode cX5_rowOf 67 = .ok (.iload_n 2, 1) := by decide +kernel
theorem dX5_rowOf_68 : decode cX5_rowOf 68 = .ok (.invokevirtual 110, 3) := by decide +kernel
theorem dX5_rowOf_71 : decode cX5_rowOf 71 = .ok (.ireturn, 1) := by decide +kernel
def P_T_rowOf (x1 : Int32) (x2 : Int32) (v0 : TT) (X : String → Prop) (Q : Int32 → Prop) : Prop := P_L_hasRow x1 (S_log (T_state v0)) (fun r1_ => (((¬ r1_ = 0 → P_T_isIn x2 0 5 (fun r6_ => (((¬ r6_ = 0 → ((¬ x2 = 5 → P_L_rowNumber x1 x2 (S_log (T_state v0)) (fun r12_ => (Q r12_))) ∧ (x2 = 5 → P_S_holdersUpTo x1 (T_state v0) (fun r16_ => (Q r16_))))) ∧ (r6_ = 0 → X "java/lang/IllegalArgumentException"))))) ∧ (r1_ = 0 → X "java/lang/IndexOutOfBoundsException"))))
set_option maxRecDepth 100000 in
theorem s_T_rowOf {l : Launch} {D : zD} {B : Nat} {sa : Nat → Nat} (hfl : l.stackTraces = false) {z : Nat} {G : zG} {b0 : Nat} {x1 : Int32} {x2 : Int32} {v0 : TT} {X : String → Prop} {Q : Int32 → Prop} (h0 : TA b0 v0 G) (h : P_T_rowOf x1 x2 v0 X Q) : zSx l D B sa yX5_rowOf cX5_rowOf 3 (some .int) 6 90 1 6 [.ref b0, .int x1, .int x2] z G (zRi fun r z' G' => z = z' ∧ G = G' ∧ Q r) (fun E z' G' => G = G' ∧ X E) := by
  unfold P_T_rowOf at h
  refine z_ofX (by decide +kernel) hfl [some (.ref b0), some (.int x1), some (.int x2)] rfl (Nat.le_of_ble_eq_true rfl) (fun p e s m args below meth c O hret hlk hout => ?_)
  have O : zO p l s m args c D B sa 3 cX5_rowOf RX5 := O
  refine z_aload_n O dX5_rowOf_0 rfl rfl ?_
  refine z_get (v := .ref (b0 + 3)) O wf_RX5_19 dX5_rowOf_1 (T_obj h0) rfl ?_
  refine z_get (v := .ref ((b0 + 3) + 1)) O wf_RX5_90 dX5_rowOf_4 (S_obj (T_state_of h0)) rfl ?_
  refine z_iload_n O dX5_rowOf_7 rfl rfl ?_
  refine z_callVi (As := [.int x1]) (st := []) O (s_L_hasRow hfl (S_log_of (T_state_of h0)) h) wy_X1_hasRow wl_RX5_94 dX5_rowOf_8 rfl rfl (L_obj (S_log_of (T_state_of h0))) ⟨by decide, rfl⟩ ⟨Nat.le_of_ble_eq_true rfl, Nat.le_of_ble_eq_true rfl⟩ (Nat.le_of_ble_eq_true rfl) ⟨Nat.le_of_ble_eq_true rfl, Nat.le_of_ble_eq_true rfl⟩ (fun r1_ z2_ G3_ hq4_ => ?_)
  obtain ⟨rfl, rfl, h⟩ := hq4_
  refine z_if_ne (tgt := 24) O dX5_rowOf_11 (by decide) (fun c5_ => ?_) (fun c5_ => ?_)
  · have h := h.1 c5_
    refine z_iload_n O dX5_rowOf_24 rfl rfl ?_
    refine z_iconst (v := 0) O dX5_rowOf_25 (by decide) ?_
    refine z_iconst (v := 5) O dX5_rowOf_26 (by decide) ?_
    refine z_callSi (As := [.int x2, .int 0, .int 5]) (st := []) O (s_T_isIn hfl h) wy_X5_isIn wl_RX5_41 dX5_rowOf_27 rfl rfl ⟨Nat.le_of_ble_eq_true rfl, Nat.le_of_ble_eq_true rfl⟩ (Nat.le_of_ble_eq_true rfl) ⟨Nat.le_of_ble_eq_true rfl, Nat.le_of_ble_eq_true rfl⟩ (fun r6_ z7_ G8_ hq9_ => ?_)
    obtain ⟨rfl, rfl, h⟩ := hq9_
    refine z_if_ne (tgt := 43) O dX5_rowOf_30 (by decide) (fun c10_ => ?_) (fun c10_ => ?_)
    · have h := h.1 c10_
      refine z_iload_n O dX5_rowOf_43 rfl rfl ?_
      refine z_iconst (v := 5) O dX5_rowOf_44 (by decide) ?_
      refine z_icmp_ne (tgt := 59) O dX5_rowOf_45 (by decide) (fun c11_ => ?_) (fun c11_ => ?_)
      · have h := h.1 c11_
        refine z_aload_n O dX5_rowOf_59 rfl rfl ?_
        refine z_get (v := .ref (b0 + 3)) O wf_RX5_19 dX5_rowOf_60 (T_obj h0) rfl ?_
        refine z_get (v := .ref ((b0 + 3) + 1)) O wf_RX5_90 dX5_rowOf_63 (S_obj (T_state_of h0)) rfl ?_
        refine z_iload_n O dX5_rowOf_66 rfl rfl ?_
        refine z_iload_n O dX5_rowOf_67 rfl rfl ?_
        refine z_callVi (As := [.int x1, .int x2]) (st := []) O (s_L_rowNumber hfl (S_log_of (T_state_of h0)) h) wy_X1_rowNumber wl_RX5_110 dX5_rowOf_68 rfl rfl (L_obj (S_log_of (T_state_of h0))) ⟨by decide, rfl⟩ ⟨Nat.le_of_ble_eq_true rfl, Nat.le_of_ble_eq_true rfl⟩ (Nat.le_of_ble_eq_true rfl) ⟨Nat.le_of_ble_eq_true rfl, Nat.le_of_ble_eq_true rfl⟩ (fun r12_ z13_ G14_ hq15_ => ?_)
        obtain ⟨rfl, rfl, h⟩ := hq15_
        exact z_iretx O hret hlk dX5_rowOf_71 (Nat.le_of_ble_eq_true rfl) (Nat.le_of_ble_eq_true rfl) ⟨_, rfl, rfl, rfl, h⟩
      · have h := h.2 c11_
        refine z_aload_n O dX5_rowOf_48 rfl rfl ?_
        refine z_get (v := .ref (b0 + 3)) O wf_RX5_19 dX5_rowOf_49 (T_obj h0) rfl ?_
        refine z_iload_n O dX5_rowOf_52 rfl rfl ?_
        refine z_callVi (As := [.int x1]) (st := []) O (s_S_holdersUpTo hfl (T_state_of h0) h) wy_X3_holdersUpTo wl_RX5_107 dX5_rowOf_53 rfl rfl (S_obj (T_state_of h0)) ⟨by decide, rfl⟩ ⟨Nat.le_of_ble_eq_true rfl, Nat.le_of_ble_eq_true rfl⟩ (Nat.le_of_ble_eq_true rfl) ⟨Nat.le_of_ble_eq_true rfl, Nat.le_of_ble_eq_true rfl⟩ (fun r16_ z17_ G18_ hq19_ => ?_)
        obtain ⟨rfl, rfl, h⟩ := hq19_
        refine z_goto (tgt := 71) O dX5_rowOf_56 (by decide) ?_
        exact z_iretx O hret hlk dX5_rowOf_71 (Nat.le_of_ble_eq_true rfl) (Nat.le_of_ble_eq_true rfl) ⟨_, rfl, rfl, rfl, h⟩
    · have h := h.2 c10_
      exact z_throw O wt_RX5_45_49 (tx := "what is not 0 to 5") (is := 105) (by decide +kernel) dX5_rowOf_33 dX5_rowOf_36 dX5_rowOf_37 dX5_rowOf_39 dX5_rowOf_42 hout (Nat.le_of_ble_eq_true rfl) (Nat.le_of_ble_eq_true rfl) (Nat.le_of_ble_eq_true rfl) (Nat.le_of_ble_eq_true rfl) hlk (fun z1 => ⟨rfl, h⟩) (Nat.le_of_ble_eq_true rfl) (Nat.le_of_ble_eq_true rfl)
  · have h := h.2 c5_
    exact z_throw O wt_RX5_100_104 (tx := "the log has no such row") (is := 102) (by decide +kernel) dX5_rowOf_14 dX5_rowOf_17 dX5_rowOf_18 dX5_rowOf_20 dX5_rowOf_23 hout (Nat.le_of_ble_eq_true rfl) (Nat.le_of_ble_eq_true rfl) (Nat.le_of_ble_eq_true rfl) (Nat.le_of_ble_eq_true rfl) hlk (fun z1 => ⟨rfl, h⟩) (Nat.le_of_ble_eq_true rfl) (Nat.le_of_ble_eq_true rfl)
