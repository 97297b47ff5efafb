theorem dX2_renew_0 : decode cX2_renew 0 = .ok (.aload_n 0, 1) := by decide +kernel
theorem dX2_renew_1 : decode cX2_renew 1 = .ok (.iconst 0, 1) := by decide +kernel
theorem dX2_renew_2 : decode cX2_renew 2 = .ok (.putfield 15, 3) := by decide +kernel
theorem dX2_renew_5 : decode cX2_renew 5 = .ok (.aload_n 0, 1) := by decide +kernel
theorem dX2_renew_6 : decode cX2_renew 6 = .ok (.iconst 0, 1) := by decide +kernel
theorem dX2_renew_7 : decode cX2_renew 7 = .ok (.putfield 19, 3) := by decide +kernel
theorem dX2_renew_10 : decode cX2_renew 10 = .ok (.aload_n 0, 1) := by decide +kernel
theorem dX2_renew_11 : decode cX2_renew 11 = .ok (.iconst 0, 1) := by decide +kernel
theorem dX2_renew_12 : decode cX2_renew 12 = .ok (.putfield 22, 3) := by decide +kernel
theorem dX2_renew_15 : decode cX2_renew 15 = .ok (.return_, 1) := by decide +kernel
def P_R_renew (v0 : RT) (Q : RT → Prop) : Prop := ∀ v6_, v6_ = (R_set_present v0 0) → (∀ v14_, v14_ = (R_set_hasLeft v6_ 0) → (∀ v22_, v22_ = (R_set_held v14_ 0) → (Q v22_)))
set_option maxRecDepth 100000 in
theorem s_R_renew {l : Launch} {D : zD} {B : Nat} {sa : Nat → Nat} (hfl : l.stackTraces = false) {z : Nat} {G : zG} {b0 : Nat} {v0 : RT} {Q : RT → Prop} (h0 : RA b0 v0 G) (h : P_R_renew v0 Q) : zSp l D B sa yX2_renew cX2_renew 1 none 0 0 0 0 [.ref b0] z G (zRv fun z' G' => z = z' ∧ ∃ w, RA b0 w G' ∧ Fr b0 2 G G' ∧ Q w) := by
  unfold P_R_renew at h
  refine z_ofW (by decide +kernel) hfl [some (.ref b0)] rfl (Nat.le_of_ble_eq_true rfl) (fun p e s m args below meth c O hret hlk hnm => ?_)
  have O : zO p l s m args c D B sa 1 cX2_renew RX2 := O
  refine z_aload_n O dX2_renew_0 rfl rfl ?_
  refine z_iconst (v := 0) O dX2_renew_1 (by decide) ?_
  refine y_put O wp_RX2_15 dX2_renew_2 (R_obj h0) rfl rfl (fun G1_ hw2_ => ?_)
  have k3_ := R_w_present h0 hw2_
  have f4_ := hw2_.fr
  have f5_ : Fr b0 2 G G1_ := Fr.mono f4_ (by omega) (by omega)
  obtain ⟨v6_, ev6_⟩ : ∃ w, w = (R_set_present v0 0) := ⟨_, rfl⟩
  have h := h v6_ ev6_
  have k7_ : RA b0 v6_ G1_ := by rw [ev6_]; exact k3_
  have F8_ : Fr b0 2 G G1_ := Fr.trans Fr.rf f5_
  refine z_aload_n O dX2_renew_5 rfl rfl ?_
  refine z_iconst (v := 0) O dX2_renew_6 (by decide) ?_
  refine y_put O wp_RX2_19 dX2_renew_7 (R_obj k7_) rfl rfl (fun G9_ hw10_ => ?_)
  have k11_ := R_w_hasLeft k7_ hw10_
  have f12_ := hw10_.fr
  have f13_ : Fr b0 2 G1_ G9_ := Fr.mono f12_ (by omega) (by omega)
  obtain ⟨v14_, ev14_⟩ : ∃ w, w = (R_set_hasLeft v6_ 0) := ⟨_, rfl⟩
  have h := h v14_ ev14_
  have k15_ : RA b0 v14_ G9_ := by rw [ev14_]; exact k11_
  have F16_ : Fr b0 2 G G9_ := Fr.trans F8_ f13_
  refine z_aload_n O dX2_renew_10 rfl rfl ?_
  refine z_iconst (v := 0) O dX2_renew_11 (by decide) ?_
  refine y_put O wp_RX2_22 dX2_renew_12 (R_obj k15_) rfl rfl (fun G17_ hw18_ => ?_)
  have k19_ := R_w_held k15_ hw18_
  have f20_ := hw18_.fr
  have f21_ : Fr b0 2 G9_ G17_ := Fr.mono f20_ (by omega) (by omega)
  obtain ⟨v22_, ev22_⟩ : ∃ w, w = (R_set_held v14_ 0) := ⟨_, rfl⟩
  have h := h v22_ ev22_
  have k23_ : RA b0 v22_ G17_ := by rw [ev22_]; exact k19_
  have F24_ : Fr b0 2 G G17_ := Fr.trans F16_ f21_
  exact z_vret O hret hlk dX2_renew_15 (Nat.le_of_ble_eq_true rfl) (Nat.le_of_ble_eq_true rfl) ⟨rfl, rfl, _, k23_, F24_, h⟩

theorem dX2_takeOver_0 : decode cX2_takeOver 0 = .ok (.aload_n 1, 1) := by decide +kernel
theorem dX2_takeOver_1 : decode cX2_takeOver 1 = .ok (.getfield 9, 3) := by decide +kernel
theorem dX2_takeOver_4 : decode cX2_takeOver 4 = .ok (.aload_n 0, 1) := by decide +kernel
theorem dX2_takeOver_5 : decode cX2_takeOver 5 = .ok (.getfield 9, 3) := by decide +kernel
theorem dX2_takeOver_8 : decode cX2_takeOver 8 = .ok (.invokestatic 25, 3) := by decide +kernel
theorem dX2_takeOver_11 : decode cX2_takeOver 11 = .ok (.aload_n 0, 1) := by decide +kernel
theorem dX2_takeOver_12 : decode cX2_takeOver 12 = .ok (.aload_n 1, 1) := by decide +kernel
theorem dX2_takeOver_13 : decode cX2_takeOver 13 = .ok (.getfield 15, 3) := by decide +kernel
theorem dX2_takeOver_16 : decode cX2_takeOver 16 = .ok (.putfield 15, 3) := by decide +kernel
theorem dX2_takeOver_19 : decode cX2_takeOver 19 = .ok (.aload_n 0, 1) := by decide +kernel
theorem dX2_takeOver_20 : decode cX2_takeOver 20 = .ok (.aload_n 1, 1) := by decide +kernel
theorem dX2_takeOver_21 : decode cX2_takeOver 21 = .ok (.getfield 19, 3) := by decide +kernel
theorem dX2_takeOver_24 : decode cX2_takeOver 24 = .ok (.putfield 19, 3) := by decide +kernel
theorem dX2_takeOver_27 : decode cX2_takeOver 27 = .ok (.aload_n 0, 1) := by decide +kernel
theorem dX2_takeOver_28 : decode cX2_takeOver 28 = .ok (.aload_n 1, 1) := by decide +kernel
theorem dX2_takeOver_29 : decode cX2_takeOver 29 = .ok (.getfield 22, 3) := by decide +kernel
theorem dX2_takeOver_32 : decode cX2_takeOver 32 = .ok (.putfield 22, 3) := by decide +kernel
theorem dX2_takeOver_35 : decode cX2_takeOver 35 = .ok (.aload_n 0, 1) := by decide +kernel
theorem dX2_takeOver_36 : decode cX2_takeOver 36 = .ok (.aload_n 1, 1) := by decide +kernel
theorem dX2_takeOver_37 : decode cX2_takeOver 37 = .ok (.getfield 29, 3) := by decide +kernel
theorem dX2_takeOver_40 : decode cX2_takeOver 40 = .ok (.putfield 29, 3) := by decide +kernel
theorem dX2_takeOver_43 : decode cX2_takeOver 43 = .ok (.aload_n 0, 1) := by decide +kernel
theorem dX2_takeOver_44 : decode cX2_takeOver 44 = .ok (.aload_n 1, 1) := by decide +kernel
theorem dX2_takeOver_45 : decode cX2_takeOver 45 = .ok (.getfield 33, 3) := by decide +kernel
theorem dX2_takeOver_48 : decode cX2_takeOver 48 = .ok (.putfield 33, 3) := by decide +kernel
theorem dX2_takeOver_51 : decode cX2_takeOver 51 = .ok (.aload_n 0, 1) := by decide +kernel
theorem dX2_takeOver_52 : decode cX2_takeOver 52 = .ok (.aload_n 1, 1) := by decide +kernel
theorem dX2_takeOver_53 : decode cX2_takeOver 53 = .ok (.getfield 36, 3) := by decide +kernel
theorem dX2_takeOver_56 : decode cX2_takeOver 56 = .ok (.putfield 36, 3) := by decide +kernel
theorem dX2_takeOver_59 : decode cX2_takeOver 59 = .ok (.aload_n 0, 1) := by decide +kernel
theorem dX2_takeOver_60 : decode cX2_takeOver 60 = .ok (.aload_n 1, 1) := by decide +kernel
theorem dX2_takeOver_61 : decode cX2_takeOver 61 = .ok (.getfield 39, 3) := by decide +kernel
theorem dX2_takeOver_64 : decode cX2_takeOver 64 = .ok (.putfield 39, 3) := by decide +kernel
theorem dX2_takeOver_67 : decode cX2_takeOver 67 = .ok (.aload_n 0, 1) := by decide +kernel
theorem dX2_takeOver_68 : decode cX2_takeOver 68 = .ok (.aload_n 1, 1) := by decide +kernel
theorem dX2_takeOver_69 : decode cX2_takeOver 69 = .ok (.getfield 42, 3) := by decide +kernel
theorem dX2_takeOver_72 : decode cX2_takeOver 72 = .ok (.putfield 42, 3) := by decide +kernel
theorem dX2_takeOver_75 : decode cX2_takeOver 75 = .ok (.return_, 1) := by decide +kernel
def P_R_takeOver (v0 : RT) (v1 : RT) (Q : RT → Prop) : Prop := P_T_copy 8 8 (R_values v1) (R_values v0) (fun v5_ => (∀ v10_, v10_ = (R_set_values v0 v5_) → (zb (R_present v1) ∧ (∀ v20_, v20_ = (R_set_present v10_ (R_present v1)) → (zb (R_hasLeft v1) ∧ (∀ v30_, v30_ = (R_set_hasLeft v20_ (R_hasLeft v1)) → (zb (R_held v1) ∧ (∀ v40_, v40_ = (R_set_held v30_ (R_held v1)) → (∀ v49_, v49_ = (R_set_place v40_ (R_place v1)) → (∀ v58_, v58_ = (R_set_readSoFar v49_ (R_readSoFar v1)) → (∀ v67_, v67_ = (R_set_missedSoFar v58_ (R_missedSoFar v1)) → (∀ v76_, v76_ = (R_set_lastRead v67_ (R_lastRead v1)) → (∀ v85_, v85_ = (R_set_lostBy v76_ (R_lostBy v1)) → (Q v85_))))))))))))))
set_option maxRecDepth 100000 in
theorem s_R_takeOver {l : Launch} {D : zD} {B : Nat} {sa : Nat → Nat} (hfl : l.stackTraces = false) {z : Nat} {G : zG} {b0 : Nat} {b1 : Nat} {v0 : RT} {v1 : RT} {Q : RT → Prop} (h0 : RA b0 v0 G) (h1 : RA b1 v1 G) (d01 : b0 + 2 ≤ b1 ∨ b1 + 2 ≤ b0) (h : P_R_takeOver v0 v1 Q) : zSp l D B sa yX2_takeOver cX2_takeOver 2 none 2 73 0 0 [.ref b0, .ref b1] z G (zRv fun z' G' => z = z' ∧ ∃ w, RA b0 w G' ∧ Fr b0 2 G G' ∧ Q w) := by
  unfold P_R_takeOver at h
  refine z_ofW (by decide +kernel) hfl [some (.ref b0), some (.ref b1)] rfl (Nat.le_of_ble_eq_true rfl) (fun p e s m args below meth c O hret hlk hnm => ?_)
  have O : zO p l s m args c D B sa 2 cX2_takeOver RX2 := O
  refine z_aload_n O dX2_takeOver_0 rfl rfl ?_
  refine z_get (v := .ref (b1 + 1)) O wf_RX2_9 dX2_takeOver_1 (R_obj h1) rfl ?_
  refine z_aload_n O dX2_takeOver_4 rfl rfl ?_
  refine z_get (v := .ref (b0 + 1)) O wf_RX2_9 dX2_takeOver_5 (R_obj h0) rfl ?_
  refine z_callNv (As := [.ref (b1 + 1), .ref (b0 + 1)]) (st := []) O (s_T_copy hfl (R_values_of h1) (R_values_of h0) (by omega) h) wy_X5_copy wl_RX2_25 dX2_takeOver_8 rfl rfl ⟨Nat.le_of_ble_eq_true rfl, Nat.le_of_ble_eq_true rfl⟩ (Nat.le_of_ble_eq_true rfl) ⟨Nat.le_of_ble_eq_true rfl, Nat.le_of_ble_eq_true rfl⟩ (fun z2_ G3_ hq4_ => ?_)
  obtain ⟨rfl, v5_, k6_, f7_, h⟩ := hq4_
  have k8_ := R_put_values h0 k6_ f7_
  have f9_ : Fr b0 2 G G3_ := Fr.mono f7_ (by omega) (by omega)
  obtain ⟨v10_, ev10_⟩ : ∃ w, w = (R_set_values v0 v5_) := ⟨_, rfl⟩
  have h := h v10_ ev10_
  have k11_ : RA b0 v10_ G3_ := by rw [ev10_]; exact k8_
  have k12_ := RA.fr h1 f9_ (by omega)
  have F13_ : Fr b0 2 G G3_ := Fr.trans Fr.rf f9_
  refine z_aload_n O dX2_takeOver_11 rfl rfl ?_
  refine z_aload_n O dX2_takeOver_12 rfl rfl ?_
  refine z_get (v := .int (R_present v1)) O wf_RX2_15 dX2_takeOver_13 (R_obj k12_) rfl ?_
  obtain ⟨q14_, h⟩ := h
  refine y_put O wp_RX2_15 dX2_takeOver_16 (R_obj k11_) (z_narb q14_) (z_fitb q14_) (fun G15_ hw16_ => ?_)
  have k17_ := R_w_present k11_ hw16_
  have f18_ := hw16_.fr
  have f19_ : Fr b0 2 G3_ G15_ := Fr.mono f18_ (by omega) (by omega)
  obtain ⟨v20_, ev20_⟩ : ∃ w, w = (R_set_present v10_ (R_present v1)) := ⟨_, rfl⟩
  have h := h v20_ ev20_
  have k21_ : RA b0 v20_ G15_ := by rw [ev20_]; exact k17_
  have k22_ := RA.fr k12_ f19_ (by omega)
  have F23_ : Fr b0 2 G G15_ := Fr.trans F13_ f19_
  refine z_aload_n O dX2_takeOver_19 rfl rfl ?_
  refine z_aload_n O dX2_takeOver_20 rfl rfl ?_
  refine z_get (v := .int (R_hasLeft v1)) O wf_RX2_19 dX2_takeOver_21 (R_obj k22_) rfl ?_
  obtain ⟨q24_, h⟩ := h
  refine y_put O wp_RX2_19 dX2_takeOver_24 (R_obj k21_) (z_narb q24_) (z_fitb q24_) (fun G25_ hw26_ => ?_)
  have k27_ := R_w_hasLeft k21_ hw26_
  have f28_ := hw26_.fr
  have f29_ : Fr b0 2 G15_ G25_ := Fr.mono f28_ (by omega) (by omega)
  obtain ⟨v30_, ev30_⟩ : ∃ w, w = (R_set_hasLeft v20_ (R_hasLeft v1)) := ⟨_, rfl⟩
  have h := h v30_ ev30_
  have k31_ : RA b0 v30_ G25_ := by rw [ev30_]; exact k27_
  have k32_ := RA.fr k22_ f29_ (by omega)
  have F33_ : Fr b0 2 G G25_ := Fr.trans F23_ f29_
  refine z_aload_n O dX2_takeOver_27 rfl rfl ?_
  refine z_aload_n O dX2_takeOver_28 rfl rfl ?_
  refine z_get (v := .int (R_held v1)) O wf_RX2_22 dX2_takeOver_29 (R_obj k32_) rfl ?_
  obtain ⟨q34_, h⟩ := h
  refine y_put O wp_RX2_22 dX2_takeOver_32 (R_obj k31_) (z_narb q34_) (z_fitb q34_) (fun G35_ hw36_ => ?_)
  have k37_ := R_w_held k31_ hw36_
  have f38_ := hw36_.fr
  have f39_ : Fr b0 2 G25_ G35_ := Fr.mono f38_ (by omega) (by omega)
  obtain ⟨v40_, ev40_⟩ : ∃ w, w = (R_set_held v30_ (R_held v1)) := ⟨_, rfl⟩
  have h := h v40_ ev40_
  have k41_ : RA b0 v40_ G35_ := by rw [ev40_]; exact k37_
  have k42_ := RA.fr k32_ f39_ (by omega)
  have F43_ : Fr b0 2 G G35_ := Fr.trans F33_ f39_
  refine z_aload_n O dX2_takeOver_35 rfl rfl ?_
  refine z_aload_n O dX2_takeOver_36 rfl rfl ?_
  refine z_get (v := .int (R_place v1)) O wf_RX2_29 dX2_takeOver_37 (R_obj k42_) rfl ?_
  refine y_put O wp_RX2_29 dX2_takeOver_40 (R_obj k41_) rfl rfl (fun G44_ hw45_ => ?_)
  have k46_ := R_w_place k41_ hw45_
  have f47_ := hw45_.fr
  have f48_ : Fr b0 2 G35_ G44_ := Fr.mono f47_ (by omega) (by omega)
  obtain ⟨v49_, ev49_⟩ : ∃ w, w = (R_set_place v40_ (R_place v1)) := ⟨_, rfl⟩
  have h := h v49_ ev49_
  have k50_ : RA b0 v49_ G44_ := by rw [ev49_]; exact k46_
  have k51_ := RA.fr k42_ f48_ (by omega)
  have F52_ : Fr b0 2 G G44_ := Fr.trans F43_ f48_
  refine z_aload_n O dX2_takeOver_43 rfl rfl ?_
  refine z_aload_n O dX2_takeOver_44 rfl rfl ?_
  refine z_get (v := .int (R_readSoFar v1)) O wf_RX2_33 dX2_takeOver_45 (R_obj k51_) rfl ?_
  refine y_put O wp_RX2_33 dX2_takeOver_48 (R_obj k50_) rfl rfl (fun G53_ hw54_ => ?_)
  have k55_ := R_w_readSoFar k50_ hw54_
  have f56_ := hw54_.fr
  have f57_ : Fr b0 2 G44_ G53_ := Fr.mono f56_ (by omega) (by omega)
  obtain ⟨v58_, ev58_⟩ : ∃ w, w = (R_set_readSoFar v49_ (R_readSoFar v1)) := ⟨_, rfl⟩
  have h := h v58_ ev58_
  have k59_ : RA b0 v58_ G53_ := by rw [ev58_]; exact k55_
  have k60_ := RA.fr k51_ f57_ (by omega)
  have F61_ : Fr b0 2 G G53_ := Fr.trans F52_ f57_
  refine z_aload_n O dX2_takeOver_51 rfl rfl ?_
  refine z_aload_n O dX2_takeOver_52 rfl rfl ?_
  refine z_get (v := .int (R_missedSoFar v1)) O wf_RX2_36 dX2_takeOver_53 (R_obj k60_) rfl ?_
  refine y_put O wp_RX2_36 dX2_takeOver_56 (R_obj k59_) rfl rfl (fun G62_ hw63_ => ?_)
  have k64_ := R_w_missedSoFar k59_ hw63_
  have f65_ := hw63_.fr
  have f66_ : Fr b0 2 G53_ G62_ := Fr.mono f65_ (by omega) (by omega)
  obtain ⟨v67_, ev67_⟩ : ∃ w, w = (R_set_missedSoFar v58_ (R_missedSoFar v1)) := ⟨_, rfl⟩
  have h := h v67_ ev67_
  have k68_ : RA b0 v67_ G62_ := by rw [ev67_]; exact k64_
  have k69_ := RA.fr k60_ f66_ (by omega)
  have F70_ : Fr b0 2 G G62_ := Fr.trans F61_ f66_
  refine z_aload_n O dX2_takeOver_59 rfl rfl ?_
  refine z_aload_n O dX2_takeOver_60 rfl rfl ?_
  refine z_get (v := .int (R_lastRead v1)) O wf_RX2_39 dX2_takeOver_61 (R_obj k69_) rfl ?_
  refine y_put O wp_RX2_39 dX2_takeOver_64 (R_obj k68_) rfl rfl (fun G71_ hw72_ => ?_)
  have k73_ := R_w_lastRead k68_ hw72_
  have f74_ := hw72_.fr
  have f75_ : Fr b0 2 G62_ G71_ := Fr.mono f74_ (by omega) (by omega)
  obtain ⟨v76_, ev76_⟩ : ∃ w, w = (R_set_lastRead v67_ (R_lastRead v1)) := ⟨_, rfl⟩
  have h := h v76_ ev76_
  have k77_ : RA b0 v76_ G71_ := by rw [ev76_]; exact k73_
  have k78_ := RA.fr k69_ f75_ (by omega)
  have F79_ : Fr b0 2 G G71_ := Fr.trans F70_ f75_
  refine z_aload_n O dX2_takeOver_67 rfl rfl ?_
  refine z_aload_n O dX2_takeOver_68 rfl rfl ?_
  refine z_get (v := .int (R_lostBy v1)) O wf_RX2_42 dX2_takeOver_69 (R_obj k78_) rfl ?_
  refine y_put O wp_RX2_42 dX2_takeOver_72 (R_obj k77_) rfl rfl (fun G80_ hw81_ => ?_)
  have k82_ := R_w_lostBy k77_ hw81_
  have f83_ := hw81_.fr
  have f84_ : Fr b0 2 G71_ G80_ := Fr.mono f83_ (by omega) (by omega)
  obtain ⟨v85_, ev85_⟩ : ∃ w, w = (R_set_lostBy v76_ (R_lostBy v1)) := ⟨_, rfl⟩
  have h := h v85_ ev85_
  have k86_ : RA b0 v85_ G80_ := by rw [ev85_]; exact k82_
  have k87_ := RA.fr k78_ f84_ (by omega)
  have F88_ : Fr b0 2 G G80_ := Fr.trans F79_ f84_
  exact z_vret O hret hlk dX2_takeOver_75 (Nat.le_of_ble_eq_true rfl) (Nat.le_of_ble_eq_true rfl) ⟨rfl, rfl, _, k86_, F88_, h⟩

theorem dX2_arrive_0 : decode cX2_arrive 0 = .ok (.aload_n 0, 1) := by decide +kernel
theorem dX2_arrive_1 : decode cX2_arrive 1 = .ok (.iconst 1, 1) := by decide +kernel
theorem dX2_arrive_2 : decode cX2_arrive 2 = .ok (.putfield 15, 3) := by decide +kernel
theorem dX2_arrive_5 : decode cX2_arrive 5 = .ok (.aload_n 0, 1) := by decide +kernel
theorem dX2_arrive_6 : decode cX2_arrive 6 = .ok (.iload_n 2, 1) := by decide +kernel
theorem dX2_arrive_7 : decode cX2_arrive 7 = .ok (.putfield 22, 3) := by decide +kernel
theorem dX2_arrive_10 : decode cX2_arrive 10 = .ok (.aload_n 0, 1) := by decide +kernel
theorem dX2_arrive_11 : decode cX2_arrive 11 = .ok (.iconst 0, 1) := by decide +kernel
theorem dX2_arrive_12 : decode cX2_arrive 12 = .ok (.putfield 33, 3) := by decide +kernel
theorem dX2_arrive_15 : decode cX2_arrive 15 = .ok (.aload_n 0, 1) := by decide +kernel
theorem dX2_arrive_16 : decode cX2_arrive 16 = .ok (.iconst 0, 1) := by decide +kernel
theorem dX2_arrive_17 : decode cX2_arrive 17 = .ok (.putfield 36, 3) := by decide +kernel
theorem dX2_arrive_20 : decode cX2_arrive 20 = .ok (.aload_n 0, 1) := by decide +kernel
theorem dX2_arrive_21 : decode cX2_arrive 21 = .ok (.iload_n 1, 1) := by decide +kernel
theorem dX2_arrive_22 : decode cX2_arrive 22 = .ok (.putfield 39, 3) := by decide +kernel
theorem dX2_arrive_25 : decode cX2_arrive 25 = .ok (.aload_n 0, 1) := by decide +kernel
theorem dX2_arrive_26 : decode cX2_arrive 26 = .ok (.iconst 0, 1) := by decide +kernel
theorem dX2_arrive_27 : decode cX2_arrive 27 = .ok (.putfield 42, 3) := by decide +kernel
theorem dX2_arrive_30 : decode cX2_arrive 30 = .ok (.return_, 1) := by decide +kernel
def P_R_arrive (x1 : Int32) (x2 : Int32) (v0 : RT) (Q : RT → Prop) : Prop := ∀ v6_, v6_ = (R_set_present v0 1) → (zb x2 ∧ (∀ v15_, v15_ = (R_set_held v6_ x2) → (∀ v23_, v23_ = (R_set_readSoFar v15_ 0) → (∀ v31_, v31_ = (R_set_missedSoFar v23_ 0) → (∀ v39_, v39_ = (R_set_lastRead v31_ x1) → (∀ v47_, v47_ = (R_set_lostBy v39_ 0) → (Q v47_)))))))
set_option maxRecDepth 100000 in
theorem s_R_arrive {l : Launch} {D : zD} {B : Nat} {sa : Nat → Nat} (hfl : l.stackTraces = false) {z : Nat} {G : zG} {b0 : Nat} {x1 : Int32} {x2 : Int32} {v0 : RT} {Q : RT → Prop} (h0 : RA b0 v0 G) (h : P_R_arrive x1 x2 v0 Q) : zSp l D B sa yX2_arrive cX2_arrive 3 none 0 0 0 0 [.ref b0, .int x1, .int x2] z G (zRv fun z' G' => z = z' ∧ ∃ w, RA b0 w G' ∧ Fr b0 2 G G' ∧ Q w) := by
  unfold P_R_arrive at h
  refine z_ofW (by decide +kernel) hfl [some (.ref b0), some (.int x1), some (.int x2)] rfl (Nat.le_of_ble_eq_true rfl) (fun p e s m args below meth c O hret hlk hnm => ?_)
  have O : zO p l s m args c D B sa 3 cX2_arrive RX2 := O
  refine z_aload_n O dX2_arrive_0 rfl rfl ?_
  refine z_iconst (v := 1) O dX2_arrive_1 (by decide) ?_
  refine y_put O wp_RX2_15 dX2_arrive_2 (R_obj h0) rfl rfl (fun G1_ hw2_ => ?_)
  have k3_ := R_w_present h0 hw2_
  have f4_ := hw2_.fr
  have f5_ : Fr b0 2 G G1_ := Fr.mono f4_ (by omega) (by omega)
  obtain ⟨v6_, ev6_⟩ : ∃ w, w = (R_set_present v0 1) := ⟨_, rfl⟩
  have h := h v6_ ev6_
  have k7_ : RA b0 v6_ G1_ := by rw [ev6_]; exact k3_
  have F8_ : Fr b0 2 G G1_ := Fr.trans Fr.rf f5_
  refine z_aload_n O dX2_arrive_5 rfl rfl ?_
  refine z_iload_n O dX2_arrive_6 rfl rfl ?_
  obtain ⟨q9_, h⟩ := h
  refine y_put O wp_RX2_22 dX2_arrive_7 (R_obj k7_) (z_narb q9_) (z_fitb q9_) (fun G10_ hw11_ => ?_)
  have k12_ := R_w_held k7_ hw11_
  have f13_ := hw11_.fr
  have f14_ : Fr b0 2 G1_ G10_ := Fr.mono f13_ (by omega) (by omega)
  obtain ⟨v15_, ev15_⟩ : ∃ w, w = (R_set_held v6_ x2) := ⟨_, rfl⟩
  have h := h v15_ ev15_
  have k16_ : RA b0 v15_ G10_ := by rw [ev15_]; exact k12_
  have F17_ : Fr b0 2 G G10_ := Fr.trans F8_ f14_
  refine z_aload_n O dX2_arrive_10 rfl rfl ?_
  refine z_iconst (v := 0) O dX2_arrive_11 (by decide) ?_
  refine y_put O wp_RX2_33 dX2_arrive_12 (R_obj k16_) rfl rfl (fun G18_ hw19_ => ?_)
  have k20_ := R_w_readSoFar k16_ hw19_
  have f21_ := hw19_.fr
  have f22_ : Fr b0 2 G10_ G18_ := Fr.mono f21_ (by omega) (by omega)
  obtain ⟨v23_, ev23_⟩ : ∃ w, w = (R_set_readSoFar v15_ 0) := ⟨_, rfl⟩
  have h := h v23_ ev23_
  have k24_ : RA b0 v23_ G18_ := by rw [ev23_]; exact k20_
  have F25_ : Fr b0 2 G G18_ := Fr.trans F17_ f22_
  refine z_aload_n O dX2_arrive_15 rfl rfl ?_
  refine z_iconst (v := 0) O dX2_arrive_16 (by decide) ?_
  refine y_put O wp_RX2_36 dX2_arrive_17 (R_obj k24_) rfl rfl (fun G26_ hw27_ => ?_)
  have k28_ := R_w_missedSoFar k24_ hw27_
  have f29_ := hw27_.fr
  have f30_ : Fr b0 2 G18_ G26_ := Fr.mono f29_ (by omega) (by omega)
  obtain ⟨v31_, ev31_⟩ : ∃ w, w = (R_set_missedSoFar v23_ 0) := ⟨_, rfl⟩
  have h := h v31_ ev31_
  have k32_ : RA b0 v31_ G26_ := by rw [ev31_]; exact k28_
  have F33_ : Fr b0 2 G G26_ := Fr.trans F25_ f30_
  refine z_aload_n O dX2_arrive_20 rfl rfl ?_
  refine z_iload_n O dX2_arrive_21 rfl rfl ?_
  refine y_put O wp_RX2_39 dX2_arrive_22 (R_obj k32_) rfl rfl (fun G34_ hw35_ => ?_)
  have k36_ := R_w_lastRead k32_ hw35_
  have f37_ := hw35_.fr
  have f38_ : Fr b0 2 G26_ G34_ := Fr.mono f37_ (by omega) (by omega)
  obtain ⟨v39_, ev39_⟩ : ∃ w, w = (R_set_lastRead v31_ x1) := ⟨_, rfl⟩
  have h := h v39_ ev39_
  have k40_ : RA b0 v39_ G34_ := by rw [ev39_]; exact k36_
  have F41_ : Fr b0 2 G G34_ := Fr.trans F33_ f38_
  refine z_aload_n O dX2_arrive_25 rfl rfl ?_
  refine z_iconst (v := 0) O dX2_arrive_26 (by decide) ?_
  refine y_put O wp_RX2_42 dX2_arrive_27 (R_obj k40_) rfl rfl (fun G42_ hw43_ => ?_)
  have k44_ := R_w_lostBy k40_ hw43_
  have f45_ := hw43_.fr
  have f46_ : Fr b0 2 G34_ G42_ := Fr.mono f45_ (by omega) (by omega)
  obtain ⟨v47_, ev47_⟩ : ∃ w, w = (R_set_lostBy v39_ 0) := ⟨_, rfl⟩
  have h := h v47_ ev47_
  have k48_ : RA b0 v47_ G42_ := by rw [ev47_]; exact k44_
  have F49_ : Fr b0 2 G G42_ := Fr.trans F41_ f46_
  exact z_vret O hret hlk dX2_arrive_30 (Nat.le_of_ble_eq_true rfl) (Nat.le_of_ble_eq_true rfl) ⟨rfl, rfl, _, k48_, F49_, h⟩

theorem dX2_depart_0 : decode cX2_depart 0 = .ok (.aload_n 0, 1) := by decide +kernel
theorem dX2_depart_1 : decode cX2_depart 1 = .ok (.iconst 0, 1) := by decide +kernel
theorem dX2_depart_2 : decode cX2_depart 2 = .ok (.putfield 15, 3) := by decide +kernel
theorem dX2_depart_5 : decode cX2_depart 5 = .ok (.aload_n 0, 1) := by decide +kernel
theorem dX2_depart_6 : decode cX2_depart 6 = .ok (.iconst 1, 1) := by decide +kernel
theorem dX2_depart_7 : decode cX2_depart 7 = .ok (.putfield 19, 3) := by decide +kernel
theorem dX2_depart_10 : decode cX2_depart 10 = .ok (.aload_n 0, 1) := by decide +kernel
theorem dX2_depart_11 : decode cX2_depart 11 = .ok (.iconst 0, 1) := by decide +kernel
theorem dX2_depart_12 : decode cX2_depart 12 = .ok (.putfield 22, 3) := by decide +kernel
theorem dX2_depart_15 : decode cX2_depart 15 = .ok (.return_, 1) := by decide +kernel
def P_R_depart (v0 : RT) (Q : RT → Prop) : Prop := ∀ v6_, v6_ = (R_set_present v0 0) → (∀ v14_, v14_ = (R_set_hasLeft v6_ 1) → (∀ v22_, v22_ = (R_set_held v14_ 0) → (Q v22_)))
set_option maxRecDepth 100000 in
theorem s_R_depart {l : Launch} {D : zD} {B : Nat} {sa : Nat → Nat} (hfl : l.stackTraces = false) {z : Nat} {G : zG} {b0 : Nat} {v0 : RT} {Q : RT → Prop} (h0 : RA b0 v0 G) (h : P_R_depart v0 Q) : zSp l D B sa yX2_depart cX2_depart 1 none 0 0 0 0 [.ref b0] z G (zRv fun z' G' => z = z' ∧ ∃ w, RA b0 w G' ∧ Fr b0 2 G G' ∧ Q w) := by
  unfold P_R_depart at h
  refine z_ofW (by decide +kernel) hfl [some (.ref b0)] rfl (Nat.le_of_ble_eq_true rfl) (fun p e s m args below meth c O hret hlk hnm => ?_)
  have O : zO p l s m args c D B sa 1 cX2_depart RX2 := O
  refine z_aload_n O dX2_depart_0 rfl rfl ?_
  refine z_iconst (v := 0) O dX2_depart_1 (by decide) ?_
  refine y_put O wp_RX2_15 dX2_depart_2 (R_obj h0) rfl rfl (fun G1_ hw2_ => ?_)
  have k3_ := R_w_present h0 hw2_
  have f4_ := hw2_.fr
  have f5_ : Fr b0 2 G G1_ := Fr.mono f4_ (by omega) (by omega)
  obtain ⟨v6_, ev6_⟩ : ∃ w, w = (R_set_present v0 0) := ⟨_, rfl⟩
  have h := h v6_ ev6_
  have k7_ : RA b0 v6_ G1_ := by rw [ev6_]; exact k3_
  have F8_ : Fr b0 2 G G1_ := Fr.trans Fr.rf f5_
  refine z_aload_n O dX2_depart_5 rfl rfl ?_
  refine z_iconst (v := 1) O dX2_depart_6 (by decide) ?_
  refine y_put O wp_RX2_19 dX2_depart_7 (R_obj k7_) rfl rfl (fun G9_ hw10_ => ?_)
  have k11_ := R_w_hasLeft k7_ hw10_
  have f12_ := hw10_.fr
  have f13_ : Fr b0 2 G1_ G9_ := Fr.mono f12_ (by omega) (by omega)
  obtain ⟨v14_, ev14_⟩ : ∃ w, w = (R_set_hasLeft v6_ 1) := ⟨_, rfl⟩
  have h := h v14_ ev14_
  have k15_ : RA b0 v14_ G9_ := by rw [ev14_]; exact k11_
  have F16_ : Fr b0 2 G G9_ := Fr.trans F8_ f13_
  refine z_aload_n O dX2_depart_10 rfl rfl ?_
  refine z_iconst (v := 0) O dX2_depart_11 (by decide) ?_
  refine y_put O wp_RX2_22 dX2_depart_12 (R_obj k15_) rfl rfl (fun G17_ hw18_ => ?_)
  have k19_ := R_w_held k15_ hw18_
  have f20_ := hw18_.fr
  have f21_ : Fr b0 2 G9_ G17_ := Fr.mono f20_ (by omega) (by omega)
  obtain ⟨v22_, ev22_⟩ : ∃ w, w = (R_set_held v14_ 0) := ⟨_, rfl⟩
  have h := h v22_ ev22_
  have k23_ : RA b0 v22_ G17_ := by rw [ev22_]; exact k19_
  have F24_ : Fr b0 2 G G17_ := Fr.trans F16_ f21_
  exact z_vret O hret hlk dX2_depart_15 (Nat.le_of_ble_eq_true rfl) (Nat.le_of_ble_eq_true rfl) ⟨rfl, rfl, _, k23_, F24_, h⟩

theorem dX1_renew_0 : decode cX1_renew 0 = .ok (.aload_n 0, 1) := by decide +kernel
theorem dX1_renew_1 : decode cX1_renew 1 = .ok (.iconst 0, 1) := by decide +kernel
theorem dX1_renew_2 : decode cX1_renew 2 = .ok (.putfield 30, 3) := by decide +kernel
theorem dX1_renew_5 : decode cX1_renew 5 = .ok (.aload_n 0, 1) := by decide +kernel
theorem dX1_renew_6 : decode cX1_renew 6 = .ok (.iconst 0, 1) := by decide +kernel
theorem dX1_renew_7 : decode cX1_renew 7 = .ok (.putfield 34, 3) := by decide +kernel
theorem dX1_renew_10 : decode cX1_renew 10 = .ok (.aload_n 0, 1) := by decide +kernel
theorem dX1_renew_11 : decode cX1_renew 11 = .ok (.iconst 0, 1) := by decide +kernel
theorem dX1_renew_12 : decode cX1_renew 12 = .ok (.putfield 37, 3) := by decide +kernel
theorem dX1_renew_15 : decode cX1_renew 15 = .ok (.aload_n 0, 1) := by decide +kernel
theorem dX1_renew_16 : decode cX1_renew 16 = .ok (.iconst 0, 1) := by decide +kernel
theorem dX1_renew_17 : decode cX1_renew 17 = .ok (.putfield 40, 3) := by decide +kernel
theorem dX1_renew_20 : decode cX1_renew 20 = .ok (.aload_n 0, 1) := by decide +kernel
theorem dX1_renew_21 : decode cX1_renew 21 = .ok (.iconst 0, 1) := by decide +kernel
theorem dX1_renew_22 : decode cX1_renew 22 = .ok (.putfield 43, 3) := by decide +kernel
theorem dX1_renew_25 : decode cX1_renew 25 = .ok (.iconst 0, 1) := by decide +kernel
theorem dX1_renew_26 : decode cX1_renew 26 = .ok (.istore_n 1, 1) := by decide +kernel
theorem dX1_renew_27 : decode cX1_renew 27 = .ok (.iload_n 1, 1) := by decide +kernel
theorem dX1_renew_28 : decode cX1_renew 28 = .ok (.bipush 8, 2) := by decide +kernel
theorem dX1_renew_30 : decode cX1_renew 30 = .ok (.if_icmp .ge 16, 3) := by decide +kernel
theorem dX1_renew_33 : decode cX1_renew 33 = .ok (.aload_n 0, 1) := by decide +kernel
theorem dX1_renew_34 : decode cX1_renew 34 = .ok (.getfield 27, 3) := by decide +kernel
theorem dX1_renew_37 : decode cX1_renew 37 = .ok (.iload_n 1, 1) := by decide +kernel
theorem dX1_renew_38 : decode cX1_renew 38 = .ok (.iconst (-1), 1) := by decide +kernel
theorem dX1_renew_39 : decode cX1_renew 39 = .ok (.iastore, 1) := by decide +kernel
theorem dX1_renew_40 : decode cX1_renew 40 = .ok (.iinc 1 1, 3) := by decide +kernel
theorem dX1_renew_43 : decode cX1_renew 43 = .ok (.goto (-16), 3) := by decide +kernel
theorem dX1_renew_46 : decode cX1_renew 46 = .ok (.return_, 1) := by decide +kernel
def PL_L_renew_27 : Nat → Int32 → LT → (LT → Prop) → Prop
  | 0, _, _, _ => False
  | n + 1, y1, v0, Q => ((8 ≤ y1 → Q v0) ∧ (¬ 8 ≤ y1 → vp_in y1 8 ∧ (∀ v49_, v49_ = (L_set_dropValues v0 (upd (L_dropValues v0) (Int32.toNatClampNeg y1) (-1))) → ((fun y1 v0 => PL_L_renew_27 n  y1 v0  Q) (y1 + 1) v49_))))
def P_L_renew (v0 : LT) (Q : LT → Prop) : Prop := ∀ v6_, v6_ = (L_set_first v0 0) → (∀ v14_, v14_ = (L_set_end v6_ 0) → (∀ v22_, v22_ = (L_set_length v14_ 0) → (∀ v30_, v30_ = (L_set_begun v22_ 0) → (∀ v38_, v38_ = (L_set_dropped v30_ 0) → ((∃ n52_, PL_L_renew_27 n52_ 0 v38_ Q))))))
set_option maxRecDepth 100000 in
theorem s_L_renew {l : Launch} {D : zD} {B : Nat} {sa : Nat → Nat} (hfl : l.stackTraces = false) {z : Nat} {G : zG} {b0 : Nat} {v0 : LT} {Q : LT → Prop} (h0 : LA b0 v0 G) (h : P_L_renew v0 Q) : zSp l D B sa yX1_renew cX1_renew 2 none 0 0 0 0 [.ref b0] z G (zRv fun z' G' => z = z' ∧ ∃ w, LA b0 w G' ∧ Fr b0 7 G G' ∧ Q w) := by
  unfold P_L_renew at h
  refine z_ofW (by decide +kernel) hfl [some (.ref b0), none] rfl (Nat.le_of_ble_eq_true rfl) (fun p e s m args below meth c O hret hlk hnm => ?_)
  have O : zO p l s m args c D B sa 2 cX1_renew RX1 := O
  have HL27 : ∀ (n9 : Nat)    (y1 : Int32) (v0 : LT) (G9 : zG) (g0 : LA b0 v0 G9) (gF : Fr b0 7 G G9) (h : PL_L_renew_27 n9 y1 v0 Q), zT p l e (zrm 0 0 0 0) s m args below meth c (zEnd below D B (zRv fun z' G' => z = z' ∧ ∃ w, LA b0 w G' ∧ Fr b0 7 G G' ∧ Q w) args s 0 0) D B 2 0 0 27 [] [some (.ref b0), some (.int y1)] z G9 := by
    intro n9   
    induction n9 with
    | zero =>
      intro _ _ _ _ _ h
      exact (h : False).elim
    | succ n ih =>
      intro y1 v0 G9 g0 gF h
      rw [PL_L_renew_27] at h
      refine z_iload_n O dX1_renew_27 rfl rfl ?_
      refine z_bipush (v := 8) O dX1_renew_28 (by decide) ?_
      refine z_icmp_ge (tgt := 46) O dX1_renew_30 (by decide) (fun c41_ => ?_) (fun c41_ => ?_)
      · have h := h.1 c41_
        exact z_vret O hret hlk dX1_renew_46 (Nat.le_of_ble_eq_true rfl) (Nat.le_of_ble_eq_true rfl) ⟨rfl, rfl, _, g0, gF, h⟩
      · have h := h.2 c41_
        refine z_aload_n O dX1_renew_33 rfl rfl ?_
        refine z_get (v := .ref (b0 + 6)) O wf_RX1_27 dX1_renew_34 (L_obj g0) rfl ?_
        refine z_iload_n O dX1_renew_37 rfl rfl ?_
        refine z_iconst (v := (-1)) O dX1_renew_38 (by decide) ?_
        obtain ⟨q42_, h⟩ := h
        refine y_iast O dX1_renew_39 (L_dropValues_of g0) q42_ (fun G43_ hw44_ => ?_)
        have k45_ := hw44_.1
        have f46_ := hw44_.fr
        have k47_ := L_put_dropValues g0 k45_ f46_
        have f48_ : Fr b0 7 G9 G43_ := Fr.mono f46_ (by omega) (by omega)
        obtain ⟨v49_, ev49_⟩ : ∃ w, w = (L_set_dropValues v0 (upd (L_dropValues v0) (Int32.toNatClampNeg y1) (-1))) := ⟨_, rfl⟩
        have h := h v49_ ev49_
        have k50_ : LA b0 v49_ G43_ := by rw [ev49_]; exact k47_
        have F51_ : Fr b0 7 G G43_ := Fr.trans gF f48_
        refine z_iinc (v := (y1 + 1)) (L' := [some (.ref b0), some (.int (y1 + 1))]) O dX1_renew_40 rfl (by first | rfl | decide) (by decide) rfl ?_
        refine z_goto (tgt := 27) O dX1_renew_43 (by decide) ?_
        exact z_subL (L' := [some (.ref b0), some (.int (y1 + 1))]) (zLe.sub (And.intro rfl (And.intro rfl True.intro))) (ih (y1 + 1) v49_ G43_ k50_ F51_ h)
  refine z_aload_n O dX1_renew_0 rfl rfl ?_
  refine z_iconst (v := 0) O dX1_renew_1 (by decide) ?_
  refine y_put O wp_RX1_30 dX1_renew_2 (L_obj h0) rfl rfl (fun G1_ hw2_ => ?_)
  have k3_ := L_w_first h0 hw2_
  have f4_ := hw2_.fr
  have f5_ : Fr b0 7 G G1_ := Fr.mono f4_ (by omega) (by omega)
  obtain ⟨v6_, ev6_⟩ : ∃ w, w = (L_set_first v0 0) := ⟨_, rfl⟩
  have h := h v6_ ev6_
  have k7_ : LA b0 v6_ G1_ := by rw [ev6_]; exact k3_
  have F8_ : Fr b0 7 G G1_ := Fr.trans Fr.rf f5_
  refine z_aload_n O dX1_renew_5 rfl rfl ?_
  refine z_iconst (v := 0) O dX1_renew_6 (by decide) ?_
  refine y_put O wp_RX1_34 dX1_renew_7 (L_obj k7_) rfl rfl (fun G9_ hw10_ => ?_)
  have k11_ := L_w_end k7_ hw10_
  have f12_ := hw10_.fr
  have f13_ : Fr b0 7 G1_ G9_ := Fr.mono f12_ (by omega) (by omega)
  obtain ⟨v14_, ev14_⟩ : ∃ w, w = (L_set_end v6_ 0) := ⟨_, rfl⟩
  have h := h v14_ ev14_
  have k15_ : LA b0 v14_ G9_ := by rw [ev14_]; exact k11_
  have F16_ : Fr b0 7 G G9_ := Fr.trans F8_ f13_
  refine z_aload_n O dX1_renew_10 rfl rfl ?_
  refine z_iconst (v := 0) O dX1_renew_11 (by decide) ?_
  refine y_put O wp_RX1_37 dX1_renew_12 (L_obj k15_) rfl rfl (fun G17_ hw18_ => ?_)
  have k19_ := L_w_length k15_ hw18_
  have f20_ := hw18_.fr
  have f21_ : Fr b0 7 G9_ G17_ := Fr.mono f20_ (by omega) (by omega)
  obtain ⟨v22_, ev22_⟩ : ∃ w, w = (L_set_length v14_ 0) := ⟨_, rfl⟩
  have h := h v22_ ev22_
  have k23_ : LA b0 v22_ G17_ := by rw [ev22_]; exact k19_
  have F24_ : Fr b0 7 G G17_ := Fr.trans F16_ f21_
  refine z_aload_n O dX1_renew_15 rfl rfl ?_
  refine z_iconst (v := 0) O dX1_renew_16 (by decide) ?_
  refine y_put O wp_RX1_40 dX1_renew_17 (L_obj k23_) rfl rfl (fun G25_ hw26_ => ?_)
  have k27_ := L_w_begun k23_ hw26_
  have f28_ := hw26_.fr
  have f29_ : Fr b0 7 G17_ G25_ := Fr.mono f28_ (by omega) (by omega)
  obtain ⟨v30_, ev30_⟩ : ∃ w, w = (L_set_begun v22_ 0) := ⟨_, rfl⟩
  have h := h v30_ ev30_
  have k31_ : LA b0 v30_ G25_ := by rw [ev30_]; exact k27_
  have F32_ : Fr b0 7 G G25_ := Fr.trans F24_ f29_
  refine z_aload_n O dX1_renew_20 rfl rfl ?_
  refine z_iconst (v := 0) O dX1_renew_21 (by decide) ?_
  refine y_put O wp_RX1_43 dX1_renew_22 (L_obj k31_) rfl rfl (fun G33_ hw34_ => ?_)
  have k35_ := L_w_dropped k31_ hw34_
  have f36_ := hw34_.fr
  have f37_ : Fr b0 7 G25_ G33_ := Fr.mono f36_ (by omega) (by omega)
  obtain ⟨v38_, ev38_⟩ : ∃ w, w = (L_set_dropped v30_ 0) := ⟨_, rfl⟩
  have h := h v38_ ev38_
  have k39_ : LA b0 v38_ G33_ := by rw [ev38_]; exact k35_
  have F40_ : Fr b0 7 G G33_ := Fr.trans F32_ f37_
  refine z_iconst (v := 0) O dX1_renew_25 (by decide) ?_
  refine z_istore_n (L' := [some (.ref b0), some (.int 0)]) O dX1_renew_26 rfl (by decide) rfl ?_
  obtain ⟨n52_, h⟩ := h
  exact z_subL (L' := [some (.ref b0), some (.int 0)]) (zLe.sub (And.intro rfl (And.intro rfl True.intro))) (HL27 n52_ 0 v38_ G33_ k39_ F40_ h)

theorem dX1_takeOver_0 : decode cX1_takeOver 0 = .ok (.aload_n 1, 1) := by decide +kernel
theorem dX1_takeOver_1 : decode cX1_takeOver 1 = .ok (.getfield 9, 3) := by decide +kernel
theorem dX1_takeOver_4 : decode cX1_takeOver 4 = .ok (.aload_n 0, 1) := by decide +kernel
theorem dX1_takeOver_5 : decode cX1_takeOver 5 = .ok (.getfield 9, 3) := by decide +kernel
theorem dX1_takeOver_8 : decode cX1_takeOver 8 = .ok (.invokestatic 46, 3) := by decide +kernel
theorem dX1_takeOver_11 : decode cX1_takeOver 11 = .ok (.aload_n 1, 1) := by decide +kernel
theorem dX1_takeOver_12 : decode cX1_takeOver 12 = .ok (.getfield 15, 3) := by decide +kernel
theorem dX1_takeOver_15 : decode cX1_takeOver 15 = .ok (.aload_n 0, 1) := by decide +kernel
theorem dX1_takeOver_16 : decode cX1_takeOver 16 = .ok (.getfield 15, 3) := by decide +kernel
theorem dX1_takeOver_19 : decode cX1_takeOver 19 = .ok (.invokestatic 46, 3) := by decide +kernel
theorem dX1_takeOver_22 : decode cX1_takeOver 22 = .ok (.aload_n 1, 1) := by decide +kernel
theorem dX1_takeOver_23 : decode cX1_takeOver 23 = .ok (.getfield 18, 3) := by decide +kernel
theorem dX1_takeOver_26 : decode cX1_takeOver 26 = .ok (.aload_n 0, 1) := by decide +kernel
theorem dX1_takeOver_27 : decode cX1_takeOver 27 = .ok (.getfield 18, 3) := by decide +kernel
theorem dX1_takeOver_30 : decode cX1_takeOver 30 = .ok (.invokestatic 46, 3) := by decide +kernel
theorem dX1_takeOver_33 : decode cX1_takeOver 33 = .ok (.aload_n 1, 1) := by decide +kernel
theorem dX1_takeOver_34 : decode cX1_takeOver 34 = .ok (.getfield 21, 3) := by decide +kernel
theorem dX1_takeOver_37 : decode cX1_takeOver 37 = .ok (.aload_n 0, 1) := by decide +kernel
theorem dX1_takeOver_38 : decode cX1_takeOver 38 = .ok (.getfield 21, 3) := by decide +kernel
theorem dX1_takeOver_41 : decode cX1_takeOver 41 = .ok (.invokestatic 46, 3) := by decide +kernel
theorem dX1_takeOver_44 : decode cX1_takeOver 44 = .ok (.aload_n 1, 1) := by decide +kernel
theorem dX1_takeOver_45 : decode cX1_takeOver 45 = .ok (.getfield 24, 3) := by decide +kernel
theorem dX1_takeOver_48 : decode cX1_takeOver 48 = .ok (.aload_n 0, 1) := by decide +kernel
theorem dX1_takeOver_49 : decode cX1_takeOver 49 = .ok (.getfield 24, 3) := by decide +kernel
theorem dX1_takeOver_52 : decode cX1_takeOver 52 = .ok (.invokestatic 46, 3) := by decide +kernel
theorem dX1_takeOver_55 : decode cX1_takeOver 55 = .ok (.aload_n 1, 1) := by decide +kernel
theorem dX1_takeOver_56 : decode cX1_takeOver 56 = .ok (.getfield 27, 3) := by decide +kernel
theorem dX1_takeOver_59 : decode cX1_takeOver 59 = .ok (.aload_n 0, 1) := by decide +kernel
theorem dX1_takeOver_60 : decode cX1_takeOver 60 = .ok (.getfield 27, 3) := by decide +kernel
theorem dX1_takeOver_63 : decode cX1_takeOver 63 = .ok (.invokestatic 46, 3) := by decide +kernel
theorem dX1_takeOver_66 : decode cX1_takeOver 66 = .ok (.aload_n 0, 1) := by decide +kernel
theorem dX1_takeOver_67 : decode cX1_takeOver 67 = .ok (.aload_n 1, 1) := by decide +kernel
theorem dX1_takeOver_68 : decode cX1_takeOver 68 = .ok (.getfield 30, 3) := by decide +kernel
theorem dX1_takeOver_71 : decode cX1_takeOver 71 = .ok (.putfield 30, 3) := by decide +kernel
theorem dX1_takeOver_74 : decode cX1_takeOver 74 = .ok (.aload_n 0, 1) := by decide +kernel
theorem dX1_takeOver_75 : decode cX1_takeOver 75 = .ok (.aload_n 1, 1) := by decide +kernel
theorem dX1_takeOver_76 : decode cX1_takeOver 76 = .ok (.getfield 34, 3) := by decide +kernel
theorem dX1_takeOver_79 : decode cX1_takeOver 79 = .ok (.putfield 34, 3) := by decide +kernel
theorem dX1_takeOver_82 : decode cX1_takeOver 82 = .ok (.aload_n 0, 1) := by decide +kernel
theorem dX1_takeOver_83 : decode cX1_takeOver 83 = .ok (.aload_n 1, 1) := by decide +kernel
theorem dX1_takeOver_84 : decode cX1_takeOver 84 = .ok (.getfield 37, 3) := by decide +kernel
theorem dX1_takeOver_87 : decode cX1_takeOver 87 = .ok (.putfield 37, 3) := by decide +kernel
theorem dX1_takeOver_90 : decode cX1_takeOver 90 = .ok (.aload_n 0, 1) := by decide +kernel
theorem dX1_takeOver_91 : decode cX1_takeOver 91 = .ok (.aload_n 1, 1) := by decide +kernel
theorem dX1_takeOver_92 : decode cX1_takeOver 92 = .ok (.getfield 40, 3) := by decide +kernel
theorem dX1_takeOver_95 : decode cX1_takeOver 95 = .ok (.putfield 40, 3) := by decide +kernel
theorem dX1_takeOver_98 : decode cX1_takeOver 98 = .ok (.aload_n 0, 1) := by decide +kernel
theorem dX1_takeOver_99 : decode cX1_takeOver 99 = .ok (.aload_n 1, 1) := by decide +kernel
theorem dX1_takeOver_100 : decode cX1_takeOver 100 = .ok (.getfield 43, 3) := by decide +kernel
theorem dX1_takeOver_103 : decode cX1_takeOver 103 = .ok (.putfield 43, 3) := by decide +kernel
theorem dX1_takeOver_106 : decode cX1_takeOver 106 = .ok (.return_, 1) := by decide +kernel
def P_L_takeOver (v0 : LT) (v1 : LT) (Q : LT → Prop) : Prop := P_T_copy 200 200 (L_keys v1) (L_keys v0) (fun v5_ => (∀ v10_, v10_ = (L_set_keys v0 v5_) → (P_T_copy 200 200 (L_values v1) (L_values v10_) (fun v18_ => (∀ v23_, v23_ = (L_set_values v10_ v18_) → (P_T_copy 200 200 (L_times v1) (L_times v23_) (fun v31_ => (∀ v36_, v36_ = (L_set_times v23_ v31_) → (P_T_copy 201 201 (L_lengthsBelow v1) (L_lengthsBelow v36_) (fun v44_ => (∀ v49_, v49_ = (L_set_lengthsBelow v36_ v44_) → (P_T_copy 200 200 (L_starts v1) (L_starts v49_) (fun v57_ => (∀ v62_, v62_ = (L_set_starts v49_ v57_) → (P_T_copy 8 8 (L_dropValues v1) (L_dropValues v62_) (fun v70_ => (∀ v75_, v75_ = (L_set_dropValues v62_ v70_) → (∀ v84_, v84_ = (L_set_first v75_ (L_first v1)) → (∀ v93_, v93_ = (L_set_end v84_ (L_end v1)) → (∀ v102_, v102_ = (L_set_length v93_ (L_length v1)) → (∀ v111_, v111_ = (L_set_begun v102_ (L_begun v1)) → (∀ v120_, v120_ = (L_set_dropped v111_ (L_dropped v1)) → (Q v120_)))))))))))))))))))))))
set_option maxRecDepth 100000 in
theorem s_L_takeOver {l : Launch} {D : zD} {B : Nat} {sa : Nat → Nat} (hfl : l.stackTraces = false) {z : Nat} {G : zG} {b0 : Nat} {b1 : Nat} {v0 : LT} {v1 : LT} {Q : LT → Prop} (h0 : LA b0 v0 G) (h1 : LA b1 v1 G) (d01 : b0 + 7 ≤ b1 ∨ b1 + 7 ≤ b0) (h : P_L_takeOver v0 v1 Q) : zSp l D B sa yX1_takeOver cX1_takeOver 2 none 2 73 0 0 [.ref b0, .ref b1] z G (zRv fun z' G' => z = z' ∧ ∃ w, LA b0 w G' ∧ Fr b0 7 G G' ∧ Q w) := by
  unfold P_L_takeOver at h
  refine z_ofW (by decide +kernel) hfl [some (.ref b0), some (.ref b1)] rfl (Nat.le_of_ble_eq_true rfl) (fun p e s m args below meth c O hret hlk hnm => ?_)
  have O : zO p l s m args c D B sa 2 cX1_takeOver RX1 := O
  refine z_aload_n O dX1_takeOver_0 rfl rfl ?_
  refine z_get (v := .ref (b1 + 1)) O wf_RX1_9 dX1_takeOver_1 (L_obj h1) rfl ?_
  refine z_aload_n O dX1_takeOver_4 rfl rfl ?_
  refine z_get (v := .ref (b0 + 1)) O wf_RX1_9 dX1_takeOver_5 (L_obj h0) rfl ?_
  refine z_callNv (As := [.ref (b1 + 1), .ref (b0 + 1)]) (st := []) O (s_T_copy hfl (L_keys_of h1) (L_keys_of h0) (by omega) h) wy_X5_copy wl_RX1_46 dX1_takeOver_8 rfl rfl ⟨Nat.le_of_ble_eq_true rfl, Nat.le_of_ble_eq_true rfl⟩ (Nat.le_of_ble_eq_true rfl) ⟨Nat.le_of_ble_eq_true rfl, Nat.le_of_ble_eq_true rfl⟩ (fun z2_ G3_ hq4_ => ?_)
  obtain ⟨rfl, v5_, k6_, f7_, h⟩ := hq4_
  have k8_ := L_put_keys h0 k6_ f7_
  have f9_ : Fr b0 7 G G3_ := Fr.mono f7_ (by omega) (by omega)
  obtain ⟨v10_, ev10_⟩ : ∃ w, w = (L_set_keys v0 v5_) := ⟨_, rfl⟩
  have h := h v10_ ev10_
  have k11_ : LA b0 v10_ G3_ := by rw [ev10_]; exact k8_
  have k12_ := LA.fr h1 f9_ (by omega)
  have F13_ : Fr b0 7 G G3_ := Fr.trans Fr.rf f9_
  refine z_aload_n O dX1_takeOver_11 rfl rfl ?_
  refine z_get (v := .ref (b1 + 2)) O wf_RX1_15 dX1_takeOver_12 (L_obj k12_) rfl ?_
  refine z_aload_n O dX1_takeOver_15 rfl rfl ?_
  refine z_get (v := .ref (b0 + 2)) O wf_RX1_15 dX1_takeOver_16 (L_obj k11_) rfl ?_
  refine z_callNv (As := [.ref (b1 + 2), .ref (b0 + 2)]) (st := []) O (s_T_copy hfl (L_values_of k12_) (L_values_of k11_) (by omega) h) wy_X5_copy wl_RX1_46 dX1_takeOver_19 rfl rfl ⟨Nat.le_of_ble_eq_true rfl, Nat.le_of_ble_eq_true rfl⟩ (Nat.le_of_ble_eq_true rfl) ⟨Nat.le_of_ble_eq_true rfl, Nat.le_of_ble_eq_true rfl⟩ (fun z15_ G16_ hq17_ => ?_)
  obtain ⟨rfl, v18_, k19_, f20_, h⟩ := hq17_
  have k21_ := L_put_values k11_ k19_ f20_
  have f22_ : Fr b0 7 G3_ G16_ := Fr.mono f20_ (by omega) (by omega)
  obtain ⟨v23_, ev23_⟩ : ∃ w, w = (L_set_values v10_ v18_) := ⟨_, rfl⟩
  have h := h v23_ ev23_
  have k24_ : LA b0 v23_ G16_ := by rw [ev23_]; exact k21_
  have k25_ := LA.fr k12_ f22_ (by omega)
  have F26_ : Fr b0 7 G G16_ := Fr.trans F13_ f22_
  refine z_aload_n O dX1_takeOver_22 rfl rfl ?_
  refine z_get (v := .ref (b1 + 3)) O wf_RX1_18 dX1_takeOver_23 (L_obj k25_) rfl ?_
  refine z_aload_n O dX1_takeOver_26 rfl rfl ?_
  refine z_get (v := .ref (b0 + 3)) O wf_RX1_18 dX1_takeOver_27 (L_obj k24_) rfl ?_
  refine z_callNv (As := [.ref (b1 + 3), .ref (b0 + 3)]) (st := []) O (s_T_copy hfl (L_times_of k25_) (L_times_of k24_) (by omega) h) wy_X5_copy wl_RX1_46 dX1_takeOver_30 rfl rfl ⟨Nat.le_of_ble_eq_true rfl, Nat.le_of_ble_eq_true rfl⟩ (Nat.le_of_ble_eq_true rfl) ⟨Nat.le_of_ble_eq_true rfl, Nat.le_of_ble_eq_true rfl⟩ (fun z28_ G29_ hq30_ => ?_)
  obtain ⟨rfl, v31_, k32_, f33_, h⟩ := hq30_
  have k34_ := L_put_times k24_ k32_ f33_
  have f35_ : Fr b0 7 G16_ G29_ := Fr.mono f33_ (by omega) (by omega)
  obtain ⟨v36_, ev36_⟩ : ∃ w, w = (L_set_times v23_ v31_) := ⟨_, rfl⟩
  have h := h v36_ ev36_
  have k37_ : LA b0 v36_ G29_ := by rw [ev36_]; exact k34_
  have k38_ := LA.fr k25_ f35_ (by omega)
  have F39_ : Fr b0 7 G G29_ := Fr.trans F26_ f35_
  refine z_aload_n O dX1_takeOver_33 rfl rfl ?_
  refine z_get (v := .ref (b1 + 4)) O wf_RX1_21 dX1_takeOver_34 (L_obj k38_) rfl ?_
  refine z_aload_n O dX1_takeOver_37 rfl rfl ?_
  refine z_get (v := .ref (b0 + 4)) O wf_RX1_21 dX1_takeOver_38 (L_obj k37_) rfl ?_
  refine z_callNv (As := [.ref (b1 + 4), .ref (b0 + 4)]) (st := []) O (s_T_copy hfl (L_lengthsBelow_of k38_) (L_lengthsBelow_of k37_) (by omega) h) wy_X5_copy wl_RX1_46 dX1_takeOver_41 rfl rfl ⟨Nat.le_of_ble_eq_true rfl, Nat.le_of_ble_eq_true rfl⟩ (Nat.le_of_ble_eq_true rfl) ⟨Nat.le_of_ble_eq_true rfl, Nat.le_of_ble_eq_true rfl⟩ (fun z41_ G42_ hq43_ => ?_)
  obtain ⟨rfl, v44_, k45_, f46_, h⟩ := hq43_
  have k47_ := L_put_lengthsBelow k37_ k45_ f46_
  have f48_ : Fr b0 7 G29_ G42_ := Fr.mono f46_ (by omega) (by omega)
  obtain ⟨v49_, ev49_⟩ : ∃ w, w = (L_set_lengthsBelow v36_ v44_) := ⟨_, rfl⟩
  have h := h v49_ ev49_
  have k50_ : LA b0 v49_ G42_ := by rw [ev49_]; exact k47_
  have k51_ := LA.fr k38_ f48_ (by omega)
  have F52_ : Fr b0 7 G G42_ := Fr.trans F39_ f48_
  refine z_aload_n O dX1_takeOver_44 rfl rfl ?_
  refine z_get (v := .ref (b1 + 5)) O wf_RX1_24 dX1_takeOver_45 (L_obj k51_) rfl ?_
  refine z_aload_n O dX1_takeOver_48 rfl rfl ?_
  refine z_get (v := .ref (b0 + 5)) O wf_RX1_24 dX1_takeOver_49 (L_obj k50_) rfl ?_
  refine z_callNv (As := [.ref (b1 + 5), .ref (b0 + 5)]) (st := []) O (s_T_copy hfl (L_starts_of k51_) (L_starts_of k50_) (by omega) h) wy_X5_copy wl_RX1_46 dX1_takeOver_52 rfl rfl ⟨Nat.le_of_ble_eq_true rfl, Nat.le_of_ble_eq_true rfl⟩ (Nat.le_of_ble_eq_true rfl) ⟨Nat.le_of_ble_eq_true rfl, Nat.le_of_ble_eq_true rfl⟩ (fun z54_ G55_ hq56_ => ?_)
  obtain ⟨rfl, v57_, k58_, f59_, h⟩ := hq56_
  have k60_ := L_put_starts k50_ k58_ f59_
  have f61_ : Fr b0 7 G42_ G55_ := Fr.mono f59_ (by omega) (by omega)
  obtain ⟨v62_, ev62_⟩ : ∃ w, w = (L_set_starts v49_ v57_) := ⟨_, rfl⟩
  have h := h v62_ ev62_
  have k63_ : LA b0 v62_ G55_ := by rw [ev62_]; exact k60_
  have k64_ := LA.fr k51_ f61_ (by omega)
  have F65_ : Fr b0 7 G G55_ := Fr.trans F52_ f61_
  refine z_aload_n O dX1_takeOver_55 rfl rfl ?_
  refine z_get (v := .ref (b1 + 6)) O wf_RX1_27 dX1_takeOver_56 (L_obj k64_) rfl ?_
  refine z_aload_n O dX1_takeOver_59 rfl rfl ?_
  refine z_get (v := .ref (b0 + 6)) O wf_RX1_27 dX1_takeOver_60 (L_obj k63_) rfl ?_
  refine z_callNv (As := [.ref (b1 + 6), .ref (b0 + 6)]) (st := []) O (s_T_copy hfl (L_dropValues_of k64_) (L_dropValues_of k63_) (by omega) h) wy_X5_copy wl_RX1_46 dX1_takeOver_63 rfl rfl ⟨Nat.le_of_ble_eq_true rfl, Nat.le_of_ble_eq_true rfl⟩ (Nat.le_of_ble_eq_true rfl) ⟨Nat.le_of_ble_eq_true rfl, Nat.le_of_ble_eq_true rfl⟩ (fun z67_ G68_ hq69_ => ?_)
  obtain ⟨rfl, v70_, k71_, f72_, h⟩ := hq69_
  have k73_ := L_put_dropValues k63_ k71_ f72_
  have f74_ : Fr b0 7 G55_ G68_ := Fr.mono f72_ (by omega) (by omega)
  obtain ⟨v75_, ev75_⟩ : ∃ w, w = (L_set_dropValues v62_ v70_) := ⟨_, rfl⟩
  have h := h v75_ ev75_
  have k76_ : LA b0 v75_ G68_ := by rw [ev75_]; exact k73_
  have k77_ := LA.fr k64_ f74_ (by omega)
  have F78_ : Fr b0 7 G G68_ := Fr.trans F65_ f74_
  refine z_aload_n O dX1_takeOver_66 rfl rfl ?_
  refine z_aload_n O dX1_takeOver_67 rfl rfl ?_
  refine z_get (v := .int (L_first v1)) O wf_RX1_30 dX1_takeOver_68 (L_obj k77_) rfl ?_
  refine y_put O wp_RX1_30 dX1_takeOver_71 (L_obj k76_) rfl rfl (fun G79_ hw80_ => ?_)
  have k81_ := L_w_first k76_ hw80_
  have f82_ := hw80_.fr
  have f83_ : Fr b0 7 G68_ G79_ := Fr.mono f82_ (by omega) (by omega)
  obtain ⟨v84_, ev84_⟩ : ∃ w, w = (L_set_first v75_ (L_first v1)) := ⟨_, rfl⟩
  have h := h v84_ ev84_
  have k85_ : LA b0 v84_ G79_ := by rw [ev84_]; exact k81_
  have k86_ := LA.fr k77_ f83_ (by omega)
  have F87_ : Fr b0 7 G G79_ := Fr.trans F78_ f83_
  refine z_aload_n O dX1_takeOver_74 rfl rfl ?_
  refine z_aload_n O dX1_takeOver_75 rfl rfl ?_
  refine z_get (v := .int (L_end v1)) O wf_RX1_34 dX1_takeOver_76 (L_obj k86_) rfl ?_
  refine y_put O wp_RX1_34 dX1_takeOver_79 (L_obj k85_) rfl rfl (fun G88_ hw89_ => ?_)
  have k90_ := L_w_end k85_ hw89_
  have f91_ := hw89_.fr
  have f92_ : Fr b0 7 G79_ G88_ := Fr.mono f91_ (by omega) (by omega)
  obtain ⟨v93_, ev93_⟩ : ∃ w, w = (L_set_end v84_ (L_end v1)) := ⟨_, rfl⟩
  have h := h v93_ ev93_
  have k94_ : LA b0 v93_ G88_ := by rw [ev93_]; exact k90_
  have k95_ := LA.fr k86_ f92_ (by omega)
  have F96_ : Fr b0 7 G G88_ := Fr.trans F87_ f92_
  refine z_aload_n O dX1_takeOver_82 rfl rfl ?_
  refine z_aload_n O dX1_takeOver_83 rfl rfl ?_
  refine z_get (v := .int (L_length v1)) O wf_RX1_37 dX1_takeOver_84 (L_obj k95_) rfl ?_
  refine y_put O wp_RX1_37 dX1_takeOver_87 (L_obj k94_) rfl rfl (fun G97_ hw98_ => ?_)
  have k99_ := L_w_length k94_ hw98_
  have f100_ := hw98_.fr
  have f101_ : Fr b0 7 G88_ G97_ := Fr.mono f100_ (by omega) (by omega)
  obtain ⟨v102_, ev102_⟩ : ∃ w, w = (L_set_length v93_ (L_length v1)) := ⟨_, rfl⟩
  have h := h v102_ ev102_
  have k103_ : LA b0 v102_ G97_ := by rw [ev102_]; exact k99_
  have k104_ := LA.fr k95_ f101_ (by omega)
  have F105_ : Fr b0 7 G G97_ := Fr.trans F96_ f101_
  refine z_aload_n O dX1_takeOver_90 rfl rfl ?_
  refine z_aload_n O dX1_takeOver_91 rfl rfl ?_
  refine z_get (v := .int (L_begun v1)) O wf_RX1_40 dX1_takeOver_92 (L_obj k104_) rfl ?_
  refine y_put O wp_RX1_40 dX1_takeOver_95 (L_obj k103_) rfl rfl (fun G106_ hw107_ => ?_)
  have k108_ := L_w_begun k103_ hw107_
  have f109_ := hw107_.fr
  have f110_ : Fr b0 7 G97_ G106_ := Fr.mono f109_ (by omega) (by omega)
  obtain ⟨v111_, ev111_⟩ : ∃ w, w = (L_set_begun v102_ (L_begun v1)) := ⟨_, rfl⟩
  have h := h v111_ ev111_
  have k112_ : LA b0 v111_ G106_ := by rw [ev111_]; exact k108_
  have k113_ := LA.fr k104_ f110_ (by omega)
  have F114_ : Fr b0 7 G G106_ := Fr.trans F105_ f110_
  refine z_aload_n O dX1_takeOver_98 rfl rfl ?_
  refine z_aload_n O dX1_takeOver_99 rfl rfl ?_
  refine z_get (v := .int (L_dropped v1)) O wf_RX1_43 dX1_takeOver_100 (L_obj k113_) rfl ?_
  refine y_put O wp_RX1_43 dX1_takeOver_103 (L_obj k112_) rfl rfl (fun G115_ hw116_ => ?_)
  have k117_ := L_w_dropped k112_ hw116_
  have f118_ := hw116_.fr
  have f119_ : Fr b0 7 G106_ G115_ := Fr.mono f118_ (by omega) (by omega)
  obtain ⟨v120_, ev120_⟩ : ∃ w, w = (L_set_dropped v111_ (L_dropped v1)) := ⟨_, rfl⟩
  have h := h v120_ ev120_
  have k121_ : LA b0 v120_ G115_ := by rw [ev120_]; exact k117_
  have k122_ := LA.fr k113_ f119_ (by omega)
  have F123_ : Fr b0 7 G G115_ := Fr.trans F114_ f119_
  exact z_vret O hret hlk dX1_takeOver_106 (Nat.le_of_ble_eq_true rfl) (Nat.le_of_ble_eq_true rfl) ⟨rfl, rfl, _, k121_, F123_, h⟩

theorem dX1_segments_0 : decode cX1_segments 0 = .ok (.aload_n 0, 1) := by decide +kernel
theorem dX1_segments_1 : decode cX1_segments 1 = .ok (.getfield 40, 3) := by decide +kernel
theorem dX1_segments_4 : decode cX1_segments 4 = .ok (.aload_n 0, 1) := by decide +kernel
theorem dX1_segments_5 : decode cX1_segments 5 = .ok (.getfield 43, 3) := by decide +kernel
theorem dX1_segments_8 : decode cX1_segments 8 = .ok (.isub, 1) := by decide +kernel
theorem dX1_segments_9 : decode cX1_segments 9 = .ok (.ireturn, 1) := by decide +kernel
def P_L_segments (v0 : LT) (Q : Int32 → Prop) : Prop := Q ((L_begun v0) - (L_dropped v0))
set_option maxRecDepth 100000 in
theorem s_L_segments {l : Launch} {D : zD} {B : Nat} {sa : Nat → Nat} (hfl : l.stackTraces = false) {z : Nat} {G : zG} {b0 : Nat} {v0 : LT} {Q : Int32 → Prop} (h0 : LA b0 v0 G) (h : P_L_segments v0 Q) : zSp l D B sa yX1_segments cX1_segments 1 (some .int) 0 0 0 0 [.ref b0] z G (zRi fun r z' G' => z = z' ∧ G = G' ∧ Q r) := by
  unfold P_L_segments at h
  refine z_ofW (by decide +kernel) hfl [some (.ref b0)] rfl (Nat.le_of_ble_eq_true rfl) (fun p e s m args below meth c O hret hlk hnm => ?_)
  have O : zO p l s m args c D B sa 1 cX1_segments RX1 := O
  refine z_aload_n O dX1_segments_0 rfl rfl ?_
  refine z_get (v := .int (L_begun v0)) O wf_RX1_40 dX1_segments_1 (L_obj h0) rfl ?_
  refine z_aload_n O dX1_segments_4 rfl rfl ?_
  refine z_get (v := .int (L_dropped v0)) O wf_RX1_43 dX1_segments_5 (L_obj h0) rfl ?_
  refine z_isub O dX1_segments_8 ?_
  exact z_iret O hret hlk dX1_segments_9 (Nat.le_of_ble_eq_true rfl) (Nat.le_of_ble_eq_true rfl) ⟨_, rfl, rfl, rfl, h⟩

theorem dX1_hasRow_0 : decode cX1_hasRow 0 = .ok (.iload_n 1, 1) := by decide +kernel
theorem dX1_hasRow_1 : decode cX1_hasRow 1 = .ok (.aload_n 0, 1) := by decide +kernel
theorem dX1_hasRow_2 : decode cX1_hasRow 2 = .ok (.getfield 30, 3) := by decide +kernel
theorem dX1_hasRow_5 : decode cX1_hasRow 5 = .ok (.if_icmp .lt 15, 3) := by decide +kernel
theorem dX1_hasRow_8 : decode cX1_hasRow 8 = .ok (.iload_n 1, 1) := by decide +kernel
theorem dX1_hasRow_9 : decode cX1_hasRow 9 = .ok (.aload_n 0, 1) := by decide +kernel
theorem dX1_hasRow_10 : decode cX1_hasRow 10 = .ok (.getfield 34, 3) := by decide +kernel
theorem dX1_hasRow_13 : decode cX1_hasRow 13 = .ok (.if_icmp .ge 7, 3) := by decide +kernel
theorem dX1_hasRow_16 : decode cX1_hasRow 16 = .ok (.iconst 1, 1) := by decide +kernel
theorem dX1_hasRow_17 : decode cX1_hasRow 17 = .ok (.goto 4, 3) := by decide +kernel
theorem dX1_hasRow_20 : decode cX1_hasRow 20 = .ok (.iconst 0, 1) := by decide +kernel
theorem dX1_hasRow_21 : decode cX1_hasRow 21 = .ok (.ireturn, 1) := by decide +kernel
def P_L_hasRow (x1 : Int32) (v0 : LT) (Q : Int32 → Prop) : Prop := ((x1 < (L_first v0) → Q 0) ∧ (¬ x1 < (L_first v0) → (((L_end v0) ≤ x1 → Q 0) ∧ (¬ (L_end v0) ≤ x1 → Q 1))))
set_option maxRecDepth 100000 in
theorem s_L_hasRow {l : Launch} {D : zD} {B : Nat} {sa : Nat → Nat} (hfl : l.stackTraces = false) {z : Nat} {G : zG} {b0 : Nat} {x1 : Int32} {v0 : LT} {Q : Int32 → Prop} (h0 : LA b0 v0 G) (h : P_L_hasRow x1 v0 Q) : zSp l D B sa yX1_hasRow cX1_hasRow 2 (some .boolean) 0 0 0 0 [.ref b0, .int x1] z G (zRi fun r z' G' => z = z' ∧ G = G' ∧ Q r) := by
  unfold P_L_hasRow at h
  refine z_ofW (by decide +kernel) hfl [some (.ref b0), some (.int x1)] rfl (Nat.le_of_ble_eq_true rfl) (fun p e s m args below meth c O hret hlk hnm => ?_)
  have O : zO p l s m args c D B sa 2 cX1_hasRow RX1 := O
  refine z_iload_n O dX1_hasRow_0 rfl rfl ?_
  refine z_aload_n O dX1_hasRow_1 rfl rfl ?_
  refine z_get (v := .int (L_first v0)) O wf_RX1_30 dX1_hasRow_2 (L_obj h0) rfl ?_
  refine z_icmp_lt (tgt := 20) O dX1_hasRow_5 (by decide) (fun c1_ => ?_) (fun c1_ => ?_)
  · have h := h.1 c1_
    refine z_iconst (v := 0) O dX1_hasRow_20 (by decide) ?_
    exact z_zret O hret rfl hlk dX1_hasRow_21 (Nat.le_of_ble_eq_true rfl) (Nat.le_of_ble_eq_true rfl) ⟨_, rfl, rfl, rfl, h⟩
  · have h := h.2 c1_
    refine z_iload_n O dX1_hasRow_8 rfl rfl ?_
    refine z_aload_n O dX1_hasRow_9 rfl rfl ?_
    refine z_get (v := .int (L_end v0)) O wf_RX1_34 dX1_hasRow_10 (L_obj h0) rfl ?_
    refine z_icmp_ge (tgt := 20) O dX1_hasRow_13 (by decide) (fun c2_ => ?_) (fun c2_ => ?_)
    · have h := h.1 c2_
      refine z_iconst (v := 0) O dX1_hasRow_20 (by decide) ?_
      exact z_zret O hret rfl hlk dX1_hasRow_21 (Nat.le_of_ble_eq_true rfl) (Nat.le_of_ble_eq_true rfl) ⟨_, rfl, rfl, rfl, h⟩
    · have h := h.2 c2_
      refine z_iconst (v := 1) O dX1_hasRow_16 (by decide) ?_
      refine z_goto (tgt := 21) O dX1_hasRow_17 (by decide) ?_
      exact z_zret O hret rfl hlk dX1_hasRow_21 (Nat.le_of_ble_eq_true rfl) (Nat.le_of_ble_eq_true rfl) ⟨_, rfl, rfl, rfl, h⟩

theorem dX1_startOf_0 : decode cX1_startOf 0 = .ok (.aload_n 0, 1) := by decide +kernel
theorem dX1_startOf_1 : decode cX1_startOf 1 = .ok (.getfield 43, 3) := by decide +kernel
theorem dX1_startOf_4 : decode cX1_startOf 4 = .ok (.iload_n 1, 1) := by decide +kernel
theorem dX1_startOf_5 : decode cX1_startOf 5 = .ok (.iadd, 1) := by decide +kernel
theorem dX1_startOf_6 : decode cX1_startOf 6 = .ok (.istore_n 2, 1) := by decide +kernel
theorem dX1_startOf_7 : decode cX1_startOf 7 = .ok (.iload_n 2, 1) := by decide +kernel
theorem dX1_startOf_8 : decode cX1_startOf 8 = .ok (.ifCond .lt 27, 3) := by decide +kernel
theorem dX1_startOf_11 : decode cX1_startOf 11 = .ok (.iload_n 2, 1) := by decide +kernel
theorem dX1_startOf_12 : decode cX1_startOf 12 = .ok (.aload_n 0, 1) := by decide +kernel
theorem dX1_startOf_13 : decode cX1_startOf 13 = .ok (.getfield 40, 3) := by decide +kernel
theorem dX1_startOf_16 : decode cX1_startOf 16 = .ok (.if_icmp .ge 19, 3) := by decide +kernel
theorem dX1_startOf_19 : decode cX1_startOf 19 = .ok (.iload_n 2, 1) := by decide +kernel
theorem dX1_startOf_20 : decode cX1_startOf 20 = .ok (.sipush 200, 3) := by decide +kernel
theorem dX1_startOf_23 : decode cX1_startOf 23 = .ok (.if_icmp .ge 12, 3) := by decide +kernel
theorem dX1_startOf_26 : decode cX1_startOf 26 = .ok (.aload_n 0, 1) := by decide +kernel
theorem dX1_startOf_27 : decode cX1_startOf 27 = .ok (.getfield 24, 3) := by decide +kernel
theorem dX1_startOf_30 : decode cX1_startOf 30 = .ok (.iload_n 2, 1) := by decide +kernel
theorem dX1_startOf_31 : decode cX1_startOf 31 = .ok (.iaload, 1) := by decide +kernel
theorem dX1_startOf_32 : decode cX1_startOf 32 = .ok (.goto 7, 3) := by decide +kernel
theorem dX1_startOf_35 : decode cX1_startOf 35 = .ok (.aload_n 0, 1) := by decide +kernel
theorem dX1_startOf_36 : decode cX1_startOf 36 = .ok (.getfield 34, 3) := by decide +kernel
theorem dX1_startOf_39 : decode cX1_startOf 39 = .ok (.ireturn, 1) := by decide +kernel
def P_L_startOf (x1 : Int32) (v0 : LT) (Q : Int32 → Prop) : Prop := ((((L_dropped v0) + x1) < 0 → Q (L_end v0)) ∧ (¬ ((L_dropped v0) + x1) < 0 → (((L_begun v0) ≤ ((L_dropped v0) + x1) → Q (L_end v0)) ∧ (¬ (L_begun v0) ≤ ((L_dropped v0) + x1) → ((200 ≤ ((L_dropped v0) + x1) → Q (L_end v0)) ∧ (¬ 200 ≤ ((L_dropped v0) + x1) → vp_in ((L_dropped v0) + x1) 200 ∧ (Q ((L_starts v0) (Int32.toNatClampNeg ((L_dropped v0) + x1))))))))))
set_option maxRecDepth 100000 in
theorem s_L_startOf {l : Launch} {D : zD} {B : Nat} {sa : Nat → Nat} (hfl : l.stackTraces = false) {z : Nat} {G : zG} {b0 : Nat} {x1 : Int32} {v0 : LT} {Q : Int32 → Prop} (h0 : LA b0 v0 G) (h : P_L_startOf x1 v0 Q) : zSp l D B sa yX1_startOf cX1_startOf 3 (some .int) 0 0 0 0 [.ref b0, .int x1] z G (zRi fun r z' G' => z = z' ∧ G = G' ∧ Q r) := by
  unfold P_L_startOf at h
  refine z_ofW (by decide +kernel) hfl [some (.ref b0), some (.int x1), none] rfl (Nat.le_of_ble_eq_true rfl) (fun p e s m args below meth c O hret hlk hnm => ?_)
  have O : zO p l s m args c D B sa 3 cX1_startOf RX1 := O
  refine z_aload_n O dX1_startOf_0 rfl rfl ?_
  refine z_get (v := .int (L_dropped v0)) O wf_RX1_43 dX1_startOf_1 (L_obj h0) rfl ?_
  refine z_iload_n O dX1_startOf_4 rfl rfl ?_
  refine z_iadd O dX1_startOf_5 ?_
  refine z_istore_n (L' := [some (.ref b0), some (.int x1), some (.int ((L_dropped v0) + x1))]) O dX1_startOf_6 rfl (by decide) rfl ?_
  refine z_iload_n O dX1_startOf_7 rfl rfl ?_
  refine z_if_lt (tgt := 35) O dX1_startOf_8 (by decide) (fun c1_ => ?_) (fun c1_ => ?_)
  · have h := h.1 c1_
    refine z_aload_n O dX1_startOf_35 rfl rfl ?_
    refine z_get (v := .int (L_end v0)) O wf_RX1_34 dX1_startOf_36 (L_obj h0) rfl ?_
    exact z_iret O hret hlk dX1_startOf_39 (Nat.le_of_ble_eq_true rfl) (Nat.le_of_ble_eq_true rfl) ⟨_, rfl, rfl, rfl, h⟩
  · have h := h.2 c1_
    refine z_iload_n O dX1_startOf_11 rfl rfl ?_
    refine z_aload_n O dX1_startOf_12 rfl rfl ?_
    refine z_get (v := .int (L_begun v0)) O wf_RX1_40 dX1_startOf_13 (L_obj h0) rfl ?_
    refine z_icmp_ge (tgt := 35) O dX1_startOf_16 (by decide) (fun c2_ => ?_) (fun c2_ => ?_)
    · have h := h.1 c2_
      refine z_aload_n O dX1_startOf_35 rfl rfl ?_
      refine z_get (v := .int (L_end v0)) O wf_RX1_34 dX1_startOf_36 (L_obj h0) rfl ?_
      exact z_iret O hret hlk dX1_startOf_39 (Nat.le_of_ble_eq_true rfl) (Nat.le_of_ble_eq_true rfl) ⟨_, rfl, rfl, rfl, h⟩
    · have h := h.2 c2_
      refine z_iload_n O dX1_startOf_19 rfl rfl ?_
      refine z_sipush (v := 200) O dX1_startOf_20 (by decide) ?_
      refine z_icmp_ge (tgt := 35) O dX1_startOf_23 (by decide) (fun c3_ => ?_) (fun c3_ => ?_)
      · have h := h.1 c3_
        refine z_aload_n O dX1_startOf_35 rfl rfl ?_
        refine z_get (v := .int (L_end v0)) O wf_RX1_34 dX1_startOf_36 (L_obj h0) rfl ?_
        exact z_iret O hret hlk dX1_startOf_39 (Nat.le_of_ble_eq_true rfl) (Nat.le_of_ble_eq_true rfl) ⟨_, rfl, rfl, rfl, h⟩
      · have h := h.2 c3_
        refine z_aload_n O dX1_startOf_26 rfl rfl ?_
        refine z_get (v := .ref (b0 + 5)) O wf_RX1_24 dX1_startOf_27 (L_obj h0) rfl ?_
        refine z_iload_n O dX1_startOf_30 rfl rfl ?_
        obtain ⟨q4_, h⟩ := h
        refine z_iald O dX1_startOf_31 (L_starts_of h0) q4_ ?_
        refine z_goto (tgt := 39) O dX1_startOf_32 (by decide) ?_
        exact z_iret O hret hlk dX1_startOf_39 (Nat.le_of_ble_eq_true rfl) (Nat.le_of_ble_eq_true rfl) ⟨_, rfl, rfl, rfl, h⟩
