theorem dX3_changeHold_0 : decode cX3_changeHold 0 = .ok (.aload_n 1, 1) := by decide +kernel
theorem dX3_changeHold_1 : decode cX3_changeHold 1 = .ok (.ifnonnull 5, 3) := by decide +kernel
theorem dX3_changeHold_4 : decode cX3_changeHold 4 = .ok (.iconst 0, 1) := by decide +kernel
theorem dX3_changeHold_5 : decode cX3_changeHold 5 = .ok (.ireturn, 1) := by decide +kernel
theorem dX3_changeHold_6 : decode cX3_changeHold 6 = .ok (.aload_n 1, 1) := by decide +kernel
theorem dX3_changeHold_7 : decode cX3_changeHold 7 = .ok (.getfield 72, 3) := by decide +kernel
theorem dX3_changeHold_10 : decode cX3_changeHold 10 = .ok (.invokestatic 81, 3) := by decide +kernel
theorem dX3_changeHold_13 : decode cX3_changeHold 13 = .ok (.istore_n 3, 1) := by decide +kernel
theorem dX3_changeHold_14 : decode cX3_changeHold 14 = .ok (.aload_n 1, 1) := by decide +kernel
theorem dX3_changeHold_15 : decode cX3_changeHold 15 = .ok (.iload_n 2, 1) := by decide +kernel
theorem dX3_changeHold_16 : decode cX3_changeHold 16 = .ok (.putfield 72, 3) := by decide +kernel
theorem dX3_changeHold_19 : decode cX3_changeHold 19 = .ok (.aload_n 1, 1) := by decide +kernel
theorem dX3_changeHold_20 : decode cX3_changeHold 20 = .ok (.iconst 0, 1) := by decide +kernel
theorem dX3_changeHold_21 : decode cX3_changeHold 21 = .ok (.putfield 142, 3) := by decide +kernel
theorem dX3_changeHold_24 : decode cX3_changeHold 24 = .ok (.iload_n 3, 1) := by decide +kernel
theorem dX3_changeHold_25 : decode cX3_changeHold 25 = .ok (.ireturn, 1) := by decide +kernel
def P_S_changeHold (r1 : Option Nat) (x2 : Int32) (v0 : ST) (Q : Int32 → ST → Prop) : Prop := (r1 = none → Q 0 v0) ∧ (∀ ir1, r1 = some ir1 → P_T_asNumber (R_held (S_readers v0 ir1)) (fun r1_ => (zb x2 ∧ (∀ v13_, v13_ = (S_seti_readers v0 ir1 (R_set_held (S_readers v0 ir1) x2)) → (∀ v23_, v23_ = (S_seti_readers v13_ ir1 (R_set_lostBy (S_readers v13_ ir1) 0)) → (Q r1_ v23_))))))
set_option maxRecDepth 100000 in
theorem s_S_changeHold {l : Launch} {D : zD} {B : Nat} {sa : Nat → Nat} (hfl : l.stackTraces = false) {z : Nat} {G : zG} {b0 : Nat} {r1 : Option Nat} {x2 : Int32} {v0 : ST} {Q : Int32 → ST → Prop} (h0 : SA b0 v0 G) (hr1 : ∀ i, r1 = some i → i < 8) (h : P_S_changeHold r1 x2 v0 Q) : zSp l D B sa yX3_changeHold cX3_changeHold 4 (some .int) 1 20 0 0 [.ref b0, va_rf (r1.map (fun i => b0 + 10 + 2 * i)), .int x2] z G (zRi fun r z' G' => z = z' ∧ ∃ w, SA b0 w G' ∧ Fr b0 26 G G' ∧ Q r w) := by
  unfold P_S_changeHold at h
  cases hqr1 : r1 with
  | none =>
    refine z_ofW (by decide +kernel) hfl [some (.ref b0), some (.null), some (.int x2), none] rfl (Nat.le_of_ble_eq_true rfl) (fun p e s m args below meth c O hret hlk hnm => ?_)
    have O : zO p l s m args c D B sa 4 cX3_changeHold RX3 := O
    have h := h.1 hqr1
    refine z_aloadN_n O dX3_changeHold_0 rfl rfl ?_
    refine z_ifnonnullN O dX3_changeHold_1 ?_
    refine z_iconst (v := 0) O dX3_changeHold_4 (by decide) ?_
    exact z_iret O hret hlk dX3_changeHold_5 (Nat.le_of_ble_eq_true rfl) (Nat.le_of_ble_eq_true rfl) ⟨_, rfl, rfl, _, h0, Fr.rf, h⟩
  | some ir1 =>
    refine z_ofW (by decide +kernel) hfl [some (.ref b0), some (.ref (b0 + 10 + 2 * ir1)), some (.int x2), none] rfl (Nat.le_of_ble_eq_true rfl) (fun p e s m args below meth c O hret hlk hnm => ?_)
    have O : zO p l s m args c D B sa 4 cX3_changeHold RX3 := O
    have hir1 : ir1 < 8 := hr1 _ hqr1
    have h := h.2 ir1 hqr1
    refine z_aload_n O dX3_changeHold_0 rfl rfl ?_
    refine z_ifnonnull (tgt := 6) O dX3_changeHold_1 (by decide) ?_
    refine z_aload_n O dX3_changeHold_6 rfl rfl ?_
    refine z_get (v := .int (R_held (S_readers v0 ir1))) O wf_RX3_72 dX3_changeHold_7 (R_obj (S_readers_of h0 hir1)) rfl ?_
    refine z_callNi (As := [.int (R_held (S_readers v0 ir1))]) (st := []) O (s_T_asNumber hfl h) wy_X5_asNumber wl_RX3_81 dX3_changeHold_10 rfl rfl ⟨Nat.le_of_ble_eq_true rfl, Nat.le_of_ble_eq_true rfl⟩ (Nat.le_of_ble_eq_true rfl) ⟨Nat.le_of_ble_eq_true rfl, Nat.le_of_ble_eq_true rfl⟩ (fun r1_ z2_ G3_ hq4_ => ?_)
    obtain ⟨rfl, rfl, h⟩ := hq4_
    refine z_istore_n (L' := [some (.ref b0), some (.ref (b0 + 10 + 2 * ir1)), some (.int x2), some (.int r1_)]) O dX3_changeHold_13 rfl (by decide) rfl ?_
    refine z_aload_n O dX3_changeHold_14 rfl rfl ?_
    refine z_iload_n O dX3_changeHold_15 rfl rfl ?_
    obtain ⟨q5_, h⟩ := h
    refine y_put O wp_RX3_72 dX3_changeHold_16 (R_obj (S_readers_of h0 hir1)) (z_narb q5_) (z_fitb q5_) (fun G6_ hw7_ => ?_)
    have k8_ := R_w_held (S_readers_of h0 hir1) hw7_
    have f9_ := hw7_.fr
    have f10_ : Fr (b0 + 10 + 2 * ir1) 2 G G6_ := Fr.mono f9_ (by omega) (by omega)
    have k11_ := S_put_readers h0 hir1 k8_ f10_
    have f12_ : Fr b0 26 G G6_ := Fr.mono f10_ (by have := hir1; omega) (by have := hir1; omega)
    obtain ⟨v13_, ev13_⟩ : ∃ w, w = (S_seti_readers v0 ir1 (R_set_held (S_readers v0 ir1) x2)) := ⟨_, rfl⟩
    have h := h v13_ ev13_
    have k14_ : SA b0 v13_ G6_ := by rw [ev13_]; exact k11_
    have F15_ : Fr b0 26 G G6_ := Fr.trans Fr.rf f12_
    refine z_aload_n O dX3_changeHold_19 rfl rfl ?_
    refine z_iconst (v := 0) O dX3_changeHold_20 (by decide) ?_
    refine y_put O wp_RX3_142 dX3_changeHold_21 (R_obj (S_readers_of k14_ hir1)) rfl rfl (fun G16_ hw17_ => ?_)
    have k18_ := R_w_lostBy (S_readers_of k14_ hir1) hw17_
    have f19_ := hw17_.fr
    have f20_ : Fr (b0 + 10 + 2 * ir1) 2 G6_ G16_ := Fr.mono f19_ (by omega) (by omega)
    have k21_ := S_put_readers k14_ hir1 k18_ f20_
    have f22_ : Fr b0 26 G6_ G16_ := Fr.mono f20_ (by have := hir1; omega) (by have := hir1; omega)
    obtain ⟨v23_, ev23_⟩ : ∃ w, w = (S_seti_readers v13_ ir1 (R_set_lostBy (S_readers v13_ ir1) 0)) := ⟨_, rfl⟩
    have h := h v23_ ev23_
    have k24_ : SA b0 v23_ G16_ := by rw [ev23_]; exact k21_
    have F25_ : Fr b0 26 G G16_ := Fr.trans F15_ f22_
    refine z_iload_n O dX3_changeHold_24 rfl rfl ?_
    exact z_iret O hret hlk dX3_changeHold_25 (Nat.le_of_ble_eq_true rfl) (Nat.le_of_ble_eq_true rfl) ⟨_, rfl, rfl, _, k24_, F25_, h⟩

theorem dX3_change_0 : decode cX3_change 0 = .ok (.aload_n 0, 1) := by decide +kernel
theorem dX3_change_1 : decode cX3_change 1 = .ok (.getfield 24, 3) := by decide +kernel
theorem dX3_change_4 : decode cX3_change 4 = .ok (.iload_n 1, 1) := by decide +kernel
theorem dX3_change_5 : decode cX3_change 5 = .ok (.invokestatic 145, 3) := by decide +kernel
theorem dX3_change_8 : decode cX3_change 8 = .ok (.istore_n 3, 1) := by decide +kernel
theorem dX3_change_9 : decode cX3_change 9 = .ok (.aload_n 0, 1) := by decide +kernel
theorem dX3_change_10 : decode cX3_change 10 = .ok (.getfield 24, 3) := by decide +kernel
theorem dX3_change_13 : decode cX3_change 13 = .ok (.iload_n 1, 1) := by decide +kernel
theorem dX3_change_14 : decode cX3_change 14 = .ok (.iload_n 2, 1) := by decide +kernel
theorem dX3_change_15 : decode cX3_change 15 = .ok (.invokestatic 218, 3) := by decide +kernel
theorem dX3_change_18 : decode cX3_change 18 = .ok (.iload_n 3, 1) := by decide +kernel
theorem dX3_change_19 : decode cX3_change 19 = .ok (.ireturn, 1) := by decide +kernel
def P_S_change (x1 : Int32) (x2 : Int32) (v0 : ST) (Q : Int32 → ST → Prop) : Prop := P_T_at 6 x1 (S_settings v0) (fun r1_ => (P_T_put 6 x1 x2 (S_settings v0) (fun v9_ => (∀ v14_, v14_ = (S_set_settings v0 v9_) → (Q r1_ v14_)))))
set_option maxRecDepth 100000 in
theorem s_S_change {l : Launch} {D : zD} {B : Nat} {sa : Nat → Nat} (hfl : l.stackTraces = false) {z : Nat} {G : zG} {b0 : Nat} {x1 : Int32} {x2 : Int32} {v0 : ST} {Q : Int32 → ST → Prop} (h0 : SA b0 v0 G) (h : P_S_change x1 x2 v0 Q) : zSp l D B sa yX3_change cX3_change 4 (some .int) 1 22 0 0 [.ref b0, .int x1, .int x2] z G (zRi fun r z' G' => z = z' ∧ ∃ w, SA b0 w G' ∧ Fr b0 26 G G' ∧ Q r w) := by
  unfold P_S_change at h
  refine z_ofW (by decide +kernel) hfl [some (.ref b0), some (.int x1), some (.int x2), none] rfl (Nat.le_of_ble_eq_true rfl) (fun p e s m args below meth c O hret hlk hnm => ?_)
  have O : zO p l s m args c D B sa 4 cX3_change RX3 := O
  refine z_aload_n O dX3_change_0 rfl rfl ?_
  refine z_get (v := .ref (b0 + 9)) O wf_RX3_24 dX3_change_1 (S_obj h0) rfl ?_
  refine z_iload_n O dX3_change_4 rfl rfl ?_
  refine z_callNi (As := [.ref (b0 + 9), .int x1]) (st := []) O (s_T_at hfl (S_settings_of h0) h) wy_X5_at wl_RX3_145 dX3_change_5 rfl rfl ⟨Nat.le_of_ble_eq_true rfl, Nat.le_of_ble_eq_true rfl⟩ (Nat.le_of_ble_eq_true rfl) ⟨Nat.le_of_ble_eq_true rfl, Nat.le_of_ble_eq_true rfl⟩ (fun r1_ z2_ G3_ hq4_ => ?_)
  obtain ⟨rfl, rfl, h⟩ := hq4_
  refine z_istore_n (L' := [some (.ref b0), some (.int x1), some (.int x2), some (.int r1_)]) O dX3_change_8 rfl (by decide) rfl ?_
  refine z_aload_n O dX3_change_9 rfl rfl ?_
  refine z_get (v := .ref (b0 + 9)) O wf_RX3_24 dX3_change_10 (S_obj h0) rfl ?_
  refine z_iload_n O dX3_change_13 rfl rfl ?_
  refine z_iload_n O dX3_change_14 rfl rfl ?_
  refine z_callNv (As := [.ref (b0 + 9), .int x1, .int x2]) (st := []) O (s_T_put hfl (S_settings_of h0) h) wy_X5_put wl_RX3_218 dX3_change_15 rfl rfl ⟨Nat.le_of_ble_eq_true rfl, Nat.le_of_ble_eq_true rfl⟩ (Nat.le_of_ble_eq_true rfl) ⟨Nat.le_of_ble_eq_true rfl, Nat.le_of_ble_eq_true rfl⟩ (fun z6_ G7_ hq8_ => ?_)
  obtain ⟨rfl, v9_, k10_, f11_, h⟩ := hq8_
  have k12_ := S_put_settings h0 k10_ f11_
  have f13_ : Fr b0 26 G G7_ := Fr.mono f11_ (by omega) (by omega)
  obtain ⟨v14_, ev14_⟩ : ∃ w, w = (S_set_settings v0 v9_) := ⟨_, rfl⟩
  have h := h v14_ ev14_
  have k15_ : SA b0 v14_ G7_ := by rw [ev14_]; exact k12_
  have F16_ : Fr b0 26 G G7_ := Fr.trans Fr.rf f13_
  refine z_iload_n O dX3_change_18 rfl rfl ?_
  exact z_iret O hret hlk dX3_change_19 (Nat.le_of_ble_eq_true rfl) (Nat.le_of_ble_eq_true rfl) ⟨_, rfl, rfl, _, k15_, F16_, h⟩

theorem dX3_checkHold_0 : decode cX3_checkHold 0 = .ok (.aload_n 1, 1) := by decide +kernel
theorem dX3_checkHold_1 : decode cX3_checkHold 1 = .ok (.ifnull 10, 3) := by decide +kernel
theorem dX3_checkHold_4 : decode cX3_checkHold 4 = .ok (.aload_n 1, 1) := by decide +kernel
theorem dX3_checkHold_5 : decode cX3_checkHold 5 = .ok (.getfield 72, 3) := by decide +kernel
theorem dX3_checkHold_8 : decode cX3_checkHold 8 = .ok (.ifCond .ne 4, 3) := by decide +kernel
theorem dX3_checkHold_11 : decode cX3_checkHold 11 = .ok (.return_, 1) := by decide +kernel
theorem dX3_checkHold_12 : decode cX3_checkHold 12 = .ok (.aload_n 0, 1) := by decide +kernel
theorem dX3_checkHold_13 : decode cX3_checkHold 13 = .ok (.getfield 24, 3) := by decide +kernel
theorem dX3_checkHold_16 : decode cX3_checkHold 16 = .ok (.iconst 4, 1) := by decide +kernel
theorem dX3_checkHold_17 : decode cX3_checkHold 17 = .ok (.invokestatic 145, 3) := by decide +kernel
theorem dX3_checkHold_20 : decode cX3_checkHold 20 = .ok (.istore_n 2, 1) := by decide +kernel
theorem dX3_checkHold_21 : decode cX3_checkHold 21 = .ok (.aload_n 0, 1) := by decide +kernel
theorem dX3_checkHold_22 : decode cX3_checkHold 22 = .ok (.getfield 24, 3) := by decide +kernel
theorem dX3_checkHold_25 : decode cX3_checkHold 25 = .ok (.iconst 5, 1) := by decide +kernel
theorem dX3_checkHold_26 : decode cX3_checkHold 26 = .ok (.invokestatic 145, 3) := by decide +kernel
theorem dX3_checkHold_29 : decode cX3_checkHold 29 = .ok (.istore_n 3, 1) := by decide +kernel
theorem dX3_checkHold_30 : decode cX3_checkHold 30 = .ok (.iload_n 2, 1) := by decide +kernel
theorem dX3_checkHold_31 : decode cX3_checkHold 31 = .ok (.ifCond .le 36, 3) := by decide +kernel
theorem dX3_checkHold_34 : decode cX3_checkHold 34 = .ok (.aload_n 0, 1) := by decide +kernel
theorem dX3_checkHold_35 : decode cX3_checkHold 35 = .ok (.getfield 12, 3) := by decide +kernel
theorem dX3_checkHold_38 : decode cX3_checkHold 38 = .ok (.aload_n 1, 1) := by decide +kernel
theorem dX3_checkHold_39 : decode cX3_checkHold 39 = .ok (.getfield 75, 3) := by decide +kernel
theorem dX3_checkHold_42 : decode cX3_checkHold 42 = .ok (.invokevirtual 139, 3) := by decide +kernel
theorem dX3_checkHold_45 : decode cX3_checkHold 45 = .ok (.iload_n 2, 1) := by decide +kernel
theorem dX3_checkHold_46 : decode cX3_checkHold 46 = .ok (.if_icmp .le 21, 3) := by decide +kernel
theorem dX3_checkHold_49 : decode cX3_checkHold 49 = .ok (.aload_n 1, 1) := by decide +kernel
theorem dX3_checkHold_50 : decode cX3_checkHold 50 = .ok (.iconst 1, 1) := by decide +kernel
theorem dX3_checkHold_51 : decode cX3_checkHold 51 = .ok (.putfield 142, 3) := by decide +kernel
theorem dX3_checkHold_54 : decode cX3_checkHold 54 = .ok (.aload_n 0, 1) := by decide +kernel
theorem dX3_checkHold_55 : decode cX3_checkHold 55 = .ok (.dup, 1) := by decide +kernel
theorem dX3_checkHold_56 : decode cX3_checkHold 56 = .ok (.getfield 45, 3) := by decide +kernel
theorem dX3_checkHold_59 : decode cX3_checkHold 59 = .ok (.iconst 1, 1) := by decide +kernel
theorem dX3_checkHold_60 : decode cX3_checkHold 60 = .ok (.iadd, 1) := by decide +kernel
theorem dX3_checkHold_61 : decode cX3_checkHold 61 = .ok (.putfield 45, 3) := by decide +kernel
theorem dX3_checkHold_64 : decode cX3_checkHold 64 = .ok (.goto 39, 3) := by decide +kernel
theorem dX3_checkHold_67 : decode cX3_checkHold 67 = .ok (.iload_n 3, 1) := by decide +kernel
theorem dX3_checkHold_68 : decode cX3_checkHold 68 = .ok (.ifCond .le 34, 3) := by decide +kernel
theorem dX3_checkHold_71 : decode cX3_checkHold 71 = .ok (.aload_n 0, 1) := by decide +kernel
theorem dX3_checkHold_72 : decode cX3_checkHold 72 = .ok (.getfield 41, 3) := by decide +kernel
theorem dX3_checkHold_75 : decode cX3_checkHold 75 = .ok (.aload_n 1, 1) := by decide +kernel
theorem dX3_checkHold_76 : decode cX3_checkHold 76 = .ok (.getfield 131, 3) := by decide +kernel
theorem dX3_checkHold_79 : decode cX3_checkHold 79 = .ok (.isub, 1) := by decide +kernel
theorem dX3_checkHold_80 : decode cX3_checkHold 80 = .ok (.iload_n 3, 1) := by decide +kernel
theorem dX3_checkHold_81 : decode cX3_checkHold 81 = .ok (.if_icmp .lt 21, 3) := by decide +kernel
theorem dX3_checkHold_84 : decode cX3_checkHold 84 = .ok (.aload_n 1, 1) := by decide +kernel
theorem dX3_checkHold_85 : decode cX3_checkHold 85 = .ok (.iconst 2, 1) := by decide +kernel
theorem dX3_checkHold_86 : decode cX3_checkHold 86 = .ok (.putfield 142, 3) := by decide +kernel
theorem dX3_checkHold_89 : decode cX3_checkHold 89 = .ok (.aload_n 0, 1) := by decide +kernel
theorem dX3_checkHold_90 : decode cX3_checkHold 90 = .ok (.dup, 1) := by decide +kernel
theorem dX3_checkHold_91 : decode cX3_checkHold 91 = .ok (.getfield 48, 3) := by decide +kernel
theorem dX3_checkHold_94 : decode cX3_checkHold 94 = .ok (.iconst 1, 1) := by decide +kernel
theorem dX3_checkHold_95 : decode cX3_checkHold 95 = .ok (.iadd, 1) := by decide +kernel
theorem dX3_checkHold_96 : decode cX3_checkHold 96 = .ok (.putfield 48, 3) := by decide +kernel
theorem dX3_checkHold_99 : decode cX3_checkHold 99 = .ok (.goto 4, 3) := by decide +kernel
theorem dX3_checkHold_102 : decode cX3_checkHold 102 = .ok (.return_, 1) := by decide +kernel
theorem dX3_checkHold_103 : decode cX3_checkHold 103 = .ok (.aload_n 1, 1) := by decide +kernel
theorem dX3_checkHold_104 : decode cX3_checkHold 104 = .ok (.iconst 0, 1) := by decide +kernel
theorem dX3_checkHold_105 : decode cX3_checkHold 105 = .ok (.putfield 72, 3) := by decide +kernel
theorem dX3_checkHold_108 : decode cX3_checkHold 108 = .ok (.return_, 1) := by decide +kernel
def PJ_S_checkHold_67 (r1 : Option Nat) (e1_67 : Nat) (y3 : Int32) (v0 : ST) (Q : ST → Prop) : Prop := ((y3 ≤ 0 → Q v0) ∧ (¬ y3 ≤ 0 → ((((S_time v0) - (R_lastRead (S_readers v0 e1_67))) < y3 → Q v0) ∧ (¬ ((S_time v0) - (R_lastRead (S_readers v0 e1_67))) < y3 → ∀ v20_, v20_ = (S_seti_readers v0 e1_67 (R_set_lostBy (S_readers v0 e1_67) 2)) → (∀ v28_, v28_ = (S_set_lostBySleep v20_ ((S_lostBySleep v20_) + 1)) → (∀ v38_, v38_ = (S_seti_readers v28_ e1_67 (R_set_held (S_readers v28_ e1_67) 0)) → (Q v38_)))))))
def P_S_checkHold (r1 : Option Nat) (v0 : ST) (Q : ST → Prop) : Prop := (r1 = none → Q v0) ∧ (∀ ir1, r1 = some ir1 → ((¬ (R_held (S_readers v0 ir1)) = 0 → P_T_at 6 4 (S_settings v0) (fun r2_ => (P_T_at 6 5 (S_settings v0) (fun r6_ => (((r2_ ≤ 0 → PJ_S_checkHold_67 r1 ir1 r6_ v0 Q) ∧ (¬ r2_ ≤ 0 → P_L_lengthFrom (R_place (S_readers v0 ir1)) (S_log v0) (fun r41_ => (((r41_ ≤ r2_ → PJ_S_checkHold_67 r1 ir1 r6_ v0 Q) ∧ (¬ r41_ ≤ r2_ → ∀ v53_, v53_ = (S_seti_readers v0 ir1 (R_set_lostBy (S_readers v0 ir1) 1)) → (∀ v61_, v61_ = (S_set_lostByLength v53_ ((S_lostByLength v53_) + 1)) → (∀ v71_, v71_ = (S_seti_readers v61_ ir1 (R_set_held (S_readers v61_ ir1) 0)) → (Q v71_)))))))))))))) ∧ ((R_held (S_readers v0 ir1)) = 0 → Q v0)))
set_option maxRecDepth 100000 in
theorem s_S_checkHold {l : Launch} {D : zD} {B : Nat} {sa : Nat → Nat} (hfl : l.stackTraces = false) {z : Nat} {G : zG} {b0 : Nat} {r1 : Option Nat} {v0 : ST} {Q : ST → Prop} (h0 : SA b0 v0 G) (hr1 : ∀ i, r1 = some i → i < 8) (h : P_S_checkHold r1 v0 Q) : zSp l D B sa yX3_checkHold cX3_checkHold 4 none 2 42 0 0 [.ref b0, va_rf (r1.map (fun i => b0 + 10 + 2 * i))] z G (zRv fun z' G' => z = z' ∧ ∃ w, SA b0 w G' ∧ Fr b0 26 G G' ∧ Q w) := by
  unfold P_S_checkHold at h
  cases hqr1 : r1 with
  | none =>
    refine z_ofW (by decide +kernel) hfl [some (.ref b0), some (.null), none, none] rfl (Nat.le_of_ble_eq_true rfl) (fun p e s m args below meth c O hret hlk hnm => ?_)
    have O : zO p l s m args c D B sa 4 cX3_checkHold RX3 := O
    have HJ67 : ∀ (e1_67 : Nat) (he1_67 : e1_67 < 8) (y3 : Int32) (v0 : ST) (G9 : zG) (g0 : SA b0 v0 G9) (gF : Fr b0 26 G G9), PJ_S_checkHold_67 r1 e1_67 y3 v0 Q → zT p l e (zrm 2 42 0 0) s m args below meth c (zEnd below D B (zRv fun z' G' => z = z' ∧ ∃ w, SA b0 w G' ∧ Fr b0 26 G G' ∧ Q w) args s 0 0) D B 4 0 0 67 [] [some (.ref b0), some (.ref (b0 + 10 + 2 * e1_67)), none, some (.int y3)] z G9 := by
      intro e1_67 he1_67 y3 v0 G9 g0 gF h
      unfold PJ_S_checkHold_67 at h
      refine z_iload_n O dX3_checkHold_67 rfl rfl ?_
      refine z_if_le (tgt := 102) O dX3_checkHold_68 (by decide) (fun c11_ => ?_) (fun c11_ => ?_)
      · have h := h.1 c11_
        exact z_vret O hret hlk dX3_checkHold_102 (Nat.le_of_ble_eq_true rfl) (Nat.le_of_ble_eq_true rfl) ⟨rfl, rfl, _, g0, gF, h⟩
      · have h := h.2 c11_
        refine z_aload_n O dX3_checkHold_71 rfl rfl ?_
        refine z_get (v := .int (S_time v0)) O wf_RX3_41 dX3_checkHold_72 (S_obj g0) rfl ?_
        refine z_aload_n O dX3_checkHold_75 rfl rfl ?_
        refine z_get (v := .int (R_lastRead (S_readers v0 e1_67))) O wf_RX3_131 dX3_checkHold_76 (R_obj (S_readers_of g0 he1_67)) rfl ?_
        refine z_isub O dX3_checkHold_79 ?_
        refine z_iload_n O dX3_checkHold_80 rfl rfl ?_
        refine z_icmp_lt (tgt := 102) O dX3_checkHold_81 (by decide) (fun c12_ => ?_) (fun c12_ => ?_)
        · have h := h.1 c12_
          exact z_vret O hret hlk dX3_checkHold_102 (Nat.le_of_ble_eq_true rfl) (Nat.le_of_ble_eq_true rfl) ⟨rfl, rfl, _, g0, gF, h⟩
        · have h := h.2 c12_
          refine z_aload_n O dX3_checkHold_84 rfl rfl ?_
          refine z_iconst (v := 2) O dX3_checkHold_85 (by decide) ?_
          refine y_put O wp_RX3_142 dX3_checkHold_86 (R_obj (S_readers_of g0 he1_67)) rfl rfl (fun G13_ hw14_ => ?_)
          have k15_ := R_w_lostBy (S_readers_of g0 he1_67) hw14_
          have f16_ := hw14_.fr
          have f17_ : Fr (b0 + 10 + 2 * e1_67) 2 G9 G13_ := Fr.mono f16_ (by omega) (by omega)
          have k18_ := S_put_readers g0 he1_67 k15_ f17_
          have f19_ : Fr b0 26 G9 G13_ := Fr.mono f17_ (by have := he1_67; omega) (by have := he1_67; omega)
          obtain ⟨v20_, ev20_⟩ : ∃ w, w = (S_seti_readers v0 e1_67 (R_set_lostBy (S_readers v0 e1_67) 2)) := ⟨_, rfl⟩
          have h := h v20_ ev20_
          have k21_ : SA b0 v20_ G13_ := by rw [ev20_]; exact k18_
          have F22_ : Fr b0 26 G G13_ := Fr.trans gF f19_
          refine z_aload_n O dX3_checkHold_89 rfl rfl ?_
          refine z_dup O dX3_checkHold_90 rfl ?_
          refine z_get (v := .int (S_lostBySleep v20_)) O wf_RX3_48 dX3_checkHold_91 (S_obj k21_) rfl ?_
          refine z_iconst (v := 1) O dX3_checkHold_94 (by decide) ?_
          refine z_iadd O dX3_checkHold_95 ?_
          refine y_put O wp_RX3_48 dX3_checkHold_96 (S_obj k21_) rfl rfl (fun G23_ hw24_ => ?_)
          have k25_ := S_w_lostBySleep k21_ hw24_
          have f26_ := hw24_.fr
          have f27_ : Fr b0 26 G13_ G23_ := Fr.mono f26_ (by omega) (by omega)
          obtain ⟨v28_, ev28_⟩ : ∃ w, w = (S_set_lostBySleep v20_ ((S_lostBySleep v20_) + 1)) := ⟨_, rfl⟩
          have h := h v28_ ev28_
          have k29_ : SA b0 v28_ G23_ := by rw [ev28_]; exact k25_
          have F30_ : Fr b0 26 G G23_ := Fr.trans F22_ f27_
          refine z_goto (tgt := 103) O dX3_checkHold_99 (by decide) ?_
          refine z_aload_n O dX3_checkHold_103 rfl rfl ?_
          refine z_iconst (v := 0) O dX3_checkHold_104 (by decide) ?_
          refine y_put O wp_RX3_72 dX3_checkHold_105 (R_obj (S_readers_of k29_ he1_67)) rfl rfl (fun G31_ hw32_ => ?_)
          have k33_ := R_w_held (S_readers_of k29_ he1_67) hw32_
          have f34_ := hw32_.fr
          have f35_ : Fr (b0 + 10 + 2 * e1_67) 2 G23_ G31_ := Fr.mono f34_ (by omega) (by omega)
          have k36_ := S_put_readers k29_ he1_67 k33_ f35_
          have f37_ : Fr b0 26 G23_ G31_ := Fr.mono f35_ (by have := he1_67; omega) (by have := he1_67; omega)
          obtain ⟨v38_, ev38_⟩ : ∃ w, w = (S_seti_readers v28_ e1_67 (R_set_held (S_readers v28_ e1_67) 0)) := ⟨_, rfl⟩
          have h := h v38_ ev38_
          have k39_ : SA b0 v38_ G31_ := by rw [ev38_]; exact k36_
          have F40_ : Fr b0 26 G G31_ := Fr.trans F30_ f37_
          exact z_vret O hret hlk dX3_checkHold_108 (Nat.le_of_ble_eq_true rfl) (Nat.le_of_ble_eq_true rfl) ⟨rfl, rfl, _, k39_, F40_, h⟩
    have h := h.1 hqr1
    refine z_aloadN_n O dX3_checkHold_0 rfl rfl ?_
    refine z_ifnullN (tgt := 11) O dX3_checkHold_1 (by decide) ?_
    exact z_vret O hret hlk dX3_checkHold_11 (Nat.le_of_ble_eq_true rfl) (Nat.le_of_ble_eq_true rfl) ⟨rfl, rfl, _, h0, Fr.rf, h⟩
  | some ir1 =>
    refine z_ofW (by decide +kernel) hfl [some (.ref b0), some (.ref (b0 + 10 + 2 * ir1)), none, none] rfl (Nat.le_of_ble_eq_true rfl) (fun p e s m args below meth c O hret hlk hnm => ?_)
    have O : zO p l s m args c D B sa 4 cX3_checkHold RX3 := O
    have hir1 : ir1 < 8 := hr1 _ hqr1
    have HJ67 : ∀ (e1_67 : Nat) (he1_67 : e1_67 < 8) (y3 : Int32) (v0 : ST) (G9 : zG) (g0 : SA b0 v0 G9) (gF : Fr b0 26 G G9), PJ_S_checkHold_67 r1 e1_67 y3 v0 Q → zT p l e (zrm 2 42 0 0) s m args below meth c (zEnd below D B (zRv fun z' G' => z = z' ∧ ∃ w, SA b0 w G' ∧ Fr b0 26 G G' ∧ Q w) args s 0 0) D B 4 0 0 67 [] [some (.ref b0), some (.ref (b0 + 10 + 2 * e1_67)), none, some (.int y3)] z G9 := by
      intro e1_67 he1_67 y3 v0 G9 g0 gF h
      unfold PJ_S_checkHold_67 at h
      refine z_iload_n O dX3_checkHold_67 rfl rfl ?_
      refine z_if_le (tgt := 102) O dX3_checkHold_68 (by decide) (fun c11_ => ?_) (fun c11_ => ?_)
      · have h := h.1 c11_
        exact z_vret O hret hlk dX3_checkHold_102 (Nat.le_of_ble_eq_true rfl) (Nat.le_of_ble_eq_true rfl) ⟨rfl, rfl, _, g0, gF, h⟩
      · have h := h.2 c11_
        refine z_aload_n O dX3_checkHold_71 rfl rfl ?_
        refine z_get (v := .int (S_time v0)) O wf_RX3_41 dX3_checkHold_72 (S_obj g0) rfl ?_
        refine z_aload_n O dX3_checkHold_75 rfl rfl ?_
        refine z_get (v := .int (R_lastRead (S_readers v0 e1_67))) O wf_RX3_131 dX3_checkHold_76 (R_obj (S_readers_of g0 he1_67)) rfl ?_
        refine z_isub O dX3_checkHold_79 ?_
        refine z_iload_n O dX3_checkHold_80 rfl rfl ?_
        refine z_icmp_lt (tgt := 102) O dX3_checkHold_81 (by decide) (fun c12_ => ?_) (fun c12_ => ?_)
        · have h := h.1 c12_
          exact z_vret O hret hlk dX3_checkHold_102 (Nat.le_of_ble_eq_true rfl) (Nat.le_of_ble_eq_true rfl) ⟨rfl, rfl, _, g0, gF, h⟩
        · have h := h.2 c12_
          refine z_aload_n O dX3_checkHold_84 rfl rfl ?_
          refine z_iconst (v := 2) O dX3_checkHold_85 (by decide) ?_
          refine y_put O wp_RX3_142 dX3_checkHold_86 (R_obj (S_readers_of g0 he1_67)) rfl rfl (fun G13_ hw14_ => ?_)
          have k15_ := R_w_lostBy (S_readers_of g0 he1_67) hw14_
          have f16_ := hw14_.fr
          have f17_ : Fr (b0 + 10 + 2 * e1_67) 2 G9 G13_ := Fr.mono f16_ (by omega) (by omega)
          have k18_ := S_put_readers g0 he1_67 k15_ f17_
          have f19_ : Fr b0 26 G9 G13_ := Fr.mono f17_ (by have := he1_67; omega) (by have := he1_67; omega)
          obtain ⟨v20_, ev20_⟩ : ∃ w, w = (S_seti_readers v0 e1_67 (R_set_lostBy (S_readers v0 e1_67) 2)) := ⟨_, rfl⟩
          have h := h v20_ ev20_
          have k21_ : SA b0 v20_ G13_ := by rw [ev20_]; exact k18_
          have F22_ : Fr b0 26 G G13_ := Fr.trans gF f19_
          refine z_aload_n O dX3_checkHold_89 rfl rfl ?_
          refine z_dup O dX3_checkHold_90 rfl ?_
          refine z_get (v := .int (S_lostBySleep v20_)) O wf_RX3_48 dX3_checkHold_91 (S_obj k21_) rfl ?_
          refine z_iconst (v := 1) O dX3_checkHold_94 (by decide) ?_
          refine z_iadd O dX3_checkHold_95 ?_
          refine y_put O wp_RX3_48 dX3_checkHold_96 (S_obj k21_) rfl rfl (fun G23_ hw24_ => ?_)
          have k25_ := S_w_lostBySleep k21_ hw24_
          have f26_ := hw24_.fr
          have f27_ : Fr b0 26 G13_ G23_ := Fr.mono f26_ (by omega) (by omega)
          obtain ⟨v28_, ev28_⟩ : ∃ w, w = (S_set_lostBySleep v20_ ((S_lostBySleep v20_) + 1)) := ⟨_, rfl⟩
          have h := h v28_ ev28_
          have k29_ : SA b0 v28_ G23_ := by rw [ev28_]; exact k25_
          have F30_ : Fr b0 26 G G23_ := Fr.trans F22_ f27_
          refine z_goto (tgt := 103) O dX3_checkHold_99 (by decide) ?_
          refine z_aload_n O dX3_checkHold_103 rfl rfl ?_
          refine z_iconst (v := 0) O dX3_checkHold_104 (by decide) ?_
          refine y_put O wp_RX3_72 dX3_checkHold_105 (R_obj (S_readers_of k29_ he1_67)) rfl rfl (fun G31_ hw32_ => ?_)
          have k33_ := R_w_held (S_readers_of k29_ he1_67) hw32_
          have f34_ := hw32_.fr
          have f35_ : Fr (b0 + 10 + 2 * e1_67) 2 G23_ G31_ := Fr.mono f34_ (by omega) (by omega)
          have k36_ := S_put_readers k29_ he1_67 k33_ f35_
          have f37_ : Fr b0 26 G23_ G31_ := Fr.mono f35_ (by have := he1_67; omega) (by have := he1_67; omega)
          obtain ⟨v38_, ev38_⟩ : ∃ w, w = (S_seti_readers v28_ e1_67 (R_set_held (S_readers v28_ e1_67) 0)) := ⟨_, rfl⟩
          have h := h v38_ ev38_
          have k39_ : SA b0 v38_ G31_ := by rw [ev38_]; exact k36_
          have F40_ : Fr b0 26 G G31_ := Fr.trans F30_ f37_
          exact z_vret O hret hlk dX3_checkHold_108 (Nat.le_of_ble_eq_true rfl) (Nat.le_of_ble_eq_true rfl) ⟨rfl, rfl, _, k39_, F40_, h⟩
    have h := h.2 ir1 hqr1
    refine z_aload_n O dX3_checkHold_0 rfl rfl ?_
    refine z_ifnull O dX3_checkHold_1 ?_
    refine z_aload_n O dX3_checkHold_4 rfl rfl ?_
    refine z_get (v := .int (R_held (S_readers v0 ir1))) O wf_RX3_72 dX3_checkHold_5 (R_obj (S_readers_of h0 hir1)) rfl ?_
    refine z_if_ne (tgt := 12) O dX3_checkHold_8 (by decide) (fun c1_ => ?_) (fun c1_ => ?_)
    · have h := h.1 c1_
      refine z_aload_n O dX3_checkHold_12 rfl rfl ?_
      refine z_get (v := .ref (b0 + 9)) O wf_RX3_24 dX3_checkHold_13 (S_obj h0) rfl ?_
      refine z_iconst (v := 4) O dX3_checkHold_16 (by decide) ?_
      refine z_callNi (As := [.ref (b0 + 9), .int 4]) (st := []) O (s_T_at hfl (S_settings_of h0) h) wy_X5_at wl_RX3_145 dX3_checkHold_17 rfl rfl ⟨Nat.le_of_ble_eq_true rfl, Nat.le_of_ble_eq_true rfl⟩ (Nat.le_of_ble_eq_true rfl) ⟨Nat.le_of_ble_eq_true rfl, Nat.le_of_ble_eq_true rfl⟩ (fun r2_ z3_ G4_ hq5_ => ?_)
      obtain ⟨rfl, rfl, h⟩ := hq5_
      refine z_istore_n (L' := [some (.ref b0), some (.ref (b0 + 10 + 2 * ir1)), some (.int r2_), none]) O dX3_checkHold_20 rfl (by decide) rfl ?_
      refine z_aload_n O dX3_checkHold_21 rfl rfl ?_
      refine z_get (v := .ref (b0 + 9)) O wf_RX3_24 dX3_checkHold_22 (S_obj h0) rfl ?_
      refine z_iconst (v := 5) O dX3_checkHold_25 (by decide) ?_
      refine z_callNi (As := [.ref (b0 + 9), .int 5]) (st := []) O (s_T_at hfl (S_settings_of h0) h) wy_X5_at wl_RX3_145 dX3_checkHold_26 rfl rfl ⟨Nat.le_of_ble_eq_true rfl, Nat.le_of_ble_eq_true rfl⟩ (Nat.le_of_ble_eq_true rfl) ⟨Nat.le_of_ble_eq_true rfl, Nat.le_of_ble_eq_true rfl⟩ (fun r6_ z7_ G8_ hq9_ => ?_)
      obtain ⟨rfl, rfl, h⟩ := hq9_
      refine z_istore_n (L' := [some (.ref b0), some (.ref (b0 + 10 + 2 * ir1)), some (.int r2_), some (.int r6_)]) O dX3_checkHold_29 rfl (by decide) rfl ?_
      refine z_iload_n O dX3_checkHold_30 rfl rfl ?_
      refine z_if_le (tgt := 67) O dX3_checkHold_31 (by decide) (fun c10_ => ?_) (fun c10_ => ?_)
      · have h := h.1 c10_
        exact z_subL (L' := [some (.ref b0), some (.ref (b0 + 10 + 2 * ir1)), none, some (.int r6_)]) (zLe.sub (And.intro rfl (And.intro rfl (And.intro rfl True.intro)))) (HJ67 ir1 hir1 r6_ v0 G h0 Fr.rf h)
      · have h := h.2 c10_
        refine z_aload_n O dX3_checkHold_34 rfl rfl ?_
        refine z_get (v := .ref (b0 + 1)) O wf_RX3_12 dX3_checkHold_35 (S_obj h0) rfl ?_
        refine z_aload_n O dX3_checkHold_38 rfl rfl ?_
        refine z_get (v := .int (R_place (S_readers v0 ir1))) O wf_RX3_75 dX3_checkHold_39 (R_obj (S_readers_of h0 hir1)) rfl ?_
        refine z_callVi (As := [.int (R_place (S_readers v0 ir1))]) (st := []) O (s_L_lengthFrom hfl (S_log_of h0) h) wy_X1_lengthFrom wl_RX3_139 dX3_checkHold_42 rfl rfl (L_obj (S_log_of h0)) ⟨by decide, rfl⟩ ⟨Nat.le_of_ble_eq_true rfl, Nat.le_of_ble_eq_true rfl⟩ (Nat.le_of_ble_eq_true rfl) ⟨Nat.le_of_ble_eq_true rfl, Nat.le_of_ble_eq_true rfl⟩ (fun r41_ z42_ G43_ hq44_ => ?_)
        obtain ⟨rfl, rfl, h⟩ := hq44_
        refine z_iload_n O dX3_checkHold_45 rfl rfl ?_
        refine z_icmp_le (tgt := 67) O dX3_checkHold_46 (by decide) (fun c45_ => ?_) (fun c45_ => ?_)
        · have h := h.1 c45_
          exact z_subL (L' := [some (.ref b0), some (.ref (b0 + 10 + 2 * ir1)), none, some (.int r6_)]) (zLe.sub (And.intro rfl (And.intro rfl (And.intro rfl True.intro)))) (HJ67 ir1 hir1 r6_ v0 G h0 Fr.rf h)
        · have h := h.2 c45_
          refine z_aload_n O dX3_checkHold_49 rfl rfl ?_
          refine z_iconst (v := 1) O dX3_checkHold_50 (by decide) ?_
          refine y_put O wp_RX3_142 dX3_checkHold_51 (R_obj (S_readers_of h0 hir1)) rfl rfl (fun G46_ hw47_ => ?_)
          have k48_ := R_w_lostBy (S_readers_of h0 hir1) hw47_
          have f49_ := hw47_.fr
          have f50_ : Fr (b0 + 10 + 2 * ir1) 2 G G46_ := Fr.mono f49_ (by omega) (by omega)
          have k51_ := S_put_readers h0 hir1 k48_ f50_
          have f52_ : Fr b0 26 G G46_ := Fr.mono f50_ (by have := hir1; omega) (by have := hir1; omega)
          obtain ⟨v53_, ev53_⟩ : ∃ w, w = (S_seti_readers v0 ir1 (R_set_lostBy (S_readers v0 ir1) 1)) := ⟨_, rfl⟩
          have h := h v53_ ev53_
          have k54_ : SA b0 v53_ G46_ := by rw [ev53_]; exact k51_
          have F55_ : Fr b0 26 G G46_ := Fr.trans Fr.rf f52_
          refine z_aload_n O dX3_checkHold_54 rfl rfl ?_
          refine z_dup O dX3_checkHold_55 rfl ?_
          refine z_get (v := .int (S_lostByLength v53_)) O wf_RX3_45 dX3_checkHold_56 (S_obj k54_) rfl ?_
          refine z_iconst (v := 1) O dX3_checkHold_59 (by decide) ?_
          refine z_iadd O dX3_checkHold_60 ?_
          refine y_put O wp_RX3_45 dX3_checkHold_61 (S_obj k54_) rfl rfl (fun G56_ hw57_ => ?_)
          have k58_ := S_w_lostByLength k54_ hw57_
          have f59_ := hw57_.fr
          have f60_ : Fr b0 26 G46_ G56_ := Fr.mono f59_ (by omega) (by omega)
          obtain ⟨v61_, ev61_⟩ : ∃ w, w = (S_set_lostByLength v53_ ((S_lostByLength v53_) + 1)) := ⟨_, rfl⟩
          have h := h v61_ ev61_
          have k62_ : SA b0 v61_ G56_ := by rw [ev61_]; exact k58_
          have F63_ : Fr b0 26 G G56_ := Fr.trans F55_ f60_
          refine z_goto (tgt := 103) O dX3_checkHold_64 (by decide) ?_
          refine z_aload_n O dX3_checkHold_103 rfl rfl ?_
          refine z_iconst (v := 0) O dX3_checkHold_104 (by decide) ?_
          refine y_put O wp_RX3_72 dX3_checkHold_105 (R_obj (S_readers_of k62_ hir1)) rfl rfl (fun G64_ hw65_ => ?_)
          have k66_ := R_w_held (S_readers_of k62_ hir1) hw65_
          have f67_ := hw65_.fr
          have f68_ : Fr (b0 + 10 + 2 * ir1) 2 G56_ G64_ := Fr.mono f67_ (by omega) (by omega)
          have k69_ := S_put_readers k62_ hir1 k66_ f68_
          have f70_ : Fr b0 26 G56_ G64_ := Fr.mono f68_ (by have := hir1; omega) (by have := hir1; omega)
          obtain ⟨v71_, ev71_⟩ : ∃ w, w = (S_seti_readers v61_ ir1 (R_set_held (S_readers v61_ ir1) 0)) := ⟨_, rfl⟩
          have h := h v71_ ev71_
          have k72_ : SA b0 v71_ G64_ := by rw [ev71_]; exact k69_
          have F73_ : Fr b0 26 G G64_ := Fr.trans F63_ f70_
          exact z_vret O hret hlk dX3_checkHold_108 (Nat.le_of_ble_eq_true rfl) (Nat.le_of_ble_eq_true rfl) ⟨rfl, rfl, _, k72_, F73_, h⟩
    · have h := h.2 c1_
      exact z_vret O hret hlk dX3_checkHold_11 (Nat.le_of_ble_eq_true rfl) (Nat.le_of_ble_eq_true rfl) ⟨rfl, rfl, _, h0, Fr.rf, h⟩

theorem dX3_passTime_0 : decode cX3_passTime 0 = .ok (.aload_n 0, 1) := by decide +kernel
theorem dX3_passTime_1 : decode cX3_passTime 1 = .ok (.getfield 12, 3) := by decide +kernel
theorem dX3_passTime_4 : decode cX3_passTime 4 = .ok (.getfield 109, 3) := by decide +kernel
theorem dX3_passTime_7 : decode cX3_passTime 7 = .ok (.istore_n 2, 1) := by decide +kernel
theorem dX3_passTime_8 : decode cX3_passTime 8 = .ok (.iconst 0, 1) := by decide +kernel
theorem dX3_passTime_9 : decode cX3_passTime 9 = .ok (.istore_n 3, 1) := by decide +kernel
theorem dX3_passTime_10 : decode cX3_passTime 10 = .ok (.iload_n 3, 1) := by decide +kernel
theorem dX3_passTime_11 : decode cX3_passTime 11 = .ok (.iload_n 1, 1) := by decide +kernel
theorem dX3_passTime_12 : decode cX3_passTime 12 = .ok (.if_icmp .ge 77, 3) := by decide +kernel
theorem dX3_passTime_15 : decode cX3_passTime 15 = .ok (.aload_n 0, 1) := by decide +kernel
theorem dX3_passTime_16 : decode cX3_passTime 16 = .ok (.dup, 1) := by decide +kernel
theorem dX3_passTime_17 : decode cX3_passTime 17 = .ok (.getfield 41, 3) := by decide +kernel
theorem dX3_passTime_20 : decode cX3_passTime 20 = .ok (.iconst 1, 1) := by decide +kernel
theorem dX3_passTime_21 : decode cX3_passTime 21 = .ok (.iadd, 1) := by decide +kernel
theorem dX3_passTime_22 : decode cX3_passTime 22 = .ok (.putfield 41, 3) := by decide +kernel
theorem dX3_passTime_25 : decode cX3_passTime 25 = .ok (.iconst 0, 1) := by decide +kernel
theorem dX3_passTime_26 : decode cX3_passTime 26 = .ok (.istore 4, 2) := by decide +kernel
theorem dX3_passTime_28 : decode cX3_passTime 28 = .ok (.iload 4, 2) := by decide +kernel
theorem dX3_passTime_30 : decode cX3_passTime 30 = .ok (.bipush 8, 2) := by decide +kernel
theorem dX3_passTime_32 : decode cX3_passTime 32 = .ok (.if_icmp .ge 20, 3) := by decide +kernel
theorem dX3_passTime_35 : decode cX3_passTime 35 = .ok (.aload_n 0, 1) := by decide +kernel
theorem dX3_passTime_36 : decode cX3_passTime 36 = .ok (.aload_n 0, 1) := by decide +kernel
theorem dX3_passTime_37 : decode cX3_passTime 37 = .ok (.getfield 20, 3) := by decide +kernel
theorem dX3_passTime_40 : decode cX3_passTime 40 = .ok (.iload 4, 2) := by decide +kernel
theorem dX3_passTime_42 : decode cX3_passTime 42 = .ok (.aaload, 1) := by decide +kernel
theorem dX3_passTime_43 : decode cX3_passTime 43 = .ok (.invokevirtual 242, 3) := by decide +kernel
theorem dX3_passTime_46 : decode cX3_passTime 46 = .ok (.iinc 4 1, 3) := by decide +kernel
theorem dX3_passTime_49 : decode cX3_passTime 49 = .ok (.goto (-21), 3) := by decide +kernel
theorem dX3_passTime_52 : decode cX3_passTime 52 = .ok (.iconst 0, 1) := by decide +kernel
theorem dX3_passTime_53 : decode cX3_passTime 53 = .ok (.istore 4, 2) := by decide +kernel
theorem dX3_passTime_55 : decode cX3_passTime 55 = .ok (.iload 4, 2) := by decide +kernel
theorem dX3_passTime_57 : decode cX3_passTime 57 = .ok (.sipush 200, 3) := by decide +kernel
theorem dX3_passTime_60 : decode cX3_passTime 60 = .ok (.if_icmp .ge 23, 3) := by decide +kernel
theorem dX3_passTime_63 : decode cX3_passTime 63 = .ok (.aload_n 0, 1) := by decide +kernel
theorem dX3_passTime_64 : decode cX3_passTime 64 = .ok (.invokevirtual 245, 3) := by decide +kernel
theorem dX3_passTime_67 : decode cX3_passTime 67 = .ok (.ifCond .ne 16, 3) := by decide +kernel
theorem dX3_passTime_70 : decode cX3_passTime 70 = .ok (.aload_n 0, 1) := by decide +kernel
theorem dX3_passTime_71 : decode cX3_passTime 71 = .ok (.getfield 12, 3) := by decide +kernel
theorem dX3_passTime_74 : decode cX3_passTime 74 = .ok (.invokevirtual 248, 3) := by decide +kernel
theorem dX3_passTime_77 : decode cX3_passTime 77 = .ok (.iinc 4 1, 3) := by decide +kernel
theorem dX3_passTime_80 : decode cX3_passTime 80 = .ok (.goto (-25), 3) := by decide +kernel
theorem dX3_passTime_83 : decode cX3_passTime 83 = .ok (.iinc 3 1, 3) := by decide +kernel
theorem dX3_passTime_86 : decode cX3_passTime 86 = .ok (.goto (-76), 3) := by decide +kernel
theorem dX3_passTime_89 : decode cX3_passTime 89 = .ok (.aload_n 0, 1) := by decide +kernel
theorem dX3_passTime_90 : decode cX3_passTime 90 = .ok (.getfield 12, 3) := by decide +kernel
theorem dX3_passTime_93 : decode cX3_passTime 93 = .ok (.getfield 109, 3) := by decide +kernel
theorem dX3_passTime_96 : decode cX3_passTime 96 = .ok (.iload_n 2, 1) := by decide +kernel
theorem dX3_passTime_97 : decode cX3_passTime 97 = .ok (.isub, 1) := by decide +kernel
theorem dX3_passTime_98 : decode cX3_passTime 98 = .ok (.ireturn, 1) := by decide +kernel
def PL_S_passTime_55 : Nat → Int32 → Int32 → Int32 → Int32 → Int32 → ST → (Int32 → Int32 → Int32 → ST → Prop) → (Int32 → ST → Prop) → Prop
  | 0, _, _, _, _, _, _, _, _ => False
  | n + 1, x1, y1, y2, y3, y4, v0, K10, Q => ((200 ≤ y4 → K10 y1 y2 (y3 + 1) v0) ∧ (¬ 200 ≤ y4 → P_S_firstStays v0 (fun r12_ => (((¬ r12_ = 0 → K10 y1 y2 (y3 + 1) v0) ∧ (r12_ = 0 → P_L_dropFirst (S_log v0) (fun v21_ => (∀ v26_, v26_ = (S_set_log v0 v21_) → ((fun y1 y2 y3 y4 v0 => PL_S_passTime_55 n x1 y1 y2 y3 y4 v0 K10 Q) y1 y2 y3 (y4 + 1) v26_)))))))))
def PL_S_passTime_28 : Nat → Int32 → Int32 → Int32 → Int32 → Int32 → ST → (Int32 → Int32 → Int32 → ST → Prop) → (Int32 → ST → Prop) → Prop
  | 0, _, _, _, _, _, _, _, _ => False
  | n + 1, x1, y1, y2, y3, y4, v0, K10, Q => ((8 ≤ y4 → (∃ n29_, PL_S_passTime_55 n29_ x1 y1 y2 y3 0 v0 (fun a0 a1 a2 w0 => K10 a0 a1 a2 w0) Q)) ∧ (¬ 8 ≤ y4 → vp_in y4 8 ∧ (P_S_checkHold (some (Int32.toNatClampNeg y4)) v0 (fun v35_ => ((fun y1 y2 y3 y4 v0 => PL_S_passTime_28 n x1 y1 y2 y3 y4 v0 K10 Q) y1 y2 y3 (y4 + 1) v35_)))))
def PL_S_passTime_10 : Nat → Int32 → Int32 → Int32 → Int32 → ST → (Int32 → ST → Prop) → Prop
  | 0, _, _, _, _, _, _ => False
  | n + 1, x1, y1, y2, y3, v0, Q => ((y1 ≤ y3 → Q ((L_dropped (S_log v0)) - y2) v0) ∧ (¬ y1 ≤ y3 → ∀ v7_, v7_ = (S_set_time v0 ((S_time v0) + 1)) → ((∃ n39_, PL_S_passTime_28 n39_ x1 y1 y2 y3 0 v7_ (fun a0 a1 a2 w0 => (fun y1 y2 y3 v0 => PL_S_passTime_10 n x1 y1 y2 y3 v0  Q) a0 a1 a2 w0) Q))))
def P_S_passTime (x1 : Int32) (v0 : ST) (Q : Int32 → ST → Prop) : Prop := (∃ n40_, PL_S_passTime_10 n40_ x1 x1 (L_dropped (S_log v0)) 0 v0 Q)
set_option maxRecDepth 100000 in
theorem s_S_passTime {l : Launch} {D : zD} {B : Nat} {sa : Nat → Nat} (hfl : l.stackTraces = false) {z : Nat} {G : zG} {b0 : Nat} {x1 : Int32} {v0 : ST} {Q : Int32 → ST → Prop} (h0 : SA b0 v0 G) (h : P_S_passTime x1 v0 Q) : zSp l D B sa yX3_passTime cX3_passTime 5 (some .int) 3 65 0 0 [.ref b0, .int x1] z G (zRi fun r z' G' => z = z' ∧ ∃ w, SA b0 w G' ∧ Fr b0 26 G G' ∧ Q r w) := by
  unfold P_S_passTime at h
  refine z_ofW (by decide +kernel) hfl [some (.ref b0), some (.int x1), none, none, none] rfl (Nat.le_of_ble_eq_true rfl) (fun p e s m args below meth c O hret hlk hnm => ?_)
  have O : zO p l s m args c D B sa 5 cX3_passTime RX3 := O
  have HL55 : ∀ (n9 : Nat)  (K10 : Int32 → Int32 → Int32 → ST → Prop) (hK10 : ∀ (a0 : Int32) (a1 : Int32) (a2 : Int32) (w0 : ST) (G7 : zG) (g0 : SA b0 w0 G7) (gF : Fr b0 26 G G7), K10 a0 a1 a2 w0 → zT p l e (zrm 3 65 0 0) s m args below meth c (zEnd below D B (zRi fun r z' G' => z = z' ∧ ∃ w, SA b0 w G' ∧ Fr b0 26 G G' ∧ Q r w) args s 0 0) D B 5 0 0 10 [] [some (.ref b0), some (.int a0), some (.int a1), some (.int a2), none] z G7) (y1 : Int32) (y2 : Int32) (y3 : Int32) (y4 : Int32) (v0 : ST) (G9 : zG) (g0 : SA b0 v0 G9) (gF : Fr b0 26 G G9) (h : PL_S_passTime_55 n9 x1 y1 y2 y3 y4 v0 K10 Q), zT p l e (zrm 3 65 0 0) s m args below meth c (zEnd below D B (zRi fun r z' G' => z = z' ∧ ∃ w, SA b0 w G' ∧ Fr b0 26 G G' ∧ Q r w) args s 0 0) D B 5 0 0 55 [] [some (.ref b0), some (.int y1), some (.int y2), some (.int y3), some (.int y4)] z G9 := by
    intro n9  K10 hK10
    induction n9 with
    | zero =>
      intro _ _ _ _ _ _ _ _ h
      exact (h : False).elim
    | succ n ih =>
      intro y1 y2 y3 y4 v0 G9 g0 gF h
      rw [PL_S_passTime_55] at h
      refine z_iload O dX3_passTime_55 rfl ?_
      refine z_sipush (v := 200) O dX3_passTime_57 (by decide) ?_
      refine z_icmp_ge (tgt := 83) O dX3_passTime_60 (by decide) (fun c11_ => ?_) (fun c11_ => ?_)
      · have h := h.1 c11_
        refine z_iinc (v := (y3 + 1)) (L' := [some (.ref b0), some (.int y1), some (.int y2), some (.int (y3 + 1)), some (.int y4)]) O dX3_passTime_83 rfl (by first | rfl | decide) (by decide) rfl ?_
        refine z_goto (tgt := 10) O dX3_passTime_86 (by decide) ?_
        exact z_subL (L' := [some (.ref b0), some (.int y1), some (.int y2), some (.int (y3 + 1)), none]) (zLe.sub (And.intro rfl (And.intro rfl (And.intro rfl (And.intro rfl True.intro))))) (hK10 y1 y2 (y3 + 1) v0 G9 g0 gF h)
      · have h := h.2 c11_
        refine z_aload_n O dX3_passTime_63 rfl rfl ?_
        refine z_callVi (As := []) (st := []) O (s_S_firstStays hfl g0 h) wy_X3_firstStays wl_RX3_245 dX3_passTime_64 rfl rfl (S_obj g0) ⟨by decide, rfl⟩ ⟨Nat.le_of_ble_eq_true rfl, Nat.le_of_ble_eq_true rfl⟩ (Nat.le_of_ble_eq_true rfl) ⟨Nat.le_of_ble_eq_true rfl, Nat.le_of_ble_eq_true rfl⟩ (fun r12_ z13_ G14_ hq15_ => ?_)
        obtain ⟨rfl, rfl, h⟩ := hq15_
        refine z_if_ne (tgt := 83) O dX3_passTime_67 (by decide) (fun c16_ => ?_) (fun c16_ => ?_)
        · have h := h.1 c16_
          refine z_iinc (v := (y3 + 1)) (L' := [some (.ref b0), some (.int y1), some (.int y2), some (.int (y3 + 1)), some (.int y4)]) O dX3_passTime_83 rfl (by first | rfl | decide) (by decide) rfl ?_
          refine z_goto (tgt := 10) O dX3_passTime_86 (by decide) ?_
          exact z_subL (L' := [some (.ref b0), some (.int y1), some (.int y2), some (.int (y3 + 1)), none]) (zLe.sub (And.intro rfl (And.intro rfl (And.intro rfl (And.intro rfl True.intro))))) (hK10 y1 y2 (y3 + 1) v0 G9 g0 gF h)
        · have h := h.2 c16_
          refine z_aload_n O dX3_passTime_70 rfl rfl ?_
          refine z_get (v := .ref (b0 + 1)) O wf_RX3_12 dX3_passTime_71 (S_obj g0) rfl ?_
          refine z_callVv (As := []) (st := []) O (s_L_dropFirst hfl (S_log_of g0) h) wy_X1_dropFirst wl_RX3_248 dX3_passTime_74 rfl rfl (L_obj (S_log_of g0)) ⟨by decide, rfl⟩ ⟨Nat.le_of_ble_eq_true rfl, Nat.le_of_ble_eq_true rfl⟩ (Nat.le_of_ble_eq_true rfl) ⟨Nat.le_of_ble_eq_true rfl, Nat.le_of_ble_eq_true rfl⟩ (fun z18_ G19_ hq20_ => ?_)
          obtain ⟨rfl, v21_, k22_, f23_, h⟩ := hq20_
          have k24_ := S_put_log g0 k22_ f23_
          have f25_ : Fr b0 26 G9 G19_ := Fr.mono f23_ (by omega) (by omega)
          obtain ⟨v26_, ev26_⟩ : ∃ w, w = (S_set_log v0 v21_) := ⟨_, rfl⟩
          have h := h v26_ ev26_
          have k27_ : SA b0 v26_ G19_ := by rw [ev26_]; exact k24_
          have F28_ : Fr b0 26 G G19_ := Fr.trans gF f25_
          refine z_iinc (v := (y4 + 1)) (L' := [some (.ref b0), some (.int y1), some (.int y2), some (.int y3), some (.int (y4 + 1))]) O dX3_passTime_77 rfl (by first | rfl | decide) (by decide) rfl ?_
          refine z_goto (tgt := 55) O dX3_passTime_80 (by decide) ?_
          exact z_subL (L' := [some (.ref b0), some (.int y1), some (.int y2), some (.int y3), some (.int (y4 + 1))]) (zLe.sub (And.intro rfl (And.intro rfl (And.intro rfl (And.intro rfl (And.intro rfl True.intro)))))) (ih y1 y2 y3 (y4 + 1) v26_ G19_ k27_ F28_ h)
  have HL28 : ∀ (n9 : Nat)  (K10 : Int32 → Int32 → Int32 → ST → Prop) (hK10 : ∀ (a0 : Int32) (a1 : Int32) (a2 : Int32) (w0 : ST) (G7 : zG) (g0 : SA b0 w0 G7) (gF : Fr b0 26 G G7), K10 a0 a1 a2 w0 → zT p l e (zrm 3 65 0 0) s m args below meth c (zEnd below D B (zRi fun r z' G' => z = z' ∧ ∃ w, SA b0 w G' ∧ Fr b0 26 G G' ∧ Q r w) args s 0 0) D B 5 0 0 10 [] [some (.ref b0), some (.int a0), some (.int a1), some (.int a2), none] z G7) (y1 : Int32) (y2 : Int32) (y3 : Int32) (y4 : Int32) (v0 : ST) (G9 : zG) (g0 : SA b0 v0 G9) (gF : Fr b0 26 G G9) (h : PL_S_passTime_28 n9 x1 y1 y2 y3 y4 v0 K10 Q), zT p l e (zrm 3 65 0 0) s m args below meth c (zEnd below D B (zRi fun r z' G' => z = z' ∧ ∃ w, SA b0 w G' ∧ Fr b0 26 G G' ∧ Q r w) args s 0 0) D B 5 0 0 28 [] [some (.ref b0), some (.int y1), some (.int y2), some (.int y3), some (.int y4)] z G9 := by
    intro n9  K10 hK10
    induction n9 with
    | zero =>
      intro _ _ _ _ _ _ _ _ h
      exact (h : False).elim
    | succ n ih =>
      intro y1 y2 y3 y4 v0 G9 g0 gF h
      rw [PL_S_passTime_28] at h
      refine z_iload O dX3_passTime_28 rfl ?_
      refine z_bipush (v := 8) O dX3_passTime_30 (by decide) ?_
      refine z_icmp_ge (tgt := 52) O dX3_passTime_32 (by decide) (fun c10_ => ?_) (fun c10_ => ?_)
      · have h := h.1 c10_
        refine z_iconst (v := 0) O dX3_passTime_52 (by decide) ?_
        refine z_istore (L' := [some (.ref b0), some (.int y1), some (.int y2), some (.int y3), some (.int 0)]) O dX3_passTime_53 (by decide) rfl ?_
        obtain ⟨n29_, h⟩ := h
        exact z_subL (L' := [some (.ref b0), some (.int y1), some (.int y2), some (.int y3), some (.int 0)]) (zLe.sub (And.intro rfl (And.intro rfl (And.intro rfl (And.intro rfl (And.intro rfl True.intro)))))) (HL55 n29_ _ hK10 y1 y2 y3 0 v0 G9 g0 gF h)
      · have h := h.2 c10_
        refine z_aload_n O dX3_passTime_35 rfl rfl ?_
        refine z_aload_n O dX3_passTime_36 rfl rfl ?_
        refine z_get (v := .ref (b0 + 8)) O wf_RX3_20 dX3_passTime_37 (S_obj g0) rfl ?_
        refine z_iload O dX3_passTime_40 rfl ?_
        obtain ⟨q30_, h⟩ := h
        refine z_rald O dX3_passTime_42 (S_readers_row g0) q30_ ?_
        refine z_callVv (As := [.ref (b0 + 10 + 2 * (Int32.toNatClampNeg y4))]) (st := []) O (s_S_checkHold hfl g0 (fun _ h => by cases h; exact (z_lt q30_)) h) wy_X3_checkHold wl_RX3_242 dX3_passTime_43 rfl rfl (S_obj g0) ⟨by decide, rfl⟩ ⟨Nat.le_of_ble_eq_true rfl, Nat.le_of_ble_eq_true rfl⟩ (Nat.le_of_ble_eq_true rfl) ⟨Nat.le_of_ble_eq_true rfl, Nat.le_of_ble_eq_true rfl⟩ (fun z32_ G33_ hq34_ => ?_)
        obtain ⟨rfl, v35_, k36_, f37_, h⟩ := hq34_
        have F38_ : Fr b0 26 G G33_ := Fr.trans gF f37_
        refine z_iinc (v := (y4 + 1)) (L' := [some (.ref b0), some (.int y1), some (.int y2), some (.int y3), some (.int (y4 + 1))]) O dX3_passTime_46 rfl (by first | rfl | decide) (by decide) rfl ?_
        refine z_goto (tgt := 28) O dX3_passTime_49 (by decide) ?_
        exact z_subL (L' := [some (.ref b0), some (.int y1), some (.int y2), some (.int y3), some (.int (y4 + 1))]) (zLe.sub (And.intro rfl (And.intro rfl (And.intro rfl (And.intro rfl (And.intro rfl True.intro)))))) (ih y1 y2 y3 (y4 + 1) v35_ G33_ k36_ F38_ h)
  have HL10 : ∀ (n9 : Nat)    (y1 : Int32) (y2 : Int32) (y3 : Int32) (v0 : ST) (G9 : zG) (g0 : SA b0 v0 G9) (gF : Fr b0 26 G G9) (h : PL_S_passTime_10 n9 x1 y1 y2 y3 v0 Q), zT p l e (zrm 3 65 0 0) s m args below meth c (zEnd below D B (zRi fun r z' G' => z = z' ∧ ∃ w, SA b0 w G' ∧ Fr b0 26 G G' ∧ Q r w) args s 0 0) D B 5 0 0 10 [] [some (.ref b0), some (.int y1), some (.int y2), some (.int y3), none] z G9 := by
    intro n9   
    induction n9 with
    | zero =>
      intro _ _ _ _ _ _ _ h
      exact (h : False).elim
    | succ n ih =>
      intro y1 y2 y3 v0 G9 g0 gF h
      rw [PL_S_passTime_10] at h
      refine z_iload_n O dX3_passTime_10 rfl rfl ?_
      refine z_iload_n O dX3_passTime_11 rfl rfl ?_
      refine z_icmp_ge (tgt := 89) O dX3_passTime_12 (by decide) (fun c1_ => ?_) (fun c1_ => ?_)
      · have h := h.1 c1_
        refine z_aload_n O dX3_passTime_89 rfl rfl ?_
        refine z_get (v := .ref (b0 + 1)) O wf_RX3_12 dX3_passTime_90 (S_obj g0) rfl ?_
        refine z_get (v := .int (L_dropped (S_log v0))) O wf_RX3_109 dX3_passTime_93 (L_obj (S_log_of g0)) rfl ?_
        refine z_iload_n O dX3_passTime_96 rfl rfl ?_
        refine z_isub O dX3_passTime_97 ?_
        exact z_iret O hret hlk dX3_passTime_98 (Nat.le_of_ble_eq_true rfl) (Nat.le_of_ble_eq_true rfl) ⟨_, rfl, rfl, _, g0, gF, h⟩
      · have h := h.2 c1_
        refine z_aload_n O dX3_passTime_15 rfl rfl ?_
        refine z_dup O dX3_passTime_16 rfl ?_
        refine z_get (v := .int (S_time v0)) O wf_RX3_41 dX3_passTime_17 (S_obj g0) rfl ?_
        refine z_iconst (v := 1) O dX3_passTime_20 (by decide) ?_
        refine z_iadd O dX3_passTime_21 ?_
        refine y_put O wp_RX3_41 dX3_passTime_22 (S_obj g0) rfl rfl (fun G2_ hw3_ => ?_)
        have k4_ := S_w_time g0 hw3_
        have f5_ := hw3_.fr
        have f6_ : Fr b0 26 G9 G2_ := Fr.mono f5_ (by omega) (by omega)
        obtain ⟨v7_, ev7_⟩ : ∃ w, w = (S_set_time v0 ((S_time v0) + 1)) := ⟨_, rfl⟩
        have h := h v7_ ev7_
        have k8_ : SA b0 v7_ G2_ := by rw [ev7_]; exact k4_
        have F9_ : Fr b0 26 G G2_ := Fr.trans gF f6_
        refine z_iconst (v := 0) O dX3_passTime_25 (by decide) ?_
        refine z_istore (L' := [some (.ref b0), some (.int y1), some (.int y2), some (.int y3), some (.int 0)]) O dX3_passTime_26 (by decide) rfl ?_
        obtain ⟨n39_, h⟩ := h
        exact z_subL (L' := [some (.ref b0), some (.int y1), some (.int y2), some (.int y3), some (.int 0)]) (zLe.sub (And.intro rfl (And.intro rfl (And.intro rfl (And.intro rfl (And.intro rfl True.intro)))))) (HL28 n39_ _ ih y1 y2 y3 0 v7_ G2_ k8_ F9_ h)
  refine z_aload_n O dX3_passTime_0 rfl rfl ?_
  refine z_get (v := .ref (b0 + 1)) O wf_RX3_12 dX3_passTime_1 (S_obj h0) rfl ?_
  refine z_get (v := .int (L_dropped (S_log v0))) O wf_RX3_109 dX3_passTime_4 (L_obj (S_log_of h0)) rfl ?_
  refine z_istore_n (L' := [some (.ref b0), some (.int x1), some (.int (L_dropped (S_log v0))), none, none]) O dX3_passTime_7 rfl (by decide) rfl ?_
  refine z_iconst (v := 0) O dX3_passTime_8 (by decide) ?_
  refine z_istore_n (L' := [some (.ref b0), some (.int x1), some (.int (L_dropped (S_log v0))), some (.int 0), none]) O dX3_passTime_9 rfl (by decide) rfl ?_
  obtain ⟨n40_, h⟩ := h
  exact z_subL (L' := [some (.ref b0), some (.int x1), some (.int (L_dropped (S_log v0))), some (.int 0), none]) (zLe.sub (And.intro rfl (And.intro rfl (And.intro rfl (And.intro rfl True.intro))))) (HL10 n40_ x1 (L_dropped (S_log v0)) 0 v0 G h0 Fr.rf h)
