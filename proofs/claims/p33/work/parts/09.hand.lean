theorem dX5_at_0 : decode cX5_at 0 = .ok (.iload_n 1, 1) := by decide +kernel
theorem dX5_at_1 : decode cX5_at 1 = .ok (.ifCond .lt 15, 3) := by decide +kernel
theorem dX5_at_4 : decode cX5_at 4 = .ok (.iload_n 1, 1) := by decide +kernel
theorem dX5_at_5 : decode cX5_at 5 = .ok (.aload_n 0, 1) := by decide +kernel
theorem dX5_at_6 : decode cX5_at 6 = .ok (.arraylength, 1) := by decide +kernel
theorem dX5_at_7 : decode cX5_at 7 = .ok (.if_icmp .ge 9, 3) := by decide +kernel
theorem dX5_at_10 : decode cX5_at 10 = .ok (.aload_n 0, 1) := by decide +kernel
theorem dX5_at_11 : decode cX5_at 11 = .ok (.iload_n 1, 1) := by decide +kernel
theorem dX5_at_12 : decode cX5_at 12 = .ok (.iaload, 1) := by decide +kernel
theorem dX5_at_13 : decode cX5_at 13 = .ok (.goto 4, 3) := by decide +kernel
theorem dX5_at_16 : decode cX5_at 16 = .ok (.iconst (-1), 1) := by decide +kernel
theorem dX5_at_17 : decode cX5_at 17 = .ok (.ireturn, 1) := by decide +kernel
theorem dX5_copy_0 : decode cX5_copy 0 = .ok (.aload_n 0, 1) := by decide +kernel
theorem dX5_copy_1 : decode cX5_copy 1 = .ok (.iconst 0, 1) := by decide +kernel
theorem dX5_copy_2 : decode cX5_copy 2 = .ok (.aload_n 1, 1) := by decide +kernel
theorem dX5_copy_3 : decode cX5_copy 3 = .ok (.iconst 0, 1) := by decide +kernel
theorem dX5_copy_4 : decode cX5_copy 4 = .ok (.aload_n 0, 1) := by decide +kernel
theorem dX5_copy_5 : decode cX5_copy 5 = .ok (.arraylength, 1) := by decide +kernel
theorem dX5_copy_6 : decode cX5_copy 6 = .ok (.aload_n 1, 1) := by decide +kernel
theorem dX5_copy_7 : decode cX5_copy 7 = .ok (.arraylength, 1) := by decide +kernel
theorem dX5_copy_8 : decode cX5_copy 8 = .ok (.invokestatic 244, 3) := by decide +kernel
theorem dX5_copy_11 : decode cX5_copy 11 = .ok (.invokestatic 283, 3) := by decide +kernel
theorem dX5_copy_14 : decode cX5_copy 14 = .ok (.return_, 1) := by decide +kernel
def P_T_at (N0 : Nat) (x1 : Int32) (v0 : (Nat → Int32)) (Q : Int32 → Prop) : Prop := ((x1 < 0 → Q (-1)) ∧ (¬ x1 < 0 → (((Int32.ofNat N0) ≤ x1 → Q (-1)) ∧ (¬ (Int32.ofNat N0) ≤ x1 → vp_in x1 N0 ∧ (Q (v0 (Int32.toNatClampNeg x1)))))))
set_option maxRecDepth 100000 in
theorem s_T_at {l : Launch} {D : zD} {B : Nat} {sa : Nat → Nat} (hfl : l.stackTraces = false) {z : Nat} {G : zG} {b0 : Nat} {N0 : Nat} {x1 : Int32} {v0 : (Nat → Int32)} {Q : Int32 → Prop} (h0 : G b0 = some (zia N0 v0)) (h : P_T_at N0 x1 v0 Q) : zSp l D B sa yX5_at cX5_at 2 (some .int) 0 0 0 0 [.ref b0, .int x1] z G (zRi fun r z' G' => z = z' ∧ G = G' ∧ Q r) := by
  unfold P_T_at at h
  refine z_ofW (by decide +kernel) hfl [some (.ref b0), some (.int x1)] rfl (Nat.le_of_ble_eq_true rfl) (fun p e s m args below meth c O hret hlk hnm => ?_)
  have O : zO p l s m args c D B sa 2 cX5_at RX5 := O
  refine z_iload_n O dX5_at_0 rfl rfl ?_
  refine z_if_lt (tgt := 16) O dX5_at_1 (by decide) (fun c1_ => ?_) (fun c1_ => ?_)
  · have h := h.1 c1_
    refine z_iconst (v := (-1)) O dX5_at_16 (by decide) ?_
    exact z_iret O hret hlk dX5_at_17 (Nat.le_of_ble_eq_true rfl) (Nat.le_of_ble_eq_true rfl) ⟨_, rfl, rfl, rfl, h⟩
  · have h := h.2 c1_
    refine z_iload_n O dX5_at_4 rfl rfl ?_
    refine z_aload_n O dX5_at_5 rfl rfl ?_
    refine z_alen (v := (Int32.ofNat N0)) O dX5_at_6 h0 rfl ?_
    refine z_icmp_ge (tgt := 16) O dX5_at_7 (by decide) (fun c2_ => ?_) (fun c2_ => ?_)
    · have h := h.1 c2_
      refine z_iconst (v := (-1)) O dX5_at_16 (by decide) ?_
      exact z_iret O hret hlk dX5_at_17 (Nat.le_of_ble_eq_true rfl) (Nat.le_of_ble_eq_true rfl) ⟨_, rfl, rfl, rfl, h⟩
    · have h := h.2 c2_
      refine z_aload_n O dX5_at_10 rfl rfl ?_
      refine z_iload_n O dX5_at_11 rfl rfl ?_
      obtain ⟨q3_, h⟩ := h
      refine z_iald O dX5_at_12 h0 q3_ ?_
      refine z_goto (tgt := 17) O dX5_at_13 (by decide) ?_
      exact z_iret O hret hlk dX5_at_17 (Nat.le_of_ble_eq_true rfl) (Nat.le_of_ble_eq_true rfl) ⟨_, rfl, rfl, rfl, h⟩
theorem z_fitb {v : Int32} (h : zb v) : fits .boolean (.int v) = true := by rcases h with rfl | rfl <;> rfl
set_option maxRecDepth 100000 in
theorem s_T_at_st {l : Launch} {D : zD} {B : Nat} {sa : Nat → Nat} {j : Nat} (hfl : l.stackTraces = false) (hj : j < 3) {z : Nat} {G : zG} {x1 : Int32} {Q : Int32 → Prop} (h : P_T_at 6 x1 (zSv j) Q) : zSp l D B sa yX5_at cX5_at 2 (some .int) 0 0 0 0 [.ref (sa j), .int x1] z G (zRi fun r z' G' => z = z' ∧ G = G' ∧ Q r) := by
  unfold P_T_at at h
  refine z_ofW (by decide +kernel) hfl [some (.ref (sa j)), some (.int x1)] rfl (Nat.le_of_ble_eq_true rfl) (fun p e s m args below meth c O hret hlk hnm => ?_)
  have O : zO p l s m args c D B sa 2 cX5_at RX5 := O
  refine z_iload_n O dX5_at_0 rfl rfl ?_
  refine z_if_lt (tgt := 16) O dX5_at_1 (by decide) (fun c1_ => ?_) (fun c1_ => ?_)
  · have h := h.1 c1_
    refine z_iconst (v := (-1)) O dX5_at_16 (by decide) ?_
    exact z_iret O hret hlk dX5_at_17 (Nat.le_of_ble_eq_true rfl) (Nat.le_of_ble_eq_true rfl) ⟨_, rfl, rfl, rfl, h⟩
  · have h := h.2 c1_
    refine z_iload_n O dX5_at_4 rfl rfl ?_
    refine z_aload_n O dX5_at_5 rfl rfl ?_
    refine z_stl O hj dX5_at_6 ?_
    refine z_icmp_ge (tgt := 16) O dX5_at_7 (by decide) (fun c2_ => ?_) (fun c2_ => ?_)
    · have h := h.1 c2_
      refine z_iconst (v := (-1)) O dX5_at_16 (by decide) ?_
      exact z_iret O hret hlk dX5_at_17 (Nat.le_of_ble_eq_true rfl) (Nat.le_of_ble_eq_true rfl) ⟨_, rfl, rfl, rfl, h⟩
    · have h := h.2 c2_
      refine z_aload_n O dX5_at_10 rfl rfl ?_
      refine z_iload_n O dX5_at_11 rfl rfl ?_
      obtain ⟨q3_, h⟩ := h
      refine z_sti O hj dX5_at_12 q3_ rfl ?_
      refine z_goto (tgt := 17) O dX5_at_13 (by decide) ?_
      exact z_iret O hret hlk dX5_at_17 (Nat.le_of_ble_eq_true rfl) (Nat.le_of_ble_eq_true rfl) ⟨_, rfl, rfl, rfl, h⟩
/-- a row's beginning is taken over -/
def zcp (N : Nat) (f g : Nat → Int32) : Nat → Int32 := fun j => if j < N then f j else g j
def P_T_copy (N0 N1 : Nat) (v0 v1 : Nat → Int32) (Q : (Nat → Int32) → Prop) : Prop := N0 < 2147483648 ∧ N1 < 2147483648 ∧ Q (zcp (min N0 N1) v0 v1)
theorem zmin_len {N0 N1 : Nat} (h0 : N0 < 2147483648) (h1 : N1 < 2147483648) : (zmin (Int32.ofNat N0) (Int32.ofNat N1)).toNatClampNeg = min N0 N1 ∧ ¬ zmin (Int32.ofNat N0) (Int32.ofNat N1) < 0 := by
  have a0 : (Int32.ofNat N0).toInt = N0 := Int32.toInt_ofNat_of_lt h0
  have a1 : (Int32.ofNat N1).toInt = N1 := Int32.toInt_ofNat_of_lt h1
  have z0 : (0 : Int32).toInt = 0 := rfl
  unfold zmin Int32.toNatClampNeg
  split
  · rename_i q
    rw [Int32.lt_iff_toInt_lt, a0, a1] at q
    refine ⟨by rw [a1]; omega, ?_⟩
    rw [Int32.lt_iff_toInt_lt, a1, z0]; omega
  · rename_i q
    rw [Int32.lt_iff_toInt_lt, a0, a1] at q
    refine ⟨by rw [a0]; omega, ?_⟩
    rw [Int32.lt_iff_toInt_lt, a0, z0]; omega
theorem zcpy_eq {N : Nat} {f g : Nat → Int32} : va_cpy f g 0 0 N = zcp N f g := by
  funext j
  simp [va_cpy, zcp]
theorem w_arr_link : Cond.methodLink RX5 283 arraycopyName ∈ zgt := zgt_at 184 (by decide +kernel) (by decide +kernel)
theorem w_arr_nat : Cond.native arraycopyName ∈ zgt := zgt_at 186 (by decide +kernel) (by decide +kernel)
theorem w_arr_stat : Cond.static arraycopyName ∈ zgt := zgt_at 185 (by decide +kernel) (by decide +kernel)
theorem w_sys : Cond.initialized "java/lang/System" ∈ zgt := zgt_at 11 (by decide +kernel) (by decide +kernel)
set_option maxRecDepth 100000 in
theorem s_T_copy {l : Launch} {D : zD} {B : Nat} {sa : Nat → Nat} (hfl : l.stackTraces = false) {z : Nat} {G : zG} {b0 b1 : Nat} {N0 N1 : Nat} {v0 v1 : Nat → Int32} {Q : (Nat → Int32) → Prop} (h0 : G b0 = some (zia N0 v0)) (h1 : G b1 = some (zia N1 v1)) (d01 : b0 + 1 ≤ b1 ∨ b1 + 1 ≤ b0) (h : P_T_copy N0 N1 v0 v1 Q) : zSp l D B sa yX5_copy cX5_copy 2 none 1 52 0 0 [.ref b0, .ref b1] z G (zRv fun z' G' => z = z' ∧ ∃ w, G' b1 = some (zia N1 w) ∧ Fr b1 1 G G' ∧ Q w) := by
  obtain ⟨n0, n1, h⟩ := h
  refine z_ofW (by decide +kernel) hfl [some (.ref b0), some (.ref b1)] rfl (Nat.le_of_ble_eq_true rfl) (fun p e s m args below meth c O hret hlk hnm => ?_)
  have O : zO p l s m args c D B sa 2 cX5_copy RX5 := O
  refine z_aload_n O dX5_copy_0 rfl rfl ?_
  refine z_iconst (v := 0) O dX5_copy_1 (by decide) ?_
  refine z_aload_n O dX5_copy_2 rfl rfl ?_
  refine z_iconst (v := 0) O dX5_copy_3 (by decide) ?_
  refine z_aload_n O dX5_copy_4 rfl rfl ?_
  refine z_alen (v := (Int32.ofNat N0)) O dX5_copy_5 h0 rfl ?_
  refine z_aload_n O dX5_copy_6 rfl rfl ?_
  refine z_alen (v := (Int32.ofNat N1)) O dX5_copy_7 h1 rfl ?_
  refine z_mmin O wm_RX5_244 wm_min_s wm_math wm_min_c dX5_copy_8 (Nat.le_of_ble_eq_true rfl) (Nat.le_of_ble_eq_true rfl) (Nat.le_of_ble_eq_true rfl) (Nat.le_of_ble_eq_true rfl) ?_
  obtain ⟨hw, hw2⟩ := zmin_len n0 n1
  refine y_copyG (n0 := N0) (f := v0) O w_arr_link w_arr_nat w_arr_stat w_sys dX5_copy_11 (fun H locs hR hS => ⟨_, hR.arr h0 (Nat.le_refl _), O.ty 0 rfl N0 _, (fun q => by cases q), by rw [arrV_size]; exact Nat.le_refl _, fun j hj => arrV_read _ _ hj⟩) h1 hw2 (by rw [hw]; omega) (by rw [hw]; omega) (Nat.le_of_ble_eq_true rfl) (Nat.le_of_ble_eq_true rfl) (fun G1 hG1 => ?_)
  have e : va_cpy v0 v1 0 0 (zmin (Int32.ofNat N0) (Int32.ofNat N1)).toNatClampNeg = zcp (min N0 N1) v0 v1 := by rw [hw]; exact zcpy_eq
  exact z_vret O hret hlk dX5_copy_14 (Nat.le_of_ble_eq_true rfl) (Nat.le_of_ble_eq_true rfl) ⟨rfl, rfl, _, hG1.1, hG1.fr, by rw [e]; exact h⟩
set_option maxRecDepth 100000 in
theorem s_T_copy_st {l : Launch} {D : zD} {B : Nat} {sa : Nat → Nat} {j : Nat} (hfl : l.stackTraces = false) (hj : j < 3) {z : Nat} {G : zG} {b1 : Nat} {N1 : Nat} {v1 : Nat → Int32} {Q : (Nat → Int32) → Prop} (h1 : G b1 = some (zia N1 v1)) (h : P_T_copy 6 N1 (zSv j) v1 Q) : zSp l D B sa yX5_copy cX5_copy 2 none 1 52 0 0 [.ref (sa j), .ref b1] z G (zRv fun z' G' => z = z' ∧ ∃ w, G' b1 = some (zia N1 w) ∧ Fr b1 1 G G' ∧ Q w) := by
  obtain ⟨n0, n1, h⟩ := h
  refine z_ofW (by decide +kernel) hfl [some (.ref (sa j)), some (.ref b1)] rfl (Nat.le_of_ble_eq_true rfl) (fun p e s m args below meth c O hret hlk hnm => ?_)
  have O : zO p l s m args c D B sa 2 cX5_copy RX5 := O
  refine z_aload_n O dX5_copy_0 rfl rfl ?_
  refine z_iconst (v := 0) O dX5_copy_1 (by decide) ?_
  refine z_aload_n O dX5_copy_2 rfl rfl ?_
  refine z_iconst (v := 0) O dX5_copy_3 (by decide) ?_
  refine z_aload_n O dX5_copy_4 rfl rfl ?_
  refine z_stl O hj dX5_copy_5 ?_
  refine z_aload_n O dX5_copy_6 rfl rfl ?_
  refine z_alen (v := (Int32.ofNat N1)) O dX5_copy_7 h1 rfl ?_
  refine z_mmin O wm_RX5_244 wm_min_s wm_math wm_min_c dX5_copy_8 (Nat.le_of_ble_eq_true rfl) (Nat.le_of_ble_eq_true rfl) (Nat.le_of_ble_eq_true rfl) (Nat.le_of_ble_eq_true rfl) ?_
  obtain ⟨hw, hw2⟩ := zmin_len n0 n1
  have hw' : (if Int32.ofNat N1 < (6 : Int32) then Int32.ofNat N1 else (6 : Int32)).toNatClampNeg = min 6 N1 := hw
  refine y_copyG (n0 := 6) (f := zSv j) O w_arr_link w_arr_nat w_arr_stat w_sys dX5_copy_11 (fun H locs hR hS => ?_) h1 hw2 (by rw [hw']; omega) (by rw [hw']; omega) (Nat.le_of_ble_eq_true rfl) (Nat.le_of_ble_eq_true rfl) (fun G1 hG1 => ?_)
  · obtain ⟨cell, k1, k2, k3, k4, k5, k6, k7⟩ := (O.2.2.2.2.2.1.2.1 j hj).2
    exact ⟨cell, by rw [hS.2.1 _ (Array.getElem?_eq_some_iff.mp k1).1 k7]; exact k1, k2, k3, k4, k6⟩
  · have e : va_cpy (zSv j) v1 0 0 (if Int32.ofNat N1 < (6 : Int32) then Int32.ofNat N1 else (6 : Int32)).toNatClampNeg = zcp (min 6 N1) (zSv j) v1 := by rw [hw']; exact zcpy_eq
    exact z_vret O hret hlk dX5_copy_14 (Nat.le_of_ble_eq_true rfl) (Nat.le_of_ble_eq_true rfl) ⟨rfl, rfl, _, hG1.1, hG1.fr, by rw [e]; exact h⟩
