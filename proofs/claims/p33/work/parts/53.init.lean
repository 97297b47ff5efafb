theorem wl_RX0_17 : zLi RX0 17 yX3_init := ⟨(zgt_at 221 (by decide +kernel) (by decide +kernel)), rfl, (zgt_at 62 (by decide +kernel) (by decide +kernel))⟩
theorem wy_X3_init : zYw yX3_init cX3_init 2 none 0 := ⟨(zgt_at 63 (by decide +kernel) (by decide +kernel)), (zgt_at 7 (by decide +kernel) (by decide +kernel)), by decide +kernel, by decide +kernel, by decide +kernel⟩
theorem wp_RX0_11 : zFp RX0 11 0 0 (tyX0 0) true := ⟨RX0, TX0, 3, tyX0, rfl, by decide, by decide, wu_0, (zgt_at 222 (by decide +kernel) (by decide +kernel)), tyX0_ok, nmX0, rfl, rfl, fun _ => rfl⟩
theorem wl_RX5_9 : zLin RX5 9 yX4_init := ⟨by decide +kernel, rfl, (zgt_at 30 (by decide +kernel) (by decide +kernel))⟩
theorem wl_RX5_18 : zLi RX5 18 yX3_init := ⟨(zgt_at 61 (by decide +kernel) (by decide +kernel)), rfl, (zgt_at 62 (by decide +kernel) (by decide +kernel))⟩
theorem wl_RX5_28 : zLi RX5 28 yX0_init := ⟨(zgt_at 215 (by decide +kernel) (by decide +kernel)), rfl, (zgt_at 216 (by decide +kernel) (by decide +kernel))⟩
theorem wy_X4_init : zYw yX4_init cX4_init 1 none 0 := ⟨(zgt_at 31 (by decide +kernel) (by decide +kernel)), (zgt_at 6 (by decide +kernel) (by decide +kernel)), by decide +kernel, by decide +kernel, by decide +kernel⟩
theorem wy_X0_init : zYw yX0_init cX0_init 2 none 0 := ⟨(zgt_at 217 (by decide +kernel) (by decide +kernel)), (zgt_at 12 (by decide +kernel) (by decide +kernel)), by decide +kernel, by decide +kernel, by decide +kernel⟩
theorem wp_RX5_10 : zFp RX5 10 5 0 (tyX5 0) true := ⟨RX5, TX5, 6, tyX5, rfl, by decide, by decide, wu_5, (zgt_at 233 (by decide +kernel) (by decide +kernel)), tyX5_ok, nmX5, rfl, rfl, fun _ => rfl⟩
theorem wp_RX5_19 : zFp RX5 19 5 1 (tyX5 1) true := ⟨RX5, TX5, 6, tyX5, rfl, by decide, by decide, wu_5, (zgt_at 234 (by decide +kernel) (by decide +kernel)), tyX5_ok, nmX5, rfl, rfl, fun _ => rfl⟩
theorem wp_RX5_23 : zFp RX5 23 5 2 (tyX5 2) true := ⟨RX5, TX5, 6, tyX5, rfl, by decide, by decide, wu_5, (zgt_at 235 (by decide +kernel) (by decide +kernel)), tyX5_ok, nmX5, rfl, rfl, fun _ => rfl⟩
theorem wp_RX5_29 : zFp RX5 29 5 3 (tyX5 3) true := ⟨RX5, TX5, 6, tyX5, rfl, by decide, by decide, wu_5, (zgt_at 236 (by decide +kernel) (by decide +kernel)), tyX5_ok, nmX5, rfl, rfl, fun _ => rfl⟩
theorem wp_RX5_33 : zFp RX5 33 5 4 (tyX5 4) true := ⟨RX5, TX5, 6, tyX5, rfl, by decide, by decide, wu_5, (zgt_at 237 (by decide +kernel) (by decide +kernel)), tyX5_ok, nmX5, rfl, rfl, fun _ => rfl⟩
theorem wp_RX5_37 : zFp RX5 37 5 5 (tyX5 5) true := ⟨RX5, TX5, 6, tyX5, rfl, by decide, by decide, wu_5, (zgt_at 238 (by decide +kernel) (by decide +kernel)), tyX5_ok, nmX5, rfl, rfl, fun _ => rfl⟩
theorem wo_H : Cond.methodLink RX0 3 objectInit ∈ zgt := (zgt_at 218 (by decide +kernel) (by decide +kernel))
theorem wn_RX0_9 : zNw RX0 9 3 dS 7 := ⟨RX3, TX3, tyX3, rfl, by decide, wu_3, tyX3_ok, (zgt_at 219 (by decide +kernel) (by decide +kernel)), (zgt_at 60 (by decide +kernel) (by decide +kernel)), (zgt_at 7 (by decide +kernel) (by decide +kernel)), by decide +kernel⟩
theorem wk_RX0_9 : Cond.classLink RX0 9 "TrimmedLog$State" ∈ zgt := (zgt_at 219 (by decide +kernel) (by decide +kernel))
abbrev H0 : HT := (fun _ => S0, 0, 0)
theorem dH_o (b0 : Nat) : updV dH 0 (.ref (b0 + 1)) = oH b0 H0 := by
  funext k
  match k with
  | 0 => rfl
  | 1 => rfl
  | 2 => rfl
  | k + 3 => simp [updV, dH, oH]
theorem H_intro {b : Nat} {x : HT} {G : zG} (h0 : G b = some (0, 3, oH b x)) (h1 : G (b + 1) = some (105, 14, fun j => .ref (b + 2 + 26 * j))) (h2 : ∀ j, j < 14 → SA (b + 2 + 26 * j) (H_states x j) G) : HA b x G := by
  intro i hi
  unfold cH
  split
  · rename_i q
    have e : i = 0 := by omega
    subst e
    exact h0
  · split
    · have e : i = 1 := by omega
      subst e
      exact h1
    · have e := h2 ((i - 2) / 26) (by omega) ((i - 2) % 26) (by omega)
      rw [show b + 2 + 26 * ((i - 2) / 26) + (i - 2) % 26 = b + i by omega] at e
      exact e
set_option maxRecDepth 100000 in
theorem s_H_init {l : Launch} {D : zD} {B : Nat} {sa : Nat → Nat} (hfl : l.stackTraces = false) {G : zG} {b0 : Nat} (h0 : G b0 = some (0, 3, dH)) : zSp l D B sa yX0_init cX0_init 2 none 4 116 365 16492 [.ref b0] (b0 + 1) G (zRv fun z' G' => z' = b0 + 366 ∧ HA b0 H0 G' ∧ Fr b0 366 G G') := by
  refine z_ofW (by decide +kernel) hfl [some (.ref b0), none] rfl (Nat.le_of_ble_eq_true rfl) (fun p e s m args below meth c O hret hlk hnm => ?_)
  have O : zO p l s m args c D B sa 2 cX0_init RX0 := O
  have hini : meth.name = "<init>" := hnm
  refine z_aload_n O dX0_init_0 rfl rfl ?_
  refine z_objInit O wo_H wo_i wo_c dX0_init_1 (Nat.le_of_ble_eq_true rfl) (Nat.le_of_ble_eq_true rfl) ?_
  refine z_aload_n O dX0_init_4 rfl rfl ?_
  refine z_bipush (v := 14) O dX0_init_5 (by decide) ?_
  refine y_anew (kd := 105) (t0 := 5) (N := 14) O (by decide) (by decide) rfl (by decide) wk_RX0_9 dX0_init_7 (by decide) (by decide) (Nat.le_of_ble_eq_true rfl) (Nat.le_of_ble_eq_true rfl) (Nat.le_of_ble_eq_true rfl) (fun G4 hG4 => ?_)
  have o4 := (hG4.2 b0 (by omega)).trans h0
  refine y_putF O wp_RX0_11 hini dX0_init_10 o4 rfl rfl (fun G5 hG5 => ?_)
  have o5 := hG5.1
  rw [dH_o] at o5
  have r5 := (hG5.2 _ (by omega)).trans hG4.1
  have hF5 : Fr b0 366 G G5 := fun x hx => (hG5.2 x (by omega)).trans (hG4.2 x (by omega))
  refine z_iconst (v := 0) O dX0_init_13 (by decide) ?_
  refine z_istore_n (L' := [some (.ref b0), some (.int 0)]) O dX0_init_14 rfl (by decide) rfl ?_
  have HL : ∀ (f : Nat) (j : Nat) (G9 : zG), j + f = 14 → G9 b0 = some (0, 3, oH b0 H0) → G9 (b0 + 1) = some (105, 14, zrf (b0 + 2) j 26) → (∀ i, i < j → SA (b0 + 2 + 26 * i) S0 G9) → Fr b0 366 G G9 → zT p l e (zrm 4 116 365 16492) s m args below meth c (zEnd below D B (zRv fun z' G' => z' = b0 + 366 ∧ HA b0 H0 G' ∧ Fr b0 366 G G') args s 365 16492) D B 2 (1 + 26 * j) (14 + 1177 * j) 15 [] [some (.ref b0), some (.int (Int32.ofNat j))] (b0 + 2 + 26 * j) G9 := by
    intro f
    induction f with
    | zero =>
      intro j G9 hj g1 g3 g5 g6
      have e : j = 14 := by omega
      subst e
      refine z_iload_n O dX0_init_15 rfl rfl ?_
      refine z_bipush (v := 14) O dX0_init_16 (by decide) ?_
      refine z_icmp_ge (tgt := 40) O dX0_init_18 (by decide) (fun c1_ => ?_) (fun c1_ => absurd (by decide) c1_)
      refine z_row g3 (by decide) (g := fun j => .ref (b0 + 2 + 26 * j)) (fun j hj => if_pos hj) (fun G10 hG10 => ?_)
      have hS : HA b0 H0 G10 := H_intro ((hG10.2 _ (by omega)).trans g1) hG10.1 (fun i hi => SA.eq (g5 i hi) (fun q k1 k2 => hG10.2 q (by omega)))
      exact z_vret O hret hlk dX0_init_40 (Nat.le_of_ble_eq_true rfl) (Nat.le_of_ble_eq_true rfl) ⟨rfl, rfl, hS, fun x hx => (hG10.2 x (by omega)).trans (g6 x hx)⟩
    | succ f ih =>
      intro j G9 hj g1 g3 g5 g6
      have hj8 : j < 14 := by omega
      have ej : (Int32.ofNat j).toInt = j := Int32.toInt_ofNat_of_lt (by omega)
      have enj : (Int32.ofNat j).toNatClampNeg = j := Int32.toNatClampNeg_ofNat_of_lt (by omega)
      have hin : vp_in (Int32.ofNat j) 14 := vp_i (by rw [enj, Int32.lt_iff_toInt_lt, ej, show (0 : Int32).toInt = 0 from rfl]; omega)
      refine z_iload_n O dX0_init_15 rfl rfl ?_
      refine z_bipush (v := 14) O dX0_init_16 (by decide) ?_
      refine z_icmp_ge (tgt := 40) O dX0_init_18 (by decide) (fun c1_ => absurd c1_ (by rw [Int32.le_iff_toInt_le, ej, show (14 : Int32).toInt = 14 from rfl]; omega)) (fun c1_ => ?_)
      refine z_aload_n O dX0_init_21 rfl rfl ?_
      refine z_get (v := .ref (b0 + 1)) O wf_RX0_11 dX0_init_22 g1 rfl ?_
      refine z_iload_n O dX0_init_25 rfl rfl ?_
      refine y_new O wn_RX0_9 dX0_init_26 (by show _ ≤ 365; omega) (by show _ ≤ 16492; omega) (fun G10 hG10 => ?_)
      refine z_dup O dX0_init_29 rfl ?_
      refine z_callIv (As := []) (st := [.ref (b0 + 2 + 26 * j), .int (Int32.ofNat j), .ref (b0 + 1)]) O (s_S_init hfl hG10.1) wy_X3_init wl_RX0_17 dX0_init_30 rfl rfl ⟨(Nat.le_of_ble_eq_true rfl), (Nat.le_of_ble_eq_true rfl)⟩ (Nat.le_of_ble_eq_true rfl) ⟨by show _ ≤ 365; omega, by show _ ≤ 16492; omega⟩ (fun z11 G11 hq11 => ?_)
      obtain ⟨rfl, hR11, hF11⟩ := hq11
      have r11 := (hF11 (b0 + 1) (by omega)).trans ((hG10.2 _ (by omega)).trans g3)
      refine y_aast (kd := 105) (t0 := 5) (ci := 3) O (by decide) (by decide) rfl (by decide) rfl dX0_init_33 r11 (S_obj hR11) hin (fun G12 hG12 => ?_)
      have r12 := hG12.1
      rw [enj, zrf_up] at r12
      have hq : ∀ q, ¬ q = b0 + 1 → ¬ (b0 + 2 + 26 * j ≤ q ∧ q < b0 + 2 + 26 * j + 26) → G12 q = G9 q := fun q k1 k2 => (hG12.2 q k1).trans ((hF11 q k2).trans (hG10.2 q (by omega)))
      refine z_iinc (v := Int32.ofNat (j + 1)) (L' := [some (.ref b0), some (.int (Int32.ofNat (j + 1)))]) O dX0_init_34 rfl (by show Int32.ofNat j + 1 = _; rw [Int32.ofNat_add]; rfl) (by decide) rfl ?_
      refine z_goto (tgt := 15) O dX0_init_37 (by decide) ?_
      refine z_widen (k' := 1 + 26 * (j + 1)) (n' := 14 + 1177 * (j + 1)) (by omega) (by omega) ?_
      refine ih (j + 1) G12 (by omega) ((hq b0 (by omega) (by omega)).trans g1)  r12 (fun i hi => ?_) (fun x hx => (hq x (by omega) (by omega)).trans (g6 x hx))
      by_cases e : i = j
      · subst e
        exact SA.eq hR11 (fun q k1 k2 => hG12.2 q (by omega))
      · exact SA.eq (g5 i (by omega)) (fun q k1 k2 => hq q (by omega) (by omega))
  exact z_widen (Nat.le_of_ble_eq_true rfl) (Nat.le_of_ble_eq_true rfl) (HL 14 0 G5 rfl o5 r5 (fun i hi => absurd hi (Nat.not_lt_zero i)) hF5)
theorem wo_T : Cond.methodLink RX5 1 objectInit ∈ zgt := (zgt_at 24 (by decide +kernel) (by decide +kernel))
theorem wn_RX5_7 : zNw RX5 7 4 dX 8 := ⟨RX4, TX4, tyX4, rfl, by decide, wu_4, tyX4_ok, (zgt_at 27 (by decide +kernel) (by decide +kernel)), (zgt_at 28 (by decide +kernel) (by decide +kernel)), (zgt_at 6 (by decide +kernel) (by decide +kernel)), by decide +kernel⟩
theorem wn_RX5_16 : zNw RX5 16 3 dS 7 := ⟨RX3, TX3, tyX3, rfl, by decide, wu_3, tyX3_ok, (zgt_at 59 (by decide +kernel) (by decide +kernel)), (zgt_at 60 (by decide +kernel) (by decide +kernel)), (zgt_at 7 (by decide +kernel) (by decide +kernel)), by decide +kernel⟩
theorem wn_RX5_26 : zNw RX5 26 0 dH 3 := ⟨RX0, TX0, tyX0, rfl, by decide, wu_0, tyX0_ok, (zgt_at 213 (by decide +kernel) (by decide +kernel)), (zgt_at 214 (by decide +kernel) (by decide +kernel)), (zgt_at 12 (by decide +kernel) (by decide +kernel)), by decide +kernel⟩
theorem wk_RX5_16 : Cond.classLink RX5 16 "TrimmedLog$State" ∈ zgt := (zgt_at 59 (by decide +kernel) (by decide +kernel))
abbrev T0 : TT := (X00, S0, S0, H0, fun _ => S0, fun _ => 0)
theorem dT_o (b0 : Nat) : updV (updV (updV (updV (updV (updV dT 0 (.ref (b0 + 1))) 1 (.ref (b0 + 3))) 2 (.ref (b0 + 29))) 3 (.ref (b0 + 55))) 4 (.ref (b0 + 421))) 5 (.ref (b0 + 422)) = oT b0 T0 := by
  funext k
  match k with
  | 0 => rfl
  | 1 => rfl
  | 2 => rfl
  | 3 => rfl
  | 4 => rfl
  | 5 => rfl
  | k + 6 => simp [updV, dT, oT]
theorem T_intro {b : Nat} {x : TT} {G : zG} (h0 : G b = some (5, 6, oT b x)) (h1 : XA (b + 1) (T_text x) G) (h3 : SA (b + 3) (T_state x) G) (h29 : SA (b + 29) (T_trial x) G) (h55 : HA (b + 55) (T_history x) G) (h421 : G (b + 421) = some (105, 2, fun j => .ref (b + 423 + 26 * j))) (h422 : G (b + 422) = some (zba 2 (T_filled x))) (h423 : ∀ j, j < 2 → SA (b + 423 + 26 * j) (T_slots x j) G) : TA b x G := by
  intro i hi
  unfold cT
  split
  · rename_i q
    have e : i = 0 := by omega
    subst e
    exact h0
  · split
    · have e := h1 (i - 1) (by omega)
      rw [show b + 1 + (i - 1) = b + i by omega] at e
      exact e
    · split
      · have e := h3 (i - 3) (by omega)
        rw [show b + 3 + (i - 3) = b + i by omega] at e
        exact e
      · split
        · have e := h29 (i - 29) (by omega)
          rw [show b + 29 + (i - 29) = b + i by omega] at e
          exact e
        · split
          · have e := h55 (i - 55) (by omega)
            rw [show b + 55 + (i - 55) = b + i by omega] at e
            exact e
          · split
            · have e : i = 421 := by omega
              subst e
              exact h421
            · split
              · have e : i = 422 := by omega
                subst e
                exact h422
              · have e := h423 ((i - 423) / 26) (by omega) ((i - 423) % 26) (by omega)
                rw [show b + 423 + 26 * ((i - 423) / 26) + (i - 423) % 26 = b + i by omega] at e
                exact e
set_option maxRecDepth 100000 in
theorem s_T_init {l : Launch} {D : zD} {B : Nat} {sa : Nat → Nat} (hfl : l.stackTraces = false) {G : zG} {b0 : Nat} (h0 : G b0 = some (5, 6, dT)) : zSp l D B sa yX5_init cX5_init 2 none 5 137 474 21335 [.ref b0] (b0 + 1) G (zRv fun z' G' => z' = b0 + 475 ∧ TA b0 T0 G' ∧ Fr b0 475 G G') := by
  refine z_ofW (by decide +kernel) hfl [some (.ref b0), none] rfl (Nat.le_of_ble_eq_true rfl) (fun p e s m args below meth c O hret hlk hnm => ?_)
  have O : zO p l s m args c D B sa 2 cX5_init RX5 := O
  have hini : meth.name = "<init>" := hnm
  refine z_aload_n O dX5_init_0 rfl rfl ?_
  refine z_objInit O wo_T wo_i wo_c dX5_init_1 (Nat.le_of_ble_eq_true rfl) (Nat.le_of_ble_eq_true rfl) ?_
  refine z_aload_n O dX5_init_4 rfl rfl ?_
  refine y_new O wn_RX5_7 dX5_init_5 (Nat.le_of_ble_eq_true rfl) (Nat.le_of_ble_eq_true rfl) (fun Ga0 hGa0 => ?_)
  refine z_dup O dX5_init_8 rfl ?_
  refine z_callINv (As := []) (st := [.ref (b0 + 1), .ref b0]) O (s_X_init hfl hGa0.1) wy_X4_init wl_RX5_9 dX5_init_9 rfl rfl ⟨(Nat.le_of_ble_eq_true rfl), (Nat.le_of_ble_eq_true rfl)⟩ (Nat.le_of_ble_eq_true rfl) ⟨(Nat.le_of_ble_eq_true rfl), (Nat.le_of_ble_eq_true rfl)⟩ (fun z0 Gb0 hq0 => ?_)
  obtain ⟨rfl, k1, F0⟩ := hq0
  have o0 := (F0 b0 (by omega)).trans ((hGa0.2 b0 (by omega)).trans h0)
  refine y_putF O wp_RX5_10 hini dX5_init_12 o0 rfl rfl (fun Gc0 hGc0 => ?_)
  have p0 := hGc0.1
  have k1 := XA.eq k1 (fun x g1 g2 => hGc0.2 x (by omega))
  have fr0 : Fr b0 475 G Gc0 := fun x hx => (hGc0.2 x (by omega)).trans ((F0 x (by omega)).trans (hGa0.2 x (by omega)))
  refine z_aload_n O dX5_init_15 rfl rfl ?_
  refine y_new O wn_RX5_16 dX5_init_16 (Nat.le_of_ble_eq_true rfl) (Nat.le_of_ble_eq_true rfl) (fun Ga1 hGa1 => ?_)
  refine z_dup O dX5_init_19 rfl ?_
  refine z_callIv (As := []) (st := [.ref (b0 + 3), .ref b0]) O (s_S_init hfl hGa1.1) wy_X3_init wl_RX5_18 dX5_init_20 rfl rfl ⟨(Nat.le_of_ble_eq_true rfl), (Nat.le_of_ble_eq_true rfl)⟩ (Nat.le_of_ble_eq_true rfl) ⟨(Nat.le_of_ble_eq_true rfl), (Nat.le_of_ble_eq_true rfl)⟩ (fun z1 Gb1 hq1 => ?_)
  obtain ⟨rfl, k3, F1⟩ := hq1
  have o1 := (F1 b0 (by omega)).trans ((hGa1.2 b0 (by omega)).trans p0)
  refine y_putF O wp_RX5_19 hini dX5_init_23 o1 rfl rfl (fun Gc1 hGc1 => ?_)
  have p1 := hGc1.1
  have k1 := XA.eq k1 (fun x g1 g2 => (hGc1.2 x (by omega)).trans ((F1 x (by omega)).trans (hGa1.2 x (by omega))))
  have k3 := SA.eq k3 (fun x g1 g2 => hGc1.2 x (by omega))
  have fr1 : Fr b0 475 Gc0 Gc1 := fun x hx => (hGc1.2 x (by omega)).trans ((F1 x (by omega)).trans (hGa1.2 x (by omega)))
  refine z_aload_n O dX5_init_26 rfl rfl ?_
  refine y_new O wn_RX5_16 dX5_init_27 (Nat.le_of_ble_eq_true rfl) (Nat.le_of_ble_eq_true rfl) (fun Ga2 hGa2 => ?_)
  refine z_dup O dX5_init_30 rfl ?_
  refine z_callIv (As := []) (st := [.ref (b0 + 29), .ref b0]) O (s_S_init hfl hGa2.1) wy_X3_init wl_RX5_18 dX5_init_31 rfl rfl ⟨(Nat.le_of_ble_eq_true rfl), (Nat.le_of_ble_eq_true rfl)⟩ (Nat.le_of_ble_eq_true rfl) ⟨(Nat.le_of_ble_eq_true rfl), (Nat.le_of_ble_eq_true rfl)⟩ (fun z2 Gb2 hq2 => ?_)
  obtain ⟨rfl, k29, F2⟩ := hq2
  have o2 := (F2 b0 (by omega)).trans ((hGa2.2 b0 (by omega)).trans p1)
  refine y_putF O wp_RX5_23 hini dX5_init_34 o2 rfl rfl (fun Gc2 hGc2 => ?_)
  have p2 := hGc2.1
  have k1 := XA.eq k1 (fun x g1 g2 => (hGc2.2 x (by omega)).trans ((F2 x (by omega)).trans (hGa2.2 x (by omega))))
  have k3 := SA.eq k3 (fun x g1 g2 => (hGc2.2 x (by omega)).trans ((F2 x (by omega)).trans (hGa2.2 x (by omega))))
  have k29 := SA.eq k29 (fun x g1 g2 => hGc2.2 x (by omega))
  have fr2 : Fr b0 475 Gc1 Gc2 := fun x hx => (hGc2.2 x (by omega)).trans ((F2 x (by omega)).trans (hGa2.2 x (by omega)))
  refine z_aload_n O dX5_init_37 rfl rfl ?_
  refine y_new O wn_RX5_26 dX5_init_38 (Nat.le_of_ble_eq_true rfl) (Nat.le_of_ble_eq_true rfl) (fun Ga3 hGa3 => ?_)
  refine z_dup O dX5_init_41 rfl ?_
  refine z_callIv (As := []) (st := [.ref (b0 + 55), .ref b0]) O (s_H_init hfl hGa3.1) wy_X0_init wl_RX5_28 dX5_init_42 rfl rfl ⟨(Nat.le_of_ble_eq_true rfl), (Nat.le_of_ble_eq_true rfl)⟩ (Nat.le_of_ble_eq_true rfl) ⟨(Nat.le_of_ble_eq_true rfl), (Nat.le_of_ble_eq_true rfl)⟩ (fun z3 Gb3 hq3 => ?_)
  obtain ⟨rfl, k55, F3⟩ := hq3
  have o3 := (F3 b0 (by omega)).trans ((hGa3.2 b0 (by omega)).trans p2)
  refine y_putF O wp_RX5_29 hini dX5_init_45 o3 rfl rfl (fun Gc3 hGc3 => ?_)
  have p3 := hGc3.1
  have k1 := XA.eq k1 (fun x g1 g2 => (hGc3.2 x (by omega)).trans ((F3 x (by omega)).trans (hGa3.2 x (by omega))))
  have k3 := SA.eq k3 (fun x g1 g2 => (hGc3.2 x (by omega)).trans ((F3 x (by omega)).trans (hGa3.2 x (by omega))))
  have k29 := SA.eq k29 (fun x g1 g2 => (hGc3.2 x (by omega)).trans ((F3 x (by omega)).trans (hGa3.2 x (by omega))))
  have k55 := HA.eq k55 (fun x g1 g2 => hGc3.2 x (by omega))
  have fr3 : Fr b0 475 Gc2 Gc3 := fun x hx => (hGc3.2 x (by omega)).trans ((F3 x (by omega)).trans (hGa3.2 x (by omega)))
  refine z_aload_n O dX5_init_48 rfl rfl ?_
  refine z_iconst (v := 2) O dX5_init_49 (by decide) ?_
  refine y_anew (kd := 105) (t0 := 5) (N := 2) O (by decide) (by decide) rfl (by decide) wk_RX5_16 dX5_init_50 (by decide) (by decide) (Nat.le_of_ble_eq_true rfl) (Nat.le_of_ble_eq_true rfl) (Nat.le_of_ble_eq_true rfl) (fun Gd hGd => ?_)
  have o4 := (hGd.2 b0 (by omega)).trans p3
  refine y_putF O wp_RX5_33 hini dX5_init_53 o4 rfl rfl (fun Ge hGe => ?_)
  have p4 := hGe.1
  have r4 := (hGe.2 _ (by omega)).trans hGd.1
  have k1 := XA.eq k1 (fun x g1 g2 => (hGe.2 x (by omega)).trans (hGd.2 x (by omega)))
  have k3 := SA.eq k3 (fun x g1 g2 => (hGe.2 x (by omega)).trans (hGd.2 x (by omega)))
  have k29 := SA.eq k29 (fun x g1 g2 => (hGe.2 x (by omega)).trans (hGd.2 x (by omega)))
  have k55 := HA.eq k55 (fun x g1 g2 => (hGe.2 x (by omega)).trans (hGd.2 x (by omega)))
  have fr4 : Fr b0 475 Gc3 Ge := fun x hx => (hGe.2 x (by omega)).trans (hGd.2 x (by omega))
  refine z_aload_n O dX5_init_56 rfl rfl ?_
  refine z_iconst (v := 2) O dX5_init_57 (by decide) ?_
  refine y_newa (kd := 101) (t0 := 1) (N := 2) (ty := .boolean) O (by decide) (by decide) rfl rfl (fun q => q) wa_bool dX5_init_58 (by decide) (by decide) (Nat.le_of_ble_eq_true rfl) (Nat.le_of_ble_eq_true rfl) (Nat.le_of_ble_eq_true rfl) rfl (fun Gf hGf => ?_)
  have o5 := (hGf.2 b0 (by omega)).trans p4
  refine y_putF O wp_RX5_37 hini dX5_init_60 o5 rfl rfl (fun Gg hGg => ?_)
  have p5 := hGg.1
  rw [dT_o] at p5
  have r5 := (hGg.2 _ (by omega)).trans ((hGf.2 _ (by omega)).trans r4)
  have t5 := (hGg.2 _ (by omega)).trans hGf.1
  have k1 := XA.eq k1 (fun x g1 g2 => (hGg.2 x (by omega)).trans (hGf.2 x (by omega)))
  have k3 := SA.eq k3 (fun x g1 g2 => (hGg.2 x (by omega)).trans (hGf.2 x (by omega)))
  have k29 := SA.eq k29 (fun x g1 g2 => (hGg.2 x (by omega)).trans (hGf.2 x (by omega)))
  have k55 := HA.eq k55 (fun x g1 g2 => (hGg.2 x (by omega)).trans (hGf.2 x (by omega)))
  have fr5 : Fr b0 475 Ge Gg := fun x hx => (hGg.2 x (by omega)).trans (hGf.2 x (by omega))
  have frA : Fr b0 475 G Gg := fun x hx => (fr5 x hx).trans ((fr4 x hx).trans ((fr3 x hx).trans ((fr2 x hx).trans ((fr1 x hx).trans (fr0 x hx)))))
  refine z_iconst (v := 0) O dX5_init_63 (by decide) ?_
  refine z_istore_n (L' := [some (.ref b0), some (.int 0)]) O dX5_init_64 rfl (by decide) rfl ?_
  have HL : ∀ (f : Nat) (j : Nat) (G9 : zG), j + f = 2 → G9 b0 = some (5, 6, oT b0 T0) → XA (b0 + 1) X00 G9 → SA (b0 + 3) S0 G9 → SA (b0 + 29) S0 G9 → HA (b0 + 55) H0 G9 → G9 (b0 + 422) = some (zba 2 (fun _ => 0)) → G9 (b0 + 421) = some (105, 2, zrf (b0 + 423) j 26) → (∀ i, i < j → SA (b0 + 423 + 26 * i) S0 G9) → Fr b0 475 G G9 → zT p l e (zrm 5 137 474 21335) s m args below meth c (zEnd below D B (zRv fun z' G' => z' = b0 + 475 ∧ TA b0 T0 G' ∧ Fr b0 475 G G') args s 474 21335) D B 2 (422 + 26 * j) (18981 + 1177 * j) 65 [] [some (.ref b0), some (.int (Int32.ofNat j))] (b0 + 423 + 26 * j) G9 := by
    intro f
    induction f with
    | zero =>
      intro j G9 hj g1 x0 x1 x2 x3 x4 g3 g5 g6
      have e : j = 2 := by omega
      subst e
      refine z_iload_n O dX5_init_65 rfl rfl ?_
      refine z_iconst (v := 2) O dX5_init_66 (by decide) ?_
      refine z_icmp_ge (tgt := 89) O dX5_init_67 (by decide) (fun c1_ => ?_) (fun c1_ => absurd (by decide) c1_)
      refine z_row g3 (by decide) (g := fun j => .ref (b0 + 423 + 26 * j)) (fun j hj => if_pos hj) (fun G10 hG10 => ?_)
      have hS : TA b0 T0 G10 := T_intro ((hG10.2 _ (by omega)).trans g1) (XA.eq x0 (fun q k1 k2 => hG10.2 q (by omega))) (SA.eq x1 (fun q k1 k2 => hG10.2 q (by omega))) (SA.eq x2 (fun q k1 k2 => hG10.2 q (by omega))) (HA.eq x3 (fun q k1 k2 => hG10.2 q (by omega))) hG10.1 ((hG10.2 _ (by omega)).trans x4) (fun i hi => SA.eq (g5 i hi) (fun q k1 k2 => hG10.2 q (by omega)))
      exact z_vret O hret hlk dX5_init_89 (Nat.le_of_ble_eq_true rfl) (Nat.le_of_ble_eq_true rfl) ⟨rfl, rfl, hS, fun x hx => (hG10.2 x (by omega)).trans (g6 x hx)⟩
    | succ f ih =>
      intro j G9 hj g1 x0 x1 x2 x3 x4 g3 g5 g6
      have hj8 : j < 2 := by omega
      have ej : (Int32.ofNat j).toInt = j := Int32.toInt_ofNat_of_lt (by omega)
      have enj : (Int32.ofNat j).toNatClampNeg = j := Int32.toNatClampNeg_ofNat_of_lt (by omega)
      have hin : vp_in (Int32.ofNat j) 2 := vp_i (by rw [enj, Int32.lt_iff_toInt_lt, ej, show (0 : Int32).toInt = 0 from rfl]; omega)
      refine z_iload_n O dX5_init_65 rfl rfl ?_
      refine z_iconst (v := 2) O dX5_init_66 (by decide) ?_
      refine z_icmp_ge (tgt := 89) O dX5_init_67 (by decide) (fun c1_ => absurd c1_ (by rw [Int32.le_iff_toInt_le, ej, show (2 : Int32).toInt = 2 from rfl]; omega)) (fun c1_ => ?_)
      refine z_aload_n O dX5_init_70 rfl rfl ?_
      refine z_get (v := .ref (b0 + 421)) O wf_RX5_33 dX5_init_71 g1 rfl ?_
      refine z_iload_n O dX5_init_74 rfl rfl ?_
      refine y_new O wn_RX5_16 dX5_init_75 (by show _ ≤ 474; omega) (by show _ ≤ 21335; omega) (fun G10 hG10 => ?_)
      refine z_dup O dX5_init_78 rfl ?_
      refine z_callIv (As := []) (st := [.ref (b0 + 423 + 26 * j), .int (Int32.ofNat j), .ref (b0 + 421)]) O (s_S_init hfl hG10.1) wy_X3_init wl_RX5_18 dX5_init_79 rfl rfl ⟨(Nat.le_of_ble_eq_true rfl), (Nat.le_of_ble_eq_true rfl)⟩ (Nat.le_of_ble_eq_true rfl) ⟨by show _ ≤ 474; omega, by show _ ≤ 21335; omega⟩ (fun z11 G11 hq11 => ?_)
      obtain ⟨rfl, hR11, hF11⟩ := hq11
      have r11 := (hF11 (b0 + 421) (by omega)).trans ((hG10.2 _ (by omega)).trans g3)
      refine y_aast (kd := 105) (t0 := 5) (ci := 3) O (by decide) (by decide) rfl (by decide) rfl dX5_init_82 r11 (S_obj hR11) hin (fun G12 hG12 => ?_)
      have r12 := hG12.1
      rw [enj, zrf_up] at r12
      have hq : ∀ q, ¬ q = b0 + 421 → ¬ (b0 + 423 + 26 * j ≤ q ∧ q < b0 + 423 + 26 * j + 26) → G12 q = G9 q := fun q k1 k2 => (hG12.2 q k1).trans ((hF11 q k2).trans (hG10.2 q (by omega)))
      refine z_iinc (v := Int32.ofNat (j + 1)) (L' := [some (.ref b0), some (.int (Int32.ofNat (j + 1)))]) O dX5_init_83 rfl (by show Int32.ofNat j + 1 = _; rw [Int32.ofNat_add]; rfl) (by decide) rfl ?_
      refine z_goto (tgt := 65) O dX5_init_86 (by decide) ?_
      refine z_widen (k' := 422 + 26 * (j + 1)) (n' := 18981 + 1177 * (j + 1)) (by omega) (by omega) ?_
      refine ih (j + 1) G12 (by omega) ((hq b0 (by omega) (by omega)).trans g1) (XA.eq x0 (fun q k1 k2 => hq q (by omega) (by omega))) (SA.eq x1 (fun q k1 k2 => hq q (by omega) (by omega))) (SA.eq x2 (fun q k1 k2 => hq q (by omega) (by omega))) (HA.eq x3 (fun q k1 k2 => hq q (by omega) (by omega))) ((hq _ (by omega) (by omega)).trans x4) r12 (fun i hi => ?_) (fun x hx => (hq x (by omega) (by omega)).trans (g6 x hx))
      by_cases e : i = j
      · subst e
        exact SA.eq hR11 (fun q k1 k2 => hG12.2 q (by omega))
      · exact SA.eq (g5 i (by omega)) (fun q k1 k2 => hq q (by omega) (by omega))
  exact z_widen (Nat.le_of_ble_eq_true rfl) (Nat.le_of_ble_eq_true rfl) (HL 2 0 Gg rfl p5 k1 k3 k29 k55 t5 r5 (fun i hi => absurd hi (Nat.not_lt_zero i)) frA)
