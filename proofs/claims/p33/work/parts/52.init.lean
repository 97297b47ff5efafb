theorem wl_RX3_11 : zLin RX3 11 yX1_init := ⟨by decide +kernel, rfl, (zgt_at 68 (by decide +kernel) (by decide +kernel))⟩
theorem wl_RX3_28 : zLin RX3 28 yX2_init := ⟨by decide +kernel, rfl, (zgt_at 123 (by decide +kernel) (by decide +kernel))⟩
theorem wy_X1_init : zYw yX1_init cX1_init 1 none 0 := ⟨(zgt_at 69 (by decide +kernel) (by decide +kernel)), (zgt_at 8 (by decide +kernel) (by decide +kernel)), by decide +kernel, by decide +kernel, by decide +kernel⟩
theorem wy_X2_init : zYw yX2_init cX2_init 1 none 0 := ⟨(zgt_at 124 (by decide +kernel) (by decide +kernel)), (zgt_at 9 (by decide +kernel) (by decide +kernel)), by decide +kernel, by decide +kernel, by decide +kernel⟩
theorem wl_RX3_29 : zLv RX3 29 yX3_renew := ⟨(zgt_at 164 (by decide +kernel) (by decide +kernel)), (zgt_at 165 (by decide +kernel) (by decide +kernel)), (zgt_at 166 (by decide +kernel) (by decide +kernel))⟩
theorem wp_RX3_12 : zFp RX3 12 3 0 (tyX3 0) true := ⟨RX3, TX3, 7, tyX3, rfl, by decide, by decide, wu_3, (zgt_at 187 (by decide +kernel) (by decide +kernel)), tyX3_ok, nmX3, rfl, rfl, fun _ => rfl⟩
theorem wp_RX3_20 : zFp RX3 20 3 1 (tyX3 1) true := ⟨RX3, TX3, 7, tyX3, rfl, by decide, by decide, wu_3, (zgt_at 189 (by decide +kernel) (by decide +kernel)), tyX3_ok, nmX3, rfl, rfl, fun _ => rfl⟩
theorem wp_RX3_24 : zFp RX3 24 3 2 (tyX3 2) true := ⟨RX3, TX3, 7, tyX3, rfl, by decide, by decide, wu_3, (zgt_at 190 (by decide +kernel) (by decide +kernel)), tyX3_ok, nmX3, rfl, rfl, fun _ => rfl⟩
abbrev L0 : LT := (fun _ => 0, fun _ => 0, fun _ => 0, fun _ => 0, fun _ => 0, fun k => if k < 8 then -1 else 0, 0, 0, 0, 0, 0)
abbrev S00 : ST := (L00, fun _ => R00, fun _ => 0, 0, 0, 0, 0)
abbrev S0 : ST := (L0, fun _ => R00, zcp 6 (zSv 0) (fun _ => 0), 0, 0, 0, 0)
theorem vp_i {i : Int32} {n : Nat} (h : ¬ (i < 0 ∨ n ≤ i.toNatClampNeg)) : vp_in i n := h
theorem p_L00 {Q : LT → Prop} (h : Q L0) : P_L_renew L00 Q := by
  unfold P_L_renew
  rintro _ rfl _ rfl _ rfl _ rfl _ rfl
  refine ⟨9, ?_⟩
  rw [PL_L_renew_27]
  refine ⟨fun c => absurd c (by decide), fun _ => ⟨vp_i (by decide), ?_⟩⟩
  rintro _ rfl
  rw [PL_L_renew_27]
  refine ⟨fun c => absurd c (by decide), fun _ => ⟨vp_i (by decide), ?_⟩⟩
  rintro _ rfl
  rw [PL_L_renew_27]
  refine ⟨fun c => absurd c (by decide), fun _ => ⟨vp_i (by decide), ?_⟩⟩
  rintro _ rfl
  rw [PL_L_renew_27]
  refine ⟨fun c => absurd c (by decide), fun _ => ⟨vp_i (by decide), ?_⟩⟩
  rintro _ rfl
  rw [PL_L_renew_27]
  refine ⟨fun c => absurd c (by decide), fun _ => ⟨vp_i (by decide), ?_⟩⟩
  rintro _ rfl
  rw [PL_L_renew_27]
  refine ⟨fun c => absurd c (by decide), fun _ => ⟨vp_i (by decide), ?_⟩⟩
  rintro _ rfl
  rw [PL_L_renew_27]
  refine ⟨fun c => absurd c (by decide), fun _ => ⟨vp_i (by decide), ?_⟩⟩
  rintro _ rfl
  rw [PL_L_renew_27]
  refine ⟨fun c => absurd c (by decide), fun _ => ⟨vp_i (by decide), ?_⟩⟩
  rintro _ rfl
  rw [PL_L_renew_27]
  refine ⟨fun _ => ?_, fun c => absurd (by decide) c⟩
  have e : upd (upd (upd (upd (upd (upd (upd (upd (fun _ => (0 : Int32)) 0 (-1)) 1 (-1)) 2 (-1)) 3 (-1)) 4 (-1)) 5 (-1)) 6 (-1)) 7 (-1) = fun k => if k < 8 then -1 else 0 := by
    funext k
    unfold upd
    match k with
    | 0 => rfl
    | 1 => rfl
    | 2 => rfl
    | 3 => rfl
    | 4 => rfl
    | 5 => rfl
    | 6 => rfl
    | 7 => rfl
    | k + 8 => simp
  show Q (fun _ => 0, fun _ => 0, fun _ => 0, fun _ => 0, fun _ => 0, upd (upd (upd (upd (upd (upd (upd (upd (fun _ => (0 : Int32)) 0 (-1)) 1 (-1)) 2 (-1)) 3 (-1)) 4 (-1)) 5 (-1)) 6 (-1)) 7 (-1), 0, 0, 0, 0, 0)
  rw [e]
  exact h
theorem p_R00 {Q : RT → Prop} (h : Q R00) : P_R_renew R00 Q := by
  unfold P_R_renew
  rintro _ rfl _ rfl _ rfl
  exact h
theorem p_seti00 (i : Nat) (g : ST) (hg : S_readers g = fun _ => R00) : S_seti_readers g i R00 = g := by
  have e : (fun j => if j = i then R00 else S_readers g j) = S_readers g := by
    rw [hg]
    funext j
    exact ite_self _
  show (g.1, (fun j => if j = i then R00 else S_readers g j), g.2.2) = g
  rw [e]
theorem p_S00 {Q : ST → Prop} (h : Q S0) : P_S_renew S00 Q := by
  unfold P_S_renew
  refine p_L00 ?_
  rintro _ rfl
  refine ⟨9, ?_⟩
  generalize hg : S_set_log S00 L0 = g
  have hr : S_readers g = fun _ => R00 := by rw [← hg]
  rw [PL_S_renew_9]
  refine ⟨fun c => absurd c (by decide), fun _ => ⟨vp_i (by decide), ?_⟩⟩
  rw [show S_readers g (Int32.toNatClampNeg _) = R00 from congrFun hr _]
  refine p_R00 ?_
  rw [p_seti00 _ g hr]
  intro w ew
  rw [ew]
  rw [PL_S_renew_9]
  refine ⟨fun c => absurd c (by decide), fun _ => ⟨vp_i (by decide), ?_⟩⟩
  rw [show S_readers g (Int32.toNatClampNeg _) = R00 from congrFun hr _]
  refine p_R00 ?_
  rw [p_seti00 _ g hr]
  intro w ew
  rw [ew]
  rw [PL_S_renew_9]
  refine ⟨fun c => absurd c (by decide), fun _ => ⟨vp_i (by decide), ?_⟩⟩
  rw [show S_readers g (Int32.toNatClampNeg _) = R00 from congrFun hr _]
  refine p_R00 ?_
  rw [p_seti00 _ g hr]
  intro w ew
  rw [ew]
  rw [PL_S_renew_9]
  refine ⟨fun c => absurd c (by decide), fun _ => ⟨vp_i (by decide), ?_⟩⟩
  rw [show S_readers g (Int32.toNatClampNeg _) = R00 from congrFun hr _]
  refine p_R00 ?_
  rw [p_seti00 _ g hr]
  intro w ew
  rw [ew]
  rw [PL_S_renew_9]
  refine ⟨fun c => absurd c (by decide), fun _ => ⟨vp_i (by decide), ?_⟩⟩
  rw [show S_readers g (Int32.toNatClampNeg _) = R00 from congrFun hr _]
  refine p_R00 ?_
  rw [p_seti00 _ g hr]
  intro w ew
  rw [ew]
  rw [PL_S_renew_9]
  refine ⟨fun c => absurd c (by decide), fun _ => ⟨vp_i (by decide), ?_⟩⟩
  rw [show S_readers g (Int32.toNatClampNeg _) = R00 from congrFun hr _]
  refine p_R00 ?_
  rw [p_seti00 _ g hr]
  intro w ew
  rw [ew]
  rw [PL_S_renew_9]
  refine ⟨fun c => absurd c (by decide), fun _ => ⟨vp_i (by decide), ?_⟩⟩
  rw [show S_readers g (Int32.toNatClampNeg _) = R00 from congrFun hr _]
  refine p_R00 ?_
  rw [p_seti00 _ g hr]
  intro w ew
  rw [ew]
  rw [PL_S_renew_9]
  refine ⟨fun c => absurd c (by decide), fun _ => ⟨vp_i (by decide), ?_⟩⟩
  rw [show S_readers g (Int32.toNatClampNeg _) = R00 from congrFun hr _]
  refine p_R00 ?_
  rw [p_seti00 _ g hr]
  intro w ew
  rw [ew]
  rw [PL_S_renew_9]
  refine ⟨fun _ => ?_, fun c => absurd (by decide) c⟩
  subst hg
  refine ⟨by decide, by decide, ?_⟩
  rintro _ rfl _ rfl _ rfl _ rfl _ rfl
  exact h
theorem wo_S : Cond.methodLink RX3 3 objectInit ∈ zgt := (zgt_at 64 (by decide +kernel) (by decide +kernel))
theorem wn_RX3_9 : zNw RX3 9 1 dL 11 := ⟨RX1, TX1, tyX1, rfl, by decide, wu_1, tyX1_ok, (zgt_at 65 (by decide +kernel) (by decide +kernel)), (zgt_at 66 (by decide +kernel) (by decide +kernel)), (zgt_at 8 (by decide +kernel) (by decide +kernel)), by decide +kernel⟩
theorem wn_RX3_18 : zNw RX3 18 2 dR 9 := ⟨RX2, TX2, tyX2, rfl, by decide, wu_2, tyX2_ok, (zgt_at 119 (by decide +kernel) (by decide +kernel)), (zgt_at 121 (by decide +kernel) (by decide +kernel)), (zgt_at 9 (by decide +kernel) (by decide +kernel)), by decide +kernel⟩
theorem wk_RX3_18 : Cond.classLink RX3 18 "TrimmedLog$Reader" ∈ zgt := (zgt_at 119 (by decide +kernel) (by decide +kernel))
theorem dS_o (b0 : Nat) : updV (updV (updV dS 0 (.ref (b0 + 1))) 1 (.ref (b0 + 8))) 2 (.ref (b0 + 9)) = oS b0 S00 := by
  funext k
  match k with
  | 0 => rfl
  | 1 => rfl
  | 2 => rfl
  | 3 => rfl
  | 4 => rfl
  | 5 => rfl
  | 6 => rfl
  | k + 7 => simp [updV, dS, oS]
theorem S_intro {b : Nat} {x : ST} {G : zG} (h0 : G b = some (3, 7, oS b x)) (h1 : LA (b + 1) (S_log x) G) (h8 : G (b + 8) = some (104, 8, fun j => .ref (b + 10 + 2 * j))) (h9 : G (b + 9) = some (zia 6 (S_settings x))) (h10 : ∀ j, j < 8 → RA (b + 10 + 2 * j) (S_readers x j) G) : SA b x G := by
  intro i hi
  unfold cS
  split
  · rename_i q
    have e : i = 0 := by omega
    subst e
    exact h0
  · split
    · have e := h1 (i - 1) (by omega)
      rw [show b + 1 + (i - 1) = b + i by omega] at e
      exact e
    · split
      · have e : i = 8 := by omega
        subst e
        exact h8
      · split
        · have e : i = 9 := by omega
          subst e
          exact h9
        · have e := h10 ((i - 10) / 2) (by omega) ((i - 10) % 2) (by omega)
          rw [show b + 10 + 2 * ((i - 10) / 2) + (i - 10) % 2 = b + i by omega] at e
          exact e
/-- a row of references that is full as far as n -/
def zrf (b n : Nat) (st : Nat) : Nat → Value := fun j => if j < n then .ref (b + st * j) else .null
theorem zrf_up {b n st : Nat} : updV (zrf b n st) n (.ref (b + st * n)) = zrf b (n + 1) st := by
  funext j
  unfold updV zrf
  by_cases h : j = n
  · subst h
    rw [if_pos rfl, if_pos (Nat.lt_succ_self _)]
  · rw [if_neg h]
    by_cases h2 : j < n
    · rw [if_pos h2, if_pos (by omega)]
    · rw [if_neg h2, if_neg (by omega)]
theorem zU_row {a N : Nat} {f g : Nat → Value} {D : zD} {H : Heap} {kd : Nat} (h : ∀ j, j < N → f j = g j) (hz : H[a]? = some (arrV (D.2.2 kd) N f)) : H[a]? = some (arrV (D.2.2 kd) N g) := by
  rw [hz]
  unfold arrV
  congr 2
  apply congrArg
  funext j
  exact h j.val j.isLt
/-- a row of references is only known as far as it goes -/
theorem z_row {p : Program} {l : Launch} {e : Env} {R : Room} {s : State} {m : MethodId} {args : Array Value} {below : List Frame} {meth : Method} {c : Code} {Q : State → Prop} {D : zD} {B nL k n pc z : Nat} {st : List Value} {L : zL} {G : zG} {a kd N : Nat} {f g : Nat → Value} (hG : G a = some (kd, N, f)) (hkd : 100 ≤ kd) (h : ∀ j, j < N → f j = g j)
    (kk : ∀ G1, Wr G a (kd, N, g) G1 → zT p l e R s m args below meth c Q D B nL k n pc st L z G1) : zT p l e R s m args below meth c Q D B nL k n pc st L z G := by
  intro H locs ls hR hS hl
  refine kk _ (Wr.of _ _ _) H locs ls ⟨hR.1, fun x ex hx => ?_⟩ hS hl
  by_cases q : x = a
  · subst q
    simp only [zU, if_pos rfl] at hx
    cases hx
    have h1 := hR.2 x _ hG
    exact ⟨h1.1, fun h2 => absurd hkd (Nat.not_le.mpr h2), fun h2 => ⟨(h1.2.2 h2).1, zU_row (H := H) h (h1.2.2 h2).2⟩⟩
  · simp only [zU, if_neg q] at hx
    exact hR.2 x ex hx
set_option maxRecDepth 100000 in
theorem s_S_init {l : Launch} {D : zD} {B : Nat} {sa : Nat → Nat} (hfl : l.stackTraces = false) {G : zG} {b0 : Nat} (h0 : G b0 = some (3, 7, dS)) : zSp l D B sa yX3_init cX3_init 2 none 3 95 25 1170 [.ref b0] (b0 + 1) G (zRv fun z' G' => z' = b0 + 26 ∧ SA b0 S0 G' ∧ Fr b0 26 G G') := by
  refine z_ofW (by decide +kernel) hfl [some (.ref b0), none] rfl (Nat.le_of_ble_eq_true rfl) (fun p e s m args below meth c O hret hlk hnm => ?_)
  have O : zO p l s m args c D B sa 2 cX3_init RX3 := O
  have hini : meth.name = "<init>" := hnm
  refine z_aload_n O dX3_init_0 rfl rfl ?_
  refine z_objInit O wo_S wo_i wo_c dX3_init_1 (Nat.le_of_ble_eq_true rfl) (Nat.le_of_ble_eq_true rfl) ?_
  refine z_aload_n O dX3_init_4 rfl rfl ?_
  refine y_new O wn_RX3_9 dX3_init_5 (Nat.le_of_ble_eq_true rfl) (Nat.le_of_ble_eq_true rfl) (fun G1 hG1 => ?_)
  refine z_dup O dX3_init_8 rfl ?_
  refine z_callINv (As := []) (st := [.ref (b0 + 1), .ref b0]) O (s_L_init hfl hG1.1) wy_X1_init wl_RX3_11 dX3_init_9 rfl rfl ⟨(Nat.le_of_ble_eq_true rfl), (Nat.le_of_ble_eq_true rfl)⟩ (Nat.le_of_ble_eq_true rfl) ⟨(Nat.le_of_ble_eq_true rfl), (Nat.le_of_ble_eq_true rfl)⟩ (fun z2 G2 hq2 => ?_)
  obtain ⟨rfl, hL2, hF2⟩ := hq2
  have o2 : G2 b0 = some (3, 7, dS) := (hF2 b0 (by omega)).trans ((hG1.2 b0 (by omega)).trans h0)
  refine y_putF O wp_RX3_12 hini dX3_init_12 o2 rfl rfl (fun G3 hG3 => ?_)
  have o3 := hG3.1
  have hL3 : LA (b0 + 1) L00 G3 := LA.eq hL2 (fun q g1 g2 => hG3.2 q (by omega))
  refine z_aload_n O dX3_init_15 rfl rfl ?_
  refine z_bipush (v := 8) O dX3_init_16 (by decide) ?_
  refine y_anew (kd := 104) (t0 := 4) (N := 8) O (by decide) (by decide) rfl (by decide) wk_RX3_18 dX3_init_18 (by decide) (by decide) (Nat.le_of_ble_eq_true rfl) (Nat.le_of_ble_eq_true rfl) (Nat.le_of_ble_eq_true rfl) (fun G4 hG4 => ?_)
  have o4 := (hG4.2 b0 (by omega)).trans o3
  refine y_putF O wp_RX3_20 hini dX3_init_21 o4 rfl rfl (fun G5 hG5 => ?_)
  have o5 := hG5.1
  have hL5 : LA (b0 + 1) L00 G5 := LA.eq hL3 (fun q g1 g2 => (hG5.2 q (by omega)).trans (hG4.2 q (by omega)))
  have r5 := (hG5.2 _ (by omega)).trans hG4.1
  refine z_aload_n O dX3_init_24 rfl rfl ?_
  refine z_bipush (v := 6) O dX3_init_25 (by decide) ?_
  refine y_newa (kd := 100) (t0 := 0) (N := 6) (ty := .int) O (by decide) (by decide) rfl rfl (fun q => q) wa_int dX3_init_27 (by decide) (by decide) (Nat.le_of_ble_eq_true rfl) (Nat.le_of_ble_eq_true rfl) (Nat.le_of_ble_eq_true rfl) rfl (fun G6 hG6 => ?_)
  have o6 := (hG6.2 b0 (by omega)).trans o5
  refine y_putF O wp_RX3_24 hini dX3_init_29 o6 rfl rfl (fun G7 hG7 => ?_)
  have o7 := hG7.1
  rw [dS_o] at o7
  have hL7 : LA (b0 + 1) L00 G7 := LA.eq hL5 (fun q g1 g2 => (hG7.2 q (by omega)).trans (hG6.2 q (by omega)))
  have r7 := (hG7.2 _ (by omega)).trans ((hG6.2 _ (by omega)).trans r5)
  have t7 := (hG7.2 _ (by omega)).trans hG6.1
  have hF7 : Fr b0 26 G G7 := fun x hx => (hG7.2 x (by omega)).trans ((hG6.2 x (by omega)).trans ((hG5.2 x (by omega)).trans ((hG4.2 x (by omega)).trans ((hG3.2 x (by omega)).trans ((hF2 x (by omega)).trans (hG1.2 x (by omega)))))))
  refine z_iconst (v := 0) O dX3_init_32 (by decide) ?_
  refine z_istore_n (L' := [some (.ref b0), some (.int 0)]) O dX3_init_33 rfl (by decide) rfl ?_
  have HL : ∀ (f : Nat) (j : Nat) (G9 : zG), j + f = 8 → G9 b0 = some (3, 7, oS b0 S00) → LA (b0 + 1) L00 G9 → G9 (b0 + 8) = some (104, 8, zrf (b0 + 10) j 2) → G9 (b0 + 9) = some (zia 6 (fun _ => 0)) → (∀ i, i < j → RA (b0 + 10 + 2 * i) R00 G9) → Fr b0 26 G G9 → zT p l e (zrm 3 95 25 1170) s m args below meth c (zEnd below D B (zRv fun z' G' => z' = b0 + 26 ∧ SA b0 S0 G' ∧ Fr b0 26 G G') args s 25 1170) D B 2 (9 + 2 * j) (1034 + 17 * j) 34 [] [some (.ref b0), some (.int (Int32.ofNat j))] (b0 + 10 + 2 * j) G9 := by
    intro f
    induction f with
    | zero =>
      intro j G9 hj g1 g2 g3 g4 g5 g6
      have e : j = 8 := by omega
      subst e
      refine z_iload_n O dX3_init_34 rfl rfl ?_
      refine z_bipush (v := 8) O dX3_init_35 (by decide) ?_
      refine z_icmp_ge (tgt := 59) O dX3_init_37 (by decide) (fun c1_ => ?_) (fun c1_ => absurd (by decide) c1_)
      refine z_row g3 (by decide) (g := fun j => .ref (b0 + 10 + 2 * j)) (fun j hj => if_pos hj) (fun G10 hG10 => ?_)
      have hS : SA b0 S00 G10 := S_intro ((hG10.2 _ (by omega)).trans g1) (LA.eq g2 (fun q k1 k2 => hG10.2 q (by omega))) hG10.1 ((hG10.2 _ (by omega)).trans g4) (fun i hi => RA.eq (g5 i hi) (fun q k1 k2 => hG10.2 q (by omega)))
      refine z_aload_n O dX3_init_59 rfl rfl ?_
      refine z_callVv (As := []) (st := []) O (s_S_renew hfl hS (p_S00 (Q := fun w => w = S0) rfl)) wy_X3_renew wl_RX3_29 dX3_init_60 rfl rfl (S_obj hS) ⟨by decide, rfl⟩ ⟨(Nat.le_of_ble_eq_true rfl), (Nat.le_of_ble_eq_true rfl)⟩ (Nat.le_of_ble_eq_true rfl) ⟨(Nat.le_of_ble_eq_true rfl), (Nat.le_of_ble_eq_true rfl)⟩ (fun z11 G11 hq11 => ?_)
      obtain ⟨rfl, w, k1, k2, rfl⟩ := hq11
      exact z_vret O hret hlk dX3_init_63 (Nat.le_of_ble_eq_true rfl) (Nat.le_of_ble_eq_true rfl) ⟨rfl, rfl, k1, fun x hx => (k2 x hx).trans ((hG10.2 x (by omega)).trans (g6 x hx))⟩
    | succ f ih =>
      intro j G9 hj g1 g2 g3 g4 g5 g6
      have hj8 : j < 8 := by omega
      have ej : (Int32.ofNat j).toInt = j := Int32.toInt_ofNat_of_lt (by omega)
      have enj : (Int32.ofNat j).toNatClampNeg = j := Int32.toNatClampNeg_ofNat_of_lt (by omega)
      have hin : vp_in (Int32.ofNat j) 8 := vp_i (by rw [enj, Int32.lt_iff_toInt_lt, ej, show (0 : Int32).toInt = 0 from rfl]; omega)
      refine z_iload_n O dX3_init_34 rfl rfl ?_
      refine z_bipush (v := 8) O dX3_init_35 (by decide) ?_
      refine z_icmp_ge (tgt := 59) O dX3_init_37 (by decide) (fun c1_ => absurd c1_ (by rw [Int32.le_iff_toInt_le, ej, show (8 : Int32).toInt = 8 from rfl]; omega)) (fun c1_ => ?_)
      refine z_aload_n O dX3_init_40 rfl rfl ?_
      refine z_get (v := .ref (b0 + 8)) O wf_RX3_20 dX3_init_41 g1 rfl ?_
      refine z_iload_n O dX3_init_44 rfl rfl ?_
      refine y_new O wn_RX3_18 dX3_init_45 (by show _ ≤ 25; omega) (by show _ ≤ 1170; omega) (fun G10 hG10 => ?_)
      refine z_dup O dX3_init_48 rfl ?_
      refine z_callINv (As := []) (st := [.ref (b0 + 10 + 2 * j), .int (Int32.ofNat j), .ref (b0 + 8)]) O (s_R_init hfl hG10.1) wy_X2_init wl_RX3_28 dX3_init_49 rfl rfl ⟨(Nat.le_of_ble_eq_true rfl), (Nat.le_of_ble_eq_true rfl)⟩ (Nat.le_of_ble_eq_true rfl) ⟨by show _ ≤ 25; omega, by show _ ≤ 1170; omega⟩ (fun z11 G11 hq11 => ?_)
      obtain ⟨rfl, hR11, hF11⟩ := hq11
      have r11 := (hF11 (b0 + 8) (by omega)).trans ((hG10.2 _ (by omega)).trans g3)
      refine y_aast (kd := 104) (t0 := 4) (ci := 2) O (by decide) (by decide) rfl (by decide) rfl dX3_init_52 r11 (R_obj hR11) hin (fun G12 hG12 => ?_)
      have r12 := hG12.1
      rw [enj, zrf_up] at r12
      have hq : ∀ q, ¬ q = b0 + 8 → ¬ (b0 + 10 + 2 * j ≤ q ∧ q < b0 + 10 + 2 * j + 2) → G12 q = G9 q := fun q k1 k2 => (hG12.2 q k1).trans ((hF11 q k2).trans (hG10.2 q (by omega)))
      refine z_iinc (v := Int32.ofNat (j + 1)) (L' := [some (.ref b0), some (.int (Int32.ofNat (j + 1)))]) O dX3_init_53 rfl (by show Int32.ofNat j + 1 = _; rw [Int32.ofNat_add]; rfl) (by decide) rfl ?_
      refine z_goto (tgt := 34) O dX3_init_56 (by decide) ?_
      refine z_widen (k' := 9 + 2 * (j + 1)) (n' := 1034 + 17 * (j + 1)) (by omega) (by omega) ?_
      refine ih (j + 1) G12 (by omega) ((hq b0 (by omega) (by omega)).trans g1) (LA.eq g2 (fun q k1 k2 => hq q (by omega) (by omega))) r12 ((hq _ (by omega) (by omega)).trans g4) (fun i hi => ?_) (fun x hx => (hq x (by omega) (by omega)).trans (g6 x hx))
      by_cases e : i = j
      · subst e
        exact RA.eq hR11 (fun q k1 k2 => hG12.2 q (by omega))
      · exact RA.eq (g5 i (by omega)) (fun q k1 k2 => hq q (by omega) (by omega))
  exact z_widen (Nat.le_of_ble_eq_true rfl) (Nat.le_of_ble_eq_true rfl) (HL 8 0 G7 rfl o7 hL7 r7 t7 (fun i hi => absurd hi (Nat.not_lt_zero i)) hF7)
