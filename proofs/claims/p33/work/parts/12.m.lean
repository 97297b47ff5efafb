theorem dX1_dropFirst_0 : decode cX1_dropFirst 0 = .ok (.aload_n 0, 1) := by decide +kernel
theorem dX1_dropFirst_1 : decode cX1_dropFirst 1 = .ok (.iconst 0, 1) := by decide +kernel
theorem dX1_dropFirst_2 : decode cX1_dropFirst 2 = .ok (.invokevirtual 73, 3) := by decide +kernel
theorem dX1_dropFirst_5 : decode cX1_dropFirst 5 = .ok (.istore_n 1, 1) := by decide +kernel
theorem dX1_dropFirst_6 : decode cX1_dropFirst 6 = .ok (.aload_n 0, 1) := by decide +kernel
theorem dX1_dropFirst_7 : decode cX1_dropFirst 7 = .ok (.getfield 30, 3) := by decide +kernel
theorem dX1_dropFirst_10 : decode cX1_dropFirst 10 = .ok (.istore_n 2, 1) := by decide +kernel
theorem dX1_dropFirst_11 : decode cX1_dropFirst 11 = .ok (.iload_n 2, 1) := by decide +kernel
theorem dX1_dropFirst_12 : decode cX1_dropFirst 12 = .ok (.iload_n 1, 1) := by decide +kernel
theorem dX1_dropFirst_13 : decode cX1_dropFirst 13 = .ok (.if_icmp .ge 32, 3) := by decide +kernel
theorem dX1_dropFirst_16 : decode cX1_dropFirst 16 = .ok (.aload_n 0, 1) := by decide +kernel
theorem dX1_dropFirst_17 : decode cX1_dropFirst 17 = .ok (.getfield 27, 3) := by decide +kernel
theorem dX1_dropFirst_20 : decode cX1_dropFirst 20 = .ok (.aload_n 0, 1) := by decide +kernel
theorem dX1_dropFirst_21 : decode cX1_dropFirst 21 = .ok (.getfield 9, 3) := by decide +kernel
theorem dX1_dropFirst_24 : decode cX1_dropFirst 24 = .ok (.iload_n 2, 1) := by decide +kernel
theorem dX1_dropFirst_25 : decode cX1_dropFirst 25 = .ok (.invokestatic 54, 3) := by decide +kernel
theorem dX1_dropFirst_28 : decode cX1_dropFirst 28 = .ok (.aload_n 0, 1) := by decide +kernel
theorem dX1_dropFirst_29 : decode cX1_dropFirst 29 = .ok (.getfield 15, 3) := by decide +kernel
theorem dX1_dropFirst_32 : decode cX1_dropFirst 32 = .ok (.iload_n 2, 1) := by decide +kernel
theorem dX1_dropFirst_33 : decode cX1_dropFirst 33 = .ok (.invokestatic 54, 3) := by decide +kernel
theorem dX1_dropFirst_36 : decode cX1_dropFirst 36 = .ok (.invokestatic 69, 3) := by decide +kernel
theorem dX1_dropFirst_39 : decode cX1_dropFirst 39 = .ok (.iinc 2 1, 3) := by decide +kernel
theorem dX1_dropFirst_42 : decode cX1_dropFirst 42 = .ok (.goto (-31), 3) := by decide +kernel
theorem dX1_dropFirst_45 : decode cX1_dropFirst 45 = .ok (.aload_n 0, 1) := by decide +kernel
theorem dX1_dropFirst_46 : decode cX1_dropFirst 46 = .ok (.dup, 1) := by decide +kernel
theorem dX1_dropFirst_47 : decode cX1_dropFirst 47 = .ok (.getfield 37, 3) := by decide +kernel
theorem dX1_dropFirst_50 : decode cX1_dropFirst 50 = .ok (.aload_n 0, 1) := by decide +kernel
theorem dX1_dropFirst_51 : decode cX1_dropFirst 51 = .ok (.aload_n 0, 1) := by decide +kernel
theorem dX1_dropFirst_52 : decode cX1_dropFirst 52 = .ok (.getfield 30, 3) := by decide +kernel
theorem dX1_dropFirst_55 : decode cX1_dropFirst 55 = .ok (.iload_n 1, 1) := by decide +kernel
theorem dX1_dropFirst_56 : decode cX1_dropFirst 56 = .ok (.invokevirtual 62, 3) := by decide +kernel
theorem dX1_dropFirst_59 : decode cX1_dropFirst 59 = .ok (.isub, 1) := by decide +kernel
theorem dX1_dropFirst_60 : decode cX1_dropFirst 60 = .ok (.putfield 37, 3) := by decide +kernel
theorem dX1_dropFirst_63 : decode cX1_dropFirst 63 = .ok (.aload_n 0, 1) := by decide +kernel
theorem dX1_dropFirst_64 : decode cX1_dropFirst 64 = .ok (.iload_n 1, 1) := by decide +kernel
theorem dX1_dropFirst_65 : decode cX1_dropFirst 65 = .ok (.putfield 30, 3) := by decide +kernel
theorem dX1_dropFirst_68 : decode cX1_dropFirst 68 = .ok (.aload_n 0, 1) := by decide +kernel
theorem dX1_dropFirst_69 : decode cX1_dropFirst 69 = .ok (.dup, 1) := by decide +kernel
theorem dX1_dropFirst_70 : decode cX1_dropFirst 70 = .ok (.getfield 43, 3) := by decide +kernel
theorem dX1_dropFirst_73 : decode cX1_dropFirst 73 = .ok (.iconst 1, 1) := by decide +kernel
theorem dX1_dropFirst_74 : decode cX1_dropFirst 74 = .ok (.iadd, 1) := by decide +kernel
theorem dX1_dropFirst_75 : decode cX1_dropFirst 75 = .ok (.putfield 43, 3) := by decide +kernel
theorem dX1_dropFirst_78 : decode cX1_dropFirst 78 = .ok (.return_, 1) := by decide +kernel
def PL_L_dropFirst_11 : Nat → Int32 → Int32 → LT → (LT → Prop) → Prop
  | 0, _, _, _, _ => False
  | n + 1, y1, y2, v0, Q => ((y1 ≤ y2 → P_L_lengthOf (L_first v0) y1 v0 (fun r6_ => (∀ v15_, v15_ = (L_set_length v0 ((L_length v0) - r6_)) → (∀ v23_, v23_ = (L_set_first v15_ y1) → (∀ v31_, v31_ = (L_set_dropped v23_ ((L_dropped v23_) + 1)) → (Q v31_)))))) ∧ (¬ y1 ≤ y2 → P_T_at 200 y2 (L_keys v0) (fun r34_ => (P_T_at 200 y2 (L_values v0) (fun r38_ => (P_T_put 8 r34_ r38_ (L_dropValues v0) (fun v46_ => (∀ v51_, v51_ = (L_set_dropValues v0 v46_) → ((fun y1 y2 v0 => PL_L_dropFirst_11 n  y1 y2 v0  Q) y1 (y2 + 1) v51_)))))))))
def P_L_dropFirst (v0 : LT) (Q : LT → Prop) : Prop := P_L_endOf 0 v0 (fun r1_ => ((∃ n54_, PL_L_dropFirst_11 n54_ r1_ (L_first v0) v0 Q)))
set_option maxRecDepth 100000 in
theorem s_L_dropFirst {l : Launch} {D : zD} {B : Nat} {sa : Nat → Nat} (hfl : l.stackTraces = false) {z : Nat} {G : zG} {b0 : Nat} {v0 : LT} {Q : LT → Prop} (h0 : LA b0 v0 G) (h : P_L_dropFirst v0 Q) : zSp l D B sa yX1_dropFirst cX1_dropFirst 3 none 2 43 0 0 [.ref b0] z G (zRv fun z' G' => z = z' ∧ ∃ w, LA b0 w G' ∧ Fr b0 7 G G' ∧ Q w) := by
  unfold P_L_dropFirst at h
  refine z_ofW (by decide +kernel) hfl [some (.ref b0), none, none] rfl (Nat.le_of_ble_eq_true rfl) (fun p e s m args below meth c O hret hlk hnm => ?_)
  have O : zO p l s m args c D B sa 3 cX1_dropFirst RX1 := O
  have HL11 : ∀ (n9 : Nat)    (y1 : Int32) (y2 : Int32) (v0 : LT) (G9 : zG) (g0 : LA b0 v0 G9) (gF : Fr b0 7 G G9) (h : PL_L_dropFirst_11 n9 y1 y2 v0 Q), zT p l e (zrm 2 43 0 0) s m args below meth c (zEnd below D B (zRv fun z' G' => z = z' ∧ ∃ w, LA b0 w G' ∧ Fr b0 7 G G' ∧ Q w) args s 0 0) D B 3 0 0 11 [] [some (.ref b0), some (.int y1), some (.int y2)] z G9 := by
    intro n9   
    induction n9 with
    | zero =>
      intro _ _ _ _ _ _ h
      exact (h : False).elim
    | succ n ih =>
      intro y1 y2 v0 G9 g0 gF h
      rw [PL_L_dropFirst_11] at h
      refine z_iload_n O dX1_dropFirst_11 rfl rfl ?_
      refine z_iload_n O dX1_dropFirst_12 rfl rfl ?_
      refine z_icmp_ge (tgt := 45) O dX1_dropFirst_13 (by decide) (fun c5_ => ?_) (fun c5_ => ?_)
      · have h := h.1 c5_
        refine z_aload_n O dX1_dropFirst_45 rfl rfl ?_
        refine z_dup O dX1_dropFirst_46 rfl ?_
        refine z_get (v := .int (L_length v0)) O wf_RX1_37 dX1_dropFirst_47 (L_obj g0) rfl ?_
        refine z_aload_n O dX1_dropFirst_50 rfl rfl ?_
        refine z_aload_n O dX1_dropFirst_51 rfl rfl ?_
        refine z_get (v := .int (L_first v0)) O wf_RX1_30 dX1_dropFirst_52 (L_obj g0) rfl ?_
        refine z_iload_n O dX1_dropFirst_55 rfl rfl ?_
        refine z_callVi (As := [.int (L_first v0), .int y1]) (st := [.int (L_length v0), .ref b0]) O (s_L_lengthOf hfl g0 h) wy_X1_lengthOf wl_RX1_62 dX1_dropFirst_56 rfl rfl (L_obj g0) ⟨by decide, rfl⟩ ⟨Nat.le_of_ble_eq_true rfl, Nat.le_of_ble_eq_true rfl⟩ (Nat.le_of_ble_eq_true rfl) ⟨Nat.le_of_ble_eq_true rfl, Nat.le_of_ble_eq_true rfl⟩ (fun r6_ z7_ G8_ hq9_ => ?_)
        obtain ⟨rfl, rfl, h⟩ := hq9_
        refine z_isub O dX1_dropFirst_59 ?_
        refine y_put O wp_RX1_37 dX1_dropFirst_60 (L_obj g0) rfl rfl (fun G10_ hw11_ => ?_)
        have k12_ := L_w_length g0 hw11_
        have f13_ := hw11_.fr
        have f14_ : Fr b0 7 G9 G10_ := Fr.mono f13_ (by omega) (by omega)
        obtain ⟨v15_, ev15_⟩ : ∃ w, w = (L_set_length v0 ((L_length v0) - r6_)) := ⟨_, rfl⟩
        have h := h v15_ ev15_
        have k16_ : LA b0 v15_ G10_ := by rw [ev15_]; exact k12_
        have F17_ : Fr b0 7 G G10_ := Fr.trans gF f14_
        refine z_aload_n O dX1_dropFirst_63 rfl rfl ?_
        refine z_iload_n O dX1_dropFirst_64 rfl rfl ?_
        refine y_put O wp_RX1_30 dX1_dropFirst_65 (L_obj k16_) rfl rfl (fun G18_ hw19_ => ?_)
        have k20_ := L_w_first k16_ hw19_
        have f21_ := hw19_.fr
        have f22_ : Fr b0 7 G10_ G18_ := Fr.mono f21_ (by omega) (by omega)
        obtain ⟨v23_, ev23_⟩ : ∃ w, w = (L_set_first v15_ y1) := ⟨_, rfl⟩
        have h := h v23_ ev23_
        have k24_ : LA b0 v23_ G18_ := by rw [ev23_]; exact k20_
        have F25_ : Fr b0 7 G G18_ := Fr.trans F17_ f22_
        refine z_aload_n O dX1_dropFirst_68 rfl rfl ?_
        refine z_dup O dX1_dropFirst_69 rfl ?_
        refine z_get (v := .int (L_dropped v23_)) O wf_RX1_43 dX1_dropFirst_70 (L_obj k24_) rfl ?_
        refine z_iconst (v := 1) O dX1_dropFirst_73 (by decide) ?_
        refine z_iadd O dX1_dropFirst_74 ?_
        refine y_put O wp_RX1_43 dX1_dropFirst_75 (L_obj k24_) rfl rfl (fun G26_ hw27_ => ?_)
        have k28_ := L_w_dropped k24_ hw27_
        have f29_ := hw27_.fr
        have f30_ : Fr b0 7 G18_ G26_ := Fr.mono f29_ (by omega) (by omega)
        obtain ⟨v31_, ev31_⟩ : ∃ w, w = (L_set_dropped v23_ ((L_dropped v23_) + 1)) := ⟨_, rfl⟩
        have h := h v31_ ev31_
        have k32_ : LA b0 v31_ G26_ := by rw [ev31_]; exact k28_
        have F33_ : Fr b0 7 G G26_ := Fr.trans F25_ f30_
        exact z_vret O hret hlk dX1_dropFirst_78 (Nat.le_of_ble_eq_true rfl) (Nat.le_of_ble_eq_true rfl) ⟨rfl, rfl, _, k32_, F33_, h⟩
      · have h := h.2 c5_
        refine z_aload_n O dX1_dropFirst_16 rfl rfl ?_
        refine z_get (v := .ref (b0 + 6)) O wf_RX1_27 dX1_dropFirst_17 (L_obj g0) rfl ?_
        refine z_aload_n O dX1_dropFirst_20 rfl rfl ?_
        refine z_get (v := .ref (b0 + 1)) O wf_RX1_9 dX1_dropFirst_21 (L_obj g0) rfl ?_
        refine z_iload_n O dX1_dropFirst_24 rfl rfl ?_
        refine z_callNi (As := [.ref (b0 + 1), .int y2]) (st := [.ref (b0 + 6)]) O (s_T_at hfl (L_keys_of g0) h) wy_X5_at wl_RX1_54 dX1_dropFirst_25 rfl rfl ⟨Nat.le_of_ble_eq_true rfl, Nat.le_of_ble_eq_true rfl⟩ (Nat.le_of_ble_eq_true rfl) ⟨Nat.le_of_ble_eq_true rfl, Nat.le_of_ble_eq_true rfl⟩ (fun r34_ z35_ G36_ hq37_ => ?_)
        obtain ⟨rfl, rfl, h⟩ := hq37_
        refine z_aload_n O dX1_dropFirst_28 rfl rfl ?_
        refine z_get (v := .ref (b0 + 2)) O wf_RX1_15 dX1_dropFirst_29 (L_obj g0) rfl ?_
        refine z_iload_n O dX1_dropFirst_32 rfl rfl ?_
        refine z_callNi (As := [.ref (b0 + 2), .int y2]) (st := [.int r34_, .ref (b0 + 6)]) O (s_T_at hfl (L_values_of g0) h) wy_X5_at wl_RX1_54 dX1_dropFirst_33 rfl rfl ⟨Nat.le_of_ble_eq_true rfl, Nat.le_of_ble_eq_true rfl⟩ (Nat.le_of_ble_eq_true rfl) ⟨Nat.le_of_ble_eq_true rfl, Nat.le_of_ble_eq_true rfl⟩ (fun r38_ z39_ G40_ hq41_ => ?_)
        obtain ⟨rfl, rfl, h⟩ := hq41_
        refine z_callNv (As := [.ref (b0 + 6), .int r34_, .int r38_]) (st := []) O (s_T_put hfl (L_dropValues_of g0) h) wy_X5_put wl_RX1_69 dX1_dropFirst_36 rfl rfl ⟨Nat.le_of_ble_eq_true rfl, Nat.le_of_ble_eq_true rfl⟩ (Nat.le_of_ble_eq_true rfl) ⟨Nat.le_of_ble_eq_true rfl, Nat.le_of_ble_eq_true rfl⟩ (fun z43_ G44_ hq45_ => ?_)
        obtain ⟨rfl, v46_, k47_, f48_, h⟩ := hq45_
        have k49_ := L_put_dropValues g0 k47_ f48_
        have f50_ : Fr b0 7 G9 G44_ := Fr.mono f48_ (by omega) (by omega)
        obtain ⟨v51_, ev51_⟩ : ∃ w, w = (L_set_dropValues v0 v46_) := ⟨_, rfl⟩
        have h := h v51_ ev51_
        have k52_ : LA b0 v51_ G44_ := by rw [ev51_]; exact k49_
        have F53_ : Fr b0 7 G G44_ := Fr.trans gF f50_
        refine z_iinc (v := (y2 + 1)) (L' := [some (.ref b0), some (.int y1), some (.int (y2 + 1))]) O dX1_dropFirst_39 rfl (by first | rfl | decide) (by decide) rfl ?_
        refine z_goto (tgt := 11) O dX1_dropFirst_42 (by decide) ?_
        exact z_subL (L' := [some (.ref b0), some (.int y1), some (.int (y2 + 1))]) (zLe.sub (And.intro rfl (And.intro rfl (And.intro rfl True.intro)))) (ih y1 (y2 + 1) v51_ G44_ k52_ F53_ h)
  refine z_aload_n O dX1_dropFirst_0 rfl rfl ?_
  refine z_iconst (v := 0) O dX1_dropFirst_1 (by decide) ?_
  refine z_callVi (As := [.int 0]) (st := []) O (s_L_endOf hfl h0 h) wy_X1_endOf wl_RX1_73 dX1_dropFirst_2 rfl rfl (L_obj h0) ⟨by decide, rfl⟩ ⟨Nat.le_of_ble_eq_true rfl, Nat.le_of_ble_eq_true rfl⟩ (Nat.le_of_ble_eq_true rfl) ⟨Nat.le_of_ble_eq_true rfl, Nat.le_of_ble_eq_true rfl⟩ (fun r1_ z2_ G3_ hq4_ => ?_)
  obtain ⟨rfl, rfl, h⟩ := hq4_
  refine z_istore_n (L' := [some (.ref b0), some (.int r1_), none]) O dX1_dropFirst_5 rfl (by decide) rfl ?_
  refine z_aload_n O dX1_dropFirst_6 rfl rfl ?_
  refine z_get (v := .int (L_first v0)) O wf_RX1_30 dX1_dropFirst_7 (L_obj h0) rfl ?_
  refine z_istore_n (L' := [some (.ref b0), some (.int r1_), some (.int (L_first v0))]) O dX1_dropFirst_10 rfl (by decide) rfl ?_
  obtain ⟨n54_, h⟩ := h
  exact z_subL (L' := [some (.ref b0), some (.int r1_), some (.int (L_first v0))]) (zLe.sub (And.intro rfl (And.intro rfl (And.intro rfl True.intro)))) (HL11 n54_ r1_ (L_first v0) v0 G h0 Fr.rf h)

theorem dX1_toldForwards_0 : decode cX1_toldForwards 0 = .ok (.aload_n 0, 1) := by decide +kernel
theorem dX1_toldForwards_1 : decode cX1_toldForwards 1 = .ok (.getfield 27, 3) := by decide +kernel
theorem dX1_toldForwards_4 : decode cX1_toldForwards 4 = .ok (.iload_n 1, 1) := by decide +kernel
theorem dX1_toldForwards_5 : decode cX1_toldForwards 5 = .ok (.invokestatic 54, 3) := by decide +kernel
theorem dX1_toldForwards_8 : decode cX1_toldForwards 8 = .ok (.istore_n 3, 1) := by decide +kernel
theorem dX1_toldForwards_9 : decode cX1_toldForwards 9 = .ok (.aload_n 0, 1) := by decide +kernel
theorem dX1_toldForwards_10 : decode cX1_toldForwards 10 = .ok (.getfield 30, 3) := by decide +kernel
theorem dX1_toldForwards_13 : decode cX1_toldForwards 13 = .ok (.istore 4, 2) := by decide +kernel
theorem dX1_toldForwards_15 : decode cX1_toldForwards 15 = .ok (.iload 4, 2) := by decide +kernel
theorem dX1_toldForwards_17 : decode cX1_toldForwards 17 = .ok (.iload_n 2, 1) := by decide +kernel
theorem dX1_toldForwards_18 : decode cX1_toldForwards 18 = .ok (.if_icmp .ge 32, 3) := by decide +kernel
theorem dX1_toldForwards_21 : decode cX1_toldForwards 21 = .ok (.aload_n 0, 1) := by decide +kernel
theorem dX1_toldForwards_22 : decode cX1_toldForwards 22 = .ok (.getfield 9, 3) := by decide +kernel
theorem dX1_toldForwards_25 : decode cX1_toldForwards 25 = .ok (.iload 4, 2) := by decide +kernel
theorem dX1_toldForwards_27 : decode cX1_toldForwards 27 = .ok (.invokestatic 54, 3) := by decide +kernel
theorem dX1_toldForwards_30 : decode cX1_toldForwards 30 = .ok (.iload_n 1, 1) := by decide +kernel
theorem dX1_toldForwards_31 : decode cX1_toldForwards 31 = .ok (.if_icmp .ne 13, 3) := by decide +kernel
theorem dX1_toldForwards_34 : decode cX1_toldForwards 34 = .ok (.aload_n 0, 1) := by decide +kernel
theorem dX1_toldForwards_35 : decode cX1_toldForwards 35 = .ok (.getfield 15, 3) := by decide +kernel
theorem dX1_toldForwards_38 : decode cX1_toldForwards 38 = .ok (.iload 4, 2) := by decide +kernel
theorem dX1_toldForwards_40 : decode cX1_toldForwards 40 = .ok (.invokestatic 54, 3) := by decide +kernel
theorem dX1_toldForwards_43 : decode cX1_toldForwards 43 = .ok (.istore_n 3, 1) := by decide +kernel
theorem dX1_toldForwards_44 : decode cX1_toldForwards 44 = .ok (.iinc 4 1, 3) := by decide +kernel
theorem dX1_toldForwards_47 : decode cX1_toldForwards 47 = .ok (.goto (-32), 3) := by decide +kernel
theorem dX1_toldForwards_50 : decode cX1_toldForwards 50 = .ok (.iload_n 3, 1) := by decide +kernel
theorem dX1_toldForwards_51 : decode cX1_toldForwards 51 = .ok (.ireturn, 1) := by decide +kernel
def PL_L_toldForwards_15 : Nat → Int32 → Int32 → LT → Int32 → Int32 → Int32 → Int32 → (Int32 → Prop) → Prop
  | 0, _, _, _, _, _, _, _, _ => False
  | n + 1, x1, x2, v0, y1, y2, y3, y4, Q => ((y2 ≤ y4 → Q y3) ∧ (¬ y2 ≤ y4 → P_T_at 200 y4 (L_keys v0) (fun r6_ => (((¬ r6_ = y1 → (fun y1 y2 y3 y4 => PL_L_toldForwards_15 n x1 x2 v0 y1 y2 y3 y4  Q) y1 y2 y3 (y4 + 1)) ∧ (r6_ = y1 → P_T_at 200 y4 (L_values v0) (fun r11_ => ((fun y1 y2 y3 y4 => PL_L_toldForwards_15 n x1 x2 v0 y1 y2 y3 y4  Q) y1 y2 r11_ (y4 + 1)))))))))
def P_L_toldForwards (x1 : Int32) (x2 : Int32) (v0 : LT) (Q : Int32 → Prop) : Prop := P_T_at 8 x1 (L_dropValues v0) (fun r1_ => ((∃ n15_, PL_L_toldForwards_15 n15_ x1 x2 v0 x1 x2 r1_ (L_first v0) Q)))
set_option maxRecDepth 100000 in
theorem s_L_toldForwards {l : Launch} {D : zD} {B : Nat} {sa : Nat → Nat} (hfl : l.stackTraces = false) {z : Nat} {G : zG} {b0 : Nat} {x1 : Int32} {x2 : Int32} {v0 : LT} {Q : Int32 → Prop} (h0 : LA b0 v0 G) (h : P_L_toldForwards x1 x2 v0 Q) : zSp l D B sa yX1_toldForwards cX1_toldForwards 5 (some .int) 1 21 0 0 [.ref b0, .int x1, .int x2] z G (zRi fun r z' G' => z = z' ∧ G = G' ∧ Q r) := by
  unfold P_L_toldForwards at h
  refine z_ofW (by decide +kernel) hfl [some (.ref b0), some (.int x1), some (.int x2), none, none] rfl (Nat.le_of_ble_eq_true rfl) (fun p e s m args below meth c O hret hlk hnm => ?_)
  have O : zO p l s m args c D B sa 5 cX1_toldForwards RX1 := O
  have HL15 : ∀ (n9 : Nat)    (y1 : Int32) (y2 : Int32) (y3 : Int32) (y4 : Int32) (h : PL_L_toldForwards_15 n9 x1 x2 v0 y1 y2 y3 y4 Q), zT p l e (zrm 1 21 0 0) s m args below meth c (zEnd below D B (zRi fun r z' G' => z = z' ∧ G = G' ∧ Q r) args s 0 0) D B 5 0 0 15 [] [some (.ref b0), some (.int y1), some (.int y2), some (.int y3), some (.int y4)] z G := by
    intro n9   
    induction n9 with
    | zero =>
      intro _ _ _ _ h
      exact (h : False).elim
    | succ n ih =>
      intro y1 y2 y3 y4 h
      rw [PL_L_toldForwards_15] at h
      refine z_iload O dX1_toldForwards_15 rfl ?_
      refine z_iload_n O dX1_toldForwards_17 rfl rfl ?_
      refine z_icmp_ge (tgt := 50) O dX1_toldForwards_18 (by decide) (fun c5_ => ?_) (fun c5_ => ?_)
      · have h := h.1 c5_
        refine z_iload_n O dX1_toldForwards_50 rfl rfl ?_
        exact z_iret O hret hlk dX1_toldForwards_51 (Nat.le_of_ble_eq_true rfl) (Nat.le_of_ble_eq_true rfl) ⟨_, rfl, rfl, rfl, h⟩
      · have h := h.2 c5_
        refine z_aload_n O dX1_toldForwards_21 rfl rfl ?_
        refine z_get (v := .ref (b0 + 1)) O wf_RX1_9 dX1_toldForwards_22 (L_obj h0) rfl ?_
        refine z_iload O dX1_toldForwards_25 rfl ?_
        refine z_callNi (As := [.ref (b0 + 1), .int y4]) (st := []) O (s_T_at hfl (L_keys_of h0) h) wy_X5_at wl_RX1_54 dX1_toldForwards_27 rfl rfl ⟨Nat.le_of_ble_eq_true rfl, Nat.le_of_ble_eq_true rfl⟩ (Nat.le_of_ble_eq_true rfl) ⟨Nat.le_of_ble_eq_true rfl, Nat.le_of_ble_eq_true rfl⟩ (fun r6_ z7_ G8_ hq9_ => ?_)
        obtain ⟨rfl, rfl, h⟩ := hq9_
        refine z_iload_n O dX1_toldForwards_30 rfl rfl ?_
        refine z_icmp_ne (tgt := 44) O dX1_toldForwards_31 (by decide) (fun c10_ => ?_) (fun c10_ => ?_)
        · have h := h.1 c10_
          refine z_iinc (v := (y4 + 1)) (L' := [some (.ref b0), some (.int y1), some (.int y2), some (.int y3), some (.int (y4 + 1))]) O dX1_toldForwards_44 rfl (by first | rfl | decide) (by decide) rfl ?_
          refine z_goto (tgt := 15) O dX1_toldForwards_47 (by decide) ?_
          exact z_subL (L' := [some (.ref b0), some (.int y1), some (.int y2), some (.int y3), some (.int (y4 + 1))]) (zLe.sub (And.intro rfl (And.intro rfl (And.intro rfl (And.intro rfl (And.intro rfl True.intro)))))) (ih y1 y2 y3 (y4 + 1) h)
        · have h := h.2 c10_
          refine z_aload_n O dX1_toldForwards_34 rfl rfl ?_
          refine z_get (v := .ref (b0 + 2)) O wf_RX1_15 dX1_toldForwards_35 (L_obj h0) rfl ?_
          refine z_iload O dX1_toldForwards_38 rfl ?_
          refine z_callNi (As := [.ref (b0 + 2), .int y4]) (st := []) O (s_T_at hfl (L_values_of h0) h) wy_X5_at wl_RX1_54 dX1_toldForwards_40 rfl rfl ⟨Nat.le_of_ble_eq_true rfl, Nat.le_of_ble_eq_true rfl⟩ (Nat.le_of_ble_eq_true rfl) ⟨Nat.le_of_ble_eq_true rfl, Nat.le_of_ble_eq_true rfl⟩ (fun r11_ z12_ G13_ hq14_ => ?_)
          obtain ⟨rfl, rfl, h⟩ := hq14_
          refine z_istore_n (L' := [some (.ref b0), some (.int y1), some (.int y2), some (.int r11_), some (.int y4)]) O dX1_toldForwards_43 rfl (by decide) rfl ?_
          refine z_iinc (v := (y4 + 1)) (L' := [some (.ref b0), some (.int y1), some (.int y2), some (.int r11_), some (.int (y4 + 1))]) O dX1_toldForwards_44 rfl (by first | rfl | decide) (by decide) rfl ?_
          refine z_goto (tgt := 15) O dX1_toldForwards_47 (by decide) ?_
          exact z_subL (L' := [some (.ref b0), some (.int y1), some (.int y2), some (.int r11_), some (.int (y4 + 1))]) (zLe.sub (And.intro rfl (And.intro rfl (And.intro rfl (And.intro rfl (And.intro rfl True.intro)))))) (ih y1 y2 r11_ (y4 + 1) h)
  refine z_aload_n O dX1_toldForwards_0 rfl rfl ?_
  refine z_get (v := .ref (b0 + 6)) O wf_RX1_27 dX1_toldForwards_1 (L_obj h0) rfl ?_
  refine z_iload_n O dX1_toldForwards_4 rfl rfl ?_
  refine z_callNi (As := [.ref (b0 + 6), .int x1]) (st := []) O (s_T_at hfl (L_dropValues_of h0) h) wy_X5_at wl_RX1_54 dX1_toldForwards_5 rfl rfl ⟨Nat.le_of_ble_eq_true rfl, Nat.le_of_ble_eq_true rfl⟩ (Nat.le_of_ble_eq_true rfl) ⟨Nat.le_of_ble_eq_true rfl, Nat.le_of_ble_eq_true rfl⟩ (fun r1_ z2_ G3_ hq4_ => ?_)
  obtain ⟨rfl, rfl, h⟩ := hq4_
  refine z_istore_n (L' := [some (.ref b0), some (.int x1), some (.int x2), some (.int r1_), none]) O dX1_toldForwards_8 rfl (by decide) rfl ?_
  refine z_aload_n O dX1_toldForwards_9 rfl rfl ?_
  refine z_get (v := .int (L_first v0)) O wf_RX1_30 dX1_toldForwards_10 (L_obj h0) rfl ?_
  refine z_istore (L' := [some (.ref b0), some (.int x1), some (.int x2), some (.int r1_), some (.int (L_first v0))]) O dX1_toldForwards_13 (by decide) rfl ?_
  obtain ⟨n15_, h⟩ := h
  exact z_subL (L' := [some (.ref b0), some (.int x1), some (.int x2), some (.int r1_), some (.int (L_first v0))]) (zLe.sub (And.intro rfl (And.intro rfl (And.intro rfl (And.intro rfl (And.intro rfl True.intro)))))) (HL15 n15_ x1 x2 r1_ (L_first v0) h)

theorem dX1_toldBackwards_0 : decode cX1_toldBackwards 0 = .ok (.iload_n 2, 1) := by decide +kernel
theorem dX1_toldBackwards_1 : decode cX1_toldBackwards 1 = .ok (.iconst 1, 1) := by decide +kernel
theorem dX1_toldBackwards_2 : decode cX1_toldBackwards 2 = .ok (.isub, 1) := by decide +kernel
theorem dX1_toldBackwards_3 : decode cX1_toldBackwards 3 = .ok (.istore_n 3, 1) := by decide +kernel
theorem dX1_toldBackwards_4 : decode cX1_toldBackwards 4 = .ok (.iload_n 3, 1) := by decide +kernel
theorem dX1_toldBackwards_5 : decode cX1_toldBackwards 5 = .ok (.aload_n 0, 1) := by decide +kernel
theorem dX1_toldBackwards_6 : decode cX1_toldBackwards 6 = .ok (.getfield 30, 3) := by decide +kernel
theorem dX1_toldBackwards_9 : decode cX1_toldBackwards 9 = .ok (.if_icmp .lt 30, 3) := by decide +kernel
theorem dX1_toldBackwards_12 : decode cX1_toldBackwards 12 = .ok (.aload_n 0, 1) := by decide +kernel
theorem dX1_toldBackwards_13 : decode cX1_toldBackwards 13 = .ok (.getfield 9, 3) := by decide +kernel
theorem dX1_toldBackwards_16 : decode cX1_toldBackwards 16 = .ok (.iload_n 3, 1) := by decide +kernel
theorem dX1_toldBackwards_17 : decode cX1_toldBackwards 17 = .ok (.invokestatic 54, 3) := by decide +kernel
theorem dX1_toldBackwards_20 : decode cX1_toldBackwards 20 = .ok (.iload_n 1, 1) := by decide +kernel
theorem dX1_toldBackwards_21 : decode cX1_toldBackwards 21 = .ok (.if_icmp .ne 12, 3) := by decide +kernel
theorem dX1_toldBackwards_24 : decode cX1_toldBackwards 24 = .ok (.aload_n 0, 1) := by decide +kernel
theorem dX1_toldBackwards_25 : decode cX1_toldBackwards 25 = .ok (.getfield 15, 3) := by decide +kernel
theorem dX1_toldBackwards_28 : decode cX1_toldBackwards 28 = .ok (.iload_n 3, 1) := by decide +kernel
theorem dX1_toldBackwards_29 : decode cX1_toldBackwards 29 = .ok (.invokestatic 54, 3) := by decide +kernel
theorem dX1_toldBackwards_32 : decode cX1_toldBackwards 32 = .ok (.ireturn, 1) := by decide +kernel
theorem dX1_toldBackwards_33 : decode cX1_toldBackwards 33 = .ok (.iinc 3 (-1), 3) := by decide +kernel
theorem dX1_toldBackwards_36 : decode cX1_toldBackwards 36 = .ok (.goto (-32), 3) := by decide +kernel
theorem dX1_toldBackwards_39 : decode cX1_toldBackwards 39 = .ok (.aload_n 0, 1) := by decide +kernel
theorem dX1_toldBackwards_40 : decode cX1_toldBackwards 40 = .ok (.getfield 27, 3) := by decide +kernel
theorem dX1_toldBackwards_43 : decode cX1_toldBackwards 43 = .ok (.iload_n 1, 1) := by decide +kernel
theorem dX1_toldBackwards_44 : decode cX1_toldBackwards 44 = .ok (.invokestatic 54, 3) := by decide +kernel
theorem dX1_toldBackwards_47 : decode cX1_toldBackwards 47 = .ok (.ireturn, 1) := by decide +kernel
def PL_L_toldBackwards_4 : Nat → Int32 → Int32 → LT → Int32 → Int32 → (Int32 → Prop) → Prop
  | 0, _, _, _, _, _, _ => False
  | n + 1, x1, x2, v0, y1, y3, Q => ((y3 < (L_first v0) → P_T_at 8 y1 (L_dropValues v0) (fun r2_ => (Q r2_))) ∧ (¬ y3 < (L_first v0) → P_T_at 200 y3 (L_keys v0) (fun r6_ => (((¬ r6_ = y1 → (fun y1 y3 => PL_L_toldBackwards_4 n x1 x2 v0 y1 y3  Q) y1 (y3 + (-1))) ∧ (r6_ = y1 → P_T_at 200 y3 (L_values v0) (fun r11_ => (Q r11_))))))))
def P_L_toldBackwards (x1 : Int32) (x2 : Int32) (v0 : LT) (Q : Int32 → Prop) : Prop := (∃ n15_, PL_L_toldBackwards_4 n15_ x1 x2 v0 x1 (x2 - 1) Q)
set_option maxRecDepth 100000 in
theorem s_L_toldBackwards {l : Launch} {D : zD} {B : Nat} {sa : Nat → Nat} (hfl : l.stackTraces = false) {z : Nat} {G : zG} {b0 : Nat} {x1 : Int32} {x2 : Int32} {v0 : LT} {Q : Int32 → Prop} (h0 : LA b0 v0 G) (h : P_L_toldBackwards x1 x2 v0 Q) : zSp l D B sa yX1_toldBackwards cX1_toldBackwards 4 (some .int) 1 21 0 0 [.ref b0, .int x1, .int x2] z G (zRi fun r z' G' => z = z' ∧ G = G' ∧ Q r) := by
  unfold P_L_toldBackwards at h
  refine z_ofW (by decide +kernel) hfl [some (.ref b0), some (.int x1), some (.int x2), none] rfl (Nat.le_of_ble_eq_true rfl) (fun p e s m args below meth c O hret hlk hnm => ?_)
  have O : zO p l s m args c D B sa 4 cX1_toldBackwards RX1 := O
  have HL4 : ∀ (n9 : Nat)    (y1 : Int32) (y3 : Int32) (h : PL_L_toldBackwards_4 n9 x1 x2 v0 y1 y3 Q), zT p l e (zrm 1 21 0 0) s m args below meth c (zEnd below D B (zRi fun r z' G' => z = z' ∧ G = G' ∧ Q r) args s 0 0) D B 4 0 0 4 [] [some (.ref b0), some (.int y1), none, some (.int y3)] z G := by
    intro n9   
    induction n9 with
    | zero =>
      intro _ _ h
      exact (h : False).elim
    | succ n ih =>
      intro y1 y3 h
      rw [PL_L_toldBackwards_4] at h
      refine z_iload_n O dX1_toldBackwards_4 rfl rfl ?_
      refine z_aload_n O dX1_toldBackwards_5 rfl rfl ?_
      refine z_get (v := .int (L_first v0)) O wf_RX1_30 dX1_toldBackwards_6 (L_obj h0) rfl ?_
      refine z_icmp_lt (tgt := 39) O dX1_toldBackwards_9 (by decide) (fun c1_ => ?_) (fun c1_ => ?_)
      · have h := h.1 c1_
        refine z_aload_n O dX1_toldBackwards_39 rfl rfl ?_
        refine z_get (v := .ref (b0 + 6)) O wf_RX1_27 dX1_toldBackwards_40 (L_obj h0) rfl ?_
        refine z_iload_n O dX1_toldBackwards_43 rfl rfl ?_
        refine z_callNi (As := [.ref (b0 + 6), .int y1]) (st := []) O (s_T_at hfl (L_dropValues_of h0) h) wy_X5_at wl_RX1_54 dX1_toldBackwards_44 rfl rfl ⟨Nat.le_of_ble_eq_true rfl, Nat.le_of_ble_eq_true rfl⟩ (Nat.le_of_ble_eq_true rfl) ⟨Nat.le_of_ble_eq_true rfl, Nat.le_of_ble_eq_true rfl⟩ (fun r2_ z3_ G4_ hq5_ => ?_)
        obtain ⟨rfl, rfl, h⟩ := hq5_
        exact z_iret O hret hlk dX1_toldBackwards_47 (Nat.le_of_ble_eq_true rfl) (Nat.le_of_ble_eq_true rfl) ⟨_, rfl, rfl, rfl, h⟩
      · have h := h.2 c1_
        refine z_aload_n O dX1_toldBackwards_12 rfl rfl ?_
        refine z_get (v := .ref (b0 + 1)) O wf_RX1_9 dX1_toldBackwards_13 (L_obj h0) rfl ?_
        refine z_iload_n O dX1_toldBackwards_16 rfl rfl ?_
        refine z_callNi (As := [.ref (b0 + 1), .int y3]) (st := []) O (s_T_at hfl (L_keys_of h0) h) wy_X5_at wl_RX1_54 dX1_toldBackwards_17 rfl rfl ⟨Nat.le_of_ble_eq_true rfl, Nat.le_of_ble_eq_true rfl⟩ (Nat.le_of_ble_eq_true rfl) ⟨Nat.le_of_ble_eq_true rfl, Nat.le_of_ble_eq_true rfl⟩ (fun r6_ z7_ G8_ hq9_ => ?_)
        obtain ⟨rfl, rfl, h⟩ := hq9_
        refine z_iload_n O dX1_toldBackwards_20 rfl rfl ?_
        refine z_icmp_ne (tgt := 33) O dX1_toldBackwards_21 (by decide) (fun c10_ => ?_) (fun c10_ => ?_)
        · have h := h.1 c10_
          refine z_iinc (v := (y3 + (-1))) (L' := [some (.ref b0), some (.int y1), none, some (.int (y3 + (-1)))]) O dX1_toldBackwards_33 rfl (by first | rfl | decide) (by decide) rfl ?_
          refine z_goto (tgt := 4) O dX1_toldBackwards_36 (by decide) ?_
          exact z_subL (L' := [some (.ref b0), some (.int y1), none, some (.int (y3 + (-1)))]) (zLe.sub (And.intro rfl (And.intro rfl (And.intro rfl True.intro)))) (ih y1 (y3 + (-1)) h)
        · have h := h.2 c10_
          refine z_aload_n O dX1_toldBackwards_24 rfl rfl ?_
          refine z_get (v := .ref (b0 + 2)) O wf_RX1_15 dX1_toldBackwards_25 (L_obj h0) rfl ?_
          refine z_iload_n O dX1_toldBackwards_28 rfl rfl ?_
          refine z_callNi (As := [.ref (b0 + 2), .int y3]) (st := []) O (s_T_at hfl (L_values_of h0) h) wy_X5_at wl_RX1_54 dX1_toldBackwards_29 rfl rfl ⟨Nat.le_of_ble_eq_true rfl, Nat.le_of_ble_eq_true rfl⟩ (Nat.le_of_ble_eq_true rfl) ⟨Nat.le_of_ble_eq_true rfl, Nat.le_of_ble_eq_true rfl⟩ (fun r11_ z12_ G13_ hq14_ => ?_)
          obtain ⟨rfl, rfl, h⟩ := hq14_
          exact z_iret O hret hlk dX1_toldBackwards_32 (Nat.le_of_ble_eq_true rfl) (Nat.le_of_ble_eq_true rfl) ⟨_, rfl, rfl, rfl, h⟩
  refine z_iload_n O dX1_toldBackwards_0 rfl rfl ?_
  refine z_iconst (v := 1) O dX1_toldBackwards_1 (by decide) ?_
  refine z_isub O dX1_toldBackwards_2 ?_
  refine z_istore_n (L' := [some (.ref b0), some (.int x1), some (.int x2), some (.int (x2 - 1))]) O dX1_toldBackwards_3 rfl (by decide) rfl ?_
  obtain ⟨n15_, h⟩ := h
  exact z_subL (L' := [some (.ref b0), some (.int x1), none, some (.int (x2 - 1))]) (zLe.sub (And.intro rfl (And.intro rfl (And.intro rfl True.intro)))) (HL4 n15_ x1 (x2 - 1) h)

theorem dX3_renew_0 : decode cX3_renew 0 = .ok (.aload_n 0, 1) := by decide +kernel
theorem dX3_renew_1 : decode cX3_renew 1 = .ok (.getfield 12, 3) := by decide +kernel
theorem dX3_renew_4 : decode cX3_renew 4 = .ok (.invokevirtual 32, 3) := by decide +kernel
theorem dX3_renew_7 : decode cX3_renew 7 = .ok (.iconst 0, 1) := by decide +kernel
theorem dX3_renew_8 : decode cX3_renew 8 = .ok (.istore_n 1, 1) := by decide +kernel
theorem dX3_renew_9 : decode cX3_renew 9 = .ok (.iload_n 1, 1) := by decide +kernel
theorem dX3_renew_10 : decode cX3_renew 10 = .ok (.bipush 8, 2) := by decide +kernel
theorem dX3_renew_12 : decode cX3_renew 12 = .ok (.if_icmp .ge 24, 3) := by decide +kernel
theorem dX3_renew_15 : decode cX3_renew 15 = .ok (.aload_n 0, 1) := by decide +kernel
theorem dX3_renew_16 : decode cX3_renew 16 = .ok (.getfield 20, 3) := by decide +kernel
theorem dX3_renew_19 : decode cX3_renew 19 = .ok (.iload_n 1, 1) := by decide +kernel
theorem dX3_renew_20 : decode cX3_renew 20 = .ok (.aaload, 1) := by decide +kernel
theorem dX3_renew_21 : decode cX3_renew 21 = .ok (.astore_n 2, 1) := by decide +kernel
theorem dX3_renew_22 : decode cX3_renew 22 = .ok (.aload_n 2, 1) := by decide +kernel
theorem dX3_renew_23 : decode cX3_renew 23 = .ok (.ifnull 7, 3) := by decide +kernel
theorem dX3_renew_26 : decode cX3_renew 26 = .ok (.aload_n 2, 1) := by decide +kernel
theorem dX3_renew_27 : decode cX3_renew 27 = .ok (.invokevirtual 33, 3) := by decide +kernel
theorem dX3_renew_30 : decode cX3_renew 30 = .ok (.iinc 1 1, 3) := by decide +kernel
theorem dX3_renew_33 : decode cX3_renew 33 = .ok (.goto (-24), 3) := by decide +kernel
theorem dX3_renew_36 : decode cX3_renew 36 = .ok (.getstatic 34, 3) := by decide +kernel
theorem dX3_renew_39 : decode cX3_renew 39 = .ok (.aload_n 0, 1) := by decide +kernel
theorem dX3_renew_40 : decode cX3_renew 40 = .ok (.getfield 24, 3) := by decide +kernel
theorem dX3_renew_43 : decode cX3_renew 43 = .ok (.invokestatic 37, 3) := by decide +kernel
theorem dX3_renew_46 : decode cX3_renew 46 = .ok (.aload_n 0, 1) := by decide +kernel
theorem dX3_renew_47 : decode cX3_renew 47 = .ok (.iconst 0, 1) := by decide +kernel
theorem dX3_renew_48 : decode cX3_renew 48 = .ok (.putfield 41, 3) := by decide +kernel
theorem dX3_renew_51 : decode cX3_renew 51 = .ok (.aload_n 0, 1) := by decide +kernel
theorem dX3_renew_52 : decode cX3_renew 52 = .ok (.iconst 0, 1) := by decide +kernel
theorem dX3_renew_53 : decode cX3_renew 53 = .ok (.putfield 45, 3) := by decide +kernel
theorem dX3_renew_56 : decode cX3_renew 56 = .ok (.aload_n 0, 1) := by decide +kernel
theorem dX3_renew_57 : decode cX3_renew 57 = .ok (.iconst 0, 1) := by decide +kernel
theorem dX3_renew_58 : decode cX3_renew 58 = .ok (.putfield 48, 3) := by decide +kernel
theorem dX3_renew_61 : decode cX3_renew 61 = .ok (.aload_n 0, 1) := by decide +kernel
theorem dX3_renew_62 : decode cX3_renew 62 = .ok (.iconst 0, 1) := by decide +kernel
theorem dX3_renew_63 : decode cX3_renew 63 = .ok (.putfield 51, 3) := by decide +kernel
theorem dX3_renew_66 : decode cX3_renew 66 = .ok (.return_, 1) := by decide +kernel
def PL_S_renew_9 : Nat → Int32 → ST → (ST → Prop) → Prop
  | 0, _, _, _ => False
  | n + 1, y1, v0, Q => ((8 ≤ y1 → P_T_copy 6 6 (zSv 0) (S_settings v0) (fun v18_ => (∀ v23_, v23_ = (S_set_settings v0 v18_) → (∀ v31_, v31_ = (S_set_time v23_ 0) → (∀ v39_, v39_ = (S_set_lostByLength v31_ 0) → (∀ v47_, v47_ = (S_set_lostBySleep v39_ 0) → (∀ v55_, v55_ = (S_set_missed v47_ 0) → (Q v55_)))))))) ∧ (¬ 8 ≤ y1 → vp_in y1 8 ∧ (P_R_renew (S_readers v0 (Int32.toNatClampNeg y1)) (fun v63_ => (∀ v68_, v68_ = (S_seti_readers v0 (Int32.toNatClampNeg y1) v63_) → ((fun y1 v0 => PL_S_renew_9 n  y1 v0  Q) (y1 + 1) v68_))))))
def P_S_renew (v0 : ST) (Q : ST → Prop) : Prop := P_L_renew (S_log v0) (fun v5_ => (∀ v10_, v10_ = (S_set_log v0 v5_) → ((∃ n71_, PL_S_renew_9 n71_ 0 v10_ Q))))
set_option maxRecDepth 100000 in
theorem s_S_renew {l : Launch} {D : zD} {B : Nat} {sa : Nat → Nat} (hfl : l.stackTraces = false) {z : Nat} {G : zG} {b0 : Nat} {v0 : ST} {Q : ST → Prop} (h0 : SA b0 v0 G) (h : P_S_renew v0 Q) : zSp l D B sa yX3_renew cX3_renew 3 none 2 73 0 0 [.ref b0] z G (zRv fun z' G' => z = z' ∧ ∃ w, SA b0 w G' ∧ Fr b0 26 G G' ∧ Q w) := by
  unfold P_S_renew at h
  refine z_ofW (by decide +kernel) hfl [some (.ref b0), none, none] rfl (Nat.le_of_ble_eq_true rfl) (fun p e s m args below meth c O hret hlk hnm => ?_)
  have O : zO p l s m args c D B sa 3 cX3_renew RX3 := O
  have HL9 : ∀ (n9 : Nat)    (y1 : Int32) (v0 : ST) (G9 : zG) (g0 : SA b0 v0 G9) (gF : Fr b0 26 G G9) (h : PL_S_renew_9 n9 y1 v0 Q), zT p l e (zrm 2 73 0 0) s m args below meth c (zEnd below D B (zRv fun z' G' => z = z' ∧ ∃ w, SA b0 w G' ∧ Fr b0 26 G G' ∧ Q w) args s 0 0) D B 3 0 0 9 [] [some (.ref b0), some (.int y1), none] z G9 := by
    intro n9   
    induction n9 with
    | zero =>
      intro _ _ _ _ _ h
      exact (h : False).elim
    | succ n ih =>
      intro y1 v0 G9 g0 gF h
      rw [PL_S_renew_9] at h
      refine z_iload_n O dX3_renew_9 rfl rfl ?_
      refine z_bipush (v := 8) O dX3_renew_10 (by decide) ?_
      refine z_icmp_ge (tgt := 36) O dX3_renew_12 (by decide) (fun c13_ => ?_) (fun c13_ => ?_)
      · have h := h.1 c13_
        refine z_getsN (j := 0) O (by decide) (by decide +kernel) dX3_renew_36 ?_
        refine z_aload_n O dX3_renew_39 rfl rfl ?_
        refine z_get (v := .ref (b0 + 9)) O wf_RX3_24 dX3_renew_40 (S_obj g0) rfl ?_
        refine z_callNv (As := [.ref (sa 0), .ref (b0 + 9)]) (st := []) O (s_T_copy_st (j := 0) hfl (by decide) (S_settings_of g0) h) wy_X5_copy wl_RX3_37 dX3_renew_43 rfl rfl ⟨Nat.le_of_ble_eq_true rfl, Nat.le_of_ble_eq_true rfl⟩ (Nat.le_of_ble_eq_true rfl) ⟨Nat.le_of_ble_eq_true rfl, Nat.le_of_ble_eq_true rfl⟩ (fun z15_ G16_ hq17_ => ?_)
        obtain ⟨rfl, v18_, k19_, f20_, h⟩ := hq17_
        have k21_ := S_put_settings g0 k19_ f20_
        have f22_ : Fr b0 26 G9 G16_ := Fr.mono f20_ (by omega) (by omega)
        obtain ⟨v23_, ev23_⟩ : ∃ w, w = (S_set_settings v0 v18_) := ⟨_, rfl⟩
        have h := h v23_ ev23_
        have k24_ : SA b0 v23_ G16_ := by rw [ev23_]; exact k21_
        have F25_ : Fr b0 26 G G16_ := Fr.trans gF f22_
        refine z_aload_n O dX3_renew_46 rfl rfl ?_
        refine z_iconst (v := 0) O dX3_renew_47 (by decide) ?_
        refine y_put O wp_RX3_41 dX3_renew_48 (S_obj k24_) rfl rfl (fun G26_ hw27_ => ?_)
        have k28_ := S_w_time k24_ hw27_
        have f29_ := hw27_.fr
        have f30_ : Fr b0 26 G16_ G26_ := Fr.mono f29_ (by omega) (by omega)
        obtain ⟨v31_, ev31_⟩ : ∃ w, w = (S_set_time v23_ 0) := ⟨_, rfl⟩
        have h := h v31_ ev31_
        have k32_ : SA b0 v31_ G26_ := by rw [ev31_]; exact k28_
        have F33_ : Fr b0 26 G G26_ := Fr.trans F25_ f30_
        refine z_aload_n O dX3_renew_51 rfl rfl ?_
        refine z_iconst (v := 0) O dX3_renew_52 (by decide) ?_
        refine y_put O wp_RX3_45 dX3_renew_53 (S_obj k32_) rfl rfl (fun G34_ hw35_ => ?_)
        have k36_ := S_w_lostByLength k32_ hw35_
        have f37_ := hw35_.fr
        have f38_ : Fr b0 26 G26_ G34_ := Fr.mono f37_ (by omega) (by omega)
        obtain ⟨v39_, ev39_⟩ : ∃ w, w = (S_set_lostByLength v31_ 0) := ⟨_, rfl⟩
        have h := h v39_ ev39_
        have k40_ : SA b0 v39_ G34_ := by rw [ev39_]; exact k36_
        have F41_ : Fr b0 26 G G34_ := Fr.trans F33_ f38_
        refine z_aload_n O dX3_renew_56 rfl rfl ?_
        refine z_iconst (v := 0) O dX3_renew_57 (by decide) ?_
        refine y_put O wp_RX3_48 dX3_renew_58 (S_obj k40_) rfl rfl (fun G42_ hw43_ => ?_)
        have k44_ := S_w_lostBySleep k40_ hw43_
        have f45_ := hw43_.fr
        have f46_ : Fr b0 26 G34_ G42_ := Fr.mono f45_ (by omega) (by omega)
        obtain ⟨v47_, ev47_⟩ : ∃ w, w = (S_set_lostBySleep v39_ 0) := ⟨_, rfl⟩
        have h := h v47_ ev47_
        have k48_ : SA b0 v47_ G42_ := by rw [ev47_]; exact k44_
        have F49_ : Fr b0 26 G G42_ := Fr.trans F41_ f46_
        refine z_aload_n O dX3_renew_61 rfl rfl ?_
        refine z_iconst (v := 0) O dX3_renew_62 (by decide) ?_
        refine y_put O wp_RX3_51 dX3_renew_63 (S_obj k48_) rfl rfl (fun G50_ hw51_ => ?_)
        have k52_ := S_w_missed k48_ hw51_
        have f53_ := hw51_.fr
        have f54_ : Fr b0 26 G42_ G50_ := Fr.mono f53_ (by omega) (by omega)
        obtain ⟨v55_, ev55_⟩ : ∃ w, w = (S_set_missed v47_ 0) := ⟨_, rfl⟩
        have h := h v55_ ev55_
        have k56_ : SA b0 v55_ G50_ := by rw [ev55_]; exact k52_
        have F57_ : Fr b0 26 G G50_ := Fr.trans F49_ f54_
        exact z_vret O hret hlk dX3_renew_66 (Nat.le_of_ble_eq_true rfl) (Nat.le_of_ble_eq_true rfl) ⟨rfl, rfl, _, k56_, F57_, h⟩
      · have h := h.2 c13_
        refine z_aload_n O dX3_renew_15 rfl rfl ?_
        refine z_get (v := .ref (b0 + 8)) O wf_RX3_20 dX3_renew_16 (S_obj g0) rfl ?_
        refine z_iload_n O dX3_renew_19 rfl rfl ?_
        obtain ⟨q58_, h⟩ := h
        refine z_rald O dX3_renew_20 (S_readers_row g0) q58_ ?_
        refine z_astore_n (L' := [some (.ref b0), some (.int y1), some (.ref (b0 + 10 + 2 * (Int32.toNatClampNeg y1)))]) O dX3_renew_21 rfl (by decide) rfl ?_
        refine z_aload_n O dX3_renew_22 rfl rfl ?_
        refine z_ifnull O dX3_renew_23 ?_
        refine z_aload_n O dX3_renew_26 rfl rfl ?_
        refine z_callVv (As := []) (st := []) O (s_R_renew hfl (S_readers_of g0 (z_lt q58_)) h) wy_X2_renew wl_RX3_33 dX3_renew_27 rfl rfl (R_obj (S_readers_of g0 (z_lt q58_))) ⟨by decide, rfl⟩ ⟨Nat.le_of_ble_eq_true rfl, Nat.le_of_ble_eq_true rfl⟩ (Nat.le_of_ble_eq_true rfl) ⟨Nat.le_of_ble_eq_true rfl, Nat.le_of_ble_eq_true rfl⟩ (fun z60_ G61_ hq62_ => ?_)
        obtain ⟨rfl, v63_, k64_, f65_, h⟩ := hq62_
        have k66_ := S_put_readers g0 (z_lt q58_) k64_ f65_
        have f67_ : Fr b0 26 G9 G61_ := Fr.mono f65_ (by have := (z_lt q58_); omega) (by have := (z_lt q58_); omega)
        obtain ⟨v68_, ev68_⟩ : ∃ w, w = (S_seti_readers v0 (Int32.toNatClampNeg y1) v63_) := ⟨_, rfl⟩
        have h := h v68_ ev68_
        have k69_ : SA b0 v68_ G61_ := by rw [ev68_]; exact k66_
        have F70_ : Fr b0 26 G G61_ := Fr.trans gF f67_
        refine z_iinc (v := (y1 + 1)) (L' := [some (.ref b0), some (.int (y1 + 1)), some (.ref (b0 + 10 + 2 * (Int32.toNatClampNeg y1)))]) O dX3_renew_30 rfl (by first | rfl | decide) (by decide) rfl ?_
        refine z_goto (tgt := 9) O dX3_renew_33 (by decide) ?_
        exact z_subL (L' := [some (.ref b0), some (.int (y1 + 1)), none]) (zLe.sub (And.intro rfl (And.intro rfl True.intro))) (ih (y1 + 1) v68_ G61_ k69_ F70_ h)
  refine z_aload_n O dX3_renew_0 rfl rfl ?_
  refine z_get (v := .ref (b0 + 1)) O wf_RX3_12 dX3_renew_1 (S_obj h0) rfl ?_
  refine z_callVv (As := []) (st := []) O (s_L_renew hfl (S_log_of h0) h) wy_X1_renew wl_RX3_32 dX3_renew_4 rfl rfl (L_obj (S_log_of h0)) ⟨by decide, rfl⟩ ⟨Nat.le_of_ble_eq_true rfl, Nat.le_of_ble_eq_true rfl⟩ (Nat.le_of_ble_eq_true rfl) ⟨Nat.le_of_ble_eq_true rfl, Nat.le_of_ble_eq_true rfl⟩ (fun z2_ G3_ hq4_ => ?_)
  obtain ⟨rfl, v5_, k6_, f7_, h⟩ := hq4_
  have k8_ := S_put_log h0 k6_ f7_
  have f9_ : Fr b0 26 G G3_ := Fr.mono f7_ (by omega) (by omega)
  obtain ⟨v10_, ev10_⟩ : ∃ w, w = (S_set_log v0 v5_) := ⟨_, rfl⟩
  have h := h v10_ ev10_
  have k11_ : SA b0 v10_ G3_ := by rw [ev10_]; exact k8_
  have F12_ : Fr b0 26 G G3_ := Fr.trans Fr.rf f9_
  refine z_iconst (v := 0) O dX3_renew_7 (by decide) ?_
  refine z_istore_n (L' := [some (.ref b0), some (.int 0), none]) O dX3_renew_8 rfl (by decide) rfl ?_
  obtain ⟨n71_, h⟩ := h
  exact z_subL (L' := [some (.ref b0), some (.int 0), none]) (zLe.sub (And.intro rfl (And.intro rfl True.intro))) (HL9 n71_ 0 v10_ G3_ k11_ F12_ h)

theorem dX3_takeOver_0 : decode cX3_takeOver 0 = .ok (.aload_n 1, 1) := by decide +kernel
theorem dX3_takeOver_1 : decode cX3_takeOver 1 = .ok (.ifnonnull 4, 3) := by decide +kernel
theorem dX3_takeOver_4 : decode cX3_takeOver 4 = .ok (.return_, 1) := by decide +kernel
theorem dX3_takeOver_5 : decode cX3_takeOver 5 = .ok (.aload_n 0, 1) := by decide +kernel
theorem dX3_takeOver_6 : decode cX3_takeOver 6 = .ok (.getfield 12, 3) := by decide +kernel
theorem dX3_takeOver_9 : decode cX3_takeOver 9 = .ok (.aload_n 1, 1) := by decide +kernel
theorem dX3_takeOver_10 : decode cX3_takeOver 10 = .ok (.getfield 12, 3) := by decide +kernel
theorem dX3_takeOver_13 : decode cX3_takeOver 13 = .ok (.invokevirtual 54, 3) := by decide +kernel
theorem dX3_takeOver_16 : decode cX3_takeOver 16 = .ok (.iconst 0, 1) := by decide +kernel
theorem dX3_takeOver_17 : decode cX3_takeOver 17 = .ok (.istore_n 2, 1) := by decide +kernel
theorem dX3_takeOver_18 : decode cX3_takeOver 18 = .ok (.iload_n 2, 1) := by decide +kernel
theorem dX3_takeOver_19 : decode cX3_takeOver 19 = .ok (.bipush 8, 2) := by decide +kernel
theorem dX3_takeOver_21 : decode cX3_takeOver 21 = .ok (.if_icmp .ge 39, 3) := by decide +kernel
theorem dX3_takeOver_24 : decode cX3_takeOver 24 = .ok (.aload_n 0, 1) := by decide +kernel
theorem dX3_takeOver_25 : decode cX3_takeOver 25 = .ok (.getfield 20, 3) := by decide +kernel
theorem dX3_takeOver_28 : decode cX3_takeOver 28 = .ok (.iload_n 2, 1) := by decide +kernel
theorem dX3_takeOver_29 : decode cX3_takeOver 29 = .ok (.aaload, 1) := by decide +kernel
theorem dX3_takeOver_30 : decode cX3_takeOver 30 = .ok (.astore_n 3, 1) := by decide +kernel
theorem dX3_takeOver_31 : decode cX3_takeOver 31 = .ok (.aload_n 1, 1) := by decide +kernel
theorem dX3_takeOver_32 : decode cX3_takeOver 32 = .ok (.getfield 20, 3) := by decide +kernel
theorem dX3_takeOver_35 : decode cX3_takeOver 35 = .ok (.iload_n 2, 1) := by decide +kernel
theorem dX3_takeOver_36 : decode cX3_takeOver 36 = .ok (.aaload, 1) := by decide +kernel
theorem dX3_takeOver_37 : decode cX3_takeOver 37 = .ok (.astore 4, 2) := by decide +kernel
theorem dX3_takeOver_39 : decode cX3_takeOver 39 = .ok (.aload_n 3, 1) := by decide +kernel
theorem dX3_takeOver_40 : decode cX3_takeOver 40 = .ok (.ifnull 14, 3) := by decide +kernel
theorem dX3_takeOver_43 : decode cX3_takeOver 43 = .ok (.aload 4, 2) := by decide +kernel
theorem dX3_takeOver_45 : decode cX3_takeOver 45 = .ok (.ifnull 9, 3) := by decide +kernel
theorem dX3_takeOver_48 : decode cX3_takeOver 48 = .ok (.aload_n 3, 1) := by decide +kernel
theorem dX3_takeOver_49 : decode cX3_takeOver 49 = .ok (.aload 4, 2) := by decide +kernel
theorem dX3_takeOver_51 : decode cX3_takeOver 51 = .ok (.invokevirtual 58, 3) := by decide +kernel
theorem dX3_takeOver_54 : decode cX3_takeOver 54 = .ok (.iinc 2 1, 3) := by decide +kernel
theorem dX3_takeOver_57 : decode cX3_takeOver 57 = .ok (.goto (-39), 3) := by decide +kernel
theorem dX3_takeOver_60 : decode cX3_takeOver 60 = .ok (.aload_n 1, 1) := by decide +kernel
theorem dX3_takeOver_61 : decode cX3_takeOver 61 = .ok (.getfield 24, 3) := by decide +kernel
theorem dX3_takeOver_64 : decode cX3_takeOver 64 = .ok (.aload_n 0, 1) := by decide +kernel
theorem dX3_takeOver_65 : decode cX3_takeOver 65 = .ok (.getfield 24, 3) := by decide +kernel
theorem dX3_takeOver_68 : decode cX3_takeOver 68 = .ok (.invokestatic 37, 3) := by decide +kernel
theorem dX3_takeOver_71 : decode cX3_takeOver 71 = .ok (.aload_n 0, 1) := by decide +kernel
theorem dX3_takeOver_72 : decode cX3_takeOver 72 = .ok (.aload_n 1, 1) := by decide +kernel
theorem dX3_takeOver_73 : decode cX3_takeOver 73 = .ok (.getfield 41, 3) := by decide +kernel
theorem dX3_takeOver_76 : decode cX3_takeOver 76 = .ok (.putfield 41, 3) := by decide +kernel
theorem dX3_takeOver_79 : decode cX3_takeOver 79 = .ok (.aload_n 0, 1) := by decide +kernel
theorem dX3_takeOver_80 : decode cX3_takeOver 80 = .ok (.aload_n 1, 1) := by decide +kernel
theorem dX3_takeOver_81 : decode cX3_takeOver 81 = .ok (.getfield 45, 3) := by decide +kernel
theorem dX3_takeOver_84 : decode cX3_takeOver 84 = .ok (.putfield 45, 3) := by decide +kernel
theorem dX3_takeOver_87 : decode cX3_takeOver 87 = .ok (.aload_n 0, 1) := by decide +kernel
theorem dX3_takeOver_88 : decode cX3_takeOver 88 = .ok (.aload_n 1, 1) := by decide +kernel
theorem dX3_takeOver_89 : decode cX3_takeOver 89 = .ok (.getfield 48, 3) := by decide +kernel
theorem dX3_takeOver_92 : decode cX3_takeOver 92 = .ok (.putfield 48, 3) := by decide +kernel
theorem dX3_takeOver_95 : decode cX3_takeOver 95 = .ok (.aload_n 0, 1) := by decide +kernel
theorem dX3_takeOver_96 : decode cX3_takeOver 96 = .ok (.aload_n 1, 1) := by decide +kernel
theorem dX3_takeOver_97 : decode cX3_takeOver 97 = .ok (.getfield 51, 3) := by decide +kernel
theorem dX3_takeOver_100 : decode cX3_takeOver 100 = .ok (.putfield 51, 3) := by decide +kernel
theorem dX3_takeOver_103 : decode cX3_takeOver 103 = .ok (.return_, 1) := by decide +kernel
def PL_S_takeOver_18 : Nat → ST → Int32 → ST → (ST → Prop) → Prop
  | 0, _, _, _, _ => False
  | n + 1, v1, y2, v0, Q => ((8 ≤ y2 → P_T_copy 6 6 (S_settings v1) (S_settings v0) (fun v19_ => (∀ v24_, v24_ = (S_set_settings v0 v19_) → (∀ v33_, v33_ = (S_set_time v24_ (S_time v1)) → (∀ v42_, v42_ = (S_set_lostByLength v33_ (S_lostByLength v1)) → (∀ v51_, v51_ = (S_set_lostBySleep v42_ (S_lostBySleep v1)) → (∀ v60_, v60_ = (S_set_missed v51_ (S_missed v1)) → (Q v60_)))))))) ∧ (¬ 8 ≤ y2 → vp_in y2 8 ∧ (vp_in y2 8 ∧ (P_R_takeOver (S_readers v0 (Int32.toNatClampNeg y2)) (S_readers v1 (Int32.toNatClampNeg y2)) (fun v70_ => (∀ v75_, v75_ = (S_seti_readers v0 (Int32.toNatClampNeg y2) v70_) → ((fun y2 v0 => PL_S_takeOver_18 n v1 y2 v0  Q) (y2 + 1) v75_)))))))
def P_S_takeOver (v0 : ST) (v1 : ST) (Q : ST → Prop) : Prop := P_L_takeOver (S_log v0) (S_log v1) (fun v5_ => (∀ v10_, v10_ = (S_set_log v0 v5_) → ((∃ n79_, PL_S_takeOver_18 n79_ v1 0 v10_ Q))))
set_option maxRecDepth 100000 in
theorem s_S_takeOver {l : Launch} {D : zD} {B : Nat} {sa : Nat → Nat} (hfl : l.stackTraces = false) {z : Nat} {G : zG} {b0 : Nat} {b1 : Nat} {v0 : ST} {v1 : ST} {Q : ST → Prop} (h0 : SA b0 v0 G) (h1 : SA b1 v1 G) (d01 : b0 + 26 ≤ b1 ∨ b1 + 26 ≤ b0) (h : P_S_takeOver v0 v1 Q) : zSp l D B sa yX3_takeOver cX3_takeOver 5 none 3 94 0 0 [.ref b0, .ref b1] z G (zRv fun z' G' => z = z' ∧ ∃ w, SA b0 w G' ∧ Fr b0 26 G G' ∧ Q w) := by
  unfold P_S_takeOver at h
  refine z_ofW (by decide +kernel) hfl [some (.ref b0), some (.ref b1), none, none, none] rfl (Nat.le_of_ble_eq_true rfl) (fun p e s m args below meth c O hret hlk hnm => ?_)
  have O : zO p l s m args c D B sa 5 cX3_takeOver RX3 := O
  have HL18 : ∀ (n9 : Nat)    (y2 : Int32) (v0 : ST) (G9 : zG) (g0 : SA b0 v0 G9) (g1 : SA b1 v1 G9) (gF : Fr b0 26 G G9) (h : PL_S_takeOver_18 n9 v1 y2 v0 Q), zT p l e (zrm 3 94 0 0) s m args below meth c (zEnd below D B (zRv fun z' G' => z = z' ∧ ∃ w, SA b0 w G' ∧ Fr b0 26 G G' ∧ Q w) args s 0 0) D B 5 0 0 18 [] [some (.ref b0), some (.ref b1), some (.int y2), none, none] z G9 := by
    intro n9   
    induction n9 with
    | zero =>
      intro _ _ _ _ _ _ h
      exact (h : False).elim
    | succ n ih =>
      intro y2 v0 G9 g0 g1 gF h
      rw [PL_S_takeOver_18] at h
      refine z_iload_n O dX3_takeOver_18 rfl rfl ?_
      refine z_bipush (v := 8) O dX3_takeOver_19 (by decide) ?_
      refine z_icmp_ge (tgt := 60) O dX3_takeOver_21 (by decide) (fun c14_ => ?_) (fun c14_ => ?_)
      · have h := h.1 c14_
        refine z_aload_n O dX3_takeOver_60 rfl rfl ?_
        refine z_get (v := .ref (b1 + 9)) O wf_RX3_24 dX3_takeOver_61 (S_obj g1) rfl ?_
        refine z_aload_n O dX3_takeOver_64 rfl rfl ?_
        refine z_get (v := .ref (b0 + 9)) O wf_RX3_24 dX3_takeOver_65 (S_obj g0) rfl ?_
        refine z_callNv (As := [.ref (b1 + 9), .ref (b0 + 9)]) (st := []) O (s_T_copy hfl (S_settings_of g1) (S_settings_of g0) (by omega) h) wy_X5_copy wl_RX3_37 dX3_takeOver_68 rfl rfl ⟨Nat.le_of_ble_eq_true rfl, Nat.le_of_ble_eq_true rfl⟩ (Nat.le_of_ble_eq_true rfl) ⟨Nat.le_of_ble_eq_true rfl, Nat.le_of_ble_eq_true rfl⟩ (fun z16_ G17_ hq18_ => ?_)
        obtain ⟨rfl, v19_, k20_, f21_, h⟩ := hq18_
        have k22_ := S_put_settings g0 k20_ f21_
        have f23_ : Fr b0 26 G9 G17_ := Fr.mono f21_ (by omega) (by omega)
        obtain ⟨v24_, ev24_⟩ : ∃ w, w = (S_set_settings v0 v19_) := ⟨_, rfl⟩
        have h := h v24_ ev24_
        have k25_ : SA b0 v24_ G17_ := by rw [ev24_]; exact k22_
        have k26_ := SA.fr g1 f23_ (by omega)
        have F27_ : Fr b0 26 G G17_ := Fr.trans gF f23_
        refine z_aload_n O dX3_takeOver_71 rfl rfl ?_
        refine z_aload_n O dX3_takeOver_72 rfl rfl ?_
        refine z_get (v := .int (S_time v1)) O wf_RX3_41 dX3_takeOver_73 (S_obj k26_) rfl ?_
        refine y_put O wp_RX3_41 dX3_takeOver_76 (S_obj k25_) rfl rfl (fun G28_ hw29_ => ?_)
        have k30_ := S_w_time k25_ hw29_
        have f31_ := hw29_.fr
        have f32_ : Fr b0 26 G17_ G28_ := Fr.mono f31_ (by omega) (by omega)
        obtain ⟨v33_, ev33_⟩ : ∃ w, w = (S_set_time v24_ (S_time v1)) := ⟨_, rfl⟩
        have h := h v33_ ev33_
        have k34_ : SA b0 v33_ G28_ := by rw [ev33_]; exact k30_
        have k35_ := SA.fr k26_ f32_ (by omega)
        have F36_ : Fr b0 26 G G28_ := Fr.trans F27_ f32_
        refine z_aload_n O dX3_takeOver_79 rfl rfl ?_
        refine z_aload_n O dX3_takeOver_80 rfl rfl ?_
        refine z_get (v := .int (S_lostByLength v1)) O wf_RX3_45 dX3_takeOver_81 (S_obj k35_) rfl ?_
        refine y_put O wp_RX3_45 dX3_takeOver_84 (S_obj k34_) rfl rfl (fun G37_ hw38_ => ?_)
        have k39_ := S_w_lostByLength k34_ hw38_
        have f40_ := hw38_.fr
        have f41_ : Fr b0 26 G28_ G37_ := Fr.mono f40_ (by omega) (by omega)
        obtain ⟨v42_, ev42_⟩ : ∃ w, w = (S_set_lostByLength v33_ (S_lostByLength v1)) := ⟨_, rfl⟩
        have h := h v42_ ev42_
        have k43_ : SA b0 v42_ G37_ := by rw [ev42_]; exact k39_
        have k44_ := SA.fr k35_ f41_ (by omega)
        have F45_ : Fr b0 26 G G37_ := Fr.trans F36_ f41_
        refine z_aload_n O dX3_takeOver_87 rfl rfl ?_
        refine z_aload_n O dX3_takeOver_88 rfl rfl ?_
        refine z_get (v := .int (S_lostBySleep v1)) O wf_RX3_48 dX3_takeOver_89 (S_obj k44_) rfl ?_
        refine y_put O wp_RX3_48 dX3_takeOver_92 (S_obj k43_) rfl rfl (fun G46_ hw47_ => ?_)
        have k48_ := S_w_lostBySleep k43_ hw47_
        have f49_ := hw47_.fr
        have f50_ : Fr b0 26 G37_ G46_ := Fr.mono f49_ (by omega) (by omega)
        obtain ⟨v51_, ev51_⟩ : ∃ w, w = (S_set_lostBySleep v42_ (S_lostBySleep v1)) := ⟨_, rfl⟩
        have h := h v51_ ev51_
        have k52_ : SA b0 v51_ G46_ := by rw [ev51_]; exact k48_
        have k53_ := SA.fr k44_ f50_ (by omega)
        have F54_ : Fr b0 26 G G46_ := Fr.trans F45_ f50_
        refine z_aload_n O dX3_takeOver_95 rfl rfl ?_
        refine z_aload_n O dX3_takeOver_96 rfl rfl ?_
        refine z_get (v := .int (S_missed v1)) O wf_RX3_51 dX3_takeOver_97 (S_obj k53_) rfl ?_
        refine y_put O wp_RX3_51 dX3_takeOver_100 (S_obj k52_) rfl rfl (fun G55_ hw56_ => ?_)
        have k57_ := S_w_missed k52_ hw56_
        have f58_ := hw56_.fr
        have f59_ : Fr b0 26 G46_ G55_ := Fr.mono f58_ (by omega) (by omega)
        obtain ⟨v60_, ev60_⟩ : ∃ w, w = (S_set_missed v51_ (S_missed v1)) := ⟨_, rfl⟩
        have h := h v60_ ev60_
        have k61_ : SA b0 v60_ G55_ := by rw [ev60_]; exact k57_
        have k62_ := SA.fr k53_ f59_ (by omega)
        have F63_ : Fr b0 26 G G55_ := Fr.trans F54_ f59_
        exact z_vret O hret hlk dX3_takeOver_103 (Nat.le_of_ble_eq_true rfl) (Nat.le_of_ble_eq_true rfl) ⟨rfl, rfl, _, k61_, F63_, h⟩
      · have h := h.2 c14_
        refine z_aload_n O dX3_takeOver_24 rfl rfl ?_
        refine z_get (v := .ref (b0 + 8)) O wf_RX3_20 dX3_takeOver_25 (S_obj g0) rfl ?_
        refine z_iload_n O dX3_takeOver_28 rfl rfl ?_
        obtain ⟨q64_, h⟩ := h
        refine z_rald O dX3_takeOver_29 (S_readers_row g0) q64_ ?_
        refine z_astore_n (L' := [some (.ref b0), some (.ref b1), some (.int y2), some (.ref (b0 + 10 + 2 * (Int32.toNatClampNeg y2))), none]) O dX3_takeOver_30 rfl (by decide) rfl ?_
        refine z_aload_n O dX3_takeOver_31 rfl rfl ?_
        refine z_get (v := .ref (b1 + 8)) O wf_RX3_20 dX3_takeOver_32 (S_obj g1) rfl ?_
        refine z_iload_n O dX3_takeOver_35 rfl rfl ?_
        obtain ⟨q65_, h⟩ := h
        refine z_rald O dX3_takeOver_36 (S_readers_row g1) q65_ ?_
        refine z_astore (L' := [some (.ref b0), some (.ref b1), some (.int y2), some (.ref (b0 + 10 + 2 * (Int32.toNatClampNeg y2))), some (.ref (b1 + 10 + 2 * (Int32.toNatClampNeg y2)))]) O dX3_takeOver_37 (by decide) rfl ?_
        refine z_aload_n O dX3_takeOver_39 rfl rfl ?_
        refine z_ifnull O dX3_takeOver_40 ?_
        refine z_aload O dX3_takeOver_43 rfl ?_
        refine z_ifnull O dX3_takeOver_45 ?_
        refine z_aload_n O dX3_takeOver_48 rfl rfl ?_
        refine z_aload O dX3_takeOver_49 rfl ?_
        refine z_callVv (As := [.ref (b1 + 10 + 2 * (Int32.toNatClampNeg y2))]) (st := []) O (s_R_takeOver hfl (S_readers_of g0 (z_lt q64_)) (S_readers_of g1 (z_lt q65_)) (by omega) h) wy_X2_takeOver wl_RX3_58 dX3_takeOver_51 rfl rfl (R_obj (S_readers_of g0 (z_lt q64_))) ⟨by decide, rfl⟩ ⟨Nat.le_of_ble_eq_true rfl, Nat.le_of_ble_eq_true rfl⟩ (Nat.le_of_ble_eq_true rfl) ⟨Nat.le_of_ble_eq_true rfl, Nat.le_of_ble_eq_true rfl⟩ (fun z67_ G68_ hq69_ => ?_)
        obtain ⟨rfl, v70_, k71_, f72_, h⟩ := hq69_
        have k73_ := S_put_readers g0 (z_lt q64_) k71_ f72_
        have f74_ : Fr b0 26 G9 G68_ := Fr.mono f72_ (by have := (z_lt q64_); omega) (by have := (z_lt q64_); omega)
        obtain ⟨v75_, ev75_⟩ : ∃ w, w = (S_seti_readers v0 (Int32.toNatClampNeg y2) v70_) := ⟨_, rfl⟩
        have h := h v75_ ev75_
        have k76_ : SA b0 v75_ G68_ := by rw [ev75_]; exact k73_
        have k77_ := SA.fr g1 f74_ (by omega)
        have F78_ : Fr b0 26 G G68_ := Fr.trans gF f74_
        refine z_iinc (v := (y2 + 1)) (L' := [some (.ref b0), some (.ref b1), some (.int (y2 + 1)), some (.ref (b0 + 10 + 2 * (Int32.toNatClampNeg y2))), some (.ref (b1 + 10 + 2 * (Int32.toNatClampNeg y2)))]) O dX3_takeOver_54 rfl (by first | rfl | decide) (by decide) rfl ?_
        refine z_goto (tgt := 18) O dX3_takeOver_57 (by decide) ?_
        exact z_subL (L' := [some (.ref b0), some (.ref b1), some (.int (y2 + 1)), none, none]) (zLe.sub (And.intro rfl (And.intro rfl (And.intro rfl True.intro)))) (ih (y2 + 1) v75_ G68_ k76_ k77_ F78_ h)
  refine z_aload_n O dX3_takeOver_0 rfl rfl ?_
  refine z_ifnonnull (tgt := 5) O dX3_takeOver_1 (by decide) ?_
  refine z_aload_n O dX3_takeOver_5 rfl rfl ?_
  refine z_get (v := .ref (b0 + 1)) O wf_RX3_12 dX3_takeOver_6 (S_obj h0) rfl ?_
  refine z_aload_n O dX3_takeOver_9 rfl rfl ?_
  refine z_get (v := .ref (b1 + 1)) O wf_RX3_12 dX3_takeOver_10 (S_obj h1) rfl ?_
  refine z_callVv (As := [.ref (b1 + 1)]) (st := []) O (s_L_takeOver hfl (S_log_of h0) (S_log_of h1) (by omega) h) wy_X1_takeOver wl_RX3_54 dX3_takeOver_13 rfl rfl (L_obj (S_log_of h0)) ⟨by decide, rfl⟩ ⟨Nat.le_of_ble_eq_true rfl, Nat.le_of_ble_eq_true rfl⟩ (Nat.le_of_ble_eq_true rfl) ⟨Nat.le_of_ble_eq_true rfl, Nat.le_of_ble_eq_true rfl⟩ (fun z2_ G3_ hq4_ => ?_)
  obtain ⟨rfl, v5_, k6_, f7_, h⟩ := hq4_
  have k8_ := S_put_log h0 k6_ f7_
  have f9_ : Fr b0 26 G G3_ := Fr.mono f7_ (by omega) (by omega)
  obtain ⟨v10_, ev10_⟩ : ∃ w, w = (S_set_log v0 v5_) := ⟨_, rfl⟩
  have h := h v10_ ev10_
  have k11_ : SA b0 v10_ G3_ := by rw [ev10_]; exact k8_
  have k12_ := SA.fr h1 f9_ (by omega)
  have F13_ : Fr b0 26 G G3_ := Fr.trans Fr.rf f9_
  refine z_iconst (v := 0) O dX3_takeOver_16 (by decide) ?_
  refine z_istore_n (L' := [some (.ref b0), some (.ref b1), some (.int 0), none, none]) O dX3_takeOver_17 rfl (by decide) rfl ?_
  obtain ⟨n79_, h⟩ := h
  exact z_subL (L' := [some (.ref b0), some (.ref b1), some (.int 0), none, none]) (zLe.sub (And.intro rfl (And.intro rfl (And.intro rfl True.intro)))) (HL18 n79_ 0 v10_ G3_ k11_ k12_ F13_ h)
