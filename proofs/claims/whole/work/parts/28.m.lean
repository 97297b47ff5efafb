theorem dX6_copy_0 : decode cX6_copy 0 = .ok (.iconst 0, 1) := by decide +kernel
theorem dX6_copy_1 : decode cX6_copy 1 = .ok (.istore_n 2, 1) := by decide +kernel
theorem dX6_copy_2 : decode cX6_copy 2 = .ok (.iload_n 2, 1) := by decide +kernel
theorem dX6_copy_3 : decode cX6_copy 3 = .ok (.sipush 621, 3) := by decide +kernel
theorem dX6_copy_6 : decode cX6_copy 6 = .ok (.if_icmp .ge 15, 3) := by decide +kernel
theorem dX6_copy_9 : decode cX6_copy 9 = .ok (.aload_n 1, 1) := by decide +kernel
theorem dX6_copy_10 : decode cX6_copy 10 = .ok (.iload_n 2, 1) := by decide +kernel
theorem dX6_copy_11 : decode cX6_copy 11 = .ok (.aload_n 0, 1) := by decide +kernel
theorem dX6_copy_12 : decode cX6_copy 12 = .ok (.iload_n 2, 1) := by decide +kernel
theorem dX6_copy_13 : decode cX6_copy 13 = .ok (.iaload, 1) := by decide +kernel
theorem dX6_copy_14 : decode cX6_copy 14 = .ok (.iastore, 1) := by decide +kernel
theorem dX6_copy_15 : decode cX6_copy 15 = .ok (.iinc 2 1, 3) := by decide +kernel
theorem dX6_copy_18 : decode cX6_copy 18 = .ok (.goto (-16), 3) := by decide +kernel
theorem dX6_copy_21 : decode cX6_copy 21 = .ok (.return_, 1) := by decide +kernel
def PL_M_copy_2 : Nat → (Nat → Int32) → Int32 → (Nat → Int32) → ((Nat → Int32) → Prop) → Prop
  | 0, _, _, _, _ => False
  | n + 1, v0, y2, v1, Q => ((621 ≤ y2 → Q v1) ∧ (¬ 621 ≤ y2 → vp_in y2 621 ∧ (vp_in y2 621 ∧ (∀ v8_, v8_ = (upd v1 (Int32.toNatClampNeg y2) (v0 (Int32.toNatClampNeg y2))) → ((fun y2 v1 => PL_M_copy_2 n v0 y2 v1  Q) (y2 + 1) v8_)))))
def P_M_copy (v0 : (Nat → Int32)) (v1 : (Nat → Int32)) (Q : (Nat → Int32) → Prop) : Prop := (∃ n12_, PL_M_copy_2 n12_ v0 0 v1 Q)
set_option maxRecDepth 100000 in
theorem s_M_copy {l : Launch} {D : zD} {B : Nat} {sa : Nat → Nat} (hfl : l.stackTraces = false) {z : Nat} {G : zG} {b0 : Nat} {b1 : Nat} {v0 : (Nat → Int32)} {v1 : (Nat → Int32)} {Q : (Nat → Int32) → Prop} (h0 : G b0 = some (zia 621 v0)) (h1 : G b1 = some (zia 621 v1)) (d01 : b0 + 1 ≤ b1 ∨ b1 + 1 ≤ b0) (h : P_M_copy v0 v1 Q) : zSp l D B sa yX6_copy cX6_copy 3 none 0 0 0 0 [.ref b0, .ref b1] z G (zRv fun z' G' => z = z' ∧ ∃ w, G' b1 = some (zia 621 w) ∧ Fr b1 1 G G' ∧ Q w) := by
  unfold P_M_copy at h
  refine z_ofW (by decide +kernel) hfl [some (.ref b0), some (.ref b1), none] rfl (Nat.le_of_ble_eq_true rfl) (fun p e s m args below meth c O hret hlk hnm => ?_)
  have O : zO p l s m args c D B sa 3 cX6_copy RX6 := O
  have HL2 : ∀ (n9 : Nat)    (y2 : Int32) (v1 : (Nat → Int32)) (G9 : zG) (g0 : G9 b0 = some (zia 621 v0)) (g1 : G9 b1 = some (zia 621 v1)) (gF : Fr b1 1 G G9) (h : PL_M_copy_2 n9 v0 y2 v1 Q), zT p l e (zrm 0 0 0 0) s m args below meth c (zEnd below D B (zRv fun z' G' => z = z' ∧ ∃ w, G' b1 = some (zia 621 w) ∧ Fr b1 1 G G' ∧ Q w) args s 0 0) D B 3 0 0 2 [] [some (.ref b0), some (.ref b1), some (.int y2)] z G9 := by
    intro n9   
    induction n9 with
    | zero =>
      intro _ _ _ _ _ _ h
      exact (h : False).elim
    | succ n ih =>
      intro y2 v1 G9 g0 g1 gF h
      rw [PL_M_copy_2] at h
      refine z_iload_n O dX6_copy_2 rfl rfl ?_
      refine z_sipush (v := 621) O dX6_copy_3 (by decide) ?_
      refine z_icmp_ge (tgt := 21) O dX6_copy_6 (by decide) (fun c1_ => ?_) (fun c1_ => ?_)
      · have h := h.1 c1_
        exact z_vret O hret hlk dX6_copy_21 (Nat.le_of_ble_eq_true rfl) (Nat.le_of_ble_eq_true rfl) ⟨rfl, rfl, _, g1, gF, h⟩
      · have h := h.2 c1_
        refine z_aload_n O dX6_copy_9 rfl rfl ?_
        refine z_iload_n O dX6_copy_10 rfl rfl ?_
        refine z_aload_n O dX6_copy_11 rfl rfl ?_
        refine z_iload_n O dX6_copy_12 rfl rfl ?_
        obtain ⟨q2_, h⟩ := h
        refine z_iald O dX6_copy_13 g0 q2_ ?_
        obtain ⟨q3_, h⟩ := h
        refine y_iast O dX6_copy_14 g1 q3_ (fun G4_ hw5_ => ?_)
        have k6_ := hw5_.1
        have f7_ := hw5_.fr
        obtain ⟨v8_, ev8_⟩ : ∃ w, w = (upd v1 (Int32.toNatClampNeg y2) (v0 (Int32.toNatClampNeg y2))) := ⟨_, rfl⟩
        have h := h v8_ ev8_
        have k9_ : G4_ b1 = some (zia 621 v8_) := by rw [ev8_]; exact k6_
        have k10_ := Fr.one (N := 0) g0 f7_ (by omega)
        have F11_ : Fr b1 1 G G4_ := Fr.trans gF f7_
        refine z_iinc (v := (y2 + 1)) (L' := [some (.ref b0), some (.ref b1), some (.int (y2 + 1))]) O dX6_copy_15 rfl (by first | rfl | decide) (by decide) rfl ?_
        refine z_goto (tgt := 2) O dX6_copy_18 (by decide) ?_
        exact z_subL (L' := [some (.ref b0), some (.ref b1), some (.int (y2 + 1))]) (zLe.sub (And.intro rfl (And.intro rfl (And.intro rfl True.intro)))) (ih (y2 + 1) v8_ G4_ k10_ k9_ F11_ h)
  refine z_iconst (v := 0) O dX6_copy_0 (by decide) ?_
  refine z_istore_n (L' := [some (.ref b0), some (.ref b1), some (.int 0)]) O dX6_copy_1 rfl (by decide) rfl ?_
  obtain ⟨n12_, h⟩ := h
  exact z_subL (L' := [some (.ref b0), some (.ref b1), some (.int 0)]) (zLe.sub (And.intro rfl (And.intro rfl (And.intro rfl True.intro)))) (HL2 n12_ 0 v1 G h0 h1 Fr.rf h)

theorem dX6_isName_0 : decode cX6_isName 0 = .ok (.iload_n 0, 1) := by decide +kernel
theorem dX6_isName_1 : decode cX6_isName 1 = .ok (.i2l, 1) := by decide +kernel
theorem dX6_isName_2 : decode cX6_isName 2 = .ok (.lconst 0, 1) := by decide +kernel
theorem dX6_isName_3 : decode cX6_isName 3 = .ok (.ldc2_w 42, 3) := by decide +kernel
theorem dX6_isName_6 : decode cX6_isName 6 = .ok (.invokestatic 44, 3) := by decide +kernel
theorem dX6_isName_9 : decode cX6_isName 9 = .ok (.ireturn, 1) := by decide +kernel
def P_M_isName (x1 : Int32) (Q : Int32 → Prop) : Prop := P_M_in (Int32.toInt64 x1) 0 7 (fun r1_ => (zb r1_ ∧ Q r1_))
set_option maxRecDepth 100000 in
theorem s_M_isName {l : Launch} {D : zD} {B : Nat} {sa : Nat → Nat} (hfl : l.stackTraces = false) {z : Nat} {G : zG} {x1 : Int32} {Q : Int32 → Prop}  (h : P_M_isName x1 Q) : zSp l D B sa yX6_isName cX6_isName 1 (some .boolean) 1 25 0 0 [.int x1] z G (zRi fun r z' G' => z = z' ∧ G = G' ∧ Q r) := by
  unfold P_M_isName at h
  refine z_ofW (by decide +kernel) hfl [some (.int x1)] rfl (Nat.le_of_ble_eq_true rfl) (fun p e s m args below meth c O hret hlk hnm => ?_)
  have O : zO p l s m args c D B sa 1 cX6_isName RX6 := O
  refine z_iload_n O dX6_isName_0 rfl rfl ?_
  refine z_i2l O dX6_isName_1 ?_
  refine z_lconst (v := 0) O dX6_isName_2 (by decide) ?_
  refine z_ldc2 (v := 7) O wc_RX6_42 dX6_isName_3 ?_
  refine z_callSi (As := [.long (Int32.toInt64 x1), .long 0, .long 7]) (st := []) O (s_M_in hfl h) wy_X6_in wl_RX6_44 dX6_isName_6 rfl rfl ⟨Nat.le_of_ble_eq_true rfl, Nat.le_of_ble_eq_true rfl⟩ (Nat.le_of_ble_eq_true rfl) ⟨Nat.le_of_ble_eq_true rfl, Nat.le_of_ble_eq_true rfl⟩ (fun r1_ z2_ G3_ hq4_ => ?_)
  obtain ⟨rfl, rfl, h⟩ := hq4_
  obtain ⟨hz, h⟩ := h
  exact z_zret O hret (z_narb hz) hlk dX6_isName_9 (Nat.le_of_ble_eq_true rfl) (Nat.le_of_ble_eq_true rfl) ⟨_, rfl, rfl, rfl, h⟩

theorem dX6_isKey_0 : decode cX6_isKey 0 = .ok (.iload_n 0, 1) := by decide +kernel
theorem dX6_isKey_1 : decode cX6_isKey 1 = .ok (.i2l, 1) := by decide +kernel
theorem dX6_isKey_2 : decode cX6_isKey 2 = .ok (.lconst 0, 1) := by decide +kernel
theorem dX6_isKey_3 : decode cX6_isKey 3 = .ok (.ldc2_w 42, 3) := by decide +kernel
theorem dX6_isKey_6 : decode cX6_isKey 6 = .ok (.invokestatic 44, 3) := by decide +kernel
theorem dX6_isKey_9 : decode cX6_isKey 9 = .ok (.ireturn, 1) := by decide +kernel
def P_M_isKey (x1 : Int32) (Q : Int32 → Prop) : Prop := P_M_in (Int32.toInt64 x1) 0 7 (fun r1_ => (zb r1_ ∧ Q r1_))
set_option maxRecDepth 100000 in
theorem s_M_isKey {l : Launch} {D : zD} {B : Nat} {sa : Nat → Nat} (hfl : l.stackTraces = false) {z : Nat} {G : zG} {x1 : Int32} {Q : Int32 → Prop}  (h : P_M_isKey x1 Q) : zSp l D B sa yX6_isKey cX6_isKey 1 (some .boolean) 1 25 0 0 [.int x1] z G (zRi fun r z' G' => z = z' ∧ G = G' ∧ Q r) := by
  unfold P_M_isKey at h
  refine z_ofW (by decide +kernel) hfl [some (.int x1)] rfl (Nat.le_of_ble_eq_true rfl) (fun p e s m args below meth c O hret hlk hnm => ?_)
  have O : zO p l s m args c D B sa 1 cX6_isKey RX6 := O
  refine z_iload_n O dX6_isKey_0 rfl rfl ?_
  refine z_i2l O dX6_isKey_1 ?_
  refine z_lconst (v := 0) O dX6_isKey_2 (by decide) ?_
  refine z_ldc2 (v := 7) O wc_RX6_42 dX6_isKey_3 ?_
  refine z_callSi (As := [.long (Int32.toInt64 x1), .long 0, .long 7]) (st := []) O (s_M_in hfl h) wy_X6_in wl_RX6_44 dX6_isKey_6 rfl rfl ⟨Nat.le_of_ble_eq_true rfl, Nat.le_of_ble_eq_true rfl⟩ (Nat.le_of_ble_eq_true rfl) ⟨Nat.le_of_ble_eq_true rfl, Nat.le_of_ble_eq_true rfl⟩ (fun r1_ z2_ G3_ hq4_ => ?_)
  obtain ⟨rfl, rfl, h⟩ := hq4_
  obtain ⟨hz, h⟩ := h
  exact z_zret O hret (z_narb hz) hlk dX6_isKey_9 (Nat.le_of_ble_eq_true rfl) (Nat.le_of_ble_eq_true rfl) ⟨_, rfl, rfl, rfl, h⟩

theorem dX6_isRow_0 : decode cX6_isRow 0 = .ok (.iload_n 0, 1) := by decide +kernel
theorem dX6_isRow_1 : decode cX6_isRow 1 = .ok (.invokestatic 48, 3) := by decide +kernel
theorem dX6_isRow_4 : decode cX6_isRow 4 = .ok (.ifCond .eq 31, 3) := by decide +kernel
theorem dX6_isRow_7 : decode cX6_isRow 7 = .ok (.iload_n 1, 1) := by decide +kernel
theorem dX6_isRow_8 : decode cX6_isRow 8 = .ok (.i2l, 1) := by decide +kernel
theorem dX6_isRow_9 : decode cX6_isRow 9 = .ok (.lconst 0, 1) := by decide +kernel
theorem dX6_isRow_10 : decode cX6_isRow 10 = .ok (.ldc2_w 52, 3) := by decide +kernel
theorem dX6_isRow_13 : decode cX6_isRow 13 = .ok (.invokestatic 44, 3) := by decide +kernel
theorem dX6_isRow_16 : decode cX6_isRow 16 = .ok (.ifCond .eq 19, 3) := by decide +kernel
theorem dX6_isRow_19 : decode cX6_isRow 19 = .ok (.iload_n 2, 1) := by decide +kernel
theorem dX6_isRow_20 : decode cX6_isRow 20 = .ok (.i2l, 1) := by decide +kernel
theorem dX6_isRow_21 : decode cX6_isRow 21 = .ok (.lconst 1, 1) := by decide +kernel
theorem dX6_isRow_22 : decode cX6_isRow 22 = .ok (.ldc2_w 54, 3) := by decide +kernel
theorem dX6_isRow_25 : decode cX6_isRow 25 = .ok (.invokestatic 44, 3) := by decide +kernel
theorem dX6_isRow_28 : decode cX6_isRow 28 = .ok (.ifCond .eq 7, 3) := by decide +kernel
theorem dX6_isRow_31 : decode cX6_isRow 31 = .ok (.iconst 1, 1) := by decide +kernel
theorem dX6_isRow_32 : decode cX6_isRow 32 = .ok (.goto 4, 3) := by decide +kernel
theorem dX6_isRow_35 : decode cX6_isRow 35 = .ok (.iconst 0, 1) := by decide +kernel
theorem dX6_isRow_36 : decode cX6_isRow 36 = .ok (.ireturn, 1) := by decide +kernel
def P_M_isRow (x1 : Int32) (x2 : Int32) (x3 : Int32) (Q : Int32 → Prop) : Prop := P_M_isKey x1 (fun r1_ => (((r1_ = 0 → Q 0) ∧ (¬ r1_ = 0 → P_M_in (Int32.toInt64 x2) 0 99 (fun r6_ => (((r6_ = 0 → Q 0) ∧ (¬ r6_ = 0 → P_M_in (Int32.toInt64 x3) 1 40 (fun r11_ => (((r11_ = 0 → Q 0) ∧ (¬ r11_ = 0 → Q 1))))))))))))
set_option maxRecDepth 100000 in
theorem s_M_isRow {l : Launch} {D : zD} {B : Nat} {sa : Nat → Nat} (hfl : l.stackTraces = false) {z : Nat} {G : zG} {x1 : Int32} {x2 : Int32} {x3 : Int32} {Q : Int32 → Prop}  (h : P_M_isRow x1 x2 x3 Q) : zSp l D B sa yX6_isRow cX6_isRow 3 (some .boolean) 2 45 0 0 [.int x1, .int x2, .int x3] z G (zRi fun r z' G' => z = z' ∧ G = G' ∧ Q r) := by
  unfold P_M_isRow at h
  refine z_ofW (by decide +kernel) hfl [some (.int x1), some (.int x2), some (.int x3)] rfl (Nat.le_of_ble_eq_true rfl) (fun p e s m args below meth c O hret hlk hnm => ?_)
  have O : zO p l s m args c D B sa 3 cX6_isRow RX6 := O
  refine z_iload_n O dX6_isRow_0 rfl rfl ?_
  refine z_callSi (As := [.int x1]) (st := []) O (s_M_isKey hfl h) wy_X6_isKey wl_RX6_48 dX6_isRow_1 rfl rfl ⟨Nat.le_of_ble_eq_true rfl, Nat.le_of_ble_eq_true rfl⟩ (Nat.le_of_ble_eq_true rfl) ⟨Nat.le_of_ble_eq_true rfl, Nat.le_of_ble_eq_true rfl⟩ (fun r1_ z2_ G3_ hq4_ => ?_)
  obtain ⟨rfl, rfl, h⟩ := hq4_
  refine z_if_eq (tgt := 35) O dX6_isRow_4 (by decide) (fun c5_ => ?_) (fun c5_ => ?_)
  · have h := h.1 c5_
    refine z_iconst (v := 0) O dX6_isRow_35 (by decide) ?_
    exact z_zret O hret rfl hlk dX6_isRow_36 (Nat.le_of_ble_eq_true rfl) (Nat.le_of_ble_eq_true rfl) ⟨_, rfl, rfl, rfl, h⟩
  · have h := h.2 c5_
    refine z_iload_n O dX6_isRow_7 rfl rfl ?_
    refine z_i2l O dX6_isRow_8 ?_
    refine z_lconst (v := 0) O dX6_isRow_9 (by decide) ?_
    refine z_ldc2 (v := 99) O wc_RX6_52 dX6_isRow_10 ?_
    refine z_callSi (As := [.long (Int32.toInt64 x2), .long 0, .long 99]) (st := []) O (s_M_in hfl h) wy_X6_in wl_RX6_44 dX6_isRow_13 rfl rfl ⟨Nat.le_of_ble_eq_true rfl, Nat.le_of_ble_eq_true rfl⟩ (Nat.le_of_ble_eq_true rfl) ⟨Nat.le_of_ble_eq_true rfl, Nat.le_of_ble_eq_true rfl⟩ (fun r6_ z7_ G8_ hq9_ => ?_)
    obtain ⟨rfl, rfl, h⟩ := hq9_
    refine z_if_eq (tgt := 35) O dX6_isRow_16 (by decide) (fun c10_ => ?_) (fun c10_ => ?_)
    · have h := h.1 c10_
      refine z_iconst (v := 0) O dX6_isRow_35 (by decide) ?_
      exact z_zret O hret rfl hlk dX6_isRow_36 (Nat.le_of_ble_eq_true rfl) (Nat.le_of_ble_eq_true rfl) ⟨_, rfl, rfl, rfl, h⟩
    · have h := h.2 c10_
      refine z_iload_n O dX6_isRow_19 rfl rfl ?_
      refine z_i2l O dX6_isRow_20 ?_
      refine z_lconst (v := 1) O dX6_isRow_21 (by decide) ?_
      refine z_ldc2 (v := 40) O wc_RX6_54 dX6_isRow_22 ?_
      refine z_callSi (As := [.long (Int32.toInt64 x3), .long 1, .long 40]) (st := []) O (s_M_in hfl h) wy_X6_in wl_RX6_44 dX6_isRow_25 rfl rfl ⟨Nat.le_of_ble_eq_true rfl, Nat.le_of_ble_eq_true rfl⟩ (Nat.le_of_ble_eq_true rfl) ⟨Nat.le_of_ble_eq_true rfl, Nat.le_of_ble_eq_true rfl⟩ (fun r11_ z12_ G13_ hq14_ => ?_)
      obtain ⟨rfl, rfl, h⟩ := hq14_
      refine z_if_eq (tgt := 35) O dX6_isRow_28 (by decide) (fun c15_ => ?_) (fun c15_ => ?_)
      · have h := h.1 c15_
        refine z_iconst (v := 0) O dX6_isRow_35 (by decide) ?_
        exact z_zret O hret rfl hlk dX6_isRow_36 (Nat.le_of_ble_eq_true rfl) (Nat.le_of_ble_eq_true rfl) ⟨_, rfl, rfl, rfl, h⟩
      · have h := h.2 c15_
        refine z_iconst (v := 1) O dX6_isRow_31 (by decide) ?_
        refine z_goto (tgt := 36) O dX6_isRow_32 (by decide) ?_
        exact z_zret O hret rfl hlk dX6_isRow_36 (Nat.le_of_ble_eq_true rfl) (Nat.le_of_ble_eq_true rfl) ⟨_, rfl, rfl, rfl, h⟩

theorem dX6_isSetting_0 : decode cX6_isSetting 0 = .ok (.iload_n 0, 1) := by decide +kernel
theorem dX6_isSetting_1 : decode cX6_isSetting 1 = .ok (.tableswitch 87 0 4 #[35, 45, 57, 67, 77], 35) := by decide +kernel
theorem dX6_isSetting_36 : decode cX6_isSetting 36 = .ok (.iload_n 1, 1) := by decide +kernel
theorem dX6_isSetting_37 : decode cX6_isSetting 37 = .ok (.i2l, 1) := by decide +kernel
theorem dX6_isSetting_38 : decode cX6_isSetting 38 = .ok (.lconst 1, 1) := by decide +kernel
theorem dX6_isSetting_39 : decode cX6_isSetting 39 = .ok (.ldc2_w 56, 3) := by decide +kernel
theorem dX6_isSetting_42 : decode cX6_isSetting 42 = .ok (.invokestatic 44, 3) := by decide +kernel
theorem dX6_isSetting_45 : decode cX6_isSetting 45 = .ok (.ireturn, 1) := by decide +kernel
theorem dX6_isSetting_46 : decode cX6_isSetting 46 = .ok (.iload_n 1, 1) := by decide +kernel
theorem dX6_isSetting_47 : decode cX6_isSetting 47 = .ok (.i2l, 1) := by decide +kernel
theorem dX6_isSetting_48 : decode cX6_isSetting 48 = .ok (.ldc2_w 54, 3) := by decide +kernel
theorem dX6_isSetting_51 : decode cX6_isSetting 51 = .ok (.ldc2_w 58, 3) := by decide +kernel
theorem dX6_isSetting_54 : decode cX6_isSetting 54 = .ok (.invokestatic 44, 3) := by decide +kernel
theorem dX6_isSetting_57 : decode cX6_isSetting 57 = .ok (.ireturn, 1) := by decide +kernel
theorem dX6_isSetting_58 : decode cX6_isSetting 58 = .ok (.iload_n 1, 1) := by decide +kernel
theorem dX6_isSetting_59 : decode cX6_isSetting 59 = .ok (.i2l, 1) := by decide +kernel
theorem dX6_isSetting_60 : decode cX6_isSetting 60 = .ok (.lconst 0, 1) := by decide +kernel
theorem dX6_isSetting_61 : decode cX6_isSetting 61 = .ok (.ldc2_w 52, 3) := by decide +kernel
theorem dX6_isSetting_64 : decode cX6_isSetting 64 = .ok (.invokestatic 44, 3) := by decide +kernel
theorem dX6_isSetting_67 : decode cX6_isSetting 67 = .ok (.ireturn, 1) := by decide +kernel
theorem dX6_isSetting_68 : decode cX6_isSetting 68 = .ok (.iload_n 1, 1) := by decide +kernel
theorem dX6_isSetting_69 : decode cX6_isSetting 69 = .ok (.i2l, 1) := by decide +kernel
theorem dX6_isSetting_70 : decode cX6_isSetting 70 = .ok (.lconst 0, 1) := by decide +kernel
theorem dX6_isSetting_71 : decode cX6_isSetting 71 = .ok (.ldc2_w 60, 3) := by decide +kernel
theorem dX6_isSetting_74 : decode cX6_isSetting 74 = .ok (.invokestatic 44, 3) := by decide +kernel
theorem dX6_isSetting_77 : decode cX6_isSetting 77 = .ok (.ireturn, 1) := by decide +kernel
theorem dX6_isSetting_78 : decode cX6_isSetting 78 = .ok (.iload_n 1, 1) := by decide +kernel
theorem dX6_isSetting_79 : decode cX6_isSetting 79 = .ok (.i2l, 1) := by decide +kernel
theorem dX6_isSetting_80 : decode cX6_isSetting 80 = .ok (.lconst 0, 1) := by decide +kernel
theorem dX6_isSetting_81 : decode cX6_isSetting 81 = .ok (.ldc2_w 60, 3) := by decide +kernel
theorem dX6_isSetting_84 : decode cX6_isSetting 84 = .ok (.invokestatic 44, 3) := by decide +kernel
theorem dX6_isSetting_87 : decode cX6_isSetting 87 = .ok (.ireturn, 1) := by decide +kernel
theorem dX6_isSetting_88 : decode cX6_isSetting 88 = .ok (.iload_n 0, 1) := by decide +kernel
theorem dX6_isSetting_89 : decode cX6_isSetting 89 = .ok (.iconst 5, 1) := by decide +kernel
theorem dX6_isSetting_90 : decode cX6_isSetting 90 = .ok (.if_icmp .ne 19, 3) := by decide +kernel
theorem dX6_isSetting_93 : decode cX6_isSetting 93 = .ok (.iload_n 1, 1) := by decide +kernel
theorem dX6_isSetting_94 : decode cX6_isSetting 94 = .ok (.i2l, 1) := by decide +kernel
theorem dX6_isSetting_95 : decode cX6_isSetting 95 = .ok (.lconst 0, 1) := by decide +kernel
theorem dX6_isSetting_96 : decode cX6_isSetting 96 = .ok (.ldc2_w 52, 3) := by decide +kernel
theorem dX6_isSetting_99 : decode cX6_isSetting 99 = .ok (.invokestatic 44, 3) := by decide +kernel
theorem dX6_isSetting_102 : decode cX6_isSetting 102 = .ok (.ifCond .eq 7, 3) := by decide +kernel
theorem dX6_isSetting_105 : decode cX6_isSetting 105 = .ok (.iconst 1, 1) := by decide +kernel
theorem dX6_isSetting_106 : decode cX6_isSetting 106 = .ok (.goto 4, 3) := by decide +kernel
theorem dX6_isSetting_109 : decode cX6_isSetting 109 = .ok (.iconst 0, 1) := by decide +kernel
theorem dX6_isSetting_110 : decode cX6_isSetting 110 = .ok (.ireturn, 1) := by decide +kernel
def P_M_isSetting (x1 : Int32) (x2 : Int32) (Q : Int32 → Prop) : Prop := ((x1 = 0 → P_M_in (Int32.toInt64 x2) 1 8 (fun r2_ => (zb r2_ ∧ Q r2_))) ∧ (¬ x1 = 0 → ((x1 = 1 → P_M_in (Int32.toInt64 x2) 40 200 (fun r7_ => (zb r7_ ∧ Q r7_))) ∧ (¬ x1 = 1 → ((x1 = 2 → P_M_in (Int32.toInt64 x2) 0 99 (fun r12_ => (zb r12_ ∧ Q r12_))) ∧ (¬ x1 = 2 → ((x1 = 3 → P_M_in (Int32.toInt64 x2) 0 4000 (fun r17_ => (zb r17_ ∧ Q r17_))) ∧ (¬ x1 = 3 → ((x1 = 4 → P_M_in (Int32.toInt64 x2) 0 4000 (fun r22_ => (zb r22_ ∧ Q r22_))) ∧ (¬ x1 = 4 → ((¬ x1 = 5 → Q 0) ∧ (x1 = 5 → P_M_in (Int32.toInt64 x2) 0 99 (fun r27_ => (((r27_ = 0 → Q 0) ∧ (¬ r27_ = 0 → Q 1))))))))))))))))
set_option maxRecDepth 100000 in
theorem s_M_isSetting {l : Launch} {D : zD} {B : Nat} {sa : Nat → Nat} (hfl : l.stackTraces = false) {z : Nat} {G : zG} {x1 : Int32} {x2 : Int32} {Q : Int32 → Prop}  (h : P_M_isSetting x1 x2 Q) : zSp l D B sa yX6_isSetting cX6_isSetting 2 (some .boolean) 1 25 0 0 [.int x1, .int x2] z G (zRi fun r z' G' => z = z' ∧ G = G' ∧ Q r) := by
  unfold P_M_isSetting at h
  refine z_ofW (by decide +kernel) hfl [some (.int x1), some (.int x2)] rfl (Nat.le_of_ble_eq_true rfl) (fun p e s m args below meth c O hret hlk hnm => ?_)
  have O : zO p l s m args c D B sa 2 cX6_isSetting RX6 := O
  refine z_iload_n O dX6_isSetting_0 rfl rfl ?_
  rcases Decidable.em (x1 = 0) with c1_ | c1_
  · have h := h.1 c1_
    refine z_tsw (v := 0) (tgt := 36) O dX6_isSetting_1 c1_ (by decide) (by decide) rfl (by decide) ?_
    refine z_iload_n O dX6_isSetting_36 rfl rfl ?_
    refine z_i2l O dX6_isSetting_37 ?_
    refine z_lconst (v := 1) O dX6_isSetting_38 (by decide) ?_
    refine z_ldc2 (v := 8) O wc_RX6_56 dX6_isSetting_39 ?_
    refine z_callSi (As := [.long (Int32.toInt64 x2), .long 1, .long 8]) (st := []) O (s_M_in hfl h) wy_X6_in wl_RX6_44 dX6_isSetting_42 rfl rfl ⟨Nat.le_of_ble_eq_true rfl, Nat.le_of_ble_eq_true rfl⟩ (Nat.le_of_ble_eq_true rfl) ⟨Nat.le_of_ble_eq_true rfl, Nat.le_of_ble_eq_true rfl⟩ (fun r2_ z3_ G4_ hq5_ => ?_)
    obtain ⟨rfl, rfl, h⟩ := hq5_
    obtain ⟨hz, h⟩ := h
    exact z_zret O hret (z_narb hz) hlk dX6_isSetting_45 (Nat.le_of_ble_eq_true rfl) (Nat.le_of_ble_eq_true rfl) ⟨_, rfl, rfl, rfl, h⟩
  · have h := h.2 c1_
    rcases Decidable.em (x1 = 1) with c6_ | c6_
    · have h := h.1 c6_
      refine z_tsw (v := 1) (tgt := 46) O dX6_isSetting_1 c6_ (by decide) (by decide) rfl (by decide) ?_
      refine z_iload_n O dX6_isSetting_46 rfl rfl ?_
      refine z_i2l O dX6_isSetting_47 ?_
      refine z_ldc2 (v := 40) O wc_RX6_54 dX6_isSetting_48 ?_
      refine z_ldc2 (v := 200) O wc_RX6_58 dX6_isSetting_51 ?_
      refine z_callSi (As := [.long (Int32.toInt64 x2), .long 40, .long 200]) (st := []) O (s_M_in hfl h) wy_X6_in wl_RX6_44 dX6_isSetting_54 rfl rfl ⟨Nat.le_of_ble_eq_true rfl, Nat.le_of_ble_eq_true rfl⟩ (Nat.le_of_ble_eq_true rfl) ⟨Nat.le_of_ble_eq_true rfl, Nat.le_of_ble_eq_true rfl⟩ (fun r7_ z8_ G9_ hq10_ => ?_)
      obtain ⟨rfl, rfl, h⟩ := hq10_
      obtain ⟨hz, h⟩ := h
      exact z_zret O hret (z_narb hz) hlk dX6_isSetting_57 (Nat.le_of_ble_eq_true rfl) (Nat.le_of_ble_eq_true rfl) ⟨_, rfl, rfl, rfl, h⟩
    · have h := h.2 c6_
      rcases Decidable.em (x1 = 2) with c11_ | c11_
      · have h := h.1 c11_
        refine z_tsw (v := 2) (tgt := 58) O dX6_isSetting_1 c11_ (by decide) (by decide) rfl (by decide) ?_
        refine z_iload_n O dX6_isSetting_58 rfl rfl ?_
        refine z_i2l O dX6_isSetting_59 ?_
        refine z_lconst (v := 0) O dX6_isSetting_60 (by decide) ?_
        refine z_ldc2 (v := 99) O wc_RX6_52 dX6_isSetting_61 ?_
        refine z_callSi (As := [.long (Int32.toInt64 x2), .long 0, .long 99]) (st := []) O (s_M_in hfl h) wy_X6_in wl_RX6_44 dX6_isSetting_64 rfl rfl ⟨Nat.le_of_ble_eq_true rfl, Nat.le_of_ble_eq_true rfl⟩ (Nat.le_of_ble_eq_true rfl) ⟨Nat.le_of_ble_eq_true rfl, Nat.le_of_ble_eq_true rfl⟩ (fun r12_ z13_ G14_ hq15_ => ?_)
        obtain ⟨rfl, rfl, h⟩ := hq15_
        obtain ⟨hz, h⟩ := h
        exact z_zret O hret (z_narb hz) hlk dX6_isSetting_67 (Nat.le_of_ble_eq_true rfl) (Nat.le_of_ble_eq_true rfl) ⟨_, rfl, rfl, rfl, h⟩
      · have h := h.2 c11_
        rcases Decidable.em (x1 = 3) with c16_ | c16_
        · have h := h.1 c16_
          refine z_tsw (v := 3) (tgt := 68) O dX6_isSetting_1 c16_ (by decide) (by decide) rfl (by decide) ?_
          refine z_iload_n O dX6_isSetting_68 rfl rfl ?_
          refine z_i2l O dX6_isSetting_69 ?_
          refine z_lconst (v := 0) O dX6_isSetting_70 (by decide) ?_
          refine z_ldc2 (v := 4000) O wc_RX6_60 dX6_isSetting_71 ?_
          refine z_callSi (As := [.long (Int32.toInt64 x2), .long 0, .long 4000]) (st := []) O (s_M_in hfl h) wy_X6_in wl_RX6_44 dX6_isSetting_74 rfl rfl ⟨Nat.le_of_ble_eq_true rfl, Nat.le_of_ble_eq_true rfl⟩ (Nat.le_of_ble_eq_true rfl) ⟨Nat.le_of_ble_eq_true rfl, Nat.le_of_ble_eq_true rfl⟩ (fun r17_ z18_ G19_ hq20_ => ?_)
          obtain ⟨rfl, rfl, h⟩ := hq20_
          obtain ⟨hz, h⟩ := h
          exact z_zret O hret (z_narb hz) hlk dX6_isSetting_77 (Nat.le_of_ble_eq_true rfl) (Nat.le_of_ble_eq_true rfl) ⟨_, rfl, rfl, rfl, h⟩
        · have h := h.2 c16_
          rcases Decidable.em (x1 = 4) with c21_ | c21_
          · have h := h.1 c21_
            refine z_tsw (v := 4) (tgt := 78) O dX6_isSetting_1 c21_ (by decide) (by decide) rfl (by decide) ?_
            refine z_iload_n O dX6_isSetting_78 rfl rfl ?_
            refine z_i2l O dX6_isSetting_79 ?_
            refine z_lconst (v := 0) O dX6_isSetting_80 (by decide) ?_
            refine z_ldc2 (v := 4000) O wc_RX6_60 dX6_isSetting_81 ?_
            refine z_callSi (As := [.long (Int32.toInt64 x2), .long 0, .long 4000]) (st := []) O (s_M_in hfl h) wy_X6_in wl_RX6_44 dX6_isSetting_84 rfl rfl ⟨Nat.le_of_ble_eq_true rfl, Nat.le_of_ble_eq_true rfl⟩ (Nat.le_of_ble_eq_true rfl) ⟨Nat.le_of_ble_eq_true rfl, Nat.le_of_ble_eq_true rfl⟩ (fun r22_ z23_ G24_ hq25_ => ?_)
            obtain ⟨rfl, rfl, h⟩ := hq25_
            obtain ⟨hz, h⟩ := h
            exact z_zret O hret (z_narb hz) hlk dX6_isSetting_87 (Nat.le_of_ble_eq_true rfl) (Nat.le_of_ble_eq_true rfl) ⟨_, rfl, rfl, rfl, h⟩
          · have h := h.2 c21_
            refine z_tswd (tgt := 88) O dX6_isSetting_1 (zsw_out (fun j h1 h2 => by rcases (show j = 0 ∨ j = 1 ∨ j = 2 ∨ j = 3 ∨ j = 4 by omega) with rfl | rfl | rfl | rfl | rfl; exact c1_; exact c6_; exact c11_; exact c16_; exact c21_)) (by decide) ?_
            refine z_iload_n O dX6_isSetting_88 rfl rfl ?_
            refine z_iconst (v := 5) O dX6_isSetting_89 (by decide) ?_
            refine z_icmp_ne (tgt := 109) O dX6_isSetting_90 (by decide) (fun c26_ => ?_) (fun c26_ => ?_)
            · have h := h.1 c26_
              refine z_iconst (v := 0) O dX6_isSetting_109 (by decide) ?_
              exact z_zret O hret rfl hlk dX6_isSetting_110 (Nat.le_of_ble_eq_true rfl) (Nat.le_of_ble_eq_true rfl) ⟨_, rfl, rfl, rfl, h⟩
            · have h := h.2 c26_
              refine z_iload_n O dX6_isSetting_93 rfl rfl ?_
              refine z_i2l O dX6_isSetting_94 ?_
              refine z_lconst (v := 0) O dX6_isSetting_95 (by decide) ?_
              refine z_ldc2 (v := 99) O wc_RX6_52 dX6_isSetting_96 ?_
              refine z_callSi (As := [.long (Int32.toInt64 x2), .long 0, .long 99]) (st := []) O (s_M_in hfl h) wy_X6_in wl_RX6_44 dX6_isSetting_99 rfl rfl ⟨Nat.le_of_ble_eq_true rfl, Nat.le_of_ble_eq_true rfl⟩ (Nat.le_of_ble_eq_true rfl) ⟨Nat.le_of_ble_eq_true rfl, Nat.le_of_ble_eq_true rfl⟩ (fun r27_ z28_ G29_ hq30_ => ?_)
              obtain ⟨rfl, rfl, h⟩ := hq30_
              refine z_if_eq (tgt := 109) O dX6_isSetting_102 (by decide) (fun c31_ => ?_) (fun c31_ => ?_)
              · have h := h.1 c31_
                refine z_iconst (v := 0) O dX6_isSetting_109 (by decide) ?_
                exact z_zret O hret rfl hlk dX6_isSetting_110 (Nat.le_of_ble_eq_true rfl) (Nat.le_of_ble_eq_true rfl) ⟨_, rfl, rfl, rfl, h⟩
              · have h := h.2 c31_
                refine z_iconst (v := 1) O dX6_isSetting_105 (by decide) ?_
                refine z_goto (tgt := 110) O dX6_isSetting_106 (by decide) ?_
                exact z_zret O hret rfl hlk dX6_isSetting_110 (Nat.le_of_ble_eq_true rfl) (Nat.le_of_ble_eq_true rfl) ⟨_, rfl, rfl, rfl, h⟩

theorem dX6_reader_0 : decode cX6_reader 0 = .ok (.sipush 410, 3) := by decide +kernel
theorem dX6_reader_3 : decode cX6_reader 3 = .ok (.bipush 15, 2) := by decide +kernel
theorem dX6_reader_5 : decode cX6_reader 5 = .ok (.iload_n 0, 1) := by decide +kernel
theorem dX6_reader_6 : decode cX6_reader 6 = .ok (.imul, 1) := by decide +kernel
theorem dX6_reader_7 : decode cX6_reader 7 = .ok (.iadd, 1) := by decide +kernel
theorem dX6_reader_8 : decode cX6_reader 8 = .ok (.ireturn, 1) := by decide +kernel
def P_M_reader (x1 : Int32) (Q : Int32 → Prop) : Prop := Q (410 + (15 * x1))
set_option maxRecDepth 100000 in
theorem s_M_reader {l : Launch} {D : zD} {B : Nat} {sa : Nat → Nat} (hfl : l.stackTraces = false) {z : Nat} {G : zG} {x1 : Int32} {Q : Int32 → Prop}  (h : P_M_reader x1 Q) : zSp l D B sa yX6_reader cX6_reader 1 (some .int) 0 0 0 0 [.int x1] z G (zRi fun r z' G' => z = z' ∧ G = G' ∧ Q r) := by
  unfold P_M_reader at h
  refine z_ofW (by decide +kernel) hfl [some (.int x1)] rfl (Nat.le_of_ble_eq_true rfl) (fun p e s m args below meth c O hret hlk hnm => ?_)
  have O : zO p l s m args c D B sa 1 cX6_reader RX6 := O
  refine z_sipush (v := 410) O dX6_reader_0 (by decide) ?_
  refine z_bipush (v := 15) O dX6_reader_3 (by decide) ?_
  refine z_iload_n O dX6_reader_5 rfl rfl ?_
  refine z_imul O dX6_reader_6 ?_
  refine z_iadd O dX6_reader_7 ?_
  exact z_iret O hret hlk dX6_reader_8 (Nat.le_of_ble_eq_true rfl) (Nat.le_of_ble_eq_true rfl) ⟨_, rfl, rfl, rfl, h⟩

theorem dX6_isReader_0 : decode cX6_isReader 0 = .ok (.iload_n 1, 1) := by decide +kernel
theorem dX6_isReader_1 : decode cX6_isReader 1 = .ok (.invokestatic 62, 3) := by decide +kernel
theorem dX6_isReader_4 : decode cX6_isReader 4 = .ok (.ifCond .eq 19, 3) := by decide +kernel
theorem dX6_isReader_7 : decode cX6_isReader 7 = .ok (.aload_n 0, 1) := by decide +kernel
theorem dX6_isReader_8 : decode cX6_isReader 8 = .ok (.iload_n 1, 1) := by decide +kernel
theorem dX6_isReader_9 : decode cX6_isReader 9 = .ok (.invokestatic 65, 3) := by decide +kernel
theorem dX6_isReader_12 : decode cX6_isReader 12 = .ok (.iconst 0, 1) := by decide +kernel
theorem dX6_isReader_13 : decode cX6_isReader 13 = .ok (.iadd, 1) := by decide +kernel
theorem dX6_isReader_14 : decode cX6_isReader 14 = .ok (.iaload, 1) := by decide +kernel
theorem dX6_isReader_15 : decode cX6_isReader 15 = .ok (.iconst 1, 1) := by decide +kernel
theorem dX6_isReader_16 : decode cX6_isReader 16 = .ok (.if_icmp .ne 7, 3) := by decide +kernel
theorem dX6_isReader_19 : decode cX6_isReader 19 = .ok (.iconst 1, 1) := by decide +kernel
theorem dX6_isReader_20 : decode cX6_isReader 20 = .ok (.goto 4, 3) := by decide +kernel
theorem dX6_isReader_23 : decode cX6_isReader 23 = .ok (.iconst 0, 1) := by decide +kernel
theorem dX6_isReader_24 : decode cX6_isReader 24 = .ok (.ireturn, 1) := by decide +kernel
def P_M_isReader (x1 : Int32) (v0 : (Nat → Int32)) (Q : Int32 → Prop) : Prop := P_M_isName x1 (fun r1_ => (((r1_ = 0 → Q 0) ∧ (¬ r1_ = 0 → P_M_reader x1 (fun r6_ => (vp_in (r6_ + 0) 621 ∧ (((¬ (v0 (Int32.toNatClampNeg (r6_ + 0))) = 1 → Q 0) ∧ ((v0 (Int32.toNatClampNeg (r6_ + 0))) = 1 → Q 1)))))))))
set_option maxRecDepth 100000 in
theorem s_M_isReader {l : Launch} {D : zD} {B : Nat} {sa : Nat → Nat} (hfl : l.stackTraces = false) {z : Nat} {G : zG} {b0 : Nat} {x1 : Int32} {v0 : (Nat → Int32)} {Q : Int32 → Prop} (h0 : G b0 = some (zia 621 v0)) (h : P_M_isReader x1 v0 Q) : zSp l D B sa yX6_isReader cX6_isReader 2 (some .boolean) 2 45 0 0 [.ref b0, .int x1] z G (zRi fun r z' G' => z = z' ∧ G = G' ∧ Q r) := by
  unfold P_M_isReader at h
  refine z_ofW (by decide +kernel) hfl [some (.ref b0), some (.int x1)] rfl (Nat.le_of_ble_eq_true rfl) (fun p e s m args below meth c O hret hlk hnm => ?_)
  have O : zO p l s m args c D B sa 2 cX6_isReader RX6 := O
  refine z_iload_n O dX6_isReader_0 rfl rfl ?_
  refine z_callSi (As := [.int x1]) (st := []) O (s_M_isName hfl h) wy_X6_isName wl_RX6_62 dX6_isReader_1 rfl rfl ⟨Nat.le_of_ble_eq_true rfl, Nat.le_of_ble_eq_true rfl⟩ (Nat.le_of_ble_eq_true rfl) ⟨Nat.le_of_ble_eq_true rfl, Nat.le_of_ble_eq_true rfl⟩ (fun r1_ z2_ G3_ hq4_ => ?_)
  obtain ⟨rfl, rfl, h⟩ := hq4_
  refine z_if_eq (tgt := 23) O dX6_isReader_4 (by decide) (fun c5_ => ?_) (fun c5_ => ?_)
  · have h := h.1 c5_
    refine z_iconst (v := 0) O dX6_isReader_23 (by decide) ?_
    exact z_zret O hret rfl hlk dX6_isReader_24 (Nat.le_of_ble_eq_true rfl) (Nat.le_of_ble_eq_true rfl) ⟨_, rfl, rfl, rfl, h⟩
  · have h := h.2 c5_
    refine z_aload_n O dX6_isReader_7 rfl rfl ?_
    refine z_iload_n O dX6_isReader_8 rfl rfl ?_
    refine z_callSi (As := [.int x1]) (st := [.ref b0]) O (s_M_reader hfl h) wy_X6_reader wl_RX6_65 dX6_isReader_9 rfl rfl ⟨Nat.le_of_ble_eq_true rfl, Nat.le_of_ble_eq_true rfl⟩ (Nat.le_of_ble_eq_true rfl) ⟨Nat.le_of_ble_eq_true rfl, Nat.le_of_ble_eq_true rfl⟩ (fun r6_ z7_ G8_ hq9_ => ?_)
    obtain ⟨rfl, rfl, h⟩ := hq9_
    refine z_iconst (v := 0) O dX6_isReader_12 (by decide) ?_
    refine z_iadd O dX6_isReader_13 ?_
    obtain ⟨q10_, h⟩ := h
    refine z_iald O dX6_isReader_14 h0 q10_ ?_
    refine z_iconst (v := 1) O dX6_isReader_15 (by decide) ?_
    refine z_icmp_ne (tgt := 23) O dX6_isReader_16 (by decide) (fun c11_ => ?_) (fun c11_ => ?_)
    · have h := h.1 c11_
      refine z_iconst (v := 0) O dX6_isReader_23 (by decide) ?_
      exact z_zret O hret rfl hlk dX6_isReader_24 (Nat.le_of_ble_eq_true rfl) (Nat.le_of_ble_eq_true rfl) ⟨_, rfl, rfl, rfl, h⟩
    · have h := h.2 c11_
      refine z_iconst (v := 1) O dX6_isReader_19 (by decide) ?_
      refine z_goto (tgt := 24) O dX6_isReader_20 (by decide) ?_
      exact z_zret O hret rfl hlk dX6_isReader_24 (Nat.le_of_ble_eq_true rfl) (Nat.le_of_ble_eq_true rfl) ⟨_, rfl, rfl, rfl, h⟩

theorem dX6_key_0 : decode cX6_key 0 = .ok (.aload_n 0, 1) := by decide +kernel
theorem dX6_key_1 : decode cX6_key 1 = .ok (.iconst 0, 1) := by decide +kernel
theorem dX6_key_2 : decode cX6_key 2 = .ok (.iload_n 1, 1) := by decide +kernel
theorem dX6_key_3 : decode cX6_key 3 = .ok (.iadd, 1) := by decide +kernel
theorem dX6_key_4 : decode cX6_key 4 = .ok (.iaload, 1) := by decide +kernel
theorem dX6_key_5 : decode cX6_key 5 = .ok (.bipush 8, 2) := by decide +kernel
theorem dX6_key_7 : decode cX6_key 7 = .ok (.irem, 1) := by decide +kernel
theorem dX6_key_8 : decode cX6_key 8 = .ok (.ireturn, 1) := by decide +kernel
def P_M_key (x1 : Int32) (v0 : (Nat → Int32)) (Q : Int32 → Prop) : Prop := vp_in (0 + x1) 621 ∧ (Q (zrem (v0 (Int32.toNatClampNeg (0 + x1))) 8))
set_option maxRecDepth 100000 in
theorem s_M_key {l : Launch} {D : zD} {B : Nat} {sa : Nat → Nat} (hfl : l.stackTraces = false) {z : Nat} {G : zG} {b0 : Nat} {x1 : Int32} {v0 : (Nat → Int32)} {Q : Int32 → Prop} (h0 : G b0 = some (zia 621 v0)) (h : P_M_key x1 v0 Q) : zSp l D B sa yX6_key cX6_key 2 (some .int) 0 0 0 0 [.ref b0, .int x1] z G (zRi fun r z' G' => z = z' ∧ G = G' ∧ Q r) := by
  unfold P_M_key at h
  refine z_ofW (by decide +kernel) hfl [some (.ref b0), some (.int x1)] rfl (Nat.le_of_ble_eq_true rfl) (fun p e s m args below meth c O hret hlk hnm => ?_)
  have O : zO p l s m args c D B sa 2 cX6_key RX6 := O
  refine z_aload_n O dX6_key_0 rfl rfl ?_
  refine z_iconst (v := 0) O dX6_key_1 (by decide) ?_
  refine z_iload_n O dX6_key_2 rfl rfl ?_
  refine z_iadd O dX6_key_3 ?_
  obtain ⟨q1_, h⟩ := h
  refine z_iald O dX6_key_4 h0 q1_ ?_
  refine z_bipush (v := 8) O dX6_key_5 (by decide) ?_
  refine z_irem O dX6_key_7 (by decide) ?_
  exact z_iret O hret hlk dX6_key_8 (Nat.le_of_ble_eq_true rfl) (Nat.le_of_ble_eq_true rfl) ⟨_, rfl, rfl, rfl, h⟩

theorem dX6_begins_0 : decode cX6_begins 0 = .ok (.aload_n 0, 1) := by decide +kernel
theorem dX6_begins_1 : decode cX6_begins 1 = .ok (.iconst 0, 1) := by decide +kernel
theorem dX6_begins_2 : decode cX6_begins 2 = .ok (.iload_n 1, 1) := by decide +kernel
theorem dX6_begins_3 : decode cX6_begins 3 = .ok (.iadd, 1) := by decide +kernel
theorem dX6_begins_4 : decode cX6_begins 4 = .ok (.iaload, 1) := by decide +kernel
theorem dX6_begins_5 : decode cX6_begins 5 = .ok (.bipush 8, 2) := by decide +kernel
theorem dX6_begins_7 : decode cX6_begins 7 = .ok (.idiv, 1) := by decide +kernel
theorem dX6_begins_8 : decode cX6_begins 8 = .ok (.iconst 2, 1) := by decide +kernel
theorem dX6_begins_9 : decode cX6_begins 9 = .ok (.irem, 1) := by decide +kernel
theorem dX6_begins_10 : decode cX6_begins 10 = .ok (.iconst 1, 1) := by decide +kernel
theorem dX6_begins_11 : decode cX6_begins 11 = .ok (.if_icmp .ne 7, 3) := by decide +kernel
theorem dX6_begins_14 : decode cX6_begins 14 = .ok (.iconst 1, 1) := by decide +kernel
theorem dX6_begins_15 : decode cX6_begins 15 = .ok (.goto 4, 3) := by decide +kernel
theorem dX6_begins_18 : decode cX6_begins 18 = .ok (.iconst 0, 1) := by decide +kernel
theorem dX6_begins_19 : decode cX6_begins 19 = .ok (.ireturn, 1) := by decide +kernel
def P_M_begins (x1 : Int32) (v0 : (Nat → Int32)) (Q : Int32 → Prop) : Prop := vp_in (0 + x1) 621 ∧ (((¬ (zrem ((v0 (Int32.toNatClampNeg (0 + x1))) / 8) 2) = 1 → Q 0) ∧ ((zrem ((v0 (Int32.toNatClampNeg (0 + x1))) / 8) 2) = 1 → Q 1)))
set_option maxRecDepth 100000 in
theorem s_M_begins {l : Launch} {D : zD} {B : Nat} {sa : Nat → Nat} (hfl : l.stackTraces = false) {z : Nat} {G : zG} {b0 : Nat} {x1 : Int32} {v0 : (Nat → Int32)} {Q : Int32 → Prop} (h0 : G b0 = some (zia 621 v0)) (h : P_M_begins x1 v0 Q) : zSp l D B sa yX6_begins cX6_begins 2 (some .boolean) 0 0 0 0 [.ref b0, .int x1] z G (zRi fun r z' G' => z = z' ∧ G = G' ∧ Q r) := by
  unfold P_M_begins at h
  refine z_ofW (by decide +kernel) hfl [some (.ref b0), some (.int x1)] rfl (Nat.le_of_ble_eq_true rfl) (fun p e s m args below meth c O hret hlk hnm => ?_)
  have O : zO p l s m args c D B sa 2 cX6_begins RX6 := O
  refine z_aload_n O dX6_begins_0 rfl rfl ?_
  refine z_iconst (v := 0) O dX6_begins_1 (by decide) ?_
  refine z_iload_n O dX6_begins_2 rfl rfl ?_
  refine z_iadd O dX6_begins_3 ?_
  obtain ⟨q1_, h⟩ := h
  refine z_iald O dX6_begins_4 h0 q1_ ?_
  refine z_bipush (v := 8) O dX6_begins_5 (by decide) ?_
  refine z_idiv O dX6_begins_7 (by decide) ?_
  refine z_iconst (v := 2) O dX6_begins_8 (by decide) ?_
  refine z_irem O dX6_begins_9 (by decide) ?_
  refine z_iconst (v := 1) O dX6_begins_10 (by decide) ?_
  refine z_icmp_ne (tgt := 18) O dX6_begins_11 (by decide) (fun c2_ => ?_) (fun c2_ => ?_)
  · have h := h.1 c2_
    refine z_iconst (v := 0) O dX6_begins_18 (by decide) ?_
    exact z_zret O hret rfl hlk dX6_begins_19 (Nat.le_of_ble_eq_true rfl) (Nat.le_of_ble_eq_true rfl) ⟨_, rfl, rfl, rfl, h⟩
  · have h := h.2 c2_
    refine z_iconst (v := 1) O dX6_begins_14 (by decide) ?_
    refine z_goto (tgt := 19) O dX6_begins_15 (by decide) ?_
    exact z_zret O hret rfl hlk dX6_begins_19 (Nat.le_of_ble_eq_true rfl) (Nat.le_of_ble_eq_true rfl) ⟨_, rfl, rfl, rfl, h⟩

theorem dX6_value_0 : decode cX6_value 0 = .ok (.aload_n 0, 1) := by decide +kernel
theorem dX6_value_1 : decode cX6_value 1 = .ok (.iconst 0, 1) := by decide +kernel
theorem dX6_value_2 : decode cX6_value 2 = .ok (.iload_n 1, 1) := by decide +kernel
theorem dX6_value_3 : decode cX6_value 3 = .ok (.iadd, 1) := by decide +kernel
theorem dX6_value_4 : decode cX6_value 4 = .ok (.iaload, 1) := by decide +kernel
theorem dX6_value_5 : decode cX6_value 5 = .ok (.bipush 16, 2) := by decide +kernel
theorem dX6_value_7 : decode cX6_value 7 = .ok (.idiv, 1) := by decide +kernel
theorem dX6_value_8 : decode cX6_value 8 = .ok (.bipush 100, 2) := by decide +kernel
theorem dX6_value_10 : decode cX6_value 10 = .ok (.irem, 1) := by decide +kernel
theorem dX6_value_11 : decode cX6_value 11 = .ok (.ireturn, 1) := by decide +kernel
def P_M_value (x1 : Int32) (v0 : (Nat → Int32)) (Q : Int32 → Prop) : Prop := vp_in (0 + x1) 621 ∧ (Q (zrem ((v0 (Int32.toNatClampNeg (0 + x1))) / 16) 100))
set_option maxRecDepth 100000 in
theorem s_M_value {l : Launch} {D : zD} {B : Nat} {sa : Nat → Nat} (hfl : l.stackTraces = false) {z : Nat} {G : zG} {b0 : Nat} {x1 : Int32} {v0 : (Nat → Int32)} {Q : Int32 → Prop} (h0 : G b0 = some (zia 621 v0)) (h : P_M_value x1 v0 Q) : zSp l D B sa yX6_value cX6_value 2 (some .int) 0 0 0 0 [.ref b0, .int x1] z G (zRi fun r z' G' => z = z' ∧ G = G' ∧ Q r) := by
  unfold P_M_value at h
  refine z_ofW (by decide +kernel) hfl [some (.ref b0), some (.int x1)] rfl (Nat.le_of_ble_eq_true rfl) (fun p e s m args below meth c O hret hlk hnm => ?_)
  have O : zO p l s m args c D B sa 2 cX6_value RX6 := O
  refine z_aload_n O dX6_value_0 rfl rfl ?_
  refine z_iconst (v := 0) O dX6_value_1 (by decide) ?_
  refine z_iload_n O dX6_value_2 rfl rfl ?_
  refine z_iadd O dX6_value_3 ?_
  obtain ⟨q1_, h⟩ := h
  refine z_iald O dX6_value_4 h0 q1_ ?_
  refine z_bipush (v := 16) O dX6_value_5 (by decide) ?_
  refine z_idiv O dX6_value_7 (by decide) ?_
  refine z_bipush (v := 100) O dX6_value_8 (by decide) ?_
  refine z_irem O dX6_value_10 (by decide) ?_
  exact z_iret O hret hlk dX6_value_11 (Nat.le_of_ble_eq_true rfl) (Nat.le_of_ble_eq_true rfl) ⟨_, rfl, rfl, rfl, h⟩

theorem dX6_size_0 : decode cX6_size 0 = .ok (.aload_n 0, 1) := by decide +kernel
theorem dX6_size_1 : decode cX6_size 1 = .ok (.iconst 0, 1) := by decide +kernel
theorem dX6_size_2 : decode cX6_size 2 = .ok (.iload_n 1, 1) := by decide +kernel
theorem dX6_size_3 : decode cX6_size 3 = .ok (.iadd, 1) := by decide +kernel
theorem dX6_size_4 : decode cX6_size 4 = .ok (.iaload, 1) := by decide +kernel
theorem dX6_size_5 : decode cX6_size 5 = .ok (.sipush 1600, 3) := by decide +kernel
theorem dX6_size_8 : decode cX6_size 8 = .ok (.idiv, 1) := by decide +kernel
theorem dX6_size_9 : decode cX6_size 9 = .ok (.ireturn, 1) := by decide +kernel
def P_M_size (x1 : Int32) (v0 : (Nat → Int32)) (Q : Int32 → Prop) : Prop := vp_in (0 + x1) 621 ∧ (Q ((v0 (Int32.toNatClampNeg (0 + x1))) / 1600))
set_option maxRecDepth 100000 in
theorem s_M_size {l : Launch} {D : zD} {B : Nat} {sa : Nat → Nat} (hfl : l.stackTraces = false) {z : Nat} {G : zG} {b0 : Nat} {x1 : Int32} {v0 : (Nat → Int32)} {Q : Int32 → Prop} (h0 : G b0 = some (zia 621 v0)) (h : P_M_size x1 v0 Q) : zSp l D B sa yX6_size cX6_size 2 (some .int) 0 0 0 0 [.ref b0, .int x1] z G (zRi fun r z' G' => z = z' ∧ G = G' ∧ Q r) := by
  unfold P_M_size at h
  refine z_ofW (by decide +kernel) hfl [some (.ref b0), some (.int x1)] rfl (Nat.le_of_ble_eq_true rfl) (fun p e s m args below meth c O hret hlk hnm => ?_)
  have O : zO p l s m args c D B sa 2 cX6_size RX6 := O
  refine z_aload_n O dX6_size_0 rfl rfl ?_
  refine z_iconst (v := 0) O dX6_size_1 (by decide) ?_
  refine z_iload_n O dX6_size_2 rfl rfl ?_
  refine z_iadd O dX6_size_3 ?_
  obtain ⟨q1_, h⟩ := h
  refine z_iald O dX6_size_4 h0 q1_ ?_
  refine z_sipush (v := 1600) O dX6_size_5 (by decide) ?_
  refine z_idiv O dX6_size_8 (by decide) ?_
  exact z_iret O hret hlk dX6_size_9 (Nat.le_of_ble_eq_true rfl) (Nat.le_of_ble_eq_true rfl) ⟨_, rfl, rfl, rfl, h⟩

theorem dX6_sizes_0 : decode cX6_sizes 0 = .ok (.iconst 0, 1) := by decide +kernel
theorem dX6_sizes_1 : decode cX6_sizes 1 = .ok (.istore_n 3, 1) := by decide +kernel
theorem dX6_sizes_2 : decode cX6_sizes 2 = .ok (.iload_n 1, 1) := by decide +kernel
theorem dX6_sizes_3 : decode cX6_sizes 3 = .ok (.istore 4, 2) := by decide +kernel
theorem dX6_sizes_5 : decode cX6_sizes 5 = .ok (.iload 4, 2) := by decide +kernel
theorem dX6_sizes_7 : decode cX6_sizes 7 = .ok (.iload_n 2, 1) := by decide +kernel
theorem dX6_sizes_8 : decode cX6_sizes 8 = .ok (.if_icmp .ge 18, 3) := by decide +kernel
theorem dX6_sizes_11 : decode cX6_sizes 11 = .ok (.iload_n 3, 1) := by decide +kernel
theorem dX6_sizes_12 : decode cX6_sizes 12 = .ok (.aload_n 0, 1) := by decide +kernel
theorem dX6_sizes_13 : decode cX6_sizes 13 = .ok (.iload 4, 2) := by decide +kernel
theorem dX6_sizes_15 : decode cX6_sizes 15 = .ok (.invokestatic 69, 3) := by decide +kernel
theorem dX6_sizes_18 : decode cX6_sizes 18 = .ok (.iadd, 1) := by decide +kernel
theorem dX6_sizes_19 : decode cX6_sizes 19 = .ok (.istore_n 3, 1) := by decide +kernel
theorem dX6_sizes_20 : decode cX6_sizes 20 = .ok (.iinc 4 1, 3) := by decide +kernel
theorem dX6_sizes_23 : decode cX6_sizes 23 = .ok (.goto (-18), 3) := by decide +kernel
theorem dX6_sizes_26 : decode cX6_sizes 26 = .ok (.iload_n 3, 1) := by decide +kernel
theorem dX6_sizes_27 : decode cX6_sizes 27 = .ok (.ireturn, 1) := by decide +kernel
def PL_M_sizes_5 : Nat → Int32 → Int32 → (Nat → Int32) → Int32 → Int32 → Int32 → (Int32 → Prop) → Prop
  | 0, _, _, _, _, _, _, _ => False
  | n + 1, x1, x2, v0, y2, y3, y4, Q => ((y2 ≤ y4 → Q y3) ∧ (¬ y2 ≤ y4 → P_M_size y4 v0 (fun r2_ => ((fun y2 y3 y4 => PL_M_sizes_5 n x1 x2 v0 y2 y3 y4  Q) y2 (y3 + r2_) (y4 + 1)))))
def P_M_sizes (x1 : Int32) (x2 : Int32) (v0 : (Nat → Int32)) (Q : Int32 → Prop) : Prop := (∃ n6_, PL_M_sizes_5 n6_ x1 x2 v0 x2 0 x1 Q)
set_option maxRecDepth 100000 in
theorem s_M_sizes {l : Launch} {D : zD} {B : Nat} {sa : Nat → Nat} (hfl : l.stackTraces = false) {z : Nat} {G : zG} {b0 : Nat} {x1 : Int32} {x2 : Int32} {v0 : (Nat → Int32)} {Q : Int32 → Prop} (h0 : G b0 = some (zia 621 v0)) (h : P_M_sizes x1 x2 v0 Q) : zSp l D B sa yX6_sizes cX6_sizes 5 (some .int) 1 21 0 0 [.ref b0, .int x1, .int x2] z G (zRi fun r z' G' => z = z' ∧ G = G' ∧ Q r) := by
  unfold P_M_sizes at h
  refine z_ofW (by decide +kernel) hfl [some (.ref b0), some (.int x1), some (.int x2), none, none] rfl (Nat.le_of_ble_eq_true rfl) (fun p e s m args below meth c O hret hlk hnm => ?_)
  have O : zO p l s m args c D B sa 5 cX6_sizes RX6 := O
  have HL5 : ∀ (n9 : Nat)    (y2 : Int32) (y3 : Int32) (y4 : Int32) (h : PL_M_sizes_5 n9 x1 x2 v0 y2 y3 y4 Q), zT p l e (zrm 1 21 0 0) s m args below meth c (zEnd below D B (zRi fun r z' G' => z = z' ∧ G = G' ∧ Q r) args s 0 0) D B 5 0 0 5 [] [some (.ref b0), none, some (.int y2), some (.int y3), some (.int y4)] z G := by
    intro n9   
    induction n9 with
    | zero =>
      intro _ _ _ h
      exact (h : False).elim
    | succ n ih =>
      intro y2 y3 y4 h
      rw [PL_M_sizes_5] at h
      refine z_iload O dX6_sizes_5 rfl ?_
      refine z_iload_n O dX6_sizes_7 rfl rfl ?_
      refine z_icmp_ge (tgt := 26) O dX6_sizes_8 (by decide) (fun c1_ => ?_) (fun c1_ => ?_)
      · have h := h.1 c1_
        refine z_iload_n O dX6_sizes_26 rfl rfl ?_
        exact z_iret O hret hlk dX6_sizes_27 (Nat.le_of_ble_eq_true rfl) (Nat.le_of_ble_eq_true rfl) ⟨_, rfl, rfl, rfl, h⟩
      · have h := h.2 c1_
        refine z_iload_n O dX6_sizes_11 rfl rfl ?_
        refine z_aload_n O dX6_sizes_12 rfl rfl ?_
        refine z_iload O dX6_sizes_13 rfl ?_
        refine z_callSi (As := [.ref b0, .int y4]) (st := [.int y3]) O (s_M_size hfl h0 h) wy_X6_size wl_RX6_69 dX6_sizes_15 rfl rfl ⟨Nat.le_of_ble_eq_true rfl, Nat.le_of_ble_eq_true rfl⟩ (Nat.le_of_ble_eq_true rfl) ⟨Nat.le_of_ble_eq_true rfl, Nat.le_of_ble_eq_true rfl⟩ (fun r2_ z3_ G4_ hq5_ => ?_)
        obtain ⟨rfl, rfl, h⟩ := hq5_
        refine z_iadd O dX6_sizes_18 ?_
        refine z_istore_n (L' := [some (.ref b0), none, some (.int y2), some (.int (y3 + r2_)), some (.int y4)]) O dX6_sizes_19 rfl (by decide) rfl ?_
        refine z_iinc (v := (y4 + 1)) (L' := [some (.ref b0), none, some (.int y2), some (.int (y3 + r2_)), some (.int (y4 + 1))]) O dX6_sizes_20 rfl (by first | rfl | decide) (by decide) rfl ?_
        refine z_goto (tgt := 5) O dX6_sizes_23 (by decide) ?_
        exact z_subL (L' := [some (.ref b0), none, some (.int y2), some (.int (y3 + r2_)), some (.int (y4 + 1))]) (zLe.sub (And.intro rfl (And.intro rfl (And.intro rfl (And.intro rfl True.intro))))) (ih y2 (y3 + r2_) (y4 + 1) h)
  refine z_iconst (v := 0) O dX6_sizes_0 (by decide) ?_
  refine z_istore_n (L' := [some (.ref b0), some (.int x1), some (.int x2), some (.int 0), none]) O dX6_sizes_1 rfl (by decide) rfl ?_
  refine z_iload_n O dX6_sizes_2 rfl rfl ?_
  refine z_istore (L' := [some (.ref b0), some (.int x1), some (.int x2), some (.int 0), some (.int x1)]) O dX6_sizes_3 (by decide) rfl ?_
  obtain ⟨n6_, h⟩ := h
  exact z_subL (L' := [some (.ref b0), none, some (.int x2), some (.int 0), some (.int x1)]) (zLe.sub (And.intro rfl (And.intro rfl (And.intro rfl (And.intro rfl True.intro))))) (HL5 n6_ x2 0 x1 h)

theorem dX6_segments_0 : decode cX6_segments 0 = .ok (.iconst 0, 1) := by decide +kernel
theorem dX6_segments_1 : decode cX6_segments 1 = .ok (.istore_n 1, 1) := by decide +kernel
theorem dX6_segments_2 : decode cX6_segments 2 = .ok (.aload_n 0, 1) := by decide +kernel
theorem dX6_segments_3 : decode cX6_segments 3 = .ok (.sipush 400, 3) := by decide +kernel
theorem dX6_segments_6 : decode cX6_segments 6 = .ok (.iaload, 1) := by decide +kernel
theorem dX6_segments_7 : decode cX6_segments 7 = .ok (.istore_n 2, 1) := by decide +kernel
theorem dX6_segments_8 : decode cX6_segments 8 = .ok (.iload_n 2, 1) := by decide +kernel
theorem dX6_segments_9 : decode cX6_segments 9 = .ok (.aload_n 0, 1) := by decide +kernel
theorem dX6_segments_10 : decode cX6_segments 10 = .ok (.sipush 401, 3) := by decide +kernel
theorem dX6_segments_13 : decode cX6_segments 13 = .ok (.iaload, 1) := by decide +kernel
theorem dX6_segments_14 : decode cX6_segments 14 = .ok (.if_icmp .ge 25, 3) := by decide +kernel
theorem dX6_segments_17 : decode cX6_segments 17 = .ok (.iload_n 1, 1) := by decide +kernel
theorem dX6_segments_18 : decode cX6_segments 18 = .ok (.aload_n 0, 1) := by decide +kernel
theorem dX6_segments_19 : decode cX6_segments 19 = .ok (.iload_n 2, 1) := by decide +kernel
theorem dX6_segments_20 : decode cX6_segments 20 = .ok (.invokestatic 73, 3) := by decide +kernel
theorem dX6_segments_23 : decode cX6_segments 23 = .ok (.ifCond .eq 7, 3) := by decide +kernel
theorem dX6_segments_26 : decode cX6_segments 26 = .ok (.iconst 1, 1) := by decide +kernel
theorem dX6_segments_27 : decode cX6_segments 27 = .ok (.goto 4, 3) := by decide +kernel
theorem dX6_segments_30 : decode cX6_segments 30 = .ok (.iconst 0, 1) := by decide +kernel
theorem dX6_segments_31 : decode cX6_segments 31 = .ok (.iadd, 1) := by decide +kernel
theorem dX6_segments_32 : decode cX6_segments 32 = .ok (.istore_n 1, 1) := by decide +kernel
theorem dX6_segments_33 : decode cX6_segments 33 = .ok (.iinc 2 1, 3) := by decide +kernel
theorem dX6_segments_36 : decode cX6_segments 36 = .ok (.goto (-28), 3) := by decide +kernel
theorem dX6_segments_39 : decode cX6_segments 39 = .ok (.iload_n 1, 1) := by decide +kernel
theorem dX6_segments_40 : decode cX6_segments 40 = .ok (.ireturn, 1) := by decide +kernel
def PL_M_segments_8 : Nat → (Nat → Int32) → Int32 → Int32 → (Int32 → Prop) → Prop
  | 0, _, _, _, _ => False
  | n + 1, v0, y1, y2, Q => vp_in 401 621 ∧ ((((v0 (Int32.toNatClampNeg 401)) ≤ y2 → Q y1) ∧ (¬ (v0 (Int32.toNatClampNeg 401)) ≤ y2 → P_M_begins y2 v0 (fun r4_ => (((r4_ = 0 → (fun y1 y2 => PL_M_segments_8 n v0 y1 y2  Q) (y1 + 0) (y2 + 1)) ∧ (¬ r4_ = 0 → (fun y1 y2 => PL_M_segments_8 n v0 y1 y2  Q) (y1 + 1) (y2 + 1))))))))
def P_M_segments (v0 : (Nat → Int32)) (Q : Int32 → Prop) : Prop := vp_in 400 621 ∧ ((∃ n9_, PL_M_segments_8 n9_ v0 0 (v0 (Int32.toNatClampNeg 400)) Q))
set_option maxRecDepth 100000 in
theorem s_M_segments {l : Launch} {D : zD} {B : Nat} {sa : Nat → Nat} (hfl : l.stackTraces = false) {z : Nat} {G : zG} {b0 : Nat} {v0 : (Nat → Int32)} {Q : Int32 → Prop} (h0 : G b0 = some (zia 621 v0)) (h : P_M_segments v0 Q) : zSp l D B sa yX6_segments cX6_segments 3 (some .int) 1 21 0 0 [.ref b0] z G (zRi fun r z' G' => z = z' ∧ G = G' ∧ Q r) := by
  unfold P_M_segments at h
  refine z_ofW (by decide +kernel) hfl [some (.ref b0), none, none] rfl (Nat.le_of_ble_eq_true rfl) (fun p e s m args below meth c O hret hlk hnm => ?_)
  have O : zO p l s m args c D B sa 3 cX6_segments RX6 := O
  have HL8 : ∀ (n9 : Nat)    (y1 : Int32) (y2 : Int32) (h : PL_M_segments_8 n9 v0 y1 y2 Q), zT p l e (zrm 1 21 0 0) s m args below meth c (zEnd below D B (zRi fun r z' G' => z = z' ∧ G = G' ∧ Q r) args s 0 0) D B 3 0 0 8 [] [some (.ref b0), some (.int y1), some (.int y2)] z G := by
    intro n9   
    induction n9 with
    | zero =>
      intro _ _ h
      exact (h : False).elim
    | succ n ih =>
      intro y1 y2 h
      rw [PL_M_segments_8] at h
      refine z_iload_n O dX6_segments_8 rfl rfl ?_
      refine z_aload_n O dX6_segments_9 rfl rfl ?_
      refine z_sipush (v := 401) O dX6_segments_10 (by decide) ?_
      obtain ⟨q2_, h⟩ := h
      refine z_iald O dX6_segments_13 h0 q2_ ?_
      refine z_icmp_ge (tgt := 39) O dX6_segments_14 (by decide) (fun c3_ => ?_) (fun c3_ => ?_)
      · have h := h.1 c3_
        refine z_iload_n O dX6_segments_39 rfl rfl ?_
        exact z_iret O hret hlk dX6_segments_40 (Nat.le_of_ble_eq_true rfl) (Nat.le_of_ble_eq_true rfl) ⟨_, rfl, rfl, rfl, h⟩
      · have h := h.2 c3_
        refine z_iload_n O dX6_segments_17 rfl rfl ?_
        refine z_aload_n O dX6_segments_18 rfl rfl ?_
        refine z_iload_n O dX6_segments_19 rfl rfl ?_
        refine z_callSi (As := [.ref b0, .int y2]) (st := [.int y1]) O (s_M_begins hfl h0 h) wy_X6_begins wl_RX6_73 dX6_segments_20 rfl rfl ⟨Nat.le_of_ble_eq_true rfl, Nat.le_of_ble_eq_true rfl⟩ (Nat.le_of_ble_eq_true rfl) ⟨Nat.le_of_ble_eq_true rfl, Nat.le_of_ble_eq_true rfl⟩ (fun r4_ z5_ G6_ hq7_ => ?_)
        obtain ⟨rfl, rfl, h⟩ := hq7_
        refine z_if_eq (tgt := 30) O dX6_segments_23 (by decide) (fun c8_ => ?_) (fun c8_ => ?_)
        · have h := h.1 c8_
          refine z_iconst (v := 0) O dX6_segments_30 (by decide) ?_
          refine z_iadd O dX6_segments_31 ?_
          refine z_istore_n (L' := [some (.ref b0), some (.int (y1 + 0)), some (.int y2)]) O dX6_segments_32 rfl (by decide) rfl ?_
          refine z_iinc (v := (y2 + 1)) (L' := [some (.ref b0), some (.int (y1 + 0)), some (.int (y2 + 1))]) O dX6_segments_33 rfl (by first | rfl | decide) (by decide) rfl ?_
          refine z_goto (tgt := 8) O dX6_segments_36 (by decide) ?_
          exact z_subL (L' := [some (.ref b0), some (.int (y1 + 0)), some (.int (y2 + 1))]) (zLe.sub (And.intro rfl (And.intro rfl (And.intro rfl True.intro)))) (ih (y1 + 0) (y2 + 1) h)
        · have h := h.2 c8_
          refine z_iconst (v := 1) O dX6_segments_26 (by decide) ?_
          refine z_goto (tgt := 31) O dX6_segments_27 (by decide) ?_
          refine z_iadd O dX6_segments_31 ?_
          refine z_istore_n (L' := [some (.ref b0), some (.int (y1 + 1)), some (.int y2)]) O dX6_segments_32 rfl (by decide) rfl ?_
          refine z_iinc (v := (y2 + 1)) (L' := [some (.ref b0), some (.int (y1 + 1)), some (.int (y2 + 1))]) O dX6_segments_33 rfl (by first | rfl | decide) (by decide) rfl ?_
          refine z_goto (tgt := 8) O dX6_segments_36 (by decide) ?_
          exact z_subL (L' := [some (.ref b0), some (.int (y1 + 1)), some (.int (y2 + 1))]) (zLe.sub (And.intro rfl (And.intro rfl (And.intro rfl True.intro)))) (ih (y1 + 1) (y2 + 1) h)
  refine z_iconst (v := 0) O dX6_segments_0 (by decide) ?_
  refine z_istore_n (L' := [some (.ref b0), some (.int 0), none]) O dX6_segments_1 rfl (by decide) rfl ?_
  refine z_aload_n O dX6_segments_2 rfl rfl ?_
  refine z_sipush (v := 400) O dX6_segments_3 (by decide) ?_
  obtain ⟨q1_, h⟩ := h
  refine z_iald O dX6_segments_6 h0 q1_ ?_
  refine z_istore_n (L' := [some (.ref b0), some (.int 0), some (.int (v0 (Int32.toNatClampNeg 400)))]) O dX6_segments_7 rfl (by decide) rfl ?_
  obtain ⟨n9_, h⟩ := h
  exact z_subL (L' := [some (.ref b0), some (.int 0), some (.int (v0 (Int32.toNatClampNeg 400)))]) (zLe.sub (And.intro rfl (And.intro rfl (And.intro rfl True.intro)))) (HL8 n9_ 0 (v0 (Int32.toNatClampNeg 400)) h)

theorem dX6_segmentAt_0 : decode cX6_segmentAt 0 = .ok (.iload_n 1, 1) := by decide +kernel
theorem dX6_segmentAt_1 : decode cX6_segmentAt 1 = .ok (.istore_n 2, 1) := by decide +kernel
theorem dX6_segmentAt_2 : decode cX6_segmentAt 2 = .ok (.aload_n 0, 1) := by decide +kernel
theorem dX6_segmentAt_3 : decode cX6_segmentAt 3 = .ok (.iload_n 2, 1) := by decide +kernel
theorem dX6_segmentAt_4 : decode cX6_segmentAt 4 = .ok (.invokestatic 73, 3) := by decide +kernel
theorem dX6_segmentAt_7 : decode cX6_segmentAt 7 = .ok (.ifCond .ne 9, 3) := by decide +kernel
theorem dX6_segmentAt_10 : decode cX6_segmentAt 10 = .ok (.iinc 2 (-1), 3) := by decide +kernel
theorem dX6_segmentAt_13 : decode cX6_segmentAt 13 = .ok (.goto (-11), 3) := by decide +kernel
theorem dX6_segmentAt_16 : decode cX6_segmentAt 16 = .ok (.iload_n 2, 1) := by decide +kernel
theorem dX6_segmentAt_17 : decode cX6_segmentAt 17 = .ok (.ireturn, 1) := by decide +kernel
def PL_M_segmentAt_2 : Nat → Int32 → (Nat → Int32) → Int32 → (Int32 → Prop) → Prop
  | 0, _, _, _, _ => False
  | n + 1, x1, v0, y2, Q => P_M_begins y2 v0 (fun r1_ => (((¬ r1_ = 0 → Q y2) ∧ (r1_ = 0 → (fun y2 => PL_M_segmentAt_2 n x1 v0 y2  Q) (y2 + (-1))))))
def P_M_segmentAt (x1 : Int32) (v0 : (Nat → Int32)) (Q : Int32 → Prop) : Prop := (∃ n6_, PL_M_segmentAt_2 n6_ x1 v0 x1 Q)
set_option maxRecDepth 100000 in
theorem s_M_segmentAt {l : Launch} {D : zD} {B : Nat} {sa : Nat → Nat} (hfl : l.stackTraces = false) {z : Nat} {G : zG} {b0 : Nat} {x1 : Int32} {v0 : (Nat → Int32)} {Q : Int32 → Prop} (h0 : G b0 = some (zia 621 v0)) (h : P_M_segmentAt x1 v0 Q) : zSp l D B sa yX6_segmentAt cX6_segmentAt 3 (some .int) 1 21 0 0 [.ref b0, .int x1] z G (zRi fun r z' G' => z = z' ∧ G = G' ∧ Q r) := by
  unfold P_M_segmentAt at h
  refine z_ofW (by decide +kernel) hfl [some (.ref b0), some (.int x1), none] rfl (Nat.le_of_ble_eq_true rfl) (fun p e s m args below meth c O hret hlk hnm => ?_)
  have O : zO p l s m args c D B sa 3 cX6_segmentAt RX6 := O
  have HL2 : ∀ (n9 : Nat)    (y2 : Int32) (h : PL_M_segmentAt_2 n9 x1 v0 y2 Q), zT p l e (zrm 1 21 0 0) s m args below meth c (zEnd below D B (zRi fun r z' G' => z = z' ∧ G = G' ∧ Q r) args s 0 0) D B 3 0 0 2 [] [some (.ref b0), none, some (.int y2)] z G := by
    intro n9   
    induction n9 with
    | zero =>
      intro _ h
      exact (h : False).elim
    | succ n ih =>
      intro y2 h
      rw [PL_M_segmentAt_2] at h
      refine z_aload_n O dX6_segmentAt_2 rfl rfl ?_
      refine z_iload_n O dX6_segmentAt_3 rfl rfl ?_
      refine z_callSi (As := [.ref b0, .int y2]) (st := []) O (s_M_begins hfl h0 h) wy_X6_begins wl_RX6_73 dX6_segmentAt_4 rfl rfl ⟨Nat.le_of_ble_eq_true rfl, Nat.le_of_ble_eq_true rfl⟩ (Nat.le_of_ble_eq_true rfl) ⟨Nat.le_of_ble_eq_true rfl, Nat.le_of_ble_eq_true rfl⟩ (fun r1_ z2_ G3_ hq4_ => ?_)
      obtain ⟨rfl, rfl, h⟩ := hq4_
      refine z_if_ne (tgt := 16) O dX6_segmentAt_7 (by decide) (fun c5_ => ?_) (fun c5_ => ?_)
      · have h := h.1 c5_
        refine z_iload_n O dX6_segmentAt_16 rfl rfl ?_
        exact z_iret O hret hlk dX6_segmentAt_17 (Nat.le_of_ble_eq_true rfl) (Nat.le_of_ble_eq_true rfl) ⟨_, rfl, rfl, rfl, h⟩
      · have h := h.2 c5_
        refine z_iinc (v := (y2 + (-1))) (L' := [some (.ref b0), none, some (.int (y2 + (-1)))]) O dX6_segmentAt_10 rfl (by first | rfl | decide) (by decide) rfl ?_
        refine z_goto (tgt := 2) O dX6_segmentAt_13 (by decide) ?_
        exact z_subL (L' := [some (.ref b0), none, some (.int (y2 + (-1)))]) (zLe.sub (And.intro rfl (And.intro rfl True.intro))) (ih (y2 + (-1)) h)
  refine z_iload_n O dX6_segmentAt_0 rfl rfl ?_
  refine z_istore_n (L' := [some (.ref b0), some (.int x1), some (.int x1)]) O dX6_segmentAt_1 rfl (by decide) rfl ?_
  obtain ⟨n6_, h⟩ := h
  exact z_subL (L' := [some (.ref b0), none, some (.int x1)]) (zLe.sub (And.intro rfl (And.intro rfl True.intro))) (HL2 n6_ x1 h)
