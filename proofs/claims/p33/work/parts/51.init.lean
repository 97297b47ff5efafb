theorem wp_RX2_9 : zFp RX2 9 2 0 (tyX2 0) true := ⟨RX2, TX2, 9, tyX2, rfl, by decide, by decide, wu_2, (zgt_at 126 (by decide +kernel) (by decide +kernel)), tyX2_ok, nmX2, rfl, rfl, fun _ => rfl⟩
theorem wp_RX1_9 : zFp RX1 9 1 0 (tyX1 0) true := ⟨RX1, TX1, 11, tyX1, rfl, by decide, by decide, wu_1, (zgt_at 71 (by decide +kernel) (by decide +kernel)), tyX1_ok, nmX1, rfl, rfl, fun _ => rfl⟩
theorem wp_RX1_15 : zFp RX1 15 1 1 (tyX1 1) true := ⟨RX1, TX1, 11, tyX1, rfl, by decide, by decide, wu_1, (zgt_at 73 (by decide +kernel) (by decide +kernel)), tyX1_ok, nmX1, rfl, rfl, fun _ => rfl⟩
theorem wp_RX1_18 : zFp RX1 18 1 2 (tyX1 2) true := ⟨RX1, TX1, 11, tyX1, rfl, by decide, by decide, wu_1, (zgt_at 75 (by decide +kernel) (by decide +kernel)), tyX1_ok, nmX1, rfl, rfl, fun _ => rfl⟩
theorem wp_RX1_21 : zFp RX1 21 1 3 (tyX1 3) true := ⟨RX1, TX1, 11, tyX1, rfl, by decide, by decide, wu_1, (zgt_at 77 (by decide +kernel) (by decide +kernel)), tyX1_ok, nmX1, rfl, rfl, fun _ => rfl⟩
theorem wp_RX1_24 : zFp RX1 24 1 4 (tyX1 4) true := ⟨RX1, TX1, 11, tyX1, rfl, by decide, by decide, wu_1, (zgt_at 78 (by decide +kernel) (by decide +kernel)), tyX1_ok, nmX1, rfl, rfl, fun _ => rfl⟩
theorem wp_RX1_27 : zFp RX1 27 1 5 (tyX1 5) true := ⟨RX1, TX1, 11, tyX1, rfl, by decide, by decide, wu_1, (zgt_at 79 (by decide +kernel) (by decide +kernel)), tyX1_ok, nmX1, rfl, rfl, fun _ => rfl⟩
theorem wp_RX4_9 : zFp RX4 9 4 0 (tyX4 0) true := ⟨RX4, TX4, 8, tyX4, rfl, by decide, by decide, wu_4, (zgt_at 33 (by decide +kernel) (by decide +kernel)), tyX4_ok, nmX4, rfl, rfl, fun _ => rfl⟩
theorem dX2_init_0 : decode cX2_init 0 = .ok (.aload_n 0, 1) := by decide +kernel
theorem dX2_init_1 : decode cX2_init 1 = .ok (.invokespecial 3, 3) := by decide +kernel
theorem dX2_init_4 : decode cX2_init 4 = .ok (.aload_n 0, 1) := by decide +kernel
theorem dX2_init_5 : decode cX2_init 5 = .ok (.bipush 8, 2) := by decide +kernel
theorem dX2_init_7 : decode cX2_init 7 = .ok (.newarray .int, 2) := by decide +kernel
theorem dX2_init_9 : decode cX2_init 9 = .ok (.putfield 9, 3) := by decide +kernel
theorem dX2_init_12 : decode cX2_init 12 = .ok (.return_, 1) := by decide +kernel
theorem dX1_init_0 : decode cX1_init 0 = .ok (.aload_n 0, 1) := by decide +kernel
theorem dX1_init_1 : decode cX1_init 1 = .ok (.invokespecial 3, 3) := by decide +kernel
theorem dX1_init_4 : decode cX1_init 4 = .ok (.aload_n 0, 1) := by decide +kernel
theorem dX1_init_5 : decode cX1_init 5 = .ok (.sipush 200, 3) := by decide +kernel
theorem dX1_init_8 : decode cX1_init 8 = .ok (.newarray .int, 2) := by decide +kernel
theorem dX1_init_10 : decode cX1_init 10 = .ok (.putfield 9, 3) := by decide +kernel
theorem dX1_init_13 : decode cX1_init 13 = .ok (.aload_n 0, 1) := by decide +kernel
theorem dX1_init_14 : decode cX1_init 14 = .ok (.sipush 200, 3) := by decide +kernel
theorem dX1_init_17 : decode cX1_init 17 = .ok (.newarray .int, 2) := by decide +kernel
theorem dX1_init_19 : decode cX1_init 19 = .ok (.putfield 15, 3) := by decide +kernel
theorem dX1_init_22 : decode cX1_init 22 = .ok (.aload_n 0, 1) := by decide +kernel
theorem dX1_init_23 : decode cX1_init 23 = .ok (.sipush 200, 3) := by decide +kernel
theorem dX1_init_26 : decode cX1_init 26 = .ok (.newarray .int, 2) := by decide +kernel
theorem dX1_init_28 : decode cX1_init 28 = .ok (.putfield 18, 3) := by decide +kernel
theorem dX1_init_31 : decode cX1_init 31 = .ok (.aload_n 0, 1) := by decide +kernel
theorem dX1_init_32 : decode cX1_init 32 = .ok (.sipush 201, 3) := by decide +kernel
theorem dX1_init_35 : decode cX1_init 35 = .ok (.newarray .int, 2) := by decide +kernel
theorem dX1_init_37 : decode cX1_init 37 = .ok (.putfield 21, 3) := by decide +kernel
theorem dX1_init_40 : decode cX1_init 40 = .ok (.aload_n 0, 1) := by decide +kernel
theorem dX1_init_41 : decode cX1_init 41 = .ok (.sipush 200, 3) := by decide +kernel
theorem dX1_init_44 : decode cX1_init 44 = .ok (.newarray .int, 2) := by decide +kernel
theorem dX1_init_46 : decode cX1_init 46 = .ok (.putfield 24, 3) := by decide +kernel
theorem dX1_init_49 : decode cX1_init 49 = .ok (.aload_n 0, 1) := by decide +kernel
theorem dX1_init_50 : decode cX1_init 50 = .ok (.bipush 8, 2) := by decide +kernel
theorem dX1_init_52 : decode cX1_init 52 = .ok (.newarray .int, 2) := by decide +kernel
theorem dX1_init_54 : decode cX1_init 54 = .ok (.putfield 27, 3) := by decide +kernel
theorem dX1_init_57 : decode cX1_init 57 = .ok (.return_, 1) := by decide +kernel
theorem dX4_init_0 : decode cX4_init 0 = .ok (.aload_n 0, 1) := by decide +kernel
theorem dX4_init_1 : decode cX4_init 1 = .ok (.invokespecial 3, 3) := by decide +kernel
theorem dX4_init_4 : decode cX4_init 4 = .ok (.aload_n 0, 1) := by decide +kernel
theorem dX4_init_5 : decode cX4_init 5 = .ok (.bipush 120, 2) := by decide +kernel
theorem dX4_init_7 : decode cX4_init 7 = .ok (.newarray .char, 2) := by decide +kernel
theorem dX4_init_9 : decode cX4_init 9 = .ok (.putfield 9, 3) := by decide +kernel
theorem dX4_init_12 : decode cX4_init 12 = .ok (.return_, 1) := by decide +kernel
theorem dX3_init_0 : decode cX3_init 0 = .ok (.aload_n 0, 1) := by decide +kernel
theorem dX3_init_1 : decode cX3_init 1 = .ok (.invokespecial 3, 3) := by decide +kernel
theorem dX3_init_4 : decode cX3_init 4 = .ok (.aload_n 0, 1) := by decide +kernel
theorem dX3_init_5 : decode cX3_init 5 = .ok (.new 9, 3) := by decide +kernel
theorem dX3_init_8 : decode cX3_init 8 = .ok (.dup, 1) := by decide +kernel
theorem dX3_init_9 : decode cX3_init 9 = .ok (.invokespecial 11, 3) := by decide +kernel
theorem dX3_init_12 : decode cX3_init 12 = .ok (.putfield 12, 3) := by decide +kernel
theorem dX3_init_15 : decode cX3_init 15 = .ok (.aload_n 0, 1) := by decide +kernel
theorem dX3_init_16 : decode cX3_init 16 = .ok (.bipush 8, 2) := by decide +kernel
theorem dX3_init_18 : decode cX3_init 18 = .ok (.anewarray 18, 3) := by decide +kernel
theorem dX3_init_21 : decode cX3_init 21 = .ok (.putfield 20, 3) := by decide +kernel
theorem dX3_init_24 : decode cX3_init 24 = .ok (.aload_n 0, 1) := by decide +kernel
theorem dX3_init_25 : decode cX3_init 25 = .ok (.bipush 6, 2) := by decide +kernel
theorem dX3_init_27 : decode cX3_init 27 = .ok (.newarray .int, 2) := by decide +kernel
theorem dX3_init_29 : decode cX3_init 29 = .ok (.putfield 24, 3) := by decide +kernel
theorem dX3_init_32 : decode cX3_init 32 = .ok (.iconst 0, 1) := by decide +kernel
theorem dX3_init_33 : decode cX3_init 33 = .ok (.istore_n 1, 1) := by decide +kernel
theorem dX3_init_34 : decode cX3_init 34 = .ok (.iload_n 1, 1) := by decide +kernel
theorem dX3_init_35 : decode cX3_init 35 = .ok (.bipush 8, 2) := by decide +kernel
theorem dX3_init_37 : decode cX3_init 37 = .ok (.if_icmp .ge 22, 3) := by decide +kernel
theorem dX3_init_40 : decode cX3_init 40 = .ok (.aload_n 0, 1) := by decide +kernel
theorem dX3_init_41 : decode cX3_init 41 = .ok (.getfield 20, 3) := by decide +kernel
theorem dX3_init_44 : decode cX3_init 44 = .ok (.iload_n 1, 1) := by decide +kernel
theorem dX3_init_45 : decode cX3_init 45 = .ok (.new 18, 3) := by decide +kernel
theorem dX3_init_48 : decode cX3_init 48 = .ok (.dup, 1) := by decide +kernel
theorem dX3_init_49 : decode cX3_init 49 = .ok (.invokespecial 28, 3) := by decide +kernel
theorem dX3_init_52 : decode cX3_init 52 = .ok (.aastore, 1) := by decide +kernel
theorem dX3_init_53 : decode cX3_init 53 = .ok (.iinc 1 1, 3) := by decide +kernel
theorem dX3_init_56 : decode cX3_init 56 = .ok (.goto (-22), 3) := by decide +kernel
theorem dX3_init_59 : decode cX3_init 59 = .ok (.aload_n 0, 1) := by decide +kernel
theorem dX3_init_60 : decode cX3_init 60 = .ok (.invokevirtual 29, 3) := by decide +kernel
theorem dX3_init_63 : decode cX3_init 63 = .ok (.return_, 1) := by decide +kernel
theorem dX0_init_0 : decode cX0_init 0 = .ok (.aload_n 0, 1) := by decide +kernel
theorem dX0_init_1 : decode cX0_init 1 = .ok (.invokespecial 3, 3) := by decide +kernel
theorem dX0_init_4 : decode cX0_init 4 = .ok (.aload_n 0, 1) := by decide +kernel
theorem dX0_init_5 : decode cX0_init 5 = .ok (.bipush 14, 2) := by decide +kernel
theorem dX0_init_7 : decode cX0_init 7 = .ok (.anewarray 9, 3) := by decide +kernel
theorem dX0_init_10 : decode cX0_init 10 = .ok (.putfield 11, 3) := by decide +kernel
theorem dX0_init_13 : decode cX0_init 13 = .ok (.iconst 0, 1) := by decide +kernel
theorem dX0_init_14 : decode cX0_init 14 = .ok (.istore_n 1, 1) := by decide +kernel
theorem dX0_init_15 : decode cX0_init 15 = .ok (.iload_n 1, 1) := by decide +kernel
theorem dX0_init_16 : decode cX0_init 16 = .ok (.bipush 14, 2) := by decide +kernel
theorem dX0_init_18 : decode cX0_init 18 = .ok (.if_icmp .ge 22, 3) := by decide +kernel
theorem dX0_init_21 : decode cX0_init 21 = .ok (.aload_n 0, 1) := by decide +kernel
theorem dX0_init_22 : decode cX0_init 22 = .ok (.getfield 11, 3) := by decide +kernel
theorem dX0_init_25 : decode cX0_init 25 = .ok (.iload_n 1, 1) := by decide +kernel
theorem dX0_init_26 : decode cX0_init 26 = .ok (.new 9, 3) := by decide +kernel
theorem dX0_init_29 : decode cX0_init 29 = .ok (.dup, 1) := by decide +kernel
theorem dX0_init_30 : decode cX0_init 30 = .ok (.invokespecial 17, 3) := by decide +kernel
theorem dX0_init_33 : decode cX0_init 33 = .ok (.aastore, 1) := by decide +kernel
theorem dX0_init_34 : decode cX0_init 34 = .ok (.iinc 1 1, 3) := by decide +kernel
theorem dX0_init_37 : decode cX0_init 37 = .ok (.goto (-22), 3) := by decide +kernel
theorem dX0_init_40 : decode cX0_init 40 = .ok (.return_, 1) := by decide +kernel
theorem dX5_init_0 : decode cX5_init 0 = .ok (.aload_n 0, 1) := by decide +kernel
theorem dX5_init_1 : decode cX5_init 1 = .ok (.invokespecial 1, 3) := by decide +kernel
theorem dX5_init_4 : decode cX5_init 4 = .ok (.aload_n 0, 1) := by decide +kernel
theorem dX5_init_5 : decode cX5_init 5 = .ok (.new 7, 3) := by decide +kernel
theorem dX5_init_8 : decode cX5_init 8 = .ok (.dup, 1) := by decide +kernel
theorem dX5_init_9 : decode cX5_init 9 = .ok (.invokespecial 9, 3) := by decide +kernel
theorem dX5_init_12 : decode cX5_init 12 = .ok (.putfield 10, 3) := by decide +kernel
theorem dX5_init_15 : decode cX5_init 15 = .ok (.aload_n 0, 1) := by decide +kernel
theorem dX5_init_16 : decode cX5_init 16 = .ok (.new 16, 3) := by decide +kernel
theorem dX5_init_19 : decode cX5_init 19 = .ok (.dup, 1) := by decide +kernel
theorem dX5_init_20 : decode cX5_init 20 = .ok (.invokespecial 18, 3) := by decide +kernel
theorem dX5_init_23 : decode cX5_init 23 = .ok (.putfield 19, 3) := by decide +kernel
theorem dX5_init_26 : decode cX5_init 26 = .ok (.aload_n 0, 1) := by decide +kernel
theorem dX5_init_27 : decode cX5_init 27 = .ok (.new 16, 3) := by decide +kernel
theorem dX5_init_30 : decode cX5_init 30 = .ok (.dup, 1) := by decide +kernel
theorem dX5_init_31 : decode cX5_init 31 = .ok (.invokespecial 18, 3) := by decide +kernel
theorem dX5_init_34 : decode cX5_init 34 = .ok (.putfield 23, 3) := by decide +kernel
theorem dX5_init_37 : decode cX5_init 37 = .ok (.aload_n 0, 1) := by decide +kernel
theorem dX5_init_38 : decode cX5_init 38 = .ok (.new 26, 3) := by decide +kernel
theorem dX5_init_41 : decode cX5_init 41 = .ok (.dup, 1) := by decide +kernel
theorem dX5_init_42 : decode cX5_init 42 = .ok (.invokespecial 28, 3) := by decide +kernel
theorem dX5_init_45 : decode cX5_init 45 = .ok (.putfield 29, 3) := by decide +kernel
theorem dX5_init_48 : decode cX5_init 48 = .ok (.aload_n 0, 1) := by decide +kernel
theorem dX5_init_49 : decode cX5_init 49 = .ok (.iconst 2, 1) := by decide +kernel
theorem dX5_init_50 : decode cX5_init 50 = .ok (.anewarray 16, 3) := by decide +kernel
theorem dX5_init_53 : decode cX5_init 53 = .ok (.putfield 33, 3) := by decide +kernel
theorem dX5_init_56 : decode cX5_init 56 = .ok (.aload_n 0, 1) := by decide +kernel
theorem dX5_init_57 : decode cX5_init 57 = .ok (.iconst 2, 1) := by decide +kernel
theorem dX5_init_58 : decode cX5_init 58 = .ok (.newarray .boolean, 2) := by decide +kernel
theorem dX5_init_60 : decode cX5_init 60 = .ok (.putfield 37, 3) := by decide +kernel
theorem dX5_init_63 : decode cX5_init 63 = .ok (.iconst 0, 1) := by decide +kernel
theorem dX5_init_64 : decode cX5_init 64 = .ok (.istore_n 1, 1) := by decide +kernel
theorem dX5_init_65 : decode cX5_init 65 = .ok (.iload_n 1, 1) := by decide +kernel
theorem dX5_init_66 : decode cX5_init 66 = .ok (.iconst 2, 1) := by decide +kernel
theorem dX5_init_67 : decode cX5_init 67 = .ok (.if_icmp .ge 22, 3) := by decide +kernel
theorem dX5_init_70 : decode cX5_init 70 = .ok (.aload_n 0, 1) := by decide +kernel
theorem dX5_init_71 : decode cX5_init 71 = .ok (.getfield 33, 3) := by decide +kernel
theorem dX5_init_74 : decode cX5_init 74 = .ok (.iload_n 1, 1) := by decide +kernel
theorem dX5_init_75 : decode cX5_init 75 = .ok (.new 16, 3) := by decide +kernel
theorem dX5_init_78 : decode cX5_init 78 = .ok (.dup, 1) := by decide +kernel
theorem dX5_init_79 : decode cX5_init 79 = .ok (.invokespecial 18, 3) := by decide +kernel
theorem dX5_init_82 : decode cX5_init 82 = .ok (.aastore, 1) := by decide +kernel
theorem dX5_init_83 : decode cX5_init 83 = .ok (.iinc 1 1, 3) := by decide +kernel
theorem dX5_init_86 : decode cX5_init 86 = .ok (.goto (-21), 3) := by decide +kernel
theorem dX5_init_89 : decode cX5_init 89 = .ok (.return_, 1) := by decide +kernel
def dR : Nat → Value := fun k => match k with
  | 0 => .null
  | 1 => .int 0
  | 2 => .int 0
  | 3 => .int 0
  | 4 => .int 0
  | 5 => .int 0
  | 6 => .int 0
  | 7 => .int 0
  | 8 => .int 0
  | _ => .null
def dL : Nat → Value := fun k => match k with
  | 0 => .null
  | 1 => .null
  | 2 => .null
  | 3 => .null
  | 4 => .null
  | 5 => .null
  | 6 => .int 0
  | 7 => .int 0
  | 8 => .int 0
  | 9 => .int 0
  | 10 => .int 0
  | _ => .null
def dX : Nat → Value := fun k => match k with
  | 0 => .null
  | 1 => .int 0
  | 2 => .int 0
  | 3 => .int 0
  | 4 => .int 0
  | 5 => .int 0
  | 6 => .int 0
  | 7 => .int 0
  | _ => .null
def dS : Nat → Value := fun k => match k with
  | 0 => .null
  | 1 => .null
  | 2 => .null
  | 3 => .int 0
  | 4 => .int 0
  | 5 => .int 0
  | 6 => .int 0
  | _ => .null
def dH : Nat → Value := fun k => match k with
  | 0 => .null
  | 1 => .int 0
  | 2 => .int 0
  | _ => .null
def dT : Nat → Value := fun k => match k with
  | 0 => .null
  | 1 => .null
  | 2 => .null
  | 3 => .null
  | 4 => .null
  | 5 => .null
  | _ => .null
theorem wa_int : Cond.arrayClass .int ∈ zgt := zgt_at 118 (by decide +kernel) (by decide +kernel)
theorem wa_bool : Cond.arrayClass .boolean ∈ zgt := zgt_at 252 (by decide +kernel) (by decide +kernel)
theorem wa_char : Cond.arrayClass .char ∈ zgt := zgt_at 58 (by decide +kernel) (by decide +kernel)
theorem wo_c : Cond.code objectInit ⟨#[0xb1]⟩ 1 none ∈ zgt := (zgt_at 26 (by decide +kernel) (by decide +kernel))
theorem wo_i : Cond.instanceMethod objectInit ∈ zgt := (zgt_at 25 (by decide +kernel) (by decide +kernel))
abbrev R00 : RT := ((fun _ => 0), 0, 0, 0, 0, 0, 0, 0, 0)
theorem dR_o (b0 : Nat) : updV (dR) 0 (.ref (b0 + 1)) = oR b0 R00 := by
  funext k
  match k with
  | 0 => rfl
  | 1 => rfl
  | 2 => rfl
  | 3 => rfl
  | 4 => rfl
  | 5 => rfl
  | 6 => rfl
  | 7 => rfl
  | 8 => rfl
  | k + 9 => simp [updV, dR, oR]
theorem R_intro {b : Nat} {x : RT} {G : zG} (h0 : G b = some (2, 9, oR b x)) (h1 : G (b + 1) = some (zia 8 (R_values x))) : RA b x G := by
  intro i hi
  match i with
  | 0 => exact h0
  | 1 => exact h1
  | i + 2 => exact absurd hi (by omega)
theorem wo_R : Cond.methodLink RX2 3 objectInit ∈ zgt := (zgt_at 125 (by decide +kernel) (by decide +kernel))
set_option maxRecDepth 100000 in
theorem s_R_init {l : Launch} {D : zD} {B : Nat} {sa : Nat → Nat} (hfl : l.stackTraces = false) {G : zG} {b0 : Nat} (h0 : G b0 = some (2, 9, dR)) : zSp l D B sa yX2_init cX2_init 1 none 1 20 1 8 [.ref b0] (b0 + 1) G (zRv fun z' G' => z' = b0 + 2 ∧ RA b0 R00 G' ∧ Fr b0 2 G G') := by
  refine z_ofW (by decide +kernel) hfl [some (.ref b0)] rfl (Nat.le_of_ble_eq_true rfl) (fun p e s m args below meth c O hret hlk hnm => ?_)
  have O : zO p l s m args c D B sa 1 cX2_init RX2 := O
  have hini : meth.name = "<init>" := hnm
  refine z_aload_n O dX2_init_0 rfl rfl ?_
  refine z_objInit O wo_R wo_i wo_c dX2_init_1 (Nat.le_of_ble_eq_true rfl) (Nat.le_of_ble_eq_true rfl) ?_
  refine z_aload_n O dX2_init_4 rfl rfl ?_
  refine z_bipush (v := 8) O dX2_init_5 (by decide) ?_
  refine y_newa (kd := 100) (t0 := 0) (N := 8) (ty := .int) O (by decide) (by decide) rfl rfl (fun q => q) wa_int dX2_init_7 (by decide) (by decide) (Nat.le_of_ble_eq_true rfl) (Nat.le_of_ble_eq_true rfl) (Nat.le_of_ble_eq_true rfl) rfl (fun Ga0 hGa0 => ?_)
  have o0 := hGa0.2 b0 (by omega)
  rw [h0] at o0
  refine y_putF O wp_RX2_9 hini dX2_init_9 o0 rfl rfl (fun Gb0 hGb0 => ?_)
  have p0 := hGb0.1
  have a1 := (hGb0.2 _ (by omega)).trans hGa0.1
  have f0 : ∀ x, ¬ (b0 ≤ x ∧ x < b0 + 2) → Gb0 x = G x := fun x hx => (hGb0.2 x (by omega)).trans (hGa0.2 x (by omega))
  rw [dR_o] at p0
  exact z_vret O hret hlk dX2_init_12 (Nat.le_of_ble_eq_true rfl) (Nat.le_of_ble_eq_true rfl) ⟨rfl, rfl, R_intro p0 a1, fun x hx => (f0 x hx)⟩
abbrev L00 : LT := ((fun _ => 0), (fun _ => 0), (fun _ => 0), (fun _ => 0), (fun _ => 0), (fun _ => 0), 0, 0, 0, 0, 0)
theorem dL_o (b0 : Nat) : updV (updV (updV (updV (updV (updV (dL) 0 (.ref (b0 + 1))) 1 (.ref (b0 + 2))) 2 (.ref (b0 + 3))) 3 (.ref (b0 + 4))) 4 (.ref (b0 + 5))) 5 (.ref (b0 + 6)) = oL b0 L00 := by
  funext k
  match k with
  | 0 => rfl
  | 1 => rfl
  | 2 => rfl
  | 3 => rfl
  | 4 => rfl
  | 5 => rfl
  | 6 => rfl
  | 7 => rfl
  | 8 => rfl
  | 9 => rfl
  | 10 => rfl
  | k + 11 => simp [updV, dL, oL]
theorem L_intro {b : Nat} {x : LT} {G : zG} (h0 : G b = some (1, 11, oL b x)) (h1 : G (b + 1) = some (zia 200 (L_keys x))) (h2 : G (b + 2) = some (zia 200 (L_values x))) (h3 : G (b + 3) = some (zia 200 (L_times x))) (h4 : G (b + 4) = some (zia 201 (L_lengthsBelow x))) (h5 : G (b + 5) = some (zia 200 (L_starts x))) (h6 : G (b + 6) = some (zia 8 (L_dropValues x))) : LA b x G := by
  intro i hi
  match i with
  | 0 => exact h0
  | 1 => exact h1
  | 2 => exact h2
  | 3 => exact h3
  | 4 => exact h4
  | 5 => exact h5
  | 6 => exact h6
  | i + 7 => exact absurd hi (by omega)
theorem wo_L : Cond.methodLink RX1 3 objectInit ∈ zgt := (zgt_at 70 (by decide +kernel) (by decide +kernel))
set_option maxRecDepth 100000 in
theorem s_L_init {l : Launch} {D : zD} {B : Nat} {sa : Nat → Nat} (hfl : l.stackTraces = false) {G : zG} {b0 : Nat} (h0 : G b0 = some (1, 11, dL)) : zSp l D B sa yX1_init cX1_init 1 none 1 20 6 1009 [.ref b0] (b0 + 1) G (zRv fun z' G' => z' = b0 + 7 ∧ LA b0 L00 G' ∧ Fr b0 7 G G') := by
  refine z_ofW (by decide +kernel) hfl [some (.ref b0)] rfl (Nat.le_of_ble_eq_true rfl) (fun p e s m args below meth c O hret hlk hnm => ?_)
  have O : zO p l s m args c D B sa 1 cX1_init RX1 := O
  have hini : meth.name = "<init>" := hnm
  refine z_aload_n O dX1_init_0 rfl rfl ?_
  refine z_objInit O wo_L wo_i wo_c dX1_init_1 (Nat.le_of_ble_eq_true rfl) (Nat.le_of_ble_eq_true rfl) ?_
  refine z_aload_n O dX1_init_4 rfl rfl ?_
  refine z_sipush (v := 200) O dX1_init_5 (by decide) ?_
  refine y_newa (kd := 100) (t0 := 0) (N := 200) (ty := .int) O (by decide) (by decide) rfl rfl (fun q => q) wa_int dX1_init_8 (by decide) (by decide) (Nat.le_of_ble_eq_true rfl) (Nat.le_of_ble_eq_true rfl) (Nat.le_of_ble_eq_true rfl) rfl (fun Ga0 hGa0 => ?_)
  have o0 := hGa0.2 b0 (by omega)
  rw [h0] at o0
  refine y_putF O wp_RX1_9 hini dX1_init_10 o0 rfl rfl (fun Gb0 hGb0 => ?_)
  have p0 := hGb0.1
  have a1 := (hGb0.2 _ (by omega)).trans hGa0.1
  have f0 : ∀ x, ¬ (b0 ≤ x ∧ x < b0 + 7) → Gb0 x = G x := fun x hx => (hGb0.2 x (by omega)).trans (hGa0.2 x (by omega))
  refine z_aload_n O dX1_init_13 rfl rfl ?_
  refine z_sipush (v := 200) O dX1_init_14 (by decide) ?_
  refine y_newa (kd := 100) (t0 := 0) (N := 200) (ty := .int) O (by decide) (by decide) rfl rfl (fun q => q) wa_int dX1_init_17 (by decide) (by decide) (Nat.le_of_ble_eq_true rfl) (Nat.le_of_ble_eq_true rfl) (Nat.le_of_ble_eq_true rfl) rfl (fun Ga1 hGa1 => ?_)
  have o1 := hGa1.2 b0 (by omega)
  rw [p0] at o1
  refine y_putF O wp_RX1_15 hini dX1_init_19 o1 rfl rfl (fun Gb1 hGb1 => ?_)
  have p1 := hGb1.1
  have a1 := ((hGb1.2 _ (by omega)).trans (hGa1.2 _ (by omega))).trans a1
  have a2 := (hGb1.2 _ (by omega)).trans hGa1.1
  have f1 : ∀ x, ¬ (b0 ≤ x ∧ x < b0 + 7) → Gb1 x = Gb0 x := fun x hx => (hGb1.2 x (by omega)).trans (hGa1.2 x (by omega))
  refine z_aload_n O dX1_init_22 rfl rfl ?_
  refine z_sipush (v := 200) O dX1_init_23 (by decide) ?_
  refine y_newa (kd := 100) (t0 := 0) (N := 200) (ty := .int) O (by decide) (by decide) rfl rfl (fun q => q) wa_int dX1_init_26 (by decide) (by decide) (Nat.le_of_ble_eq_true rfl) (Nat.le_of_ble_eq_true rfl) (Nat.le_of_ble_eq_true rfl) rfl (fun Ga2 hGa2 => ?_)
  have o2 := hGa2.2 b0 (by omega)
  rw [p1] at o2
  refine y_putF O wp_RX1_18 hini dX1_init_28 o2 rfl rfl (fun Gb2 hGb2 => ?_)
  have p2 := hGb2.1
  have a1 := ((hGb2.2 _ (by omega)).trans (hGa2.2 _ (by omega))).trans a1
  have a2 := ((hGb2.2 _ (by omega)).trans (hGa2.2 _ (by omega))).trans a2
  have a3 := (hGb2.2 _ (by omega)).trans hGa2.1
  have f2 : ∀ x, ¬ (b0 ≤ x ∧ x < b0 + 7) → Gb2 x = Gb1 x := fun x hx => (hGb2.2 x (by omega)).trans (hGa2.2 x (by omega))
  refine z_aload_n O dX1_init_31 rfl rfl ?_
  refine z_sipush (v := 201) O dX1_init_32 (by decide) ?_
  refine y_newa (kd := 100) (t0 := 0) (N := 201) (ty := .int) O (by decide) (by decide) rfl rfl (fun q => q) wa_int dX1_init_35 (by decide) (by decide) (Nat.le_of_ble_eq_true rfl) (Nat.le_of_ble_eq_true rfl) (Nat.le_of_ble_eq_true rfl) rfl (fun Ga3 hGa3 => ?_)
  have o3 := hGa3.2 b0 (by omega)
  rw [p2] at o3
  refine y_putF O wp_RX1_21 hini dX1_init_37 o3 rfl rfl (fun Gb3 hGb3 => ?_)
  have p3 := hGb3.1
  have a1 := ((hGb3.2 _ (by omega)).trans (hGa3.2 _ (by omega))).trans a1
  have a2 := ((hGb3.2 _ (by omega)).trans (hGa3.2 _ (by omega))).trans a2
  have a3 := ((hGb3.2 _ (by omega)).trans (hGa3.2 _ (by omega))).trans a3
  have a4 := (hGb3.2 _ (by omega)).trans hGa3.1
  have f3 : ∀ x, ¬ (b0 ≤ x ∧ x < b0 + 7) → Gb3 x = Gb2 x := fun x hx => (hGb3.2 x (by omega)).trans (hGa3.2 x (by omega))
  refine z_aload_n O dX1_init_40 rfl rfl ?_
  refine z_sipush (v := 200) O dX1_init_41 (by decide) ?_
  refine y_newa (kd := 100) (t0 := 0) (N := 200) (ty := .int) O (by decide) (by decide) rfl rfl (fun q => q) wa_int dX1_init_44 (by decide) (by decide) (Nat.le_of_ble_eq_true rfl) (Nat.le_of_ble_eq_true rfl) (Nat.le_of_ble_eq_true rfl) rfl (fun Ga4 hGa4 => ?_)
  have o4 := hGa4.2 b0 (by omega)
  rw [p3] at o4
  refine y_putF O wp_RX1_24 hini dX1_init_46 o4 rfl rfl (fun Gb4 hGb4 => ?_)
  have p4 := hGb4.1
  have a1 := ((hGb4.2 _ (by omega)).trans (hGa4.2 _ (by omega))).trans a1
  have a2 := ((hGb4.2 _ (by omega)).trans (hGa4.2 _ (by omega))).trans a2
  have a3 := ((hGb4.2 _ (by omega)).trans (hGa4.2 _ (by omega))).trans a3
  have a4 := ((hGb4.2 _ (by omega)).trans (hGa4.2 _ (by omega))).trans a4
  have a5 := (hGb4.2 _ (by omega)).trans hGa4.1
  have f4 : ∀ x, ¬ (b0 ≤ x ∧ x < b0 + 7) → Gb4 x = Gb3 x := fun x hx => (hGb4.2 x (by omega)).trans (hGa4.2 x (by omega))
  refine z_aload_n O dX1_init_49 rfl rfl ?_
  refine z_bipush (v := 8) O dX1_init_50 (by decide) ?_
  refine y_newa (kd := 100) (t0 := 0) (N := 8) (ty := .int) O (by decide) (by decide) rfl rfl (fun q => q) wa_int dX1_init_52 (by decide) (by decide) (Nat.le_of_ble_eq_true rfl) (Nat.le_of_ble_eq_true rfl) (Nat.le_of_ble_eq_true rfl) rfl (fun Ga5 hGa5 => ?_)
  have o5 := hGa5.2 b0 (by omega)
  rw [p4] at o5
  refine y_putF O wp_RX1_27 hini dX1_init_54 o5 rfl rfl (fun Gb5 hGb5 => ?_)
  have p5 := hGb5.1
  have a1 := ((hGb5.2 _ (by omega)).trans (hGa5.2 _ (by omega))).trans a1
  have a2 := ((hGb5.2 _ (by omega)).trans (hGa5.2 _ (by omega))).trans a2
  have a3 := ((hGb5.2 _ (by omega)).trans (hGa5.2 _ (by omega))).trans a3
  have a4 := ((hGb5.2 _ (by omega)).trans (hGa5.2 _ (by omega))).trans a4
  have a5 := ((hGb5.2 _ (by omega)).trans (hGa5.2 _ (by omega))).trans a5
  have a6 := (hGb5.2 _ (by omega)).trans hGa5.1
  have f5 : ∀ x, ¬ (b0 ≤ x ∧ x < b0 + 7) → Gb5 x = Gb4 x := fun x hx => (hGb5.2 x (by omega)).trans (hGa5.2 x (by omega))
  rw [dL_o] at p5
  exact z_vret O hret hlk dX1_init_57 (Nat.le_of_ble_eq_true rfl) (Nat.le_of_ble_eq_true rfl) ⟨rfl, rfl, L_intro p5 a1 a2 a3 a4 a5 a6, fun x hx => (f5 x hx).trans ((f4 x hx).trans ((f3 x hx).trans ((f2 x hx).trans ((f1 x hx).trans ((f0 x hx))))))⟩
abbrev X00 : XT := ((fun _ => 0), 0, 0, 0, 0, 0, 0, 0)
theorem dX_o (b0 : Nat) : updV (dX) 0 (.ref (b0 + 1)) = oX b0 X00 := by
  funext k
  match k with
  | 0 => rfl
  | 1 => rfl
  | 2 => rfl
  | 3 => rfl
  | 4 => rfl
  | 5 => rfl
  | 6 => rfl
  | 7 => rfl
  | k + 8 => simp [updV, dX, oX]
theorem X_intro {b : Nat} {x : XT} {G : zG} (h0 : G b = some (4, 8, oX b x)) (h1 : G (b + 1) = some (zca 120 (X_signs x))) : XA b x G := by
  intro i hi
  match i with
  | 0 => exact h0
  | 1 => exact h1
  | i + 2 => exact absurd hi (by omega)
theorem wo_X : Cond.methodLink RX4 3 objectInit ∈ zgt := (zgt_at 32 (by decide +kernel) (by decide +kernel))
set_option maxRecDepth 100000 in
theorem s_X_init {l : Launch} {D : zD} {B : Nat} {sa : Nat → Nat} (hfl : l.stackTraces = false) {G : zG} {b0 : Nat} (h0 : G b0 = some (4, 8, dX)) : zSp l D B sa yX4_init cX4_init 1 none 1 20 1 120 [.ref b0] (b0 + 1) G (zRv fun z' G' => z' = b0 + 2 ∧ XA b0 X00 G' ∧ Fr b0 2 G G') := by
  refine z_ofW (by decide +kernel) hfl [some (.ref b0)] rfl (Nat.le_of_ble_eq_true rfl) (fun p e s m args below meth c O hret hlk hnm => ?_)
  have O : zO p l s m args c D B sa 1 cX4_init RX4 := O
  have hini : meth.name = "<init>" := hnm
  refine z_aload_n O dX4_init_0 rfl rfl ?_
  refine z_objInit O wo_X wo_i wo_c dX4_init_1 (Nat.le_of_ble_eq_true rfl) (Nat.le_of_ble_eq_true rfl) ?_
  refine z_aload_n O dX4_init_4 rfl rfl ?_
  refine z_bipush (v := 120) O dX4_init_5 (by decide) ?_
  refine y_newa (kd := 102) (t0 := 2) (N := 120) (ty := .char) O (by decide) (by decide) rfl rfl (fun q => q) wa_char dX4_init_7 (by decide) (by decide) (Nat.le_of_ble_eq_true rfl) (Nat.le_of_ble_eq_true rfl) (Nat.le_of_ble_eq_true rfl) rfl (fun Ga0 hGa0 => ?_)
  have o0 := hGa0.2 b0 (by omega)
  rw [h0] at o0
  refine y_putF O wp_RX4_9 hini dX4_init_9 o0 rfl rfl (fun Gb0 hGb0 => ?_)
  have p0 := hGb0.1
  have a1 := (hGb0.2 _ (by omega)).trans hGa0.1
  have f0 : ∀ x, ¬ (b0 ≤ x ∧ x < b0 + 2) → Gb0 x = G x := fun x hx => (hGb0.2 x (by omega)).trans (hGa0.2 x (by omega))
  rw [dX_o] at p0
  exact z_vret O hret hlk dX4_init_12 (Nat.le_of_ble_eq_true rfl) (Nat.le_of_ble_eq_true rfl) ⟨rfl, rfl, X_intro p0 a1, fun x hx => (f0 x hx)⟩
