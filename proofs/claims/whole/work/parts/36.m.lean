theorem dX6_readSet_0 : decode cX6_readSet 0 = .ok (.aload_n 0, 1) := by decide +kernel
theorem dX6_readSet_1 : decode cX6_readSet 1 = .ok (.iconst 0, 1) := by decide +kernel
theorem dX6_readSet_2 : decode cX6_readSet 2 = .ok (.iconst 5, 1) := by decide +kernel
theorem dX6_readSet_3 : decode cX6_readSet 3 = .ok (.invokevirtual 154, 3) := by decide +kernel
theorem dX6_readSet_6 : decode cX6_readSet 6 = .ok (.istore_n 1, 1) := by decide +kernel
theorem dX6_readSet_7 : decode cX6_readSet 7 = .ok (.aload_n 0, 1) := by decide +kernel
theorem dX6_readSet_8 : decode cX6_readSet 8 = .ok (.iconst 0, 1) := by decide +kernel
theorem dX6_readSet_9 : decode cX6_readSet 9 = .ok (.iconst 4, 1) := by decide +kernel
theorem dX6_readSet_10 : decode cX6_readSet 10 = .ok (.invokevirtual 154, 3) := by decide +kernel
theorem dX6_readSet_13 : decode cX6_readSet 13 = .ok (.istore_n 2, 1) := by decide +kernel
theorem dX6_readSet_14 : decode cX6_readSet 14 = .ok (.iload_n 2, 1) := by decide +kernel
theorem dX6_readSet_15 : decode cX6_readSet 15 = .ok (.iconst 4, 1) := by decide +kernel
theorem dX6_readSet_16 : decode cX6_readSet 16 = .ok (.if_icmp .ne 7, 3) := by decide +kernel
theorem dX6_readSet_19 : decode cX6_readSet 19 = .ok (.iconst 0, 1) := by decide +kernel
theorem dX6_readSet_20 : decode cX6_readSet 20 = .ok (.goto 5, 3) := by decide +kernel
theorem dX6_readSet_23 : decode cX6_readSet 23 = .ok (.bipush 9, 2) := by decide +kernel
theorem dX6_readSet_25 : decode cX6_readSet 25 = .ok (.istore_n 3, 1) := by decide +kernel
theorem dX6_readSet_26 : decode cX6_readSet 26 = .ok (.iconst 0, 1) := by decide +kernel
theorem dX6_readSet_27 : decode cX6_readSet 27 = .ok (.istore 4, 2) := by decide +kernel
theorem dX6_readSet_29 : decode cX6_readSet 29 = .ok (.iload 4, 2) := by decide +kernel
theorem dX6_readSet_31 : decode cX6_readSet 31 = .ok (.iconst 3, 1) := by decide +kernel
theorem dX6_readSet_32 : decode cX6_readSet 32 = .ok (.if_icmp .ge 21, 3) := by decide +kernel
theorem dX6_readSet_35 : decode cX6_readSet 35 = .ok (.bipush 10, 2) := by decide +kernel
theorem dX6_readSet_37 : decode cX6_readSet 37 = .ok (.iload_n 2, 1) := by decide +kernel
theorem dX6_readSet_38 : decode cX6_readSet 38 = .ok (.imul, 1) := by decide +kernel
theorem dX6_readSet_39 : decode cX6_readSet 39 = .ok (.aload_n 0, 1) := by decide +kernel
theorem dX6_readSet_40 : decode cX6_readSet 40 = .ok (.iconst 0, 1) := by decide +kernel
theorem dX6_readSet_41 : decode cX6_readSet 41 = .ok (.iload_n 3, 1) := by decide +kernel
theorem dX6_readSet_42 : decode cX6_readSet 42 = .ok (.invokevirtual 154, 3) := by decide +kernel
theorem dX6_readSet_45 : decode cX6_readSet 45 = .ok (.iadd, 1) := by decide +kernel
theorem dX6_readSet_46 : decode cX6_readSet 46 = .ok (.istore_n 2, 1) := by decide +kernel
theorem dX6_readSet_47 : decode cX6_readSet 47 = .ok (.iinc 4 1, 3) := by decide +kernel
theorem dX6_readSet_50 : decode cX6_readSet 50 = .ok (.goto (-21), 3) := by decide +kernel
theorem dX6_readSet_53 : decode cX6_readSet 53 = .ok (.aload_n 0, 1) := by decide +kernel
theorem dX6_readSet_54 : decode cX6_readSet 54 = .ok (.iload_n 1, 1) := by decide +kernel
theorem dX6_readSet_55 : decode cX6_readSet 55 = .ok (.iload_n 2, 1) := by decide +kernel
theorem dX6_readSet_56 : decode cX6_readSet 56 = .ok (.invokestatic 195, 3) := by decide +kernel
theorem dX6_readSet_59 : decode cX6_readSet 59 = .ok (.invokevirtual 164, 3) := by decide +kernel
theorem dX6_readSet_62 : decode cX6_readSet 62 = .ok (.ifCond .eq 13, 3) := by decide +kernel
theorem dX6_readSet_65 : decode cX6_readSet 65 = .ok (.aload_n 0, 1) := by decide +kernel
theorem dX6_readSet_66 : decode cX6_readSet 66 = .ok (.getfield 16, 3) := by decide +kernel
theorem dX6_readSet_69 : decode cX6_readSet 69 = .ok (.iload_n 1, 1) := by decide +kernel
theorem dX6_readSet_70 : decode cX6_readSet 70 = .ok (.iload_n 2, 1) := by decide +kernel
theorem dX6_readSet_71 : decode cX6_readSet 71 = .ok (.invokestatic 199, 3) := by decide +kernel
theorem dX6_readSet_74 : decode cX6_readSet 74 = .ok (.pop, 1) := by decide +kernel
theorem dX6_readSet_75 : decode cX6_readSet 75 = .ok (.return_, 1) := by decide +kernel
def PL_M_readSet_29 : Nat → Int32 → Int32 → Int32 → Int32 → MT → (MT → Prop) → Prop
  | 0, _, _, _, _, _, _ => False
  | n + 1, y1, y2, y3, y4, v0, Q => ((3 ≤ y4 → P_M_isSetting y1 y2 (fun r19_ => (P_M_goes r19_ v0 (fun r23_ v27_ => (((r23_ = 0 → Q v27_) ∧ (¬ r23_ = 0 → P_M_put y1 y2 (M_read v27_) (fun r32_ v36_ => (∀ v41_, v41_ = (M_set_read v27_ v36_) → (Q v41_)))))))))) ∧ (¬ 3 ≤ y4 → P_M_digit 0 y3 v0 (fun r44_ v48_ => ((fun y1 y2 y3 y4 v0 => PL_M_readSet_29 n  y1 y2 y3 y4 v0  Q) y1 ((10 * y2) + r44_) y3 (y4 + 1) v48_))))
def P_M_readSet (v0 : MT) (Q : MT → Prop) : Prop := P_M_digit 0 5 v0 (fun r1_ v5_ => (P_M_digit 0 4 v5_ (fun r9_ v13_ => (((¬ r9_ = 4 → (∃ n52_, PL_M_readSet_29 n52_ r1_ r9_ 9 0 v13_ Q)) ∧ (r9_ = 4 → (∃ n53_, PL_M_readSet_29 n53_ r1_ r9_ 0 0 v13_ Q)))))))
set_option maxRecDepth 100000 in
theorem s_M_readSet {l : Launch} {D : zD} {B : Nat} {sa : Nat → Nat} (hfl : l.stackTraces = false) {z : Nat} {G : zG} {b0 : Nat} {v0 : MT} {Q : MT → Prop} (h0 : MA b0 v0 G) (h : P_M_readSet v0 Q) : zSp l D B sa yX6_readSet cX6_readSet 5 none 2 48 0 0 [.ref b0] z G (zRv fun z' G' => z = z' ∧ ∃ w, MA b0 w G' ∧ Fr b0 8 G G' ∧ Q w) := by
  unfold P_M_readSet at h
  refine z_ofW (by decide +kernel) hfl [some (.ref b0), none, none, none, none] rfl (Nat.le_of_ble_eq_true rfl) (fun p e s m args below meth c O hret hlk hnm => ?_)
  have O : zO p l s m args c D B sa 5 cX6_readSet RX6 := O
  have HL29 : ∀ (n9 : Nat)    (y1 : Int32) (y2 : Int32) (y3 : Int32) (y4 : Int32) (v0 : MT) (G9 : zG) (g0 : MA b0 v0 G9) (gF : Fr b0 8 G G9) (h : PL_M_readSet_29 n9 y1 y2 y3 y4 v0 Q), zT p l e (zrm 2 48 0 0) s m args below meth c (zEnd below D B (zRv fun z' G' => z = z' ∧ ∃ w, MA b0 w G' ∧ Fr b0 8 G G' ∧ Q w) args s 0 0) D B 5 0 0 29 [] [some (.ref b0), some (.int y1), some (.int y2), some (.int y3), some (.int y4)] z G9 := by
    intro n9   
    induction n9 with
    | zero =>
      intro _ _ _ _ _ _ _ _ h
      exact (h : False).elim
    | succ n ih =>
      intro y1 y2 y3 y4 v0 G9 g0 gF h
      rw [PL_M_readSet_29] at h
      refine z_iload O dX6_readSet_29 rfl ?_
      refine z_iconst (v := 3) O dX6_readSet_31 (by decide) ?_
      refine z_icmp_ge (tgt := 53) O dX6_readSet_32 (by decide) (fun c18_ => ?_) (fun c18_ => ?_)
      · have h := h.1 c18_
        refine z_aload_n O dX6_readSet_53 rfl rfl ?_
        refine z_iload_n O dX6_readSet_54 rfl rfl ?_
        refine z_iload_n O dX6_readSet_55 rfl rfl ?_
        refine z_callSi (As := [.int y1, .int y2]) (st := [.ref b0]) O (s_M_isSetting hfl h) wy_X6_isSetting wl_RX6_195 dX6_readSet_56 rfl rfl ⟨Nat.le_of_ble_eq_true rfl, Nat.le_of_ble_eq_true rfl⟩ (Nat.le_of_ble_eq_true rfl) ⟨Nat.le_of_ble_eq_true rfl, Nat.le_of_ble_eq_true rfl⟩ (fun r19_ z20_ G21_ hq22_ => ?_)
        obtain ⟨rfl, rfl, h⟩ := hq22_
        refine z_callVi (As := [.int r19_]) (st := []) O (s_M_goes hfl g0 h) wy_X6_goes wl_RX6_164 dX6_readSet_59 rfl rfl (M_obj g0) ⟨by decide, rfl⟩ ⟨Nat.le_of_ble_eq_true rfl, Nat.le_of_ble_eq_true rfl⟩ (Nat.le_of_ble_eq_true rfl) ⟨Nat.le_of_ble_eq_true rfl, Nat.le_of_ble_eq_true rfl⟩ (fun r23_ z24_ G25_ hq26_ => ?_)
        obtain ⟨rfl, v27_, k28_, f29_, h⟩ := hq26_
        have F30_ : Fr b0 8 G G25_ := Fr.trans gF f29_
        refine z_if_eq (tgt := 75) O dX6_readSet_62 (by decide) (fun c31_ => ?_) (fun c31_ => ?_)
        · have h := h.1 c31_
          exact z_vret O hret hlk dX6_readSet_75 (Nat.le_of_ble_eq_true rfl) (Nat.le_of_ble_eq_true rfl) ⟨rfl, rfl, _, k28_, F30_, h⟩
        · have h := h.2 c31_
          refine z_aload_n O dX6_readSet_65 rfl rfl ?_
          refine z_get (v := .ref (b0 + 3)) O wf_RX6_16 dX6_readSet_66 (M_obj k28_) rfl ?_
          refine z_iload_n O dX6_readSet_69 rfl rfl ?_
          refine z_iload_n O dX6_readSet_70 rfl rfl ?_
          refine z_callSi (As := [.ref (b0 + 3), .int y1, .int y2]) (st := []) O (s_M_put hfl (M_read_of k28_) h) wy_X6_put wl_RX6_199 dX6_readSet_71 rfl rfl ⟨Nat.le_of_ble_eq_true rfl, Nat.le_of_ble_eq_true rfl⟩ (Nat.le_of_ble_eq_true rfl) ⟨Nat.le_of_ble_eq_true rfl, Nat.le_of_ble_eq_true rfl⟩ (fun r32_ z33_ G34_ hq35_ => ?_)
          obtain ⟨rfl, v36_, k37_, f38_, h⟩ := hq35_
          have k39_ := M_put_read k28_ k37_ f38_
          have f40_ : Fr b0 8 G25_ G34_ := Fr.mono f38_ (by omega) (by omega)
          obtain ⟨v41_, ev41_⟩ : ∃ w, w = (M_set_read v27_ v36_) := ⟨_, rfl⟩
          have h := h v41_ ev41_
          have k42_ : MA b0 v41_ G34_ := by rw [ev41_]; exact k39_
          have F43_ : Fr b0 8 G G34_ := Fr.trans F30_ f40_
          refine z_pop O dX6_readSet_74 rfl ?_
          exact z_vret O hret hlk dX6_readSet_75 (Nat.le_of_ble_eq_true rfl) (Nat.le_of_ble_eq_true rfl) ⟨rfl, rfl, _, k42_, F43_, h⟩
      · have h := h.2 c18_
        refine z_bipush (v := 10) O dX6_readSet_35 (by decide) ?_
        refine z_iload_n O dX6_readSet_37 rfl rfl ?_
        refine z_imul O dX6_readSet_38 ?_
        refine z_aload_n O dX6_readSet_39 rfl rfl ?_
        refine z_iconst (v := 0) O dX6_readSet_40 (by decide) ?_
        refine z_iload_n O dX6_readSet_41 rfl rfl ?_
        refine z_callVi (As := [.int 0, .int y3]) (st := [.int (10 * y2)]) O (s_M_digit hfl g0 h) wy_X6_digit wl_RX6_154 dX6_readSet_42 rfl rfl (M_obj g0) ⟨by decide, rfl⟩ ⟨Nat.le_of_ble_eq_true rfl, Nat.le_of_ble_eq_true rfl⟩ (Nat.le_of_ble_eq_true rfl) ⟨Nat.le_of_ble_eq_true rfl, Nat.le_of_ble_eq_true rfl⟩ (fun r44_ z45_ G46_ hq47_ => ?_)
        obtain ⟨rfl, v48_, k49_, f50_, h⟩ := hq47_
        have F51_ : Fr b0 8 G G46_ := Fr.trans gF f50_
        refine z_iadd O dX6_readSet_45 ?_
        refine z_istore_n (L' := [some (.ref b0), some (.int y1), some (.int ((10 * y2) + r44_)), some (.int y3), some (.int y4)]) O dX6_readSet_46 rfl (by decide) rfl ?_
        refine z_iinc (v := (y4 + 1)) (L' := [some (.ref b0), some (.int y1), some (.int ((10 * y2) + r44_)), some (.int y3), some (.int (y4 + 1))]) O dX6_readSet_47 rfl (by first | rfl | decide) (by decide) rfl ?_
        refine z_goto (tgt := 29) O dX6_readSet_50 (by decide) ?_
        exact z_subL (L' := [some (.ref b0), some (.int y1), some (.int ((10 * y2) + r44_)), some (.int y3), some (.int (y4 + 1))]) (zLe.sub (And.intro rfl (And.intro rfl (And.intro rfl (And.intro rfl (And.intro rfl True.intro)))))) (ih y1 ((10 * y2) + r44_) y3 (y4 + 1) v48_ G46_ k49_ F51_ h)
  refine z_aload_n O dX6_readSet_0 rfl rfl ?_
  refine z_iconst (v := 0) O dX6_readSet_1 (by decide) ?_
  refine z_iconst (v := 5) O dX6_readSet_2 (by decide) ?_
  refine z_callVi (As := [.int 0, .int 5]) (st := []) O (s_M_digit hfl h0 h) wy_X6_digit wl_RX6_154 dX6_readSet_3 rfl rfl (M_obj h0) ⟨by decide, rfl⟩ ⟨Nat.le_of_ble_eq_true rfl, Nat.le_of_ble_eq_true rfl⟩ (Nat.le_of_ble_eq_true rfl) ⟨Nat.le_of_ble_eq_true rfl, Nat.le_of_ble_eq_true rfl⟩ (fun r1_ z2_ G3_ hq4_ => ?_)
  obtain ⟨rfl, v5_, k6_, f7_, h⟩ := hq4_
  have F8_ : Fr b0 8 G G3_ := Fr.trans Fr.rf f7_
  refine z_istore_n (L' := [some (.ref b0), some (.int r1_), none, none, none]) O dX6_readSet_6 rfl (by decide) rfl ?_
  refine z_aload_n O dX6_readSet_7 rfl rfl ?_
  refine z_iconst (v := 0) O dX6_readSet_8 (by decide) ?_
  refine z_iconst (v := 4) O dX6_readSet_9 (by decide) ?_
  refine z_callVi (As := [.int 0, .int 4]) (st := []) O (s_M_digit hfl k6_ h) wy_X6_digit wl_RX6_154 dX6_readSet_10 rfl rfl (M_obj k6_) ⟨by decide, rfl⟩ ⟨Nat.le_of_ble_eq_true rfl, Nat.le_of_ble_eq_true rfl⟩ (Nat.le_of_ble_eq_true rfl) ⟨Nat.le_of_ble_eq_true rfl, Nat.le_of_ble_eq_true rfl⟩ (fun r9_ z10_ G11_ hq12_ => ?_)
  obtain ⟨rfl, v13_, k14_, f15_, h⟩ := hq12_
  have F16_ : Fr b0 8 G G11_ := Fr.trans F8_ f15_
  refine z_istore_n (L' := [some (.ref b0), some (.int r1_), some (.int r9_), none, none]) O dX6_readSet_13 rfl (by decide) rfl ?_
  refine z_iload_n O dX6_readSet_14 rfl rfl ?_
  refine z_iconst (v := 4) O dX6_readSet_15 (by decide) ?_
  refine z_icmp_ne (tgt := 23) O dX6_readSet_16 (by decide) (fun c17_ => ?_) (fun c17_ => ?_)
  · have h := h.1 c17_
    refine z_bipush (v := 9) O dX6_readSet_23 (by decide) ?_
    refine z_istore_n (L' := [some (.ref b0), some (.int r1_), some (.int r9_), some (.int 9), none]) O dX6_readSet_25 rfl (by decide) rfl ?_
    refine z_iconst (v := 0) O dX6_readSet_26 (by decide) ?_
    refine z_istore (L' := [some (.ref b0), some (.int r1_), some (.int r9_), some (.int 9), some (.int 0)]) O dX6_readSet_27 (by decide) rfl ?_
    obtain ⟨n52_, h⟩ := h
    exact z_subL (L' := [some (.ref b0), some (.int r1_), some (.int r9_), some (.int 9), some (.int 0)]) (zLe.sub (And.intro rfl (And.intro rfl (And.intro rfl (And.intro rfl (And.intro rfl True.intro)))))) (HL29 n52_ r1_ r9_ 9 0 v13_ G11_ k14_ F16_ h)
  · have h := h.2 c17_
    refine z_iconst (v := 0) O dX6_readSet_19 (by decide) ?_
    refine z_goto (tgt := 25) O dX6_readSet_20 (by decide) ?_
    refine z_istore_n (L' := [some (.ref b0), some (.int r1_), some (.int r9_), some (.int 0), none]) O dX6_readSet_25 rfl (by decide) rfl ?_
    refine z_iconst (v := 0) O dX6_readSet_26 (by decide) ?_
    refine z_istore (L' := [some (.ref b0), some (.int r1_), some (.int r9_), some (.int 0), some (.int 0)]) O dX6_readSet_27 (by decide) rfl ?_
    obtain ⟨n53_, h⟩ := h
    exact z_subL (L' := [some (.ref b0), some (.int r1_), some (.int r9_), some (.int 0), some (.int 0)]) (zLe.sub (And.intro rfl (And.intro rfl (And.intro rfl (And.intro rfl (And.intro rfl True.intro)))))) (HL29 n53_ r1_ r9_ 0 0 v13_ G11_ k14_ F16_ h)

theorem dX6_readNumber_0 : decode cX6_readNumber 0 = .ok (.iload_n 1, 1) := by decide +kernel
theorem dX6_readNumber_1 : decode cX6_readNumber 1 = .ok (.lookupswitch 106 #[(108, 71), (114, 27)], 27) := by decide +kernel
theorem dX6_readNumber_28 : decode cX6_readNumber 28 = .ok (.aload_n 0, 1) := by decide +kernel
theorem dX6_readNumber_29 : decode cX6_readNumber 29 = .ok (.iconst 0, 1) := by decide +kernel
theorem dX6_readNumber_30 : decode cX6_readNumber 30 = .ok (.bipush 7, 2) := by decide +kernel
theorem dX6_readNumber_32 : decode cX6_readNumber 32 = .ok (.invokevirtual 154, 3) := by decide +kernel
theorem dX6_readNumber_35 : decode cX6_readNumber 35 = .ok (.istore_n 2, 1) := by decide +kernel
theorem dX6_readNumber_36 : decode cX6_readNumber 36 = .ok (.aload_n 0, 1) := by decide +kernel
theorem dX6_readNumber_37 : decode cX6_readNumber 37 = .ok (.iconst 1, 1) := by decide +kernel
theorem dX6_readNumber_38 : decode cX6_readNumber 38 = .ok (.bipush 50, 2) := by decide +kernel
theorem dX6_readNumber_40 : decode cX6_readNumber 40 = .ok (.invokevirtual 161, 3) := by decide +kernel
theorem dX6_readNumber_43 : decode cX6_readNumber 43 = .ok (.istore_n 3, 1) := by decide +kernel
theorem dX6_readNumber_44 : decode cX6_readNumber 44 = .ok (.aload_n 0, 1) := by decide +kernel
theorem dX6_readNumber_45 : decode cX6_readNumber 45 = .ok (.aload_n 0, 1) := by decide +kernel
theorem dX6_readNumber_46 : decode cX6_readNumber 46 = .ok (.getfield 16, 3) := by decide +kernel
theorem dX6_readNumber_49 : decode cX6_readNumber 49 = .ok (.iload_n 2, 1) := by decide +kernel
theorem dX6_readNumber_50 : decode cX6_readNumber 50 = .ok (.invokestatic 184, 3) := by decide +kernel
theorem dX6_readNumber_53 : decode cX6_readNumber 53 = .ok (.invokevirtual 164, 3) := by decide +kernel
theorem dX6_readNumber_56 : decode cX6_readNumber 56 = .ok (.ifCond .eq 75, 3) := by decide +kernel
theorem dX6_readNumber_59 : decode cX6_readNumber 59 = .ok (.aload_n 0, 1) := by decide +kernel
theorem dX6_readNumber_60 : decode cX6_readNumber 60 = .ok (.getfield 16, 3) := by decide +kernel
theorem dX6_readNumber_63 : decode cX6_readNumber 63 = .ok (.iload_n 2, 1) := by decide +kernel
theorem dX6_readNumber_64 : decode cX6_readNumber 64 = .ok (.iload_n 3, 1) := by decide +kernel
theorem dX6_readNumber_65 : decode cX6_readNumber 65 = .ok (.invokestatic 202, 3) := by decide +kernel
theorem dX6_readNumber_68 : decode cX6_readNumber 68 = .ok (.pop, 1) := by decide +kernel
theorem dX6_readNumber_69 : decode cX6_readNumber 69 = .ok (.goto 62, 3) := by decide +kernel
theorem dX6_readNumber_72 : decode cX6_readNumber 72 = .ok (.aload_n 0, 1) := by decide +kernel
theorem dX6_readNumber_73 : decode cX6_readNumber 73 = .ok (.iconst 0, 1) := by decide +kernel
theorem dX6_readNumber_74 : decode cX6_readNumber 74 = .ok (.bipush 7, 2) := by decide +kernel
theorem dX6_readNumber_76 : decode cX6_readNumber 76 = .ok (.invokevirtual 154, 3) := by decide +kernel
theorem dX6_readNumber_79 : decode cX6_readNumber 79 = .ok (.istore_n 2, 1) := by decide +kernel
theorem dX6_readNumber_80 : decode cX6_readNumber 80 = .ok (.aload_n 0, 1) := by decide +kernel
theorem dX6_readNumber_81 : decode cX6_readNumber 81 = .ok (.aload_n 0, 1) := by decide +kernel
theorem dX6_readNumber_82 : decode cX6_readNumber 82 = .ok (.getfield 16, 3) := by decide +kernel
theorem dX6_readNumber_85 : decode cX6_readNumber 85 = .ok (.iload_n 2, 1) := by decide +kernel
theorem dX6_readNumber_86 : decode cX6_readNumber 86 = .ok (.invokestatic 184, 3) := by decide +kernel
theorem dX6_readNumber_89 : decode cX6_readNumber 89 = .ok (.invokevirtual 164, 3) := by decide +kernel
theorem dX6_readNumber_92 : decode cX6_readNumber 92 = .ok (.ifCond .eq 39, 3) := by decide +kernel
theorem dX6_readNumber_95 : decode cX6_readNumber 95 = .ok (.aload_n 0, 1) := by decide +kernel
theorem dX6_readNumber_96 : decode cX6_readNumber 96 = .ok (.getfield 16, 3) := by decide +kernel
theorem dX6_readNumber_99 : decode cX6_readNumber 99 = .ok (.iload_n 2, 1) := by decide +kernel
theorem dX6_readNumber_100 : decode cX6_readNumber 100 = .ok (.invokestatic 205, 3) := by decide +kernel
theorem dX6_readNumber_103 : decode cX6_readNumber 103 = .ok (.pop, 1) := by decide +kernel
theorem dX6_readNumber_104 : decode cX6_readNumber 104 = .ok (.goto 27, 3) := by decide +kernel
theorem dX6_readNumber_107 : decode cX6_readNumber 107 = .ok (.aload_n 0, 1) := by decide +kernel
theorem dX6_readNumber_108 : decode cX6_readNumber 108 = .ok (.iconst 1, 1) := by decide +kernel
theorem dX6_readNumber_109 : decode cX6_readNumber 109 = .ok (.bipush 99, 2) := by decide +kernel
theorem dX6_readNumber_111 : decode cX6_readNumber 111 = .ok (.invokevirtual 161, 3) := by decide +kernel
theorem dX6_readNumber_114 : decode cX6_readNumber 114 = .ok (.istore_n 3, 1) := by decide +kernel
theorem dX6_readNumber_115 : decode cX6_readNumber 115 = .ok (.aload_n 0, 1) := by decide +kernel
theorem dX6_readNumber_116 : decode cX6_readNumber 116 = .ok (.getfield 142, 3) := by decide +kernel
theorem dX6_readNumber_119 : decode cX6_readNumber 119 = .ok (.ifCond .eq 12, 3) := by decide +kernel
theorem dX6_readNumber_122 : decode cX6_readNumber 122 = .ok (.aload_n 0, 1) := by decide +kernel
theorem dX6_readNumber_123 : decode cX6_readNumber 123 = .ok (.getfield 16, 3) := by decide +kernel
theorem dX6_readNumber_126 : decode cX6_readNumber 126 = .ok (.iload_n 3, 1) := by decide +kernel
theorem dX6_readNumber_127 : decode cX6_readNumber 127 = .ok (.invokestatic 208, 3) := by decide +kernel
theorem dX6_readNumber_130 : decode cX6_readNumber 130 = .ok (.pop, 1) := by decide +kernel
theorem dX6_readNumber_131 : decode cX6_readNumber 131 = .ok (.return_, 1) := by decide +kernel
def P_M_readNumber (x1 : Int32) (v0 : MT) (Q : MT → Prop) : Prop := ((x1 = 108 → P_M_digit 0 7 v0 (fun r2_ v6_ => (P_M_isReader r2_ (M_read v6_) (fun r10_ => (P_M_goes r10_ v6_ (fun r14_ v18_ => (((r14_ = 0 → Q v18_) ∧ (¬ r14_ = 0 → P_M_goLeave r2_ (M_read v18_) (fun r23_ v27_ => (∀ v32_, v32_ = (M_set_read v18_ v27_) → (Q v32_)))))))))))) ∧ (¬ x1 = 108 → ((x1 = 114 → P_M_digit 0 7 v0 (fun r36_ v40_ => (P_M_two 1 50 v40_ (fun r44_ v48_ => (P_M_isReader r36_ (M_read v48_) (fun r52_ => (P_M_goes r52_ v48_ (fun r56_ v60_ => (((r56_ = 0 → Q v60_) ∧ (¬ r56_ = 0 → P_M_goRead r36_ r44_ (M_read v60_) (fun r65_ v69_ => (∀ v74_, v74_ = (M_set_read v60_ v69_) → (Q v74_)))))))))))))) ∧ (¬ x1 = 114 → P_M_two 1 99 v0 (fun r77_ v81_ => ((((M_good v81_) = 0 → Q v81_) ∧ (¬ (M_good v81_) = 0 → P_M_goTicks r77_ (M_read v81_) (fun r86_ v90_ => (∀ v95_, v95_ = (M_set_read v81_ v90_) → (Q v95_)))))))))))
set_option maxRecDepth 100000 in
theorem s_M_readNumber {l : Launch} {D : zD} {B : Nat} {sa : Nat → Nat} (hfl : l.stackTraces = false) {z : Nat} {G : zG} {b0 : Nat} {x1 : Int32} {v0 : MT} {Q : MT → Prop} (h0 : MA b0 v0 G) (h : P_M_readNumber x1 v0 Q) : zSp l D B sa yX6_readNumber cX6_readNumber 4 none 6 132 0 0 [.ref b0, .int x1] z G (zRv fun z' G' => z = z' ∧ ∃ w, MA b0 w G' ∧ Fr b0 8 G G' ∧ Q w) := by
  unfold P_M_readNumber at h
  refine z_ofW (by decide +kernel) hfl [some (.ref b0), some (.int x1), none, none] rfl (Nat.le_of_ble_eq_true rfl) (fun p e s m args below meth c O hret hlk hnm => ?_)
  have O : zO p l s m args c D B sa 4 cX6_readNumber RX6 := O
  refine z_iload_n O dX6_readNumber_0 rfl rfl ?_
  rcases Decidable.em (x1 = 108) with c1_ | c1_
  · have h := h.1 c1_
    refine z_lsw (tgt := 72) O dX6_readNumber_1 (by decide) (by rw [c1_]; first | done | rfl) (by decide) ?_
    refine z_aload_n O dX6_readNumber_72 rfl rfl ?_
    refine z_iconst (v := 0) O dX6_readNumber_73 (by decide) ?_
    refine z_bipush (v := 7) O dX6_readNumber_74 (by decide) ?_
    refine z_callVi (As := [.int 0, .int 7]) (st := []) O (s_M_digit hfl h0 h) wy_X6_digit wl_RX6_154 dX6_readNumber_76 rfl rfl (M_obj h0) ⟨by decide, rfl⟩ ⟨Nat.le_of_ble_eq_true rfl, Nat.le_of_ble_eq_true rfl⟩ (Nat.le_of_ble_eq_true rfl) ⟨Nat.le_of_ble_eq_true rfl, Nat.le_of_ble_eq_true rfl⟩ (fun r2_ z3_ G4_ hq5_ => ?_)
    obtain ⟨rfl, v6_, k7_, f8_, h⟩ := hq5_
    have F9_ : Fr b0 8 G G4_ := Fr.trans Fr.rf f8_
    refine z_istore_n (L' := [some (.ref b0), some (.int x1), some (.int r2_), none]) O dX6_readNumber_79 rfl (by decide) rfl ?_
    refine z_aload_n O dX6_readNumber_80 rfl rfl ?_
    refine z_aload_n O dX6_readNumber_81 rfl rfl ?_
    refine z_get (v := .ref (b0 + 3)) O wf_RX6_16 dX6_readNumber_82 (M_obj k7_) rfl ?_
    refine z_iload_n O dX6_readNumber_85 rfl rfl ?_
    refine z_callSi (As := [.ref (b0 + 3), .int r2_]) (st := [.ref b0]) O (s_M_isReader hfl (M_read_of k7_) h) wy_X6_isReader wl_RX6_184 dX6_readNumber_86 rfl rfl ⟨Nat.le_of_ble_eq_true rfl, Nat.le_of_ble_eq_true rfl⟩ (Nat.le_of_ble_eq_true rfl) ⟨Nat.le_of_ble_eq_true rfl, Nat.le_of_ble_eq_true rfl⟩ (fun r10_ z11_ G12_ hq13_ => ?_)
    obtain ⟨rfl, rfl, h⟩ := hq13_
    refine z_callVi (As := [.int r10_]) (st := []) O (s_M_goes hfl k7_ h) wy_X6_goes wl_RX6_164 dX6_readNumber_89 rfl rfl (M_obj k7_) ⟨by decide, rfl⟩ ⟨Nat.le_of_ble_eq_true rfl, Nat.le_of_ble_eq_true rfl⟩ (Nat.le_of_ble_eq_true rfl) ⟨Nat.le_of_ble_eq_true rfl, Nat.le_of_ble_eq_true rfl⟩ (fun r14_ z15_ G16_ hq17_ => ?_)
    obtain ⟨rfl, v18_, k19_, f20_, h⟩ := hq17_
    have F21_ : Fr b0 8 G G16_ := Fr.trans F9_ f20_
    refine z_if_eq (tgt := 131) O dX6_readNumber_92 (by decide) (fun c22_ => ?_) (fun c22_ => ?_)
    · have h := h.1 c22_
      exact z_vret O hret hlk dX6_readNumber_131 (Nat.le_of_ble_eq_true rfl) (Nat.le_of_ble_eq_true rfl) ⟨rfl, rfl, _, k19_, F21_, h⟩
    · have h := h.2 c22_
      refine z_aload_n O dX6_readNumber_95 rfl rfl ?_
      refine z_get (v := .ref (b0 + 3)) O wf_RX6_16 dX6_readNumber_96 (M_obj k19_) rfl ?_
      refine z_iload_n O dX6_readNumber_99 rfl rfl ?_
      refine z_callSi (As := [.ref (b0 + 3), .int r2_]) (st := []) O (s_M_goLeave hfl (M_read_of k19_) h) wy_X6_goLeave wl_RX6_205 dX6_readNumber_100 rfl rfl ⟨Nat.le_of_ble_eq_true rfl, Nat.le_of_ble_eq_true rfl⟩ (Nat.le_of_ble_eq_true rfl) ⟨Nat.le_of_ble_eq_true rfl, Nat.le_of_ble_eq_true rfl⟩ (fun r23_ z24_ G25_ hq26_ => ?_)
      obtain ⟨rfl, v27_, k28_, f29_, h⟩ := hq26_
      have k30_ := M_put_read k19_ k28_ f29_
      have f31_ : Fr b0 8 G16_ G25_ := Fr.mono f29_ (by omega) (by omega)
      obtain ⟨v32_, ev32_⟩ : ∃ w, w = (M_set_read v18_ v27_) := ⟨_, rfl⟩
      have h := h v32_ ev32_
      have k33_ : MA b0 v32_ G25_ := by rw [ev32_]; exact k30_
      have F34_ : Fr b0 8 G G25_ := Fr.trans F21_ f31_
      refine z_pop O dX6_readNumber_103 rfl ?_
      refine z_goto (tgt := 131) O dX6_readNumber_104 (by decide) ?_
      exact z_vret O hret hlk dX6_readNumber_131 (Nat.le_of_ble_eq_true rfl) (Nat.le_of_ble_eq_true rfl) ⟨rfl, rfl, _, k33_, F34_, h⟩
  · have h := h.2 c1_
    rcases Decidable.em (x1 = 114) with c35_ | c35_
    · have h := h.1 c35_
      refine z_lsw (tgt := 28) O dX6_readNumber_1 (by decide) (by rw [c35_]; first | done | rfl) (by decide) ?_
      refine z_aload_n O dX6_readNumber_28 rfl rfl ?_
      refine z_iconst (v := 0) O dX6_readNumber_29 (by decide) ?_
      refine z_bipush (v := 7) O dX6_readNumber_30 (by decide) ?_
      refine z_callVi (As := [.int 0, .int 7]) (st := []) O (s_M_digit hfl h0 h) wy_X6_digit wl_RX6_154 dX6_readNumber_32 rfl rfl (M_obj h0) ⟨by decide, rfl⟩ ⟨Nat.le_of_ble_eq_true rfl, Nat.le_of_ble_eq_true rfl⟩ (Nat.le_of_ble_eq_true rfl) ⟨Nat.le_of_ble_eq_true rfl, Nat.le_of_ble_eq_true rfl⟩ (fun r36_ z37_ G38_ hq39_ => ?_)
      obtain ⟨rfl, v40_, k41_, f42_, h⟩ := hq39_
      have F43_ : Fr b0 8 G G38_ := Fr.trans Fr.rf f42_
      refine z_istore_n (L' := [some (.ref b0), some (.int x1), some (.int r36_), none]) O dX6_readNumber_35 rfl (by decide) rfl ?_
      refine z_aload_n O dX6_readNumber_36 rfl rfl ?_
      refine z_iconst (v := 1) O dX6_readNumber_37 (by decide) ?_
      refine z_bipush (v := 50) O dX6_readNumber_38 (by decide) ?_
      refine z_callVi (As := [.int 1, .int 50]) (st := []) O (s_M_two hfl k41_ h) wy_X6_two wl_RX6_161 dX6_readNumber_40 rfl rfl (M_obj k41_) ⟨by decide, rfl⟩ ⟨Nat.le_of_ble_eq_true rfl, Nat.le_of_ble_eq_true rfl⟩ (Nat.le_of_ble_eq_true rfl) ⟨Nat.le_of_ble_eq_true rfl, Nat.le_of_ble_eq_true rfl⟩ (fun r44_ z45_ G46_ hq47_ => ?_)
      obtain ⟨rfl, v48_, k49_, f50_, h⟩ := hq47_
      have F51_ : Fr b0 8 G G46_ := Fr.trans F43_ f50_
      refine z_istore_n (L' := [some (.ref b0), some (.int x1), some (.int r36_), some (.int r44_)]) O dX6_readNumber_43 rfl (by decide) rfl ?_
      refine z_aload_n O dX6_readNumber_44 rfl rfl ?_
      refine z_aload_n O dX6_readNumber_45 rfl rfl ?_
      refine z_get (v := .ref (b0 + 3)) O wf_RX6_16 dX6_readNumber_46 (M_obj k49_) rfl ?_
      refine z_iload_n O dX6_readNumber_49 rfl rfl ?_
      refine z_callSi (As := [.ref (b0 + 3), .int r36_]) (st := [.ref b0]) O (s_M_isReader hfl (M_read_of k49_) h) wy_X6_isReader wl_RX6_184 dX6_readNumber_50 rfl rfl ⟨Nat.le_of_ble_eq_true rfl, Nat.le_of_ble_eq_true rfl⟩ (Nat.le_of_ble_eq_true rfl) ⟨Nat.le_of_ble_eq_true rfl, Nat.le_of_ble_eq_true rfl⟩ (fun r52_ z53_ G54_ hq55_ => ?_)
      obtain ⟨rfl, rfl, h⟩ := hq55_
      refine z_callVi (As := [.int r52_]) (st := []) O (s_M_goes hfl k49_ h) wy_X6_goes wl_RX6_164 dX6_readNumber_53 rfl rfl (M_obj k49_) ⟨by decide, rfl⟩ ⟨Nat.le_of_ble_eq_true rfl, Nat.le_of_ble_eq_true rfl⟩ (Nat.le_of_ble_eq_true rfl) ⟨Nat.le_of_ble_eq_true rfl, Nat.le_of_ble_eq_true rfl⟩ (fun r56_ z57_ G58_ hq59_ => ?_)
      obtain ⟨rfl, v60_, k61_, f62_, h⟩ := hq59_
      have F63_ : Fr b0 8 G G58_ := Fr.trans F51_ f62_
      refine z_if_eq (tgt := 131) O dX6_readNumber_56 (by decide) (fun c64_ => ?_) (fun c64_ => ?_)
      · have h := h.1 c64_
        exact z_vret O hret hlk dX6_readNumber_131 (Nat.le_of_ble_eq_true rfl) (Nat.le_of_ble_eq_true rfl) ⟨rfl, rfl, _, k61_, F63_, h⟩
      · have h := h.2 c64_
        refine z_aload_n O dX6_readNumber_59 rfl rfl ?_
        refine z_get (v := .ref (b0 + 3)) O wf_RX6_16 dX6_readNumber_60 (M_obj k61_) rfl ?_
        refine z_iload_n O dX6_readNumber_63 rfl rfl ?_
        refine z_iload_n O dX6_readNumber_64 rfl rfl ?_
        refine z_callSi (As := [.ref (b0 + 3), .int r36_, .int r44_]) (st := []) O (s_M_goRead hfl (M_read_of k61_) h) wy_X6_goRead wl_RX6_202 dX6_readNumber_65 rfl rfl ⟨Nat.le_of_ble_eq_true rfl, Nat.le_of_ble_eq_true rfl⟩ (Nat.le_of_ble_eq_true rfl) ⟨Nat.le_of_ble_eq_true rfl, Nat.le_of_ble_eq_true rfl⟩ (fun r65_ z66_ G67_ hq68_ => ?_)
        obtain ⟨rfl, v69_, k70_, f71_, h⟩ := hq68_
        have k72_ := M_put_read k61_ k70_ f71_
        have f73_ : Fr b0 8 G58_ G67_ := Fr.mono f71_ (by omega) (by omega)
        obtain ⟨v74_, ev74_⟩ : ∃ w, w = (M_set_read v60_ v69_) := ⟨_, rfl⟩
        have h := h v74_ ev74_
        have k75_ : MA b0 v74_ G67_ := by rw [ev74_]; exact k72_
        have F76_ : Fr b0 8 G G67_ := Fr.trans F63_ f73_
        refine z_pop O dX6_readNumber_68 rfl ?_
        refine z_goto (tgt := 131) O dX6_readNumber_69 (by decide) ?_
        exact z_vret O hret hlk dX6_readNumber_131 (Nat.le_of_ble_eq_true rfl) (Nat.le_of_ble_eq_true rfl) ⟨rfl, rfl, _, k75_, F76_, h⟩
    · have h := h.2 c35_
      refine z_lsw (off := 106) (tgt := 107) O dX6_readNumber_1 (by decide) ((lv_osw c1_ rfl).trans ((lv_osw c35_ rfl).trans rfl)) (by decide) ?_
      refine z_aload_n O dX6_readNumber_107 rfl rfl ?_
      refine z_iconst (v := 1) O dX6_readNumber_108 (by decide) ?_
      refine z_bipush (v := 99) O dX6_readNumber_109 (by decide) ?_
      refine z_callVi (As := [.int 1, .int 99]) (st := []) O (s_M_two hfl h0 h) wy_X6_two wl_RX6_161 dX6_readNumber_111 rfl rfl (M_obj h0) ⟨by decide, rfl⟩ ⟨Nat.le_of_ble_eq_true rfl, Nat.le_of_ble_eq_true rfl⟩ (Nat.le_of_ble_eq_true rfl) ⟨Nat.le_of_ble_eq_true rfl, Nat.le_of_ble_eq_true rfl⟩ (fun r77_ z78_ G79_ hq80_ => ?_)
      obtain ⟨rfl, v81_, k82_, f83_, h⟩ := hq80_
      have F84_ : Fr b0 8 G G79_ := Fr.trans Fr.rf f83_
      refine z_istore_n (L' := [some (.ref b0), some (.int x1), none, some (.int r77_)]) O dX6_readNumber_114 rfl (by decide) rfl ?_
      refine z_aload_n O dX6_readNumber_115 rfl rfl ?_
      refine z_get (v := .int (M_good v81_)) O wf_RX6_142 dX6_readNumber_116 (M_obj k82_) rfl ?_
      refine z_if_eq (tgt := 131) O dX6_readNumber_119 (by decide) (fun c85_ => ?_) (fun c85_ => ?_)
      · have h := h.1 c85_
        exact z_vret O hret hlk dX6_readNumber_131 (Nat.le_of_ble_eq_true rfl) (Nat.le_of_ble_eq_true rfl) ⟨rfl, rfl, _, k82_, F84_, h⟩
      · have h := h.2 c85_
        refine z_aload_n O dX6_readNumber_122 rfl rfl ?_
        refine z_get (v := .ref (b0 + 3)) O wf_RX6_16 dX6_readNumber_123 (M_obj k82_) rfl ?_
        refine z_iload_n O dX6_readNumber_126 rfl rfl ?_
        refine z_callSi (As := [.ref (b0 + 3), .int r77_]) (st := []) O (s_M_goTicks hfl (M_read_of k82_) h) wy_X6_goTicks wl_RX6_208 dX6_readNumber_127 rfl rfl ⟨Nat.le_of_ble_eq_true rfl, Nat.le_of_ble_eq_true rfl⟩ (Nat.le_of_ble_eq_true rfl) ⟨Nat.le_of_ble_eq_true rfl, Nat.le_of_ble_eq_true rfl⟩ (fun r86_ z87_ G88_ hq89_ => ?_)
        obtain ⟨rfl, v90_, k91_, f92_, h⟩ := hq89_
        have k93_ := M_put_read k82_ k91_ f92_
        have f94_ : Fr b0 8 G79_ G88_ := Fr.mono f92_ (by omega) (by omega)
        obtain ⟨v95_, ev95_⟩ : ∃ w, w = (M_set_read v81_ v90_) := ⟨_, rfl⟩
        have h := h v95_ ev95_
        have k96_ : MA b0 v95_ G88_ := by rw [ev95_]; exact k93_
        have F97_ : Fr b0 8 G G88_ := Fr.trans F84_ f94_
        refine z_pop O dX6_readNumber_130 rfl ?_
        exact z_vret O hret hlk dX6_readNumber_131 (Nat.le_of_ble_eq_true rfl) (Nat.le_of_ble_eq_true rfl) ⟨rfl, rfl, _, k96_, F97_, h⟩

theorem dX6_readCommand_0 : decode cX6_readCommand 0 = .ok (.aload_n 0, 1) := by decide +kernel
theorem dX6_readCommand_1 : decode cX6_readCommand 1 = .ok (.invokevirtual 146, 3) := by decide +kernel
theorem dX6_readCommand_4 : decode cX6_readCommand 4 = .ok (.istore_n 1, 1) := by decide +kernel
theorem dX6_readCommand_5 : decode cX6_readCommand 5 = .ok (.aload_n 0, 1) := by decide +kernel
theorem dX6_readCommand_6 : decode cX6_readCommand 6 = .ok (.iload_n 1, 1) := by decide +kernel
theorem dX6_readCommand_7 : decode cX6_readCommand 7 = .ok (.bipush 119, 2) := by decide +kernel
theorem dX6_readCommand_9 : decode cX6_readCommand 9 = .ok (.if_icmp .eq 39, 3) := by decide +kernel
theorem dX6_readCommand_12 : decode cX6_readCommand 12 = .ok (.iload_n 1, 1) := by decide +kernel
theorem dX6_readCommand_13 : decode cX6_readCommand 13 = .ok (.bipush 106, 2) := by decide +kernel
theorem dX6_readCommand_15 : decode cX6_readCommand 15 = .ok (.if_icmp .eq 33, 3) := by decide +kernel
theorem dX6_readCommand_18 : decode cX6_readCommand 18 = .ok (.iload_n 1, 1) := by decide +kernel
theorem dX6_readCommand_19 : decode cX6_readCommand 19 = .ok (.bipush 114, 2) := by decide +kernel
theorem dX6_readCommand_21 : decode cX6_readCommand 21 = .ok (.if_icmp .eq 27, 3) := by decide +kernel
theorem dX6_readCommand_24 : decode cX6_readCommand 24 = .ok (.iload_n 1, 1) := by decide +kernel
theorem dX6_readCommand_25 : decode cX6_readCommand 25 = .ok (.bipush 108, 2) := by decide +kernel
theorem dX6_readCommand_27 : decode cX6_readCommand 27 = .ok (.if_icmp .eq 21, 3) := by decide +kernel
theorem dX6_readCommand_30 : decode cX6_readCommand 30 = .ok (.iload_n 1, 1) := by decide +kernel
theorem dX6_readCommand_31 : decode cX6_readCommand 31 = .ok (.bipush 104, 2) := by decide +kernel
theorem dX6_readCommand_33 : decode cX6_readCommand 33 = .ok (.if_icmp .eq 15, 3) := by decide +kernel
theorem dX6_readCommand_36 : decode cX6_readCommand 36 = .ok (.iload_n 1, 1) := by decide +kernel
theorem dX6_readCommand_37 : decode cX6_readCommand 37 = .ok (.bipush 115, 2) := by decide +kernel
theorem dX6_readCommand_39 : decode cX6_readCommand 39 = .ok (.if_icmp .eq 9, 3) := by decide +kernel
theorem dX6_readCommand_42 : decode cX6_readCommand 42 = .ok (.iload_n 1, 1) := by decide +kernel
theorem dX6_readCommand_43 : decode cX6_readCommand 43 = .ok (.bipush 116, 2) := by decide +kernel
theorem dX6_readCommand_45 : decode cX6_readCommand 45 = .ok (.if_icmp .ne 7, 3) := by decide +kernel
theorem dX6_readCommand_48 : decode cX6_readCommand 48 = .ok (.iconst 1, 1) := by decide +kernel
theorem dX6_readCommand_49 : decode cX6_readCommand 49 = .ok (.goto 4, 3) := by decide +kernel
theorem dX6_readCommand_52 : decode cX6_readCommand 52 = .ok (.iconst 0, 1) := by decide +kernel
theorem dX6_readCommand_53 : decode cX6_readCommand 53 = .ok (.invokevirtual 150, 3) := by decide +kernel
theorem dX6_readCommand_56 : decode cX6_readCommand 56 = .ok (.aload_n 0, 1) := by decide +kernel
theorem dX6_readCommand_57 : decode cX6_readCommand 57 = .ok (.getfield 142, 3) := by decide +kernel
theorem dX6_readCommand_60 : decode cX6_readCommand 60 = .ok (.ifCond .ne 4, 3) := by decide +kernel
theorem dX6_readCommand_63 : decode cX6_readCommand 63 = .ok (.return_, 1) := by decide +kernel
theorem dX6_readCommand_64 : decode cX6_readCommand 64 = .ok (.iload_n 1, 1) := by decide +kernel
theorem dX6_readCommand_65 : decode cX6_readCommand 65 = .ok (.lookupswitch 71 #[(104, 57), (106, 50), (115, 64), (119, 43)], 43) := by decide +kernel
theorem dX6_readCommand_108 : decode cX6_readCommand 108 = .ok (.aload_n 0, 1) := by decide +kernel
theorem dX6_readCommand_109 : decode cX6_readCommand 109 = .ok (.invokevirtual 211, 3) := by decide +kernel
theorem dX6_readCommand_112 : decode cX6_readCommand 112 = .ok (.goto 29, 3) := by decide +kernel
theorem dX6_readCommand_115 : decode cX6_readCommand 115 = .ok (.aload_n 0, 1) := by decide +kernel
theorem dX6_readCommand_116 : decode cX6_readCommand 116 = .ok (.invokevirtual 214, 3) := by decide +kernel
theorem dX6_readCommand_119 : decode cX6_readCommand 119 = .ok (.goto 22, 3) := by decide +kernel
theorem dX6_readCommand_122 : decode cX6_readCommand 122 = .ok (.aload_n 0, 1) := by decide +kernel
theorem dX6_readCommand_123 : decode cX6_readCommand 123 = .ok (.invokevirtual 217, 3) := by decide +kernel
theorem dX6_readCommand_126 : decode cX6_readCommand 126 = .ok (.goto 15, 3) := by decide +kernel
theorem dX6_readCommand_129 : decode cX6_readCommand 129 = .ok (.aload_n 0, 1) := by decide +kernel
theorem dX6_readCommand_130 : decode cX6_readCommand 130 = .ok (.invokevirtual 220, 3) := by decide +kernel
theorem dX6_readCommand_133 : decode cX6_readCommand 133 = .ok (.goto 8, 3) := by decide +kernel
theorem dX6_readCommand_136 : decode cX6_readCommand 136 = .ok (.aload_n 0, 1) := by decide +kernel
theorem dX6_readCommand_137 : decode cX6_readCommand 137 = .ok (.iload_n 1, 1) := by decide +kernel
theorem dX6_readCommand_138 : decode cX6_readCommand 138 = .ok (.invokevirtual 223, 3) := by decide +kernel
theorem dX6_readCommand_141 : decode cX6_readCommand 141 = .ok (.return_, 1) := by decide +kernel
def PJ_M_readCommand_53 (y1 : Int32) (u0 : Int32) (v0 : MT) (Q : MT → Prop) : Prop := P_M_take u0 v0 (fun v10_ => (((¬ (M_good v10_) = 0 → ((y1 = 104 → P_M_readHold v10_ (fun v20_ => (Q v20_))) ∧ (¬ y1 = 104 → ((y1 = 106 → P_M_readJoin v10_ (fun v29_ => (Q v29_))) ∧ (¬ y1 = 106 → ((y1 = 115 → P_M_readSet v10_ (fun v38_ => (Q v38_))) ∧ (¬ y1 = 115 → ((y1 = 119 → P_M_readWrite v10_ (fun v47_ => (Q v47_))) ∧ (¬ y1 = 119 → P_M_readNumber y1 v10_ (fun v55_ => (Q v55_))))))))))) ∧ ((M_good v10_) = 0 → Q v10_))))
def PJ_M_readCommand_48 (y1 : Int32) (v0 : MT) (Q : MT → Prop) : Prop := PJ_M_readCommand_53 y1 1 v0 Q
def P_M_readCommand (v0 : MT) (Q : MT → Prop) : Prop := P_M_here v0 (fun r1_ => (((r1_ = 119 → PJ_M_readCommand_48 r1_ v0 Q) ∧ (¬ r1_ = 119 → ((r1_ = 106 → PJ_M_readCommand_48 r1_ v0 Q) ∧ (¬ r1_ = 106 → ((r1_ = 114 → PJ_M_readCommand_48 r1_ v0 Q) ∧ (¬ r1_ = 114 → ((r1_ = 108 → PJ_M_readCommand_48 r1_ v0 Q) ∧ (¬ r1_ = 108 → ((r1_ = 104 → PJ_M_readCommand_48 r1_ v0 Q) ∧ (¬ r1_ = 104 → ((r1_ = 115 → PJ_M_readCommand_48 r1_ v0 Q) ∧ (¬ r1_ = 115 → ((¬ r1_ = 116 → PJ_M_readCommand_53 r1_ 0 v0 Q) ∧ (r1_ = 116 → PJ_M_readCommand_48 r1_ v0 Q))))))))))))))))
set_option maxRecDepth 100000 in
theorem s_M_readCommand {l : Launch} {D : zD} {B : Nat} {sa : Nat → Nat} (hfl : l.stackTraces = false) {z : Nat} {G : zG} {b0 : Nat} {v0 : MT} {Q : MT → Prop} (h0 : MA b0 v0 G) (h : P_M_readCommand v0 Q) : zSp l D B sa yX6_readCommand cX6_readCommand 2 none 7 155 0 0 [.ref b0] z G (zRv fun z' G' => z = z' ∧ ∃ w, MA b0 w G' ∧ Fr b0 8 G G' ∧ Q w) := by
  unfold P_M_readCommand at h
  refine z_ofW (by decide +kernel) hfl [some (.ref b0), none] rfl (Nat.le_of_ble_eq_true rfl) (fun p e s m args below meth c O hret hlk hnm => ?_)
  have O : zO p l s m args c D B sa 2 cX6_readCommand RX6 := O
  have HJ53 : ∀ (y1 : Int32) (u0 : Int32) (v0 : MT) (G9 : zG) (g0 : MA b0 v0 G9) (gF : Fr b0 8 G G9), PJ_M_readCommand_53 y1 u0 v0 Q → zT p l e (zrm 7 155 0 0) s m args below meth c (zEnd below D B (zRv fun z' G' => z = z' ∧ ∃ w, MA b0 w G' ∧ Fr b0 8 G G' ∧ Q w) args s 0 0) D B 2 0 0 53 [.int u0, .ref b0] [some (.ref b0), some (.int y1)] z G9 := by
    intro y1 u0 v0 G9 g0 gF h
    unfold PJ_M_readCommand_53 at h
    refine z_callVv (As := [.int u0]) (st := []) O (s_M_take hfl g0 h) wy_X6_take wl_RX6_150 dX6_readCommand_53 rfl rfl (M_obj g0) ⟨by decide, rfl⟩ ⟨Nat.le_of_ble_eq_true rfl, Nat.le_of_ble_eq_true rfl⟩ (Nat.le_of_ble_eq_true rfl) ⟨Nat.le_of_ble_eq_true rfl, Nat.le_of_ble_eq_true rfl⟩ (fun z7_ G8_ hq9_ => ?_)
    obtain ⟨rfl, v10_, k11_, f12_, h⟩ := hq9_
    have F13_ : Fr b0 8 G G8_ := Fr.trans gF f12_
    refine z_aload_n O dX6_readCommand_56 rfl rfl ?_
    refine z_get (v := .int (M_good v10_)) O wf_RX6_142 dX6_readCommand_57 (M_obj k11_) rfl ?_
    refine z_if_ne (tgt := 64) O dX6_readCommand_60 (by decide) (fun c14_ => ?_) (fun c14_ => ?_)
    · have h := h.1 c14_
      refine z_iload_n O dX6_readCommand_64 rfl rfl ?_
      rcases Decidable.em (y1 = 104) with c15_ | c15_
      · have h := h.1 c15_
        refine z_lsw (tgt := 122) O dX6_readCommand_65 (by decide) (by rw [c15_]; first | done | rfl) (by decide) ?_
        refine z_aload_n O dX6_readCommand_122 rfl rfl ?_
        refine z_callVv (As := []) (st := []) O (s_M_readHold hfl k11_ h) wy_X6_readHold wl_RX6_217 dX6_readCommand_123 rfl rfl (M_obj k11_) ⟨by decide, rfl⟩ ⟨Nat.le_of_ble_eq_true rfl, Nat.le_of_ble_eq_true rfl⟩ (Nat.le_of_ble_eq_true rfl) ⟨Nat.le_of_ble_eq_true rfl, Nat.le_of_ble_eq_true rfl⟩ (fun z17_ G18_ hq19_ => ?_)
        obtain ⟨rfl, v20_, k21_, f22_, h⟩ := hq19_
        have F23_ : Fr b0 8 G G18_ := Fr.trans F13_ f22_
        refine z_goto (tgt := 141) O dX6_readCommand_126 (by decide) ?_
        exact z_vret O hret hlk dX6_readCommand_141 (Nat.le_of_ble_eq_true rfl) (Nat.le_of_ble_eq_true rfl) ⟨rfl, rfl, _, k21_, F23_, h⟩
      · have h := h.2 c15_
        rcases Decidable.em (y1 = 106) with c24_ | c24_
        · have h := h.1 c24_
          refine z_lsw (tgt := 115) O dX6_readCommand_65 (by decide) (by rw [c24_]; first | done | rfl) (by decide) ?_
          refine z_aload_n O dX6_readCommand_115 rfl rfl ?_
          refine z_callVv (As := []) (st := []) O (s_M_readJoin hfl k11_ h) wy_X6_readJoin wl_RX6_214 dX6_readCommand_116 rfl rfl (M_obj k11_) ⟨by decide, rfl⟩ ⟨Nat.le_of_ble_eq_true rfl, Nat.le_of_ble_eq_true rfl⟩ (Nat.le_of_ble_eq_true rfl) ⟨Nat.le_of_ble_eq_true rfl, Nat.le_of_ble_eq_true rfl⟩ (fun z26_ G27_ hq28_ => ?_)
          obtain ⟨rfl, v29_, k30_, f31_, h⟩ := hq28_
          have F32_ : Fr b0 8 G G27_ := Fr.trans F13_ f31_
          refine z_goto (tgt := 141) O dX6_readCommand_119 (by decide) ?_
          exact z_vret O hret hlk dX6_readCommand_141 (Nat.le_of_ble_eq_true rfl) (Nat.le_of_ble_eq_true rfl) ⟨rfl, rfl, _, k30_, F32_, h⟩
        · have h := h.2 c24_
          rcases Decidable.em (y1 = 115) with c33_ | c33_
          · have h := h.1 c33_
            refine z_lsw (tgt := 129) O dX6_readCommand_65 (by decide) (by rw [c33_]; first | done | rfl) (by decide) ?_
            refine z_aload_n O dX6_readCommand_129 rfl rfl ?_
            refine z_callVv (As := []) (st := []) O (s_M_readSet hfl k11_ h) wy_X6_readSet wl_RX6_220 dX6_readCommand_130 rfl rfl (M_obj k11_) ⟨by decide, rfl⟩ ⟨Nat.le_of_ble_eq_true rfl, Nat.le_of_ble_eq_true rfl⟩ (Nat.le_of_ble_eq_true rfl) ⟨Nat.le_of_ble_eq_true rfl, Nat.le_of_ble_eq_true rfl⟩ (fun z35_ G36_ hq37_ => ?_)
            obtain ⟨rfl, v38_, k39_, f40_, h⟩ := hq37_
            have F41_ : Fr b0 8 G G36_ := Fr.trans F13_ f40_
            refine z_goto (tgt := 141) O dX6_readCommand_133 (by decide) ?_
            exact z_vret O hret hlk dX6_readCommand_141 (Nat.le_of_ble_eq_true rfl) (Nat.le_of_ble_eq_true rfl) ⟨rfl, rfl, _, k39_, F41_, h⟩
          · have h := h.2 c33_
            rcases Decidable.em (y1 = 119) with c42_ | c42_
            · have h := h.1 c42_
              refine z_lsw (tgt := 108) O dX6_readCommand_65 (by decide) (by rw [c42_]; first | done | rfl) (by decide) ?_
              refine z_aload_n O dX6_readCommand_108 rfl rfl ?_
              refine z_callVv (As := []) (st := []) O (s_M_readWrite hfl k11_ h) wy_X6_readWrite wl_RX6_211 dX6_readCommand_109 rfl rfl (M_obj k11_) ⟨by decide, rfl⟩ ⟨Nat.le_of_ble_eq_true rfl, Nat.le_of_ble_eq_true rfl⟩ (Nat.le_of_ble_eq_true rfl) ⟨Nat.le_of_ble_eq_true rfl, Nat.le_of_ble_eq_true rfl⟩ (fun z44_ G45_ hq46_ => ?_)
              obtain ⟨rfl, v47_, k48_, f49_, h⟩ := hq46_
              have F50_ : Fr b0 8 G G45_ := Fr.trans F13_ f49_
              refine z_goto (tgt := 141) O dX6_readCommand_112 (by decide) ?_
              exact z_vret O hret hlk dX6_readCommand_141 (Nat.le_of_ble_eq_true rfl) (Nat.le_of_ble_eq_true rfl) ⟨rfl, rfl, _, k48_, F50_, h⟩
            · have h := h.2 c42_
              refine z_lsw (off := 71) (tgt := 136) O dX6_readCommand_65 (by decide) ((lv_osw c15_ rfl).trans ((lv_osw c24_ rfl).trans ((lv_osw c33_ rfl).trans ((lv_osw c42_ rfl).trans rfl)))) (by decide) ?_
              refine z_aload_n O dX6_readCommand_136 rfl rfl ?_
              refine z_iload_n O dX6_readCommand_137 rfl rfl ?_
              refine z_callVv (As := [.int y1]) (st := []) O (s_M_readNumber hfl k11_ h) wy_X6_readNumber wl_RX6_223 dX6_readCommand_138 rfl rfl (M_obj k11_) ⟨by decide, rfl⟩ ⟨Nat.le_of_ble_eq_true rfl, Nat.le_of_ble_eq_true rfl⟩ (Nat.le_of_ble_eq_true rfl) ⟨Nat.le_of_ble_eq_true rfl, Nat.le_of_ble_eq_true rfl⟩ (fun z52_ G53_ hq54_ => ?_)
              obtain ⟨rfl, v55_, k56_, f57_, h⟩ := hq54_
              have F58_ : Fr b0 8 G G53_ := Fr.trans F13_ f57_
              exact z_vret O hret hlk dX6_readCommand_141 (Nat.le_of_ble_eq_true rfl) (Nat.le_of_ble_eq_true rfl) ⟨rfl, rfl, _, k56_, F58_, h⟩
    · have h := h.2 c14_
      exact z_vret O hret hlk dX6_readCommand_63 (Nat.le_of_ble_eq_true rfl) (Nat.le_of_ble_eq_true rfl) ⟨rfl, rfl, _, k11_, F13_, h⟩
  have HJ48 : ∀ (y1 : Int32) (v0 : MT) (G9 : zG) (g0 : MA b0 v0 G9) (gF : Fr b0 8 G G9), PJ_M_readCommand_48 y1 v0 Q → zT p l e (zrm 7 155 0 0) s m args below meth c (zEnd below D B (zRv fun z' G' => z = z' ∧ ∃ w, MA b0 w G' ∧ Fr b0 8 G G' ∧ Q w) args s 0 0) D B 2 0 0 48 [.ref b0] [some (.ref b0), some (.int y1)] z G9 := by
    intro y1 v0 G9 g0 gF h
    unfold PJ_M_readCommand_48 at h
    refine z_iconst (v := 1) O dX6_readCommand_48 (by decide) ?_
    refine z_goto (tgt := 53) O dX6_readCommand_49 (by decide) ?_
    exact z_subL (L' := [some (.ref b0), some (.int y1)]) (zLe.sub (And.intro rfl (And.intro rfl True.intro))) (HJ53 y1 1 v0 G9 g0 gF h)
  refine z_aload_n O dX6_readCommand_0 rfl rfl ?_
  refine z_callVi (As := []) (st := []) O (s_M_here hfl h0 h) wy_X6_here wl_RX6_146 dX6_readCommand_1 rfl rfl (M_obj h0) ⟨by decide, rfl⟩ ⟨Nat.le_of_ble_eq_true rfl, Nat.le_of_ble_eq_true rfl⟩ (Nat.le_of_ble_eq_true rfl) ⟨Nat.le_of_ble_eq_true rfl, Nat.le_of_ble_eq_true rfl⟩ (fun r1_ z2_ G3_ hq4_ => ?_)
  obtain ⟨rfl, rfl, h⟩ := hq4_
  refine z_istore_n (L' := [some (.ref b0), some (.int r1_)]) O dX6_readCommand_4 rfl (by decide) rfl ?_
  refine z_aload_n O dX6_readCommand_5 rfl rfl ?_
  refine z_iload_n O dX6_readCommand_6 rfl rfl ?_
  refine z_bipush (v := 119) O dX6_readCommand_7 (by decide) ?_
  refine z_icmp_eq (tgt := 48) O dX6_readCommand_9 (by decide) (fun c5_ => ?_) (fun c5_ => ?_)
  · have h := h.1 c5_
    exact z_subL (L' := [some (.ref b0), some (.int r1_)]) (zLe.sub (And.intro rfl (And.intro rfl True.intro))) (HJ48 r1_ v0 G h0 Fr.rf h)
  · have h := h.2 c5_
    refine z_iload_n O dX6_readCommand_12 rfl rfl ?_
    refine z_bipush (v := 106) O dX6_readCommand_13 (by decide) ?_
    refine z_icmp_eq (tgt := 48) O dX6_readCommand_15 (by decide) (fun c59_ => ?_) (fun c59_ => ?_)
    · have h := h.1 c59_
      exact z_subL (L' := [some (.ref b0), some (.int r1_)]) (zLe.sub (And.intro rfl (And.intro rfl True.intro))) (HJ48 r1_ v0 G h0 Fr.rf h)
    · have h := h.2 c59_
      refine z_iload_n O dX6_readCommand_18 rfl rfl ?_
      refine z_bipush (v := 114) O dX6_readCommand_19 (by decide) ?_
      refine z_icmp_eq (tgt := 48) O dX6_readCommand_21 (by decide) (fun c60_ => ?_) (fun c60_ => ?_)
      · have h := h.1 c60_
        exact z_subL (L' := [some (.ref b0), some (.int r1_)]) (zLe.sub (And.intro rfl (And.intro rfl True.intro))) (HJ48 r1_ v0 G h0 Fr.rf h)
      · have h := h.2 c60_
        refine z_iload_n O dX6_readCommand_24 rfl rfl ?_
        refine z_bipush (v := 108) O dX6_readCommand_25 (by decide) ?_
        refine z_icmp_eq (tgt := 48) O dX6_readCommand_27 (by decide) (fun c61_ => ?_) (fun c61_ => ?_)
        · have h := h.1 c61_
          exact z_subL (L' := [some (.ref b0), some (.int r1_)]) (zLe.sub (And.intro rfl (And.intro rfl True.intro))) (HJ48 r1_ v0 G h0 Fr.rf h)
        · have h := h.2 c61_
          refine z_iload_n O dX6_readCommand_30 rfl rfl ?_
          refine z_bipush (v := 104) O dX6_readCommand_31 (by decide) ?_
          refine z_icmp_eq (tgt := 48) O dX6_readCommand_33 (by decide) (fun c62_ => ?_) (fun c62_ => ?_)
          · have h := h.1 c62_
            exact z_subL (L' := [some (.ref b0), some (.int r1_)]) (zLe.sub (And.intro rfl (And.intro rfl True.intro))) (HJ48 r1_ v0 G h0 Fr.rf h)
          · have h := h.2 c62_
            refine z_iload_n O dX6_readCommand_36 rfl rfl ?_
            refine z_bipush (v := 115) O dX6_readCommand_37 (by decide) ?_
            refine z_icmp_eq (tgt := 48) O dX6_readCommand_39 (by decide) (fun c63_ => ?_) (fun c63_ => ?_)
            · have h := h.1 c63_
              exact z_subL (L' := [some (.ref b0), some (.int r1_)]) (zLe.sub (And.intro rfl (And.intro rfl True.intro))) (HJ48 r1_ v0 G h0 Fr.rf h)
            · have h := h.2 c63_
              refine z_iload_n O dX6_readCommand_42 rfl rfl ?_
              refine z_bipush (v := 116) O dX6_readCommand_43 (by decide) ?_
              refine z_icmp_ne (tgt := 52) O dX6_readCommand_45 (by decide) (fun c64_ => ?_) (fun c64_ => ?_)
              · have h := h.1 c64_
                refine z_iconst (v := 0) O dX6_readCommand_52 (by decide) ?_
                exact z_subL (L' := [some (.ref b0), some (.int r1_)]) (zLe.sub (And.intro rfl (And.intro rfl True.intro))) (HJ53 r1_ 0 v0 G h0 Fr.rf h)
              · have h := h.2 c64_
                exact z_subL (L' := [some (.ref b0), some (.int r1_)]) (zLe.sub (And.intro rfl (And.intro rfl True.intro))) (HJ48 r1_ v0 G h0 Fr.rf h)
