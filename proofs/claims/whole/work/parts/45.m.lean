theorem dX6_runScript_0 : decode cX6_runScript 0 = .ok (.aload_n 0, 1) := by decide +kernel
theorem dX6_runScript_1 : decode cX6_runScript 1 = .ok (.iload_n 1, 1) := by decide +kernel
theorem dX6_runScript_2 : decode cX6_runScript 2 = .ok (.i2l, 1) := by decide +kernel
theorem dX6_runScript_3 : decode cX6_runScript 3 = .ok (.lconst 1, 1) := by decide +kernel
theorem dX6_runScript_4 : decode cX6_runScript 4 = .ok (.ldc2_w 284, 3) := by decide +kernel
theorem dX6_runScript_7 : decode cX6_runScript 7 = .ok (.invokestatic 44, 3) := by decide +kernel
theorem dX6_runScript_10 : decode cX6_runScript 10 = .ok (.ifCond .eq 24, 3) := by decide +kernel
theorem dX6_runScript_13 : decode cX6_runScript 13 = .ok (.lload_n 2, 1) := by decide +kernel
theorem dX6_runScript_14 : decode cX6_runScript 14 = .ok (.lconst 0, 1) := by decide +kernel
theorem dX6_runScript_15 : decode cX6_runScript 15 = .ok (.bipush 6, 2) := by decide +kernel
theorem dX6_runScript_17 : decode cX6_runScript 17 = .ok (.iload_n 1, 1) := by decide +kernel
theorem dX6_runScript_18 : decode cX6_runScript 18 = .ok (.imul, 1) := by decide +kernel
theorem dX6_runScript_19 : decode cX6_runScript 19 = .ok (.invokestatic 286, 3) := by decide +kernel
theorem dX6_runScript_22 : decode cX6_runScript 22 = .ok (.lconst 1, 1) := by decide +kernel
theorem dX6_runScript_23 : decode cX6_runScript 23 = .ok (.lsub, 1) := by decide +kernel
theorem dX6_runScript_24 : decode cX6_runScript 24 = .ok (.invokestatic 44, 3) := by decide +kernel
theorem dX6_runScript_27 : decode cX6_runScript 27 = .ok (.ifCond .eq 7, 3) := by decide +kernel
theorem dX6_runScript_30 : decode cX6_runScript 30 = .ok (.iconst 0, 1) := by decide +kernel
theorem dX6_runScript_31 : decode cX6_runScript 31 = .ok (.goto 4, 3) := by decide +kernel
theorem dX6_runScript_34 : decode cX6_runScript 34 = .ok (.iconst 1, 1) := by decide +kernel
theorem dX6_runScript_35 : decode cX6_runScript 35 = .ok (.invokevirtual 136, 3) := by decide +kernel
theorem dX6_runScript_38 : decode cX6_runScript 38 = .ok (.ifCond .eq 5, 3) := by decide +kernel
theorem dX6_runScript_41 : decode cX6_runScript 41 = .ok (.iconst 0, 1) := by decide +kernel
theorem dX6_runScript_42 : decode cX6_runScript 42 = .ok (.ireturn, 1) := by decide +kernel
theorem dX6_runScript_43 : decode cX6_runScript 43 = .ok (.aload_n 0, 1) := by decide +kernel
theorem dX6_runScript_44 : decode cX6_runScript 44 = .ok (.getfield 7, 3) := by decide +kernel
theorem dX6_runScript_47 : decode cX6_runScript 47 = .ok (.aload_n 0, 1) := by decide +kernel
theorem dX6_runScript_48 : decode cX6_runScript 48 = .ok (.getfield 13, 3) := by decide +kernel
theorem dX6_runScript_51 : decode cX6_runScript 51 = .ok (.invokestatic 233, 3) := by decide +kernel
theorem dX6_runScript_54 : decode cX6_runScript 54 = .ok (.iconst 0, 1) := by decide +kernel
theorem dX6_runScript_55 : decode cX6_runScript 55 = .ok (.istore 4, 2) := by decide +kernel
theorem dX6_runScript_57 : decode cX6_runScript 57 = .ok (.iload 4, 2) := by decide +kernel
theorem dX6_runScript_59 : decode cX6_runScript 59 = .ok (.iload_n 1, 1) := by decide +kernel
theorem dX6_runScript_60 : decode cX6_runScript 60 = .ok (.if_icmp .ge 38, 3) := by decide +kernel
theorem dX6_runScript_63 : decode cX6_runScript 63 = .ok (.aload_n 0, 1) := by decide +kernel
theorem dX6_runScript_64 : decode cX6_runScript 64 = .ok (.lload_n 2, 1) := by decide +kernel
theorem dX6_runScript_65 : decode cX6_runScript 65 = .ok (.bipush 6, 2) := by decide +kernel
theorem dX6_runScript_67 : decode cX6_runScript 67 = .ok (.iload_n 1, 1) := by decide +kernel
theorem dX6_runScript_68 : decode cX6_runScript 68 = .ok (.iconst 1, 1) := by decide +kernel
theorem dX6_runScript_69 : decode cX6_runScript 69 = .ok (.isub, 1) := by decide +kernel
theorem dX6_runScript_70 : decode cX6_runScript 70 = .ok (.iload 4, 2) := by decide +kernel
theorem dX6_runScript_72 : decode cX6_runScript 72 = .ok (.isub, 1) := by decide +kernel
theorem dX6_runScript_73 : decode cX6_runScript 73 = .ok (.imul, 1) := by decide +kernel
theorem dX6_runScript_74 : decode cX6_runScript 74 = .ok (.invokestatic 286, 3) := by decide +kernel
theorem dX6_runScript_77 : decode cX6_runScript 77 = .ok (.ldiv, 1) := by decide +kernel
theorem dX6_runScript_78 : decode cX6_runScript 78 = .ok (.ldc2_w 290, 3) := by decide +kernel
theorem dX6_runScript_81 : decode cX6_runScript 81 = .ok (.lrem, 1) := by decide +kernel
theorem dX6_runScript_82 : decode cX6_runScript 82 = .ok (.l2i, 1) := by decide +kernel
theorem dX6_runScript_83 : decode cX6_runScript 83 = .ok (.invokevirtual 292, 3) := by decide +kernel
theorem dX6_runScript_86 : decode cX6_runScript 86 = .ok (.ifCond .ne 6, 3) := by decide +kernel
theorem dX6_runScript_89 : decode cX6_runScript 89 = .ok (.iload 4, 2) := by decide +kernel
theorem dX6_runScript_91 : decode cX6_runScript 91 = .ok (.ireturn, 1) := by decide +kernel
theorem dX6_runScript_92 : decode cX6_runScript 92 = .ok (.iinc 4 1, 3) := by decide +kernel
theorem dX6_runScript_95 : decode cX6_runScript 95 = .ok (.goto (-38), 3) := by decide +kernel
theorem dX6_runScript_98 : decode cX6_runScript 98 = .ok (.iconst (-1), 1) := by decide +kernel
theorem dX6_runScript_99 : decode cX6_runScript 99 = .ok (.ireturn, 1) := by decide +kernel
def PL_M_runScript_57 : Nat → Int32 → Int64 → Int32 → Int64 → Int32 → MT → (Int32 → MT → Prop) → Prop
  | 0, _, _, _, _, _, _, _ => False
  | n + 1, x1, x2, y1, y2, y4, v0, Q => ((y1 ≤ y4 → Q (-1) v0) ∧ (¬ y1 ≤ y4 → P_M_tens (6 * ((y1 - 1) - y4)) (fun r28_ => (¬ r28_ = 0 ∧ (P_M_command (Int64.toInt32 (zreml (y2 / r28_) 1000000)) v0 (fun r33_ v37_ => (((¬ r33_ = 0 → (fun y1 y2 y4 v0 => PL_M_runScript_57 n x1 x2 y1 y2 y4 v0  Q) y1 y2 (y4 + 1) v37_) ∧ (r33_ = 0 → Q y4 v37_)))))))))
def PJ_M_runScript_35 (x1 : Int32) (x2 : Int64) (y1 : Int32) (y2 : Int64) (u0 : Int32) (v0 : MT) (Q : Int32 → MT → Prop) : Prop := P_M_refused u0 v0 (fun r6_ v10_ => (((r6_ = 0 → P_M_copy (M_now v10_) (M_trial v10_) (fun v19_ => (∀ v24_, v24_ = (M_set_trial v10_ v19_) → ((∃ n42_, PL_M_runScript_57 n42_ x1 x2 y1 y2 0 v24_ Q))))) ∧ (¬ r6_ = 0 → Q 0 v10_))))
def PJ_M_runScript_34 (x1 : Int32) (x2 : Int64) (y1 : Int32) (y2 : Int64) (v0 : MT) (Q : Int32 → MT → Prop) : Prop := PJ_M_runScript_35 x1 x2 y1 y2 1 v0 Q
def P_M_runScript (x1 : Int32) (x2 : Int64) (v0 : MT) (Q : Int32 → MT → Prop) : Prop := P_M_in (Int32.toInt64 x1) 1 3 (fun r1_ => (((r1_ = 0 → PJ_M_runScript_34 x1 x2 x1 x2 v0 Q) ∧ (¬ r1_ = 0 → P_M_tens (6 * x1) (fun r43_ => (P_M_in x2 0 (r43_ - 1) (fun r47_ => (((r47_ = 0 → PJ_M_runScript_34 x1 x2 x1 x2 v0 Q) ∧ (¬ r47_ = 0 → PJ_M_runScript_35 x1 x2 x1 x2 0 v0 Q))))))))))
set_option maxRecDepth 100000 in
theorem s_M_runScript {l : Launch} {D : zD} {B : Nat} {sa : Nat → Nat} (hfl : l.stackTraces = false) {z : Nat} {G : zG} {b0 : Nat} {x1 : Int32} {x2 : Int64} {v0 : MT} {Q : Int32 → MT → Prop} (h0 : MA b0 v0 G) (h : P_M_runScript x1 x2 v0 Q) : zSp l D B sa yX6_runScript cX6_runScript 5 (some .int) 8 181 0 0 [.ref b0, .int x1, .long x2] z G (zRi fun r z' G' => z = z' ∧ ∃ w, MA b0 w G' ∧ Fr b0 8 G G' ∧ Q r w) := by
  unfold P_M_runScript at h
  refine z_ofW (by decide +kernel) hfl [some (.ref b0), some (.int x1), some (.long x2), none, none] rfl (Nat.le_of_ble_eq_true rfl) (fun p e s m args below meth c O hret hlk hnm => ?_)
  have O : zO p l s m args c D B sa 5 cX6_runScript RX6 := O
  have HL57 : ∀ (n9 : Nat)    (y1 : Int32) (y2 : Int64) (y4 : Int32) (v0 : MT) (G9 : zG) (g0 : MA b0 v0 G9) (gF : Fr b0 8 G G9) (h : PL_M_runScript_57 n9 x1 x2 y1 y2 y4 v0 Q), zT p l e (zrm 8 181 0 0) s m args below meth c (zEnd below D B (zRi fun r z' G' => z = z' ∧ ∃ w, MA b0 w G' ∧ Fr b0 8 G G' ∧ Q r w) args s 0 0) D B 5 0 0 57 [] [some (.ref b0), some (.int y1), some (.long y2), none, some (.int y4)] z G9 := by
    intro n9   
    induction n9 with
    | zero =>
      intro _ _ _ _ _ _ _ h
      exact (h : False).elim
    | succ n ih =>
      intro y1 y2 y4 v0 G9 g0 gF h
      rw [PL_M_runScript_57] at h
      refine z_iload O dX6_runScript_57 rfl ?_
      refine z_iload_n O dX6_runScript_59 rfl rfl ?_
      refine z_icmp_ge (tgt := 98) O dX6_runScript_60 (by decide) (fun c27_ => ?_) (fun c27_ => ?_)
      · have h := h.1 c27_
        refine z_iconst (v := (-1)) O dX6_runScript_98 (by decide) ?_
        exact z_iret O hret hlk dX6_runScript_99 (Nat.le_of_ble_eq_true rfl) (Nat.le_of_ble_eq_true rfl) ⟨_, rfl, rfl, _, g0, gF, h⟩
      · have h := h.2 c27_
        refine z_aload_n O dX6_runScript_63 rfl rfl ?_
        refine z_lload_n O dX6_runScript_64 rfl rfl ?_
        refine z_bipush (v := 6) O dX6_runScript_65 (by decide) ?_
        refine z_iload_n O dX6_runScript_67 rfl rfl ?_
        refine z_iconst (v := 1) O dX6_runScript_68 (by decide) ?_
        refine z_isub O dX6_runScript_69 ?_
        refine z_iload O dX6_runScript_70 rfl ?_
        refine z_isub O dX6_runScript_72 ?_
        refine z_imul O dX6_runScript_73 ?_
        refine z_callSl (As := [.int (6 * ((y1 - 1) - y4))]) (st := [.long y2, .ref b0]) O (s_M_tens hfl h) wy_X6_tens wl_RX6_286 dX6_runScript_74 rfl rfl ⟨Nat.le_of_ble_eq_true rfl, Nat.le_of_ble_eq_true rfl⟩ (Nat.le_of_ble_eq_true rfl) ⟨Nat.le_of_ble_eq_true rfl, Nat.le_of_ble_eq_true rfl⟩ (fun r28_ z29_ G30_ hq31_ => ?_)
        obtain ⟨rfl, rfl, h⟩ := hq31_
        obtain ⟨q32_, h⟩ := h
        refine z_ldiv O dX6_runScript_77 q32_ ?_
        refine z_ldc2 (v := 1000000) O wc_RX6_290 dX6_runScript_78 ?_
        refine z_lrem O dX6_runScript_81 (by decide) ?_
        refine z_l2i O dX6_runScript_82 ?_
        refine z_callVi (As := [.int (Int64.toInt32 (zreml (y2 / r28_) 1000000))]) (st := []) O (s_M_command hfl g0 h) wy_X6_command wl_RX6_292 dX6_runScript_83 rfl rfl (M_obj g0) ⟨by decide, rfl⟩ ⟨Nat.le_of_ble_eq_true rfl, Nat.le_of_ble_eq_true rfl⟩ (Nat.le_of_ble_eq_true rfl) ⟨Nat.le_of_ble_eq_true rfl, Nat.le_of_ble_eq_true rfl⟩ (fun r33_ z34_ G35_ hq36_ => ?_)
        obtain ⟨rfl, v37_, k38_, f39_, h⟩ := hq36_
        have F40_ : Fr b0 8 G G35_ := Fr.trans gF f39_
        refine z_if_ne (tgt := 92) O dX6_runScript_86 (by decide) (fun c41_ => ?_) (fun c41_ => ?_)
        · have h := h.1 c41_
          refine z_iinc (v := (y4 + 1)) (L' := [some (.ref b0), some (.int y1), some (.long y2), none, some (.int (y4 + 1))]) O dX6_runScript_92 rfl (by first | rfl | decide) (by decide) rfl ?_
          refine z_goto (tgt := 57) O dX6_runScript_95 (by decide) ?_
          exact z_subL (L' := [some (.ref b0), some (.int y1), some (.long y2), none, some (.int (y4 + 1))]) (zLe.sub (And.intro rfl (And.intro rfl (And.intro rfl (And.intro rfl True.intro))))) (ih y1 y2 (y4 + 1) v37_ G35_ k38_ F40_ h)
        · have h := h.2 c41_
          refine z_iload O dX6_runScript_89 rfl ?_
          exact z_iret O hret hlk dX6_runScript_91 (Nat.le_of_ble_eq_true rfl) (Nat.le_of_ble_eq_true rfl) ⟨_, rfl, rfl, _, k38_, F40_, h⟩
  have HJ35 : ∀ (y1 : Int32) (y2 : Int64) (u0 : Int32) (v0 : MT) (G9 : zG) (g0 : MA b0 v0 G9) (gF : Fr b0 8 G G9), PJ_M_runScript_35 x1 x2 y1 y2 u0 v0 Q → zT p l e (zrm 8 181 0 0) s m args below meth c (zEnd below D B (zRi fun r z' G' => z = z' ∧ ∃ w, MA b0 w G' ∧ Fr b0 8 G G' ∧ Q r w) args s 0 0) D B 5 0 0 35 [.int u0, .ref b0] [some (.ref b0), some (.int y1), some (.long y2), none, none] z G9 := by
    intro y1 y2 u0 v0 G9 g0 gF h
    unfold PJ_M_runScript_35 at h
    refine z_callVi (As := [.int u0]) (st := []) O (s_M_refused hfl g0 h) wy_X6_refused wl_RX6_136 dX6_runScript_35 rfl rfl (M_obj g0) ⟨by decide, rfl⟩ ⟨Nat.le_of_ble_eq_true rfl, Nat.le_of_ble_eq_true rfl⟩ (Nat.le_of_ble_eq_true rfl) ⟨Nat.le_of_ble_eq_true rfl, Nat.le_of_ble_eq_true rfl⟩ (fun r6_ z7_ G8_ hq9_ => ?_)
    obtain ⟨rfl, v10_, k11_, f12_, h⟩ := hq9_
    have F13_ : Fr b0 8 G G8_ := Fr.trans gF f12_
    refine z_if_eq (tgt := 43) O dX6_runScript_38 (by decide) (fun c14_ => ?_) (fun c14_ => ?_)
    · have h := h.1 c14_
      refine z_aload_n O dX6_runScript_43 rfl rfl ?_
      refine z_get (v := .ref (b0 + 1)) O wf_RX6_7 dX6_runScript_44 (M_obj k11_) rfl ?_
      refine z_aload_n O dX6_runScript_47 rfl rfl ?_
      refine z_get (v := .ref (b0 + 2)) O wf_RX6_13 dX6_runScript_48 (M_obj k11_) rfl ?_
      refine z_callSv (As := [.ref (b0 + 1), .ref (b0 + 2)]) (st := []) O (s_M_copy hfl (M_now_of k11_) (M_trial_of k11_) (by omega) h) wy_X6_copy wl_RX6_233 dX6_runScript_51 rfl rfl ⟨Nat.le_of_ble_eq_true rfl, Nat.le_of_ble_eq_true rfl⟩ (Nat.le_of_ble_eq_true rfl) ⟨Nat.le_of_ble_eq_true rfl, Nat.le_of_ble_eq_true rfl⟩ (fun z16_ G17_ hq18_ => ?_)
      obtain ⟨rfl, v19_, k20_, f21_, h⟩ := hq18_
      have k22_ := M_put_trial k11_ k20_ f21_
      have f23_ : Fr b0 8 G8_ G17_ := Fr.mono f21_ (by omega) (by omega)
      obtain ⟨v24_, ev24_⟩ : ∃ w, w = (M_set_trial v10_ v19_) := ⟨_, rfl⟩
      have h := h v24_ ev24_
      have k25_ : MA b0 v24_ G17_ := by rw [ev24_]; exact k22_
      have F26_ : Fr b0 8 G G17_ := Fr.trans F13_ f23_
      refine z_iconst (v := 0) O dX6_runScript_54 (by decide) ?_
      refine z_istore (L' := [some (.ref b0), some (.int y1), some (.long y2), none, some (.int 0)]) O dX6_runScript_55 (by decide) rfl ?_
      obtain ⟨n42_, h⟩ := h
      exact z_subL (L' := [some (.ref b0), some (.int y1), some (.long y2), none, some (.int 0)]) (zLe.sub (And.intro rfl (And.intro rfl (And.intro rfl (And.intro rfl True.intro))))) (HL57 n42_ y1 y2 0 v24_ G17_ k25_ F26_ h)
    · have h := h.2 c14_
      refine z_iconst (v := 0) O dX6_runScript_41 (by decide) ?_
      exact z_iret O hret hlk dX6_runScript_42 (Nat.le_of_ble_eq_true rfl) (Nat.le_of_ble_eq_true rfl) ⟨_, rfl, rfl, _, k11_, F13_, h⟩
  have HJ34 : ∀ (y1 : Int32) (y2 : Int64) (v0 : MT) (G9 : zG) (g0 : MA b0 v0 G9) (gF : Fr b0 8 G G9), PJ_M_runScript_34 x1 x2 y1 y2 v0 Q → zT p l e (zrm 8 181 0 0) s m args below meth c (zEnd below D B (zRi fun r z' G' => z = z' ∧ ∃ w, MA b0 w G' ∧ Fr b0 8 G G' ∧ Q r w) args s 0 0) D B 5 0 0 34 [.ref b0] [some (.ref b0), some (.int y1), some (.long y2), none, none] z G9 := by
    intro y1 y2 v0 G9 g0 gF h
    unfold PJ_M_runScript_34 at h
    refine z_iconst (v := 1) O dX6_runScript_34 (by decide) ?_
    exact z_subL (L' := [some (.ref b0), some (.int y1), some (.long y2), none, none]) (zLe.sub (And.intro rfl (And.intro rfl (And.intro rfl True.intro)))) (HJ35 y1 y2 1 v0 G9 g0 gF h)
  refine z_aload_n O dX6_runScript_0 rfl rfl ?_
  refine z_iload_n O dX6_runScript_1 rfl rfl ?_
  refine z_i2l O dX6_runScript_2 ?_
  refine z_lconst (v := 1) O dX6_runScript_3 (by decide) ?_
  refine z_ldc2 (v := 3) O wc_RX6_284 dX6_runScript_4 ?_
  refine z_callSi (As := [.long (Int32.toInt64 x1), .long 1, .long 3]) (st := [.ref b0]) O (s_M_in hfl h) wy_X6_in wl_RX6_44 dX6_runScript_7 rfl rfl ⟨Nat.le_of_ble_eq_true rfl, Nat.le_of_ble_eq_true rfl⟩ (Nat.le_of_ble_eq_true rfl) ⟨Nat.le_of_ble_eq_true rfl, Nat.le_of_ble_eq_true rfl⟩ (fun r1_ z2_ G3_ hq4_ => ?_)
  obtain ⟨rfl, rfl, h⟩ := hq4_
  refine z_if_eq (tgt := 34) O dX6_runScript_10 (by decide) (fun c5_ => ?_) (fun c5_ => ?_)
  · have h := h.1 c5_
    exact z_subL (L' := [some (.ref b0), some (.int x1), some (.long x2), none, none]) (zLe.sub (And.intro rfl (And.intro rfl (And.intro rfl True.intro)))) (HJ34 x1 x2 v0 G h0 Fr.rf h)
  · have h := h.2 c5_
    refine z_lload_n O dX6_runScript_13 rfl rfl ?_
    refine z_lconst (v := 0) O dX6_runScript_14 (by decide) ?_
    refine z_bipush (v := 6) O dX6_runScript_15 (by decide) ?_
    refine z_iload_n O dX6_runScript_17 rfl rfl ?_
    refine z_imul O dX6_runScript_18 ?_
    refine z_callSl (As := [.int (6 * x1)]) (st := [.long 0, .long x2, .ref b0]) O (s_M_tens hfl h) wy_X6_tens wl_RX6_286 dX6_runScript_19 rfl rfl ⟨Nat.le_of_ble_eq_true rfl, Nat.le_of_ble_eq_true rfl⟩ (Nat.le_of_ble_eq_true rfl) ⟨Nat.le_of_ble_eq_true rfl, Nat.le_of_ble_eq_true rfl⟩ (fun r43_ z44_ G45_ hq46_ => ?_)
    obtain ⟨rfl, rfl, h⟩ := hq46_
    refine z_lconst (v := 1) O dX6_runScript_22 (by decide) ?_
    refine z_lsub O dX6_runScript_23 ?_
    refine z_callSi (As := [.long x2, .long 0, .long (r43_ - 1)]) (st := [.ref b0]) O (s_M_in hfl h) wy_X6_in wl_RX6_44 dX6_runScript_24 rfl rfl ⟨Nat.le_of_ble_eq_true rfl, Nat.le_of_ble_eq_true rfl⟩ (Nat.le_of_ble_eq_true rfl) ⟨Nat.le_of_ble_eq_true rfl, Nat.le_of_ble_eq_true rfl⟩ (fun r47_ z48_ G49_ hq50_ => ?_)
    obtain ⟨rfl, rfl, h⟩ := hq50_
    refine z_if_eq (tgt := 34) O dX6_runScript_27 (by decide) (fun c51_ => ?_) (fun c51_ => ?_)
    · have h := h.1 c51_
      exact z_subL (L' := [some (.ref b0), some (.int x1), some (.long x2), none, none]) (zLe.sub (And.intro rfl (And.intro rfl (And.intro rfl True.intro)))) (HJ34 x1 x2 v0 G h0 Fr.rf h)
    · have h := h.2 c51_
      refine z_iconst (v := 0) O dX6_runScript_30 (by decide) ?_
      refine z_goto (tgt := 35) O dX6_runScript_31 (by decide) ?_
      exact z_subL (L' := [some (.ref b0), some (.int x1), some (.long x2), none, none]) (zLe.sub (And.intro rfl (And.intro rfl (And.intro rfl True.intro)))) (HJ35 x1 x2 0 v0 G h0 Fr.rf h)

theorem dX6_runHold_0 : decode cX6_runHold 0 = .ok (.aload_n 0, 1) := by decide +kernel
theorem dX6_runHold_1 : decode cX6_runHold 1 = .ok (.getfield 13, 3) := by decide +kernel
theorem dX6_runHold_4 : decode cX6_runHold 4 = .ok (.iload_n 1, 1) := by decide +kernel
theorem dX6_runHold_5 : decode cX6_runHold 5 = .ok (.invokestatic 184, 3) := by decide +kernel
theorem dX6_runHold_8 : decode cX6_runHold 8 = .ok (.ifCond .eq 31, 3) := by decide +kernel
theorem dX6_runHold_11 : decode cX6_runHold 11 = .ok (.aload_n 0, 1) := by decide +kernel
theorem dX6_runHold_12 : decode cX6_runHold 12 = .ok (.getfield 13, 3) := by decide +kernel
theorem dX6_runHold_15 : decode cX6_runHold 15 = .ok (.iload_n 1, 1) := by decide +kernel
theorem dX6_runHold_16 : decode cX6_runHold 16 = .ok (.iload_n 2, 1) := by decide +kernel
theorem dX6_runHold_17 : decode cX6_runHold 17 = .ok (.invokestatic 187, 3) := by decide +kernel
theorem dX6_runHold_20 : decode cX6_runHold 20 = .ok (.ifCond .eq 19, 3) := by decide +kernel
theorem dX6_runHold_23 : decode cX6_runHold 23 = .ok (.aload_n 0, 1) := by decide +kernel
theorem dX6_runHold_24 : decode cX6_runHold 24 = .ok (.getfield 13, 3) := by decide +kernel
theorem dX6_runHold_27 : decode cX6_runHold 27 = .ok (.iload_n 1, 1) := by decide +kernel
theorem dX6_runHold_28 : decode cX6_runHold 28 = .ok (.iload_n 2, 1) := by decide +kernel
theorem dX6_runHold_29 : decode cX6_runHold 29 = .ok (.invokestatic 191, 3) := by decide +kernel
theorem dX6_runHold_32 : decode cX6_runHold 32 = .ok (.ifCond .lt 7, 3) := by decide +kernel
theorem dX6_runHold_35 : decode cX6_runHold 35 = .ok (.iconst 1, 1) := by decide +kernel
theorem dX6_runHold_36 : decode cX6_runHold 36 = .ok (.goto 4, 3) := by decide +kernel
theorem dX6_runHold_39 : decode cX6_runHold 39 = .ok (.iconst 0, 1) := by decide +kernel
theorem dX6_runHold_40 : decode cX6_runHold 40 = .ok (.ireturn, 1) := by decide +kernel
def P_M_runHold (x1 : Int32) (x2 : Int32) (v0 : MT) (Q : Int32 → MT → Prop) : Prop := P_M_isReader x1 (M_trial v0) (fun r1_ => (((r1_ = 0 → Q 0 v0) ∧ (¬ r1_ = 0 → P_M_canHold x1 x2 (M_trial v0) (fun r6_ => (((r6_ = 0 → Q 0 v0) ∧ (¬ r6_ = 0 → P_M_goHold x1 x2 (M_trial v0) (fun r11_ v15_ => (∀ v20_, v20_ = (M_set_trial v0 v15_) → (((r11_ < 0 → Q 0 v20_) ∧ (¬ r11_ < 0 → Q 1 v20_)))))))))))))
set_option maxRecDepth 100000 in
theorem s_M_runHold {l : Launch} {D : zD} {B : Nat} {sa : Nat → Nat} (hfl : l.stackTraces = false) {z : Nat} {G : zG} {b0 : Nat} {x1 : Int32} {x2 : Int32} {v0 : MT} {Q : Int32 → MT → Prop} (h0 : MA b0 v0 G) (h : P_M_runHold x1 x2 v0 Q) : zSp l D B sa yX6_runHold cX6_runHold 3 (some .boolean) 3 66 0 0 [.ref b0, .int x1, .int x2] z G (zRi fun r z' G' => z = z' ∧ ∃ w, MA b0 w G' ∧ Fr b0 8 G G' ∧ Q r w) := by
  unfold P_M_runHold at h
  refine z_ofW (by decide +kernel) hfl [some (.ref b0), some (.int x1), some (.int x2)] rfl (Nat.le_of_ble_eq_true rfl) (fun p e s m args below meth c O hret hlk hnm => ?_)
  have O : zO p l s m args c D B sa 3 cX6_runHold RX6 := O
  refine z_aload_n O dX6_runHold_0 rfl rfl ?_
  refine z_get (v := .ref (b0 + 2)) O wf_RX6_13 dX6_runHold_1 (M_obj h0) rfl ?_
  refine z_iload_n O dX6_runHold_4 rfl rfl ?_
  refine z_callSi (As := [.ref (b0 + 2), .int x1]) (st := []) O (s_M_isReader hfl (M_trial_of h0) h) wy_X6_isReader wl_RX6_184 dX6_runHold_5 rfl rfl ⟨Nat.le_of_ble_eq_true rfl, Nat.le_of_ble_eq_true rfl⟩ (Nat.le_of_ble_eq_true rfl) ⟨Nat.le_of_ble_eq_true rfl, Nat.le_of_ble_eq_true rfl⟩ (fun r1_ z2_ G3_ hq4_ => ?_)
  obtain ⟨rfl, rfl, h⟩ := hq4_
  refine z_if_eq (tgt := 39) O dX6_runHold_8 (by decide) (fun c5_ => ?_) (fun c5_ => ?_)
  · have h := h.1 c5_
    refine z_iconst (v := 0) O dX6_runHold_39 (by decide) ?_
    exact z_zret O hret rfl hlk dX6_runHold_40 (Nat.le_of_ble_eq_true rfl) (Nat.le_of_ble_eq_true rfl) ⟨_, rfl, rfl, _, h0, Fr.rf, h⟩
  · have h := h.2 c5_
    refine z_aload_n O dX6_runHold_11 rfl rfl ?_
    refine z_get (v := .ref (b0 + 2)) O wf_RX6_13 dX6_runHold_12 (M_obj h0) rfl ?_
    refine z_iload_n O dX6_runHold_15 rfl rfl ?_
    refine z_iload_n O dX6_runHold_16 rfl rfl ?_
    refine z_callSi (As := [.ref (b0 + 2), .int x1, .int x2]) (st := []) O (s_M_canHold hfl (M_trial_of h0) h) wy_X6_canHold wl_RX6_187 dX6_runHold_17 rfl rfl ⟨Nat.le_of_ble_eq_true rfl, Nat.le_of_ble_eq_true rfl⟩ (Nat.le_of_ble_eq_true rfl) ⟨Nat.le_of_ble_eq_true rfl, Nat.le_of_ble_eq_true rfl⟩ (fun r6_ z7_ G8_ hq9_ => ?_)
    obtain ⟨rfl, rfl, h⟩ := hq9_
    refine z_if_eq (tgt := 39) O dX6_runHold_20 (by decide) (fun c10_ => ?_) (fun c10_ => ?_)
    · have h := h.1 c10_
      refine z_iconst (v := 0) O dX6_runHold_39 (by decide) ?_
      exact z_zret O hret rfl hlk dX6_runHold_40 (Nat.le_of_ble_eq_true rfl) (Nat.le_of_ble_eq_true rfl) ⟨_, rfl, rfl, _, h0, Fr.rf, h⟩
    · have h := h.2 c10_
      refine z_aload_n O dX6_runHold_23 rfl rfl ?_
      refine z_get (v := .ref (b0 + 2)) O wf_RX6_13 dX6_runHold_24 (M_obj h0) rfl ?_
      refine z_iload_n O dX6_runHold_27 rfl rfl ?_
      refine z_iload_n O dX6_runHold_28 rfl rfl ?_
      refine z_callSi (As := [.ref (b0 + 2), .int x1, .int x2]) (st := []) O (s_M_goHold hfl (M_trial_of h0) h) wy_X6_goHold wl_RX6_191 dX6_runHold_29 rfl rfl ⟨Nat.le_of_ble_eq_true rfl, Nat.le_of_ble_eq_true rfl⟩ (Nat.le_of_ble_eq_true rfl) ⟨Nat.le_of_ble_eq_true rfl, Nat.le_of_ble_eq_true rfl⟩ (fun r11_ z12_ G13_ hq14_ => ?_)
      obtain ⟨rfl, v15_, k16_, f17_, h⟩ := hq14_
      have k18_ := M_put_trial h0 k16_ f17_
      have f19_ : Fr b0 8 G G13_ := Fr.mono f17_ (by omega) (by omega)
      obtain ⟨v20_, ev20_⟩ : ∃ w, w = (M_set_trial v0 v15_) := ⟨_, rfl⟩
      have h := h v20_ ev20_
      have k21_ : MA b0 v20_ G13_ := by rw [ev20_]; exact k18_
      have F22_ : Fr b0 8 G G13_ := Fr.trans Fr.rf f19_
      refine z_if_lt (tgt := 39) O dX6_runHold_32 (by decide) (fun c23_ => ?_) (fun c23_ => ?_)
      · have h := h.1 c23_
        refine z_iconst (v := 0) O dX6_runHold_39 (by decide) ?_
        exact z_zret O hret rfl hlk dX6_runHold_40 (Nat.le_of_ble_eq_true rfl) (Nat.le_of_ble_eq_true rfl) ⟨_, rfl, rfl, _, k21_, F22_, h⟩
      · have h := h.2 c23_
        refine z_iconst (v := 1) O dX6_runHold_35 (by decide) ?_
        refine z_goto (tgt := 40) O dX6_runHold_36 (by decide) ?_
        exact z_zret O hret rfl hlk dX6_runHold_40 (Nat.le_of_ble_eq_true rfl) (Nat.le_of_ble_eq_true rfl) ⟨_, rfl, rfl, _, k21_, F22_, h⟩

theorem dX6_stir_0 : decode cX6_stir 0 = .ok (.iload_n 1, 1) := by decide +kernel
theorem dX6_stir_1 : decode cX6_stir 1 = .ok (.bipush 16, 2) := by decide +kernel
theorem dX6_stir_3 : decode cX6_stir 3 = .ok (.idiv, 1) := by decide +kernel
theorem dX6_stir_4 : decode cX6_stir 4 = .ok (.istore_n 2, 1) := by decide +kernel
theorem dX6_stir_5 : decode cX6_stir 5 = .ok (.iload_n 1, 1) := by decide +kernel
theorem dX6_stir_6 : decode cX6_stir 6 = .ok (.bipush 16, 2) := by decide +kernel
theorem dX6_stir_8 : decode cX6_stir 8 = .ok (.irem, 1) := by decide +kernel
theorem dX6_stir_9 : decode cX6_stir 9 = .ok (.tableswitch 239 0 11 #[63, 63, 63, 63, 63, 63, 93, 93, 127, 127, 149, 197], 63) := by decide +kernel
theorem dX6_stir_72 : decode cX6_stir 72 = .ok (.aload_n 0, 1) := by decide +kernel
theorem dX6_stir_73 : decode cX6_stir 73 = .ok (.iload_n 2, 1) := by decide +kernel
theorem dX6_stir_74 : decode cX6_stir 74 = .ok (.bipush 8, 2) := by decide +kernel
theorem dX6_stir_76 : decode cX6_stir 76 = .ok (.irem, 1) := by decide +kernel
theorem dX6_stir_77 : decode cX6_stir 77 = .ok (.iload_n 2, 1) := by decide +kernel
theorem dX6_stir_78 : decode cX6_stir 78 = .ok (.bipush 8, 2) := by decide +kernel
theorem dX6_stir_80 : decode cX6_stir 80 = .ok (.idiv, 1) := by decide +kernel
theorem dX6_stir_81 : decode cX6_stir 81 = .ok (.bipush 100, 2) := by decide +kernel
theorem dX6_stir_83 : decode cX6_stir 83 = .ok (.irem, 1) := by decide +kernel
theorem dX6_stir_84 : decode cX6_stir 84 = .ok (.iconst 1, 1) := by decide +kernel
theorem dX6_stir_85 : decode cX6_stir 85 = .ok (.iload_n 2, 1) := by decide +kernel
theorem dX6_stir_86 : decode cX6_stir 86 = .ok (.sipush 1024, 3) := by decide +kernel
theorem dX6_stir_89 : decode cX6_stir 89 = .ok (.idiv, 1) := by decide +kernel
theorem dX6_stir_90 : decode cX6_stir 90 = .ok (.bipush 40, 2) := by decide +kernel
theorem dX6_stir_92 : decode cX6_stir 92 = .ok (.irem, 1) := by decide +kernel
theorem dX6_stir_93 : decode cX6_stir 93 = .ok (.iadd, 1) := by decide +kernel
theorem dX6_stir_94 : decode cX6_stir 94 = .ok (.invokevirtual 268, 3) := by decide +kernel
theorem dX6_stir_97 : decode cX6_stir 97 = .ok (.istore 4, 2) := by decide +kernel
theorem dX6_stir_99 : decode cX6_stir 99 = .ok (.goto 161, 3) := by decide +kernel
theorem dX6_stir_102 : decode cX6_stir 102 = .ok (.aload_n 0, 1) := by decide +kernel
theorem dX6_stir_103 : decode cX6_stir 103 = .ok (.iload_n 2, 1) := by decide +kernel
theorem dX6_stir_104 : decode cX6_stir 104 = .ok (.bipush 8, 2) := by decide +kernel
theorem dX6_stir_106 : decode cX6_stir 106 = .ok (.irem, 1) := by decide +kernel
theorem dX6_stir_107 : decode cX6_stir 107 = .ok (.iload_n 2, 1) := by decide +kernel
theorem dX6_stir_108 : decode cX6_stir 108 = .ok (.bipush 8, 2) := by decide +kernel
theorem dX6_stir_110 : decode cX6_stir 110 = .ok (.idiv, 1) := by decide +kernel
theorem dX6_stir_111 : decode cX6_stir 111 = .ok (.iconst 3, 1) := by decide +kernel
theorem dX6_stir_112 : decode cX6_stir 112 = .ok (.irem, 1) := by decide +kernel
theorem dX6_stir_113 : decode cX6_stir 113 = .ok (.iload_n 2, 1) := by decide +kernel
theorem dX6_stir_114 : decode cX6_stir 114 = .ok (.bipush 32, 2) := by decide +kernel
theorem dX6_stir_116 : decode cX6_stir 116 = .ok (.idiv, 1) := by decide +kernel
theorem dX6_stir_117 : decode cX6_stir 117 = .ok (.iconst 2, 1) := by decide +kernel
theorem dX6_stir_118 : decode cX6_stir 118 = .ok (.irem, 1) := by decide +kernel
theorem dX6_stir_119 : decode cX6_stir 119 = .ok (.iconst 1, 1) := by decide +kernel
theorem dX6_stir_120 : decode cX6_stir 120 = .ok (.if_icmp .ne 7, 3) := by decide +kernel
theorem dX6_stir_123 : decode cX6_stir 123 = .ok (.iconst 1, 1) := by decide +kernel
theorem dX6_stir_124 : decode cX6_stir 124 = .ok (.goto 4, 3) := by decide +kernel
theorem dX6_stir_127 : decode cX6_stir 127 = .ok (.iconst 0, 1) := by decide +kernel
theorem dX6_stir_128 : decode cX6_stir 128 = .ok (.invokevirtual 274, 3) := by decide +kernel
theorem dX6_stir_131 : decode cX6_stir 131 = .ok (.istore 4, 2) := by decide +kernel
theorem dX6_stir_133 : decode cX6_stir 133 = .ok (.goto 127, 3) := by decide +kernel
theorem dX6_stir_136 : decode cX6_stir 136 = .ok (.aload_n 0, 1) := by decide +kernel
theorem dX6_stir_137 : decode cX6_stir 137 = .ok (.iload_n 2, 1) := by decide +kernel
theorem dX6_stir_138 : decode cX6_stir 138 = .ok (.bipush 8, 2) := by decide +kernel
theorem dX6_stir_140 : decode cX6_stir 140 = .ok (.irem, 1) := by decide +kernel
theorem dX6_stir_141 : decode cX6_stir 141 = .ok (.iconst 1, 1) := by decide +kernel
theorem dX6_stir_142 : decode cX6_stir 142 = .ok (.iload_n 2, 1) := by decide +kernel
theorem dX6_stir_143 : decode cX6_stir 143 = .ok (.bipush 8, 2) := by decide +kernel
theorem dX6_stir_145 : decode cX6_stir 145 = .ok (.idiv, 1) := by decide +kernel
theorem dX6_stir_146 : decode cX6_stir 146 = .ok (.bipush 12, 2) := by decide +kernel
theorem dX6_stir_148 : decode cX6_stir 148 = .ok (.irem, 1) := by decide +kernel
theorem dX6_stir_149 : decode cX6_stir 149 = .ok (.iadd, 1) := by decide +kernel
theorem dX6_stir_150 : decode cX6_stir 150 = .ok (.invokevirtual 271, 3) := by decide +kernel
theorem dX6_stir_153 : decode cX6_stir 153 = .ok (.istore 4, 2) := by decide +kernel
theorem dX6_stir_155 : decode cX6_stir 155 = .ok (.goto 105, 3) := by decide +kernel
theorem dX6_stir_158 : decode cX6_stir 158 = .ok (.iload_n 2, 1) := by decide +kernel
theorem dX6_stir_159 : decode cX6_stir 159 = .ok (.bipush 8, 2) := by decide +kernel
theorem dX6_stir_161 : decode cX6_stir 161 = .ok (.idiv, 1) := by decide +kernel
theorem dX6_stir_162 : decode cX6_stir 162 = .ok (.iconst 4, 1) := by decide +kernel
theorem dX6_stir_163 : decode cX6_stir 163 = .ok (.irem, 1) := by decide +kernel
theorem dX6_stir_164 : decode cX6_stir 164 = .ok (.ifCond .ne 14, 3) := by decide +kernel
theorem dX6_stir_167 : decode cX6_stir 167 = .ok (.aload_n 0, 1) := by decide +kernel
theorem dX6_stir_168 : decode cX6_stir 168 = .ok (.iload_n 2, 1) := by decide +kernel
theorem dX6_stir_169 : decode cX6_stir 169 = .ok (.bipush 8, 2) := by decide +kernel
theorem dX6_stir_171 : decode cX6_stir 171 = .ok (.irem, 1) := by decide +kernel
theorem dX6_stir_172 : decode cX6_stir 172 = .ok (.invokevirtual 278, 3) := by decide +kernel
theorem dX6_stir_175 : decode cX6_stir 175 = .ok (.goto 26, 3) := by decide +kernel
theorem dX6_stir_178 : decode cX6_stir 178 = .ok (.aload_n 0, 1) := by decide +kernel
theorem dX6_stir_179 : decode cX6_stir 179 = .ok (.iload_n 2, 1) := by decide +kernel
theorem dX6_stir_180 : decode cX6_stir 180 = .ok (.bipush 8, 2) := by decide +kernel
theorem dX6_stir_182 : decode cX6_stir 182 = .ok (.irem, 1) := by decide +kernel
theorem dX6_stir_183 : decode cX6_stir 183 = .ok (.iload_n 2, 1) := by decide +kernel
theorem dX6_stir_184 : decode cX6_stir 184 = .ok (.bipush 32, 2) := by decide +kernel
theorem dX6_stir_186 : decode cX6_stir 186 = .ok (.idiv, 1) := by decide +kernel
theorem dX6_stir_187 : decode cX6_stir 187 = .ok (.iconst 2, 1) := by decide +kernel
theorem dX6_stir_188 : decode cX6_stir 188 = .ok (.irem, 1) := by decide +kernel
theorem dX6_stir_189 : decode cX6_stir 189 = .ok (.iconst 1, 1) := by decide +kernel
theorem dX6_stir_190 : decode cX6_stir 190 = .ok (.if_icmp .ne 7, 3) := by decide +kernel
theorem dX6_stir_193 : decode cX6_stir 193 = .ok (.iconst 1, 1) := by decide +kernel
theorem dX6_stir_194 : decode cX6_stir 194 = .ok (.goto 4, 3) := by decide +kernel
theorem dX6_stir_197 : decode cX6_stir 197 = .ok (.iconst 0, 1) := by decide +kernel
theorem dX6_stir_198 : decode cX6_stir 198 = .ok (.invokevirtual 295, 3) := by decide +kernel
theorem dX6_stir_201 : decode cX6_stir 201 = .ok (.istore 4, 2) := by decide +kernel
theorem dX6_stir_203 : decode cX6_stir 203 = .ok (.goto 57, 3) := by decide +kernel
theorem dX6_stir_206 : decode cX6_stir 206 = .ok (.iload_n 2, 1) := by decide +kernel
theorem dX6_stir_207 : decode cX6_stir 207 = .ok (.sipush 1024, 3) := by decide +kernel
theorem dX6_stir_210 : decode cX6_stir 210 = .ok (.idiv, 1) := by decide +kernel
theorem dX6_stir_211 : decode cX6_stir 211 = .ok (.iconst 2, 1) := by decide +kernel
theorem dX6_stir_212 : decode cX6_stir 212 = .ok (.irem, 1) := by decide +kernel
theorem dX6_stir_213 : decode cX6_stir 213 = .ok (.ifCond .ne 19, 3) := by decide +kernel
theorem dX6_stir_216 : decode cX6_stir 216 = .ok (.aload_n 0, 1) := by decide +kernel
theorem dX6_stir_217 : decode cX6_stir 217 = .ok (.getfield 13, 3) := by decide +kernel
theorem dX6_stir_220 : decode cX6_stir 220 = .ok (.iconst 3, 1) := by decide +kernel
theorem dX6_stir_221 : decode cX6_stir 221 = .ok (.iload_n 2, 1) := by decide +kernel
theorem dX6_stir_222 : decode cX6_stir 222 = .ok (.sipush 600, 3) := by decide +kernel
theorem dX6_stir_225 : decode cX6_stir 225 = .ok (.irem, 1) := by decide +kernel
theorem dX6_stir_226 : decode cX6_stir 226 = .ok (.invokestatic 199, 3) := by decide +kernel
theorem dX6_stir_229 : decode cX6_stir 229 = .ok (.goto 15, 3) := by decide +kernel
theorem dX6_stir_232 : decode cX6_stir 232 = .ok (.aload_n 0, 1) := by decide +kernel
theorem dX6_stir_233 : decode cX6_stir 233 = .ok (.getfield 13, 3) := by decide +kernel
theorem dX6_stir_236 : decode cX6_stir 236 = .ok (.iconst 2, 1) := by decide +kernel
theorem dX6_stir_237 : decode cX6_stir 237 = .ok (.iload_n 2, 1) := by decide +kernel
theorem dX6_stir_238 : decode cX6_stir 238 = .ok (.bipush 20, 2) := by decide +kernel
theorem dX6_stir_240 : decode cX6_stir 240 = .ok (.irem, 1) := by decide +kernel
theorem dX6_stir_241 : decode cX6_stir 241 = .ok (.invokestatic 199, 3) := by decide +kernel
theorem dX6_stir_244 : decode cX6_stir 244 = .ok (.istore_n 3, 1) := by decide +kernel
theorem dX6_stir_245 : decode cX6_stir 245 = .ok (.goto 15, 3) := by decide +kernel
theorem dX6_stir_248 : decode cX6_stir 248 = .ok (.aload_n 0, 1) := by decide +kernel
theorem dX6_stir_249 : decode cX6_stir 249 = .ok (.iconst 1, 1) := by decide +kernel
theorem dX6_stir_250 : decode cX6_stir 250 = .ok (.iload_n 2, 1) := by decide +kernel
theorem dX6_stir_251 : decode cX6_stir 251 = .ok (.bipush 8, 2) := by decide +kernel
theorem dX6_stir_253 : decode cX6_stir 253 = .ok (.irem, 1) := by decide +kernel
theorem dX6_stir_254 : decode cX6_stir 254 = .ok (.iadd, 1) := by decide +kernel
theorem dX6_stir_255 : decode cX6_stir 255 = .ok (.invokevirtual 281, 3) := by decide +kernel
theorem dX6_stir_258 : decode cX6_stir 258 = .ok (.istore 4, 2) := by decide +kernel
theorem dX6_stir_260 : decode cX6_stir 260 = .ok (.return_, 1) := by decide +kernel
def PJ_M_stir_72 (x1 : Int32) (y2 : Int32) (v0 : MT) (Q : MT → Prop) : Prop := P_M_runWrite (zrem y2 8) (zrem (y2 / 8) 100) (1 + (zrem (y2 / 1024) 40)) v0 (fun r2_ v6_ => (Q v6_))
def PJ_M_stir_102 (x1 : Int32) (y2 : Int32) (v0 : MT) (Q : MT → Prop) : Prop := ((¬ (zrem (y2 / 32) 2) = 1 → P_M_runJoin (zrem y2 8) (zrem (y2 / 8) 3) 0 v0 (fun r17_ v21_ => (Q v21_))) ∧ ((zrem (y2 / 32) 2) = 1 → P_M_runJoin (zrem y2 8) (zrem (y2 / 8) 3) 1 v0 (fun r25_ v29_ => (Q v29_))))
def PJ_M_stir_136 (x1 : Int32) (y2 : Int32) (v0 : MT) (Q : MT → Prop) : Prop := P_M_runRead (zrem y2 8) (1 + (zrem (y2 / 8) 12)) v0 (fun r35_ v39_ => (Q v39_))
def P_M_stir (x1 : Int32) (v0 : MT) (Q : MT → Prop) : Prop := (((zrem x1 16) = 0 → PJ_M_stir_72 x1 (x1 / 16) v0 Q) ∧ (¬ (zrem x1 16) = 0 → (((zrem x1 16) = 1 → PJ_M_stir_72 x1 (x1 / 16) v0 Q) ∧ (¬ (zrem x1 16) = 1 → (((zrem x1 16) = 2 → PJ_M_stir_72 x1 (x1 / 16) v0 Q) ∧ (¬ (zrem x1 16) = 2 → (((zrem x1 16) = 3 → PJ_M_stir_72 x1 (x1 / 16) v0 Q) ∧ (¬ (zrem x1 16) = 3 → (((zrem x1 16) = 4 → PJ_M_stir_72 x1 (x1 / 16) v0 Q) ∧ (¬ (zrem x1 16) = 4 → (((zrem x1 16) = 5 → PJ_M_stir_72 x1 (x1 / 16) v0 Q) ∧ (¬ (zrem x1 16) = 5 → (((zrem x1 16) = 6 → PJ_M_stir_102 x1 (x1 / 16) v0 Q) ∧ (¬ (zrem x1 16) = 6 → (((zrem x1 16) = 7 → PJ_M_stir_102 x1 (x1 / 16) v0 Q) ∧ (¬ (zrem x1 16) = 7 → (((zrem x1 16) = 8 → PJ_M_stir_136 x1 (x1 / 16) v0 Q) ∧ (¬ (zrem x1 16) = 8 → (((zrem x1 16) = 9 → PJ_M_stir_136 x1 (x1 / 16) v0 Q) ∧ (¬ (zrem x1 16) = 9 → (((zrem x1 16) = 10 → ((¬ (zrem ((x1 / 16) / 8) 4) = 0 → ((¬ (zrem ((x1 / 16) / 32) 2) = 1 → P_M_runHold (zrem (x1 / 16) 8) 0 v0 (fun r47_ v51_ => (Q v51_))) ∧ ((zrem ((x1 / 16) / 32) 2) = 1 → P_M_runHold (zrem (x1 / 16) 8) 1 v0 (fun r55_ v59_ => (Q v59_))))) ∧ ((zrem ((x1 / 16) / 8) 4) = 0 → P_M_runLeave (zrem (x1 / 16) 8) v0 (fun r63_ v67_ => (Q v67_))))) ∧ (¬ (zrem x1 16) = 10 → (((zrem x1 16) = 11 → ((¬ (zrem ((x1 / 16) / 1024) 2) = 0 → P_M_put 2 (zrem (x1 / 16) 20) (M_trial v0) (fun r73_ v77_ => (∀ v82_, v82_ = (M_set_trial v0 v77_) → (Q v82_)))) ∧ ((zrem ((x1 / 16) / 1024) 2) = 0 → P_M_put 3 (zrem (x1 / 16) 600) (M_trial v0) (fun r85_ v89_ => (∀ v94_, v94_ = (M_set_trial v0 v89_) → (Q v94_)))))) ∧ (¬ (zrem x1 16) = 11 → P_M_runTicks (1 + (zrem (x1 / 16) 8)) v0 (fun r97_ v101_ => (Q v101_))))))))))))))))))))))))))
set_option maxRecDepth 100000 in
theorem s_M_stir {l : Launch} {D : zD} {B : Nat} {sa : Nat → Nat} (hfl : l.stackTraces = false) {z : Nat} {G : zG} {b0 : Nat} {x1 : Int32} {v0 : MT} {Q : MT → Prop} (h0 : MA b0 v0 G) (h : P_M_stir x1 v0 Q) : zSp l D B sa yX6_stir cX6_stir 5 none 7 153 0 0 [.ref b0, .int x1] z G (zRv fun z' G' => z = z' ∧ ∃ w, MA b0 w G' ∧ Fr b0 8 G G' ∧ Q w) := by
  unfold P_M_stir at h
  refine z_ofW (by decide +kernel) hfl [some (.ref b0), some (.int x1), none, none, none] rfl (Nat.le_of_ble_eq_true rfl) (fun p e s m args below meth c O hret hlk hnm => ?_)
  have O : zO p l s m args c D B sa 5 cX6_stir RX6 := O
  have HJ72 : ∀ (y2 : Int32) (v0 : MT) (G9 : zG) (g0 : MA b0 v0 G9) (gF : Fr b0 8 G G9), PJ_M_stir_72 x1 y2 v0 Q → zT p l e (zrm 7 153 0 0) s m args below meth c (zEnd below D B (zRv fun z' G' => z = z' ∧ ∃ w, MA b0 w G' ∧ Fr b0 8 G G' ∧ Q w) args s 0 0) D B 5 0 0 72 [] [some (.ref b0), none, some (.int y2), none, none] z G9 := by
    intro y2 v0 G9 g0 gF h
    unfold PJ_M_stir_72 at h
    refine z_aload_n O dX6_stir_72 rfl rfl ?_
    refine z_iload_n O dX6_stir_73 rfl rfl ?_
    refine z_bipush (v := 8) O dX6_stir_74 (by decide) ?_
    refine z_irem O dX6_stir_76 (by decide) ?_
    refine z_iload_n O dX6_stir_77 rfl rfl ?_
    refine z_bipush (v := 8) O dX6_stir_78 (by decide) ?_
    refine z_idiv O dX6_stir_80 (by decide) ?_
    refine z_bipush (v := 100) O dX6_stir_81 (by decide) ?_
    refine z_irem O dX6_stir_83 (by decide) ?_
    refine z_iconst (v := 1) O dX6_stir_84 (by decide) ?_
    refine z_iload_n O dX6_stir_85 rfl rfl ?_
    refine z_sipush (v := 1024) O dX6_stir_86 (by decide) ?_
    refine z_idiv O dX6_stir_89 (by decide) ?_
    refine z_bipush (v := 40) O dX6_stir_90 (by decide) ?_
    refine z_irem O dX6_stir_92 (by decide) ?_
    refine z_iadd O dX6_stir_93 ?_
    refine z_callVi (As := [.int (zrem y2 8), .int (zrem (y2 / 8) 100), .int (1 + (zrem (y2 / 1024) 40))]) (st := []) O (s_M_runWrite hfl g0 h) wy_X6_runWrite wl_RX6_268 dX6_stir_94 rfl rfl (M_obj g0) ⟨by decide, rfl⟩ ⟨Nat.le_of_ble_eq_true rfl, Nat.le_of_ble_eq_true rfl⟩ (Nat.le_of_ble_eq_true rfl) ⟨Nat.le_of_ble_eq_true rfl, Nat.le_of_ble_eq_true rfl⟩ (fun r2_ z3_ G4_ hq5_ => ?_)
    obtain ⟨rfl, v6_, k7_, f8_, h⟩ := hq5_
    have F9_ : Fr b0 8 G G4_ := Fr.trans gF f8_
    refine z_istore (L' := [some (.ref b0), none, some (.int y2), none, some (.int r2_)]) O dX6_stir_97 (by decide) rfl ?_
    refine z_goto (tgt := 260) O dX6_stir_99 (by decide) ?_
    exact z_vret O hret hlk dX6_stir_260 (Nat.le_of_ble_eq_true rfl) (Nat.le_of_ble_eq_true rfl) ⟨rfl, rfl, _, k7_, F9_, h⟩
  have HJ102 : ∀ (y2 : Int32) (v0 : MT) (G9 : zG) (g0 : MA b0 v0 G9) (gF : Fr b0 8 G G9), PJ_M_stir_102 x1 y2 v0 Q → zT p l e (zrm 7 153 0 0) s m args below meth c (zEnd below D B (zRv fun z' G' => z = z' ∧ ∃ w, MA b0 w G' ∧ Fr b0 8 G G' ∧ Q w) args s 0 0) D B 5 0 0 102 [] [some (.ref b0), none, some (.int y2), none, none] z G9 := by
    intro y2 v0 G9 g0 gF h
    unfold PJ_M_stir_102 at h
    refine z_aload_n O dX6_stir_102 rfl rfl ?_
    refine z_iload_n O dX6_stir_103 rfl rfl ?_
    refine z_bipush (v := 8) O dX6_stir_104 (by decide) ?_
    refine z_irem O dX6_stir_106 (by decide) ?_
    refine z_iload_n O dX6_stir_107 rfl rfl ?_
    refine z_bipush (v := 8) O dX6_stir_108 (by decide) ?_
    refine z_idiv O dX6_stir_110 (by decide) ?_
    refine z_iconst (v := 3) O dX6_stir_111 (by decide) ?_
    refine z_irem O dX6_stir_112 (by decide) ?_
    refine z_iload_n O dX6_stir_113 rfl rfl ?_
    refine z_bipush (v := 32) O dX6_stir_114 (by decide) ?_
    refine z_idiv O dX6_stir_116 (by decide) ?_
    refine z_iconst (v := 2) O dX6_stir_117 (by decide) ?_
    refine z_irem O dX6_stir_118 (by decide) ?_
    refine z_iconst (v := 1) O dX6_stir_119 (by decide) ?_
    refine z_icmp_ne (tgt := 127) O dX6_stir_120 (by decide) (fun c16_ => ?_) (fun c16_ => ?_)
    · have h := h.1 c16_
      refine z_iconst (v := 0) O dX6_stir_127 (by decide) ?_
      refine z_callVi (As := [.int (zrem y2 8), .int (zrem (y2 / 8) 3), .int 0]) (st := []) O (s_M_runJoin hfl g0 h) wy_X6_runJoin wl_RX6_274 dX6_stir_128 rfl rfl (M_obj g0) ⟨by decide, rfl⟩ ⟨Nat.le_of_ble_eq_true rfl, Nat.le_of_ble_eq_true rfl⟩ (Nat.le_of_ble_eq_true rfl) ⟨Nat.le_of_ble_eq_true rfl, Nat.le_of_ble_eq_true rfl⟩ (fun r17_ z18_ G19_ hq20_ => ?_)
      obtain ⟨rfl, v21_, k22_, f23_, h⟩ := hq20_
      have F24_ : Fr b0 8 G G19_ := Fr.trans gF f23_
      refine z_istore (L' := [some (.ref b0), none, some (.int y2), none, some (.int r17_)]) O dX6_stir_131 (by decide) rfl ?_
      refine z_goto (tgt := 260) O dX6_stir_133 (by decide) ?_
      exact z_vret O hret hlk dX6_stir_260 (Nat.le_of_ble_eq_true rfl) (Nat.le_of_ble_eq_true rfl) ⟨rfl, rfl, _, k22_, F24_, h⟩
    · have h := h.2 c16_
      refine z_iconst (v := 1) O dX6_stir_123 (by decide) ?_
      refine z_goto (tgt := 128) O dX6_stir_124 (by decide) ?_
      refine z_callVi (As := [.int (zrem y2 8), .int (zrem (y2 / 8) 3), .int 1]) (st := []) O (s_M_runJoin hfl g0 h) wy_X6_runJoin wl_RX6_274 dX6_stir_128 rfl rfl (M_obj g0) ⟨by decide, rfl⟩ ⟨Nat.le_of_ble_eq_true rfl, Nat.le_of_ble_eq_true rfl⟩ (Nat.le_of_ble_eq_true rfl) ⟨Nat.le_of_ble_eq_true rfl, Nat.le_of_ble_eq_true rfl⟩ (fun r25_ z26_ G27_ hq28_ => ?_)
      obtain ⟨rfl, v29_, k30_, f31_, h⟩ := hq28_
      have F32_ : Fr b0 8 G G27_ := Fr.trans gF f31_
      refine z_istore (L' := [some (.ref b0), none, some (.int y2), none, some (.int r25_)]) O dX6_stir_131 (by decide) rfl ?_
      refine z_goto (tgt := 260) O dX6_stir_133 (by decide) ?_
      exact z_vret O hret hlk dX6_stir_260 (Nat.le_of_ble_eq_true rfl) (Nat.le_of_ble_eq_true rfl) ⟨rfl, rfl, _, k30_, F32_, h⟩
  have HJ136 : ∀ (y2 : Int32) (v0 : MT) (G9 : zG) (g0 : MA b0 v0 G9) (gF : Fr b0 8 G G9), PJ_M_stir_136 x1 y2 v0 Q → zT p l e (zrm 7 153 0 0) s m args below meth c (zEnd below D B (zRv fun z' G' => z = z' ∧ ∃ w, MA b0 w G' ∧ Fr b0 8 G G' ∧ Q w) args s 0 0) D B 5 0 0 136 [] [some (.ref b0), none, some (.int y2), none, none] z G9 := by
    intro y2 v0 G9 g0 gF h
    unfold PJ_M_stir_136 at h
    refine z_aload_n O dX6_stir_136 rfl rfl ?_
    refine z_iload_n O dX6_stir_137 rfl rfl ?_
    refine z_bipush (v := 8) O dX6_stir_138 (by decide) ?_
    refine z_irem O dX6_stir_140 (by decide) ?_
    refine z_iconst (v := 1) O dX6_stir_141 (by decide) ?_
    refine z_iload_n O dX6_stir_142 rfl rfl ?_
    refine z_bipush (v := 8) O dX6_stir_143 (by decide) ?_
    refine z_idiv O dX6_stir_145 (by decide) ?_
    refine z_bipush (v := 12) O dX6_stir_146 (by decide) ?_
    refine z_irem O dX6_stir_148 (by decide) ?_
    refine z_iadd O dX6_stir_149 ?_
    refine z_callVi (As := [.int (zrem y2 8), .int (1 + (zrem (y2 / 8) 12))]) (st := []) O (s_M_runRead hfl g0 h) wy_X6_runRead wl_RX6_271 dX6_stir_150 rfl rfl (M_obj g0) ⟨by decide, rfl⟩ ⟨Nat.le_of_ble_eq_true rfl, Nat.le_of_ble_eq_true rfl⟩ (Nat.le_of_ble_eq_true rfl) ⟨Nat.le_of_ble_eq_true rfl, Nat.le_of_ble_eq_true rfl⟩ (fun r35_ z36_ G37_ hq38_ => ?_)
    obtain ⟨rfl, v39_, k40_, f41_, h⟩ := hq38_
    have F42_ : Fr b0 8 G G37_ := Fr.trans gF f41_
    refine z_istore (L' := [some (.ref b0), none, some (.int y2), none, some (.int r35_)]) O dX6_stir_153 (by decide) rfl ?_
    refine z_goto (tgt := 260) O dX6_stir_155 (by decide) ?_
    exact z_vret O hret hlk dX6_stir_260 (Nat.le_of_ble_eq_true rfl) (Nat.le_of_ble_eq_true rfl) ⟨rfl, rfl, _, k40_, F42_, h⟩
  refine z_iload_n O dX6_stir_0 rfl rfl ?_
  refine z_bipush (v := 16) O dX6_stir_1 (by decide) ?_
  refine z_idiv O dX6_stir_3 (by decide) ?_
  refine z_istore_n (L' := [some (.ref b0), some (.int x1), some (.int (x1 / 16)), none, none]) O dX6_stir_4 rfl (by decide) rfl ?_
  refine z_iload_n O dX6_stir_5 rfl rfl ?_
  refine z_bipush (v := 16) O dX6_stir_6 (by decide) ?_
  refine z_irem O dX6_stir_8 (by decide) ?_
  rcases Decidable.em ((zrem x1 16) = 0) with c1_ | c1_
  · have h := h.1 c1_
    refine z_tsw (v := 0) (tgt := 72) O dX6_stir_9 c1_ (by decide) (by decide) rfl (by decide) ?_
    exact z_subL (L' := [some (.ref b0), none, some (.int (x1 / 16)), none, none]) (zLe.sub (And.intro rfl (And.intro rfl True.intro))) (HJ72 (x1 / 16) v0 G h0 Fr.rf h)
  · have h := h.2 c1_
    rcases Decidable.em ((zrem x1 16) = 1) with c10_ | c10_
    · have h := h.1 c10_
      refine z_tsw (v := 1) (tgt := 72) O dX6_stir_9 c10_ (by decide) (by decide) rfl (by decide) ?_
      exact z_subL (L' := [some (.ref b0), none, some (.int (x1 / 16)), none, none]) (zLe.sub (And.intro rfl (And.intro rfl True.intro))) (HJ72 (x1 / 16) v0 G h0 Fr.rf h)
    · have h := h.2 c10_
      rcases Decidable.em ((zrem x1 16) = 2) with c11_ | c11_
      · have h := h.1 c11_
        refine z_tsw (v := 2) (tgt := 72) O dX6_stir_9 c11_ (by decide) (by decide) rfl (by decide) ?_
        exact z_subL (L' := [some (.ref b0), none, some (.int (x1 / 16)), none, none]) (zLe.sub (And.intro rfl (And.intro rfl True.intro))) (HJ72 (x1 / 16) v0 G h0 Fr.rf h)
      · have h := h.2 c11_
        rcases Decidable.em ((zrem x1 16) = 3) with c12_ | c12_
        · have h := h.1 c12_
          refine z_tsw (v := 3) (tgt := 72) O dX6_stir_9 c12_ (by decide) (by decide) rfl (by decide) ?_
          exact z_subL (L' := [some (.ref b0), none, some (.int (x1 / 16)), none, none]) (zLe.sub (And.intro rfl (And.intro rfl True.intro))) (HJ72 (x1 / 16) v0 G h0 Fr.rf h)
        · have h := h.2 c12_
          rcases Decidable.em ((zrem x1 16) = 4) with c13_ | c13_
          · have h := h.1 c13_
            refine z_tsw (v := 4) (tgt := 72) O dX6_stir_9 c13_ (by decide) (by decide) rfl (by decide) ?_
            exact z_subL (L' := [some (.ref b0), none, some (.int (x1 / 16)), none, none]) (zLe.sub (And.intro rfl (And.intro rfl True.intro))) (HJ72 (x1 / 16) v0 G h0 Fr.rf h)
          · have h := h.2 c13_
            rcases Decidable.em ((zrem x1 16) = 5) with c14_ | c14_
            · have h := h.1 c14_
              refine z_tsw (v := 5) (tgt := 72) O dX6_stir_9 c14_ (by decide) (by decide) rfl (by decide) ?_
              exact z_subL (L' := [some (.ref b0), none, some (.int (x1 / 16)), none, none]) (zLe.sub (And.intro rfl (And.intro rfl True.intro))) (HJ72 (x1 / 16) v0 G h0 Fr.rf h)
            · have h := h.2 c14_
              rcases Decidable.em ((zrem x1 16) = 6) with c15_ | c15_
              · have h := h.1 c15_
                refine z_tsw (v := 6) (tgt := 102) O dX6_stir_9 c15_ (by decide) (by decide) rfl (by decide) ?_
                exact z_subL (L' := [some (.ref b0), none, some (.int (x1 / 16)), none, none]) (zLe.sub (And.intro rfl (And.intro rfl True.intro))) (HJ102 (x1 / 16) v0 G h0 Fr.rf h)
              · have h := h.2 c15_
                rcases Decidable.em ((zrem x1 16) = 7) with c33_ | c33_
                · have h := h.1 c33_
                  refine z_tsw (v := 7) (tgt := 102) O dX6_stir_9 c33_ (by decide) (by decide) rfl (by decide) ?_
                  exact z_subL (L' := [some (.ref b0), none, some (.int (x1 / 16)), none, none]) (zLe.sub (And.intro rfl (And.intro rfl True.intro))) (HJ102 (x1 / 16) v0 G h0 Fr.rf h)
                · have h := h.2 c33_
                  rcases Decidable.em ((zrem x1 16) = 8) with c34_ | c34_
                  · have h := h.1 c34_
                    refine z_tsw (v := 8) (tgt := 136) O dX6_stir_9 c34_ (by decide) (by decide) rfl (by decide) ?_
                    exact z_subL (L' := [some (.ref b0), none, some (.int (x1 / 16)), none, none]) (zLe.sub (And.intro rfl (And.intro rfl True.intro))) (HJ136 (x1 / 16) v0 G h0 Fr.rf h)
                  · have h := h.2 c34_
                    rcases Decidable.em ((zrem x1 16) = 9) with c43_ | c43_
                    · have h := h.1 c43_
                      refine z_tsw (v := 9) (tgt := 136) O dX6_stir_9 c43_ (by decide) (by decide) rfl (by decide) ?_
                      exact z_subL (L' := [some (.ref b0), none, some (.int (x1 / 16)), none, none]) (zLe.sub (And.intro rfl (And.intro rfl True.intro))) (HJ136 (x1 / 16) v0 G h0 Fr.rf h)
                    · have h := h.2 c43_
                      rcases Decidable.em ((zrem x1 16) = 10) with c44_ | c44_
                      · have h := h.1 c44_
                        refine z_tsw (v := 10) (tgt := 158) O dX6_stir_9 c44_ (by decide) (by decide) rfl (by decide) ?_
                        refine z_iload_n O dX6_stir_158 rfl rfl ?_
                        refine z_bipush (v := 8) O dX6_stir_159 (by decide) ?_
                        refine z_idiv O dX6_stir_161 (by decide) ?_
                        refine z_iconst (v := 4) O dX6_stir_162 (by decide) ?_
                        refine z_irem O dX6_stir_163 (by decide) ?_
                        refine z_if_ne (tgt := 178) O dX6_stir_164 (by decide) (fun c45_ => ?_) (fun c45_ => ?_)
                        · have h := h.1 c45_
                          refine z_aload_n O dX6_stir_178 rfl rfl ?_
                          refine z_iload_n O dX6_stir_179 rfl rfl ?_
                          refine z_bipush (v := 8) O dX6_stir_180 (by decide) ?_
                          refine z_irem O dX6_stir_182 (by decide) ?_
                          refine z_iload_n O dX6_stir_183 rfl rfl ?_
                          refine z_bipush (v := 32) O dX6_stir_184 (by decide) ?_
                          refine z_idiv O dX6_stir_186 (by decide) ?_
                          refine z_iconst (v := 2) O dX6_stir_187 (by decide) ?_
                          refine z_irem O dX6_stir_188 (by decide) ?_
                          refine z_iconst (v := 1) O dX6_stir_189 (by decide) ?_
                          refine z_icmp_ne (tgt := 197) O dX6_stir_190 (by decide) (fun c46_ => ?_) (fun c46_ => ?_)
                          · have h := h.1 c46_
                            refine z_iconst (v := 0) O dX6_stir_197 (by decide) ?_
                            refine z_callVi (As := [.int (zrem (x1 / 16) 8), .int 0]) (st := []) O (s_M_runHold hfl h0 h) wy_X6_runHold wl_RX6_295 dX6_stir_198 rfl rfl (M_obj h0) ⟨by decide, rfl⟩ ⟨Nat.le_of_ble_eq_true rfl, Nat.le_of_ble_eq_true rfl⟩ (Nat.le_of_ble_eq_true rfl) ⟨Nat.le_of_ble_eq_true rfl, Nat.le_of_ble_eq_true rfl⟩ (fun r47_ z48_ G49_ hq50_ => ?_)
                            obtain ⟨rfl, v51_, k52_, f53_, h⟩ := hq50_
                            have F54_ : Fr b0 8 G G49_ := Fr.trans Fr.rf f53_
                            refine z_istore (L' := [some (.ref b0), some (.int x1), some (.int (x1 / 16)), none, some (.int r47_)]) O dX6_stir_201 (by decide) rfl ?_
                            refine z_goto (tgt := 260) O dX6_stir_203 (by decide) ?_
                            exact z_vret O hret hlk dX6_stir_260 (Nat.le_of_ble_eq_true rfl) (Nat.le_of_ble_eq_true rfl) ⟨rfl, rfl, _, k52_, F54_, h⟩
                          · have h := h.2 c46_
                            refine z_iconst (v := 1) O dX6_stir_193 (by decide) ?_
                            refine z_goto (tgt := 198) O dX6_stir_194 (by decide) ?_
                            refine z_callVi (As := [.int (zrem (x1 / 16) 8), .int 1]) (st := []) O (s_M_runHold hfl h0 h) wy_X6_runHold wl_RX6_295 dX6_stir_198 rfl rfl (M_obj h0) ⟨by decide, rfl⟩ ⟨Nat.le_of_ble_eq_true rfl, Nat.le_of_ble_eq_true rfl⟩ (Nat.le_of_ble_eq_true rfl) ⟨Nat.le_of_ble_eq_true rfl, Nat.le_of_ble_eq_true rfl⟩ (fun r55_ z56_ G57_ hq58_ => ?_)
                            obtain ⟨rfl, v59_, k60_, f61_, h⟩ := hq58_
                            have F62_ : Fr b0 8 G G57_ := Fr.trans Fr.rf f61_
                            refine z_istore (L' := [some (.ref b0), some (.int x1), some (.int (x1 / 16)), none, some (.int r55_)]) O dX6_stir_201 (by decide) rfl ?_
                            refine z_goto (tgt := 260) O dX6_stir_203 (by decide) ?_
                            exact z_vret O hret hlk dX6_stir_260 (Nat.le_of_ble_eq_true rfl) (Nat.le_of_ble_eq_true rfl) ⟨rfl, rfl, _, k60_, F62_, h⟩
                        · have h := h.2 c45_
                          refine z_aload_n O dX6_stir_167 rfl rfl ?_
                          refine z_iload_n O dX6_stir_168 rfl rfl ?_
                          refine z_bipush (v := 8) O dX6_stir_169 (by decide) ?_
                          refine z_irem O dX6_stir_171 (by decide) ?_
                          refine z_callVi (As := [.int (zrem (x1 / 16) 8)]) (st := []) O (s_M_runLeave hfl h0 h) wy_X6_runLeave wl_RX6_278 dX6_stir_172 rfl rfl (M_obj h0) ⟨by decide, rfl⟩ ⟨Nat.le_of_ble_eq_true rfl, Nat.le_of_ble_eq_true rfl⟩ (Nat.le_of_ble_eq_true rfl) ⟨Nat.le_of_ble_eq_true rfl, Nat.le_of_ble_eq_true rfl⟩ (fun r63_ z64_ G65_ hq66_ => ?_)
                          obtain ⟨rfl, v67_, k68_, f69_, h⟩ := hq66_
                          have F70_ : Fr b0 8 G G65_ := Fr.trans Fr.rf f69_
                          refine z_goto (tgt := 201) O dX6_stir_175 (by decide) ?_
                          refine z_istore (L' := [some (.ref b0), some (.int x1), some (.int (x1 / 16)), none, some (.int r63_)]) O dX6_stir_201 (by decide) rfl ?_
                          refine z_goto (tgt := 260) O dX6_stir_203 (by decide) ?_
                          exact z_vret O hret hlk dX6_stir_260 (Nat.le_of_ble_eq_true rfl) (Nat.le_of_ble_eq_true rfl) ⟨rfl, rfl, _, k68_, F70_, h⟩
                      · have h := h.2 c44_
                        rcases Decidable.em ((zrem x1 16) = 11) with c71_ | c71_
                        · have h := h.1 c71_
                          refine z_tsw (v := 11) (tgt := 206) O dX6_stir_9 c71_ (by decide) (by decide) rfl (by decide) ?_
                          refine z_iload_n O dX6_stir_206 rfl rfl ?_
                          refine z_sipush (v := 1024) O dX6_stir_207 (by decide) ?_
                          refine z_idiv O dX6_stir_210 (by decide) ?_
                          refine z_iconst (v := 2) O dX6_stir_211 (by decide) ?_
                          refine z_irem O dX6_stir_212 (by decide) ?_
                          refine z_if_ne (tgt := 232) O dX6_stir_213 (by decide) (fun c72_ => ?_) (fun c72_ => ?_)
                          · have h := h.1 c72_
                            refine z_aload_n O dX6_stir_232 rfl rfl ?_
                            refine z_get (v := .ref (b0 + 2)) O wf_RX6_13 dX6_stir_233 (M_obj h0) rfl ?_
                            refine z_iconst (v := 2) O dX6_stir_236 (by decide) ?_
                            refine z_iload_n O dX6_stir_237 rfl rfl ?_
                            refine z_bipush (v := 20) O dX6_stir_238 (by decide) ?_
                            refine z_irem O dX6_stir_240 (by decide) ?_
                            refine z_callSi (As := [.ref (b0 + 2), .int 2, .int (zrem (x1 / 16) 20)]) (st := []) O (s_M_put hfl (M_trial_of h0) h) wy_X6_put wl_RX6_199 dX6_stir_241 rfl rfl ⟨Nat.le_of_ble_eq_true rfl, Nat.le_of_ble_eq_true rfl⟩ (Nat.le_of_ble_eq_true rfl) ⟨Nat.le_of_ble_eq_true rfl, Nat.le_of_ble_eq_true rfl⟩ (fun r73_ z74_ G75_ hq76_ => ?_)
                            obtain ⟨rfl, v77_, k78_, f79_, h⟩ := hq76_
                            have k80_ := M_put_trial h0 k78_ f79_
                            have f81_ : Fr b0 8 G G75_ := Fr.mono f79_ (by omega) (by omega)
                            obtain ⟨v82_, ev82_⟩ : ∃ w, w = (M_set_trial v0 v77_) := ⟨_, rfl⟩
                            have h := h v82_ ev82_
                            have k83_ : MA b0 v82_ G75_ := by rw [ev82_]; exact k80_
                            have F84_ : Fr b0 8 G G75_ := Fr.trans Fr.rf f81_
                            refine z_istore_n (L' := [some (.ref b0), some (.int x1), some (.int (x1 / 16)), some (.int r73_), none]) O dX6_stir_244 rfl (by decide) rfl ?_
                            refine z_goto (tgt := 260) O dX6_stir_245 (by decide) ?_
                            exact z_vret O hret hlk dX6_stir_260 (Nat.le_of_ble_eq_true rfl) (Nat.le_of_ble_eq_true rfl) ⟨rfl, rfl, _, k83_, F84_, h⟩
                          · have h := h.2 c72_
                            refine z_aload_n O dX6_stir_216 rfl rfl ?_
                            refine z_get (v := .ref (b0 + 2)) O wf_RX6_13 dX6_stir_217 (M_obj h0) rfl ?_
                            refine z_iconst (v := 3) O dX6_stir_220 (by decide) ?_
                            refine z_iload_n O dX6_stir_221 rfl rfl ?_
                            refine z_sipush (v := 600) O dX6_stir_222 (by decide) ?_
                            refine z_irem O dX6_stir_225 (by decide) ?_
                            refine z_callSi (As := [.ref (b0 + 2), .int 3, .int (zrem (x1 / 16) 600)]) (st := []) O (s_M_put hfl (M_trial_of h0) h) wy_X6_put wl_RX6_199 dX6_stir_226 rfl rfl ⟨Nat.le_of_ble_eq_true rfl, Nat.le_of_ble_eq_true rfl⟩ (Nat.le_of_ble_eq_true rfl) ⟨Nat.le_of_ble_eq_true rfl, Nat.le_of_ble_eq_true rfl⟩ (fun r85_ z86_ G87_ hq88_ => ?_)
                            obtain ⟨rfl, v89_, k90_, f91_, h⟩ := hq88_
                            have k92_ := M_put_trial h0 k90_ f91_
                            have f93_ : Fr b0 8 G G87_ := Fr.mono f91_ (by omega) (by omega)
                            obtain ⟨v94_, ev94_⟩ : ∃ w, w = (M_set_trial v0 v89_) := ⟨_, rfl⟩
                            have h := h v94_ ev94_
                            have k95_ : MA b0 v94_ G87_ := by rw [ev94_]; exact k92_
                            have F96_ : Fr b0 8 G G87_ := Fr.trans Fr.rf f93_
                            refine z_goto (tgt := 244) O dX6_stir_229 (by decide) ?_
                            refine z_istore_n (L' := [some (.ref b0), some (.int x1), some (.int (x1 / 16)), some (.int r85_), none]) O dX6_stir_244 rfl (by decide) rfl ?_
                            refine z_goto (tgt := 260) O dX6_stir_245 (by decide) ?_
                            exact z_vret O hret hlk dX6_stir_260 (Nat.le_of_ble_eq_true rfl) (Nat.le_of_ble_eq_true rfl) ⟨rfl, rfl, _, k95_, F96_, h⟩
                        · have h := h.2 c71_
                          refine z_tswd (tgt := 248) O dX6_stir_9 (zsw_out (fun j h1 h2 => by rcases (show j = 0 ∨ j = 1 ∨ j = 2 ∨ j = 3 ∨ j = 4 ∨ j = 5 ∨ j = 6 ∨ j = 7 ∨ j = 8 ∨ j = 9 ∨ j = 10 ∨ j = 11 by omega) with rfl | rfl | rfl | rfl | rfl | rfl | rfl | rfl | rfl | rfl | rfl | rfl; exact c1_; exact c10_; exact c11_; exact c12_; exact c13_; exact c14_; exact c15_; exact c33_; exact c34_; exact c43_; exact c44_; exact c71_)) (by decide) ?_
                          refine z_aload_n O dX6_stir_248 rfl rfl ?_
                          refine z_iconst (v := 1) O dX6_stir_249 (by decide) ?_
                          refine z_iload_n O dX6_stir_250 rfl rfl ?_
                          refine z_bipush (v := 8) O dX6_stir_251 (by decide) ?_
                          refine z_irem O dX6_stir_253 (by decide) ?_
                          refine z_iadd O dX6_stir_254 ?_
                          refine z_callVi (As := [.int (1 + (zrem (x1 / 16) 8))]) (st := []) O (s_M_runTicks hfl h0 h) wy_X6_runTicks wl_RX6_281 dX6_stir_255 rfl rfl (M_obj h0) ⟨by decide, rfl⟩ ⟨Nat.le_of_ble_eq_true rfl, Nat.le_of_ble_eq_true rfl⟩ (Nat.le_of_ble_eq_true rfl) ⟨Nat.le_of_ble_eq_true rfl, Nat.le_of_ble_eq_true rfl⟩ (fun r97_ z98_ G99_ hq100_ => ?_)
                          obtain ⟨rfl, v101_, k102_, f103_, h⟩ := hq100_
                          have F104_ : Fr b0 8 G G99_ := Fr.trans Fr.rf f103_
                          refine z_istore (L' := [some (.ref b0), some (.int x1), some (.int (x1 / 16)), none, some (.int r97_)]) O dX6_stir_258 (by decide) rfl ?_
                          exact z_vret O hret hlk dX6_stir_260 (Nat.le_of_ble_eq_true rfl) (Nat.le_of_ble_eq_true rfl) ⟨rfl, rfl, _, k102_, F104_, h⟩
