theorem dX6_readAll_0 : decode cX6_readAll 0 = .ok (.aload_n 0, 1) := by decide +kernel
theorem dX6_readAll_1 : decode cX6_readAll 1 = .ok (.iconst 0, 1) := by decide +kernel
theorem dX6_readAll_2 : decode cX6_readAll 2 = .ok (.putfield 139, 3) := by decide +kernel
theorem dX6_readAll_5 : decode cX6_readAll 5 = .ok (.aload_n 0, 1) := by decide +kernel
theorem dX6_readAll_6 : decode cX6_readAll 6 = .ok (.iconst 1, 1) := by decide +kernel
theorem dX6_readAll_7 : decode cX6_readAll 7 = .ok (.putfield 142, 3) := by decide +kernel
theorem dX6_readAll_10 : decode cX6_readAll 10 = .ok (.aload_n 0, 1) := by decide +kernel
theorem dX6_readAll_11 : decode cX6_readAll 11 = .ok (.iconst 0, 1) := by decide +kernel
theorem dX6_readAll_12 : decode cX6_readAll 12 = .ok (.putfield 158, 3) := by decide +kernel
theorem dX6_readAll_15 : decode cX6_readAll 15 = .ok (.aload_n 0, 1) := by decide +kernel
theorem dX6_readAll_16 : decode cX6_readAll 16 = .ok (.getfield 16, 3) := by decide +kernel
theorem dX6_readAll_19 : decode cX6_readAll 19 = .ok (.invokestatic 32, 3) := by decide +kernel
theorem dX6_readAll_22 : decode cX6_readAll 22 = .ok (.aload_n 0, 1) := by decide +kernel
theorem dX6_readAll_23 : decode cX6_readAll 23 = .ok (.aload_n 0, 1) := by decide +kernel
theorem dX6_readAll_24 : decode cX6_readAll 24 = .ok (.invokevirtual 146, 3) := by decide +kernel
theorem dX6_readAll_27 : decode cX6_readAll 27 = .ok (.bipush 71, 2) := by decide +kernel
theorem dX6_readAll_29 : decode cX6_readAll 29 = .ok (.if_icmp .ne 7, 3) := by decide +kernel
theorem dX6_readAll_32 : decode cX6_readAll 32 = .ok (.iconst 1, 1) := by decide +kernel
theorem dX6_readAll_33 : decode cX6_readAll 33 = .ok (.goto 4, 3) := by decide +kernel
theorem dX6_readAll_36 : decode cX6_readAll 36 = .ok (.iconst 0, 1) := by decide +kernel
theorem dX6_readAll_37 : decode cX6_readAll 37 = .ok (.invokevirtual 150, 3) := by decide +kernel
theorem dX6_readAll_40 : decode cX6_readAll 40 = .ok (.aload_n 0, 1) := by decide +kernel
theorem dX6_readAll_41 : decode cX6_readAll 41 = .ok (.getfield 142, 3) := by decide +kernel
theorem dX6_readAll_44 : decode cX6_readAll 44 = .ok (.ifCond .eq 21, 3) := by decide +kernel
theorem dX6_readAll_47 : decode cX6_readAll 47 = .ok (.aload_n 0, 1) := by decide +kernel
theorem dX6_readAll_48 : decode cX6_readAll 48 = .ok (.getfield 139, 3) := by decide +kernel
theorem dX6_readAll_51 : decode cX6_readAll 51 = .ok (.aload_n 0, 1) := by decide +kernel
theorem dX6_readAll_52 : decode cX6_readAll 52 = .ok (.getfield 133, 3) := by decide +kernel
theorem dX6_readAll_55 : decode cX6_readAll 55 = .ok (.if_icmp .ge 10, 3) := by decide +kernel
theorem dX6_readAll_58 : decode cX6_readAll 58 = .ok (.aload_n 0, 1) := by decide +kernel
theorem dX6_readAll_59 : decode cX6_readAll 59 = .ok (.invokevirtual 227, 3) := by decide +kernel
theorem dX6_readAll_62 : decode cX6_readAll 62 = .ok (.goto (-22), 3) := by decide +kernel
theorem dX6_readAll_65 : decode cX6_readAll 65 = .ok (.aload_n 0, 1) := by decide +kernel
theorem dX6_readAll_66 : decode cX6_readAll 66 = .ok (.getfield 142, 3) := by decide +kernel
theorem dX6_readAll_69 : decode cX6_readAll 69 = .ok (.ifCond .eq 7, 3) := by decide +kernel
theorem dX6_readAll_72 : decode cX6_readAll 72 = .ok (.iconst (-1), 1) := by decide +kernel
theorem dX6_readAll_73 : decode cX6_readAll 73 = .ok (.goto 7, 3) := by decide +kernel
theorem dX6_readAll_76 : decode cX6_readAll 76 = .ok (.aload_n 0, 1) := by decide +kernel
theorem dX6_readAll_77 : decode cX6_readAll 77 = .ok (.getfield 139, 3) := by decide +kernel
theorem dX6_readAll_80 : decode cX6_readAll 80 = .ok (.ireturn, 1) := by decide +kernel
def PL_M_readAll_40 : Nat → MT → (Int32 → MT → Prop) → Prop
  | 0, _, _ => False
  | n + 1, v0, Q => (((M_good v0) = 0 → (((M_good v0) = 0 → Q (M_at v0) v0) ∧ (¬ (M_good v0) = 0 → Q (-1) v0))) ∧ (¬ (M_good v0) = 0 → (((M_length v0) ≤ (M_at v0) → (((M_good v0) = 0 → Q (M_at v0) v0) ∧ (¬ (M_good v0) = 0 → Q (-1) v0))) ∧ (¬ (M_length v0) ≤ (M_at v0) → P_M_readCommand v0 (fun v58_ => ((fun v0 => PL_M_readAll_40 n  v0  Q) v58_))))))
def P_M_readAll (v0 : MT) (Q : Int32 → MT → Prop) : Prop := ∀ v6_, v6_ = (M_set_at v0 0) → (∀ v14_, v14_ = (M_set_good v6_ 1) → (∀ v22_, v22_ = (M_set_leftOut v14_ 0) → (P_M_fresh (M_read v22_) (fun v29_ => (∀ v34_, v34_ = (M_set_read v22_ v29_) → (P_M_here v34_ (fun r37_ => (((¬ r37_ = 71 → P_M_take 0 v34_ (fun v46_ => ((∃ n62_, PL_M_readAll_40 n62_ v46_ Q)))) ∧ (r37_ = 71 → P_M_take 1 v34_ (fun v67_ => ((∃ n71_, PL_M_readAll_40 n71_ v67_ Q)))))))))))))
set_option maxRecDepth 100000 in
theorem s_M_readAll {l : Launch} {D : zD} {B : Nat} {sa : Nat → Nat} (hfl : l.stackTraces = false) {z : Nat} {G : zG} {b0 : Nat} {v0 : MT} {Q : Int32 → MT → Prop} (h0 : MA b0 v0 G) (h : P_M_readAll v0 Q) : zSp l D B sa yX6_readAll cX6_readAll 1 (some .int) 8 176 0 0 [.ref b0] z G (zRi fun r z' G' => z = z' ∧ ∃ w, MA b0 w G' ∧ Fr b0 8 G G' ∧ Q r w) := by
  unfold P_M_readAll at h
  refine z_ofW (by decide +kernel) hfl [some (.ref b0)] rfl (Nat.le_of_ble_eq_true rfl) (fun p e s m args below meth c O hret hlk hnm => ?_)
  have O : zO p l s m args c D B sa 1 cX6_readAll RX6 := O
  have HL40 : ∀ (n9 : Nat)    (v0 : MT) (G9 : zG) (g0 : MA b0 v0 G9) (gF : Fr b0 8 G G9) (h : PL_M_readAll_40 n9 v0 Q), zT p l e (zrm 8 176 0 0) s m args below meth c (zEnd below D B (zRi fun r z' G' => z = z' ∧ ∃ w, MA b0 w G' ∧ Fr b0 8 G G' ∧ Q r w) args s 0 0) D B 1 0 0 40 [] [some (.ref b0)] z G9 := by
    intro n9   
    induction n9 with
    | zero =>
      intro _ _ _ _ h
      exact (h : False).elim
    | succ n ih =>
      intro v0 G9 g0 gF h
      rw [PL_M_readAll_40] at h
      refine z_aload_n O dX6_readAll_40 rfl rfl ?_
      refine z_get (v := .int (M_good v0)) O wf_RX6_142 dX6_readAll_41 (M_obj g0) rfl ?_
      refine z_if_eq (tgt := 65) O dX6_readAll_44 (by decide) (fun c50_ => ?_) (fun c50_ => ?_)
      · have h := h.1 c50_
        refine z_aload_n O dX6_readAll_65 rfl rfl ?_
        refine z_get (v := .int (M_good v0)) O wf_RX6_142 dX6_readAll_66 (M_obj g0) rfl ?_
        refine z_if_eq (tgt := 76) O dX6_readAll_69 (by decide) (fun c51_ => ?_) (fun c51_ => ?_)
        · have h := h.1 c51_
          refine z_aload_n O dX6_readAll_76 rfl rfl ?_
          refine z_get (v := .int (M_at v0)) O wf_RX6_139 dX6_readAll_77 (M_obj g0) rfl ?_
          exact z_iret O hret hlk dX6_readAll_80 (Nat.le_of_ble_eq_true rfl) (Nat.le_of_ble_eq_true rfl) ⟨_, rfl, rfl, _, g0, gF, h⟩
        · have h := h.2 c51_
          refine z_iconst (v := (-1)) O dX6_readAll_72 (by decide) ?_
          refine z_goto (tgt := 80) O dX6_readAll_73 (by decide) ?_
          exact z_iret O hret hlk dX6_readAll_80 (Nat.le_of_ble_eq_true rfl) (Nat.le_of_ble_eq_true rfl) ⟨_, rfl, rfl, _, g0, gF, h⟩
      · have h := h.2 c50_
        refine z_aload_n O dX6_readAll_47 rfl rfl ?_
        refine z_get (v := .int (M_at v0)) O wf_RX6_139 dX6_readAll_48 (M_obj g0) rfl ?_
        refine z_aload_n O dX6_readAll_51 rfl rfl ?_
        refine z_get (v := .int (M_length v0)) O wf_RX6_133 dX6_readAll_52 (M_obj g0) rfl ?_
        refine z_icmp_ge (tgt := 65) O dX6_readAll_55 (by decide) (fun c52_ => ?_) (fun c52_ => ?_)
        · have h := h.1 c52_
          refine z_aload_n O dX6_readAll_65 rfl rfl ?_
          refine z_get (v := .int (M_good v0)) O wf_RX6_142 dX6_readAll_66 (M_obj g0) rfl ?_
          refine z_if_eq (tgt := 76) O dX6_readAll_69 (by decide) (fun c53_ => ?_) (fun c53_ => ?_)
          · have h := h.1 c53_
            refine z_aload_n O dX6_readAll_76 rfl rfl ?_
            refine z_get (v := .int (M_at v0)) O wf_RX6_139 dX6_readAll_77 (M_obj g0) rfl ?_
            exact z_iret O hret hlk dX6_readAll_80 (Nat.le_of_ble_eq_true rfl) (Nat.le_of_ble_eq_true rfl) ⟨_, rfl, rfl, _, g0, gF, h⟩
          · have h := h.2 c53_
            refine z_iconst (v := (-1)) O dX6_readAll_72 (by decide) ?_
            refine z_goto (tgt := 80) O dX6_readAll_73 (by decide) ?_
            exact z_iret O hret hlk dX6_readAll_80 (Nat.le_of_ble_eq_true rfl) (Nat.le_of_ble_eq_true rfl) ⟨_, rfl, rfl, _, g0, gF, h⟩
        · have h := h.2 c52_
          refine z_aload_n O dX6_readAll_58 rfl rfl ?_
          refine z_callVv (As := []) (st := []) O (s_M_readCommand hfl g0 h) wy_X6_readCommand wl_RX6_227 dX6_readAll_59 rfl rfl (M_obj g0) ⟨by decide, rfl⟩ ⟨Nat.le_of_ble_eq_true rfl, Nat.le_of_ble_eq_true rfl⟩ (Nat.le_of_ble_eq_true rfl) ⟨Nat.le_of_ble_eq_true rfl, Nat.le_of_ble_eq_true rfl⟩ (fun z55_ G56_ hq57_ => ?_)
          obtain ⟨rfl, v58_, k59_, f60_, h⟩ := hq57_
          have F61_ : Fr b0 8 G G56_ := Fr.trans gF f60_
          refine z_goto (tgt := 40) O dX6_readAll_62 (by decide) ?_
          exact z_subL (L' := [some (.ref b0)]) (zLe.sub (And.intro rfl True.intro)) (ih v58_ G56_ k59_ F61_ h)
  refine z_aload_n O dX6_readAll_0 rfl rfl ?_
  refine z_iconst (v := 0) O dX6_readAll_1 (by decide) ?_
  refine y_put O wp_RX6_139 dX6_readAll_2 (M_obj h0) rfl rfl (fun G1_ hw2_ => ?_)
  have k3_ := M_w_at h0 hw2_
  have f4_ := hw2_.fr
  have f5_ : Fr b0 8 G G1_ := Fr.mono f4_ (by omega) (by omega)
  obtain ⟨v6_, ev6_⟩ : ∃ w, w = (M_set_at v0 0) := ⟨_, rfl⟩
  have h := h v6_ ev6_
  have k7_ : MA b0 v6_ G1_ := by rw [ev6_]; exact k3_
  have F8_ : Fr b0 8 G G1_ := Fr.trans Fr.rf f5_
  refine z_aload_n O dX6_readAll_5 rfl rfl ?_
  refine z_iconst (v := 1) O dX6_readAll_6 (by decide) ?_
  refine y_put O wp_RX6_142 dX6_readAll_7 (M_obj k7_) rfl rfl (fun G9_ hw10_ => ?_)
  have k11_ := M_w_good k7_ hw10_
  have f12_ := hw10_.fr
  have f13_ : Fr b0 8 G1_ G9_ := Fr.mono f12_ (by omega) (by omega)
  obtain ⟨v14_, ev14_⟩ : ∃ w, w = (M_set_good v6_ 1) := ⟨_, rfl⟩
  have h := h v14_ ev14_
  have k15_ : MA b0 v14_ G9_ := by rw [ev14_]; exact k11_
  have F16_ : Fr b0 8 G G9_ := Fr.trans F8_ f13_
  refine z_aload_n O dX6_readAll_10 rfl rfl ?_
  refine z_iconst (v := 0) O dX6_readAll_11 (by decide) ?_
  refine y_put O wp_RX6_158 dX6_readAll_12 (M_obj k15_) rfl rfl (fun G17_ hw18_ => ?_)
  have k19_ := M_w_leftOut k15_ hw18_
  have f20_ := hw18_.fr
  have f21_ : Fr b0 8 G9_ G17_ := Fr.mono f20_ (by omega) (by omega)
  obtain ⟨v22_, ev22_⟩ : ∃ w, w = (M_set_leftOut v14_ 0) := ⟨_, rfl⟩
  have h := h v22_ ev22_
  have k23_ : MA b0 v22_ G17_ := by rw [ev22_]; exact k19_
  have F24_ : Fr b0 8 G G17_ := Fr.trans F16_ f21_
  refine z_aload_n O dX6_readAll_15 rfl rfl ?_
  refine z_get (v := .ref (b0 + 3)) O wf_RX6_16 dX6_readAll_16 (M_obj k23_) rfl ?_
  refine z_callSv (As := [.ref (b0 + 3)]) (st := []) O (s_M_fresh hfl (M_read_of k23_) h) wy_X6_fresh wl_RX6_32 dX6_readAll_19 rfl rfl ⟨Nat.le_of_ble_eq_true rfl, Nat.le_of_ble_eq_true rfl⟩ (Nat.le_of_ble_eq_true rfl) ⟨Nat.le_of_ble_eq_true rfl, Nat.le_of_ble_eq_true rfl⟩ (fun z26_ G27_ hq28_ => ?_)
  obtain ⟨rfl, v29_, k30_, f31_, h⟩ := hq28_
  have k32_ := M_put_read k23_ k30_ f31_
  have f33_ : Fr b0 8 G17_ G27_ := Fr.mono f31_ (by omega) (by omega)
  obtain ⟨v34_, ev34_⟩ : ∃ w, w = (M_set_read v22_ v29_) := ⟨_, rfl⟩
  have h := h v34_ ev34_
  have k35_ : MA b0 v34_ G27_ := by rw [ev34_]; exact k32_
  have F36_ : Fr b0 8 G G27_ := Fr.trans F24_ f33_
  refine z_aload_n O dX6_readAll_22 rfl rfl ?_
  refine z_aload_n O dX6_readAll_23 rfl rfl ?_
  refine z_callVi (As := []) (st := [.ref b0]) O (s_M_here hfl k35_ h) wy_X6_here wl_RX6_146 dX6_readAll_24 rfl rfl (M_obj k35_) ⟨by decide, rfl⟩ ⟨Nat.le_of_ble_eq_true rfl, Nat.le_of_ble_eq_true rfl⟩ (Nat.le_of_ble_eq_true rfl) ⟨Nat.le_of_ble_eq_true rfl, Nat.le_of_ble_eq_true rfl⟩ (fun r37_ z38_ G39_ hq40_ => ?_)
  obtain ⟨rfl, rfl, h⟩ := hq40_
  refine z_bipush (v := 71) O dX6_readAll_27 (by decide) ?_
  refine z_icmp_ne (tgt := 36) O dX6_readAll_29 (by decide) (fun c41_ => ?_) (fun c41_ => ?_)
  · have h := h.1 c41_
    refine z_iconst (v := 0) O dX6_readAll_36 (by decide) ?_
    refine z_callVv (As := [.int 0]) (st := []) O (s_M_take hfl k35_ h) wy_X6_take wl_RX6_150 dX6_readAll_37 rfl rfl (M_obj k35_) ⟨by decide, rfl⟩ ⟨Nat.le_of_ble_eq_true rfl, Nat.le_of_ble_eq_true rfl⟩ (Nat.le_of_ble_eq_true rfl) ⟨Nat.le_of_ble_eq_true rfl, Nat.le_of_ble_eq_true rfl⟩ (fun z43_ G44_ hq45_ => ?_)
    obtain ⟨rfl, v46_, k47_, f48_, h⟩ := hq45_
    have F49_ : Fr b0 8 G G44_ := Fr.trans F36_ f48_
    obtain ⟨n62_, h⟩ := h
    exact z_subL (L' := [some (.ref b0)]) (zLe.sub (And.intro rfl True.intro)) (HL40 n62_ v46_ G44_ k47_ F49_ h)
  · have h := h.2 c41_
    refine z_iconst (v := 1) O dX6_readAll_32 (by decide) ?_
    refine z_goto (tgt := 37) O dX6_readAll_33 (by decide) ?_
    refine z_callVv (As := [.int 1]) (st := []) O (s_M_take hfl k35_ h) wy_X6_take wl_RX6_150 dX6_readAll_37 rfl rfl (M_obj k35_) ⟨by decide, rfl⟩ ⟨Nat.le_of_ble_eq_true rfl, Nat.le_of_ble_eq_true rfl⟩ (Nat.le_of_ble_eq_true rfl) ⟨Nat.le_of_ble_eq_true rfl, Nat.le_of_ble_eq_true rfl⟩ (fun z64_ G65_ hq66_ => ?_)
    obtain ⟨rfl, v67_, k68_, f69_, h⟩ := hq66_
    have F70_ : Fr b0 8 G G65_ := Fr.trans F36_ f69_
    obtain ⟨n71_, h⟩ := h
    exact z_subL (L' := [some (.ref b0)]) (zLe.sub (And.intro rfl True.intro)) (HL40 n71_ v67_ G65_ k68_ F70_ h)

theorem dX6_errorPosition_0 : decode cX6_errorPosition 0 = .ok (.aload_n 0, 1) := by decide +kernel
theorem dX6_errorPosition_1 : decode cX6_errorPosition 1 = .ok (.iconst 0, 1) := by decide +kernel
theorem dX6_errorPosition_2 : decode cX6_errorPosition 2 = .ok (.putfield 36, 3) := by decide +kernel
theorem dX6_errorPosition_5 : decode cX6_errorPosition 5 = .ok (.aload_n 0, 1) := by decide +kernel
theorem dX6_errorPosition_6 : decode cX6_errorPosition 6 = .ok (.invokevirtual 230, 3) := by decide +kernel
theorem dX6_errorPosition_9 : decode cX6_errorPosition 9 = .ok (.ireturn, 1) := by decide +kernel
def P_M_errorPosition (v0 : MT) (Q : Int32 → MT → Prop) : Prop := ∀ v6_, v6_ = (M_set_refusal v0 0) → (P_M_readAll v6_ (fun r9_ v13_ => (Q r9_ v13_)))
set_option maxRecDepth 100000 in
theorem s_M_errorPosition {l : Launch} {D : zD} {B : Nat} {sa : Nat → Nat} (hfl : l.stackTraces = false) {z : Nat} {G : zG} {b0 : Nat} {v0 : MT} {Q : Int32 → MT → Prop} (h0 : MA b0 v0 G) (h : P_M_errorPosition v0 Q) : zSp l D B sa yX6_errorPosition cX6_errorPosition 1 (some .int) 9 196 0 0 [.ref b0] z G (zRi fun r z' G' => z = z' ∧ ∃ w, MA b0 w G' ∧ Fr b0 8 G G' ∧ Q r w) := by
  unfold P_M_errorPosition at h
  refine z_ofW (by decide +kernel) hfl [some (.ref b0)] rfl (Nat.le_of_ble_eq_true rfl) (fun p e s m args below meth c O hret hlk hnm => ?_)
  have O : zO p l s m args c D B sa 1 cX6_errorPosition RX6 := O
  refine z_aload_n O dX6_errorPosition_0 rfl rfl ?_
  refine z_iconst (v := 0) O dX6_errorPosition_1 (by decide) ?_
  refine y_put O wp_RX6_36 dX6_errorPosition_2 (M_obj h0) rfl rfl (fun G1_ hw2_ => ?_)
  have k3_ := M_w_refusal h0 hw2_
  have f4_ := hw2_.fr
  have f5_ : Fr b0 8 G G1_ := Fr.mono f4_ (by omega) (by omega)
  obtain ⟨v6_, ev6_⟩ : ∃ w, w = (M_set_refusal v0 0) := ⟨_, rfl⟩
  have h := h v6_ ev6_
  have k7_ : MA b0 v6_ G1_ := by rw [ev6_]; exact k3_
  have F8_ : Fr b0 8 G G1_ := Fr.trans Fr.rf f5_
  refine z_aload_n O dX6_errorPosition_5 rfl rfl ?_
  refine z_callVi (As := []) (st := []) O (s_M_readAll hfl k7_ h) wy_X6_readAll wl_RX6_230 dX6_errorPosition_6 rfl rfl (M_obj k7_) ⟨by decide, rfl⟩ ⟨Nat.le_of_ble_eq_true rfl, Nat.le_of_ble_eq_true rfl⟩ (Nat.le_of_ble_eq_true rfl) ⟨Nat.le_of_ble_eq_true rfl, Nat.le_of_ble_eq_true rfl⟩ (fun r9_ z10_ G11_ hq12_ => ?_)
  obtain ⟨rfl, v13_, k14_, f15_, h⟩ := hq12_
  have F16_ : Fr b0 8 G G11_ := Fr.trans F8_ f15_
  exact z_iret O hret hlk dX6_errorPosition_9 (Nat.le_of_ble_eq_true rfl) (Nat.le_of_ble_eq_true rfl) ⟨_, rfl, rfl, _, k14_, F16_, h⟩

theorem dX6_load_0 : decode cX6_load 0 = .ok (.aload_n 0, 1) := by decide +kernel
theorem dX6_load_1 : decode cX6_load 1 = .ok (.aload_n 0, 1) := by decide +kernel
theorem dX6_load_2 : decode cX6_load 2 = .ok (.invokevirtual 230, 3) := by decide +kernel
theorem dX6_load_5 : decode cX6_load 5 = .ok (.iconst (-1), 1) := by decide +kernel
theorem dX6_load_6 : decode cX6_load 6 = .ok (.if_icmp .ne 7, 3) := by decide +kernel
theorem dX6_load_9 : decode cX6_load 9 = .ok (.iconst 0, 1) := by decide +kernel
theorem dX6_load_10 : decode cX6_load 10 = .ok (.goto 4, 3) := by decide +kernel
theorem dX6_load_13 : decode cX6_load 13 = .ok (.iconst 1, 1) := by decide +kernel
theorem dX6_load_14 : decode cX6_load 14 = .ok (.invokevirtual 136, 3) := by decide +kernel
theorem dX6_load_17 : decode cX6_load 17 = .ok (.ifCond .eq 5, 3) := by decide +kernel
theorem dX6_load_20 : decode cX6_load 20 = .ok (.iconst 0, 1) := by decide +kernel
theorem dX6_load_21 : decode cX6_load 21 = .ok (.ireturn, 1) := by decide +kernel
theorem dX6_load_22 : decode cX6_load 22 = .ok (.aload_n 0, 1) := by decide +kernel
theorem dX6_load_23 : decode cX6_load 23 = .ok (.getfield 16, 3) := by decide +kernel
theorem dX6_load_26 : decode cX6_load 26 = .ok (.aload_n 0, 1) := by decide +kernel
theorem dX6_load_27 : decode cX6_load 27 = .ok (.getfield 7, 3) := by decide +kernel
theorem dX6_load_30 : decode cX6_load 30 = .ok (.invokestatic 233, 3) := by decide +kernel
theorem dX6_load_33 : decode cX6_load 33 = .ok (.aload_n 0, 1) := by decide +kernel
theorem dX6_load_34 : decode cX6_load 34 = .ok (.iconst 0, 1) := by decide +kernel
theorem dX6_load_35 : decode cX6_load 35 = .ok (.putfield 128, 3) := by decide +kernel
theorem dX6_load_38 : decode cX6_load 38 = .ok (.aload_n 0, 1) := by decide +kernel
theorem dX6_load_39 : decode cX6_load 39 = .ok (.getfield 25, 3) := by decide +kernel
theorem dX6_load_42 : decode cX6_load 42 = .ok (.iconst 0, 1) := by decide +kernel
theorem dX6_load_43 : decode cX6_load 43 = .ok (.iconst 0, 1) := by decide +kernel
theorem dX6_load_44 : decode cX6_load 44 = .ok (.bastore, 1) := by decide +kernel
theorem dX6_load_45 : decode cX6_load 45 = .ok (.aload_n 0, 1) := by decide +kernel
theorem dX6_load_46 : decode cX6_load 46 = .ok (.getfield 25, 3) := by decide +kernel
theorem dX6_load_49 : decode cX6_load 49 = .ok (.iconst 1, 1) := by decide +kernel
theorem dX6_load_50 : decode cX6_load 50 = .ok (.iconst 0, 1) := by decide +kernel
theorem dX6_load_51 : decode cX6_load 51 = .ok (.bastore, 1) := by decide +kernel
theorem dX6_load_52 : decode cX6_load 52 = .ok (.aload_n 0, 1) := by decide +kernel
theorem dX6_load_53 : decode cX6_load 53 = .ok (.getfield 158, 3) := by decide +kernel
theorem dX6_load_56 : decode cX6_load 56 = .ok (.ireturn, 1) := by decide +kernel
def PJ_M_load_14 (u0 : Int32) (v0 : MT) (Q : Int32 → MT → Prop) : Prop := P_M_refused u0 v0 (fun r10_ v14_ => (((r10_ = 0 → P_M_copy (M_read v14_) (M_now v14_) (fun v23_ => (∀ v28_, v28_ = (M_set_now v14_ v23_) → (∀ v36_, v36_ = (M_set_states v28_ 0) → (vp_in 0 2 ∧ (∀ v46_, v46_ = (M_set_isKept v36_ (upd (M_isKept v36_) (Int32.toNatClampNeg 0) 0)) → (vp_in 1 2 ∧ (∀ v56_, v56_ = (M_set_isKept v46_ (upd (M_isKept v46_) (Int32.toNatClampNeg 1) 0)) → (Q (M_leftOut v56_) v56_))))))))) ∧ (¬ r10_ = 0 → Q 0 v14_))))
def P_M_load (v0 : MT) (Q : Int32 → MT → Prop) : Prop := P_M_readAll v0 (fun r1_ v5_ => (((¬ r1_ = (-1) → PJ_M_load_14 1 v5_ Q) ∧ (r1_ = (-1) → PJ_M_load_14 0 v5_ Q))))
set_option maxRecDepth 100000 in
theorem s_M_load {l : Launch} {D : zD} {B : Nat} {sa : Nat → Nat} (hfl : l.stackTraces = false) {z : Nat} {G : zG} {b0 : Nat} {v0 : MT} {Q : Int32 → MT → Prop} (h0 : MA b0 v0 G) (h : P_M_load v0 Q) : zSp l D B sa yX6_load cX6_load 1 (some .int) 9 196 0 0 [.ref b0] z G (zRi fun r z' G' => z = z' ∧ ∃ w, MA b0 w G' ∧ Fr b0 8 G G' ∧ Q r w) := by
  unfold P_M_load at h
  refine z_ofW (by decide +kernel) hfl [some (.ref b0)] rfl (Nat.le_of_ble_eq_true rfl) (fun p e s m args below meth c O hret hlk hnm => ?_)
  have O : zO p l s m args c D B sa 1 cX6_load RX6 := O
  have HJ14 : ∀ (u0 : Int32) (v0 : MT) (G9 : zG) (g0 : MA b0 v0 G9) (gF : Fr b0 8 G G9), PJ_M_load_14 u0 v0 Q → zT p l e (zrm 9 196 0 0) s m args below meth c (zEnd below D B (zRi fun r z' G' => z = z' ∧ ∃ w, MA b0 w G' ∧ Fr b0 8 G G' ∧ Q r w) args s 0 0) D B 1 0 0 14 [.int u0, .ref b0] [some (.ref b0)] z G9 := by
    intro u0 v0 G9 g0 gF h
    unfold PJ_M_load_14 at h
    refine z_callVi (As := [.int u0]) (st := []) O (s_M_refused hfl g0 h) wy_X6_refused wl_RX6_136 dX6_load_14 rfl rfl (M_obj g0) ⟨by decide, rfl⟩ ⟨Nat.le_of_ble_eq_true rfl, Nat.le_of_ble_eq_true rfl⟩ (Nat.le_of_ble_eq_true rfl) ⟨Nat.le_of_ble_eq_true rfl, Nat.le_of_ble_eq_true rfl⟩ (fun r10_ z11_ G12_ hq13_ => ?_)
    obtain ⟨rfl, v14_, k15_, f16_, h⟩ := hq13_
    have F17_ : Fr b0 8 G G12_ := Fr.trans gF f16_
    refine z_if_eq (tgt := 22) O dX6_load_17 (by decide) (fun c18_ => ?_) (fun c18_ => ?_)
    · have h := h.1 c18_
      refine z_aload_n O dX6_load_22 rfl rfl ?_
      refine z_get (v := .ref (b0 + 3)) O wf_RX6_16 dX6_load_23 (M_obj k15_) rfl ?_
      refine z_aload_n O dX6_load_26 rfl rfl ?_
      refine z_get (v := .ref (b0 + 1)) O wf_RX6_7 dX6_load_27 (M_obj k15_) rfl ?_
      refine z_callSv (As := [.ref (b0 + 3), .ref (b0 + 1)]) (st := []) O (s_M_copy hfl (M_read_of k15_) (M_now_of k15_) (by omega) h) wy_X6_copy wl_RX6_233 dX6_load_30 rfl rfl ⟨Nat.le_of_ble_eq_true rfl, Nat.le_of_ble_eq_true rfl⟩ (Nat.le_of_ble_eq_true rfl) ⟨Nat.le_of_ble_eq_true rfl, Nat.le_of_ble_eq_true rfl⟩ (fun z20_ G21_ hq22_ => ?_)
      obtain ⟨rfl, v23_, k24_, f25_, h⟩ := hq22_
      have k26_ := M_put_now k15_ k24_ f25_
      have f27_ : Fr b0 8 G12_ G21_ := Fr.mono f25_ (by omega) (by omega)
      obtain ⟨v28_, ev28_⟩ : ∃ w, w = (M_set_now v14_ v23_) := ⟨_, rfl⟩
      have h := h v28_ ev28_
      have k29_ : MA b0 v28_ G21_ := by rw [ev28_]; exact k26_
      have F30_ : Fr b0 8 G G21_ := Fr.trans F17_ f27_
      refine z_aload_n O dX6_load_33 rfl rfl ?_
      refine z_iconst (v := 0) O dX6_load_34 (by decide) ?_
      refine y_put O wp_RX6_128 dX6_load_35 (M_obj k29_) rfl rfl (fun G31_ hw32_ => ?_)
      have k33_ := M_w_states k29_ hw32_
      have f34_ := hw32_.fr
      have f35_ : Fr b0 8 G21_ G31_ := Fr.mono f34_ (by omega) (by omega)
      obtain ⟨v36_, ev36_⟩ : ∃ w, w = (M_set_states v28_ 0) := ⟨_, rfl⟩
      have h := h v36_ ev36_
      have k37_ : MA b0 v36_ G31_ := by rw [ev36_]; exact k33_
      have F38_ : Fr b0 8 G G31_ := Fr.trans F30_ f35_
      refine z_aload_n O dX6_load_38 rfl rfl ?_
      refine z_get (v := .ref (b0 + 6)) O wf_RX6_25 dX6_load_39 (M_obj k37_) rfl ?_
      refine z_iconst (v := 0) O dX6_load_42 (by decide) ?_
      refine z_iconst (v := 0) O dX6_load_43 (by decide) ?_
      obtain ⟨q39_, h⟩ := h
      refine y_zast O dX6_load_44 (M_isKept_of k37_) q39_ rfl (fun G40_ hw41_ => ?_)
      have k42_ := hw41_.1
      have f43_ := hw41_.fr
      have k44_ := M_put_isKept k37_ k42_ f43_
      have f45_ : Fr b0 8 G31_ G40_ := Fr.mono f43_ (by omega) (by omega)
      obtain ⟨v46_, ev46_⟩ : ∃ w, w = (M_set_isKept v36_ (upd (M_isKept v36_) (Int32.toNatClampNeg 0) 0)) := ⟨_, rfl⟩
      have h := h v46_ ev46_
      have k47_ : MA b0 v46_ G40_ := by rw [ev46_]; exact k44_
      have F48_ : Fr b0 8 G G40_ := Fr.trans F38_ f45_
      refine z_aload_n O dX6_load_45 rfl rfl ?_
      refine z_get (v := .ref (b0 + 6)) O wf_RX6_25 dX6_load_46 (M_obj k47_) rfl ?_
      refine z_iconst (v := 1) O dX6_load_49 (by decide) ?_
      refine z_iconst (v := 0) O dX6_load_50 (by decide) ?_
      obtain ⟨q49_, h⟩ := h
      refine y_zast O dX6_load_51 (M_isKept_of k47_) q49_ rfl (fun G50_ hw51_ => ?_)
      have k52_ := hw51_.1
      have f53_ := hw51_.fr
      have k54_ := M_put_isKept k47_ k52_ f53_
      have f55_ : Fr b0 8 G40_ G50_ := Fr.mono f53_ (by omega) (by omega)
      obtain ⟨v56_, ev56_⟩ : ∃ w, w = (M_set_isKept v46_ (upd (M_isKept v46_) (Int32.toNatClampNeg 1) 0)) := ⟨_, rfl⟩
      have h := h v56_ ev56_
      have k57_ : MA b0 v56_ G50_ := by rw [ev56_]; exact k54_
      have F58_ : Fr b0 8 G G50_ := Fr.trans F48_ f55_
      refine z_aload_n O dX6_load_52 rfl rfl ?_
      refine z_get (v := .int (M_leftOut v56_)) O wf_RX6_158 dX6_load_53 (M_obj k57_) rfl ?_
      exact z_iret O hret hlk dX6_load_56 (Nat.le_of_ble_eq_true rfl) (Nat.le_of_ble_eq_true rfl) ⟨_, rfl, rfl, _, k57_, F58_, h⟩
    · have h := h.2 c18_
      refine z_iconst (v := 0) O dX6_load_20 (by decide) ?_
      exact z_iret O hret hlk dX6_load_21 (Nat.le_of_ble_eq_true rfl) (Nat.le_of_ble_eq_true rfl) ⟨_, rfl, rfl, _, k15_, F17_, h⟩
  refine z_aload_n O dX6_load_0 rfl rfl ?_
  refine z_aload_n O dX6_load_1 rfl rfl ?_
  refine z_callVi (As := []) (st := [.ref b0]) O (s_M_readAll hfl h0 h) wy_X6_readAll wl_RX6_230 dX6_load_2 rfl rfl (M_obj h0) ⟨by decide, rfl⟩ ⟨Nat.le_of_ble_eq_true rfl, Nat.le_of_ble_eq_true rfl⟩ (Nat.le_of_ble_eq_true rfl) ⟨Nat.le_of_ble_eq_true rfl, Nat.le_of_ble_eq_true rfl⟩ (fun r1_ z2_ G3_ hq4_ => ?_)
  obtain ⟨rfl, v5_, k6_, f7_, h⟩ := hq4_
  have F8_ : Fr b0 8 G G3_ := Fr.trans Fr.rf f7_
  refine z_iconst (v := (-1)) O dX6_load_5 (by decide) ?_
  refine z_icmp_ne (tgt := 13) O dX6_load_6 (by decide) (fun c9_ => ?_) (fun c9_ => ?_)
  · have h := h.1 c9_
    refine z_iconst (v := 1) O dX6_load_13 (by decide) ?_
    exact z_subL (L' := [some (.ref b0)]) (zLe.sub (And.intro rfl True.intro)) (HJ14 1 v5_ G3_ k6_ F8_ h)
  · have h := h.2 c9_
    refine z_iconst (v := 0) O dX6_load_9 (by decide) ?_
    refine z_goto (tgt := 14) O dX6_load_10 (by decide) ?_
    exact z_subL (L' := [some (.ref b0)]) (zLe.sub (And.intro rfl True.intro)) (HJ14 0 v5_ G3_ k6_ F8_ h)

theorem dX6_holds_0 : decode cX6_holds 0 = .ok (.iconst 0, 1) := by decide +kernel
theorem dX6_holds_1 : decode cX6_holds 1 = .ok (.istore_n 1, 1) := by decide +kernel
theorem dX6_holds_2 : decode cX6_holds 2 = .ok (.iconst 0, 1) := by decide +kernel
theorem dX6_holds_3 : decode cX6_holds 3 = .ok (.istore_n 2, 1) := by decide +kernel
theorem dX6_holds_4 : decode cX6_holds 4 = .ok (.iload_n 2, 1) := by decide +kernel
theorem dX6_holds_5 : decode cX6_holds 5 = .ok (.bipush 8, 2) := by decide +kernel
theorem dX6_holds_7 : decode cX6_holds 7 = .ok (.if_icmp .ge 32, 3) := by decide +kernel
theorem dX6_holds_10 : decode cX6_holds 10 = .ok (.iload_n 1, 1) := by decide +kernel
theorem dX6_holds_11 : decode cX6_holds 11 = .ok (.aload_n 0, 1) := by decide +kernel
theorem dX6_holds_12 : decode cX6_holds 12 = .ok (.iload_n 2, 1) := by decide +kernel
theorem dX6_holds_13 : decode cX6_holds 13 = .ok (.invokestatic 184, 3) := by decide +kernel
theorem dX6_holds_16 : decode cX6_holds 16 = .ok (.ifCond .eq 14, 3) := by decide +kernel
theorem dX6_holds_19 : decode cX6_holds 19 = .ok (.aload_n 0, 1) := by decide +kernel
theorem dX6_holds_20 : decode cX6_holds 20 = .ok (.iload_n 2, 1) := by decide +kernel
theorem dX6_holds_21 : decode cX6_holds 21 = .ok (.invokestatic 65, 3) := by decide +kernel
theorem dX6_holds_24 : decode cX6_holds 24 = .ok (.iconst 2, 1) := by decide +kernel
theorem dX6_holds_25 : decode cX6_holds 25 = .ok (.iadd, 1) := by decide +kernel
theorem dX6_holds_26 : decode cX6_holds 26 = .ok (.iaload, 1) := by decide +kernel
theorem dX6_holds_27 : decode cX6_holds 27 = .ok (.goto 4, 3) := by decide +kernel
theorem dX6_holds_30 : decode cX6_holds 30 = .ok (.iconst 0, 1) := by decide +kernel
theorem dX6_holds_31 : decode cX6_holds 31 = .ok (.iadd, 1) := by decide +kernel
theorem dX6_holds_32 : decode cX6_holds 32 = .ok (.istore_n 1, 1) := by decide +kernel
theorem dX6_holds_33 : decode cX6_holds 33 = .ok (.iinc 2 1, 3) := by decide +kernel
theorem dX6_holds_36 : decode cX6_holds 36 = .ok (.goto (-32), 3) := by decide +kernel
theorem dX6_holds_39 : decode cX6_holds 39 = .ok (.iload_n 1, 1) := by decide +kernel
theorem dX6_holds_40 : decode cX6_holds 40 = .ok (.ireturn, 1) := by decide +kernel
def PL_M_holds_4 : Nat → (Nat → Int32) → Int32 → Int32 → (Int32 → Prop) → Prop
  | 0, _, _, _, _ => False
  | n + 1, v0, y1, y2, Q => ((8 ≤ y2 → Q y1) ∧ (¬ 8 ≤ y2 → P_M_isReader y2 v0 (fun r2_ => (((r2_ = 0 → (fun y1 y2 => PL_M_holds_4 n v0 y1 y2  Q) (y1 + 0) (y2 + 1)) ∧ (¬ r2_ = 0 → P_M_reader y2 (fun r7_ => (vp_in (r7_ + 2) 621 ∧ ((fun y1 y2 => PL_M_holds_4 n v0 y1 y2  Q) (y1 + (v0 (Int32.toNatClampNeg (r7_ + 2)))) (y2 + 1))))))))))
def P_M_holds (v0 : (Nat → Int32)) (Q : Int32 → Prop) : Prop := (∃ n12_, PL_M_holds_4 n12_ v0 0 0 Q)
set_option maxRecDepth 100000 in
theorem s_M_holds {l : Launch} {D : zD} {B : Nat} {sa : Nat → Nat} (hfl : l.stackTraces = false) {z : Nat} {G : zG} {b0 : Nat} {v0 : (Nat → Int32)} {Q : Int32 → Prop} (h0 : G b0 = some (zia 621 v0)) (h : P_M_holds v0 Q) : zSp l D B sa yX6_holds cX6_holds 3 (some .int) 3 66 0 0 [.ref b0] z G (zRi fun r z' G' => z = z' ∧ G = G' ∧ Q r) := by
  unfold P_M_holds at h
  refine z_ofW (by decide +kernel) hfl [some (.ref b0), none, none] rfl (Nat.le_of_ble_eq_true rfl) (fun p e s m args below meth c O hret hlk hnm => ?_)
  have O : zO p l s m args c D B sa 3 cX6_holds RX6 := O
  have HL4 : ∀ (n9 : Nat)    (y1 : Int32) (y2 : Int32) (h : PL_M_holds_4 n9 v0 y1 y2 Q), zT p l e (zrm 3 66 0 0) s m args below meth c (zEnd below D B (zRi fun r z' G' => z = z' ∧ G = G' ∧ Q r) args s 0 0) D B 3 0 0 4 [] [some (.ref b0), some (.int y1), some (.int y2)] z G := by
    intro n9   
    induction n9 with
    | zero =>
      intro _ _ h
      exact (h : False).elim
    | succ n ih =>
      intro y1 y2 h
      rw [PL_M_holds_4] at h
      refine z_iload_n O dX6_holds_4 rfl rfl ?_
      refine z_bipush (v := 8) O dX6_holds_5 (by decide) ?_
      refine z_icmp_ge (tgt := 39) O dX6_holds_7 (by decide) (fun c1_ => ?_) (fun c1_ => ?_)
      · have h := h.1 c1_
        refine z_iload_n O dX6_holds_39 rfl rfl ?_
        exact z_iret O hret hlk dX6_holds_40 (Nat.le_of_ble_eq_true rfl) (Nat.le_of_ble_eq_true rfl) ⟨_, rfl, rfl, rfl, h⟩
      · have h := h.2 c1_
        refine z_iload_n O dX6_holds_10 rfl rfl ?_
        refine z_aload_n O dX6_holds_11 rfl rfl ?_
        refine z_iload_n O dX6_holds_12 rfl rfl ?_
        refine z_callSi (As := [.ref b0, .int y2]) (st := [.int y1]) O (s_M_isReader hfl h0 h) wy_X6_isReader wl_RX6_184 dX6_holds_13 rfl rfl ⟨Nat.le_of_ble_eq_true rfl, Nat.le_of_ble_eq_true rfl⟩ (Nat.le_of_ble_eq_true rfl) ⟨Nat.le_of_ble_eq_true rfl, Nat.le_of_ble_eq_true rfl⟩ (fun r2_ z3_ G4_ hq5_ => ?_)
        obtain ⟨rfl, rfl, h⟩ := hq5_
        refine z_if_eq (tgt := 30) O dX6_holds_16 (by decide) (fun c6_ => ?_) (fun c6_ => ?_)
        · have h := h.1 c6_
          refine z_iconst (v := 0) O dX6_holds_30 (by decide) ?_
          refine z_iadd O dX6_holds_31 ?_
          refine z_istore_n (L' := [some (.ref b0), some (.int (y1 + 0)), some (.int y2)]) O dX6_holds_32 rfl (by decide) rfl ?_
          refine z_iinc (v := (y2 + 1)) (L' := [some (.ref b0), some (.int (y1 + 0)), some (.int (y2 + 1))]) O dX6_holds_33 rfl (by first | rfl | decide) (by decide) rfl ?_
          refine z_goto (tgt := 4) O dX6_holds_36 (by decide) ?_
          exact z_subL (L' := [some (.ref b0), some (.int (y1 + 0)), some (.int (y2 + 1))]) (zLe.sub (And.intro rfl (And.intro rfl (And.intro rfl True.intro)))) (ih (y1 + 0) (y2 + 1) h)
        · have h := h.2 c6_
          refine z_aload_n O dX6_holds_19 rfl rfl ?_
          refine z_iload_n O dX6_holds_20 rfl rfl ?_
          refine z_callSi (As := [.int y2]) (st := [.ref b0, .int y1]) O (s_M_reader hfl h) wy_X6_reader wl_RX6_65 dX6_holds_21 rfl rfl ⟨Nat.le_of_ble_eq_true rfl, Nat.le_of_ble_eq_true rfl⟩ (Nat.le_of_ble_eq_true rfl) ⟨Nat.le_of_ble_eq_true rfl, Nat.le_of_ble_eq_true rfl⟩ (fun r7_ z8_ G9_ hq10_ => ?_)
          obtain ⟨rfl, rfl, h⟩ := hq10_
          refine z_iconst (v := 2) O dX6_holds_24 (by decide) ?_
          refine z_iadd O dX6_holds_25 ?_
          obtain ⟨q11_, h⟩ := h
          refine z_iald O dX6_holds_26 h0 q11_ ?_
          refine z_goto (tgt := 31) O dX6_holds_27 (by decide) ?_
          refine z_iadd O dX6_holds_31 ?_
          refine z_istore_n (L' := [some (.ref b0), some (.int (y1 + (v0 (Int32.toNatClampNeg (r7_ + 2))))), some (.int y2)]) O dX6_holds_32 rfl (by decide) rfl ?_
          refine z_iinc (v := (y2 + 1)) (L' := [some (.ref b0), some (.int (y1 + (v0 (Int32.toNatClampNeg (r7_ + 2))))), some (.int (y2 + 1))]) O dX6_holds_33 rfl (by first | rfl | decide) (by decide) rfl ?_
          refine z_goto (tgt := 4) O dX6_holds_36 (by decide) ?_
          exact z_subL (L' := [some (.ref b0), some (.int (y1 + (v0 (Int32.toNatClampNeg (r7_ + 2))))), some (.int (y2 + 1))]) (zLe.sub (And.intro rfl (And.intro rfl (And.intro rfl True.intro)))) (ih (y1 + (v0 (Int32.toNatClampNeg (r7_ + 2)))) (y2 + 1) h)
  refine z_iconst (v := 0) O dX6_holds_0 (by decide) ?_
  refine z_istore_n (L' := [some (.ref b0), some (.int 0), none]) O dX6_holds_1 rfl (by decide) rfl ?_
  refine z_iconst (v := 0) O dX6_holds_2 (by decide) ?_
  refine z_istore_n (L' := [some (.ref b0), some (.int 0), some (.int 0)]) O dX6_holds_3 rfl (by decide) rfl ?_
  obtain ⟨n12_, h⟩ := h
  exact z_subL (L' := [some (.ref b0), some (.int 0), some (.int 0)]) (zLe.sub (And.intro rfl (And.intro rfl (And.intro rfl True.intro)))) (HL4 n12_ 0 0 h)

theorem dX6_gaps_0 : decode cX6_gaps 0 = .ok (.iconst 0, 1) := by decide +kernel
theorem dX6_gaps_1 : decode cX6_gaps 1 = .ok (.istore_n 1, 1) := by decide +kernel
theorem dX6_gaps_2 : decode cX6_gaps 2 = .ok (.iconst 0, 1) := by decide +kernel
theorem dX6_gaps_3 : decode cX6_gaps 3 = .ok (.istore_n 2, 1) := by decide +kernel
theorem dX6_gaps_4 : decode cX6_gaps 4 = .ok (.iload_n 2, 1) := by decide +kernel
theorem dX6_gaps_5 : decode cX6_gaps 5 = .ok (.bipush 8, 2) := by decide +kernel
theorem dX6_gaps_7 : decode cX6_gaps 7 = .ok (.if_icmp .ge 33, 3) := by decide +kernel
theorem dX6_gaps_10 : decode cX6_gaps 10 = .ok (.iload_n 1, 1) := by decide +kernel
theorem dX6_gaps_11 : decode cX6_gaps 11 = .ok (.aload_n 0, 1) := by decide +kernel
theorem dX6_gaps_12 : decode cX6_gaps 12 = .ok (.iload_n 2, 1) := by decide +kernel
theorem dX6_gaps_13 : decode cX6_gaps 13 = .ok (.invokestatic 184, 3) := by decide +kernel
theorem dX6_gaps_16 : decode cX6_gaps 16 = .ok (.ifCond .eq 15, 3) := by decide +kernel
theorem dX6_gaps_19 : decode cX6_gaps 19 = .ok (.aload_n 0, 1) := by decide +kernel
theorem dX6_gaps_20 : decode cX6_gaps 20 = .ok (.iload_n 2, 1) := by decide +kernel
theorem dX6_gaps_21 : decode cX6_gaps 21 = .ok (.invokestatic 125, 3) := by decide +kernel
theorem dX6_gaps_24 : decode cX6_gaps 24 = .ok (.ifCond .eq 7, 3) := by decide +kernel
theorem dX6_gaps_27 : decode cX6_gaps 27 = .ok (.iconst 1, 1) := by decide +kernel
theorem dX6_gaps_28 : decode cX6_gaps 28 = .ok (.goto 4, 3) := by decide +kernel
theorem dX6_gaps_31 : decode cX6_gaps 31 = .ok (.iconst 0, 1) := by decide +kernel
theorem dX6_gaps_32 : decode cX6_gaps 32 = .ok (.iadd, 1) := by decide +kernel
theorem dX6_gaps_33 : decode cX6_gaps 33 = .ok (.istore_n 1, 1) := by decide +kernel
theorem dX6_gaps_34 : decode cX6_gaps 34 = .ok (.iinc 2 1, 3) := by decide +kernel
theorem dX6_gaps_37 : decode cX6_gaps 37 = .ok (.goto (-33), 3) := by decide +kernel
theorem dX6_gaps_40 : decode cX6_gaps 40 = .ok (.iload_n 1, 1) := by decide +kernel
theorem dX6_gaps_41 : decode cX6_gaps 41 = .ok (.ireturn, 1) := by decide +kernel
def PL_M_gaps_4 : Nat → (Nat → Int32) → Int32 → Int32 → (Int32 → Prop) → Prop
  | 0, _, _, _, _ => False
  | n + 1, v0, y1, y2, Q => ((8 ≤ y2 → Q y1) ∧ (¬ 8 ≤ y2 → P_M_isReader y2 v0 (fun r2_ => (((r2_ = 0 → (fun y1 y2 => PL_M_gaps_4 n v0 y1 y2  Q) (y1 + 0) (y2 + 1)) ∧ (¬ r2_ = 0 → P_M_hasGap y2 v0 (fun r7_ => (((r7_ = 0 → (fun y1 y2 => PL_M_gaps_4 n v0 y1 y2  Q) (y1 + 0) (y2 + 1)) ∧ (¬ r7_ = 0 → (fun y1 y2 => PL_M_gaps_4 n v0 y1 y2  Q) (y1 + 1) (y2 + 1)))))))))))
def P_M_gaps (v0 : (Nat → Int32)) (Q : Int32 → Prop) : Prop := (∃ n12_, PL_M_gaps_4 n12_ v0 0 0 Q)
set_option maxRecDepth 100000 in
theorem s_M_gaps {l : Launch} {D : zD} {B : Nat} {sa : Nat → Nat} (hfl : l.stackTraces = false) {z : Nat} {G : zG} {b0 : Nat} {v0 : (Nat → Int32)} {Q : Int32 → Prop} (h0 : G b0 = some (zia 621 v0)) (h : P_M_gaps v0 Q) : zSp l D B sa yX6_gaps cX6_gaps 3 (some .int) 3 66 0 0 [.ref b0] z G (zRi fun r z' G' => z = z' ∧ G = G' ∧ Q r) := by
  unfold P_M_gaps at h
  refine z_ofW (by decide +kernel) hfl [some (.ref b0), none, none] rfl (Nat.le_of_ble_eq_true rfl) (fun p e s m args below meth c O hret hlk hnm => ?_)
  have O : zO p l s m args c D B sa 3 cX6_gaps RX6 := O
  have HL4 : ∀ (n9 : Nat)    (y1 : Int32) (y2 : Int32) (h : PL_M_gaps_4 n9 v0 y1 y2 Q), zT p l e (zrm 3 66 0 0) s m args below meth c (zEnd below D B (zRi fun r z' G' => z = z' ∧ G = G' ∧ Q r) args s 0 0) D B 3 0 0 4 [] [some (.ref b0), some (.int y1), some (.int y2)] z G := by
    intro n9   
    induction n9 with
    | zero =>
      intro _ _ h
      exact (h : False).elim
    | succ n ih =>
      intro y1 y2 h
      rw [PL_M_gaps_4] at h
      refine z_iload_n O dX6_gaps_4 rfl rfl ?_
      refine z_bipush (v := 8) O dX6_gaps_5 (by decide) ?_
      refine z_icmp_ge (tgt := 40) O dX6_gaps_7 (by decide) (fun c1_ => ?_) (fun c1_ => ?_)
      · have h := h.1 c1_
        refine z_iload_n O dX6_gaps_40 rfl rfl ?_
        exact z_iret O hret hlk dX6_gaps_41 (Nat.le_of_ble_eq_true rfl) (Nat.le_of_ble_eq_true rfl) ⟨_, rfl, rfl, rfl, h⟩
      · have h := h.2 c1_
        refine z_iload_n O dX6_gaps_10 rfl rfl ?_
        refine z_aload_n O dX6_gaps_11 rfl rfl ?_
        refine z_iload_n O dX6_gaps_12 rfl rfl ?_
        refine z_callSi (As := [.ref b0, .int y2]) (st := [.int y1]) O (s_M_isReader hfl h0 h) wy_X6_isReader wl_RX6_184 dX6_gaps_13 rfl rfl ⟨Nat.le_of_ble_eq_true rfl, Nat.le_of_ble_eq_true rfl⟩ (Nat.le_of_ble_eq_true rfl) ⟨Nat.le_of_ble_eq_true rfl, Nat.le_of_ble_eq_true rfl⟩ (fun r2_ z3_ G4_ hq5_ => ?_)
        obtain ⟨rfl, rfl, h⟩ := hq5_
        refine z_if_eq (tgt := 31) O dX6_gaps_16 (by decide) (fun c6_ => ?_) (fun c6_ => ?_)
        · have h := h.1 c6_
          refine z_iconst (v := 0) O dX6_gaps_31 (by decide) ?_
          refine z_iadd O dX6_gaps_32 ?_
          refine z_istore_n (L' := [some (.ref b0), some (.int (y1 + 0)), some (.int y2)]) O dX6_gaps_33 rfl (by decide) rfl ?_
          refine z_iinc (v := (y2 + 1)) (L' := [some (.ref b0), some (.int (y1 + 0)), some (.int (y2 + 1))]) O dX6_gaps_34 rfl (by first | rfl | decide) (by decide) rfl ?_
          refine z_goto (tgt := 4) O dX6_gaps_37 (by decide) ?_
          exact z_subL (L' := [some (.ref b0), some (.int (y1 + 0)), some (.int (y2 + 1))]) (zLe.sub (And.intro rfl (And.intro rfl (And.intro rfl True.intro)))) (ih (y1 + 0) (y2 + 1) h)
        · have h := h.2 c6_
          refine z_aload_n O dX6_gaps_19 rfl rfl ?_
          refine z_iload_n O dX6_gaps_20 rfl rfl ?_
          refine z_callSi (As := [.ref b0, .int y2]) (st := [.int y1]) O (s_M_hasGap hfl h0 h) wy_X6_hasGap wl_RX6_125 dX6_gaps_21 rfl rfl ⟨Nat.le_of_ble_eq_true rfl, Nat.le_of_ble_eq_true rfl⟩ (Nat.le_of_ble_eq_true rfl) ⟨Nat.le_of_ble_eq_true rfl, Nat.le_of_ble_eq_true rfl⟩ (fun r7_ z8_ G9_ hq10_ => ?_)
          obtain ⟨rfl, rfl, h⟩ := hq10_
          refine z_if_eq (tgt := 31) O dX6_gaps_24 (by decide) (fun c11_ => ?_) (fun c11_ => ?_)
          · have h := h.1 c11_
            refine z_iconst (v := 0) O dX6_gaps_31 (by decide) ?_
            refine z_iadd O dX6_gaps_32 ?_
            refine z_istore_n (L' := [some (.ref b0), some (.int (y1 + 0)), some (.int y2)]) O dX6_gaps_33 rfl (by decide) rfl ?_
            refine z_iinc (v := (y2 + 1)) (L' := [some (.ref b0), some (.int (y1 + 0)), some (.int (y2 + 1))]) O dX6_gaps_34 rfl (by first | rfl | decide) (by decide) rfl ?_
            refine z_goto (tgt := 4) O dX6_gaps_37 (by decide) ?_
            exact z_subL (L' := [some (.ref b0), some (.int (y1 + 0)), some (.int (y2 + 1))]) (zLe.sub (And.intro rfl (And.intro rfl (And.intro rfl True.intro)))) (ih (y1 + 0) (y2 + 1) h)
          · have h := h.2 c11_
            refine z_iconst (v := 1) O dX6_gaps_27 (by decide) ?_
            refine z_goto (tgt := 32) O dX6_gaps_28 (by decide) ?_
            refine z_iadd O dX6_gaps_32 ?_
            refine z_istore_n (L' := [some (.ref b0), some (.int (y1 + 1)), some (.int y2)]) O dX6_gaps_33 rfl (by decide) rfl ?_
            refine z_iinc (v := (y2 + 1)) (L' := [some (.ref b0), some (.int (y1 + 1)), some (.int (y2 + 1))]) O dX6_gaps_34 rfl (by first | rfl | decide) (by decide) rfl ?_
            refine z_goto (tgt := 4) O dX6_gaps_37 (by decide) ?_
            exact z_subL (L' := [some (.ref b0), some (.int (y1 + 1)), some (.int (y2 + 1))]) (zLe.sub (And.intro rfl (And.intro rfl (And.intro rfl True.intro)))) (ih (y1 + 1) (y2 + 1) h)
  refine z_iconst (v := 0) O dX6_gaps_0 (by decide) ?_
  refine z_istore_n (L' := [some (.ref b0), some (.int 0), none]) O dX6_gaps_1 rfl (by decide) rfl ?_
  refine z_iconst (v := 0) O dX6_gaps_2 (by decide) ?_
  refine z_istore_n (L' := [some (.ref b0), some (.int 0), some (.int 0)]) O dX6_gaps_3 rfl (by decide) rfl ?_
  obtain ⟨n12_, h⟩ := h
  exact z_subL (L' := [some (.ref b0), some (.int 0), some (.int 0)]) (zLe.sub (And.intro rfl (And.intro rfl (And.intro rfl True.intro)))) (HL4 n12_ 0 0 h)
