theorem dX3_letIn_0 : decode cX3_letIn 0 = .ok (.aload_n 1, 1) := by decide +kernel
theorem dX3_letIn_1 : decode cX3_letIn 1 = .ok (.ifnonnull 5, 3) := by decide +kernel
theorem dX3_letIn_4 : decode cX3_letIn 4 = .ok (.iconst (-1), 1) := by decide +kernel
theorem dX3_letIn_5 : decode cX3_letIn 5 = .ok (.ireturn, 1) := by decide +kernel
theorem dX3_letIn_6 : decode cX3_letIn 6 = .ok (.iload_n 2, 1) := by decide +kernel
theorem dX3_letIn_7 : decode cX3_letIn 7 = .ok (.ifCond .ne 31, 3) := by decide +kernel
theorem dX3_letIn_10 : decode cX3_letIn 10 = .ok (.aload_n 1, 1) := by decide +kernel
theorem dX3_letIn_11 : decode cX3_letIn 11 = .ok (.aload_n 0, 1) := by decide +kernel
theorem dX3_letIn_12 : decode cX3_letIn 12 = .ok (.getfield 12, 3) := by decide +kernel
theorem dX3_letIn_15 : decode cX3_letIn 15 = .ok (.getfield 78, 3) := by decide +kernel
theorem dX3_letIn_18 : decode cX3_letIn 18 = .ok (.putfield 75, 3) := by decide +kernel
theorem dX3_letIn_21 : decode cX3_letIn 21 = .ok (.aload_n 0, 1) := by decide +kernel
theorem dX3_letIn_22 : decode cX3_letIn 22 = .ok (.getfield 12, 3) := by decide +kernel
theorem dX3_letIn_25 : decode cX3_letIn 25 = .ok (.getfield 209, 3) := by decide +kernel
theorem dX3_letIn_28 : decode cX3_letIn 28 = .ok (.aload_n 1, 1) := by decide +kernel
theorem dX3_letIn_29 : decode cX3_letIn 29 = .ok (.getfield 212, 3) := by decide +kernel
theorem dX3_letIn_32 : decode cX3_letIn 32 = .ok (.invokestatic 37, 3) := by decide +kernel
theorem dX3_letIn_35 : decode cX3_letIn 35 = .ok (.goto 60, 3) := by decide +kernel
theorem dX3_letIn_38 : decode cX3_letIn 38 = .ok (.iload_n 2, 1) := by decide +kernel
theorem dX3_letIn_39 : decode cX3_letIn 39 = .ok (.iconst 1, 1) := by decide +kernel
theorem dX3_letIn_40 : decode cX3_letIn 40 = .ok (.if_icmp .ne 55, 3) := by decide +kernel
theorem dX3_letIn_43 : decode cX3_letIn 43 = .ok (.aload_n 1, 1) := by decide +kernel
theorem dX3_letIn_44 : decode cX3_letIn 44 = .ok (.aload_n 0, 1) := by decide +kernel
theorem dX3_letIn_45 : decode cX3_letIn 45 = .ok (.getfield 12, 3) := by decide +kernel
theorem dX3_letIn_48 : decode cX3_letIn 48 = .ok (.getfield 89, 3) := by decide +kernel
theorem dX3_letIn_51 : decode cX3_letIn 51 = .ok (.putfield 75, 3) := by decide +kernel
theorem dX3_letIn_54 : decode cX3_letIn 54 = .ok (.iconst 0, 1) := by decide +kernel
theorem dX3_letIn_55 : decode cX3_letIn 55 = .ok (.istore 4, 2) := by decide +kernel
theorem dX3_letIn_57 : decode cX3_letIn 57 = .ok (.iload 4, 2) := by decide +kernel
theorem dX3_letIn_59 : decode cX3_letIn 59 = .ok (.bipush 8, 2) := by decide +kernel
theorem dX3_letIn_61 : decode cX3_letIn 61 = .ok (.if_icmp .ge 34, 3) := by decide +kernel
theorem dX3_letIn_64 : decode cX3_letIn 64 = .ok (.aload_n 1, 1) := by decide +kernel
theorem dX3_letIn_65 : decode cX3_letIn 65 = .ok (.getfield 212, 3) := by decide +kernel
theorem dX3_letIn_68 : decode cX3_letIn 68 = .ok (.iload 4, 2) := by decide +kernel
theorem dX3_letIn_70 : decode cX3_letIn 70 = .ok (.aload_n 0, 1) := by decide +kernel
theorem dX3_letIn_71 : decode cX3_letIn 71 = .ok (.getfield 12, 3) := by decide +kernel
theorem dX3_letIn_74 : decode cX3_letIn 74 = .ok (.iload 4, 2) := by decide +kernel
theorem dX3_letIn_76 : decode cX3_letIn 76 = .ok (.aload_n 0, 1) := by decide +kernel
theorem dX3_letIn_77 : decode cX3_letIn 77 = .ok (.getfield 12, 3) := by decide +kernel
theorem dX3_letIn_80 : decode cX3_letIn 80 = .ok (.getfield 89, 3) := by decide +kernel
theorem dX3_letIn_83 : decode cX3_letIn 83 = .ok (.invokevirtual 215, 3) := by decide +kernel
theorem dX3_letIn_86 : decode cX3_letIn 86 = .ok (.invokestatic 218, 3) := by decide +kernel
theorem dX3_letIn_89 : decode cX3_letIn 89 = .ok (.iinc 4 1, 3) := by decide +kernel
theorem dX3_letIn_92 : decode cX3_letIn 92 = .ok (.goto (-35), 3) := by decide +kernel
theorem dX3_letIn_95 : decode cX3_letIn 95 = .ok (.aload_n 1, 1) := by decide +kernel
theorem dX3_letIn_96 : decode cX3_letIn 96 = .ok (.aload_n 0, 1) := by decide +kernel
theorem dX3_letIn_97 : decode cX3_letIn 97 = .ok (.getfield 41, 3) := by decide +kernel
theorem dX3_letIn_100 : decode cX3_letIn 100 = .ok (.iload_n 3, 1) := by decide +kernel
theorem dX3_letIn_101 : decode cX3_letIn 101 = .ok (.invokevirtual 222, 3) := by decide +kernel
theorem dX3_letIn_104 : decode cX3_letIn 104 = .ok (.aload_n 1, 1) := by decide +kernel
theorem dX3_letIn_105 : decode cX3_letIn 105 = .ok (.getfield 75, 3) := by decide +kernel
theorem dX3_letIn_108 : decode cX3_letIn 108 = .ok (.ireturn, 1) := by decide +kernel
def PL_S_letIn_57 : Nat → Option Nat → Int32 → Int32 → Nat → Int32 → Int32 → ST → (Int32 → ST → Prop) → Prop
  | 0, _, _, _, _, _, _, _, _ => False
  | n + 1, r1, x2, x3, e1_57, y3, y4, v0, Q => ((8 ≤ y4 → P_R_arrive (S_time v0) y3 (S_readers v0 e1_57) (fun v30_ => (∀ v35_, v35_ = (S_seti_readers v0 e1_57 v30_) → (Q (R_place (S_readers v35_ e1_57)) v35_)))) ∧ (¬ 8 ≤ y4 → P_L_toldForwards y4 (L_end (S_log v0)) (S_log v0) (fun r38_ => (P_T_put 8 y4 r38_ (R_values (S_readers v0 e1_57)) (fun v46_ => (∀ v53_, v53_ = (S_seti_readers v0 e1_57 (R_set_values (S_readers v0 e1_57) v46_)) → ((fun y3 y4 v0 => PL_S_letIn_57 n r1 x2 x3 e1_57 y3 y4 v0  Q) y3 (y4 + 1) v53_)))))))
def P_S_letIn (r1 : Option Nat) (x2 : Int32) (x3 : Int32) (v0 : ST) (Q : Int32 → ST → Prop) : Prop := (r1 = none → Q (-1) v0) ∧ (∀ ir1, r1 = some ir1 → ((¬ x2 = 0 → ((¬ x2 = 1 → P_R_arrive (S_time v0) x3 (S_readers v0 ir1) (fun v7_ => (∀ v12_, v12_ = (S_seti_readers v0 ir1 v7_) → (Q (R_place (S_readers v12_ ir1)) v12_)))) ∧ (x2 = 1 → ∀ v22_, v22_ = (S_seti_readers v0 ir1 (R_set_place (S_readers v0 ir1) (L_end (S_log v0)))) → ((∃ n56_, PL_S_letIn_57 n56_ r1 x2 x3 ir1 x3 0 v22_ Q))))) ∧ (x2 = 0 → ∀ v64_, v64_ = (S_seti_readers v0 ir1 (R_set_place (S_readers v0 ir1) (L_first (S_log v0)))) → (P_T_copy 8 8 (L_dropValues (S_log v64_)) (R_values (S_readers v64_ ir1)) (fun v71_ => (∀ v78_, v78_ = (S_seti_readers v64_ ir1 (R_set_values (S_readers v64_ ir1) v71_)) → (P_R_arrive (S_time v78_) x3 (S_readers v78_ ir1) (fun v85_ => (∀ v90_, v90_ = (S_seti_readers v78_ ir1 v85_) → (Q (R_place (S_readers v90_ ir1)) v90_))))))))))
set_option maxRecDepth 100000 in
theorem s_S_letIn {l : Launch} {D : zD} {B : Nat} {sa : Nat → Nat} (hfl : l.stackTraces = false) {z : Nat} {G : zG} {b0 : Nat} {r1 : Option Nat} {x2 : Int32} {x3 : Int32} {v0 : ST} {Q : Int32 → ST → Prop} (h0 : SA b0 v0 G) (hr1 : ∀ i, r1 = some i → i < 8) (h : P_S_letIn r1 x2 x3 v0 Q) : zSp l D B sa yX3_letIn cX3_letIn 5 (some .int) 2 73 0 0 [.ref b0, va_rf (r1.map (fun i => b0 + 10 + 2 * i)), .int x2, .int x3] z G (zRi fun r z' G' => z = z' ∧ ∃ w, SA b0 w G' ∧ Fr b0 26 G G' ∧ Q r w) := by
  unfold P_S_letIn at h
  cases hqr1 : r1 with
  | none =>
    refine z_ofW (by decide +kernel) hfl [some (.ref b0), some (.null), some (.int x2), some (.int x3), none] rfl (Nat.le_of_ble_eq_true rfl) (fun p e s m args below meth c O hret hlk hnm => ?_)
    have O : zO p l s m args c D B sa 5 cX3_letIn RX3 := O
    have HL57 : ∀ (n9 : Nat) (e1_57 : Nat) (he1_57 : e1_57 < 8)   (y3 : Int32) (y4 : Int32) (v0 : ST) (G9 : zG) (g0 : SA b0 v0 G9) (gF : Fr b0 26 G G9) (h : PL_S_letIn_57 n9 r1 x2 x3 e1_57 y3 y4 v0 Q), zT p l e (zrm 2 73 0 0) s m args below meth c (zEnd below D B (zRi fun r z' G' => z = z' ∧ ∃ w, SA b0 w G' ∧ Fr b0 26 G G' ∧ Q r w) args s 0 0) D B 5 0 0 57 [] [some (.ref b0), some (.ref (b0 + 10 + 2 * e1_57)), none, some (.int y3), some (.int y4)] z G9 := by
      intro n9 e1_57 he1_57  
      induction n9 with
      | zero =>
        intro _ _ _ _ _ _ h
        exact (h : False).elim
      | succ n ih =>
        intro y3 y4 v0 G9 g0 gF h
        rw [PL_S_letIn_57] at h
        refine z_iload O dX3_letIn_57 rfl ?_
        refine z_bipush (v := 8) O dX3_letIn_59 (by decide) ?_
        refine z_icmp_ge (tgt := 95) O dX3_letIn_61 (by decide) (fun c25_ => ?_) (fun c25_ => ?_)
        · have h := h.1 c25_
          refine z_aload_n O dX3_letIn_95 rfl rfl ?_
          refine z_aload_n O dX3_letIn_96 rfl rfl ?_
          refine z_get (v := .int (S_time v0)) O wf_RX3_41 dX3_letIn_97 (S_obj g0) rfl ?_
          refine z_iload_n O dX3_letIn_100 rfl rfl ?_
          refine z_callVv (As := [.int (S_time v0), .int y3]) (st := []) O (s_R_arrive hfl (S_readers_of g0 he1_57) h) wy_X2_arrive wl_RX3_222 dX3_letIn_101 rfl rfl (R_obj (S_readers_of g0 he1_57)) ⟨by decide, rfl⟩ ⟨Nat.le_of_ble_eq_true rfl, Nat.le_of_ble_eq_true rfl⟩ (Nat.le_of_ble_eq_true rfl) ⟨Nat.le_of_ble_eq_true rfl, Nat.le_of_ble_eq_true rfl⟩ (fun z27_ G28_ hq29_ => ?_)
          obtain ⟨rfl, v30_, k31_, f32_, h⟩ := hq29_
          have k33_ := S_put_readers g0 he1_57 k31_ f32_
          have f34_ : Fr b0 26 G9 G28_ := Fr.mono f32_ (by have := he1_57; omega) (by have := he1_57; omega)
          obtain ⟨v35_, ev35_⟩ : ∃ w, w = (S_seti_readers v0 e1_57 v30_) := ⟨_, rfl⟩
          have h := h v35_ ev35_
          have k36_ : SA b0 v35_ G28_ := by rw [ev35_]; exact k33_
          have F37_ : Fr b0 26 G G28_ := Fr.trans gF f34_
          refine z_aload_n O dX3_letIn_104 rfl rfl ?_
          refine z_get (v := .int (R_place (S_readers v35_ e1_57))) O wf_RX3_75 dX3_letIn_105 (R_obj (S_readers_of k36_ he1_57)) rfl ?_
          exact z_iret O hret hlk dX3_letIn_108 (Nat.le_of_ble_eq_true rfl) (Nat.le_of_ble_eq_true rfl) ⟨_, rfl, rfl, _, k36_, F37_, h⟩
        · have h := h.2 c25_
          refine z_aload_n O dX3_letIn_64 rfl rfl ?_
          refine z_get (v := .ref ((b0 + 10 + 2 * e1_57) + 1)) O wf_RX3_212 dX3_letIn_65 (R_obj (S_readers_of g0 he1_57)) rfl ?_
          refine z_iload O dX3_letIn_68 rfl ?_
          refine z_aload_n O dX3_letIn_70 rfl rfl ?_
          refine z_get (v := .ref (b0 + 1)) O wf_RX3_12 dX3_letIn_71 (S_obj g0) rfl ?_
          refine z_iload O dX3_letIn_74 rfl ?_
          refine z_aload_n O dX3_letIn_76 rfl rfl ?_
          refine z_get (v := .ref (b0 + 1)) O wf_RX3_12 dX3_letIn_77 (S_obj g0) rfl ?_
          refine z_get (v := .int (L_end (S_log v0))) O wf_RX3_89 dX3_letIn_80 (L_obj (S_log_of g0)) rfl ?_
          refine z_callVi (As := [.int y4, .int (L_end (S_log v0))]) (st := [.int y4, .ref ((b0 + 10 + 2 * e1_57) + 1)]) O (s_L_toldForwards hfl (S_log_of g0) h) wy_X1_toldForwards wl_RX3_215 dX3_letIn_83 rfl rfl (L_obj (S_log_of g0)) ⟨by decide, rfl⟩ ⟨Nat.le_of_ble_eq_true rfl, Nat.le_of_ble_eq_true rfl⟩ (Nat.le_of_ble_eq_true rfl) ⟨Nat.le_of_ble_eq_true rfl, Nat.le_of_ble_eq_true rfl⟩ (fun r38_ z39_ G40_ hq41_ => ?_)
          obtain ⟨rfl, rfl, h⟩ := hq41_
          refine z_callNv (As := [.ref ((b0 + 10 + 2 * e1_57) + 1), .int y4, .int r38_]) (st := []) O (s_T_put hfl (R_values_of (S_readers_of g0 he1_57)) h) wy_X5_put wl_RX3_218 dX3_letIn_86 rfl rfl ⟨Nat.le_of_ble_eq_true rfl, Nat.le_of_ble_eq_true rfl⟩ (Nat.le_of_ble_eq_true rfl) ⟨Nat.le_of_ble_eq_true rfl, Nat.le_of_ble_eq_true rfl⟩ (fun z43_ G44_ hq45_ => ?_)
          obtain ⟨rfl, v46_, k47_, f48_, h⟩ := hq45_
          have k49_ := R_put_values (S_readers_of g0 he1_57) k47_ f48_
          have f50_ : Fr (b0 + 10 + 2 * e1_57) 2 G9 G44_ := Fr.mono f48_ (by omega) (by omega)
          have k51_ := S_put_readers g0 he1_57 k49_ f50_
          have f52_ : Fr b0 26 G9 G44_ := Fr.mono f50_ (by have := he1_57; omega) (by have := he1_57; omega)
          obtain ⟨v53_, ev53_⟩ : ∃ w, w = (S_seti_readers v0 e1_57 (R_set_values (S_readers v0 e1_57) v46_)) := ⟨_, rfl⟩
          have h := h v53_ ev53_
          have k54_ : SA b0 v53_ G44_ := by rw [ev53_]; exact k51_
          have F55_ : Fr b0 26 G G44_ := Fr.trans gF f52_
          refine z_iinc (v := (y4 + 1)) (L' := [some (.ref b0), some (.ref (b0 + 10 + 2 * e1_57)), none, some (.int y3), some (.int (y4 + 1))]) O dX3_letIn_89 rfl (by first | rfl | decide) (by decide) rfl ?_
          refine z_goto (tgt := 57) O dX3_letIn_92 (by decide) ?_
          exact z_subL (L' := [some (.ref b0), some (.ref (b0 + 10 + 2 * e1_57)), none, some (.int y3), some (.int (y4 + 1))]) (zLe.sub (And.intro rfl (And.intro rfl (And.intro rfl (And.intro rfl True.intro))))) (ih y3 (y4 + 1) v53_ G44_ k54_ F55_ h)
    have h := h.1 hqr1
    refine z_aloadN_n O dX3_letIn_0 rfl rfl ?_
    refine z_ifnonnullN O dX3_letIn_1 ?_
    refine z_iconst (v := (-1)) O dX3_letIn_4 (by decide) ?_
    exact z_iret O hret hlk dX3_letIn_5 (Nat.le_of_ble_eq_true rfl) (Nat.le_of_ble_eq_true rfl) ⟨_, rfl, rfl, _, h0, Fr.rf, h⟩
  | some ir1 =>
    refine z_ofW (by decide +kernel) hfl [some (.ref b0), some (.ref (b0 + 10 + 2 * ir1)), some (.int x2), some (.int x3), none] rfl (Nat.le_of_ble_eq_true rfl) (fun p e s m args below meth c O hret hlk hnm => ?_)
    have O : zO p l s m args c D B sa 5 cX3_letIn RX3 := O
    have hir1 : ir1 < 8 := hr1 _ hqr1
    have HL57 : ∀ (n9 : Nat) (e1_57 : Nat) (he1_57 : e1_57 < 8)   (y3 : Int32) (y4 : Int32) (v0 : ST) (G9 : zG) (g0 : SA b0 v0 G9) (gF : Fr b0 26 G G9) (h : PL_S_letIn_57 n9 r1 x2 x3 e1_57 y3 y4 v0 Q), zT p l e (zrm 2 73 0 0) s m args below meth c (zEnd below D B (zRi fun r z' G' => z = z' ∧ ∃ w, SA b0 w G' ∧ Fr b0 26 G G' ∧ Q r w) args s 0 0) D B 5 0 0 57 [] [some (.ref b0), some (.ref (b0 + 10 + 2 * e1_57)), none, some (.int y3), some (.int y4)] z G9 := by
      intro n9 e1_57 he1_57  
      induction n9 with
      | zero =>
        intro _ _ _ _ _ _ h
        exact (h : False).elim
      | succ n ih =>
        intro y3 y4 v0 G9 g0 gF h
        rw [PL_S_letIn_57] at h
        refine z_iload O dX3_letIn_57 rfl ?_
        refine z_bipush (v := 8) O dX3_letIn_59 (by decide) ?_
        refine z_icmp_ge (tgt := 95) O dX3_letIn_61 (by decide) (fun c25_ => ?_) (fun c25_ => ?_)
        · have h := h.1 c25_
          refine z_aload_n O dX3_letIn_95 rfl rfl ?_
          refine z_aload_n O dX3_letIn_96 rfl rfl ?_
          refine z_get (v := .int (S_time v0)) O wf_RX3_41 dX3_letIn_97 (S_obj g0) rfl ?_
          refine z_iload_n O dX3_letIn_100 rfl rfl ?_
          refine z_callVv (As := [.int (S_time v0), .int y3]) (st := []) O (s_R_arrive hfl (S_readers_of g0 he1_57) h) wy_X2_arrive wl_RX3_222 dX3_letIn_101 rfl rfl (R_obj (S_readers_of g0 he1_57)) ⟨by decide, rfl⟩ ⟨Nat.le_of_ble_eq_true rfl, Nat.le_of_ble_eq_true rfl⟩ (Nat.le_of_ble_eq_true rfl) ⟨Nat.le_of_ble_eq_true rfl, Nat.le_of_ble_eq_true rfl⟩ (fun z27_ G28_ hq29_ => ?_)
          obtain ⟨rfl, v30_, k31_, f32_, h⟩ := hq29_
          have k33_ := S_put_readers g0 he1_57 k31_ f32_
          have f34_ : Fr b0 26 G9 G28_ := Fr.mono f32_ (by have := he1_57; omega) (by have := he1_57; omega)
          obtain ⟨v35_, ev35_⟩ : ∃ w, w = (S_seti_readers v0 e1_57 v30_) := ⟨_, rfl⟩
          have h := h v35_ ev35_
          have k36_ : SA b0 v35_ G28_ := by rw [ev35_]; exact k33_
          have F37_ : Fr b0 26 G G28_ := Fr.trans gF f34_
          refine z_aload_n O dX3_letIn_104 rfl rfl ?_
          refine z_get (v := .int (R_place (S_readers v35_ e1_57))) O wf_RX3_75 dX3_letIn_105 (R_obj (S_readers_of k36_ he1_57)) rfl ?_
          exact z_iret O hret hlk dX3_letIn_108 (Nat.le_of_ble_eq_true rfl) (Nat.le_of_ble_eq_true rfl) ⟨_, rfl, rfl, _, k36_, F37_, h⟩
        · have h := h.2 c25_
          refine z_aload_n O dX3_letIn_64 rfl rfl ?_
          refine z_get (v := .ref ((b0 + 10 + 2 * e1_57) + 1)) O wf_RX3_212 dX3_letIn_65 (R_obj (S_readers_of g0 he1_57)) rfl ?_
          refine z_iload O dX3_letIn_68 rfl ?_
          refine z_aload_n O dX3_letIn_70 rfl rfl ?_
          refine z_get (v := .ref (b0 + 1)) O wf_RX3_12 dX3_letIn_71 (S_obj g0) rfl ?_
          refine z_iload O dX3_letIn_74 rfl ?_
          refine z_aload_n O dX3_letIn_76 rfl rfl ?_
          refine z_get (v := .ref (b0 + 1)) O wf_RX3_12 dX3_letIn_77 (S_obj g0) rfl ?_
          refine z_get (v := .int (L_end (S_log v0))) O wf_RX3_89 dX3_letIn_80 (L_obj (S_log_of g0)) rfl ?_
          refine z_callVi (As := [.int y4, .int (L_end (S_log v0))]) (st := [.int y4, .ref ((b0 + 10 + 2 * e1_57) + 1)]) O (s_L_toldForwards hfl (S_log_of g0) h) wy_X1_toldForwards wl_RX3_215 dX3_letIn_83 rfl rfl (L_obj (S_log_of g0)) ⟨by decide, rfl⟩ ⟨Nat.le_of_ble_eq_true rfl, Nat.le_of_ble_eq_true rfl⟩ (Nat.le_of_ble_eq_true rfl) ⟨Nat.le_of_ble_eq_true rfl, Nat.le_of_ble_eq_true rfl⟩ (fun r38_ z39_ G40_ hq41_ => ?_)
          obtain ⟨rfl, rfl, h⟩ := hq41_
          refine z_callNv (As := [.ref ((b0 + 10 + 2 * e1_57) + 1), .int y4, .int r38_]) (st := []) O (s_T_put hfl (R_values_of (S_readers_of g0 he1_57)) h) wy_X5_put wl_RX3_218 dX3_letIn_86 rfl rfl ⟨Nat.le_of_ble_eq_true rfl, Nat.le_of_ble_eq_true rfl⟩ (Nat.le_of_ble_eq_true rfl) ⟨Nat.le_of_ble_eq_true rfl, Nat.le_of_ble_eq_true rfl⟩ (fun z43_ G44_ hq45_ => ?_)
          obtain ⟨rfl, v46_, k47_, f48_, h⟩ := hq45_
          have k49_ := R_put_values (S_readers_of g0 he1_57) k47_ f48_
          have f50_ : Fr (b0 + 10 + 2 * e1_57) 2 G9 G44_ := Fr.mono f48_ (by omega) (by omega)
          have k51_ := S_put_readers g0 he1_57 k49_ f50_
          have f52_ : Fr b0 26 G9 G44_ := Fr.mono f50_ (by have := he1_57; omega) (by have := he1_57; omega)
          obtain ⟨v53_, ev53_⟩ : ∃ w, w = (S_seti_readers v0 e1_57 (R_set_values (S_readers v0 e1_57) v46_)) := ⟨_, rfl⟩
          have h := h v53_ ev53_
          have k54_ : SA b0 v53_ G44_ := by rw [ev53_]; exact k51_
          have F55_ : Fr b0 26 G G44_ := Fr.trans gF f52_
          refine z_iinc (v := (y4 + 1)) (L' := [some (.ref b0), some (.ref (b0 + 10 + 2 * e1_57)), none, some (.int y3), some (.int (y4 + 1))]) O dX3_letIn_89 rfl (by first | rfl | decide) (by decide) rfl ?_
          refine z_goto (tgt := 57) O dX3_letIn_92 (by decide) ?_
          exact z_subL (L' := [some (.ref b0), some (.ref (b0 + 10 + 2 * e1_57)), none, some (.int y3), some (.int (y4 + 1))]) (zLe.sub (And.intro rfl (And.intro rfl (And.intro rfl (And.intro rfl True.intro))))) (ih y3 (y4 + 1) v53_ G44_ k54_ F55_ h)
    have h := h.2 ir1 hqr1
    refine z_aload_n O dX3_letIn_0 rfl rfl ?_
    refine z_ifnonnull (tgt := 6) O dX3_letIn_1 (by decide) ?_
    refine z_iload_n O dX3_letIn_6 rfl rfl ?_
    refine z_if_ne (tgt := 38) O dX3_letIn_7 (by decide) (fun c1_ => ?_) (fun c1_ => ?_)
    · have h := h.1 c1_
      refine z_iload_n O dX3_letIn_38 rfl rfl ?_
      refine z_iconst (v := 1) O dX3_letIn_39 (by decide) ?_
      refine z_icmp_ne (tgt := 95) O dX3_letIn_40 (by decide) (fun c2_ => ?_) (fun c2_ => ?_)
      · have h := h.1 c2_
        refine z_aload_n O dX3_letIn_95 rfl rfl ?_
        refine z_aload_n O dX3_letIn_96 rfl rfl ?_
        refine z_get (v := .int (S_time v0)) O wf_RX3_41 dX3_letIn_97 (S_obj h0) rfl ?_
        refine z_iload_n O dX3_letIn_100 rfl rfl ?_
        refine z_callVv (As := [.int (S_time v0), .int x3]) (st := []) O (s_R_arrive hfl (S_readers_of h0 hir1) h) wy_X2_arrive wl_RX3_222 dX3_letIn_101 rfl rfl (R_obj (S_readers_of h0 hir1)) ⟨by decide, rfl⟩ ⟨Nat.le_of_ble_eq_true rfl, Nat.le_of_ble_eq_true rfl⟩ (Nat.le_of_ble_eq_true rfl) ⟨Nat.le_of_ble_eq_true rfl, Nat.le_of_ble_eq_true rfl⟩ (fun z4_ G5_ hq6_ => ?_)
        obtain ⟨rfl, v7_, k8_, f9_, h⟩ := hq6_
        have k10_ := S_put_readers h0 hir1 k8_ f9_
        have f11_ : Fr b0 26 G G5_ := Fr.mono f9_ (by have := hir1; omega) (by have := hir1; omega)
        obtain ⟨v12_, ev12_⟩ : ∃ w, w = (S_seti_readers v0 ir1 v7_) := ⟨_, rfl⟩
        have h := h v12_ ev12_
        have k13_ : SA b0 v12_ G5_ := by rw [ev12_]; exact k10_
        have F14_ : Fr b0 26 G G5_ := Fr.trans Fr.rf f11_
        refine z_aload_n O dX3_letIn_104 rfl rfl ?_
        refine z_get (v := .int (R_place (S_readers v12_ ir1))) O wf_RX3_75 dX3_letIn_105 (R_obj (S_readers_of k13_ hir1)) rfl ?_
        exact z_iret O hret hlk dX3_letIn_108 (Nat.le_of_ble_eq_true rfl) (Nat.le_of_ble_eq_true rfl) ⟨_, rfl, rfl, _, k13_, F14_, h⟩
      · have h := h.2 c2_
        refine z_aload_n O dX3_letIn_43 rfl rfl ?_
        refine z_aload_n O dX3_letIn_44 rfl rfl ?_
        refine z_get (v := .ref (b0 + 1)) O wf_RX3_12 dX3_letIn_45 (S_obj h0) rfl ?_
        refine z_get (v := .int (L_end (S_log v0))) O wf_RX3_89 dX3_letIn_48 (L_obj (S_log_of h0)) rfl ?_
        refine y_put O wp_RX3_75 dX3_letIn_51 (R_obj (S_readers_of h0 hir1)) rfl rfl (fun G15_ hw16_ => ?_)
        have k17_ := R_w_place (S_readers_of h0 hir1) hw16_
        have f18_ := hw16_.fr
        have f19_ : Fr (b0 + 10 + 2 * ir1) 2 G G15_ := Fr.mono f18_ (by omega) (by omega)
        have k20_ := S_put_readers h0 hir1 k17_ f19_
        have f21_ : Fr b0 26 G G15_ := Fr.mono f19_ (by have := hir1; omega) (by have := hir1; omega)
        obtain ⟨v22_, ev22_⟩ : ∃ w, w = (S_seti_readers v0 ir1 (R_set_place (S_readers v0 ir1) (L_end (S_log v0)))) := ⟨_, rfl⟩
        have h := h v22_ ev22_
        have k23_ : SA b0 v22_ G15_ := by rw [ev22_]; exact k20_
        have F24_ : Fr b0 26 G G15_ := Fr.trans Fr.rf f21_
        refine z_iconst (v := 0) O dX3_letIn_54 (by decide) ?_
        refine z_istore (L' := [some (.ref b0), some (.ref (b0 + 10 + 2 * ir1)), some (.int x2), some (.int x3), some (.int 0)]) O dX3_letIn_55 (by decide) rfl ?_
        obtain ⟨n56_, h⟩ := h
        exact z_subL (L' := [some (.ref b0), some (.ref (b0 + 10 + 2 * ir1)), none, some (.int x3), some (.int 0)]) (zLe.sub (And.intro rfl (And.intro rfl (And.intro rfl (And.intro rfl True.intro))))) (HL57 n56_ ir1 hir1 x3 0 v22_ G15_ k23_ F24_ h)
    · have h := h.2 c1_
      refine z_aload_n O dX3_letIn_10 rfl rfl ?_
      refine z_aload_n O dX3_letIn_11 rfl rfl ?_
      refine z_get (v := .ref (b0 + 1)) O wf_RX3_12 dX3_letIn_12 (S_obj h0) rfl ?_
      refine z_get (v := .int (L_first (S_log v0))) O wf_RX3_78 dX3_letIn_15 (L_obj (S_log_of h0)) rfl ?_
      refine y_put O wp_RX3_75 dX3_letIn_18 (R_obj (S_readers_of h0 hir1)) rfl rfl (fun G57_ hw58_ => ?_)
      have k59_ := R_w_place (S_readers_of h0 hir1) hw58_
      have f60_ := hw58_.fr
      have f61_ : Fr (b0 + 10 + 2 * ir1) 2 G G57_ := Fr.mono f60_ (by omega) (by omega)
      have k62_ := S_put_readers h0 hir1 k59_ f61_
      have f63_ : Fr b0 26 G G57_ := Fr.mono f61_ (by have := hir1; omega) (by have := hir1; omega)
      obtain ⟨v64_, ev64_⟩ : ∃ w, w = (S_seti_readers v0 ir1 (R_set_place (S_readers v0 ir1) (L_first (S_log v0)))) := ⟨_, rfl⟩
      have h := h v64_ ev64_
      have k65_ : SA b0 v64_ G57_ := by rw [ev64_]; exact k62_
      have F66_ : Fr b0 26 G G57_ := Fr.trans Fr.rf f63_
      refine z_aload_n O dX3_letIn_21 rfl rfl ?_
      refine z_get (v := .ref (b0 + 1)) O wf_RX3_12 dX3_letIn_22 (S_obj k65_) rfl ?_
      refine z_get (v := .ref ((b0 + 1) + 6)) O wf_RX3_209 dX3_letIn_25 (L_obj (S_log_of k65_)) rfl ?_
      refine z_aload_n O dX3_letIn_28 rfl rfl ?_
      refine z_get (v := .ref ((b0 + 10 + 2 * ir1) + 1)) O wf_RX3_212 dX3_letIn_29 (R_obj (S_readers_of k65_ hir1)) rfl ?_
      refine z_callNv (As := [.ref ((b0 + 1) + 6), .ref ((b0 + 10 + 2 * ir1) + 1)]) (st := []) O (s_T_copy hfl (L_dropValues_of (S_log_of k65_)) (R_values_of (S_readers_of k65_ hir1)) (by omega) h) wy_X5_copy wl_RX3_37 dX3_letIn_32 rfl rfl ⟨Nat.le_of_ble_eq_true rfl, Nat.le_of_ble_eq_true rfl⟩ (Nat.le_of_ble_eq_true rfl) ⟨Nat.le_of_ble_eq_true rfl, Nat.le_of_ble_eq_true rfl⟩ (fun z68_ G69_ hq70_ => ?_)
      obtain ⟨rfl, v71_, k72_, f73_, h⟩ := hq70_
      have k74_ := R_put_values (S_readers_of k65_ hir1) k72_ f73_
      have f75_ : Fr (b0 + 10 + 2 * ir1) 2 G57_ G69_ := Fr.mono f73_ (by omega) (by omega)
      have k76_ := S_put_readers k65_ hir1 k74_ f75_
      have f77_ : Fr b0 26 G57_ G69_ := Fr.mono f75_ (by have := hir1; omega) (by have := hir1; omega)
      obtain ⟨v78_, ev78_⟩ : ∃ w, w = (S_seti_readers v64_ ir1 (R_set_values (S_readers v64_ ir1) v71_)) := ⟨_, rfl⟩
      have h := h v78_ ev78_
      have k79_ : SA b0 v78_ G69_ := by rw [ev78_]; exact k76_
      have F80_ : Fr b0 26 G G69_ := Fr.trans F66_ f77_
      refine z_goto (tgt := 95) O dX3_letIn_35 (by decide) ?_
      refine z_aload_n O dX3_letIn_95 rfl rfl ?_
      refine z_aload_n O dX3_letIn_96 rfl rfl ?_
      refine z_get (v := .int (S_time v78_)) O wf_RX3_41 dX3_letIn_97 (S_obj k79_) rfl ?_
      refine z_iload_n O dX3_letIn_100 rfl rfl ?_
      refine z_callVv (As := [.int (S_time v78_), .int x3]) (st := []) O (s_R_arrive hfl (S_readers_of k79_ hir1) h) wy_X2_arrive wl_RX3_222 dX3_letIn_101 rfl rfl (R_obj (S_readers_of k79_ hir1)) ⟨by decide, rfl⟩ ⟨Nat.le_of_ble_eq_true rfl, Nat.le_of_ble_eq_true rfl⟩ (Nat.le_of_ble_eq_true rfl) ⟨Nat.le_of_ble_eq_true rfl, Nat.le_of_ble_eq_true rfl⟩ (fun z82_ G83_ hq84_ => ?_)
      obtain ⟨rfl, v85_, k86_, f87_, h⟩ := hq84_
      have k88_ := S_put_readers k79_ hir1 k86_ f87_
      have f89_ : Fr b0 26 G69_ G83_ := Fr.mono f87_ (by have := hir1; omega) (by have := hir1; omega)
      obtain ⟨v90_, ev90_⟩ : ∃ w, w = (S_seti_readers v78_ ir1 v85_) := ⟨_, rfl⟩
      have h := h v90_ ev90_
      have k91_ : SA b0 v90_ G83_ := by rw [ev90_]; exact k88_
      have F92_ : Fr b0 26 G G83_ := Fr.trans F80_ f89_
      refine z_aload_n O dX3_letIn_104 rfl rfl ?_
      refine z_get (v := .int (R_place (S_readers v90_ ir1))) O wf_RX3_75 dX3_letIn_105 (R_obj (S_readers_of k91_ hir1)) rfl ?_
      exact z_iret O hret hlk dX3_letIn_108 (Nat.le_of_ble_eq_true rfl) (Nat.le_of_ble_eq_true rfl) ⟨_, rfl, rfl, _, k91_, F92_, h⟩

theorem dX3_tellGap_0 : decode cX3_tellGap 0 = .ok (.aload_n 0, 1) := by decide +kernel
theorem dX3_tellGap_1 : decode cX3_tellGap 1 = .ok (.getfield 12, 3) := by decide +kernel
theorem dX3_tellGap_4 : decode cX3_tellGap 4 = .ok (.getfield 78, 3) := by decide +kernel
theorem dX3_tellGap_7 : decode cX3_tellGap 7 = .ok (.aload_n 1, 1) := by decide +kernel
theorem dX3_tellGap_8 : decode cX3_tellGap 8 = .ok (.getfield 75, 3) := by decide +kernel
theorem dX3_tellGap_11 : decode cX3_tellGap 11 = .ok (.isub, 1) := by decide +kernel
theorem dX3_tellGap_12 : decode cX3_tellGap 12 = .ok (.istore_n 2, 1) := by decide +kernel
theorem dX3_tellGap_13 : decode cX3_tellGap 13 = .ok (.aload_n 1, 1) := by decide +kernel
theorem dX3_tellGap_14 : decode cX3_tellGap 14 = .ok (.dup, 1) := by decide +kernel
theorem dX3_tellGap_15 : decode cX3_tellGap 15 = .ok (.getfield 128, 3) := by decide +kernel
theorem dX3_tellGap_18 : decode cX3_tellGap 18 = .ok (.iload_n 2, 1) := by decide +kernel
theorem dX3_tellGap_19 : decode cX3_tellGap 19 = .ok (.iadd, 1) := by decide +kernel
theorem dX3_tellGap_20 : decode cX3_tellGap 20 = .ok (.putfield 128, 3) := by decide +kernel
theorem dX3_tellGap_23 : decode cX3_tellGap 23 = .ok (.aload_n 0, 1) := by decide +kernel
theorem dX3_tellGap_24 : decode cX3_tellGap 24 = .ok (.dup, 1) := by decide +kernel
theorem dX3_tellGap_25 : decode cX3_tellGap 25 = .ok (.getfield 51, 3) := by decide +kernel
theorem dX3_tellGap_28 : decode cX3_tellGap 28 = .ok (.iload_n 2, 1) := by decide +kernel
theorem dX3_tellGap_29 : decode cX3_tellGap 29 = .ok (.iadd, 1) := by decide +kernel
theorem dX3_tellGap_30 : decode cX3_tellGap 30 = .ok (.putfield 51, 3) := by decide +kernel
theorem dX3_tellGap_33 : decode cX3_tellGap 33 = .ok (.aload_n 1, 1) := by decide +kernel
theorem dX3_tellGap_34 : decode cX3_tellGap 34 = .ok (.aload_n 0, 1) := by decide +kernel
theorem dX3_tellGap_35 : decode cX3_tellGap 35 = .ok (.getfield 12, 3) := by decide +kernel
theorem dX3_tellGap_38 : decode cX3_tellGap 38 = .ok (.getfield 78, 3) := by decide +kernel
theorem dX3_tellGap_41 : decode cX3_tellGap 41 = .ok (.putfield 75, 3) := by decide +kernel
theorem dX3_tellGap_44 : decode cX3_tellGap 44 = .ok (.aload_n 0, 1) := by decide +kernel
theorem dX3_tellGap_45 : decode cX3_tellGap 45 = .ok (.getfield 12, 3) := by decide +kernel
theorem dX3_tellGap_48 : decode cX3_tellGap 48 = .ok (.getfield 209, 3) := by decide +kernel
theorem dX3_tellGap_51 : decode cX3_tellGap 51 = .ok (.aload_n 1, 1) := by decide +kernel
theorem dX3_tellGap_52 : decode cX3_tellGap 52 = .ok (.getfield 212, 3) := by decide +kernel
theorem dX3_tellGap_55 : decode cX3_tellGap 55 = .ok (.invokestatic 37, 3) := by decide +kernel
theorem dX3_tellGap_58 : decode cX3_tellGap 58 = .ok (.iload_n 2, 1) := by decide +kernel
theorem dX3_tellGap_59 : decode cX3_tellGap 59 = .ok (.ireturn, 1) := by decide +kernel
def P_S_tellGap (i1 : Nat) (v0 : ST) (Q : Int32 → ST → Prop) : Prop := ∀ v8_, v8_ = (S_seti_readers v0 i1 (R_set_missedSoFar (S_readers v0 i1) ((R_missedSoFar (S_readers v0 i1)) + ((L_first (S_log v0)) - (R_place (S_readers v0 i1)))))) → (∀ v16_, v16_ = (S_set_missed v8_ ((S_missed v8_) + ((L_first (S_log v0)) - (R_place (S_readers v0 i1))))) → (∀ v26_, v26_ = (S_seti_readers v16_ i1 (R_set_place (S_readers v16_ i1) (L_first (S_log v16_)))) → (P_T_copy 8 8 (L_dropValues (S_log v26_)) (R_values (S_readers v26_ i1)) (fun v33_ => (∀ v40_, v40_ = (S_seti_readers v26_ i1 (R_set_values (S_readers v26_ i1) v33_)) → (Q ((L_first (S_log v0)) - (R_place (S_readers v0 i1))) v40_))))))
set_option maxRecDepth 100000 in
theorem s_S_tellGap {l : Launch} {D : zD} {B : Nat} {sa : Nat → Nat} (hfl : l.stackTraces = false) {z : Nat} {G : zG} {b0 : Nat} {i1 : Nat} {v0 : ST} {Q : Int32 → ST → Prop} (h0 : SA b0 v0 G) (hi1 : i1 < 8) (h : P_S_tellGap i1 v0 Q) : zSp l D B sa yX3_tellGap cX3_tellGap 3 (some .int) 2 73 0 0 [.ref b0, .ref (b0 + 10 + 2 * i1)] z G (zRi fun r z' G' => z = z' ∧ ∃ w, SA b0 w G' ∧ Fr b0 26 G G' ∧ Q r w) := by
  unfold P_S_tellGap at h
  refine z_ofW (by decide +kernel) hfl [some (.ref b0), some (.ref (b0 + 10 + 2 * i1)), none] rfl (Nat.le_of_ble_eq_true rfl) (fun p e s m args below meth c O hret hlk hnm => ?_)
  have O : zO p l s m args c D B sa 3 cX3_tellGap RX3 := O
  refine z_aload_n O dX3_tellGap_0 rfl rfl ?_
  refine z_get (v := .ref (b0 + 1)) O wf_RX3_12 dX3_tellGap_1 (S_obj h0) rfl ?_
  refine z_get (v := .int (L_first (S_log v0))) O wf_RX3_78 dX3_tellGap_4 (L_obj (S_log_of h0)) rfl ?_
  refine z_aload_n O dX3_tellGap_7 rfl rfl ?_
  refine z_get (v := .int (R_place (S_readers v0 i1))) O wf_RX3_75 dX3_tellGap_8 (R_obj (S_readers_of h0 hi1)) rfl ?_
  refine z_isub O dX3_tellGap_11 ?_
  refine z_istore_n (L' := [some (.ref b0), some (.ref (b0 + 10 + 2 * i1)), some (.int ((L_first (S_log v0)) - (R_place (S_readers v0 i1))))]) O dX3_tellGap_12 rfl (by decide) rfl ?_
  refine z_aload_n O dX3_tellGap_13 rfl rfl ?_
  refine z_dup O dX3_tellGap_14 rfl ?_
  refine z_get (v := .int (R_missedSoFar (S_readers v0 i1))) O wf_RX3_128 dX3_tellGap_15 (R_obj (S_readers_of h0 hi1)) rfl ?_
  refine z_iload_n O dX3_tellGap_18 rfl rfl ?_
  refine z_iadd O dX3_tellGap_19 ?_
  refine y_put O wp_RX3_128 dX3_tellGap_20 (R_obj (S_readers_of h0 hi1)) rfl rfl (fun G1_ hw2_ => ?_)
  have k3_ := R_w_missedSoFar (S_readers_of h0 hi1) hw2_
  have f4_ := hw2_.fr
  have f5_ : Fr (b0 + 10 + 2 * i1) 2 G G1_ := Fr.mono f4_ (by omega) (by omega)
  have k6_ := S_put_readers h0 hi1 k3_ f5_
  have f7_ : Fr b0 26 G G1_ := Fr.mono f5_ (by have := hi1; omega) (by have := hi1; omega)
  obtain ⟨v8_, ev8_⟩ : ∃ w, w = (S_seti_readers v0 i1 (R_set_missedSoFar (S_readers v0 i1) ((R_missedSoFar (S_readers v0 i1)) + ((L_first (S_log v0)) - (R_place (S_readers v0 i1)))))) := ⟨_, rfl⟩
  have h := h v8_ ev8_
  have k9_ : SA b0 v8_ G1_ := by rw [ev8_]; exact k6_
  have F10_ : Fr b0 26 G G1_ := Fr.trans Fr.rf f7_
  refine z_aload_n O dX3_tellGap_23 rfl rfl ?_
  refine z_dup O dX3_tellGap_24 rfl ?_
  refine z_get (v := .int (S_missed v8_)) O wf_RX3_51 dX3_tellGap_25 (S_obj k9_) rfl ?_
  refine z_iload_n O dX3_tellGap_28 rfl rfl ?_
  refine z_iadd O dX3_tellGap_29 ?_
  refine y_put O wp_RX3_51 dX3_tellGap_30 (S_obj k9_) rfl rfl (fun G11_ hw12_ => ?_)
  have k13_ := S_w_missed k9_ hw12_
  have f14_ := hw12_.fr
  have f15_ : Fr b0 26 G1_ G11_ := Fr.mono f14_ (by omega) (by omega)
  obtain ⟨v16_, ev16_⟩ : ∃ w, w = (S_set_missed v8_ ((S_missed v8_) + ((L_first (S_log v0)) - (R_place (S_readers v0 i1))))) := ⟨_, rfl⟩
  have h := h v16_ ev16_
  have k17_ : SA b0 v16_ G11_ := by rw [ev16_]; exact k13_
  have F18_ : Fr b0 26 G G11_ := Fr.trans F10_ f15_
  refine z_aload_n O dX3_tellGap_33 rfl rfl ?_
  refine z_aload_n O dX3_tellGap_34 rfl rfl ?_
  refine z_get (v := .ref (b0 + 1)) O wf_RX3_12 dX3_tellGap_35 (S_obj k17_) rfl ?_
  refine z_get (v := .int (L_first (S_log v16_))) O wf_RX3_78 dX3_tellGap_38 (L_obj (S_log_of k17_)) rfl ?_
  refine y_put O wp_RX3_75 dX3_tellGap_41 (R_obj (S_readers_of k17_ hi1)) rfl rfl (fun G19_ hw20_ => ?_)
  have k21_ := R_w_place (S_readers_of k17_ hi1) hw20_
  have f22_ := hw20_.fr
  have f23_ : Fr (b0 + 10 + 2 * i1) 2 G11_ G19_ := Fr.mono f22_ (by omega) (by omega)
  have k24_ := S_put_readers k17_ hi1 k21_ f23_
  have f25_ : Fr b0 26 G11_ G19_ := Fr.mono f23_ (by have := hi1; omega) (by have := hi1; omega)
  obtain ⟨v26_, ev26_⟩ : ∃ w, w = (S_seti_readers v16_ i1 (R_set_place (S_readers v16_ i1) (L_first (S_log v16_)))) := ⟨_, rfl⟩
  have h := h v26_ ev26_
  have k27_ : SA b0 v26_ G19_ := by rw [ev26_]; exact k24_
  have F28_ : Fr b0 26 G G19_ := Fr.trans F18_ f25_
  refine z_aload_n O dX3_tellGap_44 rfl rfl ?_
  refine z_get (v := .ref (b0 + 1)) O wf_RX3_12 dX3_tellGap_45 (S_obj k27_) rfl ?_
  refine z_get (v := .ref ((b0 + 1) + 6)) O wf_RX3_209 dX3_tellGap_48 (L_obj (S_log_of k27_)) rfl ?_
  refine z_aload_n O dX3_tellGap_51 rfl rfl ?_
  refine z_get (v := .ref ((b0 + 10 + 2 * i1) + 1)) O wf_RX3_212 dX3_tellGap_52 (R_obj (S_readers_of k27_ hi1)) rfl ?_
  refine z_callNv (As := [.ref ((b0 + 1) + 6), .ref ((b0 + 10 + 2 * i1) + 1)]) (st := []) O (s_T_copy hfl (L_dropValues_of (S_log_of k27_)) (R_values_of (S_readers_of k27_ hi1)) (by omega) h) wy_X5_copy wl_RX3_37 dX3_tellGap_55 rfl rfl ⟨Nat.le_of_ble_eq_true rfl, Nat.le_of_ble_eq_true rfl⟩ (Nat.le_of_ble_eq_true rfl) ⟨Nat.le_of_ble_eq_true rfl, Nat.le_of_ble_eq_true rfl⟩ (fun z30_ G31_ hq32_ => ?_)
  obtain ⟨rfl, v33_, k34_, f35_, h⟩ := hq32_
  have k36_ := R_put_values (S_readers_of k27_ hi1) k34_ f35_
  have f37_ : Fr (b0 + 10 + 2 * i1) 2 G19_ G31_ := Fr.mono f35_ (by omega) (by omega)
  have k38_ := S_put_readers k27_ hi1 k36_ f37_
  have f39_ : Fr b0 26 G19_ G31_ := Fr.mono f37_ (by have := hi1; omega) (by have := hi1; omega)
  obtain ⟨v40_, ev40_⟩ : ∃ w, w = (S_seti_readers v26_ i1 (R_set_values (S_readers v26_ i1) v33_)) := ⟨_, rfl⟩
  have h := h v40_ ev40_
  have k41_ : SA b0 v40_ G31_ := by rw [ev40_]; exact k38_
  have F42_ : Fr b0 26 G G31_ := Fr.trans F28_ f39_
  refine z_iload_n O dX3_tellGap_58 rfl rfl ?_
  exact z_iret O hret hlk dX3_tellGap_59 (Nat.le_of_ble_eq_true rfl) (Nat.le_of_ble_eq_true rfl) ⟨_, rfl, rfl, _, k41_, F42_, h⟩

theorem dX3_readOn_0 : decode cX3_readOn 0 = .ok (.iconst 0, 1) := by decide +kernel
theorem dX3_readOn_1 : decode cX3_readOn 1 = .ok (.istore_n 3, 1) := by decide +kernel
theorem dX3_readOn_2 : decode cX3_readOn 2 = .ok (.iload_n 3, 1) := by decide +kernel
theorem dX3_readOn_3 : decode cX3_readOn 3 = .ok (.iload_n 2, 1) := by decide +kernel
theorem dX3_readOn_4 : decode cX3_readOn 4 = .ok (.if_icmp .ge 48, 3) := by decide +kernel
theorem dX3_readOn_7 : decode cX3_readOn 7 = .ok (.aload_n 1, 1) := by decide +kernel
theorem dX3_readOn_8 : decode cX3_readOn 8 = .ok (.getfield 212, 3) := by decide +kernel
theorem dX3_readOn_11 : decode cX3_readOn 11 = .ok (.aload_n 0, 1) := by decide +kernel
theorem dX3_readOn_12 : decode cX3_readOn 12 = .ok (.getfield 12, 3) := by decide +kernel
theorem dX3_readOn_15 : decode cX3_readOn 15 = .ok (.getfield 235, 3) := by decide +kernel
theorem dX3_readOn_18 : decode cX3_readOn 18 = .ok (.aload_n 1, 1) := by decide +kernel
theorem dX3_readOn_19 : decode cX3_readOn 19 = .ok (.getfield 75, 3) := by decide +kernel
theorem dX3_readOn_22 : decode cX3_readOn 22 = .ok (.iload_n 3, 1) := by decide +kernel
theorem dX3_readOn_23 : decode cX3_readOn 23 = .ok (.iadd, 1) := by decide +kernel
theorem dX3_readOn_24 : decode cX3_readOn 24 = .ok (.invokestatic 145, 3) := by decide +kernel
theorem dX3_readOn_27 : decode cX3_readOn 27 = .ok (.aload_n 0, 1) := by decide +kernel
theorem dX3_readOn_28 : decode cX3_readOn 28 = .ok (.getfield 12, 3) := by decide +kernel
theorem dX3_readOn_31 : decode cX3_readOn 31 = .ok (.getfield 238, 3) := by decide +kernel
theorem dX3_readOn_34 : decode cX3_readOn 34 = .ok (.aload_n 1, 1) := by decide +kernel
theorem dX3_readOn_35 : decode cX3_readOn 35 = .ok (.getfield 75, 3) := by decide +kernel
theorem dX3_readOn_38 : decode cX3_readOn 38 = .ok (.iload_n 3, 1) := by decide +kernel
theorem dX3_readOn_39 : decode cX3_readOn 39 = .ok (.iadd, 1) := by decide +kernel
theorem dX3_readOn_40 : decode cX3_readOn 40 = .ok (.invokestatic 145, 3) := by decide +kernel
theorem dX3_readOn_43 : decode cX3_readOn 43 = .ok (.invokestatic 218, 3) := by decide +kernel
theorem dX3_readOn_46 : decode cX3_readOn 46 = .ok (.iinc 3 1, 3) := by decide +kernel
theorem dX3_readOn_49 : decode cX3_readOn 49 = .ok (.goto (-47), 3) := by decide +kernel
theorem dX3_readOn_52 : decode cX3_readOn 52 = .ok (.aload_n 1, 1) := by decide +kernel
theorem dX3_readOn_53 : decode cX3_readOn 53 = .ok (.dup, 1) := by decide +kernel
theorem dX3_readOn_54 : decode cX3_readOn 54 = .ok (.getfield 75, 3) := by decide +kernel
theorem dX3_readOn_57 : decode cX3_readOn 57 = .ok (.iload_n 2, 1) := by decide +kernel
theorem dX3_readOn_58 : decode cX3_readOn 58 = .ok (.iadd, 1) := by decide +kernel
theorem dX3_readOn_59 : decode cX3_readOn 59 = .ok (.putfield 75, 3) := by decide +kernel
theorem dX3_readOn_62 : decode cX3_readOn 62 = .ok (.aload_n 1, 1) := by decide +kernel
theorem dX3_readOn_63 : decode cX3_readOn 63 = .ok (.dup, 1) := by decide +kernel
theorem dX3_readOn_64 : decode cX3_readOn 64 = .ok (.getfield 125, 3) := by decide +kernel
theorem dX3_readOn_67 : decode cX3_readOn 67 = .ok (.iload_n 2, 1) := by decide +kernel
theorem dX3_readOn_68 : decode cX3_readOn 68 = .ok (.iadd, 1) := by decide +kernel
theorem dX3_readOn_69 : decode cX3_readOn 69 = .ok (.putfield 125, 3) := by decide +kernel
theorem dX3_readOn_72 : decode cX3_readOn 72 = .ok (.iload_n 2, 1) := by decide +kernel
theorem dX3_readOn_73 : decode cX3_readOn 73 = .ok (.ireturn, 1) := by decide +kernel
def PL_S_readOn_2 : Nat → Nat → Int32 → Int32 → Int32 → ST → (Int32 → ST → Prop) → Prop
  | 0, _, _, _, _, _, _ => False
  | n + 1, i1, x2, y2, y3, v0, Q => ((y2 ≤ y3 → ∀ v9_, v9_ = (S_seti_readers v0 i1 (R_set_place (S_readers v0 i1) ((R_place (S_readers v0 i1)) + y2))) → (∀ v19_, v19_ = (S_seti_readers v9_ i1 (R_set_readSoFar (S_readers v9_ i1) ((R_readSoFar (S_readers v9_ i1)) + y2))) → (Q y2 v19_))) ∧ (¬ y2 ≤ y3 → P_T_at 200 ((R_place (S_readers v0 i1)) + y3) (L_keys (S_log v0)) (fun r22_ => (P_T_at 200 ((R_place (S_readers v0 i1)) + y3) (L_values (S_log v0)) (fun r26_ => (P_T_put 8 r22_ r26_ (R_values (S_readers v0 i1)) (fun v34_ => (∀ v41_, v41_ = (S_seti_readers v0 i1 (R_set_values (S_readers v0 i1) v34_)) → ((fun y2 y3 v0 => PL_S_readOn_2 n i1 x2 y2 y3 v0  Q) y2 (y3 + 1) v41_)))))))))
def P_S_readOn (i1 : Nat) (x2 : Int32) (v0 : ST) (Q : Int32 → ST → Prop) : Prop := (∃ n44_, PL_S_readOn_2 n44_ i1 x2 x2 0 v0 Q)
set_option maxRecDepth 100000 in
theorem s_S_readOn {l : Launch} {D : zD} {B : Nat} {sa : Nat → Nat} (hfl : l.stackTraces = false) {z : Nat} {G : zG} {b0 : Nat} {i1 : Nat} {x2 : Int32} {v0 : ST} {Q : Int32 → ST → Prop} (h0 : SA b0 v0 G) (hi1 : i1 < 8) (h : P_S_readOn i1 x2 v0 Q) : zSp l D B sa yX3_readOn cX3_readOn 4 (some .int) 1 22 0 0 [.ref b0, .ref (b0 + 10 + 2 * i1), .int x2] z G (zRi fun r z' G' => z = z' ∧ ∃ w, SA b0 w G' ∧ Fr b0 26 G G' ∧ Q r w) := by
  unfold P_S_readOn at h
  refine z_ofW (by decide +kernel) hfl [some (.ref b0), some (.ref (b0 + 10 + 2 * i1)), some (.int x2), none] rfl (Nat.le_of_ble_eq_true rfl) (fun p e s m args below meth c O hret hlk hnm => ?_)
  have O : zO p l s m args c D B sa 4 cX3_readOn RX3 := O
  have HL2 : ∀ (n9 : Nat)    (y2 : Int32) (y3 : Int32) (v0 : ST) (G9 : zG) (g0 : SA b0 v0 G9) (gF : Fr b0 26 G G9) (h : PL_S_readOn_2 n9 i1 x2 y2 y3 v0 Q), zT p l e (zrm 1 22 0 0) s m args below meth c (zEnd below D B (zRi fun r z' G' => z = z' ∧ ∃ w, SA b0 w G' ∧ Fr b0 26 G G' ∧ Q r w) args s 0 0) D B 4 0 0 2 [] [some (.ref b0), some (.ref (b0 + 10 + 2 * i1)), some (.int y2), some (.int y3)] z G9 := by
    intro n9   
    induction n9 with
    | zero =>
      intro _ _ _ _ _ _ h
      exact (h : False).elim
    | succ n ih =>
      intro y2 y3 v0 G9 g0 gF h
      rw [PL_S_readOn_2] at h
      refine z_iload_n O dX3_readOn_2 rfl rfl ?_
      refine z_iload_n O dX3_readOn_3 rfl rfl ?_
      refine z_icmp_ge (tgt := 52) O dX3_readOn_4 (by decide) (fun c1_ => ?_) (fun c1_ => ?_)
      · have h := h.1 c1_
        refine z_aload_n O dX3_readOn_52 rfl rfl ?_
        refine z_dup O dX3_readOn_53 rfl ?_
        refine z_get (v := .int (R_place (S_readers v0 i1))) O wf_RX3_75 dX3_readOn_54 (R_obj (S_readers_of g0 hi1)) rfl ?_
        refine z_iload_n O dX3_readOn_57 rfl rfl ?_
        refine z_iadd O dX3_readOn_58 ?_
        refine y_put O wp_RX3_75 dX3_readOn_59 (R_obj (S_readers_of g0 hi1)) rfl rfl (fun G2_ hw3_ => ?_)
        have k4_ := R_w_place (S_readers_of g0 hi1) hw3_
        have f5_ := hw3_.fr
        have f6_ : Fr (b0 + 10 + 2 * i1) 2 G9 G2_ := Fr.mono f5_ (by omega) (by omega)
        have k7_ := S_put_readers g0 hi1 k4_ f6_
        have f8_ : Fr b0 26 G9 G2_ := Fr.mono f6_ (by have := hi1; omega) (by have := hi1; omega)
        obtain ⟨v9_, ev9_⟩ : ∃ w, w = (S_seti_readers v0 i1 (R_set_place (S_readers v0 i1) ((R_place (S_readers v0 i1)) + y2))) := ⟨_, rfl⟩
        have h := h v9_ ev9_
        have k10_ : SA b0 v9_ G2_ := by rw [ev9_]; exact k7_
        have F11_ : Fr b0 26 G G2_ := Fr.trans gF f8_
        refine z_aload_n O dX3_readOn_62 rfl rfl ?_
        refine z_dup O dX3_readOn_63 rfl ?_
        refine z_get (v := .int (R_readSoFar (S_readers v9_ i1))) O wf_RX3_125 dX3_readOn_64 (R_obj (S_readers_of k10_ hi1)) rfl ?_
        refine z_iload_n O dX3_readOn_67 rfl rfl ?_
        refine z_iadd O dX3_readOn_68 ?_
        refine y_put O wp_RX3_125 dX3_readOn_69 (R_obj (S_readers_of k10_ hi1)) rfl rfl (fun G12_ hw13_ => ?_)
        have k14_ := R_w_readSoFar (S_readers_of k10_ hi1) hw13_
        have f15_ := hw13_.fr
        have f16_ : Fr (b0 + 10 + 2 * i1) 2 G2_ G12_ := Fr.mono f15_ (by omega) (by omega)
        have k17_ := S_put_readers k10_ hi1 k14_ f16_
        have f18_ : Fr b0 26 G2_ G12_ := Fr.mono f16_ (by have := hi1; omega) (by have := hi1; omega)
        obtain ⟨v19_, ev19_⟩ : ∃ w, w = (S_seti_readers v9_ i1 (R_set_readSoFar (S_readers v9_ i1) ((R_readSoFar (S_readers v9_ i1)) + y2))) := ⟨_, rfl⟩
        have h := h v19_ ev19_
        have k20_ : SA b0 v19_ G12_ := by rw [ev19_]; exact k17_
        have F21_ : Fr b0 26 G G12_ := Fr.trans F11_ f18_
        refine z_iload_n O dX3_readOn_72 rfl rfl ?_
        exact z_iret O hret hlk dX3_readOn_73 (Nat.le_of_ble_eq_true rfl) (Nat.le_of_ble_eq_true rfl) ⟨_, rfl, rfl, _, k20_, F21_, h⟩
      · have h := h.2 c1_
        refine z_aload_n O dX3_readOn_7 rfl rfl ?_
        refine z_get (v := .ref ((b0 + 10 + 2 * i1) + 1)) O wf_RX3_212 dX3_readOn_8 (R_obj (S_readers_of g0 hi1)) rfl ?_
        refine z_aload_n O dX3_readOn_11 rfl rfl ?_
        refine z_get (v := .ref (b0 + 1)) O wf_RX3_12 dX3_readOn_12 (S_obj g0) rfl ?_
        refine z_get (v := .ref ((b0 + 1) + 1)) O wf_RX3_235 dX3_readOn_15 (L_obj (S_log_of g0)) rfl ?_
        refine z_aload_n O dX3_readOn_18 rfl rfl ?_
        refine z_get (v := .int (R_place (S_readers v0 i1))) O wf_RX3_75 dX3_readOn_19 (R_obj (S_readers_of g0 hi1)) rfl ?_
        refine z_iload_n O dX3_readOn_22 rfl rfl ?_
        refine z_iadd O dX3_readOn_23 ?_
        refine z_callNi (As := [.ref ((b0 + 1) + 1), .int ((R_place (S_readers v0 i1)) + y3)]) (st := [.ref ((b0 + 10 + 2 * i1) + 1)]) O (s_T_at hfl (L_keys_of (S_log_of g0)) h) wy_X5_at wl_RX3_145 dX3_readOn_24 rfl rfl ⟨Nat.le_of_ble_eq_true rfl, Nat.le_of_ble_eq_true rfl⟩ (Nat.le_of_ble_eq_true rfl) ⟨Nat.le_of_ble_eq_true rfl, Nat.le_of_ble_eq_true rfl⟩ (fun r22_ z23_ G24_ hq25_ => ?_)
        obtain ⟨rfl, rfl, h⟩ := hq25_
        refine z_aload_n O dX3_readOn_27 rfl rfl ?_
        refine z_get (v := .ref (b0 + 1)) O wf_RX3_12 dX3_readOn_28 (S_obj g0) rfl ?_
        refine z_get (v := .ref ((b0 + 1) + 2)) O wf_RX3_238 dX3_readOn_31 (L_obj (S_log_of g0)) rfl ?_
        refine z_aload_n O dX3_readOn_34 rfl rfl ?_
        refine z_get (v := .int (R_place (S_readers v0 i1))) O wf_RX3_75 dX3_readOn_35 (R_obj (S_readers_of g0 hi1)) rfl ?_
        refine z_iload_n O dX3_readOn_38 rfl rfl ?_
        refine z_iadd O dX3_readOn_39 ?_
        refine z_callNi (As := [.ref ((b0 + 1) + 2), .int ((R_place (S_readers v0 i1)) + y3)]) (st := [.int r22_, .ref ((b0 + 10 + 2 * i1) + 1)]) O (s_T_at hfl (L_values_of (S_log_of g0)) h) wy_X5_at wl_RX3_145 dX3_readOn_40 rfl rfl ⟨Nat.le_of_ble_eq_true rfl, Nat.le_of_ble_eq_true rfl⟩ (Nat.le_of_ble_eq_true rfl) ⟨Nat.le_of_ble_eq_true rfl, Nat.le_of_ble_eq_true rfl⟩ (fun r26_ z27_ G28_ hq29_ => ?_)
        obtain ⟨rfl, rfl, h⟩ := hq29_
        refine z_callNv (As := [.ref ((b0 + 10 + 2 * i1) + 1), .int r22_, .int r26_]) (st := []) O (s_T_put hfl (R_values_of (S_readers_of g0 hi1)) h) wy_X5_put wl_RX3_218 dX3_readOn_43 rfl rfl ⟨Nat.le_of_ble_eq_true rfl, Nat.le_of_ble_eq_true rfl⟩ (Nat.le_of_ble_eq_true rfl) ⟨Nat.le_of_ble_eq_true rfl, Nat.le_of_ble_eq_true rfl⟩ (fun z31_ G32_ hq33_ => ?_)
        obtain ⟨rfl, v34_, k35_, f36_, h⟩ := hq33_
        have k37_ := R_put_values (S_readers_of g0 hi1) k35_ f36_
        have f38_ : Fr (b0 + 10 + 2 * i1) 2 G9 G32_ := Fr.mono f36_ (by omega) (by omega)
        have k39_ := S_put_readers g0 hi1 k37_ f38_
        have f40_ : Fr b0 26 G9 G32_ := Fr.mono f38_ (by have := hi1; omega) (by have := hi1; omega)
        obtain ⟨v41_, ev41_⟩ : ∃ w, w = (S_seti_readers v0 i1 (R_set_values (S_readers v0 i1) v34_)) := ⟨_, rfl⟩
        have h := h v41_ ev41_
        have k42_ : SA b0 v41_ G32_ := by rw [ev41_]; exact k39_
        have F43_ : Fr b0 26 G G32_ := Fr.trans gF f40_
        refine z_iinc (v := (y3 + 1)) (L' := [some (.ref b0), some (.ref (b0 + 10 + 2 * i1)), some (.int y2), some (.int (y3 + 1))]) O dX3_readOn_46 rfl (by first | rfl | decide) (by decide) rfl ?_
        refine z_goto (tgt := 2) O dX3_readOn_49 (by decide) ?_
        exact z_subL (L' := [some (.ref b0), some (.ref (b0 + 10 + 2 * i1)), some (.int y2), some (.int (y3 + 1))]) (zLe.sub (And.intro rfl (And.intro rfl (And.intro rfl (And.intro rfl True.intro))))) (ih y2 (y3 + 1) v41_ G32_ k42_ F43_ h)
  refine z_iconst (v := 0) O dX3_readOn_0 (by decide) ?_
  refine z_istore_n (L' := [some (.ref b0), some (.ref (b0 + 10 + 2 * i1)), some (.int x2), some (.int 0)]) O dX3_readOn_1 rfl (by decide) rfl ?_
  obtain ⟨n44_, h⟩ := h
  exact z_subL (L' := [some (.ref b0), some (.ref (b0 + 10 + 2 * i1)), some (.int x2), some (.int 0)]) (zLe.sub (And.intro rfl (And.intro rfl (And.intro rfl (And.intro rfl True.intro))))) (HL2 n44_ x2 0 v0 G h0 Fr.rf h)

theorem dX3_letRead_0 : decode cX3_letRead 0 = .ok (.aload_n 1, 1) := by decide +kernel
theorem dX3_letRead_1 : decode cX3_letRead 1 = .ok (.ifnonnull 5, 3) := by decide +kernel
theorem dX3_letRead_4 : decode cX3_letRead 4 = .ok (.iconst 0, 1) := by decide +kernel
theorem dX3_letRead_5 : decode cX3_letRead 5 = .ok (.ireturn, 1) := by decide +kernel
theorem dX3_letRead_6 : decode cX3_letRead 6 = .ok (.aload_n 1, 1) := by decide +kernel
theorem dX3_letRead_7 : decode cX3_letRead 7 = .ok (.aload_n 0, 1) := by decide +kernel
theorem dX3_letRead_8 : decode cX3_letRead 8 = .ok (.getfield 41, 3) := by decide +kernel
theorem dX3_letRead_11 : decode cX3_letRead 11 = .ok (.putfield 131, 3) := by decide +kernel
theorem dX3_letRead_14 : decode cX3_letRead 14 = .ok (.aload_n 1, 1) := by decide +kernel
theorem dX3_letRead_15 : decode cX3_letRead 15 = .ok (.getfield 75, 3) := by decide +kernel
theorem dX3_letRead_18 : decode cX3_letRead 18 = .ok (.aload_n 0, 1) := by decide +kernel
theorem dX3_letRead_19 : decode cX3_letRead 19 = .ok (.getfield 12, 3) := by decide +kernel
theorem dX3_letRead_22 : decode cX3_letRead 22 = .ok (.getfield 78, 3) := by decide +kernel
theorem dX3_letRead_25 : decode cX3_letRead 25 = .ok (.if_icmp .ge 12, 3) := by decide +kernel
theorem dX3_letRead_28 : decode cX3_letRead 28 = .ok (.aload_n 0, 1) := by decide +kernel
theorem dX3_letRead_29 : decode cX3_letRead 29 = .ok (.aload_n 1, 1) := by decide +kernel
theorem dX3_letRead_30 : decode cX3_letRead 30 = .ok (.invokevirtual 226, 3) := by decide +kernel
theorem dX3_letRead_33 : decode cX3_letRead 33 = .ok (.ineg, 1) := by decide +kernel
theorem dX3_letRead_34 : decode cX3_letRead 34 = .ok (.goto 24, 3) := by decide +kernel
theorem dX3_letRead_37 : decode cX3_letRead 37 = .ok (.aload_n 0, 1) := by decide +kernel
theorem dX3_letRead_38 : decode cX3_letRead 38 = .ok (.aload_n 1, 1) := by decide +kernel
theorem dX3_letRead_39 : decode cX3_letRead 39 = .ok (.iload_n 2, 1) := by decide +kernel
theorem dX3_letRead_40 : decode cX3_letRead 40 = .ok (.aload_n 0, 1) := by decide +kernel
theorem dX3_letRead_41 : decode cX3_letRead 41 = .ok (.getfield 12, 3) := by decide +kernel
theorem dX3_letRead_44 : decode cX3_letRead 44 = .ok (.getfield 89, 3) := by decide +kernel
theorem dX3_letRead_47 : decode cX3_letRead 47 = .ok (.aload_n 1, 1) := by decide +kernel
theorem dX3_letRead_48 : decode cX3_letRead 48 = .ok (.getfield 75, 3) := by decide +kernel
theorem dX3_letRead_51 : decode cX3_letRead 51 = .ok (.isub, 1) := by decide +kernel
theorem dX3_letRead_52 : decode cX3_letRead 52 = .ok (.invokestatic 229, 3) := by decide +kernel
theorem dX3_letRead_55 : decode cX3_letRead 55 = .ok (.invokevirtual 232, 3) := by decide +kernel
theorem dX3_letRead_58 : decode cX3_letRead 58 = .ok (.ireturn, 1) := by decide +kernel
def P_S_letRead (r1 : Option Nat) (x2 : Int32) (v0 : ST) (Q : Int32 → ST → Prop) : Prop := (r1 = none → Q 0 v0) ∧ (∀ ir1, r1 = some ir1 → ∀ v8_, v8_ = (S_seti_readers v0 ir1 (R_set_lastRead (S_readers v0 ir1) (S_time v0))) → ((((L_first (S_log v8_)) ≤ (R_place (S_readers v8_ ir1)) → P_S_readOn ir1 (zmin x2 ((L_end (S_log v8_)) - (R_place (S_readers v8_ ir1)))) v8_ (fun r12_ v16_ => (Q r12_ v16_))) ∧ (¬ (L_first (S_log v8_)) ≤ (R_place (S_readers v8_ ir1)) → P_S_tellGap ir1 v8_ (fun r20_ v24_ => (Q (-r20_) v24_))))))
set_option maxRecDepth 100000 in
theorem s_S_letRead {l : Launch} {D : zD} {B : Nat} {sa : Nat → Nat} (hfl : l.stackTraces = false) {z : Nat} {G : zG} {b0 : Nat} {r1 : Option Nat} {x2 : Int32} {v0 : ST} {Q : Int32 → ST → Prop} (h0 : SA b0 v0 G) (hr1 : ∀ i, r1 = some i → i < 8) (h : P_S_letRead r1 x2 v0 Q) : zSp l D B sa yX3_letRead cX3_letRead 3 (some .int) 3 95 0 0 [.ref b0, va_rf (r1.map (fun i => b0 + 10 + 2 * i)), .int x2] z G (zRi fun r z' G' => z = z' ∧ ∃ w, SA b0 w G' ∧ Fr b0 26 G G' ∧ Q r w) := by
  unfold P_S_letRead at h
  cases hqr1 : r1 with
  | none =>
    refine z_ofW (by decide +kernel) hfl [some (.ref b0), some (.null), some (.int x2)] rfl (Nat.le_of_ble_eq_true rfl) (fun p e s m args below meth c O hret hlk hnm => ?_)
    have O : zO p l s m args c D B sa 3 cX3_letRead RX3 := O
    have h := h.1 hqr1
    refine z_aloadN_n O dX3_letRead_0 rfl rfl ?_
    refine z_ifnonnullN O dX3_letRead_1 ?_
    refine z_iconst (v := 0) O dX3_letRead_4 (by decide) ?_
    exact z_iret O hret hlk dX3_letRead_5 (Nat.le_of_ble_eq_true rfl) (Nat.le_of_ble_eq_true rfl) ⟨_, rfl, rfl, _, h0, Fr.rf, h⟩
  | some ir1 =>
    refine z_ofW (by decide +kernel) hfl [some (.ref b0), some (.ref (b0 + 10 + 2 * ir1)), some (.int x2)] rfl (Nat.le_of_ble_eq_true rfl) (fun p e s m args below meth c O hret hlk hnm => ?_)
    have O : zO p l s m args c D B sa 3 cX3_letRead RX3 := O
    have hir1 : ir1 < 8 := hr1 _ hqr1
    have h := h.2 ir1 hqr1
    refine z_aload_n O dX3_letRead_0 rfl rfl ?_
    refine z_ifnonnull (tgt := 6) O dX3_letRead_1 (by decide) ?_
    refine z_aload_n O dX3_letRead_6 rfl rfl ?_
    refine z_aload_n O dX3_letRead_7 rfl rfl ?_
    refine z_get (v := .int (S_time v0)) O wf_RX3_41 dX3_letRead_8 (S_obj h0) rfl ?_
    refine y_put O wp_RX3_131 dX3_letRead_11 (R_obj (S_readers_of h0 hir1)) rfl rfl (fun G1_ hw2_ => ?_)
    have k3_ := R_w_lastRead (S_readers_of h0 hir1) hw2_
    have f4_ := hw2_.fr
    have f5_ : Fr (b0 + 10 + 2 * ir1) 2 G G1_ := Fr.mono f4_ (by omega) (by omega)
    have k6_ := S_put_readers h0 hir1 k3_ f5_
    have f7_ : Fr b0 26 G G1_ := Fr.mono f5_ (by have := hir1; omega) (by have := hir1; omega)
    obtain ⟨v8_, ev8_⟩ : ∃ w, w = (S_seti_readers v0 ir1 (R_set_lastRead (S_readers v0 ir1) (S_time v0))) := ⟨_, rfl⟩
    have h := h v8_ ev8_
    have k9_ : SA b0 v8_ G1_ := by rw [ev8_]; exact k6_
    have F10_ : Fr b0 26 G G1_ := Fr.trans Fr.rf f7_
    refine z_aload_n O dX3_letRead_14 rfl rfl ?_
    refine z_get (v := .int (R_place (S_readers v8_ ir1))) O wf_RX3_75 dX3_letRead_15 (R_obj (S_readers_of k9_ hir1)) rfl ?_
    refine z_aload_n O dX3_letRead_18 rfl rfl ?_
    refine z_get (v := .ref (b0 + 1)) O wf_RX3_12 dX3_letRead_19 (S_obj k9_) rfl ?_
    refine z_get (v := .int (L_first (S_log v8_))) O wf_RX3_78 dX3_letRead_22 (L_obj (S_log_of k9_)) rfl ?_
    refine z_icmp_ge (tgt := 37) O dX3_letRead_25 (by decide) (fun c11_ => ?_) (fun c11_ => ?_)
    · have h := h.1 c11_
      refine z_aload_n O dX3_letRead_37 rfl rfl ?_
      refine z_aload_n O dX3_letRead_38 rfl rfl ?_
      refine z_iload_n O dX3_letRead_39 rfl rfl ?_
      refine z_aload_n O dX3_letRead_40 rfl rfl ?_
      refine z_get (v := .ref (b0 + 1)) O wf_RX3_12 dX3_letRead_41 (S_obj k9_) rfl ?_
      refine z_get (v := .int (L_end (S_log v8_))) O wf_RX3_89 dX3_letRead_44 (L_obj (S_log_of k9_)) rfl ?_
      refine z_aload_n O dX3_letRead_47 rfl rfl ?_
      refine z_get (v := .int (R_place (S_readers v8_ ir1))) O wf_RX3_75 dX3_letRead_48 (R_obj (S_readers_of k9_ hir1)) rfl ?_
      refine z_isub O dX3_letRead_51 ?_
      refine z_mmin O wm_RX3_229 wm_min_s wm_math wm_min_c dX3_letRead_52 (Nat.le_of_ble_eq_true rfl) (Nat.le_of_ble_eq_true rfl) (Nat.le_of_ble_eq_true rfl) (Nat.le_of_ble_eq_true rfl) ?_
      refine z_callVi (As := [.ref (b0 + 10 + 2 * ir1), .int (zmin x2 ((L_end (S_log v8_)) - (R_place (S_readers v8_ ir1))))]) (st := []) O (s_S_readOn hfl k9_ hir1 h) wy_X3_readOn wl_RX3_232 dX3_letRead_55 rfl rfl (S_obj k9_) ⟨by decide, rfl⟩ ⟨Nat.le_of_ble_eq_true rfl, Nat.le_of_ble_eq_true rfl⟩ (Nat.le_of_ble_eq_true rfl) ⟨Nat.le_of_ble_eq_true rfl, Nat.le_of_ble_eq_true rfl⟩ (fun r12_ z13_ G14_ hq15_ => ?_)
      obtain ⟨rfl, v16_, k17_, f18_, h⟩ := hq15_
      have F19_ : Fr b0 26 G G14_ := Fr.trans F10_ f18_
      exact z_iret O hret hlk dX3_letRead_58 (Nat.le_of_ble_eq_true rfl) (Nat.le_of_ble_eq_true rfl) ⟨_, rfl, rfl, _, k17_, F19_, h⟩
    · have h := h.2 c11_
      refine z_aload_n O dX3_letRead_28 rfl rfl ?_
      refine z_aload_n O dX3_letRead_29 rfl rfl ?_
      refine z_callVi (As := [.ref (b0 + 10 + 2 * ir1)]) (st := []) O (s_S_tellGap hfl k9_ hir1 h) wy_X3_tellGap wl_RX3_226 dX3_letRead_30 rfl rfl (S_obj k9_) ⟨by decide, rfl⟩ ⟨Nat.le_of_ble_eq_true rfl, Nat.le_of_ble_eq_true rfl⟩ (Nat.le_of_ble_eq_true rfl) ⟨Nat.le_of_ble_eq_true rfl, Nat.le_of_ble_eq_true rfl⟩ (fun r20_ z21_ G22_ hq23_ => ?_)
      obtain ⟨rfl, v24_, k25_, f26_, h⟩ := hq23_
      have F27_ : Fr b0 26 G G22_ := Fr.trans F10_ f26_
      refine z_ineg O dX3_letRead_33 ?_
      refine z_goto (tgt := 58) O dX3_letRead_34 (by decide) ?_
      exact z_iret O hret hlk dX3_letRead_58 (Nat.le_of_ble_eq_true rfl) (Nat.le_of_ble_eq_true rfl) ⟨_, rfl, rfl, _, k25_, F27_, h⟩

theorem dX3_letGo_0 : decode cX3_letGo 0 = .ok (.aload_n 1, 1) := by decide +kernel
theorem dX3_letGo_1 : decode cX3_letGo 1 = .ok (.ifnull 7, 3) := by decide +kernel
theorem dX3_letGo_4 : decode cX3_letGo 4 = .ok (.aload_n 1, 1) := by decide +kernel
theorem dX3_letGo_5 : decode cX3_letGo 5 = .ok (.invokevirtual 239, 3) := by decide +kernel
theorem dX3_letGo_8 : decode cX3_letGo 8 = .ok (.aload_n 0, 1) := by decide +kernel
theorem dX3_letGo_9 : decode cX3_letGo 9 = .ok (.invokevirtual 99, 3) := by decide +kernel
theorem dX3_letGo_12 : decode cX3_letGo 12 = .ok (.ireturn, 1) := by decide +kernel
def P_S_letGo (r1 : Option Nat) (v0 : ST) (Q : Int32 → ST → Prop) : Prop := (r1 = none → P_S_readerCount v0 (fun r1_ => (Q r1_ v0))) ∧ (∀ ir1, r1 = some ir1 → P_R_depart (S_readers v0 ir1) (fun v9_ => (∀ v14_, v14_ = (S_seti_readers v0 ir1 v9_) → (P_S_readerCount v14_ (fun r17_ => (Q r17_ v14_))))))
set_option maxRecDepth 100000 in
theorem s_S_letGo {l : Launch} {D : zD} {B : Nat} {sa : Nat → Nat} (hfl : l.stackTraces = false) {z : Nat} {G : zG} {b0 : Nat} {r1 : Option Nat} {v0 : ST} {Q : Int32 → ST → Prop} (h0 : SA b0 v0 G) (hr1 : ∀ i, r1 = some i → i < 8) (h : P_S_letGo r1 v0 Q) : zSp l D B sa yX3_letGo cX3_letGo 2 (some .int) 3 65 0 0 [.ref b0, va_rf (r1.map (fun i => b0 + 10 + 2 * i))] z G (zRi fun r z' G' => z = z' ∧ ∃ w, SA b0 w G' ∧ Fr b0 26 G G' ∧ Q r w) := by
  unfold P_S_letGo at h
  cases hqr1 : r1 with
  | none =>
    refine z_ofW (by decide +kernel) hfl [some (.ref b0), some (.null)] rfl (Nat.le_of_ble_eq_true rfl) (fun p e s m args below meth c O hret hlk hnm => ?_)
    have O : zO p l s m args c D B sa 2 cX3_letGo RX3 := O
    have h := h.1 hqr1
    refine z_aloadN_n O dX3_letGo_0 rfl rfl ?_
    refine z_ifnullN (tgt := 8) O dX3_letGo_1 (by decide) ?_
    refine z_aload_n O dX3_letGo_8 rfl rfl ?_
    refine z_callVi (As := []) (st := []) O (s_S_readerCount hfl h0 h) wy_X3_readerCount wl_RX3_99 dX3_letGo_9 rfl rfl (S_obj h0) ⟨by decide, rfl⟩ ⟨Nat.le_of_ble_eq_true rfl, Nat.le_of_ble_eq_true rfl⟩ (Nat.le_of_ble_eq_true rfl) ⟨Nat.le_of_ble_eq_true rfl, Nat.le_of_ble_eq_true rfl⟩ (fun r1_ z2_ G3_ hq4_ => ?_)
    obtain ⟨rfl, rfl, h⟩ := hq4_
    exact z_iret O hret hlk dX3_letGo_12 (Nat.le_of_ble_eq_true rfl) (Nat.le_of_ble_eq_true rfl) ⟨_, rfl, rfl, _, h0, Fr.rf, h⟩
  | some ir1 =>
    refine z_ofW (by decide +kernel) hfl [some (.ref b0), some (.ref (b0 + 10 + 2 * ir1))] rfl (Nat.le_of_ble_eq_true rfl) (fun p e s m args below meth c O hret hlk hnm => ?_)
    have O : zO p l s m args c D B sa 2 cX3_letGo RX3 := O
    have hir1 : ir1 < 8 := hr1 _ hqr1
    have h := h.2 ir1 hqr1
    refine z_aload_n O dX3_letGo_0 rfl rfl ?_
    refine z_ifnull O dX3_letGo_1 ?_
    refine z_aload_n O dX3_letGo_4 rfl rfl ?_
    refine z_callVv (As := []) (st := []) O (s_R_depart hfl (S_readers_of h0 hir1) h) wy_X2_depart wl_RX3_239 dX3_letGo_5 rfl rfl (R_obj (S_readers_of h0 hir1)) ⟨by decide, rfl⟩ ⟨Nat.le_of_ble_eq_true rfl, Nat.le_of_ble_eq_true rfl⟩ (Nat.le_of_ble_eq_true rfl) ⟨Nat.le_of_ble_eq_true rfl, Nat.le_of_ble_eq_true rfl⟩ (fun z6_ G7_ hq8_ => ?_)
    obtain ⟨rfl, v9_, k10_, f11_, h⟩ := hq8_
    have k12_ := S_put_readers h0 hir1 k10_ f11_
    have f13_ : Fr b0 26 G G7_ := Fr.mono f11_ (by have := hir1; omega) (by have := hir1; omega)
    obtain ⟨v14_, ev14_⟩ : ∃ w, w = (S_seti_readers v0 ir1 v9_) := ⟨_, rfl⟩
    have h := h v14_ ev14_
    have k15_ : SA b0 v14_ G7_ := by rw [ev14_]; exact k12_
    have F16_ : Fr b0 26 G G7_ := Fr.trans Fr.rf f13_
    refine z_aload_n O dX3_letGo_8 rfl rfl ?_
    refine z_callVi (As := []) (st := []) O (s_S_readerCount hfl k15_ h) wy_X3_readerCount wl_RX3_99 dX3_letGo_9 rfl rfl (S_obj k15_) ⟨by decide, rfl⟩ ⟨Nat.le_of_ble_eq_true rfl, Nat.le_of_ble_eq_true rfl⟩ (Nat.le_of_ble_eq_true rfl) ⟨Nat.le_of_ble_eq_true rfl, Nat.le_of_ble_eq_true rfl⟩ (fun r17_ z18_ G19_ hq20_ => ?_)
    obtain ⟨rfl, rfl, h⟩ := hq20_
    exact z_iret O hret hlk dX3_letGo_12 (Nat.le_of_ble_eq_true rfl) (Nat.le_of_ble_eq_true rfl) ⟨_, rfl, rfl, _, k15_, F16_, h⟩
