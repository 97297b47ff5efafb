/-! ### the law's calls -/
abbrev SimT (T : Int) : TT → MT → Prop := fun v w => SimZ T (aT v) (aM w)
section QY
variable {T T1 T2 : Int} {v' : TT} {w' : MT}
theorem i32_of {x y : Int32} {n : Int} (hy : y.toInt = n) (h : x.toInt = n) : x = y := Int32.toInt_inj.mp (h.trans hy.symm)
theorem fin_ret {r b : Int32} {o : Nat → Int64} (e : T1 ≤ T2) (hT : T2 ≤ 5000000) (h : finZ T1 0 r.toInt (aT v') b.toInt (aM w')) : P_M_thrown w' (fun t => t = 0 ∧ ((0 : Int32) = 0 → vp_updL o 0 (Int32.toInt64 r) 0 = Int32.toInt64 b) ∧ SimT T2 v' w') := by
  obtain ⟨h1, h2, h3⟩ := h
  refine ⟨i32_of rfl h1, fun _ => ?_, h3.mono e hT⟩
  have e2 : b = r := Int32.toInt_inj.mp (h2 rfl)
  rw [e2]
  rfl
theorem fin_thr {k b : Int32} {n r : Int} {o : Nat → Int64} (hk : k.toInt = n) (h0 : n ≠ 0) (e : T1 ≤ T2) (hT : T2 ≤ 5000000) (h : finZ T1 n r (aT v') b.toInt (aM w')) : P_M_thrown w' (fun t => t = k ∧ (k = 0 → o 0 = Int32.toInt64 b) ∧ SimT T2 v' w') := by
  obtain ⟨h1, h2, h3⟩ := h
  refine ⟨i32_of hk h1, fun z => absurd ?_ h0, h3.mono e hT⟩
  rw [← hk, z]
  rfl
theorem fin_eq {r b : Int32} (e : T1 ≤ T2) (hT : T2 ≤ 5000000) (h : finZ T1 0 r.toInt (aT v') b.toInt (aM w')) : r = b ∧ SimT T2 v' w' :=
  ⟨(Int32.toInt_inj.mp (h.2.1 rfl)).symm, h.2.2.mono e hT⟩
theorem kl_append (e : T + 6000 ≤ T2) (hT : T2 ≤ 5000000) : KL_append (SimT T) (SimT T2) := by
  intro x1 v w o hS
  refine z_T_append rfl rfl (fun E v' hE => ?_) (fun r v' hr => z_M_append rfl rfl (fun b w' hb => fin_ret (by omega) hT hb) hr) (k_append (T := T) (fun x h0 h1 => by unfold zi2cZ; omega) hS)
  exact ⟨fun z => z_M_append rfl rfl (fun b w' hb => fin_thr rfl (by decide) (by omega) hT hb) (hE.2.1 z), fun z => z_M_append rfl rfl (fun b w' hb => fin_thr rfl (by decide) (by omega) hT hb) (hE.2.2.1 z), fun z => hE.2.2.2 (fun q => q.elim (fun y => hE.1 y) (fun q => q.elim (fun y => z.1 y) (fun y => z.2 y)))⟩
theorem kl_clearText (e : T + 6000 ≤ T2) (hT : T2 ≤ 5000000) : KL_clearText (SimT T) (SimT T2) := by
  intro v w hS
  exact z_T_clearText rfl (fun r v' hr => z_M_clearText rfl (fun b w' hb => fin_eq (by omega) hT hb) hr) (k_clearText (T := T) hS)
theorem kl_errorPosition (e : T + 6000 ≤ T2) (hT : T2 ≤ 5000000) : KL_errorPosition (SimT T) (SimT T2) := by
  intro v w hS
  exact z_T_errorPosition rfl (fun r v' hr => z_M_errorPosition rfl (fun b w' hb => fin_eq (by omega) hT hb) hr) (k_errorPosition (T := T) hS)
theorem kl_load (e : T + 6000 ≤ T2) (hT : T2 ≤ 5000000) : KL_load (SimT T) (SimT T2) := by
  intro  v w o hS
  refine z_T_load rfl (fun E v' hE => ?_) (fun r v' hr => z_M_load rfl (fun b w' hb => fin_ret (by omega) hT hb) hr) (k_load (T := T) hS (by omega))
  exact ⟨fun z => z_M_load rfl (fun b w' hb => fin_thr rfl (by decide) (by omega) hT hb) (hE.2.2.1 z), fun z => hE.2.2.2 (fun q => q.elim (fun y => hE.1 y) (fun q => q.elim (fun y => hE.2.1 y) (fun y => z y)))⟩
theorem kl_about (e : T + 6000 ≤ T2) (hT : T2 ≤ 5000000) : KL_about (SimT T) (SimT T2) := by
  intro x1 v w o hS
  refine z_T_about rfl rfl (fun E hE => ?_) (fun r hr => z_M_about rfl rfl (fun b w' hb => fin_ret (by omega) hT hb) hr) (k_about (T := T) hS)
  exact ⟨fun z => z_M_about rfl rfl (fun b w' hb => fin_thr rfl (by decide) (by omega) hT hb) (hE.2.1 z), fun z => hE.2.2.2 (fun q => q.elim (fun y => hE.1 y) (fun q => q.elim (fun y => z y) (fun y => hE.2.2.1 y)))⟩
theorem kl_rowOf (e : T + 6000 ≤ T2) (hT : T2 ≤ 5000000) : KL_rowOf (SimT T) (SimT T2) := by
  intro x1 x2 v w o hS
  refine z_T_rowOf rfl rfl rfl (fun E hE => ?_) (fun r hr => z_M_rowOf rfl rfl rfl (fun b w' hb => fin_ret (by omega) hT hb) hr) (k_rowOf (T := T) hS)
  exact ⟨fun z => z_M_rowOf rfl rfl rfl (fun b w' hb => fin_thr rfl (by decide) (by omega) hT hb) (hE.1 z), fun z => z_M_rowOf rfl rfl rfl (fun b w' hb => fin_thr rfl (by decide) (by omega) hT hb) (hE.2.1 z), fun z => hE.2.2.2 (fun q => q.elim (fun y => z.1 y) (fun q => q.elim (fun y => z.2 y) (fun y => hE.2.2.1 y)))⟩
theorem kl_segmentOf (e : T + 6000 ≤ T2) (hT : T2 ≤ 5000000) : KL_segmentOf (SimT T) (SimT T2) := by
  intro x1 x2 v w o hS
  refine z_T_segmentOf rfl rfl rfl (fun E hE => ?_) (fun r hr => z_M_segmentOf rfl rfl rfl (fun b w' hb => fin_ret (by omega) hT hb) hr) (k_segmentOf (T := T) hS)
  exact ⟨fun z => z_M_segmentOf rfl rfl rfl (fun b w' hb => fin_thr rfl (by decide) (by omega) hT hb) (hE.1 z), fun z => z_M_segmentOf rfl rfl rfl (fun b w' hb => fin_thr rfl (by decide) (by omega) hT hb) (hE.2.1 z), fun z => hE.2.2.2 (fun q => q.elim (fun y => z.1 y) (fun q => q.elim (fun y => z.2 y) (fun y => hE.2.2.1 y)))⟩
theorem kl_readerOf (e : T + 6000 ≤ T2) (hT : T2 ≤ 5000000) : KL_readerOf (SimT T) (SimT T2) := by
  intro x1 x2 v w o hS
  refine z_T_readerOf rfl rfl rfl (fun E hE => ?_) (fun r hr => z_M_readerOf rfl rfl rfl (fun b w' hb => fin_ret (by omega) hT hb) hr) (k_readerOf (T := T) hS)
  exact ⟨fun z => z_M_readerOf rfl rfl rfl (fun b w' hb => fin_thr rfl (by decide) (by omega) hT hb) (hE.1 z), fun z => z_M_readerOf rfl rfl rfl (fun b w' hb => fin_thr rfl (by decide) (by omega) hT hb) (hE.2.1 z), fun z => hE.2.2.2 (fun q => q.elim (fun y => z.1 y) (fun q => q.elim (fun y => z.2 y) (fun y => hE.2.2.1 y)))⟩
theorem kl_table (e : T + 6000 ≤ T2) (hT : T2 ≤ 5000000) : KL_table (SimT T) (SimT T2) := by
  intro x1 x2 v w o hS
  refine z_T_table rfl rfl rfl (fun E hE => ?_) (fun r hr => z_M_table rfl rfl rfl (fun b w' hb => fin_ret (by omega) hT hb) hr) (k_table (T := T) hS)
  exact ⟨fun z => z_M_table rfl rfl rfl (fun b w' hb => fin_thr rfl (by decide) (by omega) hT hb) (hE.1 z), fun z => z_M_table rfl rfl rfl (fun b w' hb => fin_thr rfl (by decide) (by omega) hT hb) (hE.2.1 z), fun z => hE.2.2.2 (fun q => q.elim (fun y => z.1 y) (fun q => q.elim (fun y => z.2 y) (fun y => hE.2.2.1 y)))⟩
theorem kl_base (e : T + 6000 ≤ T2) (hT : T2 ≤ 5000000) : KL_base (SimT T) (SimT T2) := by
  intro x1 v w o hS
  refine z_T_base rfl rfl (fun E hE => ?_) (fun r hr => z_M_base rfl rfl (fun b w' hb => fin_ret (by omega) hT hb) hr) (k_base (T := T) hS)
  exact ⟨fun z => z_M_base rfl rfl (fun b w' hb => fin_thr rfl (by decide) (by omega) hT hb) (hE.2.1 z), fun z => hE.2.2.2 (fun q => q.elim (fun y => hE.1 y) (fun q => q.elim (fun y => z y) (fun y => hE.2.2.1 y)))⟩
theorem kl_setting (e : T + 6000 ≤ T2) (hT : T2 ≤ 5000000) : KL_setting (SimT T) (SimT T2) := by
  intro x1 v w o hS
  refine z_T_setting rfl rfl (fun E hE => ?_) (fun r hr => z_M_setting rfl rfl (fun b w' hb => fin_ret (by omega) hT hb) hr) (k_setting (T := T) hS)
  exact ⟨fun z => z_M_setting rfl rfl (fun b w' hb => fin_thr rfl (by decide) (by omega) hT hb) (hE.2.1 z), fun z => hE.2.2.2 (fun q => q.elim (fun y => hE.1 y) (fun q => q.elim (fun y => z y) (fun y => hE.2.2.1 y)))⟩
theorem kl_write (e : T + 6000 ≤ T2) (hT : T2 ≤ 5000000) : KL_write (SimT T) (SimT T2) := by
  intro x1 x2 x3 v w o hS
  refine z_T_write rfl rfl rfl rfl (fun E v' hE => ?_) (fun r v' hr => z_M_write rfl rfl rfl rfl (fun b w' hb => fin_ret (by omega) hT hb) hr) (k_write (T := T) hS (by omega))
  exact ⟨fun z => z_M_write rfl rfl rfl rfl (fun b w' hb => fin_thr rfl (by decide) (by omega) hT hb) (hE.2.1 z), fun z => z_M_write rfl rfl rfl rfl (fun b w' hb => fin_thr rfl (by decide) (by omega) hT hb) (hE.2.2.1 z), fun z => hE.2.2.2 (fun q => q.elim (fun y => hE.1 y) (fun q => q.elim (fun y => z.1 y) (fun y => z.2 y)))⟩
theorem kl_join (e : T + 6000 ≤ T2) (hT : T2 ≤ 5000000) : KL_join (SimT T) (SimT T2) := by
  intro x1 x2 x3 v w o hx hS
  have hd : x3.toInt = 0 ∨ x3.toInt = 1 := hx.elim (fun z => Or.inl (by rw [z]; rfl)) (fun z => Or.inr (by rw [z]; rfl))
  refine z_T_join rfl rfl rfl rfl (fun E v' hE => ?_) (fun r v' hr => z_M_join rfl rfl rfl rfl (fun b w' hb => fin_ret (by omega) hT hb) hr) (k_join (T := T) hd hS (by omega))
  exact ⟨fun z => z_M_join rfl rfl rfl rfl (fun b w' hb => fin_thr rfl (by decide) (by omega) hT hb) (hE.2.1 z), fun z => z_M_join rfl rfl rfl rfl (fun b w' hb => fin_thr rfl (by decide) (by omega) hT hb) (hE.2.2.1 z), fun z => hE.2.2.2 (fun q => q.elim (fun y => hE.1 y) (fun q => q.elim (fun y => z.1 y) (fun y => z.2 y)))⟩
theorem kl_read (e : T + 6000 ≤ T2) (hT : T2 ≤ 5000000) : KL_read (SimT T) (SimT T2) := by
  intro x1 x2 v w o hS
  refine z_T_read rfl rfl rfl (fun E v' hE => ?_) (fun r v' hr => z_M_read rfl rfl rfl (fun b w' hb => fin_ret (by omega) hT hb) hr) (k_read (T := T) hS (by omega))
  exact ⟨fun z => z_M_read rfl rfl rfl (fun b w' hb => fin_thr rfl (by decide) (by omega) hT hb) (hE.1 z), fun z => z_M_read rfl rfl rfl (fun b w' hb => fin_thr rfl (by decide) (by omega) hT hb) (hE.2.1 z), fun z => hE.2.2.2 (fun q => q.elim (fun y => z.1 y) (fun q => q.elim (fun y => z.2 y) (fun y => hE.2.2.1 y)))⟩
theorem kl_leave (e : T + 6000 ≤ T2) (hT : T2 ≤ 5000000) : KL_leave (SimT T) (SimT T2) := by
  intro x1 v w o hS
  refine z_T_leave rfl rfl (fun E v' hE => ?_) (fun r v' hr => z_M_leave rfl rfl (fun b w' hb => fin_ret (by omega) hT hb) hr) (k_leave (T := T) hS (by omega))
  exact ⟨fun z => z_M_leave rfl rfl (fun b w' hb => fin_thr rfl (by decide) (by omega) hT hb) (hE.1 z), fun z => hE.2.2.2 (fun q => q.elim (fun y => z y) (fun q => q.elim (fun y => hE.2.1 y) (fun y => hE.2.2.1 y)))⟩
theorem kl_hold (e : T + 6000 ≤ T2) (hT : T2 ≤ 5000000) : KL_hold (SimT T) (SimT T2) := by
  intro x1 x2 v w o hx hS
  have hd : x2.toInt = 0 ∨ x2.toInt = 1 := hx.elim (fun z => Or.inl (by rw [z]; rfl)) (fun z => Or.inr (by rw [z]; rfl))
  refine z_T_hold rfl rfl rfl (fun E v' hE => ?_) (fun r v' hr => z_M_hold rfl rfl rfl (fun b w' hb => fin_ret (by omega) hT hb) hr) (k_hold (T := T) hd hS (by omega))
  exact ⟨fun z => z_M_hold rfl rfl rfl (fun b w' hb => fin_thr rfl (by decide) (by omega) hT hb) (hE.1 z), fun z => z_M_hold rfl rfl rfl (fun b w' hb => fin_thr rfl (by decide) (by omega) hT hb) (hE.2.2.1 z), fun z => hE.2.2.2 (fun q => q.elim (fun y => z.1 y) (fun q => q.elim (fun y => hE.2.1 y) (fun y => z.2 y)))⟩
theorem kl_set (e : T + 6000 ≤ T2) (hT : T2 ≤ 5000000) : KL_set (SimT T) (SimT T2) := by
  intro x1 x2 v w o hS
  refine z_T_set rfl rfl rfl (fun E v' hE => ?_) (fun r v' hr => z_M_set rfl rfl rfl (fun b w' hb => fin_ret (by omega) hT hb) hr) (k_set (T := T) hS (by omega))
  exact ⟨fun z => z_M_set rfl rfl rfl (fun b w' hb => fin_thr rfl (by decide) (by omega) hT hb) (hE.2.1 z), fun z => hE.2.2.2 (fun q => q.elim (fun y => hE.1 y) (fun q => q.elim (fun y => z y) (fun y => hE.2.2.1 y)))⟩
theorem kl_ticks (e : T + 6000 ≤ T2) (hT : T2 ≤ 5000000) : KL_ticks (SimT T) (SimT T2) := by
  intro x1 v w o hS
  refine z_T_ticks rfl rfl (fun E v' hE => ?_) (fun r v' hr => z_M_ticks rfl rfl (fun b w' hb => fin_ret (by omega) hT hb) hr) (k_ticks (T := T) hS (by omega))
  exact ⟨fun z => z_M_ticks rfl rfl (fun b w' hb => fin_thr rfl (by decide) (by omega) hT hb) (hE.2.1 z), fun z => hE.2.2.2 (fun q => q.elim (fun y => hE.1 y) (fun q => q.elim (fun y => z y) (fun y => hE.2.2.1 y)))⟩
theorem kl_undo (e : T + 6000 ≤ T2) (hT : T2 ≤ 5000000) : KL_undo (SimT T) (SimT T2) := by
  intro  v w o hS
  refine z_T_undo rfl (fun E v' hE => ?_) (fun r v' hr => z_M_undo rfl (fun b w' hb => fin_ret (by omega) hT hb) hr) (k_undo (T := T) hS)
  exact ⟨fun z => z_M_undo rfl (fun b w' hb => fin_thr rfl (by decide) (by omega) hT hb) (hE.2.2.1 z), fun z => hE.2.2.2 (fun q => q.elim (fun y => hE.1 y) (fun q => q.elim (fun y => hE.2.1 y) (fun y => z y)))⟩
theorem kl_why (e : T + 6000 ≤ T2) (hT : T2 ≤ 5000000) : KL_why (SimT T) (SimT T2) := by
  intro v w hS
  exact z_T_why rfl (fun r hr => z_M_why rfl (fun b w' hb => fin_eq (by omega) hT hb) hr) (k_why (T := T) hS)
theorem kl_slowest (e : T + 6000 ≤ T2) (hT : T2 ≤ 5000000) : KL_slowest (SimT T) (SimT T2) := by
  intro v w hS
  exact z_T_slowest rfl (fun r hr => z_M_slowest rfl (fun b w' hb => fin_eq (by omega) hT hb) hr) (k_slowest (T := T) hS)
theorem kl_truth (e : T + 6000 ≤ T2) (hT : T2 ≤ 5000000) : KL_truth (SimT T) (SimT T2) := by
  intro x1 x2 x3 v w o hS
  refine z_T_truth rfl rfl rfl rfl (fun E hE => ?_) (fun r hr => z_M_truth rfl rfl rfl rfl (fun b w' hb => fin_ret (by omega) hT hb) hr) (k_truth (T := T) hS)
  exact ⟨fun z => z_M_truth rfl rfl rfl rfl (fun b w' hb => fin_thr rfl (by decide) (by omega) hT hb) (hE.1 z), fun z => z_M_truth rfl rfl rfl rfl (fun b w' hb => fin_thr rfl (by decide) (by omega) hT hb) (hE.2.1 z), fun z => hE.2.2.2 (fun q => q.elim (fun y => z.1 y) (fun q => q.elim (fun y => z.2 y) (fun y => hE.2.2.1 y)))⟩
theorem kl_droppedIn (e : T + 6000 ≤ T2) (hT : T2 ≤ 5000000) : KL_droppedIn (SimT T) (SimT T2) := by
  intro v w hS
  exact z_T_droppedIn rfl (fun r v' hr => z_M_droppedIn rfl (fun b w' hb => fin_eq (by omega) hT hb) hr) (k_droppedIn (T := T) hS (by omega))
theorem kl_lostIn (e : T + 6000 ≤ T2) (hT : T2 ≤ 5000000) : KL_lostIn (SimT T) (SimT T2) := by
  intro x1 v w o hS
  refine z_T_lostIn rfl rfl (fun E v' hE => ?_) (fun r v' hr => z_M_lostIn rfl rfl (fun b w' hb => fin_ret (by omega) hT hb) hr) (k_lostIn (T := T) hS (by omega))
  exact ⟨fun z => z_M_lostIn rfl rfl (fun b w' hb => fin_thr rfl (by decide) (by omega) hT hb) (hE.1 z), fun z => hE.2.2.2 (fun q => q.elim (fun y => z y) (fun q => q.elim (fun y => hE.2.1 y) (fun y => hE.2.2.1 y)))⟩
theorem kl_ifFree (e : T + 6000 ≤ T2) (hT : T2 ≤ 5000000) : KL_ifFree (SimT T) (SimT T2) := by
  intro x1 v w o hS
  refine z_T_ifFree rfl rfl (fun E v' hE => ?_) (fun r v' hr => z_M_ifFree rfl rfl (fun b w' hb => fin_ret (by omega) hT hb) hr) (k_ifFree (T := T) hS (by omega))
  exact ⟨fun z => z_M_ifFree rfl rfl (fun b w' hb => fin_thr rfl (by decide) (by omega) hT hb) (hE.1 z), fun z => hE.2.2.2 (fun q => q.elim (fun y => z y) (fun q => q.elim (fun y => hE.2.1 y) (fun y => hE.2.2.1 y)))⟩
theorem kl_leastRoom (e : T + 6000 ≤ T2) (hT : T2 ≤ 5000000) : KL_leastRoom (SimT T) (SimT T2) := by
  intro x1 v w o hS
  refine z_T_leastRoom rfl rfl (fun E v' hE => ?_) (fun r v' hr => z_M_leastRoom rfl rfl (fun b w' hb => fin_ret (by omega) hT hb) hr) (k_leastRoom (T := T) hS (by omega))
  exact ⟨fun z => z_M_leastRoom rfl rfl (fun b w' hb => fin_thr rfl (by decide) (by omega) hT hb) (hE.2.1 z), fun z => hE.2.2.2 (fun q => q.elim (fun y => hE.1 y) (fun q => q.elim (fun y => z y) (fun y => hE.2.2.1 y)))⟩
theorem kl_runScript (e : T + 6000 ≤ T2) (hT : T2 ≤ 5000000) : KL_runScript (SimT T) (SimT T2) := by
  intro x1 x2 v w o hS
  refine z_T_runScript rfl rfl rfl (fun E v' hE => ?_) (fun r v' hr => z_M_runScript rfl rfl rfl (fun b w' hb => fin_ret (by omega) hT hb) hr) (k_runScript (T := T) ⟨x2.le_toInt, x2.toInt_lt⟩ hS (by omega))
  exact ⟨fun z => z_M_runScript rfl rfl rfl (fun b w' hb => fin_thr rfl (by decide) (by omega) hT hb) (hE.2.1 z), fun z => hE.2.2.2 (fun q => q.elim (fun y => hE.1 y) (fun q => q.elim (fun y => z y) (fun y => hE.2.2.1 y)))⟩
theorem kl_simulate (e : T + 6000 ≤ T2) (hT : T2 ≤ 5000000) : KL_simulate (SimT T) (SimT T2) := by
  intro x1 x2 v w o hS
  refine z_T_simulate rfl rfl rfl (fun E v' hE => ?_) (fun r v' hr => z_M_simulate rfl rfl rfl (fun b w' hb => fin_ret (by omega) hT hb) hr) (k_simulate (T := T) hS (by omega))
  exact ⟨fun z => z_M_simulate rfl rfl rfl (fun b w' hb => fin_thr rfl (by decide) (by omega) hT hb) (hE.2.1 z), fun z => hE.2.2.2 (fun q => q.elim (fun y => hE.1 y) (fun q => q.elim (fun y => z y) (fun y => hE.2.2.1 y)))⟩
theorem kl_save (e : T + 6000 ≤ T2) (hT : T2 ≤ 5000000) : KL_save (SimT T) (SimT T2) := by
  intro x1 v w o hS
  refine z_T_save rfl rfl (fun E v' hE => ?_) (fun r v' hr => z_M_save rfl rfl (fun b w' hb => fin_ret (by omega) hT hb) hr) (k_save (T := T) hS)
  exact ⟨fun z => z_M_save rfl rfl (fun b w' hb => fin_thr rfl (by decide) (by omega) hT hb) (hE.1 z), fun z => hE.2.2.2 (fun q => q.elim (fun y => z y) (fun q => q.elim (fun y => hE.2.1 y) (fun y => hE.2.2.1 y)))⟩
theorem kl_restore (e : T + 6000 ≤ T2) (hT : T2 ≤ 5000000) : KL_restore (SimT T) (SimT T2) := by
  intro x1 v w o hS
  refine z_T_restore rfl rfl (fun E v' hE => ?_) (fun r v' hr => z_M_restore rfl rfl (fun b w' hb => fin_ret (by omega) hT hb) hr) (k_restore (T := T) hS)
  exact ⟨fun z => z_M_restore rfl rfl (fun b w' hb => fin_thr rfl (by decide) (by omega) hT hb) (hE.1 z), fun z => z_M_restore rfl rfl (fun b w' hb => fin_thr rfl (by decide) (by omega) hT hb) (hE.2.2.1 z), fun z => hE.2.2.2 (fun q => q.elim (fun y => z.1 y) (fun q => q.elim (fun y => hE.2.1 y) (fun y => z.2 y)))⟩
theorem kl_all (e : T + 6000 ≤ T2) (hT : T2 ≤ 5000000) : KLs (SimT T) (SimT T2) := ⟨kl_append e hT, kl_clearText e hT, kl_errorPosition e hT, kl_load e hT, kl_about e hT, kl_rowOf e hT, kl_segmentOf e hT, kl_readerOf e hT, kl_table e hT, kl_base e hT, kl_setting e hT, kl_write e hT, kl_join e hT, kl_read e hT, kl_leave e hT, kl_hold e hT, kl_set e hT, kl_ticks e hT, kl_undo e hT, kl_why e hT, kl_slowest e hT, kl_truth e hT, kl_droppedIn e hT, kl_lostIn e hT, kl_ifFree e hT, kl_leastRoom e hT, kl_runScript e hT, kl_simulate e hT, kl_save e hT, kl_restore e hT⟩
end QY
