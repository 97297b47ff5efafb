theorem dX3_perform_0 : decode cX3_perform 0 = .ok (.iload_n 1, 1) := by decide +kernel
theorem dX3_perform_1 : decode cX3_perform 1 = .ok (.tableswitch 150 0 5 #[39, 80, 102, 113, 123, 143], 39) := by decide +kernel
theorem dX3_perform_40 : decode cX3_perform 40 = .ok (.aload_n 0, 1) := by decide +kernel
theorem dX3_perform_41 : decode cX3_perform 41 = .ok (.getfield 12, 3) := by decide +kernel
theorem dX3_perform_44 : decode cX3_perform 44 = .ok (.iload 4, 2) := by decide +kernel
theorem dX3_perform_46 : decode cX3_perform 46 = .ok (.aload_n 0, 1) := by decide +kernel
theorem dX3_perform_47 : decode cX3_perform 47 = .ok (.getfield 24, 3) := by decide +kernel
theorem dX3_perform_50 : decode cX3_perform 50 = .ok (.iconst 0, 1) := by decide +kernel
theorem dX3_perform_51 : decode cX3_perform 51 = .ok (.invokestatic 145, 3) := by decide +kernel
theorem dX3_perform_54 : decode cX3_perform 54 = .ok (.aload_n 0, 1) := by decide +kernel
theorem dX3_perform_55 : decode cX3_perform 55 = .ok (.getfield 24, 3) := by decide +kernel
theorem dX3_perform_58 : decode cX3_perform 58 = .ok (.iconst 1, 1) := by decide +kernel
theorem dX3_perform_59 : decode cX3_perform 59 = .ok (.invokestatic 145, 3) := by decide +kernel
theorem dX3_perform_62 : decode cX3_perform 62 = .ok (.invokevirtual 180, 3) := by decide +kernel
theorem dX3_perform_65 : decode cX3_perform 65 = .ok (.aload_n 0, 1) := by decide +kernel
theorem dX3_perform_66 : decode cX3_perform 66 = .ok (.getfield 12, 3) := by decide +kernel
theorem dX3_perform_69 : decode cX3_perform 69 = .ok (.iload_n 2, 1) := by decide +kernel
theorem dX3_perform_70 : decode cX3_perform 70 = .ok (.iload_n 3, 1) := by decide +kernel
theorem dX3_perform_71 : decode cX3_perform 71 = .ok (.iload 4, 2) := by decide +kernel
theorem dX3_perform_73 : decode cX3_perform 73 = .ok (.aload_n 0, 1) := by decide +kernel
theorem dX3_perform_74 : decode cX3_perform 74 = .ok (.getfield 41, 3) := by decide +kernel
theorem dX3_perform_77 : decode cX3_perform 77 = .ok (.invokevirtual 184, 3) := by decide +kernel
theorem dX3_perform_80 : decode cX3_perform 80 = .ok (.ireturn, 1) := by decide +kernel
theorem dX3_perform_81 : decode cX3_perform 81 = .ok (.aload_n 0, 1) := by decide +kernel
theorem dX3_perform_82 : decode cX3_perform 82 = .ok (.aload_n 0, 1) := by decide +kernel
theorem dX3_perform_83 : decode cX3_perform 83 = .ok (.iload_n 2, 1) := by decide +kernel
theorem dX3_perform_84 : decode cX3_perform 84 = .ok (.invokevirtual 61, 3) := by decide +kernel
theorem dX3_perform_87 : decode cX3_perform 87 = .ok (.iload_n 3, 1) := by decide +kernel
theorem dX3_perform_88 : decode cX3_perform 88 = .ok (.iload 4, 2) := by decide +kernel
theorem dX3_perform_90 : decode cX3_perform 90 = .ok (.iconst 1, 1) := by decide +kernel
theorem dX3_perform_91 : decode cX3_perform 91 = .ok (.if_icmp .ne 7, 3) := by decide +kernel
theorem dX3_perform_94 : decode cX3_perform 94 = .ok (.iconst 1, 1) := by decide +kernel
theorem dX3_perform_95 : decode cX3_perform 95 = .ok (.goto 4, 3) := by decide +kernel
theorem dX3_perform_98 : decode cX3_perform 98 = .ok (.iconst 0, 1) := by decide +kernel
theorem dX3_perform_99 : decode cX3_perform 99 = .ok (.invokevirtual 187, 3) := by decide +kernel
theorem dX3_perform_102 : decode cX3_perform 102 = .ok (.ireturn, 1) := by decide +kernel
theorem dX3_perform_103 : decode cX3_perform 103 = .ok (.aload_n 0, 1) := by decide +kernel
theorem dX3_perform_104 : decode cX3_perform 104 = .ok (.aload_n 0, 1) := by decide +kernel
theorem dX3_perform_105 : decode cX3_perform 105 = .ok (.iload_n 2, 1) := by decide +kernel
theorem dX3_perform_106 : decode cX3_perform 106 = .ok (.invokevirtual 69, 3) := by decide +kernel
theorem dX3_perform_109 : decode cX3_perform 109 = .ok (.iload_n 3, 1) := by decide +kernel
theorem dX3_perform_110 : decode cX3_perform 110 = .ok (.invokevirtual 191, 3) := by decide +kernel
theorem dX3_perform_113 : decode cX3_perform 113 = .ok (.ireturn, 1) := by decide +kernel
theorem dX3_perform_114 : decode cX3_perform 114 = .ok (.aload_n 0, 1) := by decide +kernel
theorem dX3_perform_115 : decode cX3_perform 115 = .ok (.aload_n 0, 1) := by decide +kernel
theorem dX3_perform_116 : decode cX3_perform 116 = .ok (.iload_n 2, 1) := by decide +kernel
theorem dX3_perform_117 : decode cX3_perform 117 = .ok (.invokevirtual 69, 3) := by decide +kernel
theorem dX3_perform_120 : decode cX3_perform 120 = .ok (.invokevirtual 195, 3) := by decide +kernel
theorem dX3_perform_123 : decode cX3_perform 123 = .ok (.ireturn, 1) := by decide +kernel
theorem dX3_perform_124 : decode cX3_perform 124 = .ok (.aload_n 0, 1) := by decide +kernel
theorem dX3_perform_125 : decode cX3_perform 125 = .ok (.aload_n 0, 1) := by decide +kernel
theorem dX3_perform_126 : decode cX3_perform 126 = .ok (.iload_n 2, 1) := by decide +kernel
theorem dX3_perform_127 : decode cX3_perform 127 = .ok (.invokevirtual 69, 3) := by decide +kernel
theorem dX3_perform_130 : decode cX3_perform 130 = .ok (.iload_n 3, 1) := by decide +kernel
theorem dX3_perform_131 : decode cX3_perform 131 = .ok (.iconst 1, 1) := by decide +kernel
theorem dX3_perform_132 : decode cX3_perform 132 = .ok (.if_icmp .ne 7, 3) := by decide +kernel
theorem dX3_perform_135 : decode cX3_perform 135 = .ok (.iconst 1, 1) := by decide +kernel
theorem dX3_perform_136 : decode cX3_perform 136 = .ok (.goto 4, 3) := by decide +kernel
theorem dX3_perform_139 : decode cX3_perform 139 = .ok (.iconst 0, 1) := by decide +kernel
theorem dX3_perform_140 : decode cX3_perform 140 = .ok (.invokevirtual 199, 3) := by decide +kernel
theorem dX3_perform_143 : decode cX3_perform 143 = .ok (.ireturn, 1) := by decide +kernel
theorem dX3_perform_144 : decode cX3_perform 144 = .ok (.aload_n 0, 1) := by decide +kernel
theorem dX3_perform_145 : decode cX3_perform 145 = .ok (.iload_n 2, 1) := by decide +kernel
theorem dX3_perform_146 : decode cX3_perform 146 = .ok (.iload_n 3, 1) := by decide +kernel
theorem dX3_perform_147 : decode cX3_perform 147 = .ok (.invokevirtual 203, 3) := by decide +kernel
theorem dX3_perform_150 : decode cX3_perform 150 = .ok (.ireturn, 1) := by decide +kernel
theorem dX3_perform_151 : decode cX3_perform 151 = .ok (.aload_n 0, 1) := by decide +kernel
theorem dX3_perform_152 : decode cX3_perform 152 = .ok (.iload_n 2, 1) := by decide +kernel
theorem dX3_perform_153 : decode cX3_perform 153 = .ok (.invokevirtual 206, 3) := by decide +kernel
theorem dX3_perform_156 : decode cX3_perform 156 = .ok (.ireturn, 1) := by decide +kernel
def P_S_perform (x1 : Int32) (x2 : Int32) (x3 : Int32) (x4 : Int32) (v0 : ST) (Q : Int32 → ST → Prop) : Prop := ((x1 = 0 → P_T_at 6 0 (S_settings v0) (fun r2_ => (P_T_at 6 1 (S_settings v0) (fun r6_ => (P_L_makeRoomFor x4 r2_ r6_ (S_log v0) (fun v14_ => (∀ v19_, v19_ = (S_set_log v0 v14_) → (P_L_add x2 x3 x4 (S_time v19_) (S_log v19_) (fun r22_ v26_ => (∀ v31_, v31_ = (S_set_log v19_ v26_) → (Q r22_ v31_))))))))))) ∧ (¬ x1 = 0 → ((x1 = 1 → P_S_named x2 v0 (fun r39_ => ((r39_ = none → ((¬ x4 = 1 → P_S_letIn none x3 0 v0 (fun r44_ v48_ => (Q r44_ v48_))) ∧ (x4 = 1 → P_S_letIn none x3 1 v0 (fun r52_ v56_ => (Q r52_ v56_))))) ∧ (∀ i41_, r39_ = some i41_ → ((¬ x4 = 1 → P_S_letIn (some i41_) x3 0 v0 (fun r61_ v65_ => (Q r61_ v65_))) ∧ (x4 = 1 → P_S_letIn (some i41_) x3 1 v0 (fun r69_ v73_ => (Q r69_ v73_)))))))) ∧ (¬ x1 = 1 → ((x1 = 2 → P_S_reader x2 v0 (fun r82_ => ((r82_ = none → P_S_letRead none x3 v0 (fun r86_ v90_ => (Q r86_ v90_))) ∧ (∀ i84_, r82_ = some i84_ → P_S_letRead (some i84_) x3 v0 (fun r94_ v98_ => (Q r94_ v98_)))))) ∧ (¬ x1 = 2 → ((x1 = 3 → P_S_reader x2 v0 (fun r107_ => ((r107_ = none → P_S_letGo none v0 (fun r111_ v115_ => (Q r111_ v115_))) ∧ (∀ i109_, r107_ = some i109_ → P_S_letGo (some i109_) v0 (fun r119_ v123_ => (Q r119_ v123_)))))) ∧ (¬ x1 = 3 → ((x1 = 4 → P_S_reader x2 v0 (fun r132_ => ((r132_ = none → ((¬ x3 = 1 → P_S_changeHold none 0 v0 (fun r137_ v141_ => (Q r137_ v141_))) ∧ (x3 = 1 → P_S_changeHold none 1 v0 (fun r145_ v149_ => (Q r145_ v149_))))) ∧ (∀ i134_, r132_ = some i134_ → ((¬ x3 = 1 → P_S_changeHold (some i134_) 0 v0 (fun r154_ v158_ => (Q r154_ v158_))) ∧ (x3 = 1 → P_S_changeHold (some i134_) 1 v0 (fun r162_ v166_ => (Q r162_ v166_)))))))) ∧ (¬ x1 = 4 → ((x1 = 5 → P_S_change x2 x3 v0 (fun r171_ v175_ => (Q r171_ v175_))) ∧ (¬ x1 = 5 → P_S_passTime x2 v0 (fun r179_ v183_ => (Q r179_ v183_))))))))))))))
set_option maxRecDepth 100000 in
theorem s_S_perform {l : Launch} {D : zD} {B : Nat} {sa : Nat → Nat} (hfl : l.stackTraces = false) {z : Nat} {G : zG} {b0 : Nat} {x1 : Int32} {x2 : Int32} {x3 : Int32} {x4 : Int32} {v0 : ST} {Q : Int32 → ST → Prop} (h0 : SA b0 v0 G) (h : P_S_perform x1 x2 x3 x4 v0 Q) : zSp l D B sa yX3_perform cX3_perform 5 (some .int) 4 117 0 0 [.ref b0, .int x1, .int x2, .int x3, .int x4] z G (zRi fun r z' G' => z = z' ∧ ∃ w, SA b0 w G' ∧ Fr b0 26 G G' ∧ Q r w) := by
  unfold P_S_perform at h
  refine z_ofW (by decide +kernel) hfl [some (.ref b0), some (.int x1), some (.int x2), some (.int x3), some (.int x4)] rfl (Nat.le_of_ble_eq_true rfl) (fun p e s m args below meth c O hret hlk hnm => ?_)
  have O : zO p l s m args c D B sa 5 cX3_perform RX3 := O
  refine z_iload_n O dX3_perform_0 rfl rfl ?_
  rcases Decidable.em (x1 = 0) with c1_ | c1_
  · have h := h.1 c1_
    refine z_tsw (v := 0) (tgt := 40) O dX3_perform_1 c1_ (by decide) (by decide) rfl (by decide) ?_
    refine z_aload_n O dX3_perform_40 rfl rfl ?_
    refine z_get (v := .ref (b0 + 1)) O wf_RX3_12 dX3_perform_41 (S_obj h0) rfl ?_
    refine z_iload O dX3_perform_44 rfl ?_
    refine z_aload_n O dX3_perform_46 rfl rfl ?_
    refine z_get (v := .ref (b0 + 9)) O wf_RX3_24 dX3_perform_47 (S_obj h0) rfl ?_
    refine z_iconst (v := 0) O dX3_perform_50 (by decide) ?_
    refine z_callNi (As := [.ref (b0 + 9), .int 0]) (st := [.int x4, .ref (b0 + 1)]) O (s_T_at hfl (S_settings_of h0) h) wy_X5_at wl_RX3_145 dX3_perform_51 rfl rfl ⟨Nat.le_of_ble_eq_true rfl, Nat.le_of_ble_eq_true rfl⟩ (Nat.le_of_ble_eq_true rfl) ⟨Nat.le_of_ble_eq_true rfl, Nat.le_of_ble_eq_true rfl⟩ (fun r2_ z3_ G4_ hq5_ => ?_)
    obtain ⟨rfl, rfl, h⟩ := hq5_
    refine z_aload_n O dX3_perform_54 rfl rfl ?_
    refine z_get (v := .ref (b0 + 9)) O wf_RX3_24 dX3_perform_55 (S_obj h0) rfl ?_
    refine z_iconst (v := 1) O dX3_perform_58 (by decide) ?_
    refine z_callNi (As := [.ref (b0 + 9), .int 1]) (st := [.int r2_, .int x4, .ref (b0 + 1)]) O (s_T_at hfl (S_settings_of h0) h) wy_X5_at wl_RX3_145 dX3_perform_59 rfl rfl ⟨Nat.le_of_ble_eq_true rfl, Nat.le_of_ble_eq_true rfl⟩ (Nat.le_of_ble_eq_true rfl) ⟨Nat.le_of_ble_eq_true rfl, Nat.le_of_ble_eq_true rfl⟩ (fun r6_ z7_ G8_ hq9_ => ?_)
    obtain ⟨rfl, rfl, h⟩ := hq9_
    refine z_callVv (As := [.int x4, .int r2_, .int r6_]) (st := []) O (s_L_makeRoomFor hfl (S_log_of h0) h) wy_X1_makeRoomFor wl_RX3_180 dX3_perform_62 rfl rfl (L_obj (S_log_of h0)) ⟨by decide, rfl⟩ ⟨Nat.le_of_ble_eq_true rfl, Nat.le_of_ble_eq_true rfl⟩ (Nat.le_of_ble_eq_true rfl) ⟨Nat.le_of_ble_eq_true rfl, Nat.le_of_ble_eq_true rfl⟩ (fun z11_ G12_ hq13_ => ?_)
    obtain ⟨rfl, v14_, k15_, f16_, h⟩ := hq13_
    have k17_ := S_put_log h0 k15_ f16_
    have f18_ : Fr b0 26 G G12_ := Fr.mono f16_ (by omega) (by omega)
    obtain ⟨v19_, ev19_⟩ : ∃ w, w = (S_set_log v0 v14_) := ⟨_, rfl⟩
    have h := h v19_ ev19_
    have k20_ : SA b0 v19_ G12_ := by rw [ev19_]; exact k17_
    have F21_ : Fr b0 26 G G12_ := Fr.trans Fr.rf f18_
    refine z_aload_n O dX3_perform_65 rfl rfl ?_
    refine z_get (v := .ref (b0 + 1)) O wf_RX3_12 dX3_perform_66 (S_obj k20_) rfl ?_
    refine z_iload_n O dX3_perform_69 rfl rfl ?_
    refine z_iload_n O dX3_perform_70 rfl rfl ?_
    refine z_iload O dX3_perform_71 rfl ?_
    refine z_aload_n O dX3_perform_73 rfl rfl ?_
    refine z_get (v := .int (S_time v19_)) O wf_RX3_41 dX3_perform_74 (S_obj k20_) rfl ?_
    refine z_callVi (As := [.int x2, .int x3, .int x4, .int (S_time v19_)]) (st := []) O (s_L_add hfl (S_log_of k20_) h) wy_X1_add wl_RX3_184 dX3_perform_77 rfl rfl (L_obj (S_log_of k20_)) ⟨by decide, rfl⟩ ⟨Nat.le_of_ble_eq_true rfl, Nat.le_of_ble_eq_true rfl⟩ (Nat.le_of_ble_eq_true rfl) ⟨Nat.le_of_ble_eq_true rfl, Nat.le_of_ble_eq_true rfl⟩ (fun r22_ z23_ G24_ hq25_ => ?_)
    obtain ⟨rfl, v26_, k27_, f28_, h⟩ := hq25_
    have k29_ := S_put_log k20_ k27_ f28_
    have f30_ : Fr b0 26 G12_ G24_ := Fr.mono f28_ (by omega) (by omega)
    obtain ⟨v31_, ev31_⟩ : ∃ w, w = (S_set_log v19_ v26_) := ⟨_, rfl⟩
    have h := h v31_ ev31_
    have k32_ : SA b0 v31_ G24_ := by rw [ev31_]; exact k29_
    have F33_ : Fr b0 26 G G24_ := Fr.trans F21_ f30_
    exact z_iret O hret hlk dX3_perform_80 (Nat.le_of_ble_eq_true rfl) (Nat.le_of_ble_eq_true rfl) ⟨_, rfl, rfl, _, k32_, F33_, h⟩
  · have h := h.2 c1_
    rcases Decidable.em (x1 = 1) with c34_ | c34_
    · have h := h.1 c34_
      refine z_tsw (v := 1) (tgt := 81) O dX3_perform_1 c34_ (by decide) (by decide) rfl (by decide) ?_
      refine z_aload_n O dX3_perform_81 rfl rfl ?_
      refine z_aload_n O dX3_perform_82 rfl rfl ?_
      refine z_iload_n O dX3_perform_83 rfl rfl ?_
      refine z_callVa (As := [.int x2]) (st := [.ref b0]) O (s_S_named hfl h0 h) wy_X3_named wl_RX3_61 dX3_perform_84 rfl rfl (S_obj h0) ⟨by decide, rfl⟩ ⟨Nat.le_of_ble_eq_true rfl, Nat.le_of_ble_eq_true rfl⟩ (Nat.le_of_ble_eq_true rfl) ⟨Nat.le_of_ble_eq_true rfl, Nat.le_of_ble_eq_true rfl⟩ (fun r35_ z36_ G37_ hq38_ => ?_)
      obtain ⟨rfl, rfl, r39_, rfl, hb40_, h⟩ := hq38_
      cases r39_ with
      | none =>
        have h := h.1 rfl
        refine z_iload_n O dX3_perform_87 rfl rfl ?_
        refine z_iload O dX3_perform_88 rfl ?_
        refine z_iconst (v := 1) O dX3_perform_90 (by decide) ?_
        refine z_icmp_ne (tgt := 98) O dX3_perform_91 (by decide) (fun c43_ => ?_) (fun c43_ => ?_)
        · have h := h.1 c43_
          refine z_iconst (v := 0) O dX3_perform_98 (by decide) ?_
          refine z_callVi (As := [.null, .int x3, .int 0]) (st := []) O (s_S_letIn hfl h0 (fun _ h => by cases h) h) wy_X3_letIn wl_RX3_187 dX3_perform_99 rfl rfl (S_obj h0) ⟨by decide, rfl⟩ ⟨Nat.le_of_ble_eq_true rfl, Nat.le_of_ble_eq_true rfl⟩ (Nat.le_of_ble_eq_true rfl) ⟨Nat.le_of_ble_eq_true rfl, Nat.le_of_ble_eq_true rfl⟩ (fun r44_ z45_ G46_ hq47_ => ?_)
          obtain ⟨rfl, v48_, k49_, f50_, h⟩ := hq47_
          have F51_ : Fr b0 26 G G46_ := Fr.trans Fr.rf f50_
          exact z_iret O hret hlk dX3_perform_102 (Nat.le_of_ble_eq_true rfl) (Nat.le_of_ble_eq_true rfl) ⟨_, rfl, rfl, _, k49_, F51_, h⟩
        · have h := h.2 c43_
          refine z_iconst (v := 1) O dX3_perform_94 (by decide) ?_
          refine z_goto (tgt := 99) O dX3_perform_95 (by decide) ?_
          refine z_callVi (As := [.null, .int x3, .int 1]) (st := []) O (s_S_letIn hfl h0 (fun _ h => by cases h) h) wy_X3_letIn wl_RX3_187 dX3_perform_99 rfl rfl (S_obj h0) ⟨by decide, rfl⟩ ⟨Nat.le_of_ble_eq_true rfl, Nat.le_of_ble_eq_true rfl⟩ (Nat.le_of_ble_eq_true rfl) ⟨Nat.le_of_ble_eq_true rfl, Nat.le_of_ble_eq_true rfl⟩ (fun r52_ z53_ G54_ hq55_ => ?_)
          obtain ⟨rfl, v56_, k57_, f58_, h⟩ := hq55_
          have F59_ : Fr b0 26 G G54_ := Fr.trans Fr.rf f58_
          exact z_iret O hret hlk dX3_perform_102 (Nat.le_of_ble_eq_true rfl) (Nat.le_of_ble_eq_true rfl) ⟨_, rfl, rfl, _, k57_, F59_, h⟩
      | some i41_ =>
        have hi42_ := hb40_ _ rfl
        have h := h.2 i41_ rfl
        refine z_iload_n O dX3_perform_87 rfl rfl ?_
        refine z_iload O dX3_perform_88 rfl ?_
        refine z_iconst (v := 1) O dX3_perform_90 (by decide) ?_
        refine z_icmp_ne (tgt := 98) O dX3_perform_91 (by decide) (fun c60_ => ?_) (fun c60_ => ?_)
        · have h := h.1 c60_
          refine z_iconst (v := 0) O dX3_perform_98 (by decide) ?_
          refine z_callVi (As := [.ref (b0 + 10 + 2 * i41_), .int x3, .int 0]) (st := []) O (s_S_letIn hfl h0 (fun _ h => by cases h; exact hi42_) h) wy_X3_letIn wl_RX3_187 dX3_perform_99 rfl rfl (S_obj h0) ⟨by decide, rfl⟩ ⟨Nat.le_of_ble_eq_true rfl, Nat.le_of_ble_eq_true rfl⟩ (Nat.le_of_ble_eq_true rfl) ⟨Nat.le_of_ble_eq_true rfl, Nat.le_of_ble_eq_true rfl⟩ (fun r61_ z62_ G63_ hq64_ => ?_)
          obtain ⟨rfl, v65_, k66_, f67_, h⟩ := hq64_
          have F68_ : Fr b0 26 G G63_ := Fr.trans Fr.rf f67_
          exact z_iret O hret hlk dX3_perform_102 (Nat.le_of_ble_eq_true rfl) (Nat.le_of_ble_eq_true rfl) ⟨_, rfl, rfl, _, k66_, F68_, h⟩
        · have h := h.2 c60_
          refine z_iconst (v := 1) O dX3_perform_94 (by decide) ?_
          refine z_goto (tgt := 99) O dX3_perform_95 (by decide) ?_
          refine z_callVi (As := [.ref (b0 + 10 + 2 * i41_), .int x3, .int 1]) (st := []) O (s_S_letIn hfl h0 (fun _ h => by cases h; exact hi42_) h) wy_X3_letIn wl_RX3_187 dX3_perform_99 rfl rfl (S_obj h0) ⟨by decide, rfl⟩ ⟨Nat.le_of_ble_eq_true rfl, Nat.le_of_ble_eq_true rfl⟩ (Nat.le_of_ble_eq_true rfl) ⟨Nat.le_of_ble_eq_true rfl, Nat.le_of_ble_eq_true rfl⟩ (fun r69_ z70_ G71_ hq72_ => ?_)
          obtain ⟨rfl, v73_, k74_, f75_, h⟩ := hq72_
          have F76_ : Fr b0 26 G G71_ := Fr.trans Fr.rf f75_
          exact z_iret O hret hlk dX3_perform_102 (Nat.le_of_ble_eq_true rfl) (Nat.le_of_ble_eq_true rfl) ⟨_, rfl, rfl, _, k74_, F76_, h⟩
    · have h := h.2 c34_
      rcases Decidable.em (x1 = 2) with c77_ | c77_
      · have h := h.1 c77_
        refine z_tsw (v := 2) (tgt := 103) O dX3_perform_1 c77_ (by decide) (by decide) rfl (by decide) ?_
        refine z_aload_n O dX3_perform_103 rfl rfl ?_
        refine z_aload_n O dX3_perform_104 rfl rfl ?_
        refine z_iload_n O dX3_perform_105 rfl rfl ?_
        refine z_callVa (As := [.int x2]) (st := [.ref b0]) O (s_S_reader hfl h0 h) wy_X3_reader wl_RX3_69 dX3_perform_106 rfl rfl (S_obj h0) ⟨by decide, rfl⟩ ⟨Nat.le_of_ble_eq_true rfl, Nat.le_of_ble_eq_true rfl⟩ (Nat.le_of_ble_eq_true rfl) ⟨Nat.le_of_ble_eq_true rfl, Nat.le_of_ble_eq_true rfl⟩ (fun r78_ z79_ G80_ hq81_ => ?_)
        obtain ⟨rfl, rfl, r82_, rfl, hb83_, h⟩ := hq81_
        cases r82_ with
        | none =>
          have h := h.1 rfl
          refine z_iload_n O dX3_perform_109 rfl rfl ?_
          refine z_callVi (As := [.null, .int x3]) (st := []) O (s_S_letRead hfl h0 (fun _ h => by cases h) h) wy_X3_letRead wl_RX3_191 dX3_perform_110 rfl rfl (S_obj h0) ⟨by decide, rfl⟩ ⟨Nat.le_of_ble_eq_true rfl, Nat.le_of_ble_eq_true rfl⟩ (Nat.le_of_ble_eq_true rfl) ⟨Nat.le_of_ble_eq_true rfl, Nat.le_of_ble_eq_true rfl⟩ (fun r86_ z87_ G88_ hq89_ => ?_)
          obtain ⟨rfl, v90_, k91_, f92_, h⟩ := hq89_
          have F93_ : Fr b0 26 G G88_ := Fr.trans Fr.rf f92_
          exact z_iret O hret hlk dX3_perform_113 (Nat.le_of_ble_eq_true rfl) (Nat.le_of_ble_eq_true rfl) ⟨_, rfl, rfl, _, k91_, F93_, h⟩
        | some i84_ =>
          have hi85_ := hb83_ _ rfl
          have h := h.2 i84_ rfl
          refine z_iload_n O dX3_perform_109 rfl rfl ?_
          refine z_callVi (As := [.ref (b0 + 10 + 2 * i84_), .int x3]) (st := []) O (s_S_letRead hfl h0 (fun _ h => by cases h; exact hi85_) h) wy_X3_letRead wl_RX3_191 dX3_perform_110 rfl rfl (S_obj h0) ⟨by decide, rfl⟩ ⟨Nat.le_of_ble_eq_true rfl, Nat.le_of_ble_eq_true rfl⟩ (Nat.le_of_ble_eq_true rfl) ⟨Nat.le_of_ble_eq_true rfl, Nat.le_of_ble_eq_true rfl⟩ (fun r94_ z95_ G96_ hq97_ => ?_)
          obtain ⟨rfl, v98_, k99_, f100_, h⟩ := hq97_
          have F101_ : Fr b0 26 G G96_ := Fr.trans Fr.rf f100_
          exact z_iret O hret hlk dX3_perform_113 (Nat.le_of_ble_eq_true rfl) (Nat.le_of_ble_eq_true rfl) ⟨_, rfl, rfl, _, k99_, F101_, h⟩
      · have h := h.2 c77_
        rcases Decidable.em (x1 = 3) with c102_ | c102_
        · have h := h.1 c102_
          refine z_tsw (v := 3) (tgt := 114) O dX3_perform_1 c102_ (by decide) (by decide) rfl (by decide) ?_
          refine z_aload_n O dX3_perform_114 rfl rfl ?_
          refine z_aload_n O dX3_perform_115 rfl rfl ?_
          refine z_iload_n O dX3_perform_116 rfl rfl ?_
          refine z_callVa (As := [.int x2]) (st := [.ref b0]) O (s_S_reader hfl h0 h) wy_X3_reader wl_RX3_69 dX3_perform_117 rfl rfl (S_obj h0) ⟨by decide, rfl⟩ ⟨Nat.le_of_ble_eq_true rfl, Nat.le_of_ble_eq_true rfl⟩ (Nat.le_of_ble_eq_true rfl) ⟨Nat.le_of_ble_eq_true rfl, Nat.le_of_ble_eq_true rfl⟩ (fun r103_ z104_ G105_ hq106_ => ?_)
          obtain ⟨rfl, rfl, r107_, rfl, hb108_, h⟩ := hq106_
          cases r107_ with
          | none =>
            have h := h.1 rfl
            refine z_callVi (As := [.null]) (st := []) O (s_S_letGo hfl h0 (fun _ h => by cases h) h) wy_X3_letGo wl_RX3_195 dX3_perform_120 rfl rfl (S_obj h0) ⟨by decide, rfl⟩ ⟨Nat.le_of_ble_eq_true rfl, Nat.le_of_ble_eq_true rfl⟩ (Nat.le_of_ble_eq_true rfl) ⟨Nat.le_of_ble_eq_true rfl, Nat.le_of_ble_eq_true rfl⟩ (fun r111_ z112_ G113_ hq114_ => ?_)
            obtain ⟨rfl, v115_, k116_, f117_, h⟩ := hq114_
            have F118_ : Fr b0 26 G G113_ := Fr.trans Fr.rf f117_
            exact z_iret O hret hlk dX3_perform_123 (Nat.le_of_ble_eq_true rfl) (Nat.le_of_ble_eq_true rfl) ⟨_, rfl, rfl, _, k116_, F118_, h⟩
          | some i109_ =>
            have hi110_ := hb108_ _ rfl
            have h := h.2 i109_ rfl
            refine z_callVi (As := [.ref (b0 + 10 + 2 * i109_)]) (st := []) O (s_S_letGo hfl h0 (fun _ h => by cases h; exact hi110_) h) wy_X3_letGo wl_RX3_195 dX3_perform_120 rfl rfl (S_obj h0) ⟨by decide, rfl⟩ ⟨Nat.le_of_ble_eq_true rfl, Nat.le_of_ble_eq_true rfl⟩ (Nat.le_of_ble_eq_true rfl) ⟨Nat.le_of_ble_eq_true rfl, Nat.le_of_ble_eq_true rfl⟩ (fun r119_ z120_ G121_ hq122_ => ?_)
            obtain ⟨rfl, v123_, k124_, f125_, h⟩ := hq122_
            have F126_ : Fr b0 26 G G121_ := Fr.trans Fr.rf f125_
            exact z_iret O hret hlk dX3_perform_123 (Nat.le_of_ble_eq_true rfl) (Nat.le_of_ble_eq_true rfl) ⟨_, rfl, rfl, _, k124_, F126_, h⟩
        · have h := h.2 c102_
          rcases Decidable.em (x1 = 4) with c127_ | c127_
          · have h := h.1 c127_
            refine z_tsw (v := 4) (tgt := 124) O dX3_perform_1 c127_ (by decide) (by decide) rfl (by decide) ?_
            refine z_aload_n O dX3_perform_124 rfl rfl ?_
            refine z_aload_n O dX3_perform_125 rfl rfl ?_
            refine z_iload_n O dX3_perform_126 rfl rfl ?_
            refine z_callVa (As := [.int x2]) (st := [.ref b0]) O (s_S_reader hfl h0 h) wy_X3_reader wl_RX3_69 dX3_perform_127 rfl rfl (S_obj h0) ⟨by decide, rfl⟩ ⟨Nat.le_of_ble_eq_true rfl, Nat.le_of_ble_eq_true rfl⟩ (Nat.le_of_ble_eq_true rfl) ⟨Nat.le_of_ble_eq_true rfl, Nat.le_of_ble_eq_true rfl⟩ (fun r128_ z129_ G130_ hq131_ => ?_)
            obtain ⟨rfl, rfl, r132_, rfl, hb133_, h⟩ := hq131_
            cases r132_ with
            | none =>
              have h := h.1 rfl
              refine z_iload_n O dX3_perform_130 rfl rfl ?_
              refine z_iconst (v := 1) O dX3_perform_131 (by decide) ?_
              refine z_icmp_ne (tgt := 139) O dX3_perform_132 (by decide) (fun c136_ => ?_) (fun c136_ => ?_)
              · have h := h.1 c136_
                refine z_iconst (v := 0) O dX3_perform_139 (by decide) ?_
                refine z_callVi (As := [.null, .int 0]) (st := []) O (s_S_changeHold hfl h0 (fun _ h => by cases h) h) wy_X3_changeHold wl_RX3_199 dX3_perform_140 rfl rfl (S_obj h0) ⟨by decide, rfl⟩ ⟨Nat.le_of_ble_eq_true rfl, Nat.le_of_ble_eq_true rfl⟩ (Nat.le_of_ble_eq_true rfl) ⟨Nat.le_of_ble_eq_true rfl, Nat.le_of_ble_eq_true rfl⟩ (fun r137_ z138_ G139_ hq140_ => ?_)
                obtain ⟨rfl, v141_, k142_, f143_, h⟩ := hq140_
                have F144_ : Fr b0 26 G G139_ := Fr.trans Fr.rf f143_
                exact z_iret O hret hlk dX3_perform_143 (Nat.le_of_ble_eq_true rfl) (Nat.le_of_ble_eq_true rfl) ⟨_, rfl, rfl, _, k142_, F144_, h⟩
              · have h := h.2 c136_
                refine z_iconst (v := 1) O dX3_perform_135 (by decide) ?_
                refine z_goto (tgt := 140) O dX3_perform_136 (by decide) ?_
                refine z_callVi (As := [.null, .int 1]) (st := []) O (s_S_changeHold hfl h0 (fun _ h => by cases h) h) wy_X3_changeHold wl_RX3_199 dX3_perform_140 rfl rfl (S_obj h0) ⟨by decide, rfl⟩ ⟨Nat.le_of_ble_eq_true rfl, Nat.le_of_ble_eq_true rfl⟩ (Nat.le_of_ble_eq_true rfl) ⟨Nat.le_of_ble_eq_true rfl, Nat.le_of_ble_eq_true rfl⟩ (fun r145_ z146_ G147_ hq148_ => ?_)
                obtain ⟨rfl, v149_, k150_, f151_, h⟩ := hq148_
                have F152_ : Fr b0 26 G G147_ := Fr.trans Fr.rf f151_
                exact z_iret O hret hlk dX3_perform_143 (Nat.le_of_ble_eq_true rfl) (Nat.le_of_ble_eq_true rfl) ⟨_, rfl, rfl, _, k150_, F152_, h⟩
            | some i134_ =>
              have hi135_ := hb133_ _ rfl
              have h := h.2 i134_ rfl
              refine z_iload_n O dX3_perform_130 rfl rfl ?_
              refine z_iconst (v := 1) O dX3_perform_131 (by decide) ?_
              refine z_icmp_ne (tgt := 139) O dX3_perform_132 (by decide) (fun c153_ => ?_) (fun c153_ => ?_)
              · have h := h.1 c153_
                refine z_iconst (v := 0) O dX3_perform_139 (by decide) ?_
                refine z_callVi (As := [.ref (b0 + 10 + 2 * i134_), .int 0]) (st := []) O (s_S_changeHold hfl h0 (fun _ h => by cases h; exact hi135_) h) wy_X3_changeHold wl_RX3_199 dX3_perform_140 rfl rfl (S_obj h0) ⟨by decide, rfl⟩ ⟨Nat.le_of_ble_eq_true rfl, Nat.le_of_ble_eq_true rfl⟩ (Nat.le_of_ble_eq_true rfl) ⟨Nat.le_of_ble_eq_true rfl, Nat.le_of_ble_eq_true rfl⟩ (fun r154_ z155_ G156_ hq157_ => ?_)
                obtain ⟨rfl, v158_, k159_, f160_, h⟩ := hq157_
                have F161_ : Fr b0 26 G G156_ := Fr.trans Fr.rf f160_
                exact z_iret O hret hlk dX3_perform_143 (Nat.le_of_ble_eq_true rfl) (Nat.le_of_ble_eq_true rfl) ⟨_, rfl, rfl, _, k159_, F161_, h⟩
              · have h := h.2 c153_
                refine z_iconst (v := 1) O dX3_perform_135 (by decide) ?_
                refine z_goto (tgt := 140) O dX3_perform_136 (by decide) ?_
                refine z_callVi (As := [.ref (b0 + 10 + 2 * i134_), .int 1]) (st := []) O (s_S_changeHold hfl h0 (fun _ h => by cases h; exact hi135_) h) wy_X3_changeHold wl_RX3_199 dX3_perform_140 rfl rfl (S_obj h0) ⟨by decide, rfl⟩ ⟨Nat.le_of_ble_eq_true rfl, Nat.le_of_ble_eq_true rfl⟩ (Nat.le_of_ble_eq_true rfl) ⟨Nat.le_of_ble_eq_true rfl, Nat.le_of_ble_eq_true rfl⟩ (fun r162_ z163_ G164_ hq165_ => ?_)
                obtain ⟨rfl, v166_, k167_, f168_, h⟩ := hq165_
                have F169_ : Fr b0 26 G G164_ := Fr.trans Fr.rf f168_
                exact z_iret O hret hlk dX3_perform_143 (Nat.le_of_ble_eq_true rfl) (Nat.le_of_ble_eq_true rfl) ⟨_, rfl, rfl, _, k167_, F169_, h⟩
          · have h := h.2 c127_
            rcases Decidable.em (x1 = 5) with c170_ | c170_
            · have h := h.1 c170_
              refine z_tsw (v := 5) (tgt := 144) O dX3_perform_1 c170_ (by decide) (by decide) rfl (by decide) ?_
              refine z_aload_n O dX3_perform_144 rfl rfl ?_
              refine z_iload_n O dX3_perform_145 rfl rfl ?_
              refine z_iload_n O dX3_perform_146 rfl rfl ?_
              refine z_callVi (As := [.int x2, .int x3]) (st := []) O (s_S_change hfl h0 h) wy_X3_change wl_RX3_203 dX3_perform_147 rfl rfl (S_obj h0) ⟨by decide, rfl⟩ ⟨Nat.le_of_ble_eq_true rfl, Nat.le_of_ble_eq_true rfl⟩ (Nat.le_of_ble_eq_true rfl) ⟨Nat.le_of_ble_eq_true rfl, Nat.le_of_ble_eq_true rfl⟩ (fun r171_ z172_ G173_ hq174_ => ?_)
              obtain ⟨rfl, v175_, k176_, f177_, h⟩ := hq174_
              have F178_ : Fr b0 26 G G173_ := Fr.trans Fr.rf f177_
              exact z_iret O hret hlk dX3_perform_150 (Nat.le_of_ble_eq_true rfl) (Nat.le_of_ble_eq_true rfl) ⟨_, rfl, rfl, _, k176_, F178_, h⟩
            · have h := h.2 c170_
              refine z_tswd (tgt := 151) O dX3_perform_1 (zsw_out (fun j h1 h2 => by rcases (show j = 0 ∨ j = 1 ∨ j = 2 ∨ j = 3 ∨ j = 4 ∨ j = 5 by omega) with rfl | rfl | rfl | rfl | rfl | rfl; exact c1_; exact c34_; exact c77_; exact c102_; exact c127_; exact c170_)) (by decide) ?_
              refine z_aload_n O dX3_perform_151 rfl rfl ?_
              refine z_iload_n O dX3_perform_152 rfl rfl ?_
              refine z_callVi (As := [.int x2]) (st := []) O (s_S_passTime hfl h0 h) wy_X3_passTime wl_RX3_206 dX3_perform_153 rfl rfl (S_obj h0) ⟨by decide, rfl⟩ ⟨Nat.le_of_ble_eq_true rfl, Nat.le_of_ble_eq_true rfl⟩ (Nat.le_of_ble_eq_true rfl) ⟨Nat.le_of_ble_eq_true rfl, Nat.le_of_ble_eq_true rfl⟩ (fun r179_ z180_ G181_ hq182_ => ?_)
              obtain ⟨rfl, v183_, k184_, f185_, h⟩ := hq182_
              have F186_ : Fr b0 26 G G181_ := Fr.trans Fr.rf f185_
              exact z_iret O hret hlk dX3_perform_156 (Nat.le_of_ble_eq_true rfl) (Nat.le_of_ble_eq_true rfl) ⟨_, rfl, rfl, _, k184_, F186_, h⟩

theorem dX3_attempt_0 : decode cX3_attempt 0 = .ok (.aload_n 0, 1) := by decide +kernel
theorem dX3_attempt_1 : decode cX3_attempt 1 = .ok (.iload_n 1, 1) := by decide +kernel
theorem dX3_attempt_2 : decode cX3_attempt 2 = .ok (.iload_n 2, 1) := by decide +kernel
theorem dX3_attempt_3 : decode cX3_attempt 3 = .ok (.iload_n 3, 1) := by decide +kernel
theorem dX3_attempt_4 : decode cX3_attempt 4 = .ok (.iload 4, 2) := by decide +kernel
theorem dX3_attempt_6 : decode cX3_attempt 6 = .ok (.invokevirtual 173, 3) := by decide +kernel
theorem dX3_attempt_9 : decode cX3_attempt 9 = .ok (.ifCond .eq 5, 3) := by decide +kernel
theorem dX3_attempt_12 : decode cX3_attempt 12 = .ok (.iconst 0, 1) := by decide +kernel
theorem dX3_attempt_13 : decode cX3_attempt 13 = .ok (.ireturn, 1) := by decide +kernel
theorem dX3_attempt_14 : decode cX3_attempt 14 = .ok (.aload_n 0, 1) := by decide +kernel
theorem dX3_attempt_15 : decode cX3_attempt 15 = .ok (.iload_n 1, 1) := by decide +kernel
theorem dX3_attempt_16 : decode cX3_attempt 16 = .ok (.iload_n 2, 1) := by decide +kernel
theorem dX3_attempt_17 : decode cX3_attempt 17 = .ok (.iload_n 3, 1) := by decide +kernel
theorem dX3_attempt_18 : decode cX3_attempt 18 = .ok (.iload 4, 2) := by decide +kernel
theorem dX3_attempt_20 : decode cX3_attempt 20 = .ok (.invokevirtual 177, 3) := by decide +kernel
theorem dX3_attempt_23 : decode cX3_attempt 23 = .ok (.pop, 1) := by decide +kernel
theorem dX3_attempt_24 : decode cX3_attempt 24 = .ok (.iconst 1, 1) := by decide +kernel
theorem dX3_attempt_25 : decode cX3_attempt 25 = .ok (.ireturn, 1) := by decide +kernel
def P_S_attempt (x1 : Int32) (x2 : Int32) (x3 : Int32) (x4 : Int32) (v0 : ST) (Q : Int32 → ST → Prop) : Prop := P_S_faultOf x1 x2 x3 x4 v0 (fun r1_ => (((r1_ = 0 → P_S_perform x1 x2 x3 x4 v0 (fun r6_ v10_ => (Q 1 v10_))) ∧ (¬ r1_ = 0 → Q 0 v0))))
set_option maxRecDepth 100000 in
theorem s_S_attempt {l : Launch} {D : zD} {B : Nat} {sa : Nat → Nat} (hfl : l.stackTraces = false) {z : Nat} {G : zG} {b0 : Nat} {x1 : Int32} {x2 : Int32} {x3 : Int32} {x4 : Int32} {v0 : ST} {Q : Int32 → ST → Prop} (h0 : SA b0 v0 G) (h : P_S_attempt x1 x2 x3 x4 v0 Q) : zSp l D B sa yX3_attempt cX3_attempt 5 (some .boolean) 5 141 0 0 [.ref b0, .int x1, .int x2, .int x3, .int x4] z G (zRi fun r z' G' => z = z' ∧ ∃ w, SA b0 w G' ∧ Fr b0 26 G G' ∧ Q r w) := by
  unfold P_S_attempt at h
  refine z_ofW (by decide +kernel) hfl [some (.ref b0), some (.int x1), some (.int x2), some (.int x3), some (.int x4)] rfl (Nat.le_of_ble_eq_true rfl) (fun p e s m args below meth c O hret hlk hnm => ?_)
  have O : zO p l s m args c D B sa 5 cX3_attempt RX3 := O
  refine z_aload_n O dX3_attempt_0 rfl rfl ?_
  refine z_iload_n O dX3_attempt_1 rfl rfl ?_
  refine z_iload_n O dX3_attempt_2 rfl rfl ?_
  refine z_iload_n O dX3_attempt_3 rfl rfl ?_
  refine z_iload O dX3_attempt_4 rfl ?_
  refine z_callVi (As := [.int x1, .int x2, .int x3, .int x4]) (st := []) O (s_S_faultOf hfl h0 h) wy_X3_faultOf wl_RX3_173 dX3_attempt_6 rfl rfl (S_obj h0) ⟨by decide, rfl⟩ ⟨Nat.le_of_ble_eq_true rfl, Nat.le_of_ble_eq_true rfl⟩ (Nat.le_of_ble_eq_true rfl) ⟨Nat.le_of_ble_eq_true rfl, Nat.le_of_ble_eq_true rfl⟩ (fun r1_ z2_ G3_ hq4_ => ?_)
  obtain ⟨rfl, rfl, h⟩ := hq4_
  refine z_if_eq (tgt := 14) O dX3_attempt_9 (by decide) (fun c5_ => ?_) (fun c5_ => ?_)
  · have h := h.1 c5_
    refine z_aload_n O dX3_attempt_14 rfl rfl ?_
    refine z_iload_n O dX3_attempt_15 rfl rfl ?_
    refine z_iload_n O dX3_attempt_16 rfl rfl ?_
    refine z_iload_n O dX3_attempt_17 rfl rfl ?_
    refine z_iload O dX3_attempt_18 rfl ?_
    refine z_callVi (As := [.int x1, .int x2, .int x3, .int x4]) (st := []) O (s_S_perform hfl h0 h) wy_X3_perform wl_RX3_177 dX3_attempt_20 rfl rfl (S_obj h0) ⟨by decide, rfl⟩ ⟨Nat.le_of_ble_eq_true rfl, Nat.le_of_ble_eq_true rfl⟩ (Nat.le_of_ble_eq_true rfl) ⟨Nat.le_of_ble_eq_true rfl, Nat.le_of_ble_eq_true rfl⟩ (fun r6_ z7_ G8_ hq9_ => ?_)
    obtain ⟨rfl, v10_, k11_, f12_, h⟩ := hq9_
    have F13_ : Fr b0 26 G G8_ := Fr.trans Fr.rf f12_
    refine z_pop O dX3_attempt_23 rfl ?_
    refine z_iconst (v := 1) O dX3_attempt_24 (by decide) ?_
    exact z_zret O hret rfl hlk dX3_attempt_25 (Nat.le_of_ble_eq_true rfl) (Nat.le_of_ble_eq_true rfl) ⟨_, rfl, rfl, _, k11_, F13_, h⟩
  · have h := h.2 c5_
    refine z_iconst (v := 0) O dX3_attempt_12 (by decide) ?_
    exact z_zret O hret rfl hlk dX3_attempt_13 (Nat.le_of_ble_eq_true rfl) (Nat.le_of_ble_eq_true rfl) ⟨_, rfl, rfl, _, h0, Fr.rf, h⟩

theorem dX3_getsFurther_0 : decode cX3_getsFurther 0 = .ok (.aload_n 0, 1) := by decide +kernel
theorem dX3_getsFurther_1 : decode cX3_getsFurther 1 = .ok (.iconst 2, 1) := by decide +kernel
theorem dX3_getsFurther_2 : decode cX3_getsFurther 2 = .ok (.iload_n 1, 1) := by decide +kernel
theorem dX3_getsFurther_3 : decode cX3_getsFurther 3 = .ok (.iload_n 2, 1) := by decide +kernel
theorem dX3_getsFurther_4 : decode cX3_getsFurther 4 = .ok (.iconst 0, 1) := by decide +kernel
theorem dX3_getsFurther_5 : decode cX3_getsFurther 5 = .ok (.invokevirtual 173, 3) := by decide +kernel
theorem dX3_getsFurther_8 : decode cX3_getsFurther 8 = .ok (.ifCond .ne 18, 3) := by decide +kernel
theorem dX3_getsFurther_11 : decode cX3_getsFurther 11 = .ok (.aload_n 0, 1) := by decide +kernel
theorem dX3_getsFurther_12 : decode cX3_getsFurther 12 = .ok (.iconst 2, 1) := by decide +kernel
theorem dX3_getsFurther_13 : decode cX3_getsFurther 13 = .ok (.iload_n 1, 1) := by decide +kernel
theorem dX3_getsFurther_14 : decode cX3_getsFurther 14 = .ok (.iload_n 2, 1) := by decide +kernel
theorem dX3_getsFurther_15 : decode cX3_getsFurther 15 = .ok (.iconst 0, 1) := by decide +kernel
theorem dX3_getsFurther_16 : decode cX3_getsFurther 16 = .ok (.invokevirtual 177, 3) := by decide +kernel
theorem dX3_getsFurther_19 : decode cX3_getsFurther 19 = .ok (.ifCond .eq 7, 3) := by decide +kernel
theorem dX3_getsFurther_22 : decode cX3_getsFurther 22 = .ok (.iconst 1, 1) := by decide +kernel
theorem dX3_getsFurther_23 : decode cX3_getsFurther 23 = .ok (.goto 4, 3) := by decide +kernel
theorem dX3_getsFurther_26 : decode cX3_getsFurther 26 = .ok (.iconst 0, 1) := by decide +kernel
theorem dX3_getsFurther_27 : decode cX3_getsFurther 27 = .ok (.ireturn, 1) := by decide +kernel
def P_S_getsFurther (x1 : Int32) (x2 : Int32) (v0 : ST) (Q : Int32 → ST → Prop) : Prop := P_S_faultOf 2 x1 x2 0 v0 (fun r1_ => (((¬ r1_ = 0 → Q 0 v0) ∧ (r1_ = 0 → P_S_perform 2 x1 x2 0 v0 (fun r6_ v10_ => (((r6_ = 0 → Q 0 v10_) ∧ (¬ r6_ = 0 → Q 1 v10_))))))))
set_option maxRecDepth 100000 in
theorem s_S_getsFurther {l : Launch} {D : zD} {B : Nat} {sa : Nat → Nat} (hfl : l.stackTraces = false) {z : Nat} {G : zG} {b0 : Nat} {x1 : Int32} {x2 : Int32} {v0 : ST} {Q : Int32 → ST → Prop} (h0 : SA b0 v0 G) (h : P_S_getsFurther x1 x2 v0 Q) : zSp l D B sa yX3_getsFurther cX3_getsFurther 3 (some .boolean) 5 141 0 0 [.ref b0, .int x1, .int x2] z G (zRi fun r z' G' => z = z' ∧ ∃ w, SA b0 w G' ∧ Fr b0 26 G G' ∧ Q r w) := by
  unfold P_S_getsFurther at h
  refine z_ofW (by decide +kernel) hfl [some (.ref b0), some (.int x1), some (.int x2)] rfl (Nat.le_of_ble_eq_true rfl) (fun p e s m args below meth c O hret hlk hnm => ?_)
  have O : zO p l s m args c D B sa 3 cX3_getsFurther RX3 := O
  refine z_aload_n O dX3_getsFurther_0 rfl rfl ?_
  refine z_iconst (v := 2) O dX3_getsFurther_1 (by decide) ?_
  refine z_iload_n O dX3_getsFurther_2 rfl rfl ?_
  refine z_iload_n O dX3_getsFurther_3 rfl rfl ?_
  refine z_iconst (v := 0) O dX3_getsFurther_4 (by decide) ?_
  refine z_callVi (As := [.int 2, .int x1, .int x2, .int 0]) (st := []) O (s_S_faultOf hfl h0 h) wy_X3_faultOf wl_RX3_173 dX3_getsFurther_5 rfl rfl (S_obj h0) ⟨by decide, rfl⟩ ⟨Nat.le_of_ble_eq_true rfl, Nat.le_of_ble_eq_true rfl⟩ (Nat.le_of_ble_eq_true rfl) ⟨Nat.le_of_ble_eq_true rfl, Nat.le_of_ble_eq_true rfl⟩ (fun r1_ z2_ G3_ hq4_ => ?_)
  obtain ⟨rfl, rfl, h⟩ := hq4_
  refine z_if_ne (tgt := 26) O dX3_getsFurther_8 (by decide) (fun c5_ => ?_) (fun c5_ => ?_)
  · have h := h.1 c5_
    refine z_iconst (v := 0) O dX3_getsFurther_26 (by decide) ?_
    exact z_zret O hret rfl hlk dX3_getsFurther_27 (Nat.le_of_ble_eq_true rfl) (Nat.le_of_ble_eq_true rfl) ⟨_, rfl, rfl, _, h0, Fr.rf, h⟩
  · have h := h.2 c5_
    refine z_aload_n O dX3_getsFurther_11 rfl rfl ?_
    refine z_iconst (v := 2) O dX3_getsFurther_12 (by decide) ?_
    refine z_iload_n O dX3_getsFurther_13 rfl rfl ?_
    refine z_iload_n O dX3_getsFurther_14 rfl rfl ?_
    refine z_iconst (v := 0) O dX3_getsFurther_15 (by decide) ?_
    refine z_callVi (As := [.int 2, .int x1, .int x2, .int 0]) (st := []) O (s_S_perform hfl h0 h) wy_X3_perform wl_RX3_177 dX3_getsFurther_16 rfl rfl (S_obj h0) ⟨by decide, rfl⟩ ⟨Nat.le_of_ble_eq_true rfl, Nat.le_of_ble_eq_true rfl⟩ (Nat.le_of_ble_eq_true rfl) ⟨Nat.le_of_ble_eq_true rfl, Nat.le_of_ble_eq_true rfl⟩ (fun r6_ z7_ G8_ hq9_ => ?_)
    obtain ⟨rfl, v10_, k11_, f12_, h⟩ := hq9_
    have F13_ : Fr b0 26 G G8_ := Fr.trans Fr.rf f12_
    refine z_if_eq (tgt := 26) O dX3_getsFurther_19 (by decide) (fun c14_ => ?_) (fun c14_ => ?_)
    · have h := h.1 c14_
      refine z_iconst (v := 0) O dX3_getsFurther_26 (by decide) ?_
      exact z_zret O hret rfl hlk dX3_getsFurther_27 (Nat.le_of_ble_eq_true rfl) (Nat.le_of_ble_eq_true rfl) ⟨_, rfl, rfl, _, k11_, F13_, h⟩
    · have h := h.2 c14_
      refine z_iconst (v := 1) O dX3_getsFurther_22 (by decide) ?_
      refine z_goto (tgt := 27) O dX3_getsFurther_23 (by decide) ?_
      exact z_zret O hret rfl hlk dX3_getsFurther_27 (Nat.le_of_ble_eq_true rfl) (Nat.le_of_ble_eq_true rfl) ⟨_, rfl, rfl, _, k11_, F13_, h⟩

theorem dX4_isFull_0 : decode cX4_isFull 0 = .ok (.aload_n 0, 1) := by decide +kernel
theorem dX4_isFull_1 : decode cX4_isFull 1 = .ok (.getfield 15, 3) := by decide +kernel
theorem dX4_isFull_4 : decode cX4_isFull 4 = .ok (.bipush 120, 2) := by decide +kernel
theorem dX4_isFull_6 : decode cX4_isFull 6 = .ok (.if_icmp .lt 7, 3) := by decide +kernel
theorem dX4_isFull_9 : decode cX4_isFull 9 = .ok (.iconst 1, 1) := by decide +kernel
theorem dX4_isFull_10 : decode cX4_isFull 10 = .ok (.goto 4, 3) := by decide +kernel
theorem dX4_isFull_13 : decode cX4_isFull 13 = .ok (.iconst 0, 1) := by decide +kernel
theorem dX4_isFull_14 : decode cX4_isFull 14 = .ok (.ireturn, 1) := by decide +kernel
def P_X_isFull (v0 : XT) (Q : Int32 → Prop) : Prop := (((X_length v0) < 120 → Q 0) ∧ (¬ (X_length v0) < 120 → Q 1))
set_option maxRecDepth 100000 in
theorem s_X_isFull {l : Launch} {D : zD} {B : Nat} {sa : Nat → Nat} (hfl : l.stackTraces = false) {z : Nat} {G : zG} {b0 : Nat} {v0 : XT} {Q : Int32 → Prop} (h0 : XA b0 v0 G) (h : P_X_isFull v0 Q) : zSp l D B sa yX4_isFull cX4_isFull 1 (some .boolean) 0 0 0 0 [.ref b0] z G (zRi fun r z' G' => z = z' ∧ G = G' ∧ Q r) := by
  unfold P_X_isFull at h
  refine z_ofW (by decide +kernel) hfl [some (.ref b0)] rfl (Nat.le_of_ble_eq_true rfl) (fun p e s m args below meth c O hret hlk hnm => ?_)
  have O : zO p l s m args c D B sa 1 cX4_isFull RX4 := O
  refine z_aload_n O dX4_isFull_0 rfl rfl ?_
  refine z_get (v := .int (X_length v0)) O wf_RX4_15 dX4_isFull_1 (X_obj h0) rfl ?_
  refine z_bipush (v := 120) O dX4_isFull_4 (by decide) ?_
  refine z_icmp_lt (tgt := 13) O dX4_isFull_6 (by decide) (fun c1_ => ?_) (fun c1_ => ?_)
  · have h := h.1 c1_
    refine z_iconst (v := 0) O dX4_isFull_13 (by decide) ?_
    exact z_zret O hret rfl hlk dX4_isFull_14 (Nat.le_of_ble_eq_true rfl) (Nat.le_of_ble_eq_true rfl) ⟨_, rfl, rfl, rfl, h⟩
  · have h := h.2 c1_
    refine z_iconst (v := 1) O dX4_isFull_9 (by decide) ?_
    refine z_goto (tgt := 14) O dX4_isFull_10 (by decide) ?_
    exact z_zret O hret rfl hlk dX4_isFull_14 (Nat.le_of_ble_eq_true rfl) (Nat.le_of_ble_eq_true rfl) ⟨_, rfl, rfl, rfl, h⟩

theorem dX4_add_0 : decode cX4_add 0 = .ok (.aload_n 0, 1) := by decide +kernel
theorem dX4_add_1 : decode cX4_add 1 = .ok (.getfield 15, 3) := by decide +kernel
theorem dX4_add_4 : decode cX4_add 4 = .ok (.ifCond .lt 32, 3) := by decide +kernel
theorem dX4_add_7 : decode cX4_add 7 = .ok (.aload_n 0, 1) := by decide +kernel
theorem dX4_add_8 : decode cX4_add 8 = .ok (.getfield 15, 3) := by decide +kernel
theorem dX4_add_11 : decode cX4_add 11 = .ok (.bipush 120, 2) := by decide +kernel
theorem dX4_add_13 : decode cX4_add 13 = .ok (.if_icmp .ge 23, 3) := by decide +kernel
theorem dX4_add_16 : decode cX4_add 16 = .ok (.aload_n 0, 1) := by decide +kernel
theorem dX4_add_17 : decode cX4_add 17 = .ok (.getfield 9, 3) := by decide +kernel
theorem dX4_add_20 : decode cX4_add 20 = .ok (.aload_n 0, 1) := by decide +kernel
theorem dX4_add_21 : decode cX4_add 21 = .ok (.getfield 15, 3) := by decide +kernel
theorem dX4_add_24 : decode cX4_add 24 = .ok (.iload_n 1, 1) := by decide +kernel
theorem dX4_add_25 : decode cX4_add 25 = .ok (.castore, 1) := by decide +kernel
theorem dX4_add_26 : decode cX4_add 26 = .ok (.aload_n 0, 1) := by decide +kernel
theorem dX4_add_27 : decode cX4_add 27 = .ok (.dup, 1) := by decide +kernel
theorem dX4_add_28 : decode cX4_add 28 = .ok (.getfield 15, 3) := by decide +kernel
theorem dX4_add_31 : decode cX4_add 31 = .ok (.iconst 1, 1) := by decide +kernel
theorem dX4_add_32 : decode cX4_add 32 = .ok (.iadd, 1) := by decide +kernel
theorem dX4_add_33 : decode cX4_add 33 = .ok (.putfield 15, 3) := by decide +kernel
theorem dX4_add_36 : decode cX4_add 36 = .ok (.aload_n 0, 1) := by decide +kernel
theorem dX4_add_37 : decode cX4_add 37 = .ok (.getfield 15, 3) := by decide +kernel
theorem dX4_add_40 : decode cX4_add 40 = .ok (.ireturn, 1) := by decide +kernel
def P_X_add (x1 : Int32) (v0 : XT) (Q : Int32 → XT → Prop) : Prop := (((X_length v0) < 0 → Q (X_length v0) v0) ∧ (¬ (X_length v0) < 0 → ((120 ≤ (X_length v0) → Q (X_length v0) v0) ∧ (¬ 120 ≤ (X_length v0) → vp_in (X_length v0) 120 ∧ (zc x1 ∧ (∀ v11_, v11_ = (X_set_signs v0 (upd (X_signs v0) (Int32.toNatClampNeg (X_length v0)) x1)) → (∀ v19_, v19_ = (X_set_length v11_ ((X_length v11_) + 1)) → (Q (X_length v19_) v19_))))))))
set_option maxRecDepth 100000 in
theorem s_X_add {l : Launch} {D : zD} {B : Nat} {sa : Nat → Nat} (hfl : l.stackTraces = false) {z : Nat} {G : zG} {b0 : Nat} {x1 : Int32} {v0 : XT} {Q : Int32 → XT → Prop} (h0 : XA b0 v0 G) (h : P_X_add x1 v0 Q) : zSp l D B sa yX4_add cX4_add 2 (some .int) 0 0 0 0 [.ref b0, .int x1] z G (zRi fun r z' G' => z = z' ∧ ∃ w, XA b0 w G' ∧ Fr b0 2 G G' ∧ Q r w) := by
  unfold P_X_add at h
  refine z_ofW (by decide +kernel) hfl [some (.ref b0), some (.int x1)] rfl (Nat.le_of_ble_eq_true rfl) (fun p e s m args below meth c O hret hlk hnm => ?_)
  have O : zO p l s m args c D B sa 2 cX4_add RX4 := O
  refine z_aload_n O dX4_add_0 rfl rfl ?_
  refine z_get (v := .int (X_length v0)) O wf_RX4_15 dX4_add_1 (X_obj h0) rfl ?_
  refine z_if_lt (tgt := 36) O dX4_add_4 (by decide) (fun c1_ => ?_) (fun c1_ => ?_)
  · have h := h.1 c1_
    refine z_aload_n O dX4_add_36 rfl rfl ?_
    refine z_get (v := .int (X_length v0)) O wf_RX4_15 dX4_add_37 (X_obj h0) rfl ?_
    exact z_iret O hret hlk dX4_add_40 (Nat.le_of_ble_eq_true rfl) (Nat.le_of_ble_eq_true rfl) ⟨_, rfl, rfl, _, h0, Fr.rf, h⟩
  · have h := h.2 c1_
    refine z_aload_n O dX4_add_7 rfl rfl ?_
    refine z_get (v := .int (X_length v0)) O wf_RX4_15 dX4_add_8 (X_obj h0) rfl ?_
    refine z_bipush (v := 120) O dX4_add_11 (by decide) ?_
    refine z_icmp_ge (tgt := 36) O dX4_add_13 (by decide) (fun c2_ => ?_) (fun c2_ => ?_)
    · have h := h.1 c2_
      refine z_aload_n O dX4_add_36 rfl rfl ?_
      refine z_get (v := .int (X_length v0)) O wf_RX4_15 dX4_add_37 (X_obj h0) rfl ?_
      exact z_iret O hret hlk dX4_add_40 (Nat.le_of_ble_eq_true rfl) (Nat.le_of_ble_eq_true rfl) ⟨_, rfl, rfl, _, h0, Fr.rf, h⟩
    · have h := h.2 c2_
      refine z_aload_n O dX4_add_16 rfl rfl ?_
      refine z_get (v := .ref (b0 + 1)) O wf_RX4_9 dX4_add_17 (X_obj h0) rfl ?_
      refine z_aload_n O dX4_add_20 rfl rfl ?_
      refine z_get (v := .int (X_length v0)) O wf_RX4_15 dX4_add_21 (X_obj h0) rfl ?_
      refine z_iload_n O dX4_add_24 rfl rfl ?_
      obtain ⟨q3_, h⟩ := h
      obtain ⟨q4_, h⟩ := h
      refine y_cast O dX4_add_25 (X_signs_of h0) q3_ q4_ (fun G5_ hw6_ => ?_)
      have k7_ := hw6_.1
      have f8_ := hw6_.fr
      have k9_ := X_put_signs h0 k7_ f8_
      have f10_ : Fr b0 2 G G5_ := Fr.mono f8_ (by omega) (by omega)
      obtain ⟨v11_, ev11_⟩ : ∃ w, w = (X_set_signs v0 (upd (X_signs v0) (Int32.toNatClampNeg (X_length v0)) x1)) := ⟨_, rfl⟩
      have h := h v11_ ev11_
      have k12_ : XA b0 v11_ G5_ := by rw [ev11_]; exact k9_
      have F13_ : Fr b0 2 G G5_ := Fr.trans Fr.rf f10_
      refine z_aload_n O dX4_add_26 rfl rfl ?_
      refine z_dup O dX4_add_27 rfl ?_
      refine z_get (v := .int (X_length v11_)) O wf_RX4_15 dX4_add_28 (X_obj k12_) rfl ?_
      refine z_iconst (v := 1) O dX4_add_31 (by decide) ?_
      refine z_iadd O dX4_add_32 ?_
      refine y_put O wp_RX4_15 dX4_add_33 (X_obj k12_) rfl rfl (fun G14_ hw15_ => ?_)
      have k16_ := X_w_length k12_ hw15_
      have f17_ := hw15_.fr
      have f18_ : Fr b0 2 G5_ G14_ := Fr.mono f17_ (by omega) (by omega)
      obtain ⟨v19_, ev19_⟩ : ∃ w, w = (X_set_length v11_ ((X_length v11_) + 1)) := ⟨_, rfl⟩
      have h := h v19_ ev19_
      have k20_ : XA b0 v19_ G14_ := by rw [ev19_]; exact k16_
      have F21_ : Fr b0 2 G G14_ := Fr.trans F13_ f18_
      refine z_aload_n O dX4_add_36 rfl rfl ?_
      refine z_get (v := .int (X_length v19_)) O wf_RX4_15 dX4_add_37 (X_obj k20_) rfl ?_
      exact z_iret O hret hlk dX4_add_40 (Nat.le_of_ble_eq_true rfl) (Nat.le_of_ble_eq_true rfl) ⟨_, rfl, rfl, _, k20_, F21_, h⟩

theorem dX4_empty_0 : decode cX4_empty 0 = .ok (.aload_n 0, 1) := by decide +kernel
theorem dX4_empty_1 : decode cX4_empty 1 = .ok (.getfield 15, 3) := by decide +kernel
theorem dX4_empty_4 : decode cX4_empty 4 = .ok (.istore_n 1, 1) := by decide +kernel
theorem dX4_empty_5 : decode cX4_empty 5 = .ok (.aload_n 0, 1) := by decide +kernel
theorem dX4_empty_6 : decode cX4_empty 6 = .ok (.iconst 0, 1) := by decide +kernel
theorem dX4_empty_7 : decode cX4_empty 7 = .ok (.putfield 15, 3) := by decide +kernel
theorem dX4_empty_10 : decode cX4_empty 10 = .ok (.iload_n 1, 1) := by decide +kernel
theorem dX4_empty_11 : decode cX4_empty 11 = .ok (.ireturn, 1) := by decide +kernel
def P_X_empty (v0 : XT) (Q : Int32 → XT → Prop) : Prop := ∀ v6_, v6_ = (X_set_length v0 0) → (Q (X_length v0) v6_)
set_option maxRecDepth 100000 in
theorem s_X_empty {l : Launch} {D : zD} {B : Nat} {sa : Nat → Nat} (hfl : l.stackTraces = false) {z : Nat} {G : zG} {b0 : Nat} {v0 : XT} {Q : Int32 → XT → Prop} (h0 : XA b0 v0 G) (h : P_X_empty v0 Q) : zSp l D B sa yX4_empty cX4_empty 2 (some .int) 0 0 0 0 [.ref b0] z G (zRi fun r z' G' => z = z' ∧ ∃ w, XA b0 w G' ∧ Fr b0 2 G G' ∧ Q r w) := by
  unfold P_X_empty at h
  refine z_ofW (by decide +kernel) hfl [some (.ref b0), none] rfl (Nat.le_of_ble_eq_true rfl) (fun p e s m args below meth c O hret hlk hnm => ?_)
  have O : zO p l s m args c D B sa 2 cX4_empty RX4 := O
  refine z_aload_n O dX4_empty_0 rfl rfl ?_
  refine z_get (v := .int (X_length v0)) O wf_RX4_15 dX4_empty_1 (X_obj h0) rfl ?_
  refine z_istore_n (L' := [some (.ref b0), some (.int (X_length v0))]) O dX4_empty_4 rfl (by decide) rfl ?_
  refine z_aload_n O dX4_empty_5 rfl rfl ?_
  refine z_iconst (v := 0) O dX4_empty_6 (by decide) ?_
  refine y_put O wp_RX4_15 dX4_empty_7 (X_obj h0) rfl rfl (fun G1_ hw2_ => ?_)
  have k3_ := X_w_length h0 hw2_
  have f4_ := hw2_.fr
  have f5_ : Fr b0 2 G G1_ := Fr.mono f4_ (by omega) (by omega)
  obtain ⟨v6_, ev6_⟩ : ∃ w, w = (X_set_length v0 0) := ⟨_, rfl⟩
  have h := h v6_ ev6_
  have k7_ : XA b0 v6_ G1_ := by rw [ev6_]; exact k3_
  have F8_ : Fr b0 2 G G1_ := Fr.trans Fr.rf f5_
  refine z_iload_n O dX4_empty_10 rfl rfl ?_
  exact z_iret O hret hlk dX4_empty_11 (Nat.le_of_ble_eq_true rfl) (Nat.le_of_ble_eq_true rfl) ⟨_, rfl, rfl, _, k7_, F8_, h⟩

theorem dX4_sign_0 : decode cX4_sign 0 = .ok (.aload_n 0, 1) := by decide +kernel
theorem dX4_sign_1 : decode cX4_sign 1 = .ok (.getfield 33, 3) := by decide +kernel
theorem dX4_sign_4 : decode cX4_sign 4 = .ok (.ifCond .lt 35, 3) := by decide +kernel
theorem dX4_sign_7 : decode cX4_sign 7 = .ok (.aload_n 0, 1) := by decide +kernel
theorem dX4_sign_8 : decode cX4_sign 8 = .ok (.getfield 33, 3) := by decide +kernel
theorem dX4_sign_11 : decode cX4_sign 11 = .ok (.aload_n 0, 1) := by decide +kernel
theorem dX4_sign_12 : decode cX4_sign 12 = .ok (.getfield 15, 3) := by decide +kernel
theorem dX4_sign_15 : decode cX4_sign 15 = .ok (.if_icmp .ge 24, 3) := by decide +kernel
theorem dX4_sign_18 : decode cX4_sign 18 = .ok (.aload_n 0, 1) := by decide +kernel
theorem dX4_sign_19 : decode cX4_sign 19 = .ok (.getfield 33, 3) := by decide +kernel
theorem dX4_sign_22 : decode cX4_sign 22 = .ok (.bipush 120, 2) := by decide +kernel
theorem dX4_sign_24 : decode cX4_sign 24 = .ok (.if_icmp .ge 15, 3) := by decide +kernel
theorem dX4_sign_27 : decode cX4_sign 27 = .ok (.aload_n 0, 1) := by decide +kernel
theorem dX4_sign_28 : decode cX4_sign 28 = .ok (.getfield 9, 3) := by decide +kernel
theorem dX4_sign_31 : decode cX4_sign 31 = .ok (.aload_n 0, 1) := by decide +kernel
theorem dX4_sign_32 : decode cX4_sign 32 = .ok (.getfield 33, 3) := by decide +kernel
theorem dX4_sign_35 : decode cX4_sign 35 = .ok (.caload, 1) := by decide +kernel
theorem dX4_sign_36 : decode cX4_sign 36 = .ok (.goto 4, 3) := by decide +kernel
theorem dX4_sign_39 : decode cX4_sign 39 = .ok (.iconst 0, 1) := by decide +kernel
theorem dX4_sign_40 : decode cX4_sign 40 = .ok (.ireturn, 1) := by decide +kernel
def P_X_sign (v0 : XT) (Q : Int32 → Prop) : Prop := (((X_position v0) < 0 → Q 0) ∧ (¬ (X_position v0) < 0 → (((X_length v0) ≤ (X_position v0) → Q 0) ∧ (¬ (X_length v0) ≤ (X_position v0) → ((120 ≤ (X_position v0) → Q 0) ∧ (¬ 120 ≤ (X_position v0) → vp_in (X_position v0) 120 ∧ (zc ((X_signs v0) (Int32.toNatClampNeg (X_position v0))) ∧ Q ((X_signs v0) (Int32.toNatClampNeg (X_position v0))))))))))
set_option maxRecDepth 100000 in
theorem s_X_sign {l : Launch} {D : zD} {B : Nat} {sa : Nat → Nat} (hfl : l.stackTraces = false) {z : Nat} {G : zG} {b0 : Nat} {v0 : XT} {Q : Int32 → Prop} (h0 : XA b0 v0 G) (h : P_X_sign v0 Q) : zSp l D B sa yX4_sign cX4_sign 1 (some .char) 0 0 0 0 [.ref b0] z G (zRi fun r z' G' => z = z' ∧ G = G' ∧ Q r) := by
  unfold P_X_sign at h
  refine z_ofW (by decide +kernel) hfl [some (.ref b0)] rfl (Nat.le_of_ble_eq_true rfl) (fun p e s m args below meth c O hret hlk hnm => ?_)
  have O : zO p l s m args c D B sa 1 cX4_sign RX4 := O
  refine z_aload_n O dX4_sign_0 rfl rfl ?_
  refine z_get (v := .int (X_position v0)) O wf_RX4_33 dX4_sign_1 (X_obj h0) rfl ?_
  refine z_if_lt (tgt := 39) O dX4_sign_4 (by decide) (fun c1_ => ?_) (fun c1_ => ?_)
  · have h := h.1 c1_
    refine z_iconst (v := 0) O dX4_sign_39 (by decide) ?_
    exact z_zret O hret rfl hlk dX4_sign_40 (Nat.le_of_ble_eq_true rfl) (Nat.le_of_ble_eq_true rfl) ⟨_, rfl, rfl, rfl, h⟩
  · have h := h.2 c1_
    refine z_aload_n O dX4_sign_7 rfl rfl ?_
    refine z_get (v := .int (X_position v0)) O wf_RX4_33 dX4_sign_8 (X_obj h0) rfl ?_
    refine z_aload_n O dX4_sign_11 rfl rfl ?_
    refine z_get (v := .int (X_length v0)) O wf_RX4_15 dX4_sign_12 (X_obj h0) rfl ?_
    refine z_icmp_ge (tgt := 39) O dX4_sign_15 (by decide) (fun c2_ => ?_) (fun c2_ => ?_)
    · have h := h.1 c2_
      refine z_iconst (v := 0) O dX4_sign_39 (by decide) ?_
      exact z_zret O hret rfl hlk dX4_sign_40 (Nat.le_of_ble_eq_true rfl) (Nat.le_of_ble_eq_true rfl) ⟨_, rfl, rfl, rfl, h⟩
    · have h := h.2 c2_
      refine z_aload_n O dX4_sign_18 rfl rfl ?_
      refine z_get (v := .int (X_position v0)) O wf_RX4_33 dX4_sign_19 (X_obj h0) rfl ?_
      refine z_bipush (v := 120) O dX4_sign_22 (by decide) ?_
      refine z_icmp_ge (tgt := 39) O dX4_sign_24 (by decide) (fun c3_ => ?_) (fun c3_ => ?_)
      · have h := h.1 c3_
        refine z_iconst (v := 0) O dX4_sign_39 (by decide) ?_
        exact z_zret O hret rfl hlk dX4_sign_40 (Nat.le_of_ble_eq_true rfl) (Nat.le_of_ble_eq_true rfl) ⟨_, rfl, rfl, rfl, h⟩
      · have h := h.2 c3_
        refine z_aload_n O dX4_sign_27 rfl rfl ?_
        refine z_get (v := .ref (b0 + 1)) O wf_RX4_9 dX4_sign_28 (X_obj h0) rfl ?_
        refine z_aload_n O dX4_sign_31 rfl rfl ?_
        refine z_get (v := .int (X_position v0)) O wf_RX4_33 dX4_sign_32 (X_obj h0) rfl ?_
        obtain ⟨q4_, h⟩ := h
        refine z_cald O dX4_sign_35 (X_signs_of h0) q4_ ?_
        refine z_goto (tgt := 40) O dX4_sign_36 (by decide) ?_
        obtain ⟨hz, h⟩ := h
        exact z_zret O hret hz hlk dX4_sign_40 (Nat.le_of_ble_eq_true rfl) (Nat.le_of_ble_eq_true rfl) ⟨_, rfl, rfl, rfl, h⟩

theorem dX4_begin_0 : decode cX4_begin 0 = .ok (.aload_n 0, 1) := by decide +kernel
theorem dX4_begin_1 : decode cX4_begin 1 = .ok (.iconst 0, 1) := by decide +kernel
theorem dX4_begin_2 : decode cX4_begin 2 = .ok (.putfield 33, 3) := by decide +kernel
theorem dX4_begin_5 : decode cX4_begin 5 = .ok (.aload_n 0, 1) := by decide +kernel
theorem dX4_begin_6 : decode cX4_begin 6 = .ok (.aload_n 0, 1) := by decide +kernel
theorem dX4_begin_7 : decode cX4_begin 7 = .ok (.invokevirtual 58, 3) := by decide +kernel
theorem dX4_begin_10 : decode cX4_begin 10 = .ok (.bipush 71, 2) := by decide +kernel
theorem dX4_begin_12 : decode cX4_begin 12 = .ok (.if_icmp .eq 7, 3) := by decide +kernel
theorem dX4_begin_15 : decode cX4_begin 15 = .ok (.iconst 1, 1) := by decide +kernel
theorem dX4_begin_16 : decode cX4_begin 16 = .ok (.goto 4, 3) := by decide +kernel
theorem dX4_begin_19 : decode cX4_begin 19 = .ok (.iconst 0, 1) := by decide +kernel
theorem dX4_begin_20 : decode cX4_begin 20 = .ok (.putfield 29, 3) := by decide +kernel
theorem dX4_begin_23 : decode cX4_begin 23 = .ok (.aload_n 0, 1) := by decide +kernel
theorem dX4_begin_24 : decode cX4_begin 24 = .ok (.getfield 29, 3) := by decide +kernel
theorem dX4_begin_27 : decode cX4_begin 27 = .ok (.ifCond .ne 13, 3) := by decide +kernel
theorem dX4_begin_30 : decode cX4_begin 30 = .ok (.aload_n 0, 1) := by decide +kernel
theorem dX4_begin_31 : decode cX4_begin 31 = .ok (.dup, 1) := by decide +kernel
theorem dX4_begin_32 : decode cX4_begin 32 = .ok (.getfield 33, 3) := by decide +kernel
theorem dX4_begin_35 : decode cX4_begin 35 = .ok (.iconst 1, 1) := by decide +kernel
theorem dX4_begin_36 : decode cX4_begin 36 = .ok (.iadd, 1) := by decide +kernel
theorem dX4_begin_37 : decode cX4_begin 37 = .ok (.putfield 33, 3) := by decide +kernel
theorem dX4_begin_40 : decode cX4_begin 40 = .ok (.return_, 1) := by decide +kernel
def PJ_X_begin_20 (u0 : Int32) (v0 : XT) (Q : XT → Prop) : Prop := zb u0 ∧ (∀ v20_, v20_ = (X_set_wrong v0 u0) → (((¬ (X_wrong v20_) = 0 → Q v20_) ∧ ((X_wrong v20_) = 0 → ∀ v29_, v29_ = (X_set_position v20_ ((X_position v20_) + 1)) → (Q v29_)))))
def P_X_begin (v0 : XT) (Q : XT → Prop) : Prop := ∀ v6_, v6_ = (X_set_position v0 0) → (P_X_sign v6_ (fun r9_ => (((r9_ = 71 → PJ_X_begin_20 0 v6_ Q) ∧ (¬ r9_ = 71 → PJ_X_begin_20 1 v6_ Q)))))
set_option maxRecDepth 100000 in
theorem s_X_begin {l : Launch} {D : zD} {B : Nat} {sa : Nat → Nat} (hfl : l.stackTraces = false) {z : Nat} {G : zG} {b0 : Nat} {v0 : XT} {Q : XT → Prop} (h0 : XA b0 v0 G) (h : P_X_begin v0 Q) : zSp l D B sa yX4_begin cX4_begin 1 none 1 20 0 0 [.ref b0] z G (zRv fun z' G' => z = z' ∧ ∃ w, XA b0 w G' ∧ Fr b0 2 G G' ∧ Q w) := by
  unfold P_X_begin at h
  refine z_ofW (by decide +kernel) hfl [some (.ref b0)] rfl (Nat.le_of_ble_eq_true rfl) (fun p e s m args below meth c O hret hlk hnm => ?_)
  have O : zO p l s m args c D B sa 1 cX4_begin RX4 := O
  have HJ20 : ∀ (u0 : Int32) (v0 : XT) (G9 : zG) (g0 : XA b0 v0 G9) (gF : Fr b0 2 G G9), PJ_X_begin_20 u0 v0 Q → zT p l e (zrm 1 20 0 0) s m args below meth c (zEnd below D B (zRv fun z' G' => z = z' ∧ ∃ w, XA b0 w G' ∧ Fr b0 2 G G' ∧ Q w) args s 0 0) D B 1 0 0 20 [.int u0, .ref b0] [some (.ref b0)] z G9 := by
    intro u0 v0 G9 g0 gF h
    unfold PJ_X_begin_20 at h
    obtain ⟨q14_, h⟩ := h
    refine y_put O wp_RX4_29 dX4_begin_20 (X_obj g0) (z_narb q14_) (z_fitb q14_) (fun G15_ hw16_ => ?_)
    have k17_ := X_w_wrong g0 hw16_
    have f18_ := hw16_.fr
    have f19_ : Fr b0 2 G9 G15_ := Fr.mono f18_ (by omega) (by omega)
    obtain ⟨v20_, ev20_⟩ : ∃ w, w = (X_set_wrong v0 u0) := ⟨_, rfl⟩
    have h := h v20_ ev20_
    have k21_ : XA b0 v20_ G15_ := by rw [ev20_]; exact k17_
    have F22_ : Fr b0 2 G G15_ := Fr.trans gF f19_
    refine z_aload_n O dX4_begin_23 rfl rfl ?_
    refine z_get (v := .int (X_wrong v20_)) O wf_RX4_29 dX4_begin_24 (X_obj k21_) rfl ?_
    refine z_if_ne (tgt := 40) O dX4_begin_27 (by decide) (fun c23_ => ?_) (fun c23_ => ?_)
    · have h := h.1 c23_
      exact z_vret O hret hlk dX4_begin_40 (Nat.le_of_ble_eq_true rfl) (Nat.le_of_ble_eq_true rfl) ⟨rfl, rfl, _, k21_, F22_, h⟩
    · have h := h.2 c23_
      refine z_aload_n O dX4_begin_30 rfl rfl ?_
      refine z_dup O dX4_begin_31 rfl ?_
      refine z_get (v := .int (X_position v20_)) O wf_RX4_33 dX4_begin_32 (X_obj k21_) rfl ?_
      refine z_iconst (v := 1) O dX4_begin_35 (by decide) ?_
      refine z_iadd O dX4_begin_36 ?_
      refine y_put O wp_RX4_33 dX4_begin_37 (X_obj k21_) rfl rfl (fun G24_ hw25_ => ?_)
      have k26_ := X_w_position k21_ hw25_
      have f27_ := hw25_.fr
      have f28_ : Fr b0 2 G15_ G24_ := Fr.mono f27_ (by omega) (by omega)
      obtain ⟨v29_, ev29_⟩ : ∃ w, w = (X_set_position v20_ ((X_position v20_) + 1)) := ⟨_, rfl⟩
      have h := h v29_ ev29_
      have k30_ : XA b0 v29_ G24_ := by rw [ev29_]; exact k26_
      have F31_ : Fr b0 2 G G24_ := Fr.trans F22_ f28_
      exact z_vret O hret hlk dX4_begin_40 (Nat.le_of_ble_eq_true rfl) (Nat.le_of_ble_eq_true rfl) ⟨rfl, rfl, _, k30_, F31_, h⟩
  refine z_aload_n O dX4_begin_0 rfl rfl ?_
  refine z_iconst (v := 0) O dX4_begin_1 (by decide) ?_
  refine y_put O wp_RX4_33 dX4_begin_2 (X_obj h0) rfl rfl (fun G1_ hw2_ => ?_)
  have k3_ := X_w_position h0 hw2_
  have f4_ := hw2_.fr
  have f5_ : Fr b0 2 G G1_ := Fr.mono f4_ (by omega) (by omega)
  obtain ⟨v6_, ev6_⟩ : ∃ w, w = (X_set_position v0 0) := ⟨_, rfl⟩
  have h := h v6_ ev6_
  have k7_ : XA b0 v6_ G1_ := by rw [ev6_]; exact k3_
  have F8_ : Fr b0 2 G G1_ := Fr.trans Fr.rf f5_
  refine z_aload_n O dX4_begin_5 rfl rfl ?_
  refine z_aload_n O dX4_begin_6 rfl rfl ?_
  refine z_callVi (As := []) (st := [.ref b0]) O (s_X_sign hfl k7_ h) wy_X4_sign wl_RX4_58 dX4_begin_7 rfl rfl (X_obj k7_) ⟨by decide, rfl⟩ ⟨Nat.le_of_ble_eq_true rfl, Nat.le_of_ble_eq_true rfl⟩ (Nat.le_of_ble_eq_true rfl) ⟨Nat.le_of_ble_eq_true rfl, Nat.le_of_ble_eq_true rfl⟩ (fun r9_ z10_ G11_ hq12_ => ?_)
  obtain ⟨rfl, rfl, h⟩ := hq12_
  refine z_bipush (v := 71) O dX4_begin_10 (by decide) ?_
  refine z_icmp_eq (tgt := 19) O dX4_begin_12 (by decide) (fun c13_ => ?_) (fun c13_ => ?_)
  · have h := h.1 c13_
    refine z_iconst (v := 0) O dX4_begin_19 (by decide) ?_
    exact z_subL (L' := [some (.ref b0)]) (zLe.sub (And.intro rfl True.intro)) (HJ20 0 v6_ G1_ k7_ F8_ h)
  · have h := h.2 c13_
    refine z_iconst (v := 1) O dX4_begin_15 (by decide) ?_
    refine z_goto (tgt := 20) O dX4_begin_16 (by decide) ?_
    exact z_subL (L' := [some (.ref b0)]) (zLe.sub (And.intro rfl True.intro)) (HJ20 1 v6_ G1_ k7_ F8_ h)
