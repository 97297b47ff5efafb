theorem dX3_number_0 : decode cX3_number 0 = .ok (.iload_n 1, 1) := by decide +kernel
theorem dX3_number_1 : decode cX3_number 1 = .ok (.tableswitch 136 0 10 #[59, 67, 75, 83, 91, 96, 108, 113, 118, 126, 131], 59) := by decide +kernel
theorem dX3_number_60 : decode cX3_number 60 = .ok (.aload_n 0, 1) := by decide +kernel
theorem dX3_number_61 : decode cX3_number 61 = .ok (.getfield 12, 3) := by decide +kernel
theorem dX3_number_64 : decode cX3_number 64 = .ok (.getfield 89, 3) := by decide +kernel
theorem dX3_number_67 : decode cX3_number 67 = .ok (.ireturn, 1) := by decide +kernel
theorem dX3_number_68 : decode cX3_number 68 = .ok (.aload_n 0, 1) := by decide +kernel
theorem dX3_number_69 : decode cX3_number 69 = .ok (.getfield 12, 3) := by decide +kernel
theorem dX3_number_72 : decode cX3_number 72 = .ok (.getfield 78, 3) := by decide +kernel
theorem dX3_number_75 : decode cX3_number 75 = .ok (.ireturn, 1) := by decide +kernel
theorem dX3_number_76 : decode cX3_number 76 = .ok (.aload_n 0, 1) := by decide +kernel
theorem dX3_number_77 : decode cX3_number 77 = .ok (.getfield 12, 3) := by decide +kernel
theorem dX3_number_80 : decode cX3_number 80 = .ok (.invokevirtual 92, 3) := by decide +kernel
theorem dX3_number_83 : decode cX3_number 83 = .ok (.ireturn, 1) := by decide +kernel
theorem dX3_number_84 : decode cX3_number 84 = .ok (.aload_n 0, 1) := by decide +kernel
theorem dX3_number_85 : decode cX3_number 85 = .ok (.getfield 12, 3) := by decide +kernel
theorem dX3_number_88 : decode cX3_number 88 = .ok (.getfield 96, 3) := by decide +kernel
theorem dX3_number_91 : decode cX3_number 91 = .ok (.ireturn, 1) := by decide +kernel
theorem dX3_number_92 : decode cX3_number 92 = .ok (.aload_n 0, 1) := by decide +kernel
theorem dX3_number_93 : decode cX3_number 93 = .ok (.invokevirtual 99, 3) := by decide +kernel
theorem dX3_number_96 : decode cX3_number 96 = .ok (.ireturn, 1) := by decide +kernel
theorem dX3_number_97 : decode cX3_number 97 = .ok (.aload_n 0, 1) := by decide +kernel
theorem dX3_number_98 : decode cX3_number 98 = .ok (.aload_n 0, 1) := by decide +kernel
theorem dX3_number_99 : decode cX3_number 99 = .ok (.getfield 12, 3) := by decide +kernel
theorem dX3_number_102 : decode cX3_number 102 = .ok (.getfield 89, 3) := by decide +kernel
theorem dX3_number_105 : decode cX3_number 105 = .ok (.invokevirtual 102, 3) := by decide +kernel
theorem dX3_number_108 : decode cX3_number 108 = .ok (.ireturn, 1) := by decide +kernel
theorem dX3_number_109 : decode cX3_number 109 = .ok (.aload_n 0, 1) := by decide +kernel
theorem dX3_number_110 : decode cX3_number 110 = .ok (.invokevirtual 106, 3) := by decide +kernel
theorem dX3_number_113 : decode cX3_number 113 = .ok (.ireturn, 1) := by decide +kernel
theorem dX3_number_114 : decode cX3_number 114 = .ok (.aload_n 0, 1) := by decide +kernel
theorem dX3_number_115 : decode cX3_number 115 = .ok (.getfield 41, 3) := by decide +kernel
theorem dX3_number_118 : decode cX3_number 118 = .ok (.ireturn, 1) := by decide +kernel
theorem dX3_number_119 : decode cX3_number 119 = .ok (.aload_n 0, 1) := by decide +kernel
theorem dX3_number_120 : decode cX3_number 120 = .ok (.getfield 12, 3) := by decide +kernel
theorem dX3_number_123 : decode cX3_number 123 = .ok (.getfield 109, 3) := by decide +kernel
theorem dX3_number_126 : decode cX3_number 126 = .ok (.ireturn, 1) := by decide +kernel
theorem dX3_number_127 : decode cX3_number 127 = .ok (.aload_n 0, 1) := by decide +kernel
theorem dX3_number_128 : decode cX3_number 128 = .ok (.getfield 45, 3) := by decide +kernel
theorem dX3_number_131 : decode cX3_number 131 = .ok (.ireturn, 1) := by decide +kernel
theorem dX3_number_132 : decode cX3_number 132 = .ok (.aload_n 0, 1) := by decide +kernel
theorem dX3_number_133 : decode cX3_number 133 = .ok (.getfield 48, 3) := by decide +kernel
theorem dX3_number_136 : decode cX3_number 136 = .ok (.ireturn, 1) := by decide +kernel
theorem dX3_number_137 : decode cX3_number 137 = .ok (.aload_n 0, 1) := by decide +kernel
theorem dX3_number_138 : decode cX3_number 138 = .ok (.getfield 51, 3) := by decide +kernel
theorem dX3_number_141 : decode cX3_number 141 = .ok (.ireturn, 1) := by decide +kernel
def P_S_number (x1 : Int32) (v0 : ST) (Q : Int32 → Prop) : Prop := ((x1 = 0 → Q (L_end (S_log v0))) ∧ (¬ x1 = 0 → ((x1 = 1 → Q (L_first (S_log v0))) ∧ (¬ x1 = 1 → ((x1 = 2 → P_L_segments (S_log v0) (fun r4_ => (Q r4_))) ∧ (¬ x1 = 2 → ((x1 = 3 → Q (L_length (S_log v0))) ∧ (¬ x1 = 3 → ((x1 = 4 → P_S_readerCount v0 (fun r10_ => (Q r10_))) ∧ (¬ x1 = 4 → ((x1 = 5 → P_S_holdersUpTo (L_end (S_log v0)) v0 (fun r15_ => (Q r15_))) ∧ (¬ x1 = 5 → ((x1 = 6 → P_S_gapCount v0 (fun r20_ => (Q r20_))) ∧ (¬ x1 = 6 → ((x1 = 7 → Q (S_time v0)) ∧ (¬ x1 = 7 → ((x1 = 8 → Q (L_dropped (S_log v0))) ∧ (¬ x1 = 8 → ((x1 = 9 → Q (S_lostByLength v0)) ∧ (¬ x1 = 9 → ((x1 = 10 → Q (S_lostBySleep v0)) ∧ (¬ x1 = 10 → Q (S_missed v0)))))))))))))))))))))))
set_option maxRecDepth 100000 in
theorem s_S_number {l : Launch} {D : zD} {B : Nat} {sa : Nat → Nat} (hfl : l.stackTraces = false) {z : Nat} {G : zG} {b0 : Nat} {x1 : Int32} {v0 : ST} {Q : Int32 → Prop} (h0 : SA b0 v0 G) (h : P_S_number x1 v0 Q) : zSp l D B sa yX3_number cX3_number 2 (some .int) 4 87 0 0 [.ref b0, .int x1] z G (zRi fun r z' G' => z = z' ∧ G = G' ∧ Q r) := by
  unfold P_S_number at h
  refine z_ofW (by decide +kernel) hfl [some (.ref b0), some (.int x1)] rfl (Nat.le_of_ble_eq_true rfl) (fun p e s m args below meth c O hret hlk hnm => ?_)
  have O : zO p l s m args c D B sa 2 cX3_number RX3 := O
  refine z_iload_n O dX3_number_0 rfl rfl ?_
  rcases Decidable.em (x1 = 0) with c1_ | c1_
  · have h := h.1 c1_
    refine z_tsw (v := 0) (tgt := 60) O dX3_number_1 c1_ (by decide) (by decide) rfl (by decide) ?_
    refine z_aload_n O dX3_number_60 rfl rfl ?_
    refine z_get (v := .ref (b0 + 1)) O wf_RX3_12 dX3_number_61 (S_obj h0) rfl ?_
    refine z_get (v := .int (L_end (S_log v0))) O wf_RX3_89 dX3_number_64 (L_obj (S_log_of h0)) rfl ?_
    exact z_iret O hret hlk dX3_number_67 (Nat.le_of_ble_eq_true rfl) (Nat.le_of_ble_eq_true rfl) ⟨_, rfl, rfl, rfl, h⟩
  · have h := h.2 c1_
    rcases Decidable.em (x1 = 1) with c2_ | c2_
    · have h := h.1 c2_
      refine z_tsw (v := 1) (tgt := 68) O dX3_number_1 c2_ (by decide) (by decide) rfl (by decide) ?_
      refine z_aload_n O dX3_number_68 rfl rfl ?_
      refine z_get (v := .ref (b0 + 1)) O wf_RX3_12 dX3_number_69 (S_obj h0) rfl ?_
      refine z_get (v := .int (L_first (S_log v0))) O wf_RX3_78 dX3_number_72 (L_obj (S_log_of h0)) rfl ?_
      exact z_iret O hret hlk dX3_number_75 (Nat.le_of_ble_eq_true rfl) (Nat.le_of_ble_eq_true rfl) ⟨_, rfl, rfl, rfl, h⟩
    · have h := h.2 c2_
      rcases Decidable.em (x1 = 2) with c3_ | c3_
      · have h := h.1 c3_
        refine z_tsw (v := 2) (tgt := 76) O dX3_number_1 c3_ (by decide) (by decide) rfl (by decide) ?_
        refine z_aload_n O dX3_number_76 rfl rfl ?_
        refine z_get (v := .ref (b0 + 1)) O wf_RX3_12 dX3_number_77 (S_obj h0) rfl ?_
        refine z_callVi (As := []) (st := []) O (s_L_segments hfl (S_log_of h0) h) wy_X1_segments wl_RX3_92 dX3_number_80 rfl rfl (L_obj (S_log_of h0)) ⟨by decide, rfl⟩ ⟨Nat.le_of_ble_eq_true rfl, Nat.le_of_ble_eq_true rfl⟩ (Nat.le_of_ble_eq_true rfl) ⟨Nat.le_of_ble_eq_true rfl, Nat.le_of_ble_eq_true rfl⟩ (fun r4_ z5_ G6_ hq7_ => ?_)
        obtain ⟨rfl, rfl, h⟩ := hq7_
        exact z_iret O hret hlk dX3_number_83 (Nat.le_of_ble_eq_true rfl) (Nat.le_of_ble_eq_true rfl) ⟨_, rfl, rfl, rfl, h⟩
      · have h := h.2 c3_
        rcases Decidable.em (x1 = 3) with c8_ | c8_
        · have h := h.1 c8_
          refine z_tsw (v := 3) (tgt := 84) O dX3_number_1 c8_ (by decide) (by decide) rfl (by decide) ?_
          refine z_aload_n O dX3_number_84 rfl rfl ?_
          refine z_get (v := .ref (b0 + 1)) O wf_RX3_12 dX3_number_85 (S_obj h0) rfl ?_
          refine z_get (v := .int (L_length (S_log v0))) O wf_RX3_96 dX3_number_88 (L_obj (S_log_of h0)) rfl ?_
          exact z_iret O hret hlk dX3_number_91 (Nat.le_of_ble_eq_true rfl) (Nat.le_of_ble_eq_true rfl) ⟨_, rfl, rfl, rfl, h⟩
        · have h := h.2 c8_
          rcases Decidable.em (x1 = 4) with c9_ | c9_
          · have h := h.1 c9_
            refine z_tsw (v := 4) (tgt := 92) O dX3_number_1 c9_ (by decide) (by decide) rfl (by decide) ?_
            refine z_aload_n O dX3_number_92 rfl rfl ?_
            refine z_callVi (As := []) (st := []) O (s_S_readerCount hfl h0 h) wy_X3_readerCount wl_RX3_99 dX3_number_93 rfl rfl (S_obj h0) ⟨by decide, rfl⟩ ⟨Nat.le_of_ble_eq_true rfl, Nat.le_of_ble_eq_true rfl⟩ (Nat.le_of_ble_eq_true rfl) ⟨Nat.le_of_ble_eq_true rfl, Nat.le_of_ble_eq_true rfl⟩ (fun r10_ z11_ G12_ hq13_ => ?_)
            obtain ⟨rfl, rfl, h⟩ := hq13_
            exact z_iret O hret hlk dX3_number_96 (Nat.le_of_ble_eq_true rfl) (Nat.le_of_ble_eq_true rfl) ⟨_, rfl, rfl, rfl, h⟩
          · have h := h.2 c9_
            rcases Decidable.em (x1 = 5) with c14_ | c14_
            · have h := h.1 c14_
              refine z_tsw (v := 5) (tgt := 97) O dX3_number_1 c14_ (by decide) (by decide) rfl (by decide) ?_
              refine z_aload_n O dX3_number_97 rfl rfl ?_
              refine z_aload_n O dX3_number_98 rfl rfl ?_
              refine z_get (v := .ref (b0 + 1)) O wf_RX3_12 dX3_number_99 (S_obj h0) rfl ?_
              refine z_get (v := .int (L_end (S_log v0))) O wf_RX3_89 dX3_number_102 (L_obj (S_log_of h0)) rfl ?_
              refine z_callVi (As := [.int (L_end (S_log v0))]) (st := []) O (s_S_holdersUpTo hfl h0 h) wy_X3_holdersUpTo wl_RX3_102 dX3_number_105 rfl rfl (S_obj h0) ⟨by decide, rfl⟩ ⟨Nat.le_of_ble_eq_true rfl, Nat.le_of_ble_eq_true rfl⟩ (Nat.le_of_ble_eq_true rfl) ⟨Nat.le_of_ble_eq_true rfl, Nat.le_of_ble_eq_true rfl⟩ (fun r15_ z16_ G17_ hq18_ => ?_)
              obtain ⟨rfl, rfl, h⟩ := hq18_
              exact z_iret O hret hlk dX3_number_108 (Nat.le_of_ble_eq_true rfl) (Nat.le_of_ble_eq_true rfl) ⟨_, rfl, rfl, rfl, h⟩
            · have h := h.2 c14_
              rcases Decidable.em (x1 = 6) with c19_ | c19_
              · have h := h.1 c19_
                refine z_tsw (v := 6) (tgt := 109) O dX3_number_1 c19_ (by decide) (by decide) rfl (by decide) ?_
                refine z_aload_n O dX3_number_109 rfl rfl ?_
                refine z_callVi (As := []) (st := []) O (s_S_gapCount hfl h0 h) wy_X3_gapCount wl_RX3_106 dX3_number_110 rfl rfl (S_obj h0) ⟨by decide, rfl⟩ ⟨Nat.le_of_ble_eq_true rfl, Nat.le_of_ble_eq_true rfl⟩ (Nat.le_of_ble_eq_true rfl) ⟨Nat.le_of_ble_eq_true rfl, Nat.le_of_ble_eq_true rfl⟩ (fun r20_ z21_ G22_ hq23_ => ?_)
                obtain ⟨rfl, rfl, h⟩ := hq23_
                exact z_iret O hret hlk dX3_number_113 (Nat.le_of_ble_eq_true rfl) (Nat.le_of_ble_eq_true rfl) ⟨_, rfl, rfl, rfl, h⟩
              · have h := h.2 c19_
                rcases Decidable.em (x1 = 7) with c24_ | c24_
                · have h := h.1 c24_
                  refine z_tsw (v := 7) (tgt := 114) O dX3_number_1 c24_ (by decide) (by decide) rfl (by decide) ?_
                  refine z_aload_n O dX3_number_114 rfl rfl ?_
                  refine z_get (v := .int (S_time v0)) O wf_RX3_41 dX3_number_115 (S_obj h0) rfl ?_
                  exact z_iret O hret hlk dX3_number_118 (Nat.le_of_ble_eq_true rfl) (Nat.le_of_ble_eq_true rfl) ⟨_, rfl, rfl, rfl, h⟩
                · have h := h.2 c24_
                  rcases Decidable.em (x1 = 8) with c25_ | c25_
                  · have h := h.1 c25_
                    refine z_tsw (v := 8) (tgt := 119) O dX3_number_1 c25_ (by decide) (by decide) rfl (by decide) ?_
                    refine z_aload_n O dX3_number_119 rfl rfl ?_
                    refine z_get (v := .ref (b0 + 1)) O wf_RX3_12 dX3_number_120 (S_obj h0) rfl ?_
                    refine z_get (v := .int (L_dropped (S_log v0))) O wf_RX3_109 dX3_number_123 (L_obj (S_log_of h0)) rfl ?_
                    exact z_iret O hret hlk dX3_number_126 (Nat.le_of_ble_eq_true rfl) (Nat.le_of_ble_eq_true rfl) ⟨_, rfl, rfl, rfl, h⟩
                  · have h := h.2 c25_
                    rcases Decidable.em (x1 = 9) with c26_ | c26_
                    · have h := h.1 c26_
                      refine z_tsw (v := 9) (tgt := 127) O dX3_number_1 c26_ (by decide) (by decide) rfl (by decide) ?_
                      refine z_aload_n O dX3_number_127 rfl rfl ?_
                      refine z_get (v := .int (S_lostByLength v0)) O wf_RX3_45 dX3_number_128 (S_obj h0) rfl ?_
                      exact z_iret O hret hlk dX3_number_131 (Nat.le_of_ble_eq_true rfl) (Nat.le_of_ble_eq_true rfl) ⟨_, rfl, rfl, rfl, h⟩
                    · have h := h.2 c26_
                      rcases Decidable.em (x1 = 10) with c27_ | c27_
                      · have h := h.1 c27_
                        refine z_tsw (v := 10) (tgt := 132) O dX3_number_1 c27_ (by decide) (by decide) rfl (by decide) ?_
                        refine z_aload_n O dX3_number_132 rfl rfl ?_
                        refine z_get (v := .int (S_lostBySleep v0)) O wf_RX3_48 dX3_number_133 (S_obj h0) rfl ?_
                        exact z_iret O hret hlk dX3_number_136 (Nat.le_of_ble_eq_true rfl) (Nat.le_of_ble_eq_true rfl) ⟨_, rfl, rfl, rfl, h⟩
                      · have h := h.2 c27_
                        refine z_tswd (tgt := 137) O dX3_number_1 (zsw_out (fun j h1 h2 => by rcases (show j = 0 ∨ j = 1 ∨ j = 2 ∨ j = 3 ∨ j = 4 ∨ j = 5 ∨ j = 6 ∨ j = 7 ∨ j = 8 ∨ j = 9 ∨ j = 10 by omega) with rfl | rfl | rfl | rfl | rfl | rfl | rfl | rfl | rfl | rfl | rfl; exact c1_; exact c2_; exact c3_; exact c8_; exact c9_; exact c14_; exact c19_; exact c24_; exact c25_; exact c26_; exact c27_)) (by decide) ?_
                        refine z_aload_n O dX3_number_137 rfl rfl ?_
                        refine z_get (v := .int (S_missed v0)) O wf_RX3_51 dX3_number_138 (S_obj h0) rfl ?_
                        exact z_iret O hret hlk dX3_number_141 (Nat.le_of_ble_eq_true rfl) (Nat.le_of_ble_eq_true rfl) ⟨_, rfl, rfl, rfl, h⟩

theorem dX3_isDue_0 : decode cX3_isDue 0 = .ok (.aload_n 0, 1) := by decide +kernel
theorem dX3_isDue_1 : decode cX3_isDue 1 = .ok (.getfield 24, 3) := by decide +kernel
theorem dX3_isDue_4 : decode cX3_isDue 4 = .ok (.iconst 2, 1) := by decide +kernel
theorem dX3_isDue_5 : decode cX3_isDue 5 = .ok (.invokestatic 145, 3) := by decide +kernel
theorem dX3_isDue_8 : decode cX3_isDue 8 = .ok (.istore_n 2, 1) := by decide +kernel
theorem dX3_isDue_9 : decode cX3_isDue 9 = .ok (.aload_n 0, 1) := by decide +kernel
theorem dX3_isDue_10 : decode cX3_isDue 10 = .ok (.getfield 12, 3) := by decide +kernel
theorem dX3_isDue_13 : decode cX3_isDue 13 = .ok (.getfield 96, 3) := by decide +kernel
theorem dX3_isDue_16 : decode cX3_isDue 16 = .ok (.aload_n 0, 1) := by decide +kernel
theorem dX3_isDue_17 : decode cX3_isDue 17 = .ok (.getfield 24, 3) := by decide +kernel
theorem dX3_isDue_20 : decode cX3_isDue 20 = .ok (.iconst 3, 1) := by decide +kernel
theorem dX3_isDue_21 : decode cX3_isDue 21 = .ok (.invokestatic 145, 3) := by decide +kernel
theorem dX3_isDue_24 : decode cX3_isDue 24 = .ok (.if_icmp .gt 27, 3) := by decide +kernel
theorem dX3_isDue_27 : decode cX3_isDue 27 = .ok (.iload_n 2, 1) := by decide +kernel
theorem dX3_isDue_28 : decode cX3_isDue 28 = .ok (.ifCond .le 27, 3) := by decide +kernel
theorem dX3_isDue_31 : decode cX3_isDue 31 = .ok (.aload_n 0, 1) := by decide +kernel
theorem dX3_isDue_32 : decode cX3_isDue 32 = .ok (.getfield 41, 3) := by decide +kernel
theorem dX3_isDue_35 : decode cX3_isDue 35 = .ok (.aload_n 0, 1) := by decide +kernel
theorem dX3_isDue_36 : decode cX3_isDue 36 = .ok (.getfield 12, 3) := by decide +kernel
theorem dX3_isDue_39 : decode cX3_isDue 39 = .ok (.getfield 149, 3) := by decide +kernel
theorem dX3_isDue_42 : decode cX3_isDue 42 = .ok (.iload_n 1, 1) := by decide +kernel
theorem dX3_isDue_43 : decode cX3_isDue 43 = .ok (.invokestatic 145, 3) := by decide +kernel
theorem dX3_isDue_46 : decode cX3_isDue 46 = .ok (.isub, 1) := by decide +kernel
theorem dX3_isDue_47 : decode cX3_isDue 47 = .ok (.iload_n 2, 1) := by decide +kernel
theorem dX3_isDue_48 : decode cX3_isDue 48 = .ok (.if_icmp .lt 7, 3) := by decide +kernel
theorem dX3_isDue_51 : decode cX3_isDue 51 = .ok (.iconst 1, 1) := by decide +kernel
theorem dX3_isDue_52 : decode cX3_isDue 52 = .ok (.goto 4, 3) := by decide +kernel
theorem dX3_isDue_55 : decode cX3_isDue 55 = .ok (.iconst 0, 1) := by decide +kernel
theorem dX3_isDue_56 : decode cX3_isDue 56 = .ok (.ireturn, 1) := by decide +kernel
def P_S_isDue (x1 : Int32) (v0 : ST) (Q : Int32 → Prop) : Prop := P_T_at 6 2 (S_settings v0) (fun r1_ => (P_T_at 6 3 (S_settings v0) (fun r5_ => (((r5_ < (L_length (S_log v0)) → Q 1) ∧ (¬ r5_ < (L_length (S_log v0)) → ((r1_ ≤ 0 → Q 0) ∧ (¬ r1_ ≤ 0 → P_T_at 200 x1 (L_times (S_log v0)) (fun r11_ => (((((S_time v0) - r11_) < r1_ → Q 0) ∧ (¬ ((S_time v0) - r11_) < r1_ → Q 1))))))))))))
set_option maxRecDepth 100000 in
theorem s_S_isDue {l : Launch} {D : zD} {B : Nat} {sa : Nat → Nat} (hfl : l.stackTraces = false) {z : Nat} {G : zG} {b0 : Nat} {x1 : Int32} {v0 : ST} {Q : Int32 → Prop} (h0 : SA b0 v0 G) (h : P_S_isDue x1 v0 Q) : zSp l D B sa yX3_isDue cX3_isDue 3 (some .boolean) 1 21 0 0 [.ref b0, .int x1] z G (zRi fun r z' G' => z = z' ∧ G = G' ∧ Q r) := by
  unfold P_S_isDue at h
  refine z_ofW (by decide +kernel) hfl [some (.ref b0), some (.int x1), none] rfl (Nat.le_of_ble_eq_true rfl) (fun p e s m args below meth c O hret hlk hnm => ?_)
  have O : zO p l s m args c D B sa 3 cX3_isDue RX3 := O
  refine z_aload_n O dX3_isDue_0 rfl rfl ?_
  refine z_get (v := .ref (b0 + 9)) O wf_RX3_24 dX3_isDue_1 (S_obj h0) rfl ?_
  refine z_iconst (v := 2) O dX3_isDue_4 (by decide) ?_
  refine z_callNi (As := [.ref (b0 + 9), .int 2]) (st := []) O (s_T_at hfl (S_settings_of h0) h) wy_X5_at wl_RX3_145 dX3_isDue_5 rfl rfl ⟨Nat.le_of_ble_eq_true rfl, Nat.le_of_ble_eq_true rfl⟩ (Nat.le_of_ble_eq_true rfl) ⟨Nat.le_of_ble_eq_true rfl, Nat.le_of_ble_eq_true rfl⟩ (fun r1_ z2_ G3_ hq4_ => ?_)
  obtain ⟨rfl, rfl, h⟩ := hq4_
  refine z_istore_n (L' := [some (.ref b0), some (.int x1), some (.int r1_)]) O dX3_isDue_8 rfl (by decide) rfl ?_
  refine z_aload_n O dX3_isDue_9 rfl rfl ?_
  refine z_get (v := .ref (b0 + 1)) O wf_RX3_12 dX3_isDue_10 (S_obj h0) rfl ?_
  refine z_get (v := .int (L_length (S_log v0))) O wf_RX3_96 dX3_isDue_13 (L_obj (S_log_of h0)) rfl ?_
  refine z_aload_n O dX3_isDue_16 rfl rfl ?_
  refine z_get (v := .ref (b0 + 9)) O wf_RX3_24 dX3_isDue_17 (S_obj h0) rfl ?_
  refine z_iconst (v := 3) O dX3_isDue_20 (by decide) ?_
  refine z_callNi (As := [.ref (b0 + 9), .int 3]) (st := [.int (L_length (S_log v0))]) O (s_T_at hfl (S_settings_of h0) h) wy_X5_at wl_RX3_145 dX3_isDue_21 rfl rfl ⟨Nat.le_of_ble_eq_true rfl, Nat.le_of_ble_eq_true rfl⟩ (Nat.le_of_ble_eq_true rfl) ⟨Nat.le_of_ble_eq_true rfl, Nat.le_of_ble_eq_true rfl⟩ (fun r5_ z6_ G7_ hq8_ => ?_)
  obtain ⟨rfl, rfl, h⟩ := hq8_
  refine z_icmp_gt (tgt := 51) O dX3_isDue_24 (by decide) (fun c9_ => ?_) (fun c9_ => ?_)
  · have h := h.1 c9_
    refine z_iconst (v := 1) O dX3_isDue_51 (by decide) ?_
    refine z_goto (tgt := 56) O dX3_isDue_52 (by decide) ?_
    exact z_zret O hret rfl hlk dX3_isDue_56 (Nat.le_of_ble_eq_true rfl) (Nat.le_of_ble_eq_true rfl) ⟨_, rfl, rfl, rfl, h⟩
  · have h := h.2 c9_
    refine z_iload_n O dX3_isDue_27 rfl rfl ?_
    refine z_if_le (tgt := 55) O dX3_isDue_28 (by decide) (fun c10_ => ?_) (fun c10_ => ?_)
    · have h := h.1 c10_
      refine z_iconst (v := 0) O dX3_isDue_55 (by decide) ?_
      exact z_zret O hret rfl hlk dX3_isDue_56 (Nat.le_of_ble_eq_true rfl) (Nat.le_of_ble_eq_true rfl) ⟨_, rfl, rfl, rfl, h⟩
    · have h := h.2 c10_
      refine z_aload_n O dX3_isDue_31 rfl rfl ?_
      refine z_get (v := .int (S_time v0)) O wf_RX3_41 dX3_isDue_32 (S_obj h0) rfl ?_
      refine z_aload_n O dX3_isDue_35 rfl rfl ?_
      refine z_get (v := .ref (b0 + 1)) O wf_RX3_12 dX3_isDue_36 (S_obj h0) rfl ?_
      refine z_get (v := .ref ((b0 + 1) + 3)) O wf_RX3_149 dX3_isDue_39 (L_obj (S_log_of h0)) rfl ?_
      refine z_iload_n O dX3_isDue_42 rfl rfl ?_
      refine z_callNi (As := [.ref ((b0 + 1) + 3), .int x1]) (st := [.int (S_time v0)]) O (s_T_at hfl (L_times_of (S_log_of h0)) h) wy_X5_at wl_RX3_145 dX3_isDue_43 rfl rfl ⟨Nat.le_of_ble_eq_true rfl, Nat.le_of_ble_eq_true rfl⟩ (Nat.le_of_ble_eq_true rfl) ⟨Nat.le_of_ble_eq_true rfl, Nat.le_of_ble_eq_true rfl⟩ (fun r11_ z12_ G13_ hq14_ => ?_)
      obtain ⟨rfl, rfl, h⟩ := hq14_
      refine z_isub O dX3_isDue_46 ?_
      refine z_iload_n O dX3_isDue_47 rfl rfl ?_
      refine z_icmp_lt (tgt := 55) O dX3_isDue_48 (by decide) (fun c15_ => ?_) (fun c15_ => ?_)
      · have h := h.1 c15_
        refine z_iconst (v := 0) O dX3_isDue_55 (by decide) ?_
        exact z_zret O hret rfl hlk dX3_isDue_56 (Nat.le_of_ble_eq_true rfl) (Nat.le_of_ble_eq_true rfl) ⟨_, rfl, rfl, rfl, h⟩
      · have h := h.2 c15_
        refine z_iconst (v := 1) O dX3_isDue_51 (by decide) ?_
        refine z_goto (tgt := 56) O dX3_isDue_52 (by decide) ?_
        exact z_zret O hret rfl hlk dX3_isDue_56 (Nat.le_of_ble_eq_true rfl) (Nat.le_of_ble_eq_true rfl) ⟨_, rfl, rfl, rfl, h⟩

theorem dX3_segmentNumber_0 : decode cX3_segmentNumber 0 = .ok (.iload_n 2, 1) := by decide +kernel
theorem dX3_segmentNumber_1 : decode cX3_segmentNumber 1 = .ok (.tableswitch 126 0 4 #[35, 44, 62, 86, 108], 35) := by decide +kernel
theorem dX3_segmentNumber_36 : decode cX3_segmentNumber 36 = .ok (.aload_n 0, 1) := by decide +kernel
theorem dX3_segmentNumber_37 : decode cX3_segmentNumber 37 = .ok (.getfield 12, 3) := by decide +kernel
theorem dX3_segmentNumber_40 : decode cX3_segmentNumber 40 = .ok (.iload_n 1, 1) := by decide +kernel
theorem dX3_segmentNumber_41 : decode cX3_segmentNumber 41 = .ok (.invokevirtual 112, 3) := by decide +kernel
theorem dX3_segmentNumber_44 : decode cX3_segmentNumber 44 = .ok (.ireturn, 1) := by decide +kernel
theorem dX3_segmentNumber_45 : decode cX3_segmentNumber 45 = .ok (.aload_n 0, 1) := by decide +kernel
theorem dX3_segmentNumber_46 : decode cX3_segmentNumber 46 = .ok (.getfield 12, 3) := by decide +kernel
theorem dX3_segmentNumber_49 : decode cX3_segmentNumber 49 = .ok (.iload_n 1, 1) := by decide +kernel
theorem dX3_segmentNumber_50 : decode cX3_segmentNumber 50 = .ok (.invokevirtual 115, 3) := by decide +kernel
theorem dX3_segmentNumber_53 : decode cX3_segmentNumber 53 = .ok (.aload_n 0, 1) := by decide +kernel
theorem dX3_segmentNumber_54 : decode cX3_segmentNumber 54 = .ok (.getfield 12, 3) := by decide +kernel
theorem dX3_segmentNumber_57 : decode cX3_segmentNumber 57 = .ok (.iload_n 1, 1) := by decide +kernel
theorem dX3_segmentNumber_58 : decode cX3_segmentNumber 58 = .ok (.invokevirtual 112, 3) := by decide +kernel
theorem dX3_segmentNumber_61 : decode cX3_segmentNumber 61 = .ok (.isub, 1) := by decide +kernel
theorem dX3_segmentNumber_62 : decode cX3_segmentNumber 62 = .ok (.ireturn, 1) := by decide +kernel
theorem dX3_segmentNumber_63 : decode cX3_segmentNumber 63 = .ok (.aload_n 0, 1) := by decide +kernel
theorem dX3_segmentNumber_64 : decode cX3_segmentNumber 64 = .ok (.getfield 12, 3) := by decide +kernel
theorem dX3_segmentNumber_67 : decode cX3_segmentNumber 67 = .ok (.aload_n 0, 1) := by decide +kernel
theorem dX3_segmentNumber_68 : decode cX3_segmentNumber 68 = .ok (.getfield 12, 3) := by decide +kernel
theorem dX3_segmentNumber_71 : decode cX3_segmentNumber 71 = .ok (.iload_n 1, 1) := by decide +kernel
theorem dX3_segmentNumber_72 : decode cX3_segmentNumber 72 = .ok (.invokevirtual 112, 3) := by decide +kernel
theorem dX3_segmentNumber_75 : decode cX3_segmentNumber 75 = .ok (.aload_n 0, 1) := by decide +kernel
theorem dX3_segmentNumber_76 : decode cX3_segmentNumber 76 = .ok (.getfield 12, 3) := by decide +kernel
theorem dX3_segmentNumber_79 : decode cX3_segmentNumber 79 = .ok (.iload_n 1, 1) := by decide +kernel
theorem dX3_segmentNumber_80 : decode cX3_segmentNumber 80 = .ok (.invokevirtual 115, 3) := by decide +kernel
theorem dX3_segmentNumber_83 : decode cX3_segmentNumber 83 = .ok (.invokevirtual 118, 3) := by decide +kernel
theorem dX3_segmentNumber_86 : decode cX3_segmentNumber 86 = .ok (.ireturn, 1) := by decide +kernel
theorem dX3_segmentNumber_87 : decode cX3_segmentNumber 87 = .ok (.iload_n 1, 1) := by decide +kernel
theorem dX3_segmentNumber_88 : decode cX3_segmentNumber 88 = .ok (.aload_n 0, 1) := by decide +kernel
theorem dX3_segmentNumber_89 : decode cX3_segmentNumber 89 = .ok (.getfield 12, 3) := by decide +kernel
theorem dX3_segmentNumber_92 : decode cX3_segmentNumber 92 = .ok (.invokevirtual 92, 3) := by decide +kernel
theorem dX3_segmentNumber_95 : decode cX3_segmentNumber 95 = .ok (.iconst 1, 1) := by decide +kernel
theorem dX3_segmentNumber_96 : decode cX3_segmentNumber 96 = .ok (.isub, 1) := by decide +kernel
theorem dX3_segmentNumber_97 : decode cX3_segmentNumber 97 = .ok (.if_icmp .ge 7, 3) := by decide +kernel
theorem dX3_segmentNumber_100 : decode cX3_segmentNumber 100 = .ok (.iconst 1, 1) := by decide +kernel
theorem dX3_segmentNumber_101 : decode cX3_segmentNumber 101 = .ok (.goto 4, 3) := by decide +kernel
theorem dX3_segmentNumber_104 : decode cX3_segmentNumber 104 = .ok (.iconst 0, 1) := by decide +kernel
theorem dX3_segmentNumber_105 : decode cX3_segmentNumber 105 = .ok (.invokestatic 81, 3) := by decide +kernel
theorem dX3_segmentNumber_108 : decode cX3_segmentNumber 108 = .ok (.ireturn, 1) := by decide +kernel
theorem dX3_segmentNumber_109 : decode cX3_segmentNumber 109 = .ok (.aload_n 0, 1) := by decide +kernel
theorem dX3_segmentNumber_110 : decode cX3_segmentNumber 110 = .ok (.aload_n 0, 1) := by decide +kernel
theorem dX3_segmentNumber_111 : decode cX3_segmentNumber 111 = .ok (.getfield 12, 3) := by decide +kernel
theorem dX3_segmentNumber_114 : decode cX3_segmentNumber 114 = .ok (.iload_n 1, 1) := by decide +kernel
theorem dX3_segmentNumber_115 : decode cX3_segmentNumber 115 = .ok (.invokevirtual 115, 3) := by decide +kernel
theorem dX3_segmentNumber_118 : decode cX3_segmentNumber 118 = .ok (.iconst 1, 1) := by decide +kernel
theorem dX3_segmentNumber_119 : decode cX3_segmentNumber 119 = .ok (.isub, 1) := by decide +kernel
theorem dX3_segmentNumber_120 : decode cX3_segmentNumber 120 = .ok (.invokevirtual 122, 3) := by decide +kernel
theorem dX3_segmentNumber_123 : decode cX3_segmentNumber 123 = .ok (.invokestatic 81, 3) := by decide +kernel
theorem dX3_segmentNumber_126 : decode cX3_segmentNumber 126 = .ok (.ireturn, 1) := by decide +kernel
theorem dX3_segmentNumber_127 : decode cX3_segmentNumber 127 = .ok (.aload_n 0, 1) := by decide +kernel
theorem dX3_segmentNumber_128 : decode cX3_segmentNumber 128 = .ok (.aload_n 0, 1) := by decide +kernel
theorem dX3_segmentNumber_129 : decode cX3_segmentNumber 129 = .ok (.getfield 12, 3) := by decide +kernel
theorem dX3_segmentNumber_132 : decode cX3_segmentNumber 132 = .ok (.iload_n 1, 1) := by decide +kernel
theorem dX3_segmentNumber_133 : decode cX3_segmentNumber 133 = .ok (.invokevirtual 115, 3) := by decide +kernel
theorem dX3_segmentNumber_136 : decode cX3_segmentNumber 136 = .ok (.iconst 1, 1) := by decide +kernel
theorem dX3_segmentNumber_137 : decode cX3_segmentNumber 137 = .ok (.isub, 1) := by decide +kernel
theorem dX3_segmentNumber_138 : decode cX3_segmentNumber 138 = .ok (.invokevirtual 102, 3) := by decide +kernel
theorem dX3_segmentNumber_141 : decode cX3_segmentNumber 141 = .ok (.ifCond .le 7, 3) := by decide +kernel
theorem dX3_segmentNumber_144 : decode cX3_segmentNumber 144 = .ok (.iconst 1, 1) := by decide +kernel
theorem dX3_segmentNumber_145 : decode cX3_segmentNumber 145 = .ok (.goto 4, 3) := by decide +kernel
theorem dX3_segmentNumber_148 : decode cX3_segmentNumber 148 = .ok (.iconst 0, 1) := by decide +kernel
theorem dX3_segmentNumber_149 : decode cX3_segmentNumber 149 = .ok (.invokestatic 81, 3) := by decide +kernel
theorem dX3_segmentNumber_152 : decode cX3_segmentNumber 152 = .ok (.ireturn, 1) := by decide +kernel
def P_S_segmentNumber (x1 : Int32) (x2 : Int32) (v0 : ST) (Q : Int32 → Prop) : Prop := ((x2 = 0 → P_L_startOf x1 (S_log v0) (fun r2_ => (Q r2_))) ∧ (¬ x2 = 0 → ((x2 = 1 → P_L_endOf x1 (S_log v0) (fun r7_ => (P_L_startOf x1 (S_log v0) (fun r11_ => (Q (r7_ - r11_)))))) ∧ (¬ x2 = 1 → ((x2 = 2 → P_L_startOf x1 (S_log v0) (fun r16_ => (P_L_endOf x1 (S_log v0) (fun r20_ => (P_L_lengthOf r16_ r20_ (S_log v0) (fun r24_ => (Q r24_))))))) ∧ (¬ x2 = 2 → ((x2 = 3 → P_L_segments (S_log v0) (fun r29_ => ((((r29_ - 1) ≤ x1 → P_T_asNumber 0 (fun r34_ => (Q r34_))) ∧ (¬ (r29_ - 1) ≤ x1 → P_T_asNumber 1 (fun r38_ => (Q r38_))))))) ∧ (¬ x2 = 3 → ((x2 = 4 → P_L_endOf x1 (S_log v0) (fun r43_ => (P_S_isDue (r43_ - 1) v0 (fun r47_ => (P_T_asNumber r47_ (fun r51_ => (Q r51_))))))) ∧ (¬ x2 = 4 → P_L_endOf x1 (S_log v0) (fun r55_ => (P_S_holdersUpTo (r55_ - 1) v0 (fun r59_ => (((r59_ ≤ 0 → P_T_asNumber 0 (fun r64_ => (Q r64_))) ∧ (¬ r59_ ≤ 0 → P_T_asNumber 1 (fun r68_ => (Q r68_))))))))))))))))))
set_option maxRecDepth 100000 in
theorem s_S_segmentNumber {l : Launch} {D : zD} {B : Nat} {sa : Nat → Nat} (hfl : l.stackTraces = false) {z : Nat} {G : zG} {b0 : Nat} {x1 : Int32} {x2 : Int32} {v0 : ST} {Q : Int32 → Prop} (h0 : SA b0 v0 G) (h : P_S_segmentNumber x1 x2 v0 Q) : zSp l D B sa yX3_segmentNumber cX3_segmentNumber 3 (some .int) 2 44 0 0 [.ref b0, .int x1, .int x2] z G (zRi fun r z' G' => z = z' ∧ G = G' ∧ Q r) := by
  unfold P_S_segmentNumber at h
  refine z_ofW (by decide +kernel) hfl [some (.ref b0), some (.int x1), some (.int x2)] rfl (Nat.le_of_ble_eq_true rfl) (fun p e s m args below meth c O hret hlk hnm => ?_)
  have O : zO p l s m args c D B sa 3 cX3_segmentNumber RX3 := O
  refine z_iload_n O dX3_segmentNumber_0 rfl rfl ?_
  rcases Decidable.em (x2 = 0) with c1_ | c1_
  · have h := h.1 c1_
    refine z_tsw (v := 0) (tgt := 36) O dX3_segmentNumber_1 c1_ (by decide) (by decide) rfl (by decide) ?_
    refine z_aload_n O dX3_segmentNumber_36 rfl rfl ?_
    refine z_get (v := .ref (b0 + 1)) O wf_RX3_12 dX3_segmentNumber_37 (S_obj h0) rfl ?_
    refine z_iload_n O dX3_segmentNumber_40 rfl rfl ?_
    refine z_callVi (As := [.int x1]) (st := []) O (s_L_startOf hfl (S_log_of h0) h) wy_X1_startOf wl_RX3_112 dX3_segmentNumber_41 rfl rfl (L_obj (S_log_of h0)) ⟨by decide, rfl⟩ ⟨Nat.le_of_ble_eq_true rfl, Nat.le_of_ble_eq_true rfl⟩ (Nat.le_of_ble_eq_true rfl) ⟨Nat.le_of_ble_eq_true rfl, Nat.le_of_ble_eq_true rfl⟩ (fun r2_ z3_ G4_ hq5_ => ?_)
    obtain ⟨rfl, rfl, h⟩ := hq5_
    exact z_iret O hret hlk dX3_segmentNumber_44 (Nat.le_of_ble_eq_true rfl) (Nat.le_of_ble_eq_true rfl) ⟨_, rfl, rfl, rfl, h⟩
  · have h := h.2 c1_
    rcases Decidable.em (x2 = 1) with c6_ | c6_
    · have h := h.1 c6_
      refine z_tsw (v := 1) (tgt := 45) O dX3_segmentNumber_1 c6_ (by decide) (by decide) rfl (by decide) ?_
      refine z_aload_n O dX3_segmentNumber_45 rfl rfl ?_
      refine z_get (v := .ref (b0 + 1)) O wf_RX3_12 dX3_segmentNumber_46 (S_obj h0) rfl ?_
      refine z_iload_n O dX3_segmentNumber_49 rfl rfl ?_
      refine z_callVi (As := [.int x1]) (st := []) O (s_L_endOf hfl (S_log_of h0) h) wy_X1_endOf wl_RX3_115 dX3_segmentNumber_50 rfl rfl (L_obj (S_log_of h0)) ⟨by decide, rfl⟩ ⟨Nat.le_of_ble_eq_true rfl, Nat.le_of_ble_eq_true rfl⟩ (Nat.le_of_ble_eq_true rfl) ⟨Nat.le_of_ble_eq_true rfl, Nat.le_of_ble_eq_true rfl⟩ (fun r7_ z8_ G9_ hq10_ => ?_)
      obtain ⟨rfl, rfl, h⟩ := hq10_
      refine z_aload_n O dX3_segmentNumber_53 rfl rfl ?_
      refine z_get (v := .ref (b0 + 1)) O wf_RX3_12 dX3_segmentNumber_54 (S_obj h0) rfl ?_
      refine z_iload_n O dX3_segmentNumber_57 rfl rfl ?_
      refine z_callVi (As := [.int x1]) (st := [.int r7_]) O (s_L_startOf hfl (S_log_of h0) h) wy_X1_startOf wl_RX3_112 dX3_segmentNumber_58 rfl rfl (L_obj (S_log_of h0)) ⟨by decide, rfl⟩ ⟨Nat.le_of_ble_eq_true rfl, Nat.le_of_ble_eq_true rfl⟩ (Nat.le_of_ble_eq_true rfl) ⟨Nat.le_of_ble_eq_true rfl, Nat.le_of_ble_eq_true rfl⟩ (fun r11_ z12_ G13_ hq14_ => ?_)
      obtain ⟨rfl, rfl, h⟩ := hq14_
      refine z_isub O dX3_segmentNumber_61 ?_
      exact z_iret O hret hlk dX3_segmentNumber_62 (Nat.le_of_ble_eq_true rfl) (Nat.le_of_ble_eq_true rfl) ⟨_, rfl, rfl, rfl, h⟩
    · have h := h.2 c6_
      rcases Decidable.em (x2 = 2) with c15_ | c15_
      · have h := h.1 c15_
        refine z_tsw (v := 2) (tgt := 63) O dX3_segmentNumber_1 c15_ (by decide) (by decide) rfl (by decide) ?_
        refine z_aload_n O dX3_segmentNumber_63 rfl rfl ?_
        refine z_get (v := .ref (b0 + 1)) O wf_RX3_12 dX3_segmentNumber_64 (S_obj h0) rfl ?_
        refine z_aload_n O dX3_segmentNumber_67 rfl rfl ?_
        refine z_get (v := .ref (b0 + 1)) O wf_RX3_12 dX3_segmentNumber_68 (S_obj h0) rfl ?_
        refine z_iload_n O dX3_segmentNumber_71 rfl rfl ?_
        refine z_callVi (As := [.int x1]) (st := [.ref (b0 + 1)]) O (s_L_startOf hfl (S_log_of h0) h) wy_X1_startOf wl_RX3_112 dX3_segmentNumber_72 rfl rfl (L_obj (S_log_of h0)) ⟨by decide, rfl⟩ ⟨Nat.le_of_ble_eq_true rfl, Nat.le_of_ble_eq_true rfl⟩ (Nat.le_of_ble_eq_true rfl) ⟨Nat.le_of_ble_eq_true rfl, Nat.le_of_ble_eq_true rfl⟩ (fun r16_ z17_ G18_ hq19_ => ?_)
        obtain ⟨rfl, rfl, h⟩ := hq19_
        refine z_aload_n O dX3_segmentNumber_75 rfl rfl ?_
        refine z_get (v := .ref (b0 + 1)) O wf_RX3_12 dX3_segmentNumber_76 (S_obj h0) rfl ?_
        refine z_iload_n O dX3_segmentNumber_79 rfl rfl ?_
        refine z_callVi (As := [.int x1]) (st := [.int r16_, .ref (b0 + 1)]) O (s_L_endOf hfl (S_log_of h0) h) wy_X1_endOf wl_RX3_115 dX3_segmentNumber_80 rfl rfl (L_obj (S_log_of h0)) ⟨by decide, rfl⟩ ⟨Nat.le_of_ble_eq_true rfl, Nat.le_of_ble_eq_true rfl⟩ (Nat.le_of_ble_eq_true rfl) ⟨Nat.le_of_ble_eq_true rfl, Nat.le_of_ble_eq_true rfl⟩ (fun r20_ z21_ G22_ hq23_ => ?_)
        obtain ⟨rfl, rfl, h⟩ := hq23_
        refine z_callVi (As := [.int r16_, .int r20_]) (st := []) O (s_L_lengthOf hfl (S_log_of h0) h) wy_X1_lengthOf wl_RX3_118 dX3_segmentNumber_83 rfl rfl (L_obj (S_log_of h0)) ⟨by decide, rfl⟩ ⟨Nat.le_of_ble_eq_true rfl, Nat.le_of_ble_eq_true rfl⟩ (Nat.le_of_ble_eq_true rfl) ⟨Nat.le_of_ble_eq_true rfl, Nat.le_of_ble_eq_true rfl⟩ (fun r24_ z25_ G26_ hq27_ => ?_)
        obtain ⟨rfl, rfl, h⟩ := hq27_
        exact z_iret O hret hlk dX3_segmentNumber_86 (Nat.le_of_ble_eq_true rfl) (Nat.le_of_ble_eq_true rfl) ⟨_, rfl, rfl, rfl, h⟩
      · have h := h.2 c15_
        rcases Decidable.em (x2 = 3) with c28_ | c28_
        · have h := h.1 c28_
          refine z_tsw (v := 3) (tgt := 87) O dX3_segmentNumber_1 c28_ (by decide) (by decide) rfl (by decide) ?_
          refine z_iload_n O dX3_segmentNumber_87 rfl rfl ?_
          refine z_aload_n O dX3_segmentNumber_88 rfl rfl ?_
          refine z_get (v := .ref (b0 + 1)) O wf_RX3_12 dX3_segmentNumber_89 (S_obj h0) rfl ?_
          refine z_callVi (As := []) (st := [.int x1]) O (s_L_segments hfl (S_log_of h0) h) wy_X1_segments wl_RX3_92 dX3_segmentNumber_92 rfl rfl (L_obj (S_log_of h0)) ⟨by decide, rfl⟩ ⟨Nat.le_of_ble_eq_true rfl, Nat.le_of_ble_eq_true rfl⟩ (Nat.le_of_ble_eq_true rfl) ⟨Nat.le_of_ble_eq_true rfl, Nat.le_of_ble_eq_true rfl⟩ (fun r29_ z30_ G31_ hq32_ => ?_)
          obtain ⟨rfl, rfl, h⟩ := hq32_
          refine z_iconst (v := 1) O dX3_segmentNumber_95 (by decide) ?_
          refine z_isub O dX3_segmentNumber_96 ?_
          refine z_icmp_ge (tgt := 104) O dX3_segmentNumber_97 (by decide) (fun c33_ => ?_) (fun c33_ => ?_)
          · have h := h.1 c33_
            refine z_iconst (v := 0) O dX3_segmentNumber_104 (by decide) ?_
            refine z_callNi (As := [.int 0]) (st := []) O (s_T_asNumber hfl h) wy_X5_asNumber wl_RX3_81 dX3_segmentNumber_105 rfl rfl ⟨Nat.le_of_ble_eq_true rfl, Nat.le_of_ble_eq_true rfl⟩ (Nat.le_of_ble_eq_true rfl) ⟨Nat.le_of_ble_eq_true rfl, Nat.le_of_ble_eq_true rfl⟩ (fun r34_ z35_ G36_ hq37_ => ?_)
            obtain ⟨rfl, rfl, h⟩ := hq37_
            exact z_iret O hret hlk dX3_segmentNumber_108 (Nat.le_of_ble_eq_true rfl) (Nat.le_of_ble_eq_true rfl) ⟨_, rfl, rfl, rfl, h⟩
          · have h := h.2 c33_
            refine z_iconst (v := 1) O dX3_segmentNumber_100 (by decide) ?_
            refine z_goto (tgt := 105) O dX3_segmentNumber_101 (by decide) ?_
            refine z_callNi (As := [.int 1]) (st := []) O (s_T_asNumber hfl h) wy_X5_asNumber wl_RX3_81 dX3_segmentNumber_105 rfl rfl ⟨Nat.le_of_ble_eq_true rfl, Nat.le_of_ble_eq_true rfl⟩ (Nat.le_of_ble_eq_true rfl) ⟨Nat.le_of_ble_eq_true rfl, Nat.le_of_ble_eq_true rfl⟩ (fun r38_ z39_ G40_ hq41_ => ?_)
            obtain ⟨rfl, rfl, h⟩ := hq41_
            exact z_iret O hret hlk dX3_segmentNumber_108 (Nat.le_of_ble_eq_true rfl) (Nat.le_of_ble_eq_true rfl) ⟨_, rfl, rfl, rfl, h⟩
        · have h := h.2 c28_
          rcases Decidable.em (x2 = 4) with c42_ | c42_
          · have h := h.1 c42_
            refine z_tsw (v := 4) (tgt := 109) O dX3_segmentNumber_1 c42_ (by decide) (by decide) rfl (by decide) ?_
            refine z_aload_n O dX3_segmentNumber_109 rfl rfl ?_
            refine z_aload_n O dX3_segmentNumber_110 rfl rfl ?_
            refine z_get (v := .ref (b0 + 1)) O wf_RX3_12 dX3_segmentNumber_111 (S_obj h0) rfl ?_
            refine z_iload_n O dX3_segmentNumber_114 rfl rfl ?_
            refine z_callVi (As := [.int x1]) (st := [.ref b0]) O (s_L_endOf hfl (S_log_of h0) h) wy_X1_endOf wl_RX3_115 dX3_segmentNumber_115 rfl rfl (L_obj (S_log_of h0)) ⟨by decide, rfl⟩ ⟨Nat.le_of_ble_eq_true rfl, Nat.le_of_ble_eq_true rfl⟩ (Nat.le_of_ble_eq_true rfl) ⟨Nat.le_of_ble_eq_true rfl, Nat.le_of_ble_eq_true rfl⟩ (fun r43_ z44_ G45_ hq46_ => ?_)
            obtain ⟨rfl, rfl, h⟩ := hq46_
            refine z_iconst (v := 1) O dX3_segmentNumber_118 (by decide) ?_
            refine z_isub O dX3_segmentNumber_119 ?_
            refine z_callVi (As := [.int (r43_ - 1)]) (st := []) O (s_S_isDue hfl h0 h) wy_X3_isDue wl_RX3_122 dX3_segmentNumber_120 rfl rfl (S_obj h0) ⟨by decide, rfl⟩ ⟨Nat.le_of_ble_eq_true rfl, Nat.le_of_ble_eq_true rfl⟩ (Nat.le_of_ble_eq_true rfl) ⟨Nat.le_of_ble_eq_true rfl, Nat.le_of_ble_eq_true rfl⟩ (fun r47_ z48_ G49_ hq50_ => ?_)
            obtain ⟨rfl, rfl, h⟩ := hq50_
            refine z_callNi (As := [.int r47_]) (st := []) O (s_T_asNumber hfl h) wy_X5_asNumber wl_RX3_81 dX3_segmentNumber_123 rfl rfl ⟨Nat.le_of_ble_eq_true rfl, Nat.le_of_ble_eq_true rfl⟩ (Nat.le_of_ble_eq_true rfl) ⟨Nat.le_of_ble_eq_true rfl, Nat.le_of_ble_eq_true rfl⟩ (fun r51_ z52_ G53_ hq54_ => ?_)
            obtain ⟨rfl, rfl, h⟩ := hq54_
            exact z_iret O hret hlk dX3_segmentNumber_126 (Nat.le_of_ble_eq_true rfl) (Nat.le_of_ble_eq_true rfl) ⟨_, rfl, rfl, rfl, h⟩
          · have h := h.2 c42_
            refine z_tswd (tgt := 127) O dX3_segmentNumber_1 (zsw_out (fun j h1 h2 => by rcases (show j = 0 ∨ j = 1 ∨ j = 2 ∨ j = 3 ∨ j = 4 by omega) with rfl | rfl | rfl | rfl | rfl; exact c1_; exact c6_; exact c15_; exact c28_; exact c42_)) (by decide) ?_
            refine z_aload_n O dX3_segmentNumber_127 rfl rfl ?_
            refine z_aload_n O dX3_segmentNumber_128 rfl rfl ?_
            refine z_get (v := .ref (b0 + 1)) O wf_RX3_12 dX3_segmentNumber_129 (S_obj h0) rfl ?_
            refine z_iload_n O dX3_segmentNumber_132 rfl rfl ?_
            refine z_callVi (As := [.int x1]) (st := [.ref b0]) O (s_L_endOf hfl (S_log_of h0) h) wy_X1_endOf wl_RX3_115 dX3_segmentNumber_133 rfl rfl (L_obj (S_log_of h0)) ⟨by decide, rfl⟩ ⟨Nat.le_of_ble_eq_true rfl, Nat.le_of_ble_eq_true rfl⟩ (Nat.le_of_ble_eq_true rfl) ⟨Nat.le_of_ble_eq_true rfl, Nat.le_of_ble_eq_true rfl⟩ (fun r55_ z56_ G57_ hq58_ => ?_)
            obtain ⟨rfl, rfl, h⟩ := hq58_
            refine z_iconst (v := 1) O dX3_segmentNumber_136 (by decide) ?_
            refine z_isub O dX3_segmentNumber_137 ?_
            refine z_callVi (As := [.int (r55_ - 1)]) (st := []) O (s_S_holdersUpTo hfl h0 h) wy_X3_holdersUpTo wl_RX3_102 dX3_segmentNumber_138 rfl rfl (S_obj h0) ⟨by decide, rfl⟩ ⟨Nat.le_of_ble_eq_true rfl, Nat.le_of_ble_eq_true rfl⟩ (Nat.le_of_ble_eq_true rfl) ⟨Nat.le_of_ble_eq_true rfl, Nat.le_of_ble_eq_true rfl⟩ (fun r59_ z60_ G61_ hq62_ => ?_)
            obtain ⟨rfl, rfl, h⟩ := hq62_
            refine z_if_le (tgt := 148) O dX3_segmentNumber_141 (by decide) (fun c63_ => ?_) (fun c63_ => ?_)
            · have h := h.1 c63_
              refine z_iconst (v := 0) O dX3_segmentNumber_148 (by decide) ?_
              refine z_callNi (As := [.int 0]) (st := []) O (s_T_asNumber hfl h) wy_X5_asNumber wl_RX3_81 dX3_segmentNumber_149 rfl rfl ⟨Nat.le_of_ble_eq_true rfl, Nat.le_of_ble_eq_true rfl⟩ (Nat.le_of_ble_eq_true rfl) ⟨Nat.le_of_ble_eq_true rfl, Nat.le_of_ble_eq_true rfl⟩ (fun r64_ z65_ G66_ hq67_ => ?_)
              obtain ⟨rfl, rfl, h⟩ := hq67_
              exact z_iret O hret hlk dX3_segmentNumber_152 (Nat.le_of_ble_eq_true rfl) (Nat.le_of_ble_eq_true rfl) ⟨_, rfl, rfl, rfl, h⟩
            · have h := h.2 c63_
              refine z_iconst (v := 1) O dX3_segmentNumber_144 (by decide) ?_
              refine z_goto (tgt := 149) O dX3_segmentNumber_145 (by decide) ?_
              refine z_callNi (As := [.int 1]) (st := []) O (s_T_asNumber hfl h) wy_X5_asNumber wl_RX3_81 dX3_segmentNumber_149 rfl rfl ⟨Nat.le_of_ble_eq_true rfl, Nat.le_of_ble_eq_true rfl⟩ (Nat.le_of_ble_eq_true rfl) ⟨Nat.le_of_ble_eq_true rfl, Nat.le_of_ble_eq_true rfl⟩ (fun r68_ z69_ G70_ hq71_ => ?_)
              obtain ⟨rfl, rfl, h⟩ := hq71_
              exact z_iret O hret hlk dX3_segmentNumber_152 (Nat.le_of_ble_eq_true rfl) (Nat.le_of_ble_eq_true rfl) ⟨_, rfl, rfl, rfl, h⟩

theorem dX3_readerNumber_0 : decode cX3_readerNumber 0 = .ok (.iload_n 2, 1) := by decide +kernel
theorem dX3_readerNumber_1 : decode cX3_readerNumber 1 = .ok (.tableswitch 127 0 7 #[47, 52, 60, 65, 70, 75, 98, 110], 47) := by decide +kernel
theorem dX3_readerNumber_48 : decode cX3_readerNumber 48 = .ok (.aload_n 1, 1) := by decide +kernel
theorem dX3_readerNumber_49 : decode cX3_readerNumber 49 = .ok (.getfield 75, 3) := by decide +kernel
theorem dX3_readerNumber_52 : decode cX3_readerNumber 52 = .ok (.ireturn, 1) := by decide +kernel
theorem dX3_readerNumber_53 : decode cX3_readerNumber 53 = .ok (.aload_n 1, 1) := by decide +kernel
theorem dX3_readerNumber_54 : decode cX3_readerNumber 54 = .ok (.getfield 72, 3) := by decide +kernel
theorem dX3_readerNumber_57 : decode cX3_readerNumber 57 = .ok (.invokestatic 81, 3) := by decide +kernel
theorem dX3_readerNumber_60 : decode cX3_readerNumber 60 = .ok (.ireturn, 1) := by decide +kernel
theorem dX3_readerNumber_61 : decode cX3_readerNumber 61 = .ok (.aload_n 1, 1) := by decide +kernel
theorem dX3_readerNumber_62 : decode cX3_readerNumber 62 = .ok (.getfield 125, 3) := by decide +kernel
theorem dX3_readerNumber_65 : decode cX3_readerNumber 65 = .ok (.ireturn, 1) := by decide +kernel
theorem dX3_readerNumber_66 : decode cX3_readerNumber 66 = .ok (.aload_n 1, 1) := by decide +kernel
theorem dX3_readerNumber_67 : decode cX3_readerNumber 67 = .ok (.getfield 128, 3) := by decide +kernel
theorem dX3_readerNumber_70 : decode cX3_readerNumber 70 = .ok (.ireturn, 1) := by decide +kernel
theorem dX3_readerNumber_71 : decode cX3_readerNumber 71 = .ok (.aload_n 1, 1) := by decide +kernel
theorem dX3_readerNumber_72 : decode cX3_readerNumber 72 = .ok (.getfield 131, 3) := by decide +kernel
theorem dX3_readerNumber_75 : decode cX3_readerNumber 75 = .ok (.ireturn, 1) := by decide +kernel
theorem dX3_readerNumber_76 : decode cX3_readerNumber 76 = .ok (.aload_n 0, 1) := by decide +kernel
theorem dX3_readerNumber_77 : decode cX3_readerNumber 77 = .ok (.getfield 12, 3) := by decide +kernel
theorem dX3_readerNumber_80 : decode cX3_readerNumber 80 = .ok (.getfield 89, 3) := by decide +kernel
theorem dX3_readerNumber_83 : decode cX3_readerNumber 83 = .ok (.aload_n 1, 1) := by decide +kernel
theorem dX3_readerNumber_84 : decode cX3_readerNumber 84 = .ok (.getfield 75, 3) := by decide +kernel
theorem dX3_readerNumber_87 : decode cX3_readerNumber 87 = .ok (.aload_n 0, 1) := by decide +kernel
theorem dX3_readerNumber_88 : decode cX3_readerNumber 88 = .ok (.getfield 12, 3) := by decide +kernel
theorem dX3_readerNumber_91 : decode cX3_readerNumber 91 = .ok (.getfield 78, 3) := by decide +kernel
theorem dX3_readerNumber_94 : decode cX3_readerNumber 94 = .ok (.invokestatic 134, 3) := by decide +kernel
theorem dX3_readerNumber_97 : decode cX3_readerNumber 97 = .ok (.isub, 1) := by decide +kernel
theorem dX3_readerNumber_98 : decode cX3_readerNumber 98 = .ok (.ireturn, 1) := by decide +kernel
theorem dX3_readerNumber_99 : decode cX3_readerNumber 99 = .ok (.aload_n 0, 1) := by decide +kernel
theorem dX3_readerNumber_100 : decode cX3_readerNumber 100 = .ok (.getfield 12, 3) := by decide +kernel
theorem dX3_readerNumber_103 : decode cX3_readerNumber 103 = .ok (.aload_n 1, 1) := by decide +kernel
theorem dX3_readerNumber_104 : decode cX3_readerNumber 104 = .ok (.getfield 75, 3) := by decide +kernel
theorem dX3_readerNumber_107 : decode cX3_readerNumber 107 = .ok (.invokevirtual 139, 3) := by decide +kernel
theorem dX3_readerNumber_110 : decode cX3_readerNumber 110 = .ok (.ireturn, 1) := by decide +kernel
theorem dX3_readerNumber_111 : decode cX3_readerNumber 111 = .ok (.aload_n 0, 1) := by decide +kernel
theorem dX3_readerNumber_112 : decode cX3_readerNumber 112 = .ok (.getfield 12, 3) := by decide +kernel
theorem dX3_readerNumber_115 : decode cX3_readerNumber 115 = .ok (.getfield 78, 3) := by decide +kernel
theorem dX3_readerNumber_118 : decode cX3_readerNumber 118 = .ok (.aload_n 1, 1) := by decide +kernel
theorem dX3_readerNumber_119 : decode cX3_readerNumber 119 = .ok (.getfield 75, 3) := by decide +kernel
theorem dX3_readerNumber_122 : decode cX3_readerNumber 122 = .ok (.isub, 1) := by decide +kernel
theorem dX3_readerNumber_123 : decode cX3_readerNumber 123 = .ok (.iconst 0, 1) := by decide +kernel
theorem dX3_readerNumber_124 : decode cX3_readerNumber 124 = .ok (.invokestatic 134, 3) := by decide +kernel
theorem dX3_readerNumber_127 : decode cX3_readerNumber 127 = .ok (.ireturn, 1) := by decide +kernel
theorem dX3_readerNumber_128 : decode cX3_readerNumber 128 = .ok (.aload_n 1, 1) := by decide +kernel
theorem dX3_readerNumber_129 : decode cX3_readerNumber 129 = .ok (.getfield 142, 3) := by decide +kernel
theorem dX3_readerNumber_132 : decode cX3_readerNumber 132 = .ok (.ireturn, 1) := by decide +kernel
def P_S_readerNumber (i1 : Nat) (x2 : Int32) (v0 : ST) (Q : Int32 → Prop) : Prop := ((x2 = 0 → Q (R_place (S_readers v0 i1))) ∧ (¬ x2 = 0 → ((x2 = 1 → P_T_asNumber (R_held (S_readers v0 i1)) (fun r3_ => (Q r3_))) ∧ (¬ x2 = 1 → ((x2 = 2 → Q (R_readSoFar (S_readers v0 i1))) ∧ (¬ x2 = 2 → ((x2 = 3 → Q (R_missedSoFar (S_readers v0 i1))) ∧ (¬ x2 = 3 → ((x2 = 4 → Q (R_lastRead (S_readers v0 i1))) ∧ (¬ x2 = 4 → ((x2 = 5 → Q ((L_end (S_log v0)) - (zmax (R_place (S_readers v0 i1)) (L_first (S_log v0))))) ∧ (¬ x2 = 5 → ((x2 = 6 → P_L_lengthFrom (R_place (S_readers v0 i1)) (S_log v0) (fun r12_ => (Q r12_))) ∧ (¬ x2 = 6 → ((x2 = 7 → Q (zmax ((L_first (S_log v0)) - (R_place (S_readers v0 i1))) 0)) ∧ (¬ x2 = 7 → Q (R_lostBy (S_readers v0 i1))))))))))))))))))
set_option maxRecDepth 100000 in
theorem s_S_readerNumber {l : Launch} {D : zD} {B : Nat} {sa : Nat → Nat} (hfl : l.stackTraces = false) {z : Nat} {G : zG} {b0 : Nat} {i1 : Nat} {x2 : Int32} {v0 : ST} {Q : Int32 → Prop} (h0 : SA b0 v0 G) (hi1 : i1 < 8) (h : P_S_readerNumber i1 x2 v0 Q) : zSp l D B sa yX3_readerNumber cX3_readerNumber 3 (some .int) 2 42 0 0 [.ref b0, .ref (b0 + 10 + 2 * i1), .int x2] z G (zRi fun r z' G' => z = z' ∧ G = G' ∧ Q r) := by
  unfold P_S_readerNumber at h
  refine z_ofW (by decide +kernel) hfl [some (.ref b0), some (.ref (b0 + 10 + 2 * i1)), some (.int x2)] rfl (Nat.le_of_ble_eq_true rfl) (fun p e s m args below meth c O hret hlk hnm => ?_)
  have O : zO p l s m args c D B sa 3 cX3_readerNumber RX3 := O
  refine z_iload_n O dX3_readerNumber_0 rfl rfl ?_
  rcases Decidable.em (x2 = 0) with c1_ | c1_
  · have h := h.1 c1_
    refine z_tsw (v := 0) (tgt := 48) O dX3_readerNumber_1 c1_ (by decide) (by decide) rfl (by decide) ?_
    refine z_aload_n O dX3_readerNumber_48 rfl rfl ?_
    refine z_get (v := .int (R_place (S_readers v0 i1))) O wf_RX3_75 dX3_readerNumber_49 (R_obj (S_readers_of h0 hi1)) rfl ?_
    exact z_iret O hret hlk dX3_readerNumber_52 (Nat.le_of_ble_eq_true rfl) (Nat.le_of_ble_eq_true rfl) ⟨_, rfl, rfl, rfl, h⟩
  · have h := h.2 c1_
    rcases Decidable.em (x2 = 1) with c2_ | c2_
    · have h := h.1 c2_
      refine z_tsw (v := 1) (tgt := 53) O dX3_readerNumber_1 c2_ (by decide) (by decide) rfl (by decide) ?_
      refine z_aload_n O dX3_readerNumber_53 rfl rfl ?_
      refine z_get (v := .int (R_held (S_readers v0 i1))) O wf_RX3_72 dX3_readerNumber_54 (R_obj (S_readers_of h0 hi1)) rfl ?_
      refine z_callNi (As := [.int (R_held (S_readers v0 i1))]) (st := []) O (s_T_asNumber hfl h) wy_X5_asNumber wl_RX3_81 dX3_readerNumber_57 rfl rfl ⟨Nat.le_of_ble_eq_true rfl, Nat.le_of_ble_eq_true rfl⟩ (Nat.le_of_ble_eq_true rfl) ⟨Nat.le_of_ble_eq_true rfl, Nat.le_of_ble_eq_true rfl⟩ (fun r3_ z4_ G5_ hq6_ => ?_)
      obtain ⟨rfl, rfl, h⟩ := hq6_
      exact z_iret O hret hlk dX3_readerNumber_60 (Nat.le_of_ble_eq_true rfl) (Nat.le_of_ble_eq_true rfl) ⟨_, rfl, rfl, rfl, h⟩
    · have h := h.2 c2_
      rcases Decidable.em (x2 = 2) with c7_ | c7_
      · have h := h.1 c7_
        refine z_tsw (v := 2) (tgt := 61) O dX3_readerNumber_1 c7_ (by decide) (by decide) rfl (by decide) ?_
        refine z_aload_n O dX3_readerNumber_61 rfl rfl ?_
        refine z_get (v := .int (R_readSoFar (S_readers v0 i1))) O wf_RX3_125 dX3_readerNumber_62 (R_obj (S_readers_of h0 hi1)) rfl ?_
        exact z_iret O hret hlk dX3_readerNumber_65 (Nat.le_of_ble_eq_true rfl) (Nat.le_of_ble_eq_true rfl) ⟨_, rfl, rfl, rfl, h⟩
      · have h := h.2 c7_
        rcases Decidable.em (x2 = 3) with c8_ | c8_
        · have h := h.1 c8_
          refine z_tsw (v := 3) (tgt := 66) O dX3_readerNumber_1 c8_ (by decide) (by decide) rfl (by decide) ?_
          refine z_aload_n O dX3_readerNumber_66 rfl rfl ?_
          refine z_get (v := .int (R_missedSoFar (S_readers v0 i1))) O wf_RX3_128 dX3_readerNumber_67 (R_obj (S_readers_of h0 hi1)) rfl ?_
          exact z_iret O hret hlk dX3_readerNumber_70 (Nat.le_of_ble_eq_true rfl) (Nat.le_of_ble_eq_true rfl) ⟨_, rfl, rfl, rfl, h⟩
        · have h := h.2 c8_
          rcases Decidable.em (x2 = 4) with c9_ | c9_
          · have h := h.1 c9_
            refine z_tsw (v := 4) (tgt := 71) O dX3_readerNumber_1 c9_ (by decide) (by decide) rfl (by decide) ?_
            refine z_aload_n O dX3_readerNumber_71 rfl rfl ?_
            refine z_get (v := .int (R_lastRead (S_readers v0 i1))) O wf_RX3_131 dX3_readerNumber_72 (R_obj (S_readers_of h0 hi1)) rfl ?_
            exact z_iret O hret hlk dX3_readerNumber_75 (Nat.le_of_ble_eq_true rfl) (Nat.le_of_ble_eq_true rfl) ⟨_, rfl, rfl, rfl, h⟩
          · have h := h.2 c9_
            rcases Decidable.em (x2 = 5) with c10_ | c10_
            · have h := h.1 c10_
              refine z_tsw (v := 5) (tgt := 76) O dX3_readerNumber_1 c10_ (by decide) (by decide) rfl (by decide) ?_
              refine z_aload_n O dX3_readerNumber_76 rfl rfl ?_
              refine z_get (v := .ref (b0 + 1)) O wf_RX3_12 dX3_readerNumber_77 (S_obj h0) rfl ?_
              refine z_get (v := .int (L_end (S_log v0))) O wf_RX3_89 dX3_readerNumber_80 (L_obj (S_log_of h0)) rfl ?_
              refine z_aload_n O dX3_readerNumber_83 rfl rfl ?_
              refine z_get (v := .int (R_place (S_readers v0 i1))) O wf_RX3_75 dX3_readerNumber_84 (R_obj (S_readers_of h0 hi1)) rfl ?_
              refine z_aload_n O dX3_readerNumber_87 rfl rfl ?_
              refine z_get (v := .ref (b0 + 1)) O wf_RX3_12 dX3_readerNumber_88 (S_obj h0) rfl ?_
              refine z_get (v := .int (L_first (S_log v0))) O wf_RX3_78 dX3_readerNumber_91 (L_obj (S_log_of h0)) rfl ?_
              refine z_mmax O wm_RX3_134 wm_max_s wm_math wm_max_c dX3_readerNumber_94 (Nat.le_of_ble_eq_true rfl) (Nat.le_of_ble_eq_true rfl) (Nat.le_of_ble_eq_true rfl) (Nat.le_of_ble_eq_true rfl) ?_
              refine z_isub O dX3_readerNumber_97 ?_
              exact z_iret O hret hlk dX3_readerNumber_98 (Nat.le_of_ble_eq_true rfl) (Nat.le_of_ble_eq_true rfl) ⟨_, rfl, rfl, rfl, h⟩
            · have h := h.2 c10_
              rcases Decidable.em (x2 = 6) with c11_ | c11_
              · have h := h.1 c11_
                refine z_tsw (v := 6) (tgt := 99) O dX3_readerNumber_1 c11_ (by decide) (by decide) rfl (by decide) ?_
                refine z_aload_n O dX3_readerNumber_99 rfl rfl ?_
                refine z_get (v := .ref (b0 + 1)) O wf_RX3_12 dX3_readerNumber_100 (S_obj h0) rfl ?_
                refine z_aload_n O dX3_readerNumber_103 rfl rfl ?_
                refine z_get (v := .int (R_place (S_readers v0 i1))) O wf_RX3_75 dX3_readerNumber_104 (R_obj (S_readers_of h0 hi1)) rfl ?_
                refine z_callVi (As := [.int (R_place (S_readers v0 i1))]) (st := []) O (s_L_lengthFrom hfl (S_log_of h0) h) wy_X1_lengthFrom wl_RX3_139 dX3_readerNumber_107 rfl rfl (L_obj (S_log_of h0)) ⟨by decide, rfl⟩ ⟨Nat.le_of_ble_eq_true rfl, Nat.le_of_ble_eq_true rfl⟩ (Nat.le_of_ble_eq_true rfl) ⟨Nat.le_of_ble_eq_true rfl, Nat.le_of_ble_eq_true rfl⟩ (fun r12_ z13_ G14_ hq15_ => ?_)
                obtain ⟨rfl, rfl, h⟩ := hq15_
                exact z_iret O hret hlk dX3_readerNumber_110 (Nat.le_of_ble_eq_true rfl) (Nat.le_of_ble_eq_true rfl) ⟨_, rfl, rfl, rfl, h⟩
              · have h := h.2 c11_
                rcases Decidable.em (x2 = 7) with c16_ | c16_
                · have h := h.1 c16_
                  refine z_tsw (v := 7) (tgt := 111) O dX3_readerNumber_1 c16_ (by decide) (by decide) rfl (by decide) ?_
                  refine z_aload_n O dX3_readerNumber_111 rfl rfl ?_
                  refine z_get (v := .ref (b0 + 1)) O wf_RX3_12 dX3_readerNumber_112 (S_obj h0) rfl ?_
                  refine z_get (v := .int (L_first (S_log v0))) O wf_RX3_78 dX3_readerNumber_115 (L_obj (S_log_of h0)) rfl ?_
                  refine z_aload_n O dX3_readerNumber_118 rfl rfl ?_
                  refine z_get (v := .int (R_place (S_readers v0 i1))) O wf_RX3_75 dX3_readerNumber_119 (R_obj (S_readers_of h0 hi1)) rfl ?_
                  refine z_isub O dX3_readerNumber_122 ?_
                  refine z_iconst (v := 0) O dX3_readerNumber_123 (by decide) ?_
                  refine z_mmax O wm_RX3_134 wm_max_s wm_math wm_max_c dX3_readerNumber_124 (Nat.le_of_ble_eq_true rfl) (Nat.le_of_ble_eq_true rfl) (Nat.le_of_ble_eq_true rfl) (Nat.le_of_ble_eq_true rfl) ?_
                  exact z_iret O hret hlk dX3_readerNumber_127 (Nat.le_of_ble_eq_true rfl) (Nat.le_of_ble_eq_true rfl) ⟨_, rfl, rfl, rfl, h⟩
                · have h := h.2 c16_
                  refine z_tswd (tgt := 128) O dX3_readerNumber_1 (zsw_out (fun j h1 h2 => by rcases (show j = 0 ∨ j = 1 ∨ j = 2 ∨ j = 3 ∨ j = 4 ∨ j = 5 ∨ j = 6 ∨ j = 7 by omega) with rfl | rfl | rfl | rfl | rfl | rfl | rfl | rfl; exact c1_; exact c2_; exact c7_; exact c8_; exact c9_; exact c10_; exact c11_; exact c16_)) (by decide) ?_
                  refine z_aload_n O dX3_readerNumber_128 rfl rfl ?_
                  refine z_get (v := .int (R_lostBy (S_readers v0 i1))) O wf_RX3_142 dX3_readerNumber_129 (R_obj (S_readers_of h0 hi1)) rfl ?_
                  exact z_iret O hret hlk dX3_readerNumber_132 (Nat.le_of_ble_eq_true rfl) (Nat.le_of_ble_eq_true rfl) ⟨_, rfl, rfl, rfl, h⟩
