theorem dX4_hasMore_0 : decode cX4_hasMore 0 = .ok (.aload_n 0, 1) := by decide +kernel
theorem dX4_hasMore_1 : decode cX4_hasMore 1 = .ok (.getfield 29, 3) := by decide +kernel
theorem dX4_hasMore_4 : decode cX4_hasMore 4 = .ok (.ifCond .ne 18, 3) := by decide +kernel
theorem dX4_hasMore_7 : decode cX4_hasMore 7 = .ok (.aload_n 0, 1) := by decide +kernel
theorem dX4_hasMore_8 : decode cX4_hasMore 8 = .ok (.getfield 33, 3) := by decide +kernel
theorem dX4_hasMore_11 : decode cX4_hasMore 11 = .ok (.aload_n 0, 1) := by decide +kernel
theorem dX4_hasMore_12 : decode cX4_hasMore 12 = .ok (.getfield 15, 3) := by decide +kernel
theorem dX4_hasMore_15 : decode cX4_hasMore 15 = .ok (.if_icmp .ge 7, 3) := by decide +kernel
theorem dX4_hasMore_18 : decode cX4_hasMore 18 = .ok (.iconst 1, 1) := by decide +kernel
theorem dX4_hasMore_19 : decode cX4_hasMore 19 = .ok (.goto 4, 3) := by decide +kernel
theorem dX4_hasMore_22 : decode cX4_hasMore 22 = .ok (.iconst 0, 1) := by decide +kernel
theorem dX4_hasMore_23 : decode cX4_hasMore 23 = .ok (.ireturn, 1) := by decide +kernel
def P_X_hasMore (v0 : XT) (Q : Int32 → Prop) : Prop := ((¬ (X_wrong v0) = 0 → Q 0) ∧ ((X_wrong v0) = 0 → (((X_length v0) ≤ (X_position v0) → Q 0) ∧ (¬ (X_length v0) ≤ (X_position v0) → Q 1))))
set_option maxRecDepth 100000 in
theorem s_X_hasMore {l : Launch} {D : zD} {B : Nat} {sa : Nat → Nat} (hfl : l.stackTraces = false) {z : Nat} {G : zG} {b0 : Nat} {v0 : XT} {Q : Int32 → Prop} (h0 : XA b0 v0 G) (h : P_X_hasMore v0 Q) : zSp l D B sa yX4_hasMore cX4_hasMore 1 (some .boolean) 0 0 0 0 [.ref b0] z G (zRi fun r z' G' => z = z' ∧ G = G' ∧ Q r) := by
  unfold P_X_hasMore at h
  refine z_ofW (by decide +kernel) hfl [some (.ref b0)] rfl (Nat.le_of_ble_eq_true rfl) (fun p e s m args below meth c O hret hlk hnm => ?_)
  have O : zO p l s m args c D B sa 1 cX4_hasMore RX4 := O
  refine z_aload_n O dX4_hasMore_0 rfl rfl ?_
  refine z_get (v := .int (X_wrong v0)) O wf_RX4_29 dX4_hasMore_1 (X_obj h0) rfl ?_
  refine z_if_ne (tgt := 22) O dX4_hasMore_4 (by decide) (fun c1_ => ?_) (fun c1_ => ?_)
  · have h := h.1 c1_
    refine z_iconst (v := 0) O dX4_hasMore_22 (by decide) ?_
    exact z_zret O hret rfl hlk dX4_hasMore_23 (Nat.le_of_ble_eq_true rfl) (Nat.le_of_ble_eq_true rfl) ⟨_, rfl, rfl, rfl, h⟩
  · have h := h.2 c1_
    refine z_aload_n O dX4_hasMore_7 rfl rfl ?_
    refine z_get (v := .int (X_position v0)) O wf_RX4_33 dX4_hasMore_8 (X_obj h0) rfl ?_
    refine z_aload_n O dX4_hasMore_11 rfl rfl ?_
    refine z_get (v := .int (X_length v0)) O wf_RX4_15 dX4_hasMore_12 (X_obj h0) rfl ?_
    refine z_icmp_ge (tgt := 22) O dX4_hasMore_15 (by decide) (fun c2_ => ?_) (fun c2_ => ?_)
    · have h := h.1 c2_
      refine z_iconst (v := 0) O dX4_hasMore_22 (by decide) ?_
      exact z_zret O hret rfl hlk dX4_hasMore_23 (Nat.le_of_ble_eq_true rfl) (Nat.le_of_ble_eq_true rfl) ⟨_, rfl, rfl, rfl, h⟩
    · have h := h.2 c2_
      refine z_iconst (v := 1) O dX4_hasMore_18 (by decide) ?_
      refine z_goto (tgt := 23) O dX4_hasMore_19 (by decide) ?_
      exact z_zret O hret rfl hlk dX4_hasMore_23 (Nat.le_of_ble_eq_true rfl) (Nat.le_of_ble_eq_true rfl) ⟨_, rfl, rfl, rfl, h⟩

theorem dX4_actionOf_0 : decode cX4_actionOf 0 = .ok (.iload_n 1, 1) := by decide +kernel
theorem dX4_actionOf_1 : decode cX4_actionOf 1 = .ok (.tableswitch 94 104 119 #[87, 94, 81, 94, 85, 94, 94, 94, 94, 94, 83, 89, 91, 94, 94, 79], 79) := by decide +kernel
theorem dX4_actionOf_80 : decode cX4_actionOf 80 = .ok (.iconst 0, 1) := by decide +kernel
theorem dX4_actionOf_81 : decode cX4_actionOf 81 = .ok (.ireturn, 1) := by decide +kernel
theorem dX4_actionOf_82 : decode cX4_actionOf 82 = .ok (.iconst 1, 1) := by decide +kernel
theorem dX4_actionOf_83 : decode cX4_actionOf 83 = .ok (.ireturn, 1) := by decide +kernel
theorem dX4_actionOf_84 : decode cX4_actionOf 84 = .ok (.iconst 2, 1) := by decide +kernel
theorem dX4_actionOf_85 : decode cX4_actionOf 85 = .ok (.ireturn, 1) := by decide +kernel
theorem dX4_actionOf_86 : decode cX4_actionOf 86 = .ok (.iconst 3, 1) := by decide +kernel
theorem dX4_actionOf_87 : decode cX4_actionOf 87 = .ok (.ireturn, 1) := by decide +kernel
theorem dX4_actionOf_88 : decode cX4_actionOf 88 = .ok (.iconst 4, 1) := by decide +kernel
theorem dX4_actionOf_89 : decode cX4_actionOf 89 = .ok (.ireturn, 1) := by decide +kernel
theorem dX4_actionOf_90 : decode cX4_actionOf 90 = .ok (.iconst 5, 1) := by decide +kernel
theorem dX4_actionOf_91 : decode cX4_actionOf 91 = .ok (.ireturn, 1) := by decide +kernel
theorem dX4_actionOf_92 : decode cX4_actionOf 92 = .ok (.bipush 6, 2) := by decide +kernel
theorem dX4_actionOf_94 : decode cX4_actionOf 94 = .ok (.ireturn, 1) := by decide +kernel
theorem dX4_actionOf_95 : decode cX4_actionOf 95 = .ok (.iconst (-1), 1) := by decide +kernel
theorem dX4_actionOf_96 : decode cX4_actionOf 96 = .ok (.ireturn, 1) := by decide +kernel
def P_X_actionOf (x1 : Int32) (v0 : XT) (Q : Int32 → Prop) : Prop := ((x1 = 104 → Q 4) ∧ (¬ x1 = 104 → ((x1 = 105 → Q (-1)) ∧ (¬ x1 = 105 → ((x1 = 106 → Q 1) ∧ (¬ x1 = 106 → ((x1 = 107 → Q (-1)) ∧ (¬ x1 = 107 → ((x1 = 108 → Q 3) ∧ (¬ x1 = 108 → ((x1 = 109 → Q (-1)) ∧ (¬ x1 = 109 → ((x1 = 110 → Q (-1)) ∧ (¬ x1 = 110 → ((x1 = 111 → Q (-1)) ∧ (¬ x1 = 111 → ((x1 = 112 → Q (-1)) ∧ (¬ x1 = 112 → ((x1 = 113 → Q (-1)) ∧ (¬ x1 = 113 → ((x1 = 114 → Q 2) ∧ (¬ x1 = 114 → ((x1 = 115 → Q 5) ∧ (¬ x1 = 115 → ((x1 = 116 → Q 6) ∧ (¬ x1 = 116 → ((x1 = 117 → Q (-1)) ∧ (¬ x1 = 117 → ((x1 = 118 → Q (-1)) ∧ (¬ x1 = 118 → ((x1 = 119 → Q 0) ∧ (¬ x1 = 119 → Q (-1)))))))))))))))))))))))))))))))))
set_option maxRecDepth 100000 in
theorem s_X_actionOf {l : Launch} {D : zD} {B : Nat} {sa : Nat → Nat} (hfl : l.stackTraces = false) {z : Nat} {G : zG} {b0 : Nat} {x1 : Int32} {v0 : XT} {Q : Int32 → Prop} (h0 : XA b0 v0 G) (h : P_X_actionOf x1 v0 Q) : zSp l D B sa yX4_actionOf cX4_actionOf 2 (some .int) 0 0 0 0 [.ref b0, .int x1] z G (zRi fun r z' G' => z = z' ∧ G = G' ∧ Q r) := by
  unfold P_X_actionOf at h
  refine z_ofW (by decide +kernel) hfl [some (.ref b0), some (.int x1)] rfl (Nat.le_of_ble_eq_true rfl) (fun p e s m args below meth c O hret hlk hnm => ?_)
  have O : zO p l s m args c D B sa 2 cX4_actionOf RX4 := O
  refine z_iload_n O dX4_actionOf_0 rfl rfl ?_
  rcases Decidable.em (x1 = 104) with c1_ | c1_
  · have h := h.1 c1_
    refine z_tsw (v := 104) (tgt := 88) O dX4_actionOf_1 c1_ (by decide) (by decide) rfl (by decide) ?_
    refine z_iconst (v := 4) O dX4_actionOf_88 (by decide) ?_
    exact z_iret O hret hlk dX4_actionOf_89 (Nat.le_of_ble_eq_true rfl) (Nat.le_of_ble_eq_true rfl) ⟨_, rfl, rfl, rfl, h⟩
  · have h := h.2 c1_
    rcases Decidable.em (x1 = 105) with c2_ | c2_
    · have h := h.1 c2_
      refine z_tsw (v := 105) (tgt := 95) O dX4_actionOf_1 c2_ (by decide) (by decide) rfl (by decide) ?_
      refine z_iconst (v := (-1)) O dX4_actionOf_95 (by decide) ?_
      exact z_iret O hret hlk dX4_actionOf_96 (Nat.le_of_ble_eq_true rfl) (Nat.le_of_ble_eq_true rfl) ⟨_, rfl, rfl, rfl, h⟩
    · have h := h.2 c2_
      rcases Decidable.em (x1 = 106) with c3_ | c3_
      · have h := h.1 c3_
        refine z_tsw (v := 106) (tgt := 82) O dX4_actionOf_1 c3_ (by decide) (by decide) rfl (by decide) ?_
        refine z_iconst (v := 1) O dX4_actionOf_82 (by decide) ?_
        exact z_iret O hret hlk dX4_actionOf_83 (Nat.le_of_ble_eq_true rfl) (Nat.le_of_ble_eq_true rfl) ⟨_, rfl, rfl, rfl, h⟩
      · have h := h.2 c3_
        rcases Decidable.em (x1 = 107) with c4_ | c4_
        · have h := h.1 c4_
          refine z_tsw (v := 107) (tgt := 95) O dX4_actionOf_1 c4_ (by decide) (by decide) rfl (by decide) ?_
          refine z_iconst (v := (-1)) O dX4_actionOf_95 (by decide) ?_
          exact z_iret O hret hlk dX4_actionOf_96 (Nat.le_of_ble_eq_true rfl) (Nat.le_of_ble_eq_true rfl) ⟨_, rfl, rfl, rfl, h⟩
        · have h := h.2 c4_
          rcases Decidable.em (x1 = 108) with c5_ | c5_
          · have h := h.1 c5_
            refine z_tsw (v := 108) (tgt := 86) O dX4_actionOf_1 c5_ (by decide) (by decide) rfl (by decide) ?_
            refine z_iconst (v := 3) O dX4_actionOf_86 (by decide) ?_
            exact z_iret O hret hlk dX4_actionOf_87 (Nat.le_of_ble_eq_true rfl) (Nat.le_of_ble_eq_true rfl) ⟨_, rfl, rfl, rfl, h⟩
          · have h := h.2 c5_
            rcases Decidable.em (x1 = 109) with c6_ | c6_
            · have h := h.1 c6_
              refine z_tsw (v := 109) (tgt := 95) O dX4_actionOf_1 c6_ (by decide) (by decide) rfl (by decide) ?_
              refine z_iconst (v := (-1)) O dX4_actionOf_95 (by decide) ?_
              exact z_iret O hret hlk dX4_actionOf_96 (Nat.le_of_ble_eq_true rfl) (Nat.le_of_ble_eq_true rfl) ⟨_, rfl, rfl, rfl, h⟩
            · have h := h.2 c6_
              rcases Decidable.em (x1 = 110) with c7_ | c7_
              · have h := h.1 c7_
                refine z_tsw (v := 110) (tgt := 95) O dX4_actionOf_1 c7_ (by decide) (by decide) rfl (by decide) ?_
                refine z_iconst (v := (-1)) O dX4_actionOf_95 (by decide) ?_
                exact z_iret O hret hlk dX4_actionOf_96 (Nat.le_of_ble_eq_true rfl) (Nat.le_of_ble_eq_true rfl) ⟨_, rfl, rfl, rfl, h⟩
              · have h := h.2 c7_
                rcases Decidable.em (x1 = 111) with c8_ | c8_
                · have h := h.1 c8_
                  refine z_tsw (v := 111) (tgt := 95) O dX4_actionOf_1 c8_ (by decide) (by decide) rfl (by decide) ?_
                  refine z_iconst (v := (-1)) O dX4_actionOf_95 (by decide) ?_
                  exact z_iret O hret hlk dX4_actionOf_96 (Nat.le_of_ble_eq_true rfl) (Nat.le_of_ble_eq_true rfl) ⟨_, rfl, rfl, rfl, h⟩
                · have h := h.2 c8_
                  rcases Decidable.em (x1 = 112) with c9_ | c9_
                  · have h := h.1 c9_
                    refine z_tsw (v := 112) (tgt := 95) O dX4_actionOf_1 c9_ (by decide) (by decide) rfl (by decide) ?_
                    refine z_iconst (v := (-1)) O dX4_actionOf_95 (by decide) ?_
                    exact z_iret O hret hlk dX4_actionOf_96 (Nat.le_of_ble_eq_true rfl) (Nat.le_of_ble_eq_true rfl) ⟨_, rfl, rfl, rfl, h⟩
                  · have h := h.2 c9_
                    rcases Decidable.em (x1 = 113) with c10_ | c10_
                    · have h := h.1 c10_
                      refine z_tsw (v := 113) (tgt := 95) O dX4_actionOf_1 c10_ (by decide) (by decide) rfl (by decide) ?_
                      refine z_iconst (v := (-1)) O dX4_actionOf_95 (by decide) ?_
                      exact z_iret O hret hlk dX4_actionOf_96 (Nat.le_of_ble_eq_true rfl) (Nat.le_of_ble_eq_true rfl) ⟨_, rfl, rfl, rfl, h⟩
                    · have h := h.2 c10_
                      rcases Decidable.em (x1 = 114) with c11_ | c11_
                      · have h := h.1 c11_
                        refine z_tsw (v := 114) (tgt := 84) O dX4_actionOf_1 c11_ (by decide) (by decide) rfl (by decide) ?_
                        refine z_iconst (v := 2) O dX4_actionOf_84 (by decide) ?_
                        exact z_iret O hret hlk dX4_actionOf_85 (Nat.le_of_ble_eq_true rfl) (Nat.le_of_ble_eq_true rfl) ⟨_, rfl, rfl, rfl, h⟩
                      · have h := h.2 c11_
                        rcases Decidable.em (x1 = 115) with c12_ | c12_
                        · have h := h.1 c12_
                          refine z_tsw (v := 115) (tgt := 90) O dX4_actionOf_1 c12_ (by decide) (by decide) rfl (by decide) ?_
                          refine z_iconst (v := 5) O dX4_actionOf_90 (by decide) ?_
                          exact z_iret O hret hlk dX4_actionOf_91 (Nat.le_of_ble_eq_true rfl) (Nat.le_of_ble_eq_true rfl) ⟨_, rfl, rfl, rfl, h⟩
                        · have h := h.2 c12_
                          rcases Decidable.em (x1 = 116) with c13_ | c13_
                          · have h := h.1 c13_
                            refine z_tsw (v := 116) (tgt := 92) O dX4_actionOf_1 c13_ (by decide) (by decide) rfl (by decide) ?_
                            refine z_bipush (v := 6) O dX4_actionOf_92 (by decide) ?_
                            exact z_iret O hret hlk dX4_actionOf_94 (Nat.le_of_ble_eq_true rfl) (Nat.le_of_ble_eq_true rfl) ⟨_, rfl, rfl, rfl, h⟩
                          · have h := h.2 c13_
                            rcases Decidable.em (x1 = 117) with c14_ | c14_
                            · have h := h.1 c14_
                              refine z_tsw (v := 117) (tgt := 95) O dX4_actionOf_1 c14_ (by decide) (by decide) rfl (by decide) ?_
                              refine z_iconst (v := (-1)) O dX4_actionOf_95 (by decide) ?_
                              exact z_iret O hret hlk dX4_actionOf_96 (Nat.le_of_ble_eq_true rfl) (Nat.le_of_ble_eq_true rfl) ⟨_, rfl, rfl, rfl, h⟩
                            · have h := h.2 c14_
                              rcases Decidable.em (x1 = 118) with c15_ | c15_
                              · have h := h.1 c15_
                                refine z_tsw (v := 118) (tgt := 95) O dX4_actionOf_1 c15_ (by decide) (by decide) rfl (by decide) ?_
                                refine z_iconst (v := (-1)) O dX4_actionOf_95 (by decide) ?_
                                exact z_iret O hret hlk dX4_actionOf_96 (Nat.le_of_ble_eq_true rfl) (Nat.le_of_ble_eq_true rfl) ⟨_, rfl, rfl, rfl, h⟩
                              · have h := h.2 c15_
                                rcases Decidable.em (x1 = 119) with c16_ | c16_
                                · have h := h.1 c16_
                                  refine z_tsw (v := 119) (tgt := 80) O dX4_actionOf_1 c16_ (by decide) (by decide) rfl (by decide) ?_
                                  refine z_iconst (v := 0) O dX4_actionOf_80 (by decide) ?_
                                  exact z_iret O hret hlk dX4_actionOf_81 (Nat.le_of_ble_eq_true rfl) (Nat.le_of_ble_eq_true rfl) ⟨_, rfl, rfl, rfl, h⟩
                                · have h := h.2 c16_
                                  refine z_tswd (tgt := 95) O dX4_actionOf_1 (zsw_out (fun j h1 h2 => by rcases (show j = 104 ∨ j = 105 ∨ j = 106 ∨ j = 107 ∨ j = 108 ∨ j = 109 ∨ j = 110 ∨ j = 111 ∨ j = 112 ∨ j = 113 ∨ j = 114 ∨ j = 115 ∨ j = 116 ∨ j = 117 ∨ j = 118 ∨ j = 119 by omega) with rfl | rfl | rfl | rfl | rfl | rfl | rfl | rfl | rfl | rfl | rfl | rfl | rfl | rfl | rfl | rfl; exact c1_; exact c2_; exact c3_; exact c4_; exact c5_; exact c6_; exact c7_; exact c8_; exact c9_; exact c10_; exact c11_; exact c12_; exact c13_; exact c14_; exact c15_; exact c16_)) (by decide) ?_
                                  refine z_iconst (v := (-1)) O dX4_actionOf_95 (by decide) ?_
                                  exact z_iret O hret hlk dX4_actionOf_96 (Nat.le_of_ble_eq_true rfl) (Nat.le_of_ble_eq_true rfl) ⟨_, rfl, rfl, rfl, h⟩

theorem dX4_digits_0 : decode cX4_digits 0 = .ok (.iconst 0, 1) := by decide +kernel
theorem dX4_digits_1 : decode cX4_digits 1 = .ok (.istore 4, 2) := by decide +kernel
theorem dX4_digits_3 : decode cX4_digits 3 = .ok (.iconst 1, 1) := by decide +kernel
theorem dX4_digits_4 : decode cX4_digits 4 = .ok (.istore 5, 2) := by decide +kernel
theorem dX4_digits_6 : decode cX4_digits 6 = .ok (.iconst 0, 1) := by decide +kernel
theorem dX4_digits_7 : decode cX4_digits 7 = .ok (.istore 6, 2) := by decide +kernel
theorem dX4_digits_9 : decode cX4_digits 9 = .ok (.iload 6, 2) := by decide +kernel
theorem dX4_digits_11 : decode cX4_digits 11 = .ok (.iload_n 1, 1) := by decide +kernel
theorem dX4_digits_12 : decode cX4_digits 12 = .ok (.if_icmp .ge 16, 3) := by decide +kernel
theorem dX4_digits_15 : decode cX4_digits 15 = .ok (.iload 5, 2) := by decide +kernel
theorem dX4_digits_17 : decode cX4_digits 17 = .ok (.bipush 10, 2) := by decide +kernel
theorem dX4_digits_19 : decode cX4_digits 19 = .ok (.imul, 1) := by decide +kernel
theorem dX4_digits_20 : decode cX4_digits 20 = .ok (.istore 5, 2) := by decide +kernel
theorem dX4_digits_22 : decode cX4_digits 22 = .ok (.iinc 6 1, 3) := by decide +kernel
theorem dX4_digits_25 : decode cX4_digits 25 = .ok (.goto (-16), 3) := by decide +kernel
theorem dX4_digits_28 : decode cX4_digits 28 = .ok (.iconst 0, 1) := by decide +kernel
theorem dX4_digits_29 : decode cX4_digits 29 = .ok (.istore 6, 2) := by decide +kernel
theorem dX4_digits_31 : decode cX4_digits 31 = .ok (.iload 6, 2) := by decide +kernel
theorem dX4_digits_33 : decode cX4_digits 33 = .ok (.iload_n 1, 1) := by decide +kernel
theorem dX4_digits_34 : decode cX4_digits 34 = .ok (.if_icmp .ge 101, 3) := by decide +kernel
theorem dX4_digits_37 : decode cX4_digits 37 = .ok (.aload_n 0, 1) := by decide +kernel
theorem dX4_digits_38 : decode cX4_digits 38 = .ok (.getfield 29, 3) := by decide +kernel
theorem dX4_digits_41 : decode cX4_digits 41 = .ok (.ifCond .ne 94, 3) := by decide +kernel
theorem dX4_digits_44 : decode cX4_digits 44 = .ok (.iload 5, 2) := by decide +kernel
theorem dX4_digits_46 : decode cX4_digits 46 = .ok (.bipush 10, 2) := by decide +kernel
theorem dX4_digits_48 : decode cX4_digits 48 = .ok (.idiv, 1) := by decide +kernel
theorem dX4_digits_49 : decode cX4_digits 49 = .ok (.istore 5, 2) := by decide +kernel
theorem dX4_digits_51 : decode cX4_digits 51 = .ok (.aload_n 0, 1) := by decide +kernel
theorem dX4_digits_52 : decode cX4_digits 52 = .ok (.invokevirtual 58, 3) := by decide +kernel
theorem dX4_digits_55 : decode cX4_digits 55 = .ok (.istore 7, 2) := by decide +kernel
theorem dX4_digits_57 : decode cX4_digits 57 = .ok (.iload 4, 2) := by decide +kernel
theorem dX4_digits_59 : decode cX4_digits 59 = .ok (.bipush 10, 2) := by decide +kernel
theorem dX4_digits_61 : decode cX4_digits 61 = .ok (.imul, 1) := by decide +kernel
theorem dX4_digits_62 : decode cX4_digits 62 = .ok (.iload 7, 2) := by decide +kernel
theorem dX4_digits_64 : decode cX4_digits 64 = .ok (.bipush 48, 2) := by decide +kernel
theorem dX4_digits_66 : decode cX4_digits 66 = .ok (.isub, 1) := by decide +kernel
theorem dX4_digits_67 : decode cX4_digits 67 = .ok (.iadd, 1) := by decide +kernel
theorem dX4_digits_68 : decode cX4_digits 68 = .ok (.istore 8, 2) := by decide +kernel
theorem dX4_digits_70 : decode cX4_digits 70 = .ok (.iload 7, 2) := by decide +kernel
theorem dX4_digits_72 : decode cX4_digits 72 = .ok (.bipush 48, 2) := by decide +kernel
theorem dX4_digits_74 : decode cX4_digits 74 = .ok (.if_icmp .lt 33, 3) := by decide +kernel
theorem dX4_digits_77 : decode cX4_digits 77 = .ok (.iload 7, 2) := by decide +kernel
theorem dX4_digits_79 : decode cX4_digits 79 = .ok (.bipush 57, 2) := by decide +kernel
theorem dX4_digits_81 : decode cX4_digits 81 = .ok (.if_icmp .gt 26, 3) := by decide +kernel
theorem dX4_digits_84 : decode cX4_digits 84 = .ok (.iload 8, 2) := by decide +kernel
theorem dX4_digits_86 : decode cX4_digits 86 = .ok (.iload 5, 2) := by decide +kernel
theorem dX4_digits_88 : decode cX4_digits 88 = .ok (.imul, 1) := by decide +kernel
theorem dX4_digits_89 : decode cX4_digits 89 = .ok (.iload_n 3, 1) := by decide +kernel
theorem dX4_digits_90 : decode cX4_digits 90 = .ok (.if_icmp .gt 17, 3) := by decide +kernel
theorem dX4_digits_93 : decode cX4_digits 93 = .ok (.iload 8, 2) := by decide +kernel
theorem dX4_digits_95 : decode cX4_digits 95 = .ok (.iload 5, 2) := by decide +kernel
theorem dX4_digits_97 : decode cX4_digits 97 = .ok (.imul, 1) := by decide +kernel
theorem dX4_digits_98 : decode cX4_digits 98 = .ok (.iload 5, 2) := by decide +kernel
theorem dX4_digits_100 : decode cX4_digits 100 = .ok (.iadd, 1) := by decide +kernel
theorem dX4_digits_101 : decode cX4_digits 101 = .ok (.iconst 1, 1) := by decide +kernel
theorem dX4_digits_102 : decode cX4_digits 102 = .ok (.isub, 1) := by decide +kernel
theorem dX4_digits_103 : decode cX4_digits 103 = .ok (.iload_n 2, 1) := by decide +kernel
theorem dX4_digits_104 : decode cX4_digits 104 = .ok (.if_icmp .ge 11, 3) := by decide +kernel
theorem dX4_digits_107 : decode cX4_digits 107 = .ok (.aload_n 0, 1) := by decide +kernel
theorem dX4_digits_108 : decode cX4_digits 108 = .ok (.iconst 1, 1) := by decide +kernel
theorem dX4_digits_109 : decode cX4_digits 109 = .ok (.putfield 29, 3) := by decide +kernel
theorem dX4_digits_112 : decode cX4_digits 112 = .ok (.goto 17, 3) := by decide +kernel
theorem dX4_digits_115 : decode cX4_digits 115 = .ok (.iload 8, 2) := by decide +kernel
theorem dX4_digits_117 : decode cX4_digits 117 = .ok (.istore 4, 2) := by decide +kernel
theorem dX4_digits_119 : decode cX4_digits 119 = .ok (.aload_n 0, 1) := by decide +kernel
theorem dX4_digits_120 : decode cX4_digits 120 = .ok (.dup, 1) := by decide +kernel
theorem dX4_digits_121 : decode cX4_digits 121 = .ok (.getfield 33, 3) := by decide +kernel
theorem dX4_digits_124 : decode cX4_digits 124 = .ok (.iconst 1, 1) := by decide +kernel
theorem dX4_digits_125 : decode cX4_digits 125 = .ok (.iadd, 1) := by decide +kernel
theorem dX4_digits_126 : decode cX4_digits 126 = .ok (.putfield 33, 3) := by decide +kernel
theorem dX4_digits_129 : decode cX4_digits 129 = .ok (.iinc 6 1, 3) := by decide +kernel
theorem dX4_digits_132 : decode cX4_digits 132 = .ok (.goto (-101), 3) := by decide +kernel
theorem dX4_digits_135 : decode cX4_digits 135 = .ok (.iload 4, 2) := by decide +kernel
theorem dX4_digits_137 : decode cX4_digits 137 = .ok (.ireturn, 1) := by decide +kernel
def PL_X_digits_31 : Nat → Int32 → Int32 → Int32 → Int32 → Int32 → Int32 → Int32 → Int32 → Int32 → XT → (Int32 → XT → Prop) → Prop
  | 0, _, _, _, _, _, _, _, _, _, _, _ => False
  | n + 1, x1, x2, x3, y1, y2, y3, y4, y5, y6, v0, Q => ((y1 ≤ y6 → Q y4 v0) ∧ (¬ y1 ≤ y6 → ((¬ (X_wrong v0) = 0 → Q y4 v0) ∧ ((X_wrong v0) = 0 → P_X_sign v0 (fun r4_ => (((r4_ < 48 → ∀ v14_, v14_ = (X_set_wrong v0 1) → ((fun y1 y2 y3 y4 y5 y6 v0 => PL_X_digits_31 n x1 x2 x3 y1 y2 y3 y4 y5 y6 v0  Q) y1 y2 y3 y4 (y5 / 10) (y6 + 1) v14_)) ∧ (¬ r4_ < 48 → ((57 < r4_ → ∀ v23_, v23_ = (X_set_wrong v0 1) → ((fun y1 y2 y3 y4 y5 y6 v0 => PL_X_digits_31 n x1 x2 x3 y1 y2 y3 y4 y5 y6 v0  Q) y1 y2 y3 y4 (y5 / 10) (y6 + 1) v23_)) ∧ (¬ 57 < r4_ → ((y3 < (((y4 * 10) + (r4_ - 48)) * (y5 / 10)) → ∀ v32_, v32_ = (X_set_wrong v0 1) → ((fun y1 y2 y3 y4 y5 y6 v0 => PL_X_digits_31 n x1 x2 x3 y1 y2 y3 y4 y5 y6 v0  Q) y1 y2 y3 y4 (y5 / 10) (y6 + 1) v32_)) ∧ (¬ y3 < (((y4 * 10) + (r4_ - 48)) * (y5 / 10)) → ((y2 ≤ (((((y4 * 10) + (r4_ - 48)) * (y5 / 10)) + (y5 / 10)) - 1) → ∀ v41_, v41_ = (X_set_position v0 ((X_position v0) + 1)) → ((fun y1 y2 y3 y4 y5 y6 v0 => PL_X_digits_31 n x1 x2 x3 y1 y2 y3 y4 y5 y6 v0  Q) y1 y2 y3 ((y4 * 10) + (r4_ - 48)) (y5 / 10) (y6 + 1) v41_)) ∧ (¬ y2 ≤ (((((y4 * 10) + (r4_ - 48)) * (y5 / 10)) + (y5 / 10)) - 1) → ∀ v49_, v49_ = (X_set_wrong v0 1) → ((fun y1 y2 y3 y4 y5 y6 v0 => PL_X_digits_31 n x1 x2 x3 y1 y2 y3 y4 y5 y6 v0  Q) y1 y2 y3 y4 (y5 / 10) (y6 + 1) v49_)))))))))))))))
def PL_X_digits_9 : Nat → Int32 → Int32 → Int32 → Int32 → Int32 → Int32 → Int32 → Int32 → Int32 → XT → (Int32 → XT → Prop) → Prop
  | 0, _, _, _, _, _, _, _, _, _, _, _ => False
  | n + 1, x1, x2, x3, y1, y2, y3, y4, y5, y6, v0, Q => ((y1 ≤ y6 → (∃ n52_, PL_X_digits_31 n52_ x1 x2 x3 y1 y2 y3 y4 y5 0 v0 Q)) ∧ (¬ y1 ≤ y6 → (fun y1 y2 y3 y4 y5 y6 v0 => PL_X_digits_9 n x1 x2 x3 y1 y2 y3 y4 y5 y6 v0  Q) y1 y2 y3 y4 (y5 * 10) (y6 + 1) v0))
def P_X_digits (x1 : Int32) (x2 : Int32) (x3 : Int32) (v0 : XT) (Q : Int32 → XT → Prop) : Prop := (∃ n53_, PL_X_digits_9 n53_ x1 x2 x3 x1 x2 x3 0 1 0 v0 Q)
set_option maxRecDepth 100000 in
theorem s_X_digits {l : Launch} {D : zD} {B : Nat} {sa : Nat → Nat} (hfl : l.stackTraces = false) {z : Nat} {G : zG} {b0 : Nat} {x1 : Int32} {x2 : Int32} {x3 : Int32} {v0 : XT} {Q : Int32 → XT → Prop} (h0 : XA b0 v0 G) (h : P_X_digits x1 x2 x3 v0 Q) : zSp l D B sa yX4_digits cX4_digits 9 (some .int) 1 20 0 0 [.ref b0, .int x1, .int x2, .int x3] z G (zRi fun r z' G' => z = z' ∧ ∃ w, XA b0 w G' ∧ Fr b0 2 G G' ∧ Q r w) := by
  unfold P_X_digits at h
  refine z_ofW (by decide +kernel) hfl [some (.ref b0), some (.int x1), some (.int x2), some (.int x3), none, none, none, none, none] rfl (Nat.le_of_ble_eq_true rfl) (fun p e s m args below meth c O hret hlk hnm => ?_)
  have O : zO p l s m args c D B sa 9 cX4_digits RX4 := O
  have HL31 : ∀ (n9 : Nat)    (y1 : Int32) (y2 : Int32) (y3 : Int32) (y4 : Int32) (y5 : Int32) (y6 : Int32) (v0 : XT) (G9 : zG) (g0 : XA b0 v0 G9) (gF : Fr b0 2 G G9) (h : PL_X_digits_31 n9 x1 x2 x3 y1 y2 y3 y4 y5 y6 v0 Q), zT p l e (zrm 1 20 0 0) s m args below meth c (zEnd below D B (zRi fun r z' G' => z = z' ∧ ∃ w, XA b0 w G' ∧ Fr b0 2 G G' ∧ Q r w) args s 0 0) D B 9 0 0 31 [] [some (.ref b0), some (.int y1), some (.int y2), some (.int y3), some (.int y4), some (.int y5), some (.int y6), none, none] z G9 := by
    intro n9   
    induction n9 with
    | zero =>
      intro _ _ _ _ _ _ _ _ _ _ h
      exact (h : False).elim
    | succ n ih =>
      intro y1 y2 y3 y4 y5 y6 v0 G9 g0 gF h
      rw [PL_X_digits_31] at h
      refine z_iload O dX4_digits_31 rfl ?_
      refine z_iload_n O dX4_digits_33 rfl rfl ?_
      refine z_icmp_ge (tgt := 135) O dX4_digits_34 (by decide) (fun c2_ => ?_) (fun c2_ => ?_)
      · have h := h.1 c2_
        refine z_iload O dX4_digits_135 rfl ?_
        exact z_iret O hret hlk dX4_digits_137 (Nat.le_of_ble_eq_true rfl) (Nat.le_of_ble_eq_true rfl) ⟨_, rfl, rfl, _, g0, gF, h⟩
      · have h := h.2 c2_
        refine z_aload_n O dX4_digits_37 rfl rfl ?_
        refine z_get (v := .int (X_wrong v0)) O wf_RX4_29 dX4_digits_38 (X_obj g0) rfl ?_
        refine z_if_ne (tgt := 135) O dX4_digits_41 (by decide) (fun c3_ => ?_) (fun c3_ => ?_)
        · have h := h.1 c3_
          refine z_iload O dX4_digits_135 rfl ?_
          exact z_iret O hret hlk dX4_digits_137 (Nat.le_of_ble_eq_true rfl) (Nat.le_of_ble_eq_true rfl) ⟨_, rfl, rfl, _, g0, gF, h⟩
        · have h := h.2 c3_
          refine z_iload O dX4_digits_44 rfl ?_
          refine z_bipush (v := 10) O dX4_digits_46 (by decide) ?_
          refine z_idiv O dX4_digits_48 (by decide) ?_
          refine z_istore (L' := [some (.ref b0), some (.int y1), some (.int y2), some (.int y3), some (.int y4), some (.int (y5 / 10)), some (.int y6), none, none]) O dX4_digits_49 (by decide) rfl ?_
          refine z_aload_n O dX4_digits_51 rfl rfl ?_
          refine z_callVi (As := []) (st := []) O (s_X_sign hfl g0 h) wy_X4_sign wl_RX4_58 dX4_digits_52 rfl rfl (X_obj g0) ⟨by decide, rfl⟩ ⟨Nat.le_of_ble_eq_true rfl, Nat.le_of_ble_eq_true rfl⟩ (Nat.le_of_ble_eq_true rfl) ⟨Nat.le_of_ble_eq_true rfl, Nat.le_of_ble_eq_true rfl⟩ (fun r4_ z5_ G6_ hq7_ => ?_)
          obtain ⟨rfl, rfl, h⟩ := hq7_
          refine z_istore (L' := [some (.ref b0), some (.int y1), some (.int y2), some (.int y3), some (.int y4), some (.int (y5 / 10)), some (.int y6), some (.int r4_), none]) O dX4_digits_55 (by decide) rfl ?_
          refine z_iload O dX4_digits_57 rfl ?_
          refine z_bipush (v := 10) O dX4_digits_59 (by decide) ?_
          refine z_imul O dX4_digits_61 ?_
          refine z_iload O dX4_digits_62 rfl ?_
          refine z_bipush (v := 48) O dX4_digits_64 (by decide) ?_
          refine z_isub O dX4_digits_66 ?_
          refine z_iadd O dX4_digits_67 ?_
          refine z_istore (L' := [some (.ref b0), some (.int y1), some (.int y2), some (.int y3), some (.int y4), some (.int (y5 / 10)), some (.int y6), some (.int r4_), some (.int ((y4 * 10) + (r4_ - 48)))]) O dX4_digits_68 (by decide) rfl ?_
          refine z_iload O dX4_digits_70 rfl ?_
          refine z_bipush (v := 48) O dX4_digits_72 (by decide) ?_
          refine z_icmp_lt (tgt := 107) O dX4_digits_74 (by decide) (fun c8_ => ?_) (fun c8_ => ?_)
          · have h := h.1 c8_
            refine z_aload_n O dX4_digits_107 rfl rfl ?_
            refine z_iconst (v := 1) O dX4_digits_108 (by decide) ?_
            refine y_put O wp_RX4_29 dX4_digits_109 (X_obj g0) rfl rfl (fun G9_ hw10_ => ?_)
            have k11_ := X_w_wrong g0 hw10_
            have f12_ := hw10_.fr
            have f13_ : Fr b0 2 G9 G9_ := Fr.mono f12_ (by omega) (by omega)
            obtain ⟨v14_, ev14_⟩ : ∃ w, w = (X_set_wrong v0 1) := ⟨_, rfl⟩
            have h := h v14_ ev14_
            have k15_ : XA b0 v14_ G9_ := by rw [ev14_]; exact k11_
            have F16_ : Fr b0 2 G G9_ := Fr.trans gF f13_
            refine z_goto (tgt := 129) O dX4_digits_112 (by decide) ?_
            refine z_iinc (v := (y6 + 1)) (L' := [some (.ref b0), some (.int y1), some (.int y2), some (.int y3), some (.int y4), some (.int (y5 / 10)), some (.int (y6 + 1)), some (.int r4_), some (.int ((y4 * 10) + (r4_ - 48)))]) O dX4_digits_129 rfl (by first | rfl | decide) (by decide) rfl ?_
            refine z_goto (tgt := 31) O dX4_digits_132 (by decide) ?_
            exact z_subL (L' := [some (.ref b0), some (.int y1), some (.int y2), some (.int y3), some (.int y4), some (.int (y5 / 10)), some (.int (y6 + 1)), none, none]) (zLe.sub (And.intro rfl (And.intro rfl (And.intro rfl (And.intro rfl (And.intro rfl (And.intro rfl (And.intro rfl True.intro)))))))) (ih y1 y2 y3 y4 (y5 / 10) (y6 + 1) v14_ G9_ k15_ F16_ h)
          · have h := h.2 c8_
            refine z_iload O dX4_digits_77 rfl ?_
            refine z_bipush (v := 57) O dX4_digits_79 (by decide) ?_
            refine z_icmp_gt (tgt := 107) O dX4_digits_81 (by decide) (fun c17_ => ?_) (fun c17_ => ?_)
            · have h := h.1 c17_
              refine z_aload_n O dX4_digits_107 rfl rfl ?_
              refine z_iconst (v := 1) O dX4_digits_108 (by decide) ?_
              refine y_put O wp_RX4_29 dX4_digits_109 (X_obj g0) rfl rfl (fun G18_ hw19_ => ?_)
              have k20_ := X_w_wrong g0 hw19_
              have f21_ := hw19_.fr
              have f22_ : Fr b0 2 G9 G18_ := Fr.mono f21_ (by omega) (by omega)
              obtain ⟨v23_, ev23_⟩ : ∃ w, w = (X_set_wrong v0 1) := ⟨_, rfl⟩
              have h := h v23_ ev23_
              have k24_ : XA b0 v23_ G18_ := by rw [ev23_]; exact k20_
              have F25_ : Fr b0 2 G G18_ := Fr.trans gF f22_
              refine z_goto (tgt := 129) O dX4_digits_112 (by decide) ?_
              refine z_iinc (v := (y6 + 1)) (L' := [some (.ref b0), some (.int y1), some (.int y2), some (.int y3), some (.int y4), some (.int (y5 / 10)), some (.int (y6 + 1)), some (.int r4_), some (.int ((y4 * 10) + (r4_ - 48)))]) O dX4_digits_129 rfl (by first | rfl | decide) (by decide) rfl ?_
              refine z_goto (tgt := 31) O dX4_digits_132 (by decide) ?_
              exact z_subL (L' := [some (.ref b0), some (.int y1), some (.int y2), some (.int y3), some (.int y4), some (.int (y5 / 10)), some (.int (y6 + 1)), none, none]) (zLe.sub (And.intro rfl (And.intro rfl (And.intro rfl (And.intro rfl (And.intro rfl (And.intro rfl (And.intro rfl True.intro)))))))) (ih y1 y2 y3 y4 (y5 / 10) (y6 + 1) v23_ G18_ k24_ F25_ h)
            · have h := h.2 c17_
              refine z_iload O dX4_digits_84 rfl ?_
              refine z_iload O dX4_digits_86 rfl ?_
              refine z_imul O dX4_digits_88 ?_
              refine z_iload_n O dX4_digits_89 rfl rfl ?_
              refine z_icmp_gt (tgt := 107) O dX4_digits_90 (by decide) (fun c26_ => ?_) (fun c26_ => ?_)
              · have h := h.1 c26_
                refine z_aload_n O dX4_digits_107 rfl rfl ?_
                refine z_iconst (v := 1) O dX4_digits_108 (by decide) ?_
                refine y_put O wp_RX4_29 dX4_digits_109 (X_obj g0) rfl rfl (fun G27_ hw28_ => ?_)
                have k29_ := X_w_wrong g0 hw28_
                have f30_ := hw28_.fr
                have f31_ : Fr b0 2 G9 G27_ := Fr.mono f30_ (by omega) (by omega)
                obtain ⟨v32_, ev32_⟩ : ∃ w, w = (X_set_wrong v0 1) := ⟨_, rfl⟩
                have h := h v32_ ev32_
                have k33_ : XA b0 v32_ G27_ := by rw [ev32_]; exact k29_
                have F34_ : Fr b0 2 G G27_ := Fr.trans gF f31_
                refine z_goto (tgt := 129) O dX4_digits_112 (by decide) ?_
                refine z_iinc (v := (y6 + 1)) (L' := [some (.ref b0), some (.int y1), some (.int y2), some (.int y3), some (.int y4), some (.int (y5 / 10)), some (.int (y6 + 1)), some (.int r4_), some (.int ((y4 * 10) + (r4_ - 48)))]) O dX4_digits_129 rfl (by first | rfl | decide) (by decide) rfl ?_
                refine z_goto (tgt := 31) O dX4_digits_132 (by decide) ?_
                exact z_subL (L' := [some (.ref b0), some (.int y1), some (.int y2), some (.int y3), some (.int y4), some (.int (y5 / 10)), some (.int (y6 + 1)), none, none]) (zLe.sub (And.intro rfl (And.intro rfl (And.intro rfl (And.intro rfl (And.intro rfl (And.intro rfl (And.intro rfl True.intro)))))))) (ih y1 y2 y3 y4 (y5 / 10) (y6 + 1) v32_ G27_ k33_ F34_ h)
              · have h := h.2 c26_
                refine z_iload O dX4_digits_93 rfl ?_
                refine z_iload O dX4_digits_95 rfl ?_
                refine z_imul O dX4_digits_97 ?_
                refine z_iload O dX4_digits_98 rfl ?_
                refine z_iadd O dX4_digits_100 ?_
                refine z_iconst (v := 1) O dX4_digits_101 (by decide) ?_
                refine z_isub O dX4_digits_102 ?_
                refine z_iload_n O dX4_digits_103 rfl rfl ?_
                refine z_icmp_ge (tgt := 115) O dX4_digits_104 (by decide) (fun c35_ => ?_) (fun c35_ => ?_)
                · have h := h.1 c35_
                  refine z_iload O dX4_digits_115 rfl ?_
                  refine z_istore (L' := [some (.ref b0), some (.int y1), some (.int y2), some (.int y3), some (.int ((y4 * 10) + (r4_ - 48))), some (.int (y5 / 10)), some (.int y6), some (.int r4_), some (.int ((y4 * 10) + (r4_ - 48)))]) O dX4_digits_117 (by decide) rfl ?_
                  refine z_aload_n O dX4_digits_119 rfl rfl ?_
                  refine z_dup O dX4_digits_120 rfl ?_
                  refine z_get (v := .int (X_position v0)) O wf_RX4_33 dX4_digits_121 (X_obj g0) rfl ?_
                  refine z_iconst (v := 1) O dX4_digits_124 (by decide) ?_
                  refine z_iadd O dX4_digits_125 ?_
                  refine y_put O wp_RX4_33 dX4_digits_126 (X_obj g0) rfl rfl (fun G36_ hw37_ => ?_)
                  have k38_ := X_w_position g0 hw37_
                  have f39_ := hw37_.fr
                  have f40_ : Fr b0 2 G9 G36_ := Fr.mono f39_ (by omega) (by omega)
                  obtain ⟨v41_, ev41_⟩ : ∃ w, w = (X_set_position v0 ((X_position v0) + 1)) := ⟨_, rfl⟩
                  have h := h v41_ ev41_
                  have k42_ : XA b0 v41_ G36_ := by rw [ev41_]; exact k38_
                  have F43_ : Fr b0 2 G G36_ := Fr.trans gF f40_
                  refine z_iinc (v := (y6 + 1)) (L' := [some (.ref b0), some (.int y1), some (.int y2), some (.int y3), some (.int ((y4 * 10) + (r4_ - 48))), some (.int (y5 / 10)), some (.int (y6 + 1)), some (.int r4_), some (.int ((y4 * 10) + (r4_ - 48)))]) O dX4_digits_129 rfl (by first | rfl | decide) (by decide) rfl ?_
                  refine z_goto (tgt := 31) O dX4_digits_132 (by decide) ?_
                  exact z_subL (L' := [some (.ref b0), some (.int y1), some (.int y2), some (.int y3), some (.int ((y4 * 10) + (r4_ - 48))), some (.int (y5 / 10)), some (.int (y6 + 1)), none, none]) (zLe.sub (And.intro rfl (And.intro rfl (And.intro rfl (And.intro rfl (And.intro rfl (And.intro rfl (And.intro rfl True.intro)))))))) (ih y1 y2 y3 ((y4 * 10) + (r4_ - 48)) (y5 / 10) (y6 + 1) v41_ G36_ k42_ F43_ h)
                · have h := h.2 c35_
                  refine z_aload_n O dX4_digits_107 rfl rfl ?_
                  refine z_iconst (v := 1) O dX4_digits_108 (by decide) ?_
                  refine y_put O wp_RX4_29 dX4_digits_109 (X_obj g0) rfl rfl (fun G44_ hw45_ => ?_)
                  have k46_ := X_w_wrong g0 hw45_
                  have f47_ := hw45_.fr
                  have f48_ : Fr b0 2 G9 G44_ := Fr.mono f47_ (by omega) (by omega)
                  obtain ⟨v49_, ev49_⟩ : ∃ w, w = (X_set_wrong v0 1) := ⟨_, rfl⟩
                  have h := h v49_ ev49_
                  have k50_ : XA b0 v49_ G44_ := by rw [ev49_]; exact k46_
                  have F51_ : Fr b0 2 G G44_ := Fr.trans gF f48_
                  refine z_goto (tgt := 129) O dX4_digits_112 (by decide) ?_
                  refine z_iinc (v := (y6 + 1)) (L' := [some (.ref b0), some (.int y1), some (.int y2), some (.int y3), some (.int y4), some (.int (y5 / 10)), some (.int (y6 + 1)), some (.int r4_), some (.int ((y4 * 10) + (r4_ - 48)))]) O dX4_digits_129 rfl (by first | rfl | decide) (by decide) rfl ?_
                  refine z_goto (tgt := 31) O dX4_digits_132 (by decide) ?_
                  exact z_subL (L' := [some (.ref b0), some (.int y1), some (.int y2), some (.int y3), some (.int y4), some (.int (y5 / 10)), some (.int (y6 + 1)), none, none]) (zLe.sub (And.intro rfl (And.intro rfl (And.intro rfl (And.intro rfl (And.intro rfl (And.intro rfl (And.intro rfl True.intro)))))))) (ih y1 y2 y3 y4 (y5 / 10) (y6 + 1) v49_ G44_ k50_ F51_ h)
  have HL9 : ∀ (n9 : Nat)    (y1 : Int32) (y2 : Int32) (y3 : Int32) (y4 : Int32) (y5 : Int32) (y6 : Int32) (v0 : XT) (G9 : zG) (g0 : XA b0 v0 G9) (gF : Fr b0 2 G G9) (h : PL_X_digits_9 n9 x1 x2 x3 y1 y2 y3 y4 y5 y6 v0 Q), zT p l e (zrm 1 20 0 0) s m args below meth c (zEnd below D B (zRi fun r z' G' => z = z' ∧ ∃ w, XA b0 w G' ∧ Fr b0 2 G G' ∧ Q r w) args s 0 0) D B 9 0 0 9 [] [some (.ref b0), some (.int y1), some (.int y2), some (.int y3), some (.int y4), some (.int y5), some (.int y6), none, none] z G9 := by
    intro n9   
    induction n9 with
    | zero =>
      intro _ _ _ _ _ _ _ _ _ _ h
      exact (h : False).elim
    | succ n ih =>
      intro y1 y2 y3 y4 y5 y6 v0 G9 g0 gF h
      rw [PL_X_digits_9] at h
      refine z_iload O dX4_digits_9 rfl ?_
      refine z_iload_n O dX4_digits_11 rfl rfl ?_
      refine z_icmp_ge (tgt := 28) O dX4_digits_12 (by decide) (fun c1_ => ?_) (fun c1_ => ?_)
      · have h := h.1 c1_
        refine z_iconst (v := 0) O dX4_digits_28 (by decide) ?_
        refine z_istore (L' := [some (.ref b0), some (.int y1), some (.int y2), some (.int y3), some (.int y4), some (.int y5), some (.int 0), none, none]) O dX4_digits_29 (by decide) rfl ?_
        obtain ⟨n52_, h⟩ := h
        exact z_subL (L' := [some (.ref b0), some (.int y1), some (.int y2), some (.int y3), some (.int y4), some (.int y5), some (.int 0), none, none]) (zLe.sub (And.intro rfl (And.intro rfl (And.intro rfl (And.intro rfl (And.intro rfl (And.intro rfl (And.intro rfl True.intro)))))))) (HL31 n52_ y1 y2 y3 y4 y5 0 v0 G9 g0 gF h)
      · have h := h.2 c1_
        refine z_iload O dX4_digits_15 rfl ?_
        refine z_bipush (v := 10) O dX4_digits_17 (by decide) ?_
        refine z_imul O dX4_digits_19 ?_
        refine z_istore (L' := [some (.ref b0), some (.int y1), some (.int y2), some (.int y3), some (.int y4), some (.int (y5 * 10)), some (.int y6), none, none]) O dX4_digits_20 (by decide) rfl ?_
        refine z_iinc (v := (y6 + 1)) (L' := [some (.ref b0), some (.int y1), some (.int y2), some (.int y3), some (.int y4), some (.int (y5 * 10)), some (.int (y6 + 1)), none, none]) O dX4_digits_22 rfl (by first | rfl | decide) (by decide) rfl ?_
        refine z_goto (tgt := 9) O dX4_digits_25 (by decide) ?_
        exact z_subL (L' := [some (.ref b0), some (.int y1), some (.int y2), some (.int y3), some (.int y4), some (.int (y5 * 10)), some (.int (y6 + 1)), none, none]) (zLe.sub (And.intro rfl (And.intro rfl (And.intro rfl (And.intro rfl (And.intro rfl (And.intro rfl (And.intro rfl True.intro)))))))) (ih y1 y2 y3 y4 (y5 * 10) (y6 + 1) v0 G9 g0 gF h)
  refine z_iconst (v := 0) O dX4_digits_0 (by decide) ?_
  refine z_istore (L' := [some (.ref b0), some (.int x1), some (.int x2), some (.int x3), some (.int 0), none, none, none, none]) O dX4_digits_1 (by decide) rfl ?_
  refine z_iconst (v := 1) O dX4_digits_3 (by decide) ?_
  refine z_istore (L' := [some (.ref b0), some (.int x1), some (.int x2), some (.int x3), some (.int 0), some (.int 1), none, none, none]) O dX4_digits_4 (by decide) rfl ?_
  refine z_iconst (v := 0) O dX4_digits_6 (by decide) ?_
  refine z_istore (L' := [some (.ref b0), some (.int x1), some (.int x2), some (.int x3), some (.int 0), some (.int 1), some (.int 0), none, none]) O dX4_digits_7 (by decide) rfl ?_
  obtain ⟨n53_, h⟩ := h
  exact z_subL (L' := [some (.ref b0), some (.int x1), some (.int x2), some (.int x3), some (.int 0), some (.int 1), some (.int 0), none, none]) (zLe.sub (And.intro rfl (And.intro rfl (And.intro rfl (And.intro rfl (And.intro rfl (And.intro rfl (And.intro rfl True.intro)))))))) (HL9 n53_ x1 x2 x3 0 1 0 v0 G h0 Fr.rf h)

theorem dX4_plusOrMinus_0 : decode cX4_plusOrMinus 0 = .ok (.aload_n 0, 1) := by decide +kernel
theorem dX4_plusOrMinus_1 : decode cX4_plusOrMinus 1 = .ok (.invokevirtual 58, 3) := by decide +kernel
theorem dX4_plusOrMinus_4 : decode cX4_plusOrMinus 4 = .ok (.istore_n 1, 1) := by decide +kernel
theorem dX4_plusOrMinus_5 : decode cX4_plusOrMinus 5 = .ok (.aload_n 0, 1) := by decide +kernel
theorem dX4_plusOrMinus_6 : decode cX4_plusOrMinus 6 = .ok (.getfield 29, 3) := by decide +kernel
theorem dX4_plusOrMinus_9 : decode cX4_plusOrMinus 9 = .ok (.ifCond .ne 15, 3) := by decide +kernel
theorem dX4_plusOrMinus_12 : decode cX4_plusOrMinus 12 = .ok (.iload_n 1, 1) := by decide +kernel
theorem dX4_plusOrMinus_13 : decode cX4_plusOrMinus 13 = .ok (.bipush 43, 2) := by decide +kernel
theorem dX4_plusOrMinus_15 : decode cX4_plusOrMinus 15 = .ok (.if_icmp .eq 16, 3) := by decide +kernel
theorem dX4_plusOrMinus_18 : decode cX4_plusOrMinus 18 = .ok (.iload_n 1, 1) := by decide +kernel
theorem dX4_plusOrMinus_19 : decode cX4_plusOrMinus 19 = .ok (.bipush 45, 2) := by decide +kernel
theorem dX4_plusOrMinus_21 : decode cX4_plusOrMinus 21 = .ok (.if_icmp .eq 10, 3) := by decide +kernel
theorem dX4_plusOrMinus_24 : decode cX4_plusOrMinus 24 = .ok (.aload_n 0, 1) := by decide +kernel
theorem dX4_plusOrMinus_25 : decode cX4_plusOrMinus 25 = .ok (.iconst 1, 1) := by decide +kernel
theorem dX4_plusOrMinus_26 : decode cX4_plusOrMinus 26 = .ok (.putfield 29, 3) := by decide +kernel
theorem dX4_plusOrMinus_29 : decode cX4_plusOrMinus 29 = .ok (.iconst 0, 1) := by decide +kernel
theorem dX4_plusOrMinus_30 : decode cX4_plusOrMinus 30 = .ok (.ireturn, 1) := by decide +kernel
theorem dX4_plusOrMinus_31 : decode cX4_plusOrMinus 31 = .ok (.aload_n 0, 1) := by decide +kernel
theorem dX4_plusOrMinus_32 : decode cX4_plusOrMinus 32 = .ok (.dup, 1) := by decide +kernel
theorem dX4_plusOrMinus_33 : decode cX4_plusOrMinus 33 = .ok (.getfield 33, 3) := by decide +kernel
theorem dX4_plusOrMinus_36 : decode cX4_plusOrMinus 36 = .ok (.iconst 1, 1) := by decide +kernel
theorem dX4_plusOrMinus_37 : decode cX4_plusOrMinus 37 = .ok (.iadd, 1) := by decide +kernel
theorem dX4_plusOrMinus_38 : decode cX4_plusOrMinus 38 = .ok (.putfield 33, 3) := by decide +kernel
theorem dX4_plusOrMinus_41 : decode cX4_plusOrMinus 41 = .ok (.iload_n 1, 1) := by decide +kernel
theorem dX4_plusOrMinus_42 : decode cX4_plusOrMinus 42 = .ok (.bipush 43, 2) := by decide +kernel
theorem dX4_plusOrMinus_44 : decode cX4_plusOrMinus 44 = .ok (.if_icmp .ne 7, 3) := by decide +kernel
theorem dX4_plusOrMinus_47 : decode cX4_plusOrMinus 47 = .ok (.iconst 1, 1) := by decide +kernel
theorem dX4_plusOrMinus_48 : decode cX4_plusOrMinus 48 = .ok (.goto 4, 3) := by decide +kernel
theorem dX4_plusOrMinus_51 : decode cX4_plusOrMinus 51 = .ok (.iconst 0, 1) := by decide +kernel
theorem dX4_plusOrMinus_52 : decode cX4_plusOrMinus 52 = .ok (.invokestatic 54, 3) := by decide +kernel
theorem dX4_plusOrMinus_55 : decode cX4_plusOrMinus 55 = .ok (.ireturn, 1) := by decide +kernel
def PJ_X_plusOrMinus_31 (y1 : Int32) (v0 : XT) (Q : Int32 → XT → Prop) : Prop := ∀ v20_, v20_ = (X_set_position v0 ((X_position v0) + 1)) → (((¬ y1 = 43 → P_T_asNumber 0 (fun r24_ => (Q r24_ v20_))) ∧ (y1 = 43 → P_T_asNumber 1 (fun r28_ => (Q r28_ v20_)))))
def P_X_plusOrMinus (v0 : XT) (Q : Int32 → XT → Prop) : Prop := P_X_sign v0 (fun r1_ => (((¬ (X_wrong v0) = 0 → ∀ v11_, v11_ = (X_set_wrong v0 1) → (Q 0 v11_)) ∧ ((X_wrong v0) = 0 → ((r1_ = 43 → PJ_X_plusOrMinus_31 r1_ v0 Q) ∧ (¬ r1_ = 43 → ((r1_ = 45 → PJ_X_plusOrMinus_31 r1_ v0 Q) ∧ (¬ r1_ = 45 → ∀ v38_, v38_ = (X_set_wrong v0 1) → (Q 0 v38_)))))))))
set_option maxRecDepth 100000 in
theorem s_X_plusOrMinus {l : Launch} {D : zD} {B : Nat} {sa : Nat → Nat} (hfl : l.stackTraces = false) {z : Nat} {G : zG} {b0 : Nat} {v0 : XT} {Q : Int32 → XT → Prop} (h0 : XA b0 v0 G) (h : P_X_plusOrMinus v0 Q) : zSp l D B sa yX4_plusOrMinus cX4_plusOrMinus 2 (some .int) 1 20 0 0 [.ref b0] z G (zRi fun r z' G' => z = z' ∧ ∃ w, XA b0 w G' ∧ Fr b0 2 G G' ∧ Q r w) := by
  unfold P_X_plusOrMinus at h
  refine z_ofW (by decide +kernel) hfl [some (.ref b0), none] rfl (Nat.le_of_ble_eq_true rfl) (fun p e s m args below meth c O hret hlk hnm => ?_)
  have O : zO p l s m args c D B sa 2 cX4_plusOrMinus RX4 := O
  have HJ31 : ∀ (y1 : Int32) (v0 : XT) (G9 : zG) (g0 : XA b0 v0 G9) (gF : Fr b0 2 G G9), PJ_X_plusOrMinus_31 y1 v0 Q → zT p l e (zrm 1 20 0 0) s m args below meth c (zEnd below D B (zRi fun r z' G' => z = z' ∧ ∃ w, XA b0 w G' ∧ Fr b0 2 G G' ∧ Q r w) args s 0 0) D B 2 0 0 31 [] [some (.ref b0), some (.int y1)] z G9 := by
    intro y1 v0 G9 g0 gF h
    unfold PJ_X_plusOrMinus_31 at h
    refine z_aload_n O dX4_plusOrMinus_31 rfl rfl ?_
    refine z_dup O dX4_plusOrMinus_32 rfl ?_
    refine z_get (v := .int (X_position v0)) O wf_RX4_33 dX4_plusOrMinus_33 (X_obj g0) rfl ?_
    refine z_iconst (v := 1) O dX4_plusOrMinus_36 (by decide) ?_
    refine z_iadd O dX4_plusOrMinus_37 ?_
    refine y_put O wp_RX4_33 dX4_plusOrMinus_38 (X_obj g0) rfl rfl (fun G15_ hw16_ => ?_)
    have k17_ := X_w_position g0 hw16_
    have f18_ := hw16_.fr
    have f19_ : Fr b0 2 G9 G15_ := Fr.mono f18_ (by omega) (by omega)
    obtain ⟨v20_, ev20_⟩ : ∃ w, w = (X_set_position v0 ((X_position v0) + 1)) := ⟨_, rfl⟩
    have h := h v20_ ev20_
    have k21_ : XA b0 v20_ G15_ := by rw [ev20_]; exact k17_
    have F22_ : Fr b0 2 G G15_ := Fr.trans gF f19_
    refine z_iload_n O dX4_plusOrMinus_41 rfl rfl ?_
    refine z_bipush (v := 43) O dX4_plusOrMinus_42 (by decide) ?_
    refine z_icmp_ne (tgt := 51) O dX4_plusOrMinus_44 (by decide) (fun c23_ => ?_) (fun c23_ => ?_)
    · have h := h.1 c23_
      refine z_iconst (v := 0) O dX4_plusOrMinus_51 (by decide) ?_
      refine z_callNi (As := [.int 0]) (st := []) O (s_T_asNumber hfl h) wy_X5_asNumber wl_RX4_54 dX4_plusOrMinus_52 rfl rfl ⟨Nat.le_of_ble_eq_true rfl, Nat.le_of_ble_eq_true rfl⟩ (Nat.le_of_ble_eq_true rfl) ⟨Nat.le_of_ble_eq_true rfl, Nat.le_of_ble_eq_true rfl⟩ (fun r24_ z25_ G26_ hq27_ => ?_)
      obtain ⟨rfl, rfl, h⟩ := hq27_
      exact z_iret O hret hlk dX4_plusOrMinus_55 (Nat.le_of_ble_eq_true rfl) (Nat.le_of_ble_eq_true rfl) ⟨_, rfl, rfl, _, k21_, F22_, h⟩
    · have h := h.2 c23_
      refine z_iconst (v := 1) O dX4_plusOrMinus_47 (by decide) ?_
      refine z_goto (tgt := 52) O dX4_plusOrMinus_48 (by decide) ?_
      refine z_callNi (As := [.int 1]) (st := []) O (s_T_asNumber hfl h) wy_X5_asNumber wl_RX4_54 dX4_plusOrMinus_52 rfl rfl ⟨Nat.le_of_ble_eq_true rfl, Nat.le_of_ble_eq_true rfl⟩ (Nat.le_of_ble_eq_true rfl) ⟨Nat.le_of_ble_eq_true rfl, Nat.le_of_ble_eq_true rfl⟩ (fun r28_ z29_ G30_ hq31_ => ?_)
      obtain ⟨rfl, rfl, h⟩ := hq31_
      exact z_iret O hret hlk dX4_plusOrMinus_55 (Nat.le_of_ble_eq_true rfl) (Nat.le_of_ble_eq_true rfl) ⟨_, rfl, rfl, _, k21_, F22_, h⟩
  refine z_aload_n O dX4_plusOrMinus_0 rfl rfl ?_
  refine z_callVi (As := []) (st := []) O (s_X_sign hfl h0 h) wy_X4_sign wl_RX4_58 dX4_plusOrMinus_1 rfl rfl (X_obj h0) ⟨by decide, rfl⟩ ⟨Nat.le_of_ble_eq_true rfl, Nat.le_of_ble_eq_true rfl⟩ (Nat.le_of_ble_eq_true rfl) ⟨Nat.le_of_ble_eq_true rfl, Nat.le_of_ble_eq_true rfl⟩ (fun r1_ z2_ G3_ hq4_ => ?_)
  obtain ⟨rfl, rfl, h⟩ := hq4_
  refine z_istore_n (L' := [some (.ref b0), some (.int r1_)]) O dX4_plusOrMinus_4 rfl (by decide) rfl ?_
  refine z_aload_n O dX4_plusOrMinus_5 rfl rfl ?_
  refine z_get (v := .int (X_wrong v0)) O wf_RX4_29 dX4_plusOrMinus_6 (X_obj h0) rfl ?_
  refine z_if_ne (tgt := 24) O dX4_plusOrMinus_9 (by decide) (fun c5_ => ?_) (fun c5_ => ?_)
  · have h := h.1 c5_
    refine z_aload_n O dX4_plusOrMinus_24 rfl rfl ?_
    refine z_iconst (v := 1) O dX4_plusOrMinus_25 (by decide) ?_
    refine y_put O wp_RX4_29 dX4_plusOrMinus_26 (X_obj h0) rfl rfl (fun G6_ hw7_ => ?_)
    have k8_ := X_w_wrong h0 hw7_
    have f9_ := hw7_.fr
    have f10_ : Fr b0 2 G G6_ := Fr.mono f9_ (by omega) (by omega)
    obtain ⟨v11_, ev11_⟩ : ∃ w, w = (X_set_wrong v0 1) := ⟨_, rfl⟩
    have h := h v11_ ev11_
    have k12_ : XA b0 v11_ G6_ := by rw [ev11_]; exact k8_
    have F13_ : Fr b0 2 G G6_ := Fr.trans Fr.rf f10_
    refine z_iconst (v := 0) O dX4_plusOrMinus_29 (by decide) ?_
    exact z_iret O hret hlk dX4_plusOrMinus_30 (Nat.le_of_ble_eq_true rfl) (Nat.le_of_ble_eq_true rfl) ⟨_, rfl, rfl, _, k12_, F13_, h⟩
  · have h := h.2 c5_
    refine z_iload_n O dX4_plusOrMinus_12 rfl rfl ?_
    refine z_bipush (v := 43) O dX4_plusOrMinus_13 (by decide) ?_
    refine z_icmp_eq (tgt := 31) O dX4_plusOrMinus_15 (by decide) (fun c14_ => ?_) (fun c14_ => ?_)
    · have h := h.1 c14_
      exact z_subL (L' := [some (.ref b0), some (.int r1_)]) (zLe.sub (And.intro rfl (And.intro rfl True.intro))) (HJ31 r1_ v0 G h0 Fr.rf h)
    · have h := h.2 c14_
      refine z_iload_n O dX4_plusOrMinus_18 rfl rfl ?_
      refine z_bipush (v := 45) O dX4_plusOrMinus_19 (by decide) ?_
      refine z_icmp_eq (tgt := 31) O dX4_plusOrMinus_21 (by decide) (fun c32_ => ?_) (fun c32_ => ?_)
      · have h := h.1 c32_
        exact z_subL (L' := [some (.ref b0), some (.int r1_)]) (zLe.sub (And.intro rfl (And.intro rfl True.intro))) (HJ31 r1_ v0 G h0 Fr.rf h)
      · have h := h.2 c32_
        refine z_aload_n O dX4_plusOrMinus_24 rfl rfl ?_
        refine z_iconst (v := 1) O dX4_plusOrMinus_25 (by decide) ?_
        refine y_put O wp_RX4_29 dX4_plusOrMinus_26 (X_obj h0) rfl rfl (fun G33_ hw34_ => ?_)
        have k35_ := X_w_wrong h0 hw34_
        have f36_ := hw34_.fr
        have f37_ : Fr b0 2 G G33_ := Fr.mono f36_ (by omega) (by omega)
        obtain ⟨v38_, ev38_⟩ : ∃ w, w = (X_set_wrong v0 1) := ⟨_, rfl⟩
        have h := h v38_ ev38_
        have k39_ : XA b0 v38_ G33_ := by rw [ev38_]; exact k35_
        have F40_ : Fr b0 2 G G33_ := Fr.trans Fr.rf f37_
        refine z_iconst (v := 0) O dX4_plusOrMinus_29 (by decide) ?_
        exact z_iret O hret hlk dX4_plusOrMinus_30 (Nat.le_of_ble_eq_true rfl) (Nat.le_of_ble_eq_true rfl) ⟨_, rfl, rfl, _, k39_, F40_, h⟩
