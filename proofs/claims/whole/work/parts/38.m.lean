theorem dX6_about_0 : decode cX6_about 0 = .ok (.aload_n 0, 1) := by decide +kernel
theorem dX6_about_1 : decode cX6_about 1 = .ok (.iload_n 1, 1) := by decide +kernel
theorem dX6_about_2 : decode cX6_about 2 = .ok (.i2l, 1) := by decide +kernel
theorem dX6_about_3 : decode cX6_about 3 = .ok (.lconst 0, 1) := by decide +kernel
theorem dX6_about_4 : decode cX6_about 4 = .ok (.ldc2_w 237, 3) := by decide +kernel
theorem dX6_about_7 : decode cX6_about 7 = .ok (.invokestatic 44, 3) := by decide +kernel
theorem dX6_about_10 : decode cX6_about 10 = .ok (.ifCond .eq 7, 3) := by decide +kernel
theorem dX6_about_13 : decode cX6_about 13 = .ok (.iconst 0, 1) := by decide +kernel
theorem dX6_about_14 : decode cX6_about 14 = .ok (.goto 4, 3) := by decide +kernel
theorem dX6_about_17 : decode cX6_about 17 = .ok (.iconst 1, 1) := by decide +kernel
theorem dX6_about_18 : decode cX6_about 18 = .ok (.invokevirtual 136, 3) := by decide +kernel
theorem dX6_about_21 : decode cX6_about 21 = .ok (.ifCond .eq 5, 3) := by decide +kernel
theorem dX6_about_24 : decode cX6_about 24 = .ok (.iconst 0, 1) := by decide +kernel
theorem dX6_about_25 : decode cX6_about 25 = .ok (.ireturn, 1) := by decide +kernel
theorem dX6_about_26 : decode cX6_about 26 = .ok (.iload_n 1, 1) := by decide +kernel
theorem dX6_about_27 : decode cX6_about 27 = .ok (.tableswitch 167 0 10 #[57, 66, 75, 83, 107, 115, 123, 131, 140, 149, 158], 57) := by decide +kernel
theorem dX6_about_84 : decode cX6_about 84 = .ok (.aload_n 0, 1) := by decide +kernel
theorem dX6_about_85 : decode cX6_about 85 = .ok (.getfield 7, 3) := by decide +kernel
theorem dX6_about_88 : decode cX6_about 88 = .ok (.sipush 401, 3) := by decide +kernel
theorem dX6_about_91 : decode cX6_about 91 = .ok (.iaload, 1) := by decide +kernel
theorem dX6_about_92 : decode cX6_about 92 = .ok (.ireturn, 1) := by decide +kernel
theorem dX6_about_93 : decode cX6_about 93 = .ok (.aload_n 0, 1) := by decide +kernel
theorem dX6_about_94 : decode cX6_about 94 = .ok (.getfield 7, 3) := by decide +kernel
theorem dX6_about_97 : decode cX6_about 97 = .ok (.sipush 400, 3) := by decide +kernel
theorem dX6_about_100 : decode cX6_about 100 = .ok (.iaload, 1) := by decide +kernel
theorem dX6_about_101 : decode cX6_about 101 = .ok (.ireturn, 1) := by decide +kernel
theorem dX6_about_102 : decode cX6_about 102 = .ok (.aload_n 0, 1) := by decide +kernel
theorem dX6_about_103 : decode cX6_about 103 = .ok (.getfield 7, 3) := by decide +kernel
theorem dX6_about_106 : decode cX6_about 106 = .ok (.invokestatic 87, 3) := by decide +kernel
theorem dX6_about_109 : decode cX6_about 109 = .ok (.ireturn, 1) := by decide +kernel
theorem dX6_about_110 : decode cX6_about 110 = .ok (.aload_n 0, 1) := by decide +kernel
theorem dX6_about_111 : decode cX6_about 111 = .ok (.getfield 7, 3) := by decide +kernel
theorem dX6_about_114 : decode cX6_about 114 = .ok (.aload_n 0, 1) := by decide +kernel
theorem dX6_about_115 : decode cX6_about 115 = .ok (.getfield 7, 3) := by decide +kernel
theorem dX6_about_118 : decode cX6_about 118 = .ok (.sipush 400, 3) := by decide +kernel
theorem dX6_about_121 : decode cX6_about 121 = .ok (.iaload, 1) := by decide +kernel
theorem dX6_about_122 : decode cX6_about 122 = .ok (.aload_n 0, 1) := by decide +kernel
theorem dX6_about_123 : decode cX6_about 123 = .ok (.getfield 7, 3) := by decide +kernel
theorem dX6_about_126 : decode cX6_about 126 = .ok (.sipush 401, 3) := by decide +kernel
theorem dX6_about_129 : decode cX6_about 129 = .ok (.iaload, 1) := by decide +kernel
theorem dX6_about_130 : decode cX6_about 130 = .ok (.invokestatic 80, 3) := by decide +kernel
theorem dX6_about_133 : decode cX6_about 133 = .ok (.ireturn, 1) := by decide +kernel
theorem dX6_about_134 : decode cX6_about 134 = .ok (.aload_n 0, 1) := by decide +kernel
theorem dX6_about_135 : decode cX6_about 135 = .ok (.getfield 7, 3) := by decide +kernel
theorem dX6_about_138 : decode cX6_about 138 = .ok (.invokestatic 122, 3) := by decide +kernel
theorem dX6_about_141 : decode cX6_about 141 = .ok (.ireturn, 1) := by decide +kernel
theorem dX6_about_142 : decode cX6_about 142 = .ok (.aload_n 0, 1) := by decide +kernel
theorem dX6_about_143 : decode cX6_about 143 = .ok (.getfield 7, 3) := by decide +kernel
theorem dX6_about_146 : decode cX6_about 146 = .ok (.invokestatic 239, 3) := by decide +kernel
theorem dX6_about_149 : decode cX6_about 149 = .ok (.ireturn, 1) := by decide +kernel
theorem dX6_about_150 : decode cX6_about 150 = .ok (.aload_n 0, 1) := by decide +kernel
theorem dX6_about_151 : decode cX6_about 151 = .ok (.getfield 7, 3) := by decide +kernel
theorem dX6_about_154 : decode cX6_about 154 = .ok (.invokestatic 242, 3) := by decide +kernel
theorem dX6_about_157 : decode cX6_about 157 = .ok (.ireturn, 1) := by decide +kernel
theorem dX6_about_158 : decode cX6_about 158 = .ok (.aload_n 0, 1) := by decide +kernel
theorem dX6_about_159 : decode cX6_about 159 = .ok (.getfield 7, 3) := by decide +kernel
theorem dX6_about_162 : decode cX6_about 162 = .ok (.sipush 616, 3) := by decide +kernel
theorem dX6_about_165 : decode cX6_about 165 = .ok (.iaload, 1) := by decide +kernel
theorem dX6_about_166 : decode cX6_about 166 = .ok (.ireturn, 1) := by decide +kernel
theorem dX6_about_167 : decode cX6_about 167 = .ok (.aload_n 0, 1) := by decide +kernel
theorem dX6_about_168 : decode cX6_about 168 = .ok (.getfield 7, 3) := by decide +kernel
theorem dX6_about_171 : decode cX6_about 171 = .ok (.sipush 617, 3) := by decide +kernel
theorem dX6_about_174 : decode cX6_about 174 = .ok (.iaload, 1) := by decide +kernel
theorem dX6_about_175 : decode cX6_about 175 = .ok (.ireturn, 1) := by decide +kernel
theorem dX6_about_176 : decode cX6_about 176 = .ok (.aload_n 0, 1) := by decide +kernel
theorem dX6_about_177 : decode cX6_about 177 = .ok (.getfield 7, 3) := by decide +kernel
theorem dX6_about_180 : decode cX6_about 180 = .ok (.sipush 618, 3) := by decide +kernel
theorem dX6_about_183 : decode cX6_about 183 = .ok (.iaload, 1) := by decide +kernel
theorem dX6_about_184 : decode cX6_about 184 = .ok (.ireturn, 1) := by decide +kernel
theorem dX6_about_185 : decode cX6_about 185 = .ok (.aload_n 0, 1) := by decide +kernel
theorem dX6_about_186 : decode cX6_about 186 = .ok (.getfield 7, 3) := by decide +kernel
theorem dX6_about_189 : decode cX6_about 189 = .ok (.sipush 619, 3) := by decide +kernel
theorem dX6_about_192 : decode cX6_about 192 = .ok (.iaload, 1) := by decide +kernel
theorem dX6_about_193 : decode cX6_about 193 = .ok (.ireturn, 1) := by decide +kernel
theorem dX6_about_194 : decode cX6_about 194 = .ok (.aload_n 0, 1) := by decide +kernel
theorem dX6_about_195 : decode cX6_about 195 = .ok (.getfield 7, 3) := by decide +kernel
theorem dX6_about_198 : decode cX6_about 198 = .ok (.sipush 620, 3) := by decide +kernel
theorem dX6_about_201 : decode cX6_about 201 = .ok (.iaload, 1) := by decide +kernel
theorem dX6_about_202 : decode cX6_about 202 = .ok (.ireturn, 1) := by decide +kernel
def PJ_M_about_18 (x1 : Int32) (y1 : Int32) (u0 : Int32) (v0 : MT) (Q : Int32 → MT → Prop) : Prop := P_M_refused u0 v0 (fun r6_ v10_ => (((r6_ = 0 → ((y1 = 0 → vp_in 401 621 ∧ (Q ((M_now v10_) (Int32.toNatClampNeg 401)) v10_)) ∧ (¬ y1 = 0 → ((y1 = 1 → vp_in 400 621 ∧ (Q ((M_now v10_) (Int32.toNatClampNeg 400)) v10_)) ∧ (¬ y1 = 1 → ((y1 = 2 → P_M_segments (M_now v10_) (fun r20_ => (Q r20_ v10_))) ∧ (¬ y1 = 2 → ((y1 = 3 → vp_in 400 621 ∧ (vp_in 401 621 ∧ (P_M_sizes ((M_now v10_) (Int32.toNatClampNeg 400)) ((M_now v10_) (Int32.toNatClampNeg 401)) (M_now v10_) (fun r27_ => (Q r27_ v10_))))) ∧ (¬ y1 = 3 → ((y1 = 4 → P_M_readers (M_now v10_) (fun r32_ => (Q r32_ v10_))) ∧ (¬ y1 = 4 → ((y1 = 5 → P_M_holds (M_now v10_) (fun r37_ => (Q r37_ v10_))) ∧ (¬ y1 = 5 → ((y1 = 6 → P_M_gaps (M_now v10_) (fun r42_ => (Q r42_ v10_))) ∧ (¬ y1 = 6 → ((y1 = 7 → vp_in 616 621 ∧ (Q ((M_now v10_) (Int32.toNatClampNeg 616)) v10_)) ∧ (¬ y1 = 7 → ((y1 = 8 → vp_in 617 621 ∧ (Q ((M_now v10_) (Int32.toNatClampNeg 617)) v10_)) ∧ (¬ y1 = 8 → ((y1 = 9 → vp_in 618 621 ∧ (Q ((M_now v10_) (Int32.toNatClampNeg 618)) v10_)) ∧ (¬ y1 = 9 → ((y1 = 10 → vp_in 619 621 ∧ (Q ((M_now v10_) (Int32.toNatClampNeg 619)) v10_)) ∧ (¬ y1 = 10 → vp_in 620 621 ∧ (Q ((M_now v10_) (Int32.toNatClampNeg 620)) v10_)))))))))))))))))))))))) ∧ (¬ r6_ = 0 → Q 0 v10_))))
def P_M_about (x1 : Int32) (v0 : MT) (Q : Int32 → MT → Prop) : Prop := P_M_in (Int32.toInt64 x1) 0 11 (fun r1_ => (((r1_ = 0 → PJ_M_about_18 x1 x1 1 v0 Q) ∧ (¬ r1_ = 0 → PJ_M_about_18 x1 x1 0 v0 Q))))
set_option maxRecDepth 100000 in
theorem s_M_about {l : Launch} {D : zD} {B : Nat} {sa : Nat → Nat} (hfl : l.stackTraces = false) {z : Nat} {G : zG} {b0 : Nat} {x1 : Int32} {v0 : MT} {Q : Int32 → MT → Prop} (h0 : MA b0 v0 G) (h : P_M_about x1 v0 Q) : zSp l D B sa yX6_about cX6_about 2 (some .int) 4 88 0 0 [.ref b0, .int x1] z G (zRi fun r z' G' => z = z' ∧ ∃ w, MA b0 w G' ∧ Fr b0 8 G G' ∧ Q r w) := by
  unfold P_M_about at h
  refine z_ofW (by decide +kernel) hfl [some (.ref b0), some (.int x1)] rfl (Nat.le_of_ble_eq_true rfl) (fun p e s m args below meth c O hret hlk hnm => ?_)
  have O : zO p l s m args c D B sa 2 cX6_about RX6 := O
  have HJ18 : ∀ (y1 : Int32) (u0 : Int32) (v0 : MT) (G9 : zG) (g0 : MA b0 v0 G9) (gF : Fr b0 8 G G9), PJ_M_about_18 x1 y1 u0 v0 Q → zT p l e (zrm 4 88 0 0) s m args below meth c (zEnd below D B (zRi fun r z' G' => z = z' ∧ ∃ w, MA b0 w G' ∧ Fr b0 8 G G' ∧ Q r w) args s 0 0) D B 2 0 0 18 [.int u0, .ref b0] [some (.ref b0), some (.int y1)] z G9 := by
    intro y1 u0 v0 G9 g0 gF h
    unfold PJ_M_about_18 at h
    refine z_callVi (As := [.int u0]) (st := []) O (s_M_refused hfl g0 h) wy_X6_refused wl_RX6_136 dX6_about_18 rfl rfl (M_obj g0) ⟨by decide, rfl⟩ ⟨Nat.le_of_ble_eq_true rfl, Nat.le_of_ble_eq_true rfl⟩ (Nat.le_of_ble_eq_true rfl) ⟨Nat.le_of_ble_eq_true rfl, Nat.le_of_ble_eq_true rfl⟩ (fun r6_ z7_ G8_ hq9_ => ?_)
    obtain ⟨rfl, v10_, k11_, f12_, h⟩ := hq9_
    have F13_ : Fr b0 8 G G8_ := Fr.trans gF f12_
    refine z_if_eq (tgt := 26) O dX6_about_21 (by decide) (fun c14_ => ?_) (fun c14_ => ?_)
    · have h := h.1 c14_
      refine z_iload_n O dX6_about_26 rfl rfl ?_
      rcases Decidable.em (y1 = 0) with c15_ | c15_
      · have h := h.1 c15_
        refine z_tsw (v := 0) (tgt := 84) O dX6_about_27 c15_ (by decide) (by decide) rfl (by decide) ?_
        refine z_aload_n O dX6_about_84 rfl rfl ?_
        refine z_get (v := .ref (b0 + 1)) O wf_RX6_7 dX6_about_85 (M_obj k11_) rfl ?_
        refine z_sipush (v := 401) O dX6_about_88 (by decide) ?_
        obtain ⟨q16_, h⟩ := h
        refine z_iald O dX6_about_91 (M_now_of k11_) q16_ ?_
        exact z_iret O hret hlk dX6_about_92 (Nat.le_of_ble_eq_true rfl) (Nat.le_of_ble_eq_true rfl) ⟨_, rfl, rfl, _, k11_, F13_, h⟩
      · have h := h.2 c15_
        rcases Decidable.em (y1 = 1) with c17_ | c17_
        · have h := h.1 c17_
          refine z_tsw (v := 1) (tgt := 93) O dX6_about_27 c17_ (by decide) (by decide) rfl (by decide) ?_
          refine z_aload_n O dX6_about_93 rfl rfl ?_
          refine z_get (v := .ref (b0 + 1)) O wf_RX6_7 dX6_about_94 (M_obj k11_) rfl ?_
          refine z_sipush (v := 400) O dX6_about_97 (by decide) ?_
          obtain ⟨q18_, h⟩ := h
          refine z_iald O dX6_about_100 (M_now_of k11_) q18_ ?_
          exact z_iret O hret hlk dX6_about_101 (Nat.le_of_ble_eq_true rfl) (Nat.le_of_ble_eq_true rfl) ⟨_, rfl, rfl, _, k11_, F13_, h⟩
        · have h := h.2 c17_
          rcases Decidable.em (y1 = 2) with c19_ | c19_
          · have h := h.1 c19_
            refine z_tsw (v := 2) (tgt := 102) O dX6_about_27 c19_ (by decide) (by decide) rfl (by decide) ?_
            refine z_aload_n O dX6_about_102 rfl rfl ?_
            refine z_get (v := .ref (b0 + 1)) O wf_RX6_7 dX6_about_103 (M_obj k11_) rfl ?_
            refine z_callSi (As := [.ref (b0 + 1)]) (st := []) O (s_M_segments hfl (M_now_of k11_) h) wy_X6_segments wl_RX6_87 dX6_about_106 rfl rfl ⟨Nat.le_of_ble_eq_true rfl, Nat.le_of_ble_eq_true rfl⟩ (Nat.le_of_ble_eq_true rfl) ⟨Nat.le_of_ble_eq_true rfl, Nat.le_of_ble_eq_true rfl⟩ (fun r20_ z21_ G22_ hq23_ => ?_)
            obtain ⟨rfl, rfl, h⟩ := hq23_
            exact z_iret O hret hlk dX6_about_109 (Nat.le_of_ble_eq_true rfl) (Nat.le_of_ble_eq_true rfl) ⟨_, rfl, rfl, _, k11_, F13_, h⟩
          · have h := h.2 c19_
            rcases Decidable.em (y1 = 3) with c24_ | c24_
            · have h := h.1 c24_
              refine z_tsw (v := 3) (tgt := 110) O dX6_about_27 c24_ (by decide) (by decide) rfl (by decide) ?_
              refine z_aload_n O dX6_about_110 rfl rfl ?_
              refine z_get (v := .ref (b0 + 1)) O wf_RX6_7 dX6_about_111 (M_obj k11_) rfl ?_
              refine z_aload_n O dX6_about_114 rfl rfl ?_
              refine z_get (v := .ref (b0 + 1)) O wf_RX6_7 dX6_about_115 (M_obj k11_) rfl ?_
              refine z_sipush (v := 400) O dX6_about_118 (by decide) ?_
              obtain ⟨q25_, h⟩ := h
              refine z_iald O dX6_about_121 (M_now_of k11_) q25_ ?_
              refine z_aload_n O dX6_about_122 rfl rfl ?_
              refine z_get (v := .ref (b0 + 1)) O wf_RX6_7 dX6_about_123 (M_obj k11_) rfl ?_
              refine z_sipush (v := 401) O dX6_about_126 (by decide) ?_
              obtain ⟨q26_, h⟩ := h
              refine z_iald O dX6_about_129 (M_now_of k11_) q26_ ?_
              refine z_callSi (As := [.ref (b0 + 1), .int ((M_now v10_) (Int32.toNatClampNeg 400)), .int ((M_now v10_) (Int32.toNatClampNeg 401))]) (st := []) O (s_M_sizes hfl (M_now_of k11_) h) wy_X6_sizes wl_RX6_80 dX6_about_130 rfl rfl ⟨Nat.le_of_ble_eq_true rfl, Nat.le_of_ble_eq_true rfl⟩ (Nat.le_of_ble_eq_true rfl) ⟨Nat.le_of_ble_eq_true rfl, Nat.le_of_ble_eq_true rfl⟩ (fun r27_ z28_ G29_ hq30_ => ?_)
              obtain ⟨rfl, rfl, h⟩ := hq30_
              exact z_iret O hret hlk dX6_about_133 (Nat.le_of_ble_eq_true rfl) (Nat.le_of_ble_eq_true rfl) ⟨_, rfl, rfl, _, k11_, F13_, h⟩
            · have h := h.2 c24_
              rcases Decidable.em (y1 = 4) with c31_ | c31_
              · have h := h.1 c31_
                refine z_tsw (v := 4) (tgt := 134) O dX6_about_27 c31_ (by decide) (by decide) rfl (by decide) ?_
                refine z_aload_n O dX6_about_134 rfl rfl ?_
                refine z_get (v := .ref (b0 + 1)) O wf_RX6_7 dX6_about_135 (M_obj k11_) rfl ?_
                refine z_callSi (As := [.ref (b0 + 1)]) (st := []) O (s_M_readers hfl (M_now_of k11_) h) wy_X6_readers wl_RX6_122 dX6_about_138 rfl rfl ⟨Nat.le_of_ble_eq_true rfl, Nat.le_of_ble_eq_true rfl⟩ (Nat.le_of_ble_eq_true rfl) ⟨Nat.le_of_ble_eq_true rfl, Nat.le_of_ble_eq_true rfl⟩ (fun r32_ z33_ G34_ hq35_ => ?_)
                obtain ⟨rfl, rfl, h⟩ := hq35_
                exact z_iret O hret hlk dX6_about_141 (Nat.le_of_ble_eq_true rfl) (Nat.le_of_ble_eq_true rfl) ⟨_, rfl, rfl, _, k11_, F13_, h⟩
              · have h := h.2 c31_
                rcases Decidable.em (y1 = 5) with c36_ | c36_
                · have h := h.1 c36_
                  refine z_tsw (v := 5) (tgt := 142) O dX6_about_27 c36_ (by decide) (by decide) rfl (by decide) ?_
                  refine z_aload_n O dX6_about_142 rfl rfl ?_
                  refine z_get (v := .ref (b0 + 1)) O wf_RX6_7 dX6_about_143 (M_obj k11_) rfl ?_
                  refine z_callSi (As := [.ref (b0 + 1)]) (st := []) O (s_M_holds hfl (M_now_of k11_) h) wy_X6_holds wl_RX6_239 dX6_about_146 rfl rfl ⟨Nat.le_of_ble_eq_true rfl, Nat.le_of_ble_eq_true rfl⟩ (Nat.le_of_ble_eq_true rfl) ⟨Nat.le_of_ble_eq_true rfl, Nat.le_of_ble_eq_true rfl⟩ (fun r37_ z38_ G39_ hq40_ => ?_)
                  obtain ⟨rfl, rfl, h⟩ := hq40_
                  exact z_iret O hret hlk dX6_about_149 (Nat.le_of_ble_eq_true rfl) (Nat.le_of_ble_eq_true rfl) ⟨_, rfl, rfl, _, k11_, F13_, h⟩
                · have h := h.2 c36_
                  rcases Decidable.em (y1 = 6) with c41_ | c41_
                  · have h := h.1 c41_
                    refine z_tsw (v := 6) (tgt := 150) O dX6_about_27 c41_ (by decide) (by decide) rfl (by decide) ?_
                    refine z_aload_n O dX6_about_150 rfl rfl ?_
                    refine z_get (v := .ref (b0 + 1)) O wf_RX6_7 dX6_about_151 (M_obj k11_) rfl ?_
                    refine z_callSi (As := [.ref (b0 + 1)]) (st := []) O (s_M_gaps hfl (M_now_of k11_) h) wy_X6_gaps wl_RX6_242 dX6_about_154 rfl rfl ⟨Nat.le_of_ble_eq_true rfl, Nat.le_of_ble_eq_true rfl⟩ (Nat.le_of_ble_eq_true rfl) ⟨Nat.le_of_ble_eq_true rfl, Nat.le_of_ble_eq_true rfl⟩ (fun r42_ z43_ G44_ hq45_ => ?_)
                    obtain ⟨rfl, rfl, h⟩ := hq45_
                    exact z_iret O hret hlk dX6_about_157 (Nat.le_of_ble_eq_true rfl) (Nat.le_of_ble_eq_true rfl) ⟨_, rfl, rfl, _, k11_, F13_, h⟩
                  · have h := h.2 c41_
                    rcases Decidable.em (y1 = 7) with c46_ | c46_
                    · have h := h.1 c46_
                      refine z_tsw (v := 7) (tgt := 158) O dX6_about_27 c46_ (by decide) (by decide) rfl (by decide) ?_
                      refine z_aload_n O dX6_about_158 rfl rfl ?_
                      refine z_get (v := .ref (b0 + 1)) O wf_RX6_7 dX6_about_159 (M_obj k11_) rfl ?_
                      refine z_sipush (v := 616) O dX6_about_162 (by decide) ?_
                      obtain ⟨q47_, h⟩ := h
                      refine z_iald O dX6_about_165 (M_now_of k11_) q47_ ?_
                      exact z_iret O hret hlk dX6_about_166 (Nat.le_of_ble_eq_true rfl) (Nat.le_of_ble_eq_true rfl) ⟨_, rfl, rfl, _, k11_, F13_, h⟩
                    · have h := h.2 c46_
                      rcases Decidable.em (y1 = 8) with c48_ | c48_
                      · have h := h.1 c48_
                        refine z_tsw (v := 8) (tgt := 167) O dX6_about_27 c48_ (by decide) (by decide) rfl (by decide) ?_
                        refine z_aload_n O dX6_about_167 rfl rfl ?_
                        refine z_get (v := .ref (b0 + 1)) O wf_RX6_7 dX6_about_168 (M_obj k11_) rfl ?_
                        refine z_sipush (v := 617) O dX6_about_171 (by decide) ?_
                        obtain ⟨q49_, h⟩ := h
                        refine z_iald O dX6_about_174 (M_now_of k11_) q49_ ?_
                        exact z_iret O hret hlk dX6_about_175 (Nat.le_of_ble_eq_true rfl) (Nat.le_of_ble_eq_true rfl) ⟨_, rfl, rfl, _, k11_, F13_, h⟩
                      · have h := h.2 c48_
                        rcases Decidable.em (y1 = 9) with c50_ | c50_
                        · have h := h.1 c50_
                          refine z_tsw (v := 9) (tgt := 176) O dX6_about_27 c50_ (by decide) (by decide) rfl (by decide) ?_
                          refine z_aload_n O dX6_about_176 rfl rfl ?_
                          refine z_get (v := .ref (b0 + 1)) O wf_RX6_7 dX6_about_177 (M_obj k11_) rfl ?_
                          refine z_sipush (v := 618) O dX6_about_180 (by decide) ?_
                          obtain ⟨q51_, h⟩ := h
                          refine z_iald O dX6_about_183 (M_now_of k11_) q51_ ?_
                          exact z_iret O hret hlk dX6_about_184 (Nat.le_of_ble_eq_true rfl) (Nat.le_of_ble_eq_true rfl) ⟨_, rfl, rfl, _, k11_, F13_, h⟩
                        · have h := h.2 c50_
                          rcases Decidable.em (y1 = 10) with c52_ | c52_
                          · have h := h.1 c52_
                            refine z_tsw (v := 10) (tgt := 185) O dX6_about_27 c52_ (by decide) (by decide) rfl (by decide) ?_
                            refine z_aload_n O dX6_about_185 rfl rfl ?_
                            refine z_get (v := .ref (b0 + 1)) O wf_RX6_7 dX6_about_186 (M_obj k11_) rfl ?_
                            refine z_sipush (v := 619) O dX6_about_189 (by decide) ?_
                            obtain ⟨q53_, h⟩ := h
                            refine z_iald O dX6_about_192 (M_now_of k11_) q53_ ?_
                            exact z_iret O hret hlk dX6_about_193 (Nat.le_of_ble_eq_true rfl) (Nat.le_of_ble_eq_true rfl) ⟨_, rfl, rfl, _, k11_, F13_, h⟩
                          · have h := h.2 c52_
                            refine z_tswd (tgt := 194) O dX6_about_27 (zsw_out (fun j h1 h2 => by rcases (show j = 0 ∨ j = 1 ∨ j = 2 ∨ j = 3 ∨ j = 4 ∨ j = 5 ∨ j = 6 ∨ j = 7 ∨ j = 8 ∨ j = 9 ∨ j = 10 by omega) with rfl | rfl | rfl | rfl | rfl | rfl | rfl | rfl | rfl | rfl | rfl; exact c15_; exact c17_; exact c19_; exact c24_; exact c31_; exact c36_; exact c41_; exact c46_; exact c48_; exact c50_; exact c52_)) (by decide) ?_
                            refine z_aload_n O dX6_about_194 rfl rfl ?_
                            refine z_get (v := .ref (b0 + 1)) O wf_RX6_7 dX6_about_195 (M_obj k11_) rfl ?_
                            refine z_sipush (v := 620) O dX6_about_198 (by decide) ?_
                            obtain ⟨q54_, h⟩ := h
                            refine z_iald O dX6_about_201 (M_now_of k11_) q54_ ?_
                            exact z_iret O hret hlk dX6_about_202 (Nat.le_of_ble_eq_true rfl) (Nat.le_of_ble_eq_true rfl) ⟨_, rfl, rfl, _, k11_, F13_, h⟩
    · have h := h.2 c14_
      refine z_iconst (v := 0) O dX6_about_24 (by decide) ?_
      exact z_iret O hret hlk dX6_about_25 (Nat.le_of_ble_eq_true rfl) (Nat.le_of_ble_eq_true rfl) ⟨_, rfl, rfl, _, k11_, F13_, h⟩
  refine z_aload_n O dX6_about_0 rfl rfl ?_
  refine z_iload_n O dX6_about_1 rfl rfl ?_
  refine z_i2l O dX6_about_2 ?_
  refine z_lconst (v := 0) O dX6_about_3 (by decide) ?_
  refine z_ldc2 (v := 11) O wc_RX6_237 dX6_about_4 ?_
  refine z_callSi (As := [.long (Int32.toInt64 x1), .long 0, .long 11]) (st := [.ref b0]) O (s_M_in hfl h) wy_X6_in wl_RX6_44 dX6_about_7 rfl rfl ⟨Nat.le_of_ble_eq_true rfl, Nat.le_of_ble_eq_true rfl⟩ (Nat.le_of_ble_eq_true rfl) ⟨Nat.le_of_ble_eq_true rfl, Nat.le_of_ble_eq_true rfl⟩ (fun r1_ z2_ G3_ hq4_ => ?_)
  obtain ⟨rfl, rfl, h⟩ := hq4_
  refine z_if_eq (tgt := 17) O dX6_about_10 (by decide) (fun c5_ => ?_) (fun c5_ => ?_)
  · have h := h.1 c5_
    refine z_iconst (v := 1) O dX6_about_17 (by decide) ?_
    exact z_subL (L' := [some (.ref b0), some (.int x1)]) (zLe.sub (And.intro rfl (And.intro rfl True.intro))) (HJ18 x1 1 v0 G h0 Fr.rf h)
  · have h := h.2 c5_
    refine z_iconst (v := 0) O dX6_about_13 (by decide) ?_
    refine z_goto (tgt := 18) O dX6_about_14 (by decide) ?_
    exact z_subL (L' := [some (.ref b0), some (.int x1)]) (zLe.sub (And.intro rfl (And.intro rfl True.intro))) (HJ18 x1 0 v0 G h0 Fr.rf h)

theorem dX6_rowOf_0 : decode cX6_rowOf 0 = .ok (.aload_n 0, 1) := by decide +kernel
theorem dX6_rowOf_1 : decode cX6_rowOf 1 = .ok (.iload_n 1, 1) := by decide +kernel
theorem dX6_rowOf_2 : decode cX6_rowOf 2 = .ok (.i2l, 1) := by decide +kernel
theorem dX6_rowOf_3 : decode cX6_rowOf 3 = .ok (.aload_n 0, 1) := by decide +kernel
theorem dX6_rowOf_4 : decode cX6_rowOf 4 = .ok (.getfield 7, 3) := by decide +kernel
theorem dX6_rowOf_7 : decode cX6_rowOf 7 = .ok (.sipush 400, 3) := by decide +kernel
theorem dX6_rowOf_10 : decode cX6_rowOf 10 = .ok (.iaload, 1) := by decide +kernel
theorem dX6_rowOf_11 : decode cX6_rowOf 11 = .ok (.i2l, 1) := by decide +kernel
theorem dX6_rowOf_12 : decode cX6_rowOf 12 = .ok (.aload_n 0, 1) := by decide +kernel
theorem dX6_rowOf_13 : decode cX6_rowOf 13 = .ok (.getfield 7, 3) := by decide +kernel
theorem dX6_rowOf_16 : decode cX6_rowOf 16 = .ok (.sipush 401, 3) := by decide +kernel
theorem dX6_rowOf_19 : decode cX6_rowOf 19 = .ok (.iaload, 1) := by decide +kernel
theorem dX6_rowOf_20 : decode cX6_rowOf 20 = .ok (.iconst 1, 1) := by decide +kernel
theorem dX6_rowOf_21 : decode cX6_rowOf 21 = .ok (.isub, 1) := by decide +kernel
theorem dX6_rowOf_22 : decode cX6_rowOf 22 = .ok (.i2l, 1) := by decide +kernel
theorem dX6_rowOf_23 : decode cX6_rowOf 23 = .ok (.invokestatic 44, 3) := by decide +kernel
theorem dX6_rowOf_26 : decode cX6_rowOf 26 = .ok (.ifCond .ne 7, 3) := by decide +kernel
theorem dX6_rowOf_29 : decode cX6_rowOf 29 = .ok (.iconst 1, 1) := by decide +kernel
theorem dX6_rowOf_30 : decode cX6_rowOf 30 = .ok (.goto 20, 3) := by decide +kernel
theorem dX6_rowOf_33 : decode cX6_rowOf 33 = .ok (.iload_n 2, 1) := by decide +kernel
theorem dX6_rowOf_34 : decode cX6_rowOf 34 = .ok (.i2l, 1) := by decide +kernel
theorem dX6_rowOf_35 : decode cX6_rowOf 35 = .ok (.lconst 0, 1) := by decide +kernel
theorem dX6_rowOf_36 : decode cX6_rowOf 36 = .ok (.ldc2_w 245, 3) := by decide +kernel
theorem dX6_rowOf_39 : decode cX6_rowOf 39 = .ok (.invokestatic 44, 3) := by decide +kernel
theorem dX6_rowOf_42 : decode cX6_rowOf 42 = .ok (.ifCond .ne 7, 3) := by decide +kernel
theorem dX6_rowOf_45 : decode cX6_rowOf 45 = .ok (.iconst 2, 1) := by decide +kernel
theorem dX6_rowOf_46 : decode cX6_rowOf 46 = .ok (.goto 4, 3) := by decide +kernel
theorem dX6_rowOf_49 : decode cX6_rowOf 49 = .ok (.iconst 0, 1) := by decide +kernel
theorem dX6_rowOf_50 : decode cX6_rowOf 50 = .ok (.invokevirtual 136, 3) := by decide +kernel
theorem dX6_rowOf_53 : decode cX6_rowOf 53 = .ok (.ifCond .eq 5, 3) := by decide +kernel
theorem dX6_rowOf_56 : decode cX6_rowOf 56 = .ok (.iconst 0, 1) := by decide +kernel
theorem dX6_rowOf_57 : decode cX6_rowOf 57 = .ok (.ireturn, 1) := by decide +kernel
theorem dX6_rowOf_58 : decode cX6_rowOf 58 = .ok (.iload_n 2, 1) := by decide +kernel
theorem dX6_rowOf_59 : decode cX6_rowOf 59 = .ok (.tableswitch 80 0 4 #[33, 42, 51, 60, 71], 33) := by decide +kernel
theorem dX6_rowOf_92 : decode cX6_rowOf 92 = .ok (.aload_n 0, 1) := by decide +kernel
theorem dX6_rowOf_93 : decode cX6_rowOf 93 = .ok (.getfield 7, 3) := by decide +kernel
theorem dX6_rowOf_96 : decode cX6_rowOf 96 = .ok (.iload_n 1, 1) := by decide +kernel
theorem dX6_rowOf_97 : decode cX6_rowOf 97 = .ok (.invokestatic 97, 3) := by decide +kernel
theorem dX6_rowOf_100 : decode cX6_rowOf 100 = .ok (.ireturn, 1) := by decide +kernel
theorem dX6_rowOf_101 : decode cX6_rowOf 101 = .ok (.aload_n 0, 1) := by decide +kernel
theorem dX6_rowOf_102 : decode cX6_rowOf 102 = .ok (.getfield 7, 3) := by decide +kernel
theorem dX6_rowOf_105 : decode cX6_rowOf 105 = .ok (.iload_n 1, 1) := by decide +kernel
theorem dX6_rowOf_106 : decode cX6_rowOf 106 = .ok (.invokestatic 100, 3) := by decide +kernel
theorem dX6_rowOf_109 : decode cX6_rowOf 109 = .ok (.ireturn, 1) := by decide +kernel
theorem dX6_rowOf_110 : decode cX6_rowOf 110 = .ok (.aload_n 0, 1) := by decide +kernel
theorem dX6_rowOf_111 : decode cX6_rowOf 111 = .ok (.getfield 7, 3) := by decide +kernel
theorem dX6_rowOf_114 : decode cX6_rowOf 114 = .ok (.iload_n 1, 1) := by decide +kernel
theorem dX6_rowOf_115 : decode cX6_rowOf 115 = .ok (.invokestatic 69, 3) := by decide +kernel
theorem dX6_rowOf_118 : decode cX6_rowOf 118 = .ok (.ireturn, 1) := by decide +kernel
theorem dX6_rowOf_119 : decode cX6_rowOf 119 = .ok (.aload_n 0, 1) := by decide +kernel
theorem dX6_rowOf_120 : decode cX6_rowOf 120 = .ok (.getfield 7, 3) := by decide +kernel
theorem dX6_rowOf_123 : decode cX6_rowOf 123 = .ok (.sipush 200, 3) := by decide +kernel
theorem dX6_rowOf_126 : decode cX6_rowOf 126 = .ok (.iload_n 1, 1) := by decide +kernel
theorem dX6_rowOf_127 : decode cX6_rowOf 127 = .ok (.iadd, 1) := by decide +kernel
theorem dX6_rowOf_128 : decode cX6_rowOf 128 = .ok (.iaload, 1) := by decide +kernel
theorem dX6_rowOf_129 : decode cX6_rowOf 129 = .ok (.ireturn, 1) := by decide +kernel
theorem dX6_rowOf_130 : decode cX6_rowOf 130 = .ok (.aload_n 0, 1) := by decide +kernel
theorem dX6_rowOf_131 : decode cX6_rowOf 131 = .ok (.getfield 7, 3) := by decide +kernel
theorem dX6_rowOf_134 : decode cX6_rowOf 134 = .ok (.iload_n 1, 1) := by decide +kernel
theorem dX6_rowOf_135 : decode cX6_rowOf 135 = .ok (.invokestatic 116, 3) := by decide +kernel
theorem dX6_rowOf_138 : decode cX6_rowOf 138 = .ok (.ireturn, 1) := by decide +kernel
theorem dX6_rowOf_139 : decode cX6_rowOf 139 = .ok (.aload_n 0, 1) := by decide +kernel
theorem dX6_rowOf_140 : decode cX6_rowOf 140 = .ok (.getfield 7, 3) := by decide +kernel
theorem dX6_rowOf_143 : decode cX6_rowOf 143 = .ok (.iload_n 1, 1) := by decide +kernel
theorem dX6_rowOf_144 : decode cX6_rowOf 144 = .ok (.invokestatic 84, 3) := by decide +kernel
theorem dX6_rowOf_147 : decode cX6_rowOf 147 = .ok (.ireturn, 1) := by decide +kernel
def PJ_M_rowOf_50 (x1 : Int32) (x2 : Int32) (y1 : Int32) (y2 : Int32) (u0 : Int32) (v0 : MT) (Q : Int32 → MT → Prop) : Prop := P_M_refused u0 v0 (fun r13_ v17_ => (((r13_ = 0 → ((y2 = 0 → P_M_key y1 (M_now v17_) (fun r23_ => (Q r23_ v17_))) ∧ (¬ y2 = 0 → ((y2 = 1 → P_M_value y1 (M_now v17_) (fun r28_ => (Q r28_ v17_))) ∧ (¬ y2 = 1 → ((y2 = 2 → P_M_size y1 (M_now v17_) (fun r33_ => (Q r33_ v17_))) ∧ (¬ y2 = 2 → ((y2 = 3 → vp_in (200 + y1) 621 ∧ (Q ((M_now v17_) (Int32.toNatClampNeg (200 + y1))) v17_)) ∧ (¬ y2 = 3 → ((y2 = 4 → P_M_segmentAt y1 (M_now v17_) (fun r40_ => (Q r40_ v17_))) ∧ (¬ y2 = 4 → P_M_holders y1 (M_now v17_) (fun r44_ => (Q r44_ v17_))))))))))))) ∧ (¬ r13_ = 0 → Q 0 v17_))))
def P_M_rowOf (x1 : Int32) (x2 : Int32) (v0 : MT) (Q : Int32 → MT → Prop) : Prop := vp_in 400 621 ∧ (vp_in 401 621 ∧ (P_M_in (Int32.toInt64 x1) (Int32.toInt64 ((M_now v0) (Int32.toNatClampNeg 400))) (Int32.toInt64 (((M_now v0) (Int32.toNatClampNeg 401)) - 1)) (fun r3_ => (((¬ r3_ = 0 → P_M_in (Int32.toInt64 x2) 0 5 (fun r8_ => (((¬ r8_ = 0 → PJ_M_rowOf_50 x1 x2 x1 x2 0 v0 Q) ∧ (r8_ = 0 → PJ_M_rowOf_50 x1 x2 x1 x2 2 v0 Q))))) ∧ (r3_ = 0 → PJ_M_rowOf_50 x1 x2 x1 x2 1 v0 Q))))))
set_option maxRecDepth 100000 in
theorem s_M_rowOf {l : Launch} {D : zD} {B : Nat} {sa : Nat → Nat} (hfl : l.stackTraces = false) {z : Nat} {G : zG} {b0 : Nat} {x1 : Int32} {x2 : Int32} {v0 : MT} {Q : Int32 → MT → Prop} (h0 : MA b0 v0 G) (h : P_M_rowOf x1 x2 v0 Q) : zSp l D B sa yX6_rowOf cX6_rowOf 3 (some .int) 2 44 0 0 [.ref b0, .int x1, .int x2] z G (zRi fun r z' G' => z = z' ∧ ∃ w, MA b0 w G' ∧ Fr b0 8 G G' ∧ Q r w) := by
  unfold P_M_rowOf at h
  refine z_ofW (by decide +kernel) hfl [some (.ref b0), some (.int x1), some (.int x2)] rfl (Nat.le_of_ble_eq_true rfl) (fun p e s m args below meth c O hret hlk hnm => ?_)
  have O : zO p l s m args c D B sa 3 cX6_rowOf RX6 := O
  have HJ50 : ∀ (y1 : Int32) (y2 : Int32) (u0 : Int32) (v0 : MT) (G9 : zG) (g0 : MA b0 v0 G9) (gF : Fr b0 8 G G9), PJ_M_rowOf_50 x1 x2 y1 y2 u0 v0 Q → zT p l e (zrm 2 44 0 0) s m args below meth c (zEnd below D B (zRi fun r z' G' => z = z' ∧ ∃ w, MA b0 w G' ∧ Fr b0 8 G G' ∧ Q r w) args s 0 0) D B 3 0 0 50 [.int u0, .ref b0] [some (.ref b0), some (.int y1), some (.int y2)] z G9 := by
    intro y1 y2 u0 v0 G9 g0 gF h
    unfold PJ_M_rowOf_50 at h
    refine z_callVi (As := [.int u0]) (st := []) O (s_M_refused hfl g0 h) wy_X6_refused wl_RX6_136 dX6_rowOf_50 rfl rfl (M_obj g0) ⟨by decide, rfl⟩ ⟨Nat.le_of_ble_eq_true rfl, Nat.le_of_ble_eq_true rfl⟩ (Nat.le_of_ble_eq_true rfl) ⟨Nat.le_of_ble_eq_true rfl, Nat.le_of_ble_eq_true rfl⟩ (fun r13_ z14_ G15_ hq16_ => ?_)
    obtain ⟨rfl, v17_, k18_, f19_, h⟩ := hq16_
    have F20_ : Fr b0 8 G G15_ := Fr.trans gF f19_
    refine z_if_eq (tgt := 58) O dX6_rowOf_53 (by decide) (fun c21_ => ?_) (fun c21_ => ?_)
    · have h := h.1 c21_
      refine z_iload_n O dX6_rowOf_58 rfl rfl ?_
      rcases Decidable.em (y2 = 0) with c22_ | c22_
      · have h := h.1 c22_
        refine z_tsw (v := 0) (tgt := 92) O dX6_rowOf_59 c22_ (by decide) (by decide) rfl (by decide) ?_
        refine z_aload_n O dX6_rowOf_92 rfl rfl ?_
        refine z_get (v := .ref (b0 + 1)) O wf_RX6_7 dX6_rowOf_93 (M_obj k18_) rfl ?_
        refine z_iload_n O dX6_rowOf_96 rfl rfl ?_
        refine z_callSi (As := [.ref (b0 + 1), .int y1]) (st := []) O (s_M_key hfl (M_now_of k18_) h) wy_X6_key wl_RX6_97 dX6_rowOf_97 rfl rfl ⟨Nat.le_of_ble_eq_true rfl, Nat.le_of_ble_eq_true rfl⟩ (Nat.le_of_ble_eq_true rfl) ⟨Nat.le_of_ble_eq_true rfl, Nat.le_of_ble_eq_true rfl⟩ (fun r23_ z24_ G25_ hq26_ => ?_)
        obtain ⟨rfl, rfl, h⟩ := hq26_
        exact z_iret O hret hlk dX6_rowOf_100 (Nat.le_of_ble_eq_true rfl) (Nat.le_of_ble_eq_true rfl) ⟨_, rfl, rfl, _, k18_, F20_, h⟩
      · have h := h.2 c22_
        rcases Decidable.em (y2 = 1) with c27_ | c27_
        · have h := h.1 c27_
          refine z_tsw (v := 1) (tgt := 101) O dX6_rowOf_59 c27_ (by decide) (by decide) rfl (by decide) ?_
          refine z_aload_n O dX6_rowOf_101 rfl rfl ?_
          refine z_get (v := .ref (b0 + 1)) O wf_RX6_7 dX6_rowOf_102 (M_obj k18_) rfl ?_
          refine z_iload_n O dX6_rowOf_105 rfl rfl ?_
          refine z_callSi (As := [.ref (b0 + 1), .int y1]) (st := []) O (s_M_value hfl (M_now_of k18_) h) wy_X6_value wl_RX6_100 dX6_rowOf_106 rfl rfl ⟨Nat.le_of_ble_eq_true rfl, Nat.le_of_ble_eq_true rfl⟩ (Nat.le_of_ble_eq_true rfl) ⟨Nat.le_of_ble_eq_true rfl, Nat.le_of_ble_eq_true rfl⟩ (fun r28_ z29_ G30_ hq31_ => ?_)
          obtain ⟨rfl, rfl, h⟩ := hq31_
          exact z_iret O hret hlk dX6_rowOf_109 (Nat.le_of_ble_eq_true rfl) (Nat.le_of_ble_eq_true rfl) ⟨_, rfl, rfl, _, k18_, F20_, h⟩
        · have h := h.2 c27_
          rcases Decidable.em (y2 = 2) with c32_ | c32_
          · have h := h.1 c32_
            refine z_tsw (v := 2) (tgt := 110) O dX6_rowOf_59 c32_ (by decide) (by decide) rfl (by decide) ?_
            refine z_aload_n O dX6_rowOf_110 rfl rfl ?_
            refine z_get (v := .ref (b0 + 1)) O wf_RX6_7 dX6_rowOf_111 (M_obj k18_) rfl ?_
            refine z_iload_n O dX6_rowOf_114 rfl rfl ?_
            refine z_callSi (As := [.ref (b0 + 1), .int y1]) (st := []) O (s_M_size hfl (M_now_of k18_) h) wy_X6_size wl_RX6_69 dX6_rowOf_115 rfl rfl ⟨Nat.le_of_ble_eq_true rfl, Nat.le_of_ble_eq_true rfl⟩ (Nat.le_of_ble_eq_true rfl) ⟨Nat.le_of_ble_eq_true rfl, Nat.le_of_ble_eq_true rfl⟩ (fun r33_ z34_ G35_ hq36_ => ?_)
            obtain ⟨rfl, rfl, h⟩ := hq36_
            exact z_iret O hret hlk dX6_rowOf_118 (Nat.le_of_ble_eq_true rfl) (Nat.le_of_ble_eq_true rfl) ⟨_, rfl, rfl, _, k18_, F20_, h⟩
          · have h := h.2 c32_
            rcases Decidable.em (y2 = 3) with c37_ | c37_
            · have h := h.1 c37_
              refine z_tsw (v := 3) (tgt := 119) O dX6_rowOf_59 c37_ (by decide) (by decide) rfl (by decide) ?_
              refine z_aload_n O dX6_rowOf_119 rfl rfl ?_
              refine z_get (v := .ref (b0 + 1)) O wf_RX6_7 dX6_rowOf_120 (M_obj k18_) rfl ?_
              refine z_sipush (v := 200) O dX6_rowOf_123 (by decide) ?_
              refine z_iload_n O dX6_rowOf_126 rfl rfl ?_
              refine z_iadd O dX6_rowOf_127 ?_
              obtain ⟨q38_, h⟩ := h
              refine z_iald O dX6_rowOf_128 (M_now_of k18_) q38_ ?_
              exact z_iret O hret hlk dX6_rowOf_129 (Nat.le_of_ble_eq_true rfl) (Nat.le_of_ble_eq_true rfl) ⟨_, rfl, rfl, _, k18_, F20_, h⟩
            · have h := h.2 c37_
              rcases Decidable.em (y2 = 4) with c39_ | c39_
              · have h := h.1 c39_
                refine z_tsw (v := 4) (tgt := 130) O dX6_rowOf_59 c39_ (by decide) (by decide) rfl (by decide) ?_
                refine z_aload_n O dX6_rowOf_130 rfl rfl ?_
                refine z_get (v := .ref (b0 + 1)) O wf_RX6_7 dX6_rowOf_131 (M_obj k18_) rfl ?_
                refine z_iload_n O dX6_rowOf_134 rfl rfl ?_
                refine z_callSi (As := [.ref (b0 + 1), .int y1]) (st := []) O (s_M_segmentAt hfl (M_now_of k18_) h) wy_X6_segmentAt wl_RX6_116 dX6_rowOf_135 rfl rfl ⟨Nat.le_of_ble_eq_true rfl, Nat.le_of_ble_eq_true rfl⟩ (Nat.le_of_ble_eq_true rfl) ⟨Nat.le_of_ble_eq_true rfl, Nat.le_of_ble_eq_true rfl⟩ (fun r40_ z41_ G42_ hq43_ => ?_)
                obtain ⟨rfl, rfl, h⟩ := hq43_
                exact z_iret O hret hlk dX6_rowOf_138 (Nat.le_of_ble_eq_true rfl) (Nat.le_of_ble_eq_true rfl) ⟨_, rfl, rfl, _, k18_, F20_, h⟩
              · have h := h.2 c39_
                refine z_tswd (tgt := 139) O dX6_rowOf_59 (zsw_out (fun j h1 h2 => by rcases (show j = 0 ∨ j = 1 ∨ j = 2 ∨ j = 3 ∨ j = 4 by omega) with rfl | rfl | rfl | rfl | rfl; exact c22_; exact c27_; exact c32_; exact c37_; exact c39_)) (by decide) ?_
                refine z_aload_n O dX6_rowOf_139 rfl rfl ?_
                refine z_get (v := .ref (b0 + 1)) O wf_RX6_7 dX6_rowOf_140 (M_obj k18_) rfl ?_
                refine z_iload_n O dX6_rowOf_143 rfl rfl ?_
                refine z_callSi (As := [.ref (b0 + 1), .int y1]) (st := []) O (s_M_holders hfl (M_now_of k18_) h) wy_X6_holders wl_RX6_84 dX6_rowOf_144 rfl rfl ⟨Nat.le_of_ble_eq_true rfl, Nat.le_of_ble_eq_true rfl⟩ (Nat.le_of_ble_eq_true rfl) ⟨Nat.le_of_ble_eq_true rfl, Nat.le_of_ble_eq_true rfl⟩ (fun r44_ z45_ G46_ hq47_ => ?_)
                obtain ⟨rfl, rfl, h⟩ := hq47_
                exact z_iret O hret hlk dX6_rowOf_147 (Nat.le_of_ble_eq_true rfl) (Nat.le_of_ble_eq_true rfl) ⟨_, rfl, rfl, _, k18_, F20_, h⟩
    · have h := h.2 c21_
      refine z_iconst (v := 0) O dX6_rowOf_56 (by decide) ?_
      exact z_iret O hret hlk dX6_rowOf_57 (Nat.le_of_ble_eq_true rfl) (Nat.le_of_ble_eq_true rfl) ⟨_, rfl, rfl, _, k18_, F20_, h⟩
  refine z_aload_n O dX6_rowOf_0 rfl rfl ?_
  refine z_iload_n O dX6_rowOf_1 rfl rfl ?_
  refine z_i2l O dX6_rowOf_2 ?_
  refine z_aload_n O dX6_rowOf_3 rfl rfl ?_
  refine z_get (v := .ref (b0 + 1)) O wf_RX6_7 dX6_rowOf_4 (M_obj h0) rfl ?_
  refine z_sipush (v := 400) O dX6_rowOf_7 (by decide) ?_
  obtain ⟨q1_, h⟩ := h
  refine z_iald O dX6_rowOf_10 (M_now_of h0) q1_ ?_
  refine z_i2l O dX6_rowOf_11 ?_
  refine z_aload_n O dX6_rowOf_12 rfl rfl ?_
  refine z_get (v := .ref (b0 + 1)) O wf_RX6_7 dX6_rowOf_13 (M_obj h0) rfl ?_
  refine z_sipush (v := 401) O dX6_rowOf_16 (by decide) ?_
  obtain ⟨q2_, h⟩ := h
  refine z_iald O dX6_rowOf_19 (M_now_of h0) q2_ ?_
  refine z_iconst (v := 1) O dX6_rowOf_20 (by decide) ?_
  refine z_isub O dX6_rowOf_21 ?_
  refine z_i2l O dX6_rowOf_22 ?_
  refine z_callSi (As := [.long (Int32.toInt64 x1), .long (Int32.toInt64 ((M_now v0) (Int32.toNatClampNeg 400))), .long (Int32.toInt64 (((M_now v0) (Int32.toNatClampNeg 401)) - 1))]) (st := [.ref b0]) O (s_M_in hfl h) wy_X6_in wl_RX6_44 dX6_rowOf_23 rfl rfl ⟨Nat.le_of_ble_eq_true rfl, Nat.le_of_ble_eq_true rfl⟩ (Nat.le_of_ble_eq_true rfl) ⟨Nat.le_of_ble_eq_true rfl, Nat.le_of_ble_eq_true rfl⟩ (fun r3_ z4_ G5_ hq6_ => ?_)
  obtain ⟨rfl, rfl, h⟩ := hq6_
  refine z_if_ne (tgt := 33) O dX6_rowOf_26 (by decide) (fun c7_ => ?_) (fun c7_ => ?_)
  · have h := h.1 c7_
    refine z_iload_n O dX6_rowOf_33 rfl rfl ?_
    refine z_i2l O dX6_rowOf_34 ?_
    refine z_lconst (v := 0) O dX6_rowOf_35 (by decide) ?_
    refine z_ldc2 (v := 5) O wc_RX6_245 dX6_rowOf_36 ?_
    refine z_callSi (As := [.long (Int32.toInt64 x2), .long 0, .long 5]) (st := [.ref b0]) O (s_M_in hfl h) wy_X6_in wl_RX6_44 dX6_rowOf_39 rfl rfl ⟨Nat.le_of_ble_eq_true rfl, Nat.le_of_ble_eq_true rfl⟩ (Nat.le_of_ble_eq_true rfl) ⟨Nat.le_of_ble_eq_true rfl, Nat.le_of_ble_eq_true rfl⟩ (fun r8_ z9_ G10_ hq11_ => ?_)
    obtain ⟨rfl, rfl, h⟩ := hq11_
    refine z_if_ne (tgt := 49) O dX6_rowOf_42 (by decide) (fun c12_ => ?_) (fun c12_ => ?_)
    · have h := h.1 c12_
      refine z_iconst (v := 0) O dX6_rowOf_49 (by decide) ?_
      exact z_subL (L' := [some (.ref b0), some (.int x1), some (.int x2)]) (zLe.sub (And.intro rfl (And.intro rfl (And.intro rfl True.intro)))) (HJ50 x1 x2 0 v0 G h0 Fr.rf h)
    · have h := h.2 c12_
      refine z_iconst (v := 2) O dX6_rowOf_45 (by decide) ?_
      refine z_goto (tgt := 50) O dX6_rowOf_46 (by decide) ?_
      exact z_subL (L' := [some (.ref b0), some (.int x1), some (.int x2)]) (zLe.sub (And.intro rfl (And.intro rfl (And.intro rfl True.intro)))) (HJ50 x1 x2 2 v0 G h0 Fr.rf h)
  · have h := h.2 c7_
    refine z_iconst (v := 1) O dX6_rowOf_29 (by decide) ?_
    refine z_goto (tgt := 50) O dX6_rowOf_30 (by decide) ?_
    exact z_subL (L' := [some (.ref b0), some (.int x1), some (.int x2)]) (zLe.sub (And.intro rfl (And.intro rfl (And.intro rfl True.intro)))) (HJ50 x1 x2 1 v0 G h0 Fr.rf h)
