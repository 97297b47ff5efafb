theorem dX6_segmentOf_0 : decode cX6_segmentOf 0 = .ok (.aload_n 0, 1) := by decide +kernel
theorem dX6_segmentOf_1 : decode cX6_segmentOf 1 = .ok (.iload_n 1, 1) := by decide +kernel
theorem dX6_segmentOf_2 : decode cX6_segmentOf 2 = .ok (.i2l, 1) := by decide +kernel
theorem dX6_segmentOf_3 : decode cX6_segmentOf 3 = .ok (.lconst 0, 1) := by decide +kernel
theorem dX6_segmentOf_4 : decode cX6_segmentOf 4 = .ok (.aload_n 0, 1) := by decide +kernel
theorem dX6_segmentOf_5 : decode cX6_segmentOf 5 = .ok (.getfield 7, 3) := by decide +kernel
theorem dX6_segmentOf_8 : decode cX6_segmentOf 8 = .ok (.invokestatic 87, 3) := by decide +kernel
theorem dX6_segmentOf_11 : decode cX6_segmentOf 11 = .ok (.iconst 1, 1) := by decide +kernel
theorem dX6_segmentOf_12 : decode cX6_segmentOf 12 = .ok (.isub, 1) := by decide +kernel
theorem dX6_segmentOf_13 : decode cX6_segmentOf 13 = .ok (.i2l, 1) := by decide +kernel
theorem dX6_segmentOf_14 : decode cX6_segmentOf 14 = .ok (.invokestatic 44, 3) := by decide +kernel
theorem dX6_segmentOf_17 : decode cX6_segmentOf 17 = .ok (.ifCond .ne 7, 3) := by decide +kernel
theorem dX6_segmentOf_20 : decode cX6_segmentOf 20 = .ok (.iconst 1, 1) := by decide +kernel
theorem dX6_segmentOf_21 : decode cX6_segmentOf 21 = .ok (.goto 20, 3) := by decide +kernel
theorem dX6_segmentOf_24 : decode cX6_segmentOf 24 = .ok (.iload_n 2, 1) := by decide +kernel
theorem dX6_segmentOf_25 : decode cX6_segmentOf 25 = .ok (.i2l, 1) := by decide +kernel
theorem dX6_segmentOf_26 : decode cX6_segmentOf 26 = .ok (.lconst 0, 1) := by decide +kernel
theorem dX6_segmentOf_27 : decode cX6_segmentOf 27 = .ok (.ldc2_w 245, 3) := by decide +kernel
theorem dX6_segmentOf_30 : decode cX6_segmentOf 30 = .ok (.invokestatic 44, 3) := by decide +kernel
theorem dX6_segmentOf_33 : decode cX6_segmentOf 33 = .ok (.ifCond .ne 7, 3) := by decide +kernel
theorem dX6_segmentOf_36 : decode cX6_segmentOf 36 = .ok (.iconst 2, 1) := by decide +kernel
theorem dX6_segmentOf_37 : decode cX6_segmentOf 37 = .ok (.goto 4, 3) := by decide +kernel
theorem dX6_segmentOf_40 : decode cX6_segmentOf 40 = .ok (.iconst 0, 1) := by decide +kernel
theorem dX6_segmentOf_41 : decode cX6_segmentOf 41 = .ok (.invokevirtual 136, 3) := by decide +kernel
theorem dX6_segmentOf_44 : decode cX6_segmentOf 44 = .ok (.ifCond .eq 5, 3) := by decide +kernel
theorem dX6_segmentOf_47 : decode cX6_segmentOf 47 = .ok (.iconst 0, 1) := by decide +kernel
theorem dX6_segmentOf_48 : decode cX6_segmentOf 48 = .ok (.ireturn, 1) := by decide +kernel
theorem dX6_segmentOf_49 : decode cX6_segmentOf 49 = .ok (.aload_n 0, 1) := by decide +kernel
theorem dX6_segmentOf_50 : decode cX6_segmentOf 50 = .ok (.getfield 7, 3) := by decide +kernel
theorem dX6_segmentOf_53 : decode cX6_segmentOf 53 = .ok (.iload_n 1, 1) := by decide +kernel
theorem dX6_segmentOf_54 : decode cX6_segmentOf 54 = .ok (.invokestatic 247, 3) := by decide +kernel
theorem dX6_segmentOf_57 : decode cX6_segmentOf 57 = .ok (.istore_n 3, 1) := by decide +kernel
theorem dX6_segmentOf_58 : decode cX6_segmentOf 58 = .ok (.aload_n 0, 1) := by decide +kernel
theorem dX6_segmentOf_59 : decode cX6_segmentOf 59 = .ok (.getfield 7, 3) := by decide +kernel
theorem dX6_segmentOf_62 : decode cX6_segmentOf 62 = .ok (.iload_n 3, 1) := by decide +kernel
theorem dX6_segmentOf_63 : decode cX6_segmentOf 63 = .ok (.invokestatic 77, 3) := by decide +kernel
theorem dX6_segmentOf_66 : decode cX6_segmentOf 66 = .ok (.istore 4, 2) := by decide +kernel
theorem dX6_segmentOf_68 : decode cX6_segmentOf 68 = .ok (.iload_n 2, 1) := by decide +kernel
theorem dX6_segmentOf_69 : decode cX6_segmentOf 69 = .ok (.tableswitch 89 0 4 #[35, 37, 42, 53, 72], 35) := by decide +kernel
theorem dX6_segmentOf_104 : decode cX6_segmentOf 104 = .ok (.iload_n 3, 1) := by decide +kernel
theorem dX6_segmentOf_105 : decode cX6_segmentOf 105 = .ok (.ireturn, 1) := by decide +kernel
theorem dX6_segmentOf_106 : decode cX6_segmentOf 106 = .ok (.iload 4, 2) := by decide +kernel
theorem dX6_segmentOf_108 : decode cX6_segmentOf 108 = .ok (.iload_n 3, 1) := by decide +kernel
theorem dX6_segmentOf_109 : decode cX6_segmentOf 109 = .ok (.isub, 1) := by decide +kernel
theorem dX6_segmentOf_110 : decode cX6_segmentOf 110 = .ok (.ireturn, 1) := by decide +kernel
theorem dX6_segmentOf_111 : decode cX6_segmentOf 111 = .ok (.aload_n 0, 1) := by decide +kernel
theorem dX6_segmentOf_112 : decode cX6_segmentOf 112 = .ok (.getfield 7, 3) := by decide +kernel
theorem dX6_segmentOf_115 : decode cX6_segmentOf 115 = .ok (.iload_n 3, 1) := by decide +kernel
theorem dX6_segmentOf_116 : decode cX6_segmentOf 116 = .ok (.iload 4, 2) := by decide +kernel
theorem dX6_segmentOf_118 : decode cX6_segmentOf 118 = .ok (.invokestatic 80, 3) := by decide +kernel
theorem dX6_segmentOf_121 : decode cX6_segmentOf 121 = .ok (.ireturn, 1) := by decide +kernel
theorem dX6_segmentOf_122 : decode cX6_segmentOf 122 = .ok (.iload 4, 2) := by decide +kernel
theorem dX6_segmentOf_124 : decode cX6_segmentOf 124 = .ok (.aload_n 0, 1) := by decide +kernel
theorem dX6_segmentOf_125 : decode cX6_segmentOf 125 = .ok (.getfield 7, 3) := by decide +kernel
theorem dX6_segmentOf_128 : decode cX6_segmentOf 128 = .ok (.sipush 401, 3) := by decide +kernel
theorem dX6_segmentOf_131 : decode cX6_segmentOf 131 = .ok (.iaload, 1) := by decide +kernel
theorem dX6_segmentOf_132 : decode cX6_segmentOf 132 = .ok (.if_icmp .ge 7, 3) := by decide +kernel
theorem dX6_segmentOf_135 : decode cX6_segmentOf 135 = .ok (.iconst 1, 1) := by decide +kernel
theorem dX6_segmentOf_136 : decode cX6_segmentOf 136 = .ok (.goto 4, 3) := by decide +kernel
theorem dX6_segmentOf_139 : decode cX6_segmentOf 139 = .ok (.iconst 0, 1) := by decide +kernel
theorem dX6_segmentOf_140 : decode cX6_segmentOf 140 = .ok (.ireturn, 1) := by decide +kernel
theorem dX6_segmentOf_141 : decode cX6_segmentOf 141 = .ok (.aload_n 0, 1) := by decide +kernel
theorem dX6_segmentOf_142 : decode cX6_segmentOf 142 = .ok (.getfield 7, 3) := by decide +kernel
theorem dX6_segmentOf_145 : decode cX6_segmentOf 145 = .ok (.iload_n 3, 1) := by decide +kernel
theorem dX6_segmentOf_146 : decode cX6_segmentOf 146 = .ok (.invokestatic 91, 3) := by decide +kernel
theorem dX6_segmentOf_149 : decode cX6_segmentOf 149 = .ok (.ifCond .eq 7, 3) := by decide +kernel
theorem dX6_segmentOf_152 : decode cX6_segmentOf 152 = .ok (.iconst 1, 1) := by decide +kernel
theorem dX6_segmentOf_153 : decode cX6_segmentOf 153 = .ok (.goto 4, 3) := by decide +kernel
theorem dX6_segmentOf_156 : decode cX6_segmentOf 156 = .ok (.iconst 0, 1) := by decide +kernel
theorem dX6_segmentOf_157 : decode cX6_segmentOf 157 = .ok (.ireturn, 1) := by decide +kernel
theorem dX6_segmentOf_158 : decode cX6_segmentOf 158 = .ok (.aload_n 0, 1) := by decide +kernel
theorem dX6_segmentOf_159 : decode cX6_segmentOf 159 = .ok (.getfield 7, 3) := by decide +kernel
theorem dX6_segmentOf_162 : decode cX6_segmentOf 162 = .ok (.iload_n 3, 1) := by decide +kernel
theorem dX6_segmentOf_163 : decode cX6_segmentOf 163 = .ok (.invokestatic 94, 3) := by decide +kernel
theorem dX6_segmentOf_166 : decode cX6_segmentOf 166 = .ok (.ifCond .eq 7, 3) := by decide +kernel
theorem dX6_segmentOf_169 : decode cX6_segmentOf 169 = .ok (.iconst 1, 1) := by decide +kernel
theorem dX6_segmentOf_170 : decode cX6_segmentOf 170 = .ok (.goto 4, 3) := by decide +kernel
theorem dX6_segmentOf_173 : decode cX6_segmentOf 173 = .ok (.iconst 0, 1) := by decide +kernel
theorem dX6_segmentOf_174 : decode cX6_segmentOf 174 = .ok (.ireturn, 1) := by decide +kernel
def PJ_M_segmentOf_41 (x1 : Int32) (x2 : Int32) (y1 : Int32) (y2 : Int32) (u0 : Int32) (v0 : MT) (Q : Int32 → MT → Prop) : Prop := P_M_refused u0 v0 (fun r15_ v19_ => (((r15_ = 0 → P_M_firstOf y1 (M_now v19_) (fun r24_ => (P_M_behind r24_ (M_now v19_) (fun r28_ => (((y2 = 0 → Q r24_ v19_) ∧ (¬ y2 = 0 → ((y2 = 1 → Q (r28_ - r24_) v19_) ∧ (¬ y2 = 1 → ((y2 = 2 → P_M_sizes r24_ r28_ (M_now v19_) (fun r35_ => (Q r35_ v19_))) ∧ (¬ y2 = 2 → ((y2 = 3 → vp_in 401 621 ∧ (((((M_now v19_) (Int32.toNatClampNeg 401)) ≤ r28_ → Q 0 v19_) ∧ (¬ ((M_now v19_) (Int32.toNatClampNeg 401)) ≤ r28_ → Q 1 v19_)))) ∧ (¬ y2 = 3 → ((y2 = 4 → P_M_isDue r24_ (M_now v19_) (fun r43_ => (((r43_ = 0 → Q 0 v19_) ∧ (¬ r43_ = 0 → Q 1 v19_))))) ∧ (¬ y2 = 4 → P_M_isHeld r24_ (M_now v19_) (fun r48_ => (((r48_ = 0 → Q 0 v19_) ∧ (¬ r48_ = 0 → Q 1 v19_))))))))))))))))))) ∧ (¬ r15_ = 0 → Q 0 v19_))))
def P_M_segmentOf (x1 : Int32) (x2 : Int32) (v0 : MT) (Q : Int32 → MT → Prop) : Prop := P_M_segments (M_now v0) (fun r1_ => (P_M_in (Int32.toInt64 x1) 0 (Int32.toInt64 (r1_ - 1)) (fun r5_ => (((¬ r5_ = 0 → P_M_in (Int32.toInt64 x2) 0 5 (fun r10_ => (((¬ r10_ = 0 → PJ_M_segmentOf_41 x1 x2 x1 x2 0 v0 Q) ∧ (r10_ = 0 → PJ_M_segmentOf_41 x1 x2 x1 x2 2 v0 Q))))) ∧ (r5_ = 0 → PJ_M_segmentOf_41 x1 x2 x1 x2 1 v0 Q))))))
set_option maxRecDepth 100000 in
theorem s_M_segmentOf {l : Launch} {D : zD} {B : Nat} {sa : Nat → Nat} (hfl : l.stackTraces = false) {z : Nat} {G : zG} {b0 : Nat} {x1 : Int32} {x2 : Int32} {v0 : MT} {Q : Int32 → MT → Prop} (h0 : MA b0 v0 G) (h : P_M_segmentOf x1 x2 v0 Q) : zSp l D B sa yX6_segmentOf cX6_segmentOf 5 (some .int) 3 68 0 0 [.ref b0, .int x1, .int x2] z G (zRi fun r z' G' => z = z' ∧ ∃ w, MA b0 w G' ∧ Fr b0 8 G G' ∧ Q r w) := by
  unfold P_M_segmentOf at h
  refine z_ofW (by decide +kernel) hfl [some (.ref b0), some (.int x1), some (.int x2), none, none] rfl (Nat.le_of_ble_eq_true rfl) (fun p e s m args below meth c O hret hlk hnm => ?_)
  have O : zO p l s m args c D B sa 5 cX6_segmentOf RX6 := O
  have HJ41 : ∀ (y1 : Int32) (y2 : Int32) (u0 : Int32) (v0 : MT) (G9 : zG) (g0 : MA b0 v0 G9) (gF : Fr b0 8 G G9), PJ_M_segmentOf_41 x1 x2 y1 y2 u0 v0 Q → zT p l e (zrm 3 68 0 0) s m args below meth c (zEnd below D B (zRi fun r z' G' => z = z' ∧ ∃ w, MA b0 w G' ∧ Fr b0 8 G G' ∧ Q r w) args s 0 0) D B 5 0 0 41 [.int u0, .ref b0] [some (.ref b0), some (.int y1), some (.int y2), none, none] z G9 := by
    intro y1 y2 u0 v0 G9 g0 gF h
    unfold PJ_M_segmentOf_41 at h
    refine z_callVi (As := [.int u0]) (st := []) O (s_M_refused hfl g0 h) wy_X6_refused wl_RX6_136 dX6_segmentOf_41 rfl rfl (M_obj g0) ⟨by decide, rfl⟩ ⟨Nat.le_of_ble_eq_true rfl, Nat.le_of_ble_eq_true rfl⟩ (Nat.le_of_ble_eq_true rfl) ⟨Nat.le_of_ble_eq_true rfl, Nat.le_of_ble_eq_true rfl⟩ (fun r15_ z16_ G17_ hq18_ => ?_)
    obtain ⟨rfl, v19_, k20_, f21_, h⟩ := hq18_
    have F22_ : Fr b0 8 G G17_ := Fr.trans gF f21_
    refine z_if_eq (tgt := 49) O dX6_segmentOf_44 (by decide) (fun c23_ => ?_) (fun c23_ => ?_)
    · have h := h.1 c23_
      refine z_aload_n O dX6_segmentOf_49 rfl rfl ?_
      refine z_get (v := .ref (b0 + 1)) O wf_RX6_7 dX6_segmentOf_50 (M_obj k20_) rfl ?_
      refine z_iload_n O dX6_segmentOf_53 rfl rfl ?_
      refine z_callSi (As := [.ref (b0 + 1), .int y1]) (st := []) O (s_M_firstOf hfl (M_now_of k20_) h) wy_X6_firstOf wl_RX6_247 dX6_segmentOf_54 rfl rfl ⟨Nat.le_of_ble_eq_true rfl, Nat.le_of_ble_eq_true rfl⟩ (Nat.le_of_ble_eq_true rfl) ⟨Nat.le_of_ble_eq_true rfl, Nat.le_of_ble_eq_true rfl⟩ (fun r24_ z25_ G26_ hq27_ => ?_)
      obtain ⟨rfl, rfl, h⟩ := hq27_
      refine z_istore_n (L' := [some (.ref b0), some (.int y1), some (.int y2), some (.int r24_), none]) O dX6_segmentOf_57 rfl (by decide) rfl ?_
      refine z_aload_n O dX6_segmentOf_58 rfl rfl ?_
      refine z_get (v := .ref (b0 + 1)) O wf_RX6_7 dX6_segmentOf_59 (M_obj k20_) rfl ?_
      refine z_iload_n O dX6_segmentOf_62 rfl rfl ?_
      refine z_callSi (As := [.ref (b0 + 1), .int r24_]) (st := []) O (s_M_behind hfl (M_now_of k20_) h) wy_X6_behind wl_RX6_77 dX6_segmentOf_63 rfl rfl ⟨Nat.le_of_ble_eq_true rfl, Nat.le_of_ble_eq_true rfl⟩ (Nat.le_of_ble_eq_true rfl) ⟨Nat.le_of_ble_eq_true rfl, Nat.le_of_ble_eq_true rfl⟩ (fun r28_ z29_ G30_ hq31_ => ?_)
      obtain ⟨rfl, rfl, h⟩ := hq31_
      refine z_istore (L' := [some (.ref b0), some (.int y1), some (.int y2), some (.int r24_), some (.int r28_)]) O dX6_segmentOf_66 (by decide) rfl ?_
      refine z_iload_n O dX6_segmentOf_68 rfl rfl ?_
      rcases Decidable.em (y2 = 0) with c32_ | c32_
      · have h := h.1 c32_
        refine z_tsw (v := 0) (tgt := 104) O dX6_segmentOf_69 c32_ (by decide) (by decide) rfl (by decide) ?_
        refine z_iload_n O dX6_segmentOf_104 rfl rfl ?_
        exact z_iret O hret hlk dX6_segmentOf_105 (Nat.le_of_ble_eq_true rfl) (Nat.le_of_ble_eq_true rfl) ⟨_, rfl, rfl, _, k20_, F22_, h⟩
      · have h := h.2 c32_
        rcases Decidable.em (y2 = 1) with c33_ | c33_
        · have h := h.1 c33_
          refine z_tsw (v := 1) (tgt := 106) O dX6_segmentOf_69 c33_ (by decide) (by decide) rfl (by decide) ?_
          refine z_iload O dX6_segmentOf_106 rfl ?_
          refine z_iload_n O dX6_segmentOf_108 rfl rfl ?_
          refine z_isub O dX6_segmentOf_109 ?_
          exact z_iret O hret hlk dX6_segmentOf_110 (Nat.le_of_ble_eq_true rfl) (Nat.le_of_ble_eq_true rfl) ⟨_, rfl, rfl, _, k20_, F22_, h⟩
        · have h := h.2 c33_
          rcases Decidable.em (y2 = 2) with c34_ | c34_
          · have h := h.1 c34_
            refine z_tsw (v := 2) (tgt := 111) O dX6_segmentOf_69 c34_ (by decide) (by decide) rfl (by decide) ?_
            refine z_aload_n O dX6_segmentOf_111 rfl rfl ?_
            refine z_get (v := .ref (b0 + 1)) O wf_RX6_7 dX6_segmentOf_112 (M_obj k20_) rfl ?_
            refine z_iload_n O dX6_segmentOf_115 rfl rfl ?_
            refine z_iload O dX6_segmentOf_116 rfl ?_
            refine z_callSi (As := [.ref (b0 + 1), .int r24_, .int r28_]) (st := []) O (s_M_sizes hfl (M_now_of k20_) h) wy_X6_sizes wl_RX6_80 dX6_segmentOf_118 rfl rfl ⟨Nat.le_of_ble_eq_true rfl, Nat.le_of_ble_eq_true rfl⟩ (Nat.le_of_ble_eq_true rfl) ⟨Nat.le_of_ble_eq_true rfl, Nat.le_of_ble_eq_true rfl⟩ (fun r35_ z36_ G37_ hq38_ => ?_)
            obtain ⟨rfl, rfl, h⟩ := hq38_
            exact z_iret O hret hlk dX6_segmentOf_121 (Nat.le_of_ble_eq_true rfl) (Nat.le_of_ble_eq_true rfl) ⟨_, rfl, rfl, _, k20_, F22_, h⟩
          · have h := h.2 c34_
            rcases Decidable.em (y2 = 3) with c39_ | c39_
            · have h := h.1 c39_
              refine z_tsw (v := 3) (tgt := 122) O dX6_segmentOf_69 c39_ (by decide) (by decide) rfl (by decide) ?_
              refine z_iload O dX6_segmentOf_122 rfl ?_
              refine z_aload_n O dX6_segmentOf_124 rfl rfl ?_
              refine z_get (v := .ref (b0 + 1)) O wf_RX6_7 dX6_segmentOf_125 (M_obj k20_) rfl ?_
              refine z_sipush (v := 401) O dX6_segmentOf_128 (by decide) ?_
              obtain ⟨q40_, h⟩ := h
              refine z_iald O dX6_segmentOf_131 (M_now_of k20_) q40_ ?_
              refine z_icmp_ge (tgt := 139) O dX6_segmentOf_132 (by decide) (fun c41_ => ?_) (fun c41_ => ?_)
              · have h := h.1 c41_
                refine z_iconst (v := 0) O dX6_segmentOf_139 (by decide) ?_
                exact z_iret O hret hlk dX6_segmentOf_140 (Nat.le_of_ble_eq_true rfl) (Nat.le_of_ble_eq_true rfl) ⟨_, rfl, rfl, _, k20_, F22_, h⟩
              · have h := h.2 c41_
                refine z_iconst (v := 1) O dX6_segmentOf_135 (by decide) ?_
                refine z_goto (tgt := 140) O dX6_segmentOf_136 (by decide) ?_
                exact z_iret O hret hlk dX6_segmentOf_140 (Nat.le_of_ble_eq_true rfl) (Nat.le_of_ble_eq_true rfl) ⟨_, rfl, rfl, _, k20_, F22_, h⟩
            · have h := h.2 c39_
              rcases Decidable.em (y2 = 4) with c42_ | c42_
              · have h := h.1 c42_
                refine z_tsw (v := 4) (tgt := 141) O dX6_segmentOf_69 c42_ (by decide) (by decide) rfl (by decide) ?_
                refine z_aload_n O dX6_segmentOf_141 rfl rfl ?_
                refine z_get (v := .ref (b0 + 1)) O wf_RX6_7 dX6_segmentOf_142 (M_obj k20_) rfl ?_
                refine z_iload_n O dX6_segmentOf_145 rfl rfl ?_
                refine z_callSi (As := [.ref (b0 + 1), .int r24_]) (st := []) O (s_M_isDue hfl (M_now_of k20_) h) wy_X6_isDue wl_RX6_91 dX6_segmentOf_146 rfl rfl ⟨Nat.le_of_ble_eq_true rfl, Nat.le_of_ble_eq_true rfl⟩ (Nat.le_of_ble_eq_true rfl) ⟨Nat.le_of_ble_eq_true rfl, Nat.le_of_ble_eq_true rfl⟩ (fun r43_ z44_ G45_ hq46_ => ?_)
                obtain ⟨rfl, rfl, h⟩ := hq46_
                refine z_if_eq (tgt := 156) O dX6_segmentOf_149 (by decide) (fun c47_ => ?_) (fun c47_ => ?_)
                · have h := h.1 c47_
                  refine z_iconst (v := 0) O dX6_segmentOf_156 (by decide) ?_
                  exact z_iret O hret hlk dX6_segmentOf_157 (Nat.le_of_ble_eq_true rfl) (Nat.le_of_ble_eq_true rfl) ⟨_, rfl, rfl, _, k20_, F22_, h⟩
                · have h := h.2 c47_
                  refine z_iconst (v := 1) O dX6_segmentOf_152 (by decide) ?_
                  refine z_goto (tgt := 157) O dX6_segmentOf_153 (by decide) ?_
                  exact z_iret O hret hlk dX6_segmentOf_157 (Nat.le_of_ble_eq_true rfl) (Nat.le_of_ble_eq_true rfl) ⟨_, rfl, rfl, _, k20_, F22_, h⟩
              · have h := h.2 c42_
                refine z_tswd (tgt := 158) O dX6_segmentOf_69 (zsw_out (fun j h1 h2 => by rcases (show j = 0 ∨ j = 1 ∨ j = 2 ∨ j = 3 ∨ j = 4 by omega) with rfl | rfl | rfl | rfl | rfl; exact c32_; exact c33_; exact c34_; exact c39_; exact c42_)) (by decide) ?_
                refine z_aload_n O dX6_segmentOf_158 rfl rfl ?_
                refine z_get (v := .ref (b0 + 1)) O wf_RX6_7 dX6_segmentOf_159 (M_obj k20_) rfl ?_
                refine z_iload_n O dX6_segmentOf_162 rfl rfl ?_
                refine z_callSi (As := [.ref (b0 + 1), .int r24_]) (st := []) O (s_M_isHeld hfl (M_now_of k20_) h) wy_X6_isHeld wl_RX6_94 dX6_segmentOf_163 rfl rfl ⟨Nat.le_of_ble_eq_true rfl, Nat.le_of_ble_eq_true rfl⟩ (Nat.le_of_ble_eq_true rfl) ⟨Nat.le_of_ble_eq_true rfl, Nat.le_of_ble_eq_true rfl⟩ (fun r48_ z49_ G50_ hq51_ => ?_)
                obtain ⟨rfl, rfl, h⟩ := hq51_
                refine z_if_eq (tgt := 173) O dX6_segmentOf_166 (by decide) (fun c52_ => ?_) (fun c52_ => ?_)
                · have h := h.1 c52_
                  refine z_iconst (v := 0) O dX6_segmentOf_173 (by decide) ?_
                  exact z_iret O hret hlk dX6_segmentOf_174 (Nat.le_of_ble_eq_true rfl) (Nat.le_of_ble_eq_true rfl) ⟨_, rfl, rfl, _, k20_, F22_, h⟩
                · have h := h.2 c52_
                  refine z_iconst (v := 1) O dX6_segmentOf_169 (by decide) ?_
                  refine z_goto (tgt := 174) O dX6_segmentOf_170 (by decide) ?_
                  exact z_iret O hret hlk dX6_segmentOf_174 (Nat.le_of_ble_eq_true rfl) (Nat.le_of_ble_eq_true rfl) ⟨_, rfl, rfl, _, k20_, F22_, h⟩
    · have h := h.2 c23_
      refine z_iconst (v := 0) O dX6_segmentOf_47 (by decide) ?_
      exact z_iret O hret hlk dX6_segmentOf_48 (Nat.le_of_ble_eq_true rfl) (Nat.le_of_ble_eq_true rfl) ⟨_, rfl, rfl, _, k20_, F22_, h⟩
  refine z_aload_n O dX6_segmentOf_0 rfl rfl ?_
  refine z_iload_n O dX6_segmentOf_1 rfl rfl ?_
  refine z_i2l O dX6_segmentOf_2 ?_
  refine z_lconst (v := 0) O dX6_segmentOf_3 (by decide) ?_
  refine z_aload_n O dX6_segmentOf_4 rfl rfl ?_
  refine z_get (v := .ref (b0 + 1)) O wf_RX6_7 dX6_segmentOf_5 (M_obj h0) rfl ?_
  refine z_callSi (As := [.ref (b0 + 1)]) (st := [.long 0, .long (Int32.toInt64 x1), .ref b0]) O (s_M_segments hfl (M_now_of h0) h) wy_X6_segments wl_RX6_87 dX6_segmentOf_8 rfl rfl ⟨Nat.le_of_ble_eq_true rfl, Nat.le_of_ble_eq_true rfl⟩ (Nat.le_of_ble_eq_true rfl) ⟨Nat.le_of_ble_eq_true rfl, Nat.le_of_ble_eq_true rfl⟩ (fun r1_ z2_ G3_ hq4_ => ?_)
  obtain ⟨rfl, rfl, h⟩ := hq4_
  refine z_iconst (v := 1) O dX6_segmentOf_11 (by decide) ?_
  refine z_isub O dX6_segmentOf_12 ?_
  refine z_i2l O dX6_segmentOf_13 ?_
  refine z_callSi (As := [.long (Int32.toInt64 x1), .long 0, .long (Int32.toInt64 (r1_ - 1))]) (st := [.ref b0]) O (s_M_in hfl h) wy_X6_in wl_RX6_44 dX6_segmentOf_14 rfl rfl ⟨Nat.le_of_ble_eq_true rfl, Nat.le_of_ble_eq_true rfl⟩ (Nat.le_of_ble_eq_true rfl) ⟨Nat.le_of_ble_eq_true rfl, Nat.le_of_ble_eq_true rfl⟩ (fun r5_ z6_ G7_ hq8_ => ?_)
  obtain ⟨rfl, rfl, h⟩ := hq8_
  refine z_if_ne (tgt := 24) O dX6_segmentOf_17 (by decide) (fun c9_ => ?_) (fun c9_ => ?_)
  · have h := h.1 c9_
    refine z_iload_n O dX6_segmentOf_24 rfl rfl ?_
    refine z_i2l O dX6_segmentOf_25 ?_
    refine z_lconst (v := 0) O dX6_segmentOf_26 (by decide) ?_
    refine z_ldc2 (v := 5) O wc_RX6_245 dX6_segmentOf_27 ?_
    refine z_callSi (As := [.long (Int32.toInt64 x2), .long 0, .long 5]) (st := [.ref b0]) O (s_M_in hfl h) wy_X6_in wl_RX6_44 dX6_segmentOf_30 rfl rfl ⟨Nat.le_of_ble_eq_true rfl, Nat.le_of_ble_eq_true rfl⟩ (Nat.le_of_ble_eq_true rfl) ⟨Nat.le_of_ble_eq_true rfl, Nat.le_of_ble_eq_true rfl⟩ (fun r10_ z11_ G12_ hq13_ => ?_)
    obtain ⟨rfl, rfl, h⟩ := hq13_
    refine z_if_ne (tgt := 40) O dX6_segmentOf_33 (by decide) (fun c14_ => ?_) (fun c14_ => ?_)
    · have h := h.1 c14_
      refine z_iconst (v := 0) O dX6_segmentOf_40 (by decide) ?_
      exact z_subL (L' := [some (.ref b0), some (.int x1), some (.int x2), none, none]) (zLe.sub (And.intro rfl (And.intro rfl (And.intro rfl True.intro)))) (HJ41 x1 x2 0 v0 G h0 Fr.rf h)
    · have h := h.2 c14_
      refine z_iconst (v := 2) O dX6_segmentOf_36 (by decide) ?_
      refine z_goto (tgt := 41) O dX6_segmentOf_37 (by decide) ?_
      exact z_subL (L' := [some (.ref b0), some (.int x1), some (.int x2), none, none]) (zLe.sub (And.intro rfl (And.intro rfl (And.intro rfl True.intro)))) (HJ41 x1 x2 2 v0 G h0 Fr.rf h)
  · have h := h.2 c9_
    refine z_iconst (v := 1) O dX6_segmentOf_20 (by decide) ?_
    refine z_goto (tgt := 41) O dX6_segmentOf_21 (by decide) ?_
    exact z_subL (L' := [some (.ref b0), some (.int x1), some (.int x2), none, none]) (zLe.sub (And.intro rfl (And.intro rfl (And.intro rfl True.intro)))) (HJ41 x1 x2 1 v0 G h0 Fr.rf h)

theorem dX6_readerOf_0 : decode cX6_readerOf 0 = .ok (.aload_n 0, 1) := by decide +kernel
theorem dX6_readerOf_1 : decode cX6_readerOf 1 = .ok (.aload_n 0, 1) := by decide +kernel
theorem dX6_readerOf_2 : decode cX6_readerOf 2 = .ok (.getfield 7, 3) := by decide +kernel
theorem dX6_readerOf_5 : decode cX6_readerOf 5 = .ok (.iload_n 1, 1) := by decide +kernel
theorem dX6_readerOf_6 : decode cX6_readerOf 6 = .ok (.invokestatic 184, 3) := by decide +kernel
theorem dX6_readerOf_9 : decode cX6_readerOf 9 = .ok (.ifCond .ne 7, 3) := by decide +kernel
theorem dX6_readerOf_12 : decode cX6_readerOf 12 = .ok (.iconst 1, 1) := by decide +kernel
theorem dX6_readerOf_13 : decode cX6_readerOf 13 = .ok (.goto 20, 3) := by decide +kernel
theorem dX6_readerOf_16 : decode cX6_readerOf 16 = .ok (.iload_n 2, 1) := by decide +kernel
theorem dX6_readerOf_17 : decode cX6_readerOf 17 = .ok (.i2l, 1) := by decide +kernel
theorem dX6_readerOf_18 : decode cX6_readerOf 18 = .ok (.lconst 0, 1) := by decide +kernel
theorem dX6_readerOf_19 : decode cX6_readerOf 19 = .ok (.ldc2_w 56, 3) := by decide +kernel
theorem dX6_readerOf_22 : decode cX6_readerOf 22 = .ok (.invokestatic 44, 3) := by decide +kernel
theorem dX6_readerOf_25 : decode cX6_readerOf 25 = .ok (.ifCond .ne 7, 3) := by decide +kernel
theorem dX6_readerOf_28 : decode cX6_readerOf 28 = .ok (.iconst 2, 1) := by decide +kernel
theorem dX6_readerOf_29 : decode cX6_readerOf 29 = .ok (.goto 4, 3) := by decide +kernel
theorem dX6_readerOf_32 : decode cX6_readerOf 32 = .ok (.iconst 0, 1) := by decide +kernel
theorem dX6_readerOf_33 : decode cX6_readerOf 33 = .ok (.invokevirtual 136, 3) := by decide +kernel
theorem dX6_readerOf_36 : decode cX6_readerOf 36 = .ok (.ifCond .eq 5, 3) := by decide +kernel
theorem dX6_readerOf_39 : decode cX6_readerOf 39 = .ok (.iconst 0, 1) := by decide +kernel
theorem dX6_readerOf_40 : decode cX6_readerOf 40 = .ok (.ireturn, 1) := by decide +kernel
theorem dX6_readerOf_41 : decode cX6_readerOf 41 = .ok (.iload_n 1, 1) := by decide +kernel
theorem dX6_readerOf_42 : decode cX6_readerOf 42 = .ok (.invokestatic 65, 3) := by decide +kernel
theorem dX6_readerOf_45 : decode cX6_readerOf 45 = .ok (.istore_n 3, 1) := by decide +kernel
theorem dX6_readerOf_46 : decode cX6_readerOf 46 = .ok (.aload_n 0, 1) := by decide +kernel
theorem dX6_readerOf_47 : decode cX6_readerOf 47 = .ok (.getfield 7, 3) := by decide +kernel
theorem dX6_readerOf_50 : decode cX6_readerOf 50 = .ok (.iload_n 1, 1) := by decide +kernel
theorem dX6_readerOf_51 : decode cX6_readerOf 51 = .ok (.invokestatic 125, 3) := by decide +kernel
theorem dX6_readerOf_54 : decode cX6_readerOf 54 = .ok (.ifCond .eq 14, 3) := by decide +kernel
theorem dX6_readerOf_57 : decode cX6_readerOf 57 = .ok (.aload_n 0, 1) := by decide +kernel
theorem dX6_readerOf_58 : decode cX6_readerOf 58 = .ok (.getfield 7, 3) := by decide +kernel
theorem dX6_readerOf_61 : decode cX6_readerOf 61 = .ok (.sipush 400, 3) := by decide +kernel
theorem dX6_readerOf_64 : decode cX6_readerOf 64 = .ok (.iaload, 1) := by decide +kernel
theorem dX6_readerOf_65 : decode cX6_readerOf 65 = .ok (.goto 11, 3) := by decide +kernel
theorem dX6_readerOf_68 : decode cX6_readerOf 68 = .ok (.aload_n 0, 1) := by decide +kernel
theorem dX6_readerOf_69 : decode cX6_readerOf 69 = .ok (.getfield 7, 3) := by decide +kernel
theorem dX6_readerOf_72 : decode cX6_readerOf 72 = .ok (.iload_n 3, 1) := by decide +kernel
theorem dX6_readerOf_73 : decode cX6_readerOf 73 = .ok (.iconst 1, 1) := by decide +kernel
theorem dX6_readerOf_74 : decode cX6_readerOf 74 = .ok (.iadd, 1) := by decide +kernel
theorem dX6_readerOf_75 : decode cX6_readerOf 75 = .ok (.iaload, 1) := by decide +kernel
theorem dX6_readerOf_76 : decode cX6_readerOf 76 = .ok (.istore 4, 2) := by decide +kernel
theorem dX6_readerOf_78 : decode cX6_readerOf 78 = .ok (.iload_n 2, 1) := by decide +kernel
theorem dX6_readerOf_79 : decode cX6_readerOf 79 = .ok (.tableswitch 132 0 7 #[45, 54, 63, 72, 81, 90, 102, 120], 45) := by decide +kernel
theorem dX6_readerOf_124 : decode cX6_readerOf 124 = .ok (.aload_n 0, 1) := by decide +kernel
theorem dX6_readerOf_125 : decode cX6_readerOf 125 = .ok (.getfield 7, 3) := by decide +kernel
theorem dX6_readerOf_128 : decode cX6_readerOf 128 = .ok (.iload_n 3, 1) := by decide +kernel
theorem dX6_readerOf_129 : decode cX6_readerOf 129 = .ok (.iconst 1, 1) := by decide +kernel
theorem dX6_readerOf_130 : decode cX6_readerOf 130 = .ok (.iadd, 1) := by decide +kernel
theorem dX6_readerOf_131 : decode cX6_readerOf 131 = .ok (.iaload, 1) := by decide +kernel
theorem dX6_readerOf_132 : decode cX6_readerOf 132 = .ok (.ireturn, 1) := by decide +kernel
theorem dX6_readerOf_133 : decode cX6_readerOf 133 = .ok (.aload_n 0, 1) := by decide +kernel
theorem dX6_readerOf_134 : decode cX6_readerOf 134 = .ok (.getfield 7, 3) := by decide +kernel
theorem dX6_readerOf_137 : decode cX6_readerOf 137 = .ok (.iload_n 3, 1) := by decide +kernel
theorem dX6_readerOf_138 : decode cX6_readerOf 138 = .ok (.iconst 2, 1) := by decide +kernel
theorem dX6_readerOf_139 : decode cX6_readerOf 139 = .ok (.iadd, 1) := by decide +kernel
theorem dX6_readerOf_140 : decode cX6_readerOf 140 = .ok (.iaload, 1) := by decide +kernel
theorem dX6_readerOf_141 : decode cX6_readerOf 141 = .ok (.ireturn, 1) := by decide +kernel
theorem dX6_readerOf_142 : decode cX6_readerOf 142 = .ok (.aload_n 0, 1) := by decide +kernel
theorem dX6_readerOf_143 : decode cX6_readerOf 143 = .ok (.getfield 7, 3) := by decide +kernel
theorem dX6_readerOf_146 : decode cX6_readerOf 146 = .ok (.iload_n 3, 1) := by decide +kernel
theorem dX6_readerOf_147 : decode cX6_readerOf 147 = .ok (.iconst 3, 1) := by decide +kernel
theorem dX6_readerOf_148 : decode cX6_readerOf 148 = .ok (.iadd, 1) := by decide +kernel
theorem dX6_readerOf_149 : decode cX6_readerOf 149 = .ok (.iaload, 1) := by decide +kernel
theorem dX6_readerOf_150 : decode cX6_readerOf 150 = .ok (.ireturn, 1) := by decide +kernel
theorem dX6_readerOf_151 : decode cX6_readerOf 151 = .ok (.aload_n 0, 1) := by decide +kernel
theorem dX6_readerOf_152 : decode cX6_readerOf 152 = .ok (.getfield 7, 3) := by decide +kernel
theorem dX6_readerOf_155 : decode cX6_readerOf 155 = .ok (.iload_n 3, 1) := by decide +kernel
theorem dX6_readerOf_156 : decode cX6_readerOf 156 = .ok (.iconst 4, 1) := by decide +kernel
theorem dX6_readerOf_157 : decode cX6_readerOf 157 = .ok (.iadd, 1) := by decide +kernel
theorem dX6_readerOf_158 : decode cX6_readerOf 158 = .ok (.iaload, 1) := by decide +kernel
theorem dX6_readerOf_159 : decode cX6_readerOf 159 = .ok (.ireturn, 1) := by decide +kernel
theorem dX6_readerOf_160 : decode cX6_readerOf 160 = .ok (.aload_n 0, 1) := by decide +kernel
theorem dX6_readerOf_161 : decode cX6_readerOf 161 = .ok (.getfield 7, 3) := by decide +kernel
theorem dX6_readerOf_164 : decode cX6_readerOf 164 = .ok (.iload_n 3, 1) := by decide +kernel
theorem dX6_readerOf_165 : decode cX6_readerOf 165 = .ok (.iconst 5, 1) := by decide +kernel
theorem dX6_readerOf_166 : decode cX6_readerOf 166 = .ok (.iadd, 1) := by decide +kernel
theorem dX6_readerOf_167 : decode cX6_readerOf 167 = .ok (.iaload, 1) := by decide +kernel
theorem dX6_readerOf_168 : decode cX6_readerOf 168 = .ok (.ireturn, 1) := by decide +kernel
theorem dX6_readerOf_169 : decode cX6_readerOf 169 = .ok (.aload_n 0, 1) := by decide +kernel
theorem dX6_readerOf_170 : decode cX6_readerOf 170 = .ok (.getfield 7, 3) := by decide +kernel
theorem dX6_readerOf_173 : decode cX6_readerOf 173 = .ok (.sipush 401, 3) := by decide +kernel
theorem dX6_readerOf_176 : decode cX6_readerOf 176 = .ok (.iaload, 1) := by decide +kernel
theorem dX6_readerOf_177 : decode cX6_readerOf 177 = .ok (.iload 4, 2) := by decide +kernel
theorem dX6_readerOf_179 : decode cX6_readerOf 179 = .ok (.isub, 1) := by decide +kernel
theorem dX6_readerOf_180 : decode cX6_readerOf 180 = .ok (.ireturn, 1) := by decide +kernel
theorem dX6_readerOf_181 : decode cX6_readerOf 181 = .ok (.aload_n 0, 1) := by decide +kernel
theorem dX6_readerOf_182 : decode cX6_readerOf 182 = .ok (.getfield 7, 3) := by decide +kernel
theorem dX6_readerOf_185 : decode cX6_readerOf 185 = .ok (.iload 4, 2) := by decide +kernel
theorem dX6_readerOf_187 : decode cX6_readerOf 187 = .ok (.aload_n 0, 1) := by decide +kernel
theorem dX6_readerOf_188 : decode cX6_readerOf 188 = .ok (.getfield 7, 3) := by decide +kernel
theorem dX6_readerOf_191 : decode cX6_readerOf 191 = .ok (.sipush 401, 3) := by decide +kernel
theorem dX6_readerOf_194 : decode cX6_readerOf 194 = .ok (.iaload, 1) := by decide +kernel
theorem dX6_readerOf_195 : decode cX6_readerOf 195 = .ok (.invokestatic 80, 3) := by decide +kernel
theorem dX6_readerOf_198 : decode cX6_readerOf 198 = .ok (.ireturn, 1) := by decide +kernel
theorem dX6_readerOf_199 : decode cX6_readerOf 199 = .ok (.iload 4, 2) := by decide +kernel
theorem dX6_readerOf_201 : decode cX6_readerOf 201 = .ok (.aload_n 0, 1) := by decide +kernel
theorem dX6_readerOf_202 : decode cX6_readerOf 202 = .ok (.getfield 7, 3) := by decide +kernel
theorem dX6_readerOf_205 : decode cX6_readerOf 205 = .ok (.iload_n 3, 1) := by decide +kernel
theorem dX6_readerOf_206 : decode cX6_readerOf 206 = .ok (.iconst 1, 1) := by decide +kernel
theorem dX6_readerOf_207 : decode cX6_readerOf 207 = .ok (.iadd, 1) := by decide +kernel
theorem dX6_readerOf_208 : decode cX6_readerOf 208 = .ok (.iaload, 1) := by decide +kernel
theorem dX6_readerOf_209 : decode cX6_readerOf 209 = .ok (.isub, 1) := by decide +kernel
theorem dX6_readerOf_210 : decode cX6_readerOf 210 = .ok (.ireturn, 1) := by decide +kernel
theorem dX6_readerOf_211 : decode cX6_readerOf 211 = .ok (.aload_n 0, 1) := by decide +kernel
theorem dX6_readerOf_212 : decode cX6_readerOf 212 = .ok (.getfield 7, 3) := by decide +kernel
theorem dX6_readerOf_215 : decode cX6_readerOf 215 = .ok (.iload_n 3, 1) := by decide +kernel
theorem dX6_readerOf_216 : decode cX6_readerOf 216 = .ok (.bipush 6, 2) := by decide +kernel
theorem dX6_readerOf_218 : decode cX6_readerOf 218 = .ok (.iadd, 1) := by decide +kernel
theorem dX6_readerOf_219 : decode cX6_readerOf 219 = .ok (.iaload, 1) := by decide +kernel
theorem dX6_readerOf_220 : decode cX6_readerOf 220 = .ok (.ireturn, 1) := by decide +kernel
def PJ_M_readerOf_76 (x1 : Int32) (x2 : Int32) (y2 : Int32) (y3 : Int32) (u0 : Int32) (v0 : MT) (Q : Int32 → MT → Prop) : Prop := ((y2 = 0 → vp_in (y3 + 1) 621 ∧ (Q ((M_now v0) (Int32.toNatClampNeg (y3 + 1))) v0)) ∧ (¬ y2 = 0 → ((y2 = 1 → vp_in (y3 + 2) 621 ∧ (Q ((M_now v0) (Int32.toNatClampNeg (y3 + 2))) v0)) ∧ (¬ y2 = 1 → ((y2 = 2 → vp_in (y3 + 3) 621 ∧ (Q ((M_now v0) (Int32.toNatClampNeg (y3 + 3))) v0)) ∧ (¬ y2 = 2 → ((y2 = 3 → vp_in (y3 + 4) 621 ∧ (Q ((M_now v0) (Int32.toNatClampNeg (y3 + 4))) v0)) ∧ (¬ y2 = 3 → ((y2 = 4 → vp_in (y3 + 5) 621 ∧ (Q ((M_now v0) (Int32.toNatClampNeg (y3 + 5))) v0)) ∧ (¬ y2 = 4 → ((y2 = 5 → vp_in 401 621 ∧ (Q (((M_now v0) (Int32.toNatClampNeg 401)) - u0) v0)) ∧ (¬ y2 = 5 → ((y2 = 6 → vp_in 401 621 ∧ (P_M_sizes u0 ((M_now v0) (Int32.toNatClampNeg 401)) (M_now v0) (fun r44_ => (Q r44_ v0)))) ∧ (¬ y2 = 6 → ((y2 = 7 → vp_in (y3 + 1) 621 ∧ (Q (u0 - ((M_now v0) (Int32.toNatClampNeg (y3 + 1)))) v0)) ∧ (¬ y2 = 7 → vp_in (y3 + 6) 621 ∧ (Q ((M_now v0) (Int32.toNatClampNeg (y3 + 6))) v0)))))))))))))))))
def PJ_M_readerOf_33 (x1 : Int32) (x2 : Int32) (y1 : Int32) (y2 : Int32) (u0 : Int32) (v0 : MT) (Q : Int32 → MT → Prop) : Prop := P_M_refused u0 v0 (fun r11_ v15_ => (((r11_ = 0 → P_M_reader y1 (fun r20_ => (P_M_hasGap y1 (M_now v15_) (fun r24_ => (((r24_ = 0 → vp_in (r20_ + 1) 621 ∧ (PJ_M_readerOf_76 x1 x2 y2 r20_ ((M_now v15_) (Int32.toNatClampNeg (r20_ + 1))) v15_ Q)) ∧ (¬ r24_ = 0 → vp_in 400 621 ∧ (PJ_M_readerOf_76 x1 x2 y2 r20_ ((M_now v15_) (Int32.toNatClampNeg 400)) v15_ Q)))))))) ∧ (¬ r11_ = 0 → Q 0 v15_))))
def P_M_readerOf (x1 : Int32) (x2 : Int32) (v0 : MT) (Q : Int32 → MT → Prop) : Prop := P_M_isReader x1 (M_now v0) (fun r1_ => (((¬ r1_ = 0 → P_M_in (Int32.toInt64 x2) 0 8 (fun r6_ => (((¬ r6_ = 0 → PJ_M_readerOf_33 x1 x2 x1 x2 0 v0 Q) ∧ (r6_ = 0 → PJ_M_readerOf_33 x1 x2 x1 x2 2 v0 Q))))) ∧ (r1_ = 0 → PJ_M_readerOf_33 x1 x2 x1 x2 1 v0 Q))))
set_option maxRecDepth 100000 in
theorem s_M_readerOf {l : Launch} {D : zD} {B : Nat} {sa : Nat → Nat} (hfl : l.stackTraces = false) {z : Nat} {G : zG} {b0 : Nat} {x1 : Int32} {x2 : Int32} {v0 : MT} {Q : Int32 → MT → Prop} (h0 : MA b0 v0 G) (h : P_M_readerOf x1 x2 v0 Q) : zSp l D B sa yX6_readerOf cX6_readerOf 5 (some .int) 3 66 0 0 [.ref b0, .int x1, .int x2] z G (zRi fun r z' G' => z = z' ∧ ∃ w, MA b0 w G' ∧ Fr b0 8 G G' ∧ Q r w) := by
  unfold P_M_readerOf at h
  refine z_ofW (by decide +kernel) hfl [some (.ref b0), some (.int x1), some (.int x2), none, none] rfl (Nat.le_of_ble_eq_true rfl) (fun p e s m args below meth c O hret hlk hnm => ?_)
  have O : zO p l s m args c D B sa 5 cX6_readerOf RX6 := O
  have HJ76 : ∀ (y2 : Int32) (y3 : Int32) (u0 : Int32) (v0 : MT) (G9 : zG) (g0 : MA b0 v0 G9) (gF : Fr b0 8 G G9), PJ_M_readerOf_76 x1 x2 y2 y3 u0 v0 Q → zT p l e (zrm 3 66 0 0) s m args below meth c (zEnd below D B (zRi fun r z' G' => z = z' ∧ ∃ w, MA b0 w G' ∧ Fr b0 8 G G' ∧ Q r w) args s 0 0) D B 5 0 0 76 [.int u0] [some (.ref b0), none, some (.int y2), some (.int y3), none] z G9 := by
    intro y2 y3 u0 v0 G9 g0 gF h
    unfold PJ_M_readerOf_76 at h
    refine z_istore (L' := [some (.ref b0), none, some (.int y2), some (.int y3), some (.int u0)]) O dX6_readerOf_76 (by decide) rfl ?_
    refine z_iload_n O dX6_readerOf_78 rfl rfl ?_
    rcases Decidable.em (y2 = 0) with c30_ | c30_
    · have h := h.1 c30_
      refine z_tsw (v := 0) (tgt := 124) O dX6_readerOf_79 c30_ (by decide) (by decide) rfl (by decide) ?_
      refine z_aload_n O dX6_readerOf_124 rfl rfl ?_
      refine z_get (v := .ref (b0 + 1)) O wf_RX6_7 dX6_readerOf_125 (M_obj g0) rfl ?_
      refine z_iload_n O dX6_readerOf_128 rfl rfl ?_
      refine z_iconst (v := 1) O dX6_readerOf_129 (by decide) ?_
      refine z_iadd O dX6_readerOf_130 ?_
      obtain ⟨q31_, h⟩ := h
      refine z_iald O dX6_readerOf_131 (M_now_of g0) q31_ ?_
      exact z_iret O hret hlk dX6_readerOf_132 (Nat.le_of_ble_eq_true rfl) (Nat.le_of_ble_eq_true rfl) ⟨_, rfl, rfl, _, g0, gF, h⟩
    · have h := h.2 c30_
      rcases Decidable.em (y2 = 1) with c32_ | c32_
      · have h := h.1 c32_
        refine z_tsw (v := 1) (tgt := 133) O dX6_readerOf_79 c32_ (by decide) (by decide) rfl (by decide) ?_
        refine z_aload_n O dX6_readerOf_133 rfl rfl ?_
        refine z_get (v := .ref (b0 + 1)) O wf_RX6_7 dX6_readerOf_134 (M_obj g0) rfl ?_
        refine z_iload_n O dX6_readerOf_137 rfl rfl ?_
        refine z_iconst (v := 2) O dX6_readerOf_138 (by decide) ?_
        refine z_iadd O dX6_readerOf_139 ?_
        obtain ⟨q33_, h⟩ := h
        refine z_iald O dX6_readerOf_140 (M_now_of g0) q33_ ?_
        exact z_iret O hret hlk dX6_readerOf_141 (Nat.le_of_ble_eq_true rfl) (Nat.le_of_ble_eq_true rfl) ⟨_, rfl, rfl, _, g0, gF, h⟩
      · have h := h.2 c32_
        rcases Decidable.em (y2 = 2) with c34_ | c34_
        · have h := h.1 c34_
          refine z_tsw (v := 2) (tgt := 142) O dX6_readerOf_79 c34_ (by decide) (by decide) rfl (by decide) ?_
          refine z_aload_n O dX6_readerOf_142 rfl rfl ?_
          refine z_get (v := .ref (b0 + 1)) O wf_RX6_7 dX6_readerOf_143 (M_obj g0) rfl ?_
          refine z_iload_n O dX6_readerOf_146 rfl rfl ?_
          refine z_iconst (v := 3) O dX6_readerOf_147 (by decide) ?_
          refine z_iadd O dX6_readerOf_148 ?_
          obtain ⟨q35_, h⟩ := h
          refine z_iald O dX6_readerOf_149 (M_now_of g0) q35_ ?_
          exact z_iret O hret hlk dX6_readerOf_150 (Nat.le_of_ble_eq_true rfl) (Nat.le_of_ble_eq_true rfl) ⟨_, rfl, rfl, _, g0, gF, h⟩
        · have h := h.2 c34_
          rcases Decidable.em (y2 = 3) with c36_ | c36_
          · have h := h.1 c36_
            refine z_tsw (v := 3) (tgt := 151) O dX6_readerOf_79 c36_ (by decide) (by decide) rfl (by decide) ?_
            refine z_aload_n O dX6_readerOf_151 rfl rfl ?_
            refine z_get (v := .ref (b0 + 1)) O wf_RX6_7 dX6_readerOf_152 (M_obj g0) rfl ?_
            refine z_iload_n O dX6_readerOf_155 rfl rfl ?_
            refine z_iconst (v := 4) O dX6_readerOf_156 (by decide) ?_
            refine z_iadd O dX6_readerOf_157 ?_
            obtain ⟨q37_, h⟩ := h
            refine z_iald O dX6_readerOf_158 (M_now_of g0) q37_ ?_
            exact z_iret O hret hlk dX6_readerOf_159 (Nat.le_of_ble_eq_true rfl) (Nat.le_of_ble_eq_true rfl) ⟨_, rfl, rfl, _, g0, gF, h⟩
          · have h := h.2 c36_
            rcases Decidable.em (y2 = 4) with c38_ | c38_
            · have h := h.1 c38_
              refine z_tsw (v := 4) (tgt := 160) O dX6_readerOf_79 c38_ (by decide) (by decide) rfl (by decide) ?_
              refine z_aload_n O dX6_readerOf_160 rfl rfl ?_
              refine z_get (v := .ref (b0 + 1)) O wf_RX6_7 dX6_readerOf_161 (M_obj g0) rfl ?_
              refine z_iload_n O dX6_readerOf_164 rfl rfl ?_
              refine z_iconst (v := 5) O dX6_readerOf_165 (by decide) ?_
              refine z_iadd O dX6_readerOf_166 ?_
              obtain ⟨q39_, h⟩ := h
              refine z_iald O dX6_readerOf_167 (M_now_of g0) q39_ ?_
              exact z_iret O hret hlk dX6_readerOf_168 (Nat.le_of_ble_eq_true rfl) (Nat.le_of_ble_eq_true rfl) ⟨_, rfl, rfl, _, g0, gF, h⟩
            · have h := h.2 c38_
              rcases Decidable.em (y2 = 5) with c40_ | c40_
              · have h := h.1 c40_
                refine z_tsw (v := 5) (tgt := 169) O dX6_readerOf_79 c40_ (by decide) (by decide) rfl (by decide) ?_
                refine z_aload_n O dX6_readerOf_169 rfl rfl ?_
                refine z_get (v := .ref (b0 + 1)) O wf_RX6_7 dX6_readerOf_170 (M_obj g0) rfl ?_
                refine z_sipush (v := 401) O dX6_readerOf_173 (by decide) ?_
                obtain ⟨q41_, h⟩ := h
                refine z_iald O dX6_readerOf_176 (M_now_of g0) q41_ ?_
                refine z_iload O dX6_readerOf_177 rfl ?_
                refine z_isub O dX6_readerOf_179 ?_
                exact z_iret O hret hlk dX6_readerOf_180 (Nat.le_of_ble_eq_true rfl) (Nat.le_of_ble_eq_true rfl) ⟨_, rfl, rfl, _, g0, gF, h⟩
              · have h := h.2 c40_
                rcases Decidable.em (y2 = 6) with c42_ | c42_
                · have h := h.1 c42_
                  refine z_tsw (v := 6) (tgt := 181) O dX6_readerOf_79 c42_ (by decide) (by decide) rfl (by decide) ?_
                  refine z_aload_n O dX6_readerOf_181 rfl rfl ?_
                  refine z_get (v := .ref (b0 + 1)) O wf_RX6_7 dX6_readerOf_182 (M_obj g0) rfl ?_
                  refine z_iload O dX6_readerOf_185 rfl ?_
                  refine z_aload_n O dX6_readerOf_187 rfl rfl ?_
                  refine z_get (v := .ref (b0 + 1)) O wf_RX6_7 dX6_readerOf_188 (M_obj g0) rfl ?_
                  refine z_sipush (v := 401) O dX6_readerOf_191 (by decide) ?_
                  obtain ⟨q43_, h⟩ := h
                  refine z_iald O dX6_readerOf_194 (M_now_of g0) q43_ ?_
                  refine z_callSi (As := [.ref (b0 + 1), .int u0, .int ((M_now v0) (Int32.toNatClampNeg 401))]) (st := []) O (s_M_sizes hfl (M_now_of g0) h) wy_X6_sizes wl_RX6_80 dX6_readerOf_195 rfl rfl ⟨Nat.le_of_ble_eq_true rfl, Nat.le_of_ble_eq_true rfl⟩ (Nat.le_of_ble_eq_true rfl) ⟨Nat.le_of_ble_eq_true rfl, Nat.le_of_ble_eq_true rfl⟩ (fun r44_ z45_ G46_ hq47_ => ?_)
                  obtain ⟨rfl, rfl, h⟩ := hq47_
                  exact z_iret O hret hlk dX6_readerOf_198 (Nat.le_of_ble_eq_true rfl) (Nat.le_of_ble_eq_true rfl) ⟨_, rfl, rfl, _, g0, gF, h⟩
                · have h := h.2 c42_
                  rcases Decidable.em (y2 = 7) with c48_ | c48_
                  · have h := h.1 c48_
                    refine z_tsw (v := 7) (tgt := 199) O dX6_readerOf_79 c48_ (by decide) (by decide) rfl (by decide) ?_
                    refine z_iload O dX6_readerOf_199 rfl ?_
                    refine z_aload_n O dX6_readerOf_201 rfl rfl ?_
                    refine z_get (v := .ref (b0 + 1)) O wf_RX6_7 dX6_readerOf_202 (M_obj g0) rfl ?_
                    refine z_iload_n O dX6_readerOf_205 rfl rfl ?_
                    refine z_iconst (v := 1) O dX6_readerOf_206 (by decide) ?_
                    refine z_iadd O dX6_readerOf_207 ?_
                    obtain ⟨q49_, h⟩ := h
                    refine z_iald O dX6_readerOf_208 (M_now_of g0) q49_ ?_
                    refine z_isub O dX6_readerOf_209 ?_
                    exact z_iret O hret hlk dX6_readerOf_210 (Nat.le_of_ble_eq_true rfl) (Nat.le_of_ble_eq_true rfl) ⟨_, rfl, rfl, _, g0, gF, h⟩
                  · have h := h.2 c48_
                    refine z_tswd (tgt := 211) O dX6_readerOf_79 (zsw_out (fun j h1 h2 => by rcases (show j = 0 ∨ j = 1 ∨ j = 2 ∨ j = 3 ∨ j = 4 ∨ j = 5 ∨ j = 6 ∨ j = 7 by omega) with rfl | rfl | rfl | rfl | rfl | rfl | rfl | rfl; exact c30_; exact c32_; exact c34_; exact c36_; exact c38_; exact c40_; exact c42_; exact c48_)) (by decide) ?_
                    refine z_aload_n O dX6_readerOf_211 rfl rfl ?_
                    refine z_get (v := .ref (b0 + 1)) O wf_RX6_7 dX6_readerOf_212 (M_obj g0) rfl ?_
                    refine z_iload_n O dX6_readerOf_215 rfl rfl ?_
                    refine z_bipush (v := 6) O dX6_readerOf_216 (by decide) ?_
                    refine z_iadd O dX6_readerOf_218 ?_
                    obtain ⟨q50_, h⟩ := h
                    refine z_iald O dX6_readerOf_219 (M_now_of g0) q50_ ?_
                    exact z_iret O hret hlk dX6_readerOf_220 (Nat.le_of_ble_eq_true rfl) (Nat.le_of_ble_eq_true rfl) ⟨_, rfl, rfl, _, g0, gF, h⟩
  have HJ33 : ∀ (y1 : Int32) (y2 : Int32) (u0 : Int32) (v0 : MT) (G9 : zG) (g0 : MA b0 v0 G9) (gF : Fr b0 8 G G9), PJ_M_readerOf_33 x1 x2 y1 y2 u0 v0 Q → zT p l e (zrm 3 66 0 0) s m args below meth c (zEnd below D B (zRi fun r z' G' => z = z' ∧ ∃ w, MA b0 w G' ∧ Fr b0 8 G G' ∧ Q r w) args s 0 0) D B 5 0 0 33 [.int u0, .ref b0] [some (.ref b0), some (.int y1), some (.int y2), none, none] z G9 := by
    intro y1 y2 u0 v0 G9 g0 gF h
    unfold PJ_M_readerOf_33 at h
    refine z_callVi (As := [.int u0]) (st := []) O (s_M_refused hfl g0 h) wy_X6_refused wl_RX6_136 dX6_readerOf_33 rfl rfl (M_obj g0) ⟨by decide, rfl⟩ ⟨Nat.le_of_ble_eq_true rfl, Nat.le_of_ble_eq_true rfl⟩ (Nat.le_of_ble_eq_true rfl) ⟨Nat.le_of_ble_eq_true rfl, Nat.le_of_ble_eq_true rfl⟩ (fun r11_ z12_ G13_ hq14_ => ?_)
    obtain ⟨rfl, v15_, k16_, f17_, h⟩ := hq14_
    have F18_ : Fr b0 8 G G13_ := Fr.trans gF f17_
    refine z_if_eq (tgt := 41) O dX6_readerOf_36 (by decide) (fun c19_ => ?_) (fun c19_ => ?_)
    · have h := h.1 c19_
      refine z_iload_n O dX6_readerOf_41 rfl rfl ?_
      refine z_callSi (As := [.int y1]) (st := []) O (s_M_reader hfl h) wy_X6_reader wl_RX6_65 dX6_readerOf_42 rfl rfl ⟨Nat.le_of_ble_eq_true rfl, Nat.le_of_ble_eq_true rfl⟩ (Nat.le_of_ble_eq_true rfl) ⟨Nat.le_of_ble_eq_true rfl, Nat.le_of_ble_eq_true rfl⟩ (fun r20_ z21_ G22_ hq23_ => ?_)
      obtain ⟨rfl, rfl, h⟩ := hq23_
      refine z_istore_n (L' := [some (.ref b0), some (.int y1), some (.int y2), some (.int r20_), none]) O dX6_readerOf_45 rfl (by decide) rfl ?_
      refine z_aload_n O dX6_readerOf_46 rfl rfl ?_
      refine z_get (v := .ref (b0 + 1)) O wf_RX6_7 dX6_readerOf_47 (M_obj k16_) rfl ?_
      refine z_iload_n O dX6_readerOf_50 rfl rfl ?_
      refine z_callSi (As := [.ref (b0 + 1), .int y1]) (st := []) O (s_M_hasGap hfl (M_now_of k16_) h) wy_X6_hasGap wl_RX6_125 dX6_readerOf_51 rfl rfl ⟨Nat.le_of_ble_eq_true rfl, Nat.le_of_ble_eq_true rfl⟩ (Nat.le_of_ble_eq_true rfl) ⟨Nat.le_of_ble_eq_true rfl, Nat.le_of_ble_eq_true rfl⟩ (fun r24_ z25_ G26_ hq27_ => ?_)
      obtain ⟨rfl, rfl, h⟩ := hq27_
      refine z_if_eq (tgt := 68) O dX6_readerOf_54 (by decide) (fun c28_ => ?_) (fun c28_ => ?_)
      · have h := h.1 c28_
        refine z_aload_n O dX6_readerOf_68 rfl rfl ?_
        refine z_get (v := .ref (b0 + 1)) O wf_RX6_7 dX6_readerOf_69 (M_obj k16_) rfl ?_
        refine z_iload_n O dX6_readerOf_72 rfl rfl ?_
        refine z_iconst (v := 1) O dX6_readerOf_73 (by decide) ?_
        refine z_iadd O dX6_readerOf_74 ?_
        obtain ⟨q29_, h⟩ := h
        refine z_iald O dX6_readerOf_75 (M_now_of k16_) q29_ ?_
        exact z_subL (L' := [some (.ref b0), none, some (.int y2), some (.int r20_), none]) (zLe.sub (And.intro rfl (And.intro rfl (And.intro rfl True.intro)))) (HJ76 y2 r20_ ((M_now v15_) (Int32.toNatClampNeg (r20_ + 1))) v15_ G13_ k16_ F18_ h)
      · have h := h.2 c28_
        refine z_aload_n O dX6_readerOf_57 rfl rfl ?_
        refine z_get (v := .ref (b0 + 1)) O wf_RX6_7 dX6_readerOf_58 (M_obj k16_) rfl ?_
        refine z_sipush (v := 400) O dX6_readerOf_61 (by decide) ?_
        obtain ⟨q51_, h⟩ := h
        refine z_iald O dX6_readerOf_64 (M_now_of k16_) q51_ ?_
        refine z_goto (tgt := 76) O dX6_readerOf_65 (by decide) ?_
        exact z_subL (L' := [some (.ref b0), none, some (.int y2), some (.int r20_), none]) (zLe.sub (And.intro rfl (And.intro rfl (And.intro rfl True.intro)))) (HJ76 y2 r20_ ((M_now v15_) (Int32.toNatClampNeg 400)) v15_ G13_ k16_ F18_ h)
    · have h := h.2 c19_
      refine z_iconst (v := 0) O dX6_readerOf_39 (by decide) ?_
      exact z_iret O hret hlk dX6_readerOf_40 (Nat.le_of_ble_eq_true rfl) (Nat.le_of_ble_eq_true rfl) ⟨_, rfl, rfl, _, k16_, F18_, h⟩
  refine z_aload_n O dX6_readerOf_0 rfl rfl ?_
  refine z_aload_n O dX6_readerOf_1 rfl rfl ?_
  refine z_get (v := .ref (b0 + 1)) O wf_RX6_7 dX6_readerOf_2 (M_obj h0) rfl ?_
  refine z_iload_n O dX6_readerOf_5 rfl rfl ?_
  refine z_callSi (As := [.ref (b0 + 1), .int x1]) (st := [.ref b0]) O (s_M_isReader hfl (M_now_of h0) h) wy_X6_isReader wl_RX6_184 dX6_readerOf_6 rfl rfl ⟨Nat.le_of_ble_eq_true rfl, Nat.le_of_ble_eq_true rfl⟩ (Nat.le_of_ble_eq_true rfl) ⟨Nat.le_of_ble_eq_true rfl, Nat.le_of_ble_eq_true rfl⟩ (fun r1_ z2_ G3_ hq4_ => ?_)
  obtain ⟨rfl, rfl, h⟩ := hq4_
  refine z_if_ne (tgt := 16) O dX6_readerOf_9 (by decide) (fun c5_ => ?_) (fun c5_ => ?_)
  · have h := h.1 c5_
    refine z_iload_n O dX6_readerOf_16 rfl rfl ?_
    refine z_i2l O dX6_readerOf_17 ?_
    refine z_lconst (v := 0) O dX6_readerOf_18 (by decide) ?_
    refine z_ldc2 (v := 8) O wc_RX6_56 dX6_readerOf_19 ?_
    refine z_callSi (As := [.long (Int32.toInt64 x2), .long 0, .long 8]) (st := [.ref b0]) O (s_M_in hfl h) wy_X6_in wl_RX6_44 dX6_readerOf_22 rfl rfl ⟨Nat.le_of_ble_eq_true rfl, Nat.le_of_ble_eq_true rfl⟩ (Nat.le_of_ble_eq_true rfl) ⟨Nat.le_of_ble_eq_true rfl, Nat.le_of_ble_eq_true rfl⟩ (fun r6_ z7_ G8_ hq9_ => ?_)
    obtain ⟨rfl, rfl, h⟩ := hq9_
    refine z_if_ne (tgt := 32) O dX6_readerOf_25 (by decide) (fun c10_ => ?_) (fun c10_ => ?_)
    · have h := h.1 c10_
      refine z_iconst (v := 0) O dX6_readerOf_32 (by decide) ?_
      exact z_subL (L' := [some (.ref b0), some (.int x1), some (.int x2), none, none]) (zLe.sub (And.intro rfl (And.intro rfl (And.intro rfl True.intro)))) (HJ33 x1 x2 0 v0 G h0 Fr.rf h)
    · have h := h.2 c10_
      refine z_iconst (v := 2) O dX6_readerOf_28 (by decide) ?_
      refine z_goto (tgt := 33) O dX6_readerOf_29 (by decide) ?_
      exact z_subL (L' := [some (.ref b0), some (.int x1), some (.int x2), none, none]) (zLe.sub (And.intro rfl (And.intro rfl (And.intro rfl True.intro)))) (HJ33 x1 x2 2 v0 G h0 Fr.rf h)
  · have h := h.2 c5_
    refine z_iconst (v := 1) O dX6_readerOf_12 (by decide) ?_
    refine z_goto (tgt := 33) O dX6_readerOf_13 (by decide) ?_
    exact z_subL (L' := [some (.ref b0), some (.int x1), some (.int x2), none, none]) (zLe.sub (And.intro rfl (And.intro rfl (And.intro rfl True.intro)))) (HJ33 x1 x2 1 v0 G h0 Fr.rf h)

theorem dX6_table_0 : decode cX6_table 0 = .ok (.aload_n 0, 1) := by decide +kernel
theorem dX6_table_1 : decode cX6_table 1 = .ok (.aload_n 0, 1) := by decide +kernel
theorem dX6_table_2 : decode cX6_table 2 = .ok (.getfield 7, 3) := by decide +kernel
theorem dX6_table_5 : decode cX6_table 5 = .ok (.iload_n 1, 1) := by decide +kernel
theorem dX6_table_6 : decode cX6_table 6 = .ok (.invokestatic 184, 3) := by decide +kernel
theorem dX6_table_9 : decode cX6_table 9 = .ok (.ifCond .ne 7, 3) := by decide +kernel
theorem dX6_table_12 : decode cX6_table 12 = .ok (.iconst 1, 1) := by decide +kernel
theorem dX6_table_13 : decode cX6_table 13 = .ok (.goto 15, 3) := by decide +kernel
theorem dX6_table_16 : decode cX6_table 16 = .ok (.iload_n 2, 1) := by decide +kernel
theorem dX6_table_17 : decode cX6_table 17 = .ok (.invokestatic 48, 3) := by decide +kernel
theorem dX6_table_20 : decode cX6_table 20 = .ok (.ifCond .ne 7, 3) := by decide +kernel
theorem dX6_table_23 : decode cX6_table 23 = .ok (.iconst 2, 1) := by decide +kernel
theorem dX6_table_24 : decode cX6_table 24 = .ok (.goto 4, 3) := by decide +kernel
theorem dX6_table_27 : decode cX6_table 27 = .ok (.iconst 0, 1) := by decide +kernel
theorem dX6_table_28 : decode cX6_table 28 = .ok (.invokevirtual 136, 3) := by decide +kernel
theorem dX6_table_31 : decode cX6_table 31 = .ok (.ifCond .eq 5, 3) := by decide +kernel
theorem dX6_table_34 : decode cX6_table 34 = .ok (.iconst 0, 1) := by decide +kernel
theorem dX6_table_35 : decode cX6_table 35 = .ok (.ireturn, 1) := by decide +kernel
theorem dX6_table_36 : decode cX6_table 36 = .ok (.aload_n 0, 1) := by decide +kernel
theorem dX6_table_37 : decode cX6_table 37 = .ok (.getfield 7, 3) := by decide +kernel
theorem dX6_table_40 : decode cX6_table 40 = .ok (.iload_n 1, 1) := by decide +kernel
theorem dX6_table_41 : decode cX6_table 41 = .ok (.invokestatic 65, 3) := by decide +kernel
theorem dX6_table_44 : decode cX6_table 44 = .ok (.bipush 7, 2) := by decide +kernel
theorem dX6_table_46 : decode cX6_table 46 = .ok (.iadd, 1) := by decide +kernel
theorem dX6_table_47 : decode cX6_table 47 = .ok (.iload_n 2, 1) := by decide +kernel
theorem dX6_table_48 : decode cX6_table 48 = .ok (.iadd, 1) := by decide +kernel
theorem dX6_table_49 : decode cX6_table 49 = .ok (.iaload, 1) := by decide +kernel
theorem dX6_table_50 : decode cX6_table 50 = .ok (.ireturn, 1) := by decide +kernel
def PJ_M_table_28 (x1 : Int32) (x2 : Int32) (y1 : Int32) (y2 : Int32) (u0 : Int32) (v0 : MT) (Q : Int32 → MT → Prop) : Prop := P_M_refused u0 v0 (fun r11_ v15_ => (((r11_ = 0 → P_M_reader y1 (fun r20_ => (vp_in ((r20_ + 7) + y2) 621 ∧ (Q ((M_now v15_) (Int32.toNatClampNeg ((r20_ + 7) + y2))) v15_)))) ∧ (¬ r11_ = 0 → Q 0 v15_))))
def P_M_table (x1 : Int32) (x2 : Int32) (v0 : MT) (Q : Int32 → MT → Prop) : Prop := P_M_isReader x1 (M_now v0) (fun r1_ => (((¬ r1_ = 0 → P_M_isKey x2 (fun r6_ => (((¬ r6_ = 0 → PJ_M_table_28 x1 x2 x1 x2 0 v0 Q) ∧ (r6_ = 0 → PJ_M_table_28 x1 x2 x1 x2 2 v0 Q))))) ∧ (r1_ = 0 → PJ_M_table_28 x1 x2 x1 x2 1 v0 Q))))
set_option maxRecDepth 100000 in
theorem s_M_table {l : Launch} {D : zD} {B : Nat} {sa : Nat → Nat} (hfl : l.stackTraces = false) {z : Nat} {G : zG} {b0 : Nat} {x1 : Int32} {x2 : Int32} {v0 : MT} {Q : Int32 → MT → Prop} (h0 : MA b0 v0 G) (h : P_M_table x1 x2 v0 Q) : zSp l D B sa yX6_table cX6_table 3 (some .int) 3 66 0 0 [.ref b0, .int x1, .int x2] z G (zRi fun r z' G' => z = z' ∧ ∃ w, MA b0 w G' ∧ Fr b0 8 G G' ∧ Q r w) := by
  unfold P_M_table at h
  refine z_ofW (by decide +kernel) hfl [some (.ref b0), some (.int x1), some (.int x2)] rfl (Nat.le_of_ble_eq_true rfl) (fun p e s m args below meth c O hret hlk hnm => ?_)
  have O : zO p l s m args c D B sa 3 cX6_table RX6 := O
  have HJ28 : ∀ (y1 : Int32) (y2 : Int32) (u0 : Int32) (v0 : MT) (G9 : zG) (g0 : MA b0 v0 G9) (gF : Fr b0 8 G G9), PJ_M_table_28 x1 x2 y1 y2 u0 v0 Q → zT p l e (zrm 3 66 0 0) s m args below meth c (zEnd below D B (zRi fun r z' G' => z = z' ∧ ∃ w, MA b0 w G' ∧ Fr b0 8 G G' ∧ Q r w) args s 0 0) D B 3 0 0 28 [.int u0, .ref b0] [some (.ref b0), some (.int y1), some (.int y2)] z G9 := by
    intro y1 y2 u0 v0 G9 g0 gF h
    unfold PJ_M_table_28 at h
    refine z_callVi (As := [.int u0]) (st := []) O (s_M_refused hfl g0 h) wy_X6_refused wl_RX6_136 dX6_table_28 rfl rfl (M_obj g0) ⟨by decide, rfl⟩ ⟨Nat.le_of_ble_eq_true rfl, Nat.le_of_ble_eq_true rfl⟩ (Nat.le_of_ble_eq_true rfl) ⟨Nat.le_of_ble_eq_true rfl, Nat.le_of_ble_eq_true rfl⟩ (fun r11_ z12_ G13_ hq14_ => ?_)
    obtain ⟨rfl, v15_, k16_, f17_, h⟩ := hq14_
    have F18_ : Fr b0 8 G G13_ := Fr.trans gF f17_
    refine z_if_eq (tgt := 36) O dX6_table_31 (by decide) (fun c19_ => ?_) (fun c19_ => ?_)
    · have h := h.1 c19_
      refine z_aload_n O dX6_table_36 rfl rfl ?_
      refine z_get (v := .ref (b0 + 1)) O wf_RX6_7 dX6_table_37 (M_obj k16_) rfl ?_
      refine z_iload_n O dX6_table_40 rfl rfl ?_
      refine z_callSi (As := [.int y1]) (st := [.ref (b0 + 1)]) O (s_M_reader hfl h) wy_X6_reader wl_RX6_65 dX6_table_41 rfl rfl ⟨Nat.le_of_ble_eq_true rfl, Nat.le_of_ble_eq_true rfl⟩ (Nat.le_of_ble_eq_true rfl) ⟨Nat.le_of_ble_eq_true rfl, Nat.le_of_ble_eq_true rfl⟩ (fun r20_ z21_ G22_ hq23_ => ?_)
      obtain ⟨rfl, rfl, h⟩ := hq23_
      refine z_bipush (v := 7) O dX6_table_44 (by decide) ?_
      refine z_iadd O dX6_table_46 ?_
      refine z_iload_n O dX6_table_47 rfl rfl ?_
      refine z_iadd O dX6_table_48 ?_
      obtain ⟨q24_, h⟩ := h
      refine z_iald O dX6_table_49 (M_now_of k16_) q24_ ?_
      exact z_iret O hret hlk dX6_table_50 (Nat.le_of_ble_eq_true rfl) (Nat.le_of_ble_eq_true rfl) ⟨_, rfl, rfl, _, k16_, F18_, h⟩
    · have h := h.2 c19_
      refine z_iconst (v := 0) O dX6_table_34 (by decide) ?_
      exact z_iret O hret hlk dX6_table_35 (Nat.le_of_ble_eq_true rfl) (Nat.le_of_ble_eq_true rfl) ⟨_, rfl, rfl, _, k16_, F18_, h⟩
  refine z_aload_n O dX6_table_0 rfl rfl ?_
  refine z_aload_n O dX6_table_1 rfl rfl ?_
  refine z_get (v := .ref (b0 + 1)) O wf_RX6_7 dX6_table_2 (M_obj h0) rfl ?_
  refine z_iload_n O dX6_table_5 rfl rfl ?_
  refine z_callSi (As := [.ref (b0 + 1), .int x1]) (st := [.ref b0]) O (s_M_isReader hfl (M_now_of h0) h) wy_X6_isReader wl_RX6_184 dX6_table_6 rfl rfl ⟨Nat.le_of_ble_eq_true rfl, Nat.le_of_ble_eq_true rfl⟩ (Nat.le_of_ble_eq_true rfl) ⟨Nat.le_of_ble_eq_true rfl, Nat.le_of_ble_eq_true rfl⟩ (fun r1_ z2_ G3_ hq4_ => ?_)
  obtain ⟨rfl, rfl, h⟩ := hq4_
  refine z_if_ne (tgt := 16) O dX6_table_9 (by decide) (fun c5_ => ?_) (fun c5_ => ?_)
  · have h := h.1 c5_
    refine z_iload_n O dX6_table_16 rfl rfl ?_
    refine z_callSi (As := [.int x2]) (st := [.ref b0]) O (s_M_isKey hfl h) wy_X6_isKey wl_RX6_48 dX6_table_17 rfl rfl ⟨Nat.le_of_ble_eq_true rfl, Nat.le_of_ble_eq_true rfl⟩ (Nat.le_of_ble_eq_true rfl) ⟨Nat.le_of_ble_eq_true rfl, Nat.le_of_ble_eq_true rfl⟩ (fun r6_ z7_ G8_ hq9_ => ?_)
    obtain ⟨rfl, rfl, h⟩ := hq9_
    refine z_if_ne (tgt := 27) O dX6_table_20 (by decide) (fun c10_ => ?_) (fun c10_ => ?_)
    · have h := h.1 c10_
      refine z_iconst (v := 0) O dX6_table_27 (by decide) ?_
      exact z_subL (L' := [some (.ref b0), some (.int x1), some (.int x2)]) (zLe.sub (And.intro rfl (And.intro rfl (And.intro rfl True.intro)))) (HJ28 x1 x2 0 v0 G h0 Fr.rf h)
    · have h := h.2 c10_
      refine z_iconst (v := 2) O dX6_table_23 (by decide) ?_
      refine z_goto (tgt := 28) O dX6_table_24 (by decide) ?_
      exact z_subL (L' := [some (.ref b0), some (.int x1), some (.int x2)]) (zLe.sub (And.intro rfl (And.intro rfl (And.intro rfl True.intro)))) (HJ28 x1 x2 2 v0 G h0 Fr.rf h)
  · have h := h.2 c5_
    refine z_iconst (v := 1) O dX6_table_12 (by decide) ?_
    refine z_goto (tgt := 28) O dX6_table_13 (by decide) ?_
    exact z_subL (L' := [some (.ref b0), some (.int x1), some (.int x2)]) (zLe.sub (And.intro rfl (And.intro rfl (And.intro rfl True.intro)))) (HJ28 x1 x2 1 v0 G h0 Fr.rf h)
