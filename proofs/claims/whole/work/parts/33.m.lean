theorem dX6_goRead_0 : decode cX6_goRead 0 = .ok (.iload_n 1, 1) := by decide +kernel
theorem dX6_goRead_1 : decode cX6_goRead 1 = .ok (.invokestatic 65, 3) := by decide +kernel
theorem dX6_goRead_4 : decode cX6_goRead 4 = .ok (.istore_n 3, 1) := by decide +kernel
theorem dX6_goRead_5 : decode cX6_goRead 5 = .ok (.aload_n 0, 1) := by decide +kernel
theorem dX6_goRead_6 : decode cX6_goRead 6 = .ok (.iload_n 3, 1) := by decide +kernel
theorem dX6_goRead_7 : decode cX6_goRead 7 = .ok (.iconst 5, 1) := by decide +kernel
theorem dX6_goRead_8 : decode cX6_goRead 8 = .ok (.iadd, 1) := by decide +kernel
theorem dX6_goRead_9 : decode cX6_goRead 9 = .ok (.aload_n 0, 1) := by decide +kernel
theorem dX6_goRead_10 : decode cX6_goRead 10 = .ok (.sipush 616, 3) := by decide +kernel
theorem dX6_goRead_13 : decode cX6_goRead 13 = .ok (.iaload, 1) := by decide +kernel
theorem dX6_goRead_14 : decode cX6_goRead 14 = .ok (.iastore, 1) := by decide +kernel
theorem dX6_goRead_15 : decode cX6_goRead 15 = .ok (.aload_n 0, 1) := by decide +kernel
theorem dX6_goRead_16 : decode cX6_goRead 16 = .ok (.sipush 400, 3) := by decide +kernel
theorem dX6_goRead_19 : decode cX6_goRead 19 = .ok (.iaload, 1) := by decide +kernel
theorem dX6_goRead_20 : decode cX6_goRead 20 = .ok (.aload_n 0, 1) := by decide +kernel
theorem dX6_goRead_21 : decode cX6_goRead 21 = .ok (.iload_n 3, 1) := by decide +kernel
theorem dX6_goRead_22 : decode cX6_goRead 22 = .ok (.iconst 1, 1) := by decide +kernel
theorem dX6_goRead_23 : decode cX6_goRead 23 = .ok (.iadd, 1) := by decide +kernel
theorem dX6_goRead_24 : decode cX6_goRead 24 = .ok (.iaload, 1) := by decide +kernel
theorem dX6_goRead_25 : decode cX6_goRead 25 = .ok (.isub, 1) := by decide +kernel
theorem dX6_goRead_26 : decode cX6_goRead 26 = .ok (.istore 4, 2) := by decide +kernel
theorem dX6_goRead_28 : decode cX6_goRead 28 = .ok (.iload 4, 2) := by decide +kernel
theorem dX6_goRead_30 : decode cX6_goRead 30 = .ok (.ifCond .le 70, 3) := by decide +kernel
theorem dX6_goRead_33 : decode cX6_goRead 33 = .ok (.aload_n 0, 1) := by decide +kernel
theorem dX6_goRead_34 : decode cX6_goRead 34 = .ok (.iload_n 3, 1) := by decide +kernel
theorem dX6_goRead_35 : decode cX6_goRead 35 = .ok (.iconst 4, 1) := by decide +kernel
theorem dX6_goRead_36 : decode cX6_goRead 36 = .ok (.iadd, 1) := by decide +kernel
theorem dX6_goRead_37 : decode cX6_goRead 37 = .ok (.dup2, 1) := by decide +kernel
theorem dX6_goRead_38 : decode cX6_goRead 38 = .ok (.iaload, 1) := by decide +kernel
theorem dX6_goRead_39 : decode cX6_goRead 39 = .ok (.iload 4, 2) := by decide +kernel
theorem dX6_goRead_41 : decode cX6_goRead 41 = .ok (.iadd, 1) := by decide +kernel
theorem dX6_goRead_42 : decode cX6_goRead 42 = .ok (.iastore, 1) := by decide +kernel
theorem dX6_goRead_43 : decode cX6_goRead 43 = .ok (.aload_n 0, 1) := by decide +kernel
theorem dX6_goRead_44 : decode cX6_goRead 44 = .ok (.sipush 620, 3) := by decide +kernel
theorem dX6_goRead_47 : decode cX6_goRead 47 = .ok (.dup2, 1) := by decide +kernel
theorem dX6_goRead_48 : decode cX6_goRead 48 = .ok (.iaload, 1) := by decide +kernel
theorem dX6_goRead_49 : decode cX6_goRead 49 = .ok (.iload 4, 2) := by decide +kernel
theorem dX6_goRead_51 : decode cX6_goRead 51 = .ok (.iadd, 1) := by decide +kernel
theorem dX6_goRead_52 : decode cX6_goRead 52 = .ok (.iastore, 1) := by decide +kernel
theorem dX6_goRead_53 : decode cX6_goRead 53 = .ok (.aload_n 0, 1) := by decide +kernel
theorem dX6_goRead_54 : decode cX6_goRead 54 = .ok (.iload_n 3, 1) := by decide +kernel
theorem dX6_goRead_55 : decode cX6_goRead 55 = .ok (.iconst 1, 1) := by decide +kernel
theorem dX6_goRead_56 : decode cX6_goRead 56 = .ok (.iadd, 1) := by decide +kernel
theorem dX6_goRead_57 : decode cX6_goRead 57 = .ok (.aload_n 0, 1) := by decide +kernel
theorem dX6_goRead_58 : decode cX6_goRead 58 = .ok (.sipush 400, 3) := by decide +kernel
theorem dX6_goRead_61 : decode cX6_goRead 61 = .ok (.iaload, 1) := by decide +kernel
theorem dX6_goRead_62 : decode cX6_goRead 62 = .ok (.iastore, 1) := by decide +kernel
theorem dX6_goRead_63 : decode cX6_goRead 63 = .ok (.iconst 0, 1) := by decide +kernel
theorem dX6_goRead_64 : decode cX6_goRead 64 = .ok (.istore 5, 2) := by decide +kernel
theorem dX6_goRead_66 : decode cX6_goRead 66 = .ok (.iload 5, 2) := by decide +kernel
theorem dX6_goRead_68 : decode cX6_goRead 68 = .ok (.bipush 8, 2) := by decide +kernel
theorem dX6_goRead_70 : decode cX6_goRead 70 = .ok (.if_icmp .ge 26, 3) := by decide +kernel
theorem dX6_goRead_73 : decode cX6_goRead 73 = .ok (.aload_n 0, 1) := by decide +kernel
theorem dX6_goRead_74 : decode cX6_goRead 74 = .ok (.iload_n 3, 1) := by decide +kernel
theorem dX6_goRead_75 : decode cX6_goRead 75 = .ok (.bipush 7, 2) := by decide +kernel
theorem dX6_goRead_77 : decode cX6_goRead 77 = .ok (.iadd, 1) := by decide +kernel
theorem dX6_goRead_78 : decode cX6_goRead 78 = .ok (.iload 5, 2) := by decide +kernel
theorem dX6_goRead_80 : decode cX6_goRead 80 = .ok (.iadd, 1) := by decide +kernel
theorem dX6_goRead_81 : decode cX6_goRead 81 = .ok (.aload_n 0, 1) := by decide +kernel
theorem dX6_goRead_82 : decode cX6_goRead 82 = .ok (.sipush 402, 3) := by decide +kernel
theorem dX6_goRead_85 : decode cX6_goRead 85 = .ok (.iload 5, 2) := by decide +kernel
theorem dX6_goRead_87 : decode cX6_goRead 87 = .ok (.iadd, 1) := by decide +kernel
theorem dX6_goRead_88 : decode cX6_goRead 88 = .ok (.iaload, 1) := by decide +kernel
theorem dX6_goRead_89 : decode cX6_goRead 89 = .ok (.iastore, 1) := by decide +kernel
theorem dX6_goRead_90 : decode cX6_goRead 90 = .ok (.iinc 5 1, 3) := by decide +kernel
theorem dX6_goRead_93 : decode cX6_goRead 93 = .ok (.goto (-27), 3) := by decide +kernel
theorem dX6_goRead_96 : decode cX6_goRead 96 = .ok (.iload 4, 2) := by decide +kernel
theorem dX6_goRead_98 : decode cX6_goRead 98 = .ok (.ineg, 1) := by decide +kernel
theorem dX6_goRead_99 : decode cX6_goRead 99 = .ok (.ireturn, 1) := by decide +kernel
theorem dX6_goRead_100 : decode cX6_goRead 100 = .ok (.iconst 0, 1) := by decide +kernel
theorem dX6_goRead_101 : decode cX6_goRead 101 = .ok (.istore 5, 2) := by decide +kernel
theorem dX6_goRead_103 : decode cX6_goRead 103 = .ok (.iload 5, 2) := by decide +kernel
theorem dX6_goRead_105 : decode cX6_goRead 105 = .ok (.iload_n 2, 1) := by decide +kernel
theorem dX6_goRead_106 : decode cX6_goRead 106 = .ok (.if_icmp .ge 65, 3) := by decide +kernel
theorem dX6_goRead_109 : decode cX6_goRead 109 = .ok (.aload_n 0, 1) := by decide +kernel
theorem dX6_goRead_110 : decode cX6_goRead 110 = .ok (.iload_n 3, 1) := by decide +kernel
theorem dX6_goRead_111 : decode cX6_goRead 111 = .ok (.iconst 1, 1) := by decide +kernel
theorem dX6_goRead_112 : decode cX6_goRead 112 = .ok (.iadd, 1) := by decide +kernel
theorem dX6_goRead_113 : decode cX6_goRead 113 = .ok (.iaload, 1) := by decide +kernel
theorem dX6_goRead_114 : decode cX6_goRead 114 = .ok (.aload_n 0, 1) := by decide +kernel
theorem dX6_goRead_115 : decode cX6_goRead 115 = .ok (.sipush 401, 3) := by decide +kernel
theorem dX6_goRead_118 : decode cX6_goRead 118 = .ok (.iaload, 1) := by decide +kernel
theorem dX6_goRead_119 : decode cX6_goRead 119 = .ok (.if_icmp .ge 52, 3) := by decide +kernel
theorem dX6_goRead_122 : decode cX6_goRead 122 = .ok (.aload_n 0, 1) := by decide +kernel
theorem dX6_goRead_123 : decode cX6_goRead 123 = .ok (.iload_n 3, 1) := by decide +kernel
theorem dX6_goRead_124 : decode cX6_goRead 124 = .ok (.bipush 7, 2) := by decide +kernel
theorem dX6_goRead_126 : decode cX6_goRead 126 = .ok (.iadd, 1) := by decide +kernel
theorem dX6_goRead_127 : decode cX6_goRead 127 = .ok (.aload_n 0, 1) := by decide +kernel
theorem dX6_goRead_128 : decode cX6_goRead 128 = .ok (.aload_n 0, 1) := by decide +kernel
theorem dX6_goRead_129 : decode cX6_goRead 129 = .ok (.iload_n 3, 1) := by decide +kernel
theorem dX6_goRead_130 : decode cX6_goRead 130 = .ok (.iconst 1, 1) := by decide +kernel
theorem dX6_goRead_131 : decode cX6_goRead 131 = .ok (.iadd, 1) := by decide +kernel
theorem dX6_goRead_132 : decode cX6_goRead 132 = .ok (.iaload, 1) := by decide +kernel
theorem dX6_goRead_133 : decode cX6_goRead 133 = .ok (.invokestatic 97, 3) := by decide +kernel
theorem dX6_goRead_136 : decode cX6_goRead 136 = .ok (.iadd, 1) := by decide +kernel
theorem dX6_goRead_137 : decode cX6_goRead 137 = .ok (.aload_n 0, 1) := by decide +kernel
theorem dX6_goRead_138 : decode cX6_goRead 138 = .ok (.aload_n 0, 1) := by decide +kernel
theorem dX6_goRead_139 : decode cX6_goRead 139 = .ok (.iload_n 3, 1) := by decide +kernel
theorem dX6_goRead_140 : decode cX6_goRead 140 = .ok (.iconst 1, 1) := by decide +kernel
theorem dX6_goRead_141 : decode cX6_goRead 141 = .ok (.iadd, 1) := by decide +kernel
theorem dX6_goRead_142 : decode cX6_goRead 142 = .ok (.iaload, 1) := by decide +kernel
theorem dX6_goRead_143 : decode cX6_goRead 143 = .ok (.invokestatic 100, 3) := by decide +kernel
theorem dX6_goRead_146 : decode cX6_goRead 146 = .ok (.iastore, 1) := by decide +kernel
theorem dX6_goRead_147 : decode cX6_goRead 147 = .ok (.aload_n 0, 1) := by decide +kernel
theorem dX6_goRead_148 : decode cX6_goRead 148 = .ok (.iload_n 3, 1) := by decide +kernel
theorem dX6_goRead_149 : decode cX6_goRead 149 = .ok (.iconst 1, 1) := by decide +kernel
theorem dX6_goRead_150 : decode cX6_goRead 150 = .ok (.iadd, 1) := by decide +kernel
theorem dX6_goRead_151 : decode cX6_goRead 151 = .ok (.dup2, 1) := by decide +kernel
theorem dX6_goRead_152 : decode cX6_goRead 152 = .ok (.iaload, 1) := by decide +kernel
theorem dX6_goRead_153 : decode cX6_goRead 153 = .ok (.iconst 1, 1) := by decide +kernel
theorem dX6_goRead_154 : decode cX6_goRead 154 = .ok (.iadd, 1) := by decide +kernel
theorem dX6_goRead_155 : decode cX6_goRead 155 = .ok (.iastore, 1) := by decide +kernel
theorem dX6_goRead_156 : decode cX6_goRead 156 = .ok (.aload_n 0, 1) := by decide +kernel
theorem dX6_goRead_157 : decode cX6_goRead 157 = .ok (.iload_n 3, 1) := by decide +kernel
theorem dX6_goRead_158 : decode cX6_goRead 158 = .ok (.iconst 3, 1) := by decide +kernel
theorem dX6_goRead_159 : decode cX6_goRead 159 = .ok (.iadd, 1) := by decide +kernel
theorem dX6_goRead_160 : decode cX6_goRead 160 = .ok (.dup2, 1) := by decide +kernel
theorem dX6_goRead_161 : decode cX6_goRead 161 = .ok (.iaload, 1) := by decide +kernel
theorem dX6_goRead_162 : decode cX6_goRead 162 = .ok (.iconst 1, 1) := by decide +kernel
theorem dX6_goRead_163 : decode cX6_goRead 163 = .ok (.iadd, 1) := by decide +kernel
theorem dX6_goRead_164 : decode cX6_goRead 164 = .ok (.iastore, 1) := by decide +kernel
theorem dX6_goRead_165 : decode cX6_goRead 165 = .ok (.iinc 5 1, 3) := by decide +kernel
theorem dX6_goRead_168 : decode cX6_goRead 168 = .ok (.goto (-65), 3) := by decide +kernel
theorem dX6_goRead_171 : decode cX6_goRead 171 = .ok (.iload 5, 2) := by decide +kernel
theorem dX6_goRead_173 : decode cX6_goRead 173 = .ok (.ireturn, 1) := by decide +kernel
def PL_M_goRead_103 : Nat → Int32 → Int32 → Int32 → Int32 → Int32 → (Nat → Int32) → (Int32 → (Nat → Int32) → Prop) → Prop
  | 0, _, _, _, _, _, _, _ => False
  | n + 1, x1, x2, y2, y3, y5, v0, Q => ((y2 ≤ y5 → Q y5 v0) ∧ (¬ y2 ≤ y5 → vp_in (y3 + 1) 621 ∧ (vp_in 401 621 ∧ ((((v0 (Int32.toNatClampNeg 401)) ≤ (v0 (Int32.toNatClampNeg (y3 + 1))) → Q y5 v0) ∧ (¬ (v0 (Int32.toNatClampNeg 401)) ≤ (v0 (Int32.toNatClampNeg (y3 + 1))) → vp_in (y3 + 1) 621 ∧ (P_M_key (v0 (Int32.toNatClampNeg (y3 + 1))) v0 (fun r22_ => (vp_in (y3 + 1) 621 ∧ (P_M_value (v0 (Int32.toNatClampNeg (y3 + 1))) v0 (fun r27_ => (vp_in ((y3 + 7) + r22_) 621 ∧ (∀ v36_, v36_ = (upd v0 (Int32.toNatClampNeg ((y3 + 7) + r22_)) r27_) → (vp_in (y3 + 1) 621 ∧ (vp_in (y3 + 1) 621 ∧ (∀ v45_, v45_ = (upd v36_ (Int32.toNatClampNeg (y3 + 1)) ((v36_ (Int32.toNatClampNeg (y3 + 1))) + 1)) → (vp_in (y3 + 3) 621 ∧ (vp_in (y3 + 3) 621 ∧ (∀ v54_, v54_ = (upd v45_ (Int32.toNatClampNeg (y3 + 3)) ((v45_ (Int32.toNatClampNeg (y3 + 3))) + 1)) → ((fun y2 y3 y5 v0 => PL_M_goRead_103 n x1 x2 y2 y3 y5 v0  Q) y2 y3 (y5 + 1) v54_))))))))))))))))))))
def PL_M_goRead_66 : Nat → Int32 → Int32 → Int32 → Int32 → Int32 → (Nat → Int32) → (Int32 → (Nat → Int32) → Prop) → Prop
  | 0, _, _, _, _, _, _, _ => False
  | n + 1, x1, x2, y3, y4, y5, v0, Q => ((8 ≤ y5 → Q (-y4) v0) ∧ (¬ 8 ≤ y5 → vp_in (402 + y5) 621 ∧ (vp_in ((y3 + 7) + y5) 621 ∧ (∀ v92_, v92_ = (upd v0 (Int32.toNatClampNeg ((y3 + 7) + y5)) (v0 (Int32.toNatClampNeg (402 + y5)))) → ((fun y3 y4 y5 v0 => PL_M_goRead_66 n x1 x2 y3 y4 y5 v0  Q) y3 y4 (y5 + 1) v92_)))))
def P_M_goRead (x1 : Int32) (x2 : Int32) (v0 : (Nat → Int32)) (Q : Int32 → (Nat → Int32) → Prop) : Prop := P_M_reader x1 (fun r1_ => (vp_in 616 621 ∧ (vp_in (r1_ + 5) 621 ∧ (∀ v11_, v11_ = (upd v0 (Int32.toNatClampNeg (r1_ + 5)) (v0 (Int32.toNatClampNeg 616))) → (vp_in 400 621 ∧ (vp_in (r1_ + 1) 621 ∧ (((((v11_ (Int32.toNatClampNeg 400)) - (v11_ (Int32.toNatClampNeg (r1_ + 1)))) ≤ 0 → (∃ n57_, PL_M_goRead_103 n57_ x1 x2 x2 r1_ 0 v11_ Q)) ∧ (¬ ((v11_ (Int32.toNatClampNeg 400)) - (v11_ (Int32.toNatClampNeg (r1_ + 1)))) ≤ 0 → vp_in (r1_ + 4) 621 ∧ (vp_in (r1_ + 4) 621 ∧ (∀ v64_, v64_ = (upd v11_ (Int32.toNatClampNeg (r1_ + 4)) ((v11_ (Int32.toNatClampNeg (r1_ + 4))) + ((v11_ (Int32.toNatClampNeg 400)) - (v11_ (Int32.toNatClampNeg (r1_ + 1)))))) → (vp_in 620 621 ∧ (vp_in 620 621 ∧ (∀ v73_, v73_ = (upd v64_ (Int32.toNatClampNeg 620) ((v64_ (Int32.toNatClampNeg 620)) + ((v11_ (Int32.toNatClampNeg 400)) - (v11_ (Int32.toNatClampNeg (r1_ + 1)))))) → (vp_in 400 621 ∧ (vp_in (r1_ + 1) 621 ∧ (∀ v82_, v82_ = (upd v73_ (Int32.toNatClampNeg (r1_ + 1)) (v73_ (Int32.toNatClampNeg 400))) → ((∃ n95_, PL_M_goRead_66 n95_ x1 x2 r1_ ((v11_ (Int32.toNatClampNeg 400)) - (v11_ (Int32.toNatClampNeg (r1_ + 1)))) 0 v82_ Q)))))))))))))))))))
set_option maxRecDepth 100000 in
theorem s_M_goRead {l : Launch} {D : zD} {B : Nat} {sa : Nat → Nat} (hfl : l.stackTraces = false) {z : Nat} {G : zG} {b0 : Nat} {x1 : Int32} {x2 : Int32} {v0 : (Nat → Int32)} {Q : Int32 → (Nat → Int32) → Prop} (h0 : G b0 = some (zia 621 v0)) (h : P_M_goRead x1 x2 v0 Q) : zSp l D B sa yX6_goRead cX6_goRead 6 (some .int) 1 21 0 0 [.ref b0, .int x1, .int x2] z G (zRi fun r z' G' => z = z' ∧ ∃ w, G' b0 = some (zia 621 w) ∧ Fr b0 1 G G' ∧ Q r w) := by
  unfold P_M_goRead at h
  refine z_ofW (by decide +kernel) hfl [some (.ref b0), some (.int x1), some (.int x2), none, none, none] rfl (Nat.le_of_ble_eq_true rfl) (fun p e s m args below meth c O hret hlk hnm => ?_)
  have O : zO p l s m args c D B sa 6 cX6_goRead RX6 := O
  have HL103 : ∀ (n9 : Nat)    (y2 : Int32) (y3 : Int32) (y5 : Int32) (v0 : (Nat → Int32)) (G9 : zG) (g0 : G9 b0 = some (zia 621 v0)) (gF : Fr b0 1 G G9) (h : PL_M_goRead_103 n9 x1 x2 y2 y3 y5 v0 Q), zT p l e (zrm 1 21 0 0) s m args below meth c (zEnd below D B (zRi fun r z' G' => z = z' ∧ ∃ w, G' b0 = some (zia 621 w) ∧ Fr b0 1 G G' ∧ Q r w) args s 0 0) D B 6 0 0 103 [] [some (.ref b0), none, some (.int y2), some (.int y3), none, some (.int y5)] z G9 := by
    intro n9   
    induction n9 with
    | zero =>
      intro _ _ _ _ _ _ _ h
      exact (h : False).elim
    | succ n ih =>
      intro y2 y3 y5 v0 G9 g0 gF h
      rw [PL_M_goRead_103] at h
      refine z_iload O dX6_goRead_103 rfl ?_
      refine z_iload_n O dX6_goRead_105 rfl rfl ?_
      refine z_icmp_ge (tgt := 171) O dX6_goRead_106 (by decide) (fun c17_ => ?_) (fun c17_ => ?_)
      · have h := h.1 c17_
        refine z_iload O dX6_goRead_171 rfl ?_
        exact z_iret O hret hlk dX6_goRead_173 (Nat.le_of_ble_eq_true rfl) (Nat.le_of_ble_eq_true rfl) ⟨_, rfl, rfl, _, g0, gF, h⟩
      · have h := h.2 c17_
        refine z_aload_n O dX6_goRead_109 rfl rfl ?_
        refine z_iload_n O dX6_goRead_110 rfl rfl ?_
        refine z_iconst (v := 1) O dX6_goRead_111 (by decide) ?_
        refine z_iadd O dX6_goRead_112 ?_
        obtain ⟨q18_, h⟩ := h
        refine z_iald O dX6_goRead_113 g0 q18_ ?_
        refine z_aload_n O dX6_goRead_114 rfl rfl ?_
        refine z_sipush (v := 401) O dX6_goRead_115 (by decide) ?_
        obtain ⟨q19_, h⟩ := h
        refine z_iald O dX6_goRead_118 g0 q19_ ?_
        refine z_icmp_ge (tgt := 171) O dX6_goRead_119 (by decide) (fun c20_ => ?_) (fun c20_ => ?_)
        · have h := h.1 c20_
          refine z_iload O dX6_goRead_171 rfl ?_
          exact z_iret O hret hlk dX6_goRead_173 (Nat.le_of_ble_eq_true rfl) (Nat.le_of_ble_eq_true rfl) ⟨_, rfl, rfl, _, g0, gF, h⟩
        · have h := h.2 c20_
          refine z_aload_n O dX6_goRead_122 rfl rfl ?_
          refine z_iload_n O dX6_goRead_123 rfl rfl ?_
          refine z_bipush (v := 7) O dX6_goRead_124 (by decide) ?_
          refine z_iadd O dX6_goRead_126 ?_
          refine z_aload_n O dX6_goRead_127 rfl rfl ?_
          refine z_aload_n O dX6_goRead_128 rfl rfl ?_
          refine z_iload_n O dX6_goRead_129 rfl rfl ?_
          refine z_iconst (v := 1) O dX6_goRead_130 (by decide) ?_
          refine z_iadd O dX6_goRead_131 ?_
          obtain ⟨q21_, h⟩ := h
          refine z_iald O dX6_goRead_132 g0 q21_ ?_
          refine z_callSi (As := [.ref b0, .int (v0 (Int32.toNatClampNeg (y3 + 1)))]) (st := [.int (y3 + 7), .ref b0]) O (s_M_key hfl g0 h) wy_X6_key wl_RX6_97 dX6_goRead_133 rfl rfl ⟨Nat.le_of_ble_eq_true rfl, Nat.le_of_ble_eq_true rfl⟩ (Nat.le_of_ble_eq_true rfl) ⟨Nat.le_of_ble_eq_true rfl, Nat.le_of_ble_eq_true rfl⟩ (fun r22_ z23_ G24_ hq25_ => ?_)
          obtain ⟨rfl, rfl, h⟩ := hq25_
          refine z_iadd O dX6_goRead_136 ?_
          refine z_aload_n O dX6_goRead_137 rfl rfl ?_
          refine z_aload_n O dX6_goRead_138 rfl rfl ?_
          refine z_iload_n O dX6_goRead_139 rfl rfl ?_
          refine z_iconst (v := 1) O dX6_goRead_140 (by decide) ?_
          refine z_iadd O dX6_goRead_141 ?_
          obtain ⟨q26_, h⟩ := h
          refine z_iald O dX6_goRead_142 g0 q26_ ?_
          refine z_callSi (As := [.ref b0, .int (v0 (Int32.toNatClampNeg (y3 + 1)))]) (st := [.int ((y3 + 7) + r22_), .ref b0]) O (s_M_value hfl g0 h) wy_X6_value wl_RX6_100 dX6_goRead_143 rfl rfl ⟨Nat.le_of_ble_eq_true rfl, Nat.le_of_ble_eq_true rfl⟩ (Nat.le_of_ble_eq_true rfl) ⟨Nat.le_of_ble_eq_true rfl, Nat.le_of_ble_eq_true rfl⟩ (fun r27_ z28_ G29_ hq30_ => ?_)
          obtain ⟨rfl, rfl, h⟩ := hq30_
          obtain ⟨q31_, h⟩ := h
          refine y_iast O dX6_goRead_146 g0 q31_ (fun G32_ hw33_ => ?_)
          have k34_ := hw33_.1
          have f35_ := hw33_.fr
          obtain ⟨v36_, ev36_⟩ : ∃ w, w = (upd v0 (Int32.toNatClampNeg ((y3 + 7) + r22_)) r27_) := ⟨_, rfl⟩
          have h := h v36_ ev36_
          have k37_ : G32_ b0 = some (zia 621 v36_) := by rw [ev36_]; exact k34_
          have F38_ : Fr b0 1 G G32_ := Fr.trans gF f35_
          refine z_aload_n O dX6_goRead_147 rfl rfl ?_
          refine z_iload_n O dX6_goRead_148 rfl rfl ?_
          refine z_iconst (v := 1) O dX6_goRead_149 (by decide) ?_
          refine z_iadd O dX6_goRead_150 ?_
          refine z_dup2 O dX6_goRead_151 rfl rfl ?_
          obtain ⟨q39_, h⟩ := h
          refine z_iald O dX6_goRead_152 k37_ q39_ ?_
          refine z_iconst (v := 1) O dX6_goRead_153 (by decide) ?_
          refine z_iadd O dX6_goRead_154 ?_
          obtain ⟨q40_, h⟩ := h
          refine y_iast O dX6_goRead_155 k37_ q40_ (fun G41_ hw42_ => ?_)
          have k43_ := hw42_.1
          have f44_ := hw42_.fr
          obtain ⟨v45_, ev45_⟩ : ∃ w, w = (upd v36_ (Int32.toNatClampNeg (y3 + 1)) ((v36_ (Int32.toNatClampNeg (y3 + 1))) + 1)) := ⟨_, rfl⟩
          have h := h v45_ ev45_
          have k46_ : G41_ b0 = some (zia 621 v45_) := by rw [ev45_]; exact k43_
          have F47_ : Fr b0 1 G G41_ := Fr.trans F38_ f44_
          refine z_aload_n O dX6_goRead_156 rfl rfl ?_
          refine z_iload_n O dX6_goRead_157 rfl rfl ?_
          refine z_iconst (v := 3) O dX6_goRead_158 (by decide) ?_
          refine z_iadd O dX6_goRead_159 ?_
          refine z_dup2 O dX6_goRead_160 rfl rfl ?_
          obtain ⟨q48_, h⟩ := h
          refine z_iald O dX6_goRead_161 k46_ q48_ ?_
          refine z_iconst (v := 1) O dX6_goRead_162 (by decide) ?_
          refine z_iadd O dX6_goRead_163 ?_
          obtain ⟨q49_, h⟩ := h
          refine y_iast O dX6_goRead_164 k46_ q49_ (fun G50_ hw51_ => ?_)
          have k52_ := hw51_.1
          have f53_ := hw51_.fr
          obtain ⟨v54_, ev54_⟩ : ∃ w, w = (upd v45_ (Int32.toNatClampNeg (y3 + 3)) ((v45_ (Int32.toNatClampNeg (y3 + 3))) + 1)) := ⟨_, rfl⟩
          have h := h v54_ ev54_
          have k55_ : G50_ b0 = some (zia 621 v54_) := by rw [ev54_]; exact k52_
          have F56_ : Fr b0 1 G G50_ := Fr.trans F47_ f53_
          refine z_iinc (v := (y5 + 1)) (L' := [some (.ref b0), none, some (.int y2), some (.int y3), none, some (.int (y5 + 1))]) O dX6_goRead_165 rfl (by first | rfl | decide) (by decide) rfl ?_
          refine z_goto (tgt := 103) O dX6_goRead_168 (by decide) ?_
          exact z_subL (L' := [some (.ref b0), none, some (.int y2), some (.int y3), none, some (.int (y5 + 1))]) (zLe.sub (And.intro rfl (And.intro rfl (And.intro rfl (And.intro rfl True.intro))))) (ih y2 y3 (y5 + 1) v54_ G50_ k55_ F56_ h)
  have HL66 : ∀ (n9 : Nat)    (y3 : Int32) (y4 : Int32) (y5 : Int32) (v0 : (Nat → Int32)) (G9 : zG) (g0 : G9 b0 = some (zia 621 v0)) (gF : Fr b0 1 G G9) (h : PL_M_goRead_66 n9 x1 x2 y3 y4 y5 v0 Q), zT p l e (zrm 1 21 0 0) s m args below meth c (zEnd below D B (zRi fun r z' G' => z = z' ∧ ∃ w, G' b0 = some (zia 621 w) ∧ Fr b0 1 G G' ∧ Q r w) args s 0 0) D B 6 0 0 66 [] [some (.ref b0), none, none, some (.int y3), some (.int y4), some (.int y5)] z G9 := by
    intro n9   
    induction n9 with
    | zero =>
      intro _ _ _ _ _ _ _ h
      exact (h : False).elim
    | succ n ih =>
      intro y3 y4 y5 v0 G9 g0 gF h
      rw [PL_M_goRead_66] at h
      refine z_iload O dX6_goRead_66 rfl ?_
      refine z_bipush (v := 8) O dX6_goRead_68 (by decide) ?_
      refine z_icmp_ge (tgt := 96) O dX6_goRead_70 (by decide) (fun c85_ => ?_) (fun c85_ => ?_)
      · have h := h.1 c85_
        refine z_iload O dX6_goRead_96 rfl ?_
        refine z_ineg O dX6_goRead_98 ?_
        exact z_iret O hret hlk dX6_goRead_99 (Nat.le_of_ble_eq_true rfl) (Nat.le_of_ble_eq_true rfl) ⟨_, rfl, rfl, _, g0, gF, h⟩
      · have h := h.2 c85_
        refine z_aload_n O dX6_goRead_73 rfl rfl ?_
        refine z_iload_n O dX6_goRead_74 rfl rfl ?_
        refine z_bipush (v := 7) O dX6_goRead_75 (by decide) ?_
        refine z_iadd O dX6_goRead_77 ?_
        refine z_iload O dX6_goRead_78 rfl ?_
        refine z_iadd O dX6_goRead_80 ?_
        refine z_aload_n O dX6_goRead_81 rfl rfl ?_
        refine z_sipush (v := 402) O dX6_goRead_82 (by decide) ?_
        refine z_iload O dX6_goRead_85 rfl ?_
        refine z_iadd O dX6_goRead_87 ?_
        obtain ⟨q86_, h⟩ := h
        refine z_iald O dX6_goRead_88 g0 q86_ ?_
        obtain ⟨q87_, h⟩ := h
        refine y_iast O dX6_goRead_89 g0 q87_ (fun G88_ hw89_ => ?_)
        have k90_ := hw89_.1
        have f91_ := hw89_.fr
        obtain ⟨v92_, ev92_⟩ : ∃ w, w = (upd v0 (Int32.toNatClampNeg ((y3 + 7) + y5)) (v0 (Int32.toNatClampNeg (402 + y5)))) := ⟨_, rfl⟩
        have h := h v92_ ev92_
        have k93_ : G88_ b0 = some (zia 621 v92_) := by rw [ev92_]; exact k90_
        have F94_ : Fr b0 1 G G88_ := Fr.trans gF f91_
        refine z_iinc (v := (y5 + 1)) (L' := [some (.ref b0), none, none, some (.int y3), some (.int y4), some (.int (y5 + 1))]) O dX6_goRead_90 rfl (by first | rfl | decide) (by decide) rfl ?_
        refine z_goto (tgt := 66) O dX6_goRead_93 (by decide) ?_
        exact z_subL (L' := [some (.ref b0), none, none, some (.int y3), some (.int y4), some (.int (y5 + 1))]) (zLe.sub (And.intro rfl (And.intro rfl (And.intro rfl (And.intro rfl True.intro))))) (ih y3 y4 (y5 + 1) v92_ G88_ k93_ F94_ h)
  refine z_iload_n O dX6_goRead_0 rfl rfl ?_
  refine z_callSi (As := [.int x1]) (st := []) O (s_M_reader hfl h) wy_X6_reader wl_RX6_65 dX6_goRead_1 rfl rfl ⟨Nat.le_of_ble_eq_true rfl, Nat.le_of_ble_eq_true rfl⟩ (Nat.le_of_ble_eq_true rfl) ⟨Nat.le_of_ble_eq_true rfl, Nat.le_of_ble_eq_true rfl⟩ (fun r1_ z2_ G3_ hq4_ => ?_)
  obtain ⟨rfl, rfl, h⟩ := hq4_
  refine z_istore_n (L' := [some (.ref b0), some (.int x1), some (.int x2), some (.int r1_), none, none]) O dX6_goRead_4 rfl (by decide) rfl ?_
  refine z_aload_n O dX6_goRead_5 rfl rfl ?_
  refine z_iload_n O dX6_goRead_6 rfl rfl ?_
  refine z_iconst (v := 5) O dX6_goRead_7 (by decide) ?_
  refine z_iadd O dX6_goRead_8 ?_
  refine z_aload_n O dX6_goRead_9 rfl rfl ?_
  refine z_sipush (v := 616) O dX6_goRead_10 (by decide) ?_
  obtain ⟨q5_, h⟩ := h
  refine z_iald O dX6_goRead_13 h0 q5_ ?_
  obtain ⟨q6_, h⟩ := h
  refine y_iast O dX6_goRead_14 h0 q6_ (fun G7_ hw8_ => ?_)
  have k9_ := hw8_.1
  have f10_ := hw8_.fr
  obtain ⟨v11_, ev11_⟩ : ∃ w, w = (upd v0 (Int32.toNatClampNeg (r1_ + 5)) (v0 (Int32.toNatClampNeg 616))) := ⟨_, rfl⟩
  have h := h v11_ ev11_
  have k12_ : G7_ b0 = some (zia 621 v11_) := by rw [ev11_]; exact k9_
  have F13_ : Fr b0 1 G G7_ := Fr.trans Fr.rf f10_
  refine z_aload_n O dX6_goRead_15 rfl rfl ?_
  refine z_sipush (v := 400) O dX6_goRead_16 (by decide) ?_
  obtain ⟨q14_, h⟩ := h
  refine z_iald O dX6_goRead_19 k12_ q14_ ?_
  refine z_aload_n O dX6_goRead_20 rfl rfl ?_
  refine z_iload_n O dX6_goRead_21 rfl rfl ?_
  refine z_iconst (v := 1) O dX6_goRead_22 (by decide) ?_
  refine z_iadd O dX6_goRead_23 ?_
  obtain ⟨q15_, h⟩ := h
  refine z_iald O dX6_goRead_24 k12_ q15_ ?_
  refine z_isub O dX6_goRead_25 ?_
  refine z_istore (L' := [some (.ref b0), some (.int x1), some (.int x2), some (.int r1_), some (.int ((v11_ (Int32.toNatClampNeg 400)) - (v11_ (Int32.toNatClampNeg (r1_ + 1))))), none]) O dX6_goRead_26 (by decide) rfl ?_
  refine z_iload O dX6_goRead_28 rfl ?_
  refine z_if_le (tgt := 100) O dX6_goRead_30 (by decide) (fun c16_ => ?_) (fun c16_ => ?_)
  · have h := h.1 c16_
    refine z_iconst (v := 0) O dX6_goRead_100 (by decide) ?_
    refine z_istore (L' := [some (.ref b0), some (.int x1), some (.int x2), some (.int r1_), some (.int ((v11_ (Int32.toNatClampNeg 400)) - (v11_ (Int32.toNatClampNeg (r1_ + 1))))), some (.int 0)]) O dX6_goRead_101 (by decide) rfl ?_
    obtain ⟨n57_, h⟩ := h
    exact z_subL (L' := [some (.ref b0), none, some (.int x2), some (.int r1_), none, some (.int 0)]) (zLe.sub (And.intro rfl (And.intro rfl (And.intro rfl (And.intro rfl True.intro))))) (HL103 n57_ x2 r1_ 0 v11_ G7_ k12_ F13_ h)
  · have h := h.2 c16_
    refine z_aload_n O dX6_goRead_33 rfl rfl ?_
    refine z_iload_n O dX6_goRead_34 rfl rfl ?_
    refine z_iconst (v := 4) O dX6_goRead_35 (by decide) ?_
    refine z_iadd O dX6_goRead_36 ?_
    refine z_dup2 O dX6_goRead_37 rfl rfl ?_
    obtain ⟨q58_, h⟩ := h
    refine z_iald O dX6_goRead_38 k12_ q58_ ?_
    refine z_iload O dX6_goRead_39 rfl ?_
    refine z_iadd O dX6_goRead_41 ?_
    obtain ⟨q59_, h⟩ := h
    refine y_iast O dX6_goRead_42 k12_ q59_ (fun G60_ hw61_ => ?_)
    have k62_ := hw61_.1
    have f63_ := hw61_.fr
    obtain ⟨v64_, ev64_⟩ : ∃ w, w = (upd v11_ (Int32.toNatClampNeg (r1_ + 4)) ((v11_ (Int32.toNatClampNeg (r1_ + 4))) + ((v11_ (Int32.toNatClampNeg 400)) - (v11_ (Int32.toNatClampNeg (r1_ + 1)))))) := ⟨_, rfl⟩
    have h := h v64_ ev64_
    have k65_ : G60_ b0 = some (zia 621 v64_) := by rw [ev64_]; exact k62_
    have F66_ : Fr b0 1 G G60_ := Fr.trans F13_ f63_
    refine z_aload_n O dX6_goRead_43 rfl rfl ?_
    refine z_sipush (v := 620) O dX6_goRead_44 (by decide) ?_
    refine z_dup2 O dX6_goRead_47 rfl rfl ?_
    obtain ⟨q67_, h⟩ := h
    refine z_iald O dX6_goRead_48 k65_ q67_ ?_
    refine z_iload O dX6_goRead_49 rfl ?_
    refine z_iadd O dX6_goRead_51 ?_
    obtain ⟨q68_, h⟩ := h
    refine y_iast O dX6_goRead_52 k65_ q68_ (fun G69_ hw70_ => ?_)
    have k71_ := hw70_.1
    have f72_ := hw70_.fr
    obtain ⟨v73_, ev73_⟩ : ∃ w, w = (upd v64_ (Int32.toNatClampNeg 620) ((v64_ (Int32.toNatClampNeg 620)) + ((v11_ (Int32.toNatClampNeg 400)) - (v11_ (Int32.toNatClampNeg (r1_ + 1)))))) := ⟨_, rfl⟩
    have h := h v73_ ev73_
    have k74_ : G69_ b0 = some (zia 621 v73_) := by rw [ev73_]; exact k71_
    have F75_ : Fr b0 1 G G69_ := Fr.trans F66_ f72_
    refine z_aload_n O dX6_goRead_53 rfl rfl ?_
    refine z_iload_n O dX6_goRead_54 rfl rfl ?_
    refine z_iconst (v := 1) O dX6_goRead_55 (by decide) ?_
    refine z_iadd O dX6_goRead_56 ?_
    refine z_aload_n O dX6_goRead_57 rfl rfl ?_
    refine z_sipush (v := 400) O dX6_goRead_58 (by decide) ?_
    obtain ⟨q76_, h⟩ := h
    refine z_iald O dX6_goRead_61 k74_ q76_ ?_
    obtain ⟨q77_, h⟩ := h
    refine y_iast O dX6_goRead_62 k74_ q77_ (fun G78_ hw79_ => ?_)
    have k80_ := hw79_.1
    have f81_ := hw79_.fr
    obtain ⟨v82_, ev82_⟩ : ∃ w, w = (upd v73_ (Int32.toNatClampNeg (r1_ + 1)) (v73_ (Int32.toNatClampNeg 400))) := ⟨_, rfl⟩
    have h := h v82_ ev82_
    have k83_ : G78_ b0 = some (zia 621 v82_) := by rw [ev82_]; exact k80_
    have F84_ : Fr b0 1 G G78_ := Fr.trans F75_ f81_
    refine z_iconst (v := 0) O dX6_goRead_63 (by decide) ?_
    refine z_istore (L' := [some (.ref b0), some (.int x1), some (.int x2), some (.int r1_), some (.int ((v11_ (Int32.toNatClampNeg 400)) - (v11_ (Int32.toNatClampNeg (r1_ + 1))))), some (.int 0)]) O dX6_goRead_64 (by decide) rfl ?_
    obtain ⟨n95_, h⟩ := h
    exact z_subL (L' := [some (.ref b0), none, none, some (.int r1_), some (.int ((v11_ (Int32.toNatClampNeg 400)) - (v11_ (Int32.toNatClampNeg (r1_ + 1))))), some (.int 0)]) (zLe.sub (And.intro rfl (And.intro rfl (And.intro rfl (And.intro rfl True.intro))))) (HL66 n95_ r1_ ((v11_ (Int32.toNatClampNeg 400)) - (v11_ (Int32.toNatClampNeg (r1_ + 1)))) 0 v82_ G78_ k83_ F84_ h)

theorem dX6_readers_0 : decode cX6_readers 0 = .ok (.iconst 0, 1) := by decide +kernel
theorem dX6_readers_1 : decode cX6_readers 1 = .ok (.istore_n 1, 1) := by decide +kernel
theorem dX6_readers_2 : decode cX6_readers 2 = .ok (.iconst 0, 1) := by decide +kernel
theorem dX6_readers_3 : decode cX6_readers 3 = .ok (.istore_n 2, 1) := by decide +kernel
theorem dX6_readers_4 : decode cX6_readers 4 = .ok (.iload_n 2, 1) := by decide +kernel
theorem dX6_readers_5 : decode cX6_readers 5 = .ok (.bipush 8, 2) := by decide +kernel
theorem dX6_readers_7 : decode cX6_readers 7 = .ok (.if_icmp .ge 20, 3) := by decide +kernel
theorem dX6_readers_10 : decode cX6_readers 10 = .ok (.iload_n 1, 1) := by decide +kernel
theorem dX6_readers_11 : decode cX6_readers 11 = .ok (.aload_n 0, 1) := by decide +kernel
theorem dX6_readers_12 : decode cX6_readers 12 = .ok (.iload_n 2, 1) := by decide +kernel
theorem dX6_readers_13 : decode cX6_readers 13 = .ok (.invokestatic 65, 3) := by decide +kernel
theorem dX6_readers_16 : decode cX6_readers 16 = .ok (.iconst 0, 1) := by decide +kernel
theorem dX6_readers_17 : decode cX6_readers 17 = .ok (.iadd, 1) := by decide +kernel
theorem dX6_readers_18 : decode cX6_readers 18 = .ok (.iaload, 1) := by decide +kernel
theorem dX6_readers_19 : decode cX6_readers 19 = .ok (.iadd, 1) := by decide +kernel
theorem dX6_readers_20 : decode cX6_readers 20 = .ok (.istore_n 1, 1) := by decide +kernel
theorem dX6_readers_21 : decode cX6_readers 21 = .ok (.iinc 2 1, 3) := by decide +kernel
theorem dX6_readers_24 : decode cX6_readers 24 = .ok (.goto (-20), 3) := by decide +kernel
theorem dX6_readers_27 : decode cX6_readers 27 = .ok (.iload_n 1, 1) := by decide +kernel
theorem dX6_readers_28 : decode cX6_readers 28 = .ok (.ireturn, 1) := by decide +kernel
def PL_M_readers_4 : Nat → (Nat → Int32) → Int32 → Int32 → (Int32 → Prop) → Prop
  | 0, _, _, _, _ => False
  | n + 1, v0, y1, y2, Q => ((8 ≤ y2 → Q y1) ∧ (¬ 8 ≤ y2 → P_M_reader y2 (fun r2_ => (vp_in (r2_ + 0) 621 ∧ ((fun y1 y2 => PL_M_readers_4 n v0 y1 y2  Q) (y1 + (v0 (Int32.toNatClampNeg (r2_ + 0)))) (y2 + 1))))))
def P_M_readers (v0 : (Nat → Int32)) (Q : Int32 → Prop) : Prop := (∃ n7_, PL_M_readers_4 n7_ v0 0 0 Q)
set_option maxRecDepth 100000 in
theorem s_M_readers {l : Launch} {D : zD} {B : Nat} {sa : Nat → Nat} (hfl : l.stackTraces = false) {z : Nat} {G : zG} {b0 : Nat} {v0 : (Nat → Int32)} {Q : Int32 → Prop} (h0 : G b0 = some (zia 621 v0)) (h : P_M_readers v0 Q) : zSp l D B sa yX6_readers cX6_readers 3 (some .int) 1 20 0 0 [.ref b0] z G (zRi fun r z' G' => z = z' ∧ G = G' ∧ Q r) := by
  unfold P_M_readers at h
  refine z_ofW (by decide +kernel) hfl [some (.ref b0), none, none] rfl (Nat.le_of_ble_eq_true rfl) (fun p e s m args below meth c O hret hlk hnm => ?_)
  have O : zO p l s m args c D B sa 3 cX6_readers RX6 := O
  have HL4 : ∀ (n9 : Nat)    (y1 : Int32) (y2 : Int32) (h : PL_M_readers_4 n9 v0 y1 y2 Q), zT p l e (zrm 1 20 0 0) s m args below meth c (zEnd below D B (zRi fun r z' G' => z = z' ∧ G = G' ∧ Q r) args s 0 0) D B 3 0 0 4 [] [some (.ref b0), some (.int y1), some (.int y2)] z G := by
    intro n9   
    induction n9 with
    | zero =>
      intro _ _ h
      exact (h : False).elim
    | succ n ih =>
      intro y1 y2 h
      rw [PL_M_readers_4] at h
      refine z_iload_n O dX6_readers_4 rfl rfl ?_
      refine z_bipush (v := 8) O dX6_readers_5 (by decide) ?_
      refine z_icmp_ge (tgt := 27) O dX6_readers_7 (by decide) (fun c1_ => ?_) (fun c1_ => ?_)
      · have h := h.1 c1_
        refine z_iload_n O dX6_readers_27 rfl rfl ?_
        exact z_iret O hret hlk dX6_readers_28 (Nat.le_of_ble_eq_true rfl) (Nat.le_of_ble_eq_true rfl) ⟨_, rfl, rfl, rfl, h⟩
      · have h := h.2 c1_
        refine z_iload_n O dX6_readers_10 rfl rfl ?_
        refine z_aload_n O dX6_readers_11 rfl rfl ?_
        refine z_iload_n O dX6_readers_12 rfl rfl ?_
        refine z_callSi (As := [.int y2]) (st := [.ref b0, .int y1]) O (s_M_reader hfl h) wy_X6_reader wl_RX6_65 dX6_readers_13 rfl rfl ⟨Nat.le_of_ble_eq_true rfl, Nat.le_of_ble_eq_true rfl⟩ (Nat.le_of_ble_eq_true rfl) ⟨Nat.le_of_ble_eq_true rfl, Nat.le_of_ble_eq_true rfl⟩ (fun r2_ z3_ G4_ hq5_ => ?_)
        obtain ⟨rfl, rfl, h⟩ := hq5_
        refine z_iconst (v := 0) O dX6_readers_16 (by decide) ?_
        refine z_iadd O dX6_readers_17 ?_
        obtain ⟨q6_, h⟩ := h
        refine z_iald O dX6_readers_18 h0 q6_ ?_
        refine z_iadd O dX6_readers_19 ?_
        refine z_istore_n (L' := [some (.ref b0), some (.int (y1 + (v0 (Int32.toNatClampNeg (r2_ + 0))))), some (.int y2)]) O dX6_readers_20 rfl (by decide) rfl ?_
        refine z_iinc (v := (y2 + 1)) (L' := [some (.ref b0), some (.int (y1 + (v0 (Int32.toNatClampNeg (r2_ + 0))))), some (.int (y2 + 1))]) O dX6_readers_21 rfl (by first | rfl | decide) (by decide) rfl ?_
        refine z_goto (tgt := 4) O dX6_readers_24 (by decide) ?_
        exact z_subL (L' := [some (.ref b0), some (.int (y1 + (v0 (Int32.toNatClampNeg (r2_ + 0))))), some (.int (y2 + 1))]) (zLe.sub (And.intro rfl (And.intro rfl (And.intro rfl True.intro)))) (ih (y1 + (v0 (Int32.toNatClampNeg (r2_ + 0)))) (y2 + 1) h)
  refine z_iconst (v := 0) O dX6_readers_0 (by decide) ?_
  refine z_istore_n (L' := [some (.ref b0), some (.int 0), none]) O dX6_readers_1 rfl (by decide) rfl ?_
  refine z_iconst (v := 0) O dX6_readers_2 (by decide) ?_
  refine z_istore_n (L' := [some (.ref b0), some (.int 0), some (.int 0)]) O dX6_readers_3 rfl (by decide) rfl ?_
  obtain ⟨n7_, h⟩ := h
  exact z_subL (L' := [some (.ref b0), some (.int 0), some (.int 0)]) (zLe.sub (And.intro rfl (And.intro rfl (And.intro rfl True.intro)))) (HL4 n7_ 0 0 h)

theorem dX6_goLeave_0 : decode cX6_goLeave 0 = .ok (.iload_n 1, 1) := by decide +kernel
theorem dX6_goLeave_1 : decode cX6_goLeave 1 = .ok (.invokestatic 65, 3) := by decide +kernel
theorem dX6_goLeave_4 : decode cX6_goLeave 4 = .ok (.istore_n 2, 1) := by decide +kernel
theorem dX6_goLeave_5 : decode cX6_goLeave 5 = .ok (.sipush 530, 3) := by decide +kernel
theorem dX6_goLeave_8 : decode cX6_goLeave 8 = .ok (.bipush 10, 2) := by decide +kernel
theorem dX6_goLeave_10 : decode cX6_goLeave 10 = .ok (.iload_n 1, 1) := by decide +kernel
theorem dX6_goLeave_11 : decode cX6_goLeave 11 = .ok (.imul, 1) := by decide +kernel
theorem dX6_goLeave_12 : decode cX6_goLeave 12 = .ok (.iadd, 1) := by decide +kernel
theorem dX6_goLeave_13 : decode cX6_goLeave 13 = .ok (.istore_n 3, 1) := by decide +kernel
theorem dX6_goLeave_14 : decode cX6_goLeave 14 = .ok (.aload_n 0, 1) := by decide +kernel
theorem dX6_goLeave_15 : decode cX6_goLeave 15 = .ok (.iload_n 3, 1) := by decide +kernel
theorem dX6_goLeave_16 : decode cX6_goLeave 16 = .ok (.iconst 1, 1) := by decide +kernel
theorem dX6_goLeave_17 : decode cX6_goLeave 17 = .ok (.iastore, 1) := by decide +kernel
theorem dX6_goLeave_18 : decode cX6_goLeave 18 = .ok (.aload_n 0, 1) := by decide +kernel
theorem dX6_goLeave_19 : decode cX6_goLeave 19 = .ok (.iload_n 3, 1) := by decide +kernel
theorem dX6_goLeave_20 : decode cX6_goLeave 20 = .ok (.iconst 1, 1) := by decide +kernel
theorem dX6_goLeave_21 : decode cX6_goLeave 21 = .ok (.iadd, 1) := by decide +kernel
theorem dX6_goLeave_22 : decode cX6_goLeave 22 = .ok (.aload_n 0, 1) := by decide +kernel
theorem dX6_goLeave_23 : decode cX6_goLeave 23 = .ok (.iload_n 2, 1) := by decide +kernel
theorem dX6_goLeave_24 : decode cX6_goLeave 24 = .ok (.iconst 1, 1) := by decide +kernel
theorem dX6_goLeave_25 : decode cX6_goLeave 25 = .ok (.iadd, 1) := by decide +kernel
theorem dX6_goLeave_26 : decode cX6_goLeave 26 = .ok (.iaload, 1) := by decide +kernel
theorem dX6_goLeave_27 : decode cX6_goLeave 27 = .ok (.iastore, 1) := by decide +kernel
theorem dX6_goLeave_28 : decode cX6_goLeave 28 = .ok (.iconst 0, 1) := by decide +kernel
theorem dX6_goLeave_29 : decode cX6_goLeave 29 = .ok (.istore 4, 2) := by decide +kernel
theorem dX6_goLeave_31 : decode cX6_goLeave 31 = .ok (.iload 4, 2) := by decide +kernel
theorem dX6_goLeave_33 : decode cX6_goLeave 33 = .ok (.bipush 8, 2) := by decide +kernel
theorem dX6_goLeave_35 : decode cX6_goLeave 35 = .ok (.if_icmp .ge 26, 3) := by decide +kernel
theorem dX6_goLeave_38 : decode cX6_goLeave 38 = .ok (.aload_n 0, 1) := by decide +kernel
theorem dX6_goLeave_39 : decode cX6_goLeave 39 = .ok (.iload_n 3, 1) := by decide +kernel
theorem dX6_goLeave_40 : decode cX6_goLeave 40 = .ok (.iconst 2, 1) := by decide +kernel
theorem dX6_goLeave_41 : decode cX6_goLeave 41 = .ok (.iadd, 1) := by decide +kernel
theorem dX6_goLeave_42 : decode cX6_goLeave 42 = .ok (.iload 4, 2) := by decide +kernel
theorem dX6_goLeave_44 : decode cX6_goLeave 44 = .ok (.iadd, 1) := by decide +kernel
theorem dX6_goLeave_45 : decode cX6_goLeave 45 = .ok (.aload_n 0, 1) := by decide +kernel
theorem dX6_goLeave_46 : decode cX6_goLeave 46 = .ok (.iload_n 2, 1) := by decide +kernel
theorem dX6_goLeave_47 : decode cX6_goLeave 47 = .ok (.bipush 7, 2) := by decide +kernel
theorem dX6_goLeave_49 : decode cX6_goLeave 49 = .ok (.iadd, 1) := by decide +kernel
theorem dX6_goLeave_50 : decode cX6_goLeave 50 = .ok (.iload 4, 2) := by decide +kernel
theorem dX6_goLeave_52 : decode cX6_goLeave 52 = .ok (.iadd, 1) := by decide +kernel
theorem dX6_goLeave_53 : decode cX6_goLeave 53 = .ok (.iaload, 1) := by decide +kernel
theorem dX6_goLeave_54 : decode cX6_goLeave 54 = .ok (.iastore, 1) := by decide +kernel
theorem dX6_goLeave_55 : decode cX6_goLeave 55 = .ok (.iinc 4 1, 3) := by decide +kernel
theorem dX6_goLeave_58 : decode cX6_goLeave 58 = .ok (.goto (-27), 3) := by decide +kernel
theorem dX6_goLeave_61 : decode cX6_goLeave 61 = .ok (.iconst 0, 1) := by decide +kernel
theorem dX6_goLeave_62 : decode cX6_goLeave 62 = .ok (.istore 4, 2) := by decide +kernel
theorem dX6_goLeave_64 : decode cX6_goLeave 64 = .ok (.iload 4, 2) := by decide +kernel
theorem dX6_goLeave_66 : decode cX6_goLeave 66 = .ok (.bipush 15, 2) := by decide +kernel
theorem dX6_goLeave_68 : decode cX6_goLeave 68 = .ok (.if_icmp .ge 16, 3) := by decide +kernel
theorem dX6_goLeave_71 : decode cX6_goLeave 71 = .ok (.aload_n 0, 1) := by decide +kernel
theorem dX6_goLeave_72 : decode cX6_goLeave 72 = .ok (.iload_n 2, 1) := by decide +kernel
theorem dX6_goLeave_73 : decode cX6_goLeave 73 = .ok (.iload 4, 2) := by decide +kernel
theorem dX6_goLeave_75 : decode cX6_goLeave 75 = .ok (.iadd, 1) := by decide +kernel
theorem dX6_goLeave_76 : decode cX6_goLeave 76 = .ok (.iconst 0, 1) := by decide +kernel
theorem dX6_goLeave_77 : decode cX6_goLeave 77 = .ok (.iastore, 1) := by decide +kernel
theorem dX6_goLeave_78 : decode cX6_goLeave 78 = .ok (.iinc 4 1, 3) := by decide +kernel
theorem dX6_goLeave_81 : decode cX6_goLeave 81 = .ok (.goto (-17), 3) := by decide +kernel
theorem dX6_goLeave_84 : decode cX6_goLeave 84 = .ok (.aload_n 0, 1) := by decide +kernel
theorem dX6_goLeave_85 : decode cX6_goLeave 85 = .ok (.invokestatic 122, 3) := by decide +kernel
theorem dX6_goLeave_88 : decode cX6_goLeave 88 = .ok (.ireturn, 1) := by decide +kernel
def PL_M_goLeave_64 : Nat → Int32 → Int32 → Int32 → (Nat → Int32) → (Int32 → (Nat → Int32) → Prop) → Prop
  | 0, _, _, _, _, _ => False
  | n + 1, x1, y2, y4, v0, Q => ((15 ≤ y4 → P_M_readers v0 (fun r24_ => (Q r24_ v0))) ∧ (¬ 15 ≤ y4 → vp_in (y2 + y4) 621 ∧ (∀ v33_, v33_ = (upd v0 (Int32.toNatClampNeg (y2 + y4)) 0) → ((fun y2 y4 v0 => PL_M_goLeave_64 n x1 y2 y4 v0  Q) y2 (y4 + 1) v33_))))
def PL_M_goLeave_31 : Nat → Int32 → Int32 → Int32 → Int32 → (Nat → Int32) → (Int32 → (Nat → Int32) → Prop) → Prop
  | 0, _, _, _, _, _, _ => False
  | n + 1, x1, y2, y3, y4, v0, Q => ((8 ≤ y4 → (∃ n36_, PL_M_goLeave_64 n36_ x1 y2 0 v0 Q)) ∧ (¬ 8 ≤ y4 → vp_in ((y2 + 7) + y4) 621 ∧ (vp_in ((y3 + 2) + y4) 621 ∧ (∀ v43_, v43_ = (upd v0 (Int32.toNatClampNeg ((y3 + 2) + y4)) (v0 (Int32.toNatClampNeg ((y2 + 7) + y4)))) → ((fun y2 y3 y4 v0 => PL_M_goLeave_31 n x1 y2 y3 y4 v0  Q) y2 y3 (y4 + 1) v43_)))))
def P_M_goLeave (x1 : Int32) (v0 : (Nat → Int32)) (Q : Int32 → (Nat → Int32) → Prop) : Prop := P_M_reader x1 (fun r1_ => (vp_in (530 + (10 * x1)) 621 ∧ (∀ v10_, v10_ = (upd v0 (Int32.toNatClampNeg (530 + (10 * x1))) 1) → (vp_in (r1_ + 1) 621 ∧ (vp_in ((530 + (10 * x1)) + 1) 621 ∧ (∀ v19_, v19_ = (upd v10_ (Int32.toNatClampNeg ((530 + (10 * x1)) + 1)) (v10_ (Int32.toNatClampNeg (r1_ + 1)))) → ((∃ n46_, PL_M_goLeave_31 n46_ x1 r1_ (530 + (10 * x1)) 0 v19_ Q))))))))
set_option maxRecDepth 100000 in
theorem s_M_goLeave {l : Launch} {D : zD} {B : Nat} {sa : Nat → Nat} (hfl : l.stackTraces = false) {z : Nat} {G : zG} {b0 : Nat} {x1 : Int32} {v0 : (Nat → Int32)} {Q : Int32 → (Nat → Int32) → Prop} (h0 : G b0 = some (zia 621 v0)) (h : P_M_goLeave x1 v0 Q) : zSp l D B sa yX6_goLeave cX6_goLeave 5 (some .int) 2 42 0 0 [.ref b0, .int x1] z G (zRi fun r z' G' => z = z' ∧ ∃ w, G' b0 = some (zia 621 w) ∧ Fr b0 1 G G' ∧ Q r w) := by
  unfold P_M_goLeave at h
  refine z_ofW (by decide +kernel) hfl [some (.ref b0), some (.int x1), none, none, none] rfl (Nat.le_of_ble_eq_true rfl) (fun p e s m args below meth c O hret hlk hnm => ?_)
  have O : zO p l s m args c D B sa 5 cX6_goLeave RX6 := O
  have HL64 : ∀ (n9 : Nat)    (y2 : Int32) (y4 : Int32) (v0 : (Nat → Int32)) (G9 : zG) (g0 : G9 b0 = some (zia 621 v0)) (gF : Fr b0 1 G G9) (h : PL_M_goLeave_64 n9 x1 y2 y4 v0 Q), zT p l e (zrm 2 42 0 0) s m args below meth c (zEnd below D B (zRi fun r z' G' => z = z' ∧ ∃ w, G' b0 = some (zia 621 w) ∧ Fr b0 1 G G' ∧ Q r w) args s 0 0) D B 5 0 0 64 [] [some (.ref b0), none, some (.int y2), none, some (.int y4)] z G9 := by
    intro n9   
    induction n9 with
    | zero =>
      intro _ _ _ _ _ _ h
      exact (h : False).elim
    | succ n ih =>
      intro y2 y4 v0 G9 g0 gF h
      rw [PL_M_goLeave_64] at h
      refine z_iload O dX6_goLeave_64 rfl ?_
      refine z_bipush (v := 15) O dX6_goLeave_66 (by decide) ?_
      refine z_icmp_ge (tgt := 84) O dX6_goLeave_68 (by decide) (fun c23_ => ?_) (fun c23_ => ?_)
      · have h := h.1 c23_
        refine z_aload_n O dX6_goLeave_84 rfl rfl ?_
        refine z_callSi (As := [.ref b0]) (st := []) O (s_M_readers hfl g0 h) wy_X6_readers wl_RX6_122 dX6_goLeave_85 rfl rfl ⟨Nat.le_of_ble_eq_true rfl, Nat.le_of_ble_eq_true rfl⟩ (Nat.le_of_ble_eq_true rfl) ⟨Nat.le_of_ble_eq_true rfl, Nat.le_of_ble_eq_true rfl⟩ (fun r24_ z25_ G26_ hq27_ => ?_)
        obtain ⟨rfl, rfl, h⟩ := hq27_
        exact z_iret O hret hlk dX6_goLeave_88 (Nat.le_of_ble_eq_true rfl) (Nat.le_of_ble_eq_true rfl) ⟨_, rfl, rfl, _, g0, gF, h⟩
      · have h := h.2 c23_
        refine z_aload_n O dX6_goLeave_71 rfl rfl ?_
        refine z_iload_n O dX6_goLeave_72 rfl rfl ?_
        refine z_iload O dX6_goLeave_73 rfl ?_
        refine z_iadd O dX6_goLeave_75 ?_
        refine z_iconst (v := 0) O dX6_goLeave_76 (by decide) ?_
        obtain ⟨q28_, h⟩ := h
        refine y_iast O dX6_goLeave_77 g0 q28_ (fun G29_ hw30_ => ?_)
        have k31_ := hw30_.1
        have f32_ := hw30_.fr
        obtain ⟨v33_, ev33_⟩ : ∃ w, w = (upd v0 (Int32.toNatClampNeg (y2 + y4)) 0) := ⟨_, rfl⟩
        have h := h v33_ ev33_
        have k34_ : G29_ b0 = some (zia 621 v33_) := by rw [ev33_]; exact k31_
        have F35_ : Fr b0 1 G G29_ := Fr.trans gF f32_
        refine z_iinc (v := (y4 + 1)) (L' := [some (.ref b0), none, some (.int y2), none, some (.int (y4 + 1))]) O dX6_goLeave_78 rfl (by first | rfl | decide) (by decide) rfl ?_
        refine z_goto (tgt := 64) O dX6_goLeave_81 (by decide) ?_
        exact z_subL (L' := [some (.ref b0), none, some (.int y2), none, some (.int (y4 + 1))]) (zLe.sub (And.intro rfl (And.intro rfl (And.intro rfl True.intro)))) (ih y2 (y4 + 1) v33_ G29_ k34_ F35_ h)
  have HL31 : ∀ (n9 : Nat)    (y2 : Int32) (y3 : Int32) (y4 : Int32) (v0 : (Nat → Int32)) (G9 : zG) (g0 : G9 b0 = some (zia 621 v0)) (gF : Fr b0 1 G G9) (h : PL_M_goLeave_31 n9 x1 y2 y3 y4 v0 Q), zT p l e (zrm 2 42 0 0) s m args below meth c (zEnd below D B (zRi fun r z' G' => z = z' ∧ ∃ w, G' b0 = some (zia 621 w) ∧ Fr b0 1 G G' ∧ Q r w) args s 0 0) D B 5 0 0 31 [] [some (.ref b0), none, some (.int y2), some (.int y3), some (.int y4)] z G9 := by
    intro n9   
    induction n9 with
    | zero =>
      intro _ _ _ _ _ _ _ h
      exact (h : False).elim
    | succ n ih =>
      intro y2 y3 y4 v0 G9 g0 gF h
      rw [PL_M_goLeave_31] at h
      refine z_iload O dX6_goLeave_31 rfl ?_
      refine z_bipush (v := 8) O dX6_goLeave_33 (by decide) ?_
      refine z_icmp_ge (tgt := 61) O dX6_goLeave_35 (by decide) (fun c22_ => ?_) (fun c22_ => ?_)
      · have h := h.1 c22_
        refine z_iconst (v := 0) O dX6_goLeave_61 (by decide) ?_
        refine z_istore (L' := [some (.ref b0), none, some (.int y2), some (.int y3), some (.int 0)]) O dX6_goLeave_62 (by decide) rfl ?_
        obtain ⟨n36_, h⟩ := h
        exact z_subL (L' := [some (.ref b0), none, some (.int y2), none, some (.int 0)]) (zLe.sub (And.intro rfl (And.intro rfl (And.intro rfl True.intro)))) (HL64 n36_ y2 0 v0 G9 g0 gF h)
      · have h := h.2 c22_
        refine z_aload_n O dX6_goLeave_38 rfl rfl ?_
        refine z_iload_n O dX6_goLeave_39 rfl rfl ?_
        refine z_iconst (v := 2) O dX6_goLeave_40 (by decide) ?_
        refine z_iadd O dX6_goLeave_41 ?_
        refine z_iload O dX6_goLeave_42 rfl ?_
        refine z_iadd O dX6_goLeave_44 ?_
        refine z_aload_n O dX6_goLeave_45 rfl rfl ?_
        refine z_iload_n O dX6_goLeave_46 rfl rfl ?_
        refine z_bipush (v := 7) O dX6_goLeave_47 (by decide) ?_
        refine z_iadd O dX6_goLeave_49 ?_
        refine z_iload O dX6_goLeave_50 rfl ?_
        refine z_iadd O dX6_goLeave_52 ?_
        obtain ⟨q37_, h⟩ := h
        refine z_iald O dX6_goLeave_53 g0 q37_ ?_
        obtain ⟨q38_, h⟩ := h
        refine y_iast O dX6_goLeave_54 g0 q38_ (fun G39_ hw40_ => ?_)
        have k41_ := hw40_.1
        have f42_ := hw40_.fr
        obtain ⟨v43_, ev43_⟩ : ∃ w, w = (upd v0 (Int32.toNatClampNeg ((y3 + 2) + y4)) (v0 (Int32.toNatClampNeg ((y2 + 7) + y4)))) := ⟨_, rfl⟩
        have h := h v43_ ev43_
        have k44_ : G39_ b0 = some (zia 621 v43_) := by rw [ev43_]; exact k41_
        have F45_ : Fr b0 1 G G39_ := Fr.trans gF f42_
        refine z_iinc (v := (y4 + 1)) (L' := [some (.ref b0), none, some (.int y2), some (.int y3), some (.int (y4 + 1))]) O dX6_goLeave_55 rfl (by first | rfl | decide) (by decide) rfl ?_
        refine z_goto (tgt := 31) O dX6_goLeave_58 (by decide) ?_
        exact z_subL (L' := [some (.ref b0), none, some (.int y2), some (.int y3), some (.int (y4 + 1))]) (zLe.sub (And.intro rfl (And.intro rfl (And.intro rfl (And.intro rfl True.intro))))) (ih y2 y3 (y4 + 1) v43_ G39_ k44_ F45_ h)
  refine z_iload_n O dX6_goLeave_0 rfl rfl ?_
  refine z_callSi (As := [.int x1]) (st := []) O (s_M_reader hfl h) wy_X6_reader wl_RX6_65 dX6_goLeave_1 rfl rfl ⟨Nat.le_of_ble_eq_true rfl, Nat.le_of_ble_eq_true rfl⟩ (Nat.le_of_ble_eq_true rfl) ⟨Nat.le_of_ble_eq_true rfl, Nat.le_of_ble_eq_true rfl⟩ (fun r1_ z2_ G3_ hq4_ => ?_)
  obtain ⟨rfl, rfl, h⟩ := hq4_
  refine z_istore_n (L' := [some (.ref b0), some (.int x1), some (.int r1_), none, none]) O dX6_goLeave_4 rfl (by decide) rfl ?_
  refine z_sipush (v := 530) O dX6_goLeave_5 (by decide) ?_
  refine z_bipush (v := 10) O dX6_goLeave_8 (by decide) ?_
  refine z_iload_n O dX6_goLeave_10 rfl rfl ?_
  refine z_imul O dX6_goLeave_11 ?_
  refine z_iadd O dX6_goLeave_12 ?_
  refine z_istore_n (L' := [some (.ref b0), some (.int x1), some (.int r1_), some (.int (530 + (10 * x1))), none]) O dX6_goLeave_13 rfl (by decide) rfl ?_
  refine z_aload_n O dX6_goLeave_14 rfl rfl ?_
  refine z_iload_n O dX6_goLeave_15 rfl rfl ?_
  refine z_iconst (v := 1) O dX6_goLeave_16 (by decide) ?_
  obtain ⟨q5_, h⟩ := h
  refine y_iast O dX6_goLeave_17 h0 q5_ (fun G6_ hw7_ => ?_)
  have k8_ := hw7_.1
  have f9_ := hw7_.fr
  obtain ⟨v10_, ev10_⟩ : ∃ w, w = (upd v0 (Int32.toNatClampNeg (530 + (10 * x1))) 1) := ⟨_, rfl⟩
  have h := h v10_ ev10_
  have k11_ : G6_ b0 = some (zia 621 v10_) := by rw [ev10_]; exact k8_
  have F12_ : Fr b0 1 G G6_ := Fr.trans Fr.rf f9_
  refine z_aload_n O dX6_goLeave_18 rfl rfl ?_
  refine z_iload_n O dX6_goLeave_19 rfl rfl ?_
  refine z_iconst (v := 1) O dX6_goLeave_20 (by decide) ?_
  refine z_iadd O dX6_goLeave_21 ?_
  refine z_aload_n O dX6_goLeave_22 rfl rfl ?_
  refine z_iload_n O dX6_goLeave_23 rfl rfl ?_
  refine z_iconst (v := 1) O dX6_goLeave_24 (by decide) ?_
  refine z_iadd O dX6_goLeave_25 ?_
  obtain ⟨q13_, h⟩ := h
  refine z_iald O dX6_goLeave_26 k11_ q13_ ?_
  obtain ⟨q14_, h⟩ := h
  refine y_iast O dX6_goLeave_27 k11_ q14_ (fun G15_ hw16_ => ?_)
  have k17_ := hw16_.1
  have f18_ := hw16_.fr
  obtain ⟨v19_, ev19_⟩ : ∃ w, w = (upd v10_ (Int32.toNatClampNeg ((530 + (10 * x1)) + 1)) (v10_ (Int32.toNatClampNeg (r1_ + 1)))) := ⟨_, rfl⟩
  have h := h v19_ ev19_
  have k20_ : G15_ b0 = some (zia 621 v19_) := by rw [ev19_]; exact k17_
  have F21_ : Fr b0 1 G G15_ := Fr.trans F12_ f18_
  refine z_iconst (v := 0) O dX6_goLeave_28 (by decide) ?_
  refine z_istore (L' := [some (.ref b0), some (.int x1), some (.int r1_), some (.int (530 + (10 * x1))), some (.int 0)]) O dX6_goLeave_29 (by decide) rfl ?_
  obtain ⟨n46_, h⟩ := h
  exact z_subL (L' := [some (.ref b0), none, some (.int r1_), some (.int (530 + (10 * x1))), some (.int 0)]) (zLe.sub (And.intro rfl (And.intro rfl (And.intro rfl (And.intro rfl True.intro))))) (HL31 n46_ r1_ (530 + (10 * x1)) 0 v19_ G15_ k20_ F21_ h)

theorem dX6_hasGap_0 : decode cX6_hasGap 0 = .ok (.aload_n 0, 1) := by decide +kernel
theorem dX6_hasGap_1 : decode cX6_hasGap 1 = .ok (.iload_n 1, 1) := by decide +kernel
theorem dX6_hasGap_2 : decode cX6_hasGap 2 = .ok (.invokestatic 65, 3) := by decide +kernel
theorem dX6_hasGap_5 : decode cX6_hasGap 5 = .ok (.iconst 1, 1) := by decide +kernel
theorem dX6_hasGap_6 : decode cX6_hasGap 6 = .ok (.iadd, 1) := by decide +kernel
theorem dX6_hasGap_7 : decode cX6_hasGap 7 = .ok (.iaload, 1) := by decide +kernel
theorem dX6_hasGap_8 : decode cX6_hasGap 8 = .ok (.aload_n 0, 1) := by decide +kernel
theorem dX6_hasGap_9 : decode cX6_hasGap 9 = .ok (.sipush 400, 3) := by decide +kernel
theorem dX6_hasGap_12 : decode cX6_hasGap 12 = .ok (.iaload, 1) := by decide +kernel
theorem dX6_hasGap_13 : decode cX6_hasGap 13 = .ok (.if_icmp .ge 7, 3) := by decide +kernel
theorem dX6_hasGap_16 : decode cX6_hasGap 16 = .ok (.iconst 1, 1) := by decide +kernel
theorem dX6_hasGap_17 : decode cX6_hasGap 17 = .ok (.goto 4, 3) := by decide +kernel
theorem dX6_hasGap_20 : decode cX6_hasGap 20 = .ok (.iconst 0, 1) := by decide +kernel
theorem dX6_hasGap_21 : decode cX6_hasGap 21 = .ok (.ireturn, 1) := by decide +kernel
def P_M_hasGap (x1 : Int32) (v0 : (Nat → Int32)) (Q : Int32 → Prop) : Prop := P_M_reader x1 (fun r1_ => (vp_in (r1_ + 1) 621 ∧ (vp_in 400 621 ∧ ((((v0 (Int32.toNatClampNeg 400)) ≤ (v0 (Int32.toNatClampNeg (r1_ + 1))) → Q 0) ∧ (¬ (v0 (Int32.toNatClampNeg 400)) ≤ (v0 (Int32.toNatClampNeg (r1_ + 1))) → Q 1))))))
set_option maxRecDepth 100000 in
theorem s_M_hasGap {l : Launch} {D : zD} {B : Nat} {sa : Nat → Nat} (hfl : l.stackTraces = false) {z : Nat} {G : zG} {b0 : Nat} {x1 : Int32} {v0 : (Nat → Int32)} {Q : Int32 → Prop} (h0 : G b0 = some (zia 621 v0)) (h : P_M_hasGap x1 v0 Q) : zSp l D B sa yX6_hasGap cX6_hasGap 2 (some .boolean) 1 20 0 0 [.ref b0, .int x1] z G (zRi fun r z' G' => z = z' ∧ G = G' ∧ Q r) := by
  unfold P_M_hasGap at h
  refine z_ofW (by decide +kernel) hfl [some (.ref b0), some (.int x1)] rfl (Nat.le_of_ble_eq_true rfl) (fun p e s m args below meth c O hret hlk hnm => ?_)
  have O : zO p l s m args c D B sa 2 cX6_hasGap RX6 := O
  refine z_aload_n O dX6_hasGap_0 rfl rfl ?_
  refine z_iload_n O dX6_hasGap_1 rfl rfl ?_
  refine z_callSi (As := [.int x1]) (st := [.ref b0]) O (s_M_reader hfl h) wy_X6_reader wl_RX6_65 dX6_hasGap_2 rfl rfl ⟨Nat.le_of_ble_eq_true rfl, Nat.le_of_ble_eq_true rfl⟩ (Nat.le_of_ble_eq_true rfl) ⟨Nat.le_of_ble_eq_true rfl, Nat.le_of_ble_eq_true rfl⟩ (fun r1_ z2_ G3_ hq4_ => ?_)
  obtain ⟨rfl, rfl, h⟩ := hq4_
  refine z_iconst (v := 1) O dX6_hasGap_5 (by decide) ?_
  refine z_iadd O dX6_hasGap_6 ?_
  obtain ⟨q5_, h⟩ := h
  refine z_iald O dX6_hasGap_7 h0 q5_ ?_
  refine z_aload_n O dX6_hasGap_8 rfl rfl ?_
  refine z_sipush (v := 400) O dX6_hasGap_9 (by decide) ?_
  obtain ⟨q6_, h⟩ := h
  refine z_iald O dX6_hasGap_12 h0 q6_ ?_
  refine z_icmp_ge (tgt := 20) O dX6_hasGap_13 (by decide) (fun c7_ => ?_) (fun c7_ => ?_)
  · have h := h.1 c7_
    refine z_iconst (v := 0) O dX6_hasGap_20 (by decide) ?_
    exact z_zret O hret rfl hlk dX6_hasGap_21 (Nat.le_of_ble_eq_true rfl) (Nat.le_of_ble_eq_true rfl) ⟨_, rfl, rfl, rfl, h⟩
  · have h := h.2 c7_
    refine z_iconst (v := 1) O dX6_hasGap_16 (by decide) ?_
    refine z_goto (tgt := 21) O dX6_hasGap_17 (by decide) ?_
    exact z_zret O hret rfl hlk dX6_hasGap_21 (Nat.le_of_ble_eq_true rfl) (Nat.le_of_ble_eq_true rfl) ⟨_, rfl, rfl, rfl, h⟩

theorem dX6_canHold_0 : decode cX6_canHold 0 = .ok (.iload_n 2, 1) := by decide +kernel
theorem dX6_canHold_1 : decode cX6_canHold 1 = .ok (.ifCond .eq 11, 3) := by decide +kernel
theorem dX6_canHold_4 : decode cX6_canHold 4 = .ok (.aload_n 0, 1) := by decide +kernel
theorem dX6_canHold_5 : decode cX6_canHold 5 = .ok (.iload_n 1, 1) := by decide +kernel
theorem dX6_canHold_6 : decode cX6_canHold 6 = .ok (.invokestatic 125, 3) := by decide +kernel
theorem dX6_canHold_9 : decode cX6_canHold 9 = .ok (.ifCond .ne 7, 3) := by decide +kernel
theorem dX6_canHold_12 : decode cX6_canHold 12 = .ok (.iconst 1, 1) := by decide +kernel
theorem dX6_canHold_13 : decode cX6_canHold 13 = .ok (.goto 4, 3) := by decide +kernel
theorem dX6_canHold_16 : decode cX6_canHold 16 = .ok (.iconst 0, 1) := by decide +kernel
theorem dX6_canHold_17 : decode cX6_canHold 17 = .ok (.ireturn, 1) := by decide +kernel
def P_M_canHold (x1 : Int32) (x2 : Int32) (v0 : (Nat → Int32)) (Q : Int32 → Prop) : Prop := ((x2 = 0 → Q 1) ∧ (¬ x2 = 0 → P_M_hasGap x1 v0 (fun r2_ => (((¬ r2_ = 0 → Q 0) ∧ (r2_ = 0 → Q 1))))))
set_option maxRecDepth 100000 in
theorem s_M_canHold {l : Launch} {D : zD} {B : Nat} {sa : Nat → Nat} (hfl : l.stackTraces = false) {z : Nat} {G : zG} {b0 : Nat} {x1 : Int32} {x2 : Int32} {v0 : (Nat → Int32)} {Q : Int32 → Prop} (h0 : G b0 = some (zia 621 v0)) (h : P_M_canHold x1 x2 v0 Q) : zSp l D B sa yX6_canHold cX6_canHold 3 (some .boolean) 2 41 0 0 [.ref b0, .int x1, .int x2] z G (zRi fun r z' G' => z = z' ∧ G = G' ∧ Q r) := by
  unfold P_M_canHold at h
  refine z_ofW (by decide +kernel) hfl [some (.ref b0), some (.int x1), some (.int x2)] rfl (Nat.le_of_ble_eq_true rfl) (fun p e s m args below meth c O hret hlk hnm => ?_)
  have O : zO p l s m args c D B sa 3 cX6_canHold RX6 := O
  refine z_iload_n O dX6_canHold_0 rfl rfl ?_
  refine z_if_eq (tgt := 12) O dX6_canHold_1 (by decide) (fun c1_ => ?_) (fun c1_ => ?_)
  · have h := h.1 c1_
    refine z_iconst (v := 1) O dX6_canHold_12 (by decide) ?_
    refine z_goto (tgt := 17) O dX6_canHold_13 (by decide) ?_
    exact z_zret O hret rfl hlk dX6_canHold_17 (Nat.le_of_ble_eq_true rfl) (Nat.le_of_ble_eq_true rfl) ⟨_, rfl, rfl, rfl, h⟩
  · have h := h.2 c1_
    refine z_aload_n O dX6_canHold_4 rfl rfl ?_
    refine z_iload_n O dX6_canHold_5 rfl rfl ?_
    refine z_callSi (As := [.ref b0, .int x1]) (st := []) O (s_M_hasGap hfl h0 h) wy_X6_hasGap wl_RX6_125 dX6_canHold_6 rfl rfl ⟨Nat.le_of_ble_eq_true rfl, Nat.le_of_ble_eq_true rfl⟩ (Nat.le_of_ble_eq_true rfl) ⟨Nat.le_of_ble_eq_true rfl, Nat.le_of_ble_eq_true rfl⟩ (fun r2_ z3_ G4_ hq5_ => ?_)
    obtain ⟨rfl, rfl, h⟩ := hq5_
    refine z_if_ne (tgt := 16) O dX6_canHold_9 (by decide) (fun c6_ => ?_) (fun c6_ => ?_)
    · have h := h.1 c6_
      refine z_iconst (v := 0) O dX6_canHold_16 (by decide) ?_
      exact z_zret O hret rfl hlk dX6_canHold_17 (Nat.le_of_ble_eq_true rfl) (Nat.le_of_ble_eq_true rfl) ⟨_, rfl, rfl, rfl, h⟩
    · have h := h.2 c6_
      refine z_iconst (v := 1) O dX6_canHold_12 (by decide) ?_
      refine z_goto (tgt := 17) O dX6_canHold_13 (by decide) ?_
      exact z_zret O hret rfl hlk dX6_canHold_17 (Nat.le_of_ble_eq_true rfl) (Nat.le_of_ble_eq_true rfl) ⟨_, rfl, rfl, rfl, h⟩
