theorem wc_RL_106 : Cond.constantLong RL 106 131 ∈ zgt := (zgt_at 583 (by decide +kernel) (by decide +kernel))
theorem wl_RL_121 : zLs RL 121 yL_readerOf := ⟨(zgt_at 636 (by decide +kernel) (by decide +kernel)), (zgt_at 637 (by decide +kernel) (by decide +kernel))⟩
theorem wc_RL_108 : Cond.constantLong RL 108 31 ∈ zgt := (zgt_at 584 (by decide +kernel) (by decide +kernel))
theorem wc_RL_124 : Cond.constantLong RL 124 89 ∈ zgt := (zgt_at 653 (by decide +kernel) (by decide +kernel))
theorem wl_RL_126 : zLs RL 126 yL_table := ⟨(zgt_at 654 (by decide +kernel) (by decide +kernel)), (zgt_at 655 (by decide +kernel) (by decide +kernel))⟩
theorem wl_RL_115 : zLs RL 115 yL_base := ⟨(zgt_at 618 (by decide +kernel) (by decide +kernel)), (zgt_at 619 (by decide +kernel) (by decide +kernel))⟩
theorem wc_RL_117 : Cond.constantLong RL 117 97 ∈ zgt := (zgt_at 627 (by decide +kernel) (by decide +kernel))
theorem wl_RL_119 : zLs RL 119 yL_setting := ⟨(zgt_at 628 (by decide +kernel) (by decide +kernel)), (zgt_at 629 (by decide +kernel) (by decide +kernel))⟩
theorem wl_RL_110 : zLs RL 110 yL_about := ⟨(zgt_at 585 (by decide +kernel) (by decide +kernel)), (zgt_at 586 (by decide +kernel) (by decide +kernel))⟩
theorem wy_L_now : zYw yL_now cL_now 7 (some .long) 1 := ⟨(zgt_at 582 (by decide +kernel) (by decide +kernel)), (zgt_at 4 (by decide +kernel) (by decide +kernel)), by decide +kernel, by decide +kernel, by decide +kernel⟩
theorem wl_RL_128 : zLs RL 128 yL_now := ⟨(zgt_at 580 (by decide +kernel) (by decide +kernel)), (zgt_at 581 (by decide +kernel) (by decide +kernel))⟩
theorem wl_RL_142 : zLs RL 142 yL_read := ⟨(zgt_at 731 (by decide +kernel) (by decide +kernel)), (zgt_at 732 (by decide +kernel) (by decide +kernel))⟩
theorem wl_RL_139 : zLs RL 139 yL_join := ⟨(zgt_at 723 (by decide +kernel) (by decide +kernel)), (zgt_at 724 (by decide +kernel) (by decide +kernel))⟩
theorem wl_RL_155 : zLs RL 155 yL_ticks := ⟨(zgt_at 783 (by decide +kernel) (by decide +kernel)), (zgt_at 784 (by decide +kernel) (by decide +kernel))⟩
theorem wl_RL_157 : zLs RL 157 yL_truth := ⟨(zgt_at 790 (by decide +kernel) (by decide +kernel)), (zgt_at 791 (by decide +kernel) (by decide +kernel))⟩
theorem wl_RL_159 : zLs RL 159 yL_leastRoom := ⟨(zgt_at 804 (by decide +kernel) (by decide +kernel)), (zgt_at 805 (by decide +kernel) (by decide +kernel))⟩
theorem wl_RL_161 : zLs RL 161 yL_script := ⟨(zgt_at 816 (by decide +kernel) (by decide +kernel)), (zgt_at 817 (by decide +kernel) (by decide +kernel))⟩
theorem wc_RL_165 : Cond.constantLong RL 165 1000000000000000000 ∈ zgt := (zgt_at 841 (by decide +kernel) (by decide +kernel))
theorem wl_RL_167 : zLs RL 167 yL_simulate := ⟨(zgt_at 842 (by decide +kernel) (by decide +kernel)), (zgt_at 843 (by decide +kernel) (by decide +kernel))⟩
theorem wl_RL_170 : zLs RL 170 yL_save := ⟨(zgt_at 529 (by decide +kernel) (by decide +kernel)), (zgt_at 530 (by decide +kernel) (by decide +kernel))⟩
theorem wl_RL_172 : zLs RL 172 yL_restore := ⟨(zgt_at 569 (by decide +kernel) (by decide +kernel)), (zgt_at 570 (by decide +kernel) (by decide +kernel))⟩
theorem wl_RL_174 : zLs RL 174 yL_append := ⟨(zgt_at 856 (by decide +kernel) (by decide +kernel)), (zgt_at 857 (by decide +kernel) (by decide +kernel))⟩
theorem wl_RL_144 : zLs RL 144 yL_leave := ⟨(zgt_at 738 (by decide +kernel) (by decide +kernel)), (zgt_at 739 (by decide +kernel) (by decide +kernel))⟩
theorem wl_RL_151 : zLs RL 151 yL_lostIn := ⟨(zgt_at 759 (by decide +kernel) (by decide +kernel)), (zgt_at 760 (by decide +kernel) (by decide +kernel))⟩
theorem wl_RL_153 : zLs RL 153 yL_ifFree := ⟨(zgt_at 775 (by decide +kernel) (by decide +kernel)), (zgt_at 776 (by decide +kernel) (by decide +kernel))⟩
theorem wl_RL_132 : zLs RL 132 yL_rowOf := ⟨(zgt_at 661 (by decide +kernel) (by decide +kernel)), (zgt_at 662 (by decide +kernel) (by decide +kernel))⟩
theorem wl_RL_134 : zLs RL 134 yL_segmentOf := ⟨(zgt_at 683 (by decide +kernel) (by decide +kernel)), (zgt_at 684 (by decide +kernel) (by decide +kernel))⟩
theorem wl_RL_136 : zLs RL 136 yL_write := ⟨(zgt_at 698 (by decide +kernel) (by decide +kernel)), (zgt_at 699 (by decide +kernel) (by decide +kernel))⟩
theorem wl_RL_146 : zLs RL 146 yL_hold := ⟨(zgt_at 745 (by decide +kernel) (by decide +kernel)), (zgt_at 746 (by decide +kernel) (by decide +kernel))⟩
theorem wl_RL_149 : zLs RL 149 yL_set := ⟨(zgt_at 752 (by decide +kernel) (by decide +kernel)), (zgt_at 753 (by decide +kernel) (by decide +kernel))⟩
theorem wy_X5_slowest : zYw yX5_slowest cX5_slowest 1 (some .int) 0 := ⟨(zgt_at 880 (by decide +kernel) (by decide +kernel)), (zgt_at 5 (by decide +kernel) (by decide +kernel)), by decide +kernel, by decide +kernel, by decide +kernel⟩
theorem wl_RL_178 : zLv RL 178 yX5_slowest := ⟨(zgt_at 877 (by decide +kernel) (by decide +kernel)), (zgt_at 878 (by decide +kernel) (by decide +kernel)), (zgt_at 879 (by decide +kernel) (by decide +kernel))⟩
theorem wy_X5_why : zYw yX5_why cX5_why 1 (some .int) 0 := ⟨(zgt_at 888 (by decide +kernel) (by decide +kernel)), (zgt_at 5 (by decide +kernel) (by decide +kernel)), by decide +kernel, by decide +kernel, by decide +kernel⟩
theorem wl_RL_181 : zLv RL 181 yX5_why := ⟨(zgt_at 885 (by decide +kernel) (by decide +kernel)), (zgt_at 886 (by decide +kernel) (by decide +kernel)), (zgt_at 887 (by decide +kernel) (by decide +kernel))⟩
theorem wc_RL_176 : Cond.constantLong RL 176 200 ∈ zgt := (zgt_at 876 (by decide +kernel) (by decide +kernel))
theorem wy_X5_droppedIn : zYw yX5_droppedIn cX5_droppedIn 3 (some .int) 0 := ⟨(zgt_at 896 (by decide +kernel) (by decide +kernel)), (zgt_at 5 (by decide +kernel) (by decide +kernel)), by decide +kernel, by decide +kernel, by decide +kernel⟩
theorem wl_RL_184 : zLv RL 184 yX5_droppedIn := ⟨(zgt_at 893 (by decide +kernel) (by decide +kernel)), (zgt_at 894 (by decide +kernel) (by decide +kernel)), (zgt_at 895 (by decide +kernel) (by decide +kernel))⟩
theorem wl_RL_187 : zLs RL 187 yL_undo := ⟨(zgt_at 897 (by decide +kernel) (by decide +kernel)), (zgt_at 898 (by decide +kernel) (by decide +kernel))⟩
theorem wc_RL_189 : Cond.constantLong RL 189 (-1) ∈ zgt := (zgt_at 909 (by decide +kernel) (by decide +kernel))
theorem wc_RL_191 : Cond.constantLong RL 191 100 ∈ zgt := (zgt_at 910 (by decide +kernel) (by decide +kernel))
theorem wy_X5_clearText : zYw yX5_clearText cX5_clearText 1 (some .int) 0 := ⟨(zgt_at 925 (by decide +kernel) (by decide +kernel)), (zgt_at 5 (by decide +kernel) (by decide +kernel)), by decide +kernel, by decide +kernel, by decide +kernel⟩
theorem wl_RL_198 : zLv RL 198 yX5_clearText := ⟨(zgt_at 922 (by decide +kernel) (by decide +kernel)), (zgt_at 923 (by decide +kernel) (by decide +kernel)), (zgt_at 924 (by decide +kernel) (by decide +kernel))⟩
theorem wy_L_says : zYw yL_says cL_says 5 (some .boolean) 5 := ⟨(zgt_at 932 (by decide +kernel) (by decide +kernel)), (zgt_at 4 (by decide +kernel) (by decide +kernel)), by decide +kernel, by decide +kernel, by decide +kernel⟩
theorem wl_RL_201 : zLs RL 201 yL_says := ⟨(zgt_at 930 (by decide +kernel) (by decide +kernel)), (zgt_at 931 (by decide +kernel) (by decide +kernel))⟩
theorem wy_X5_errorPosition : zYw yX5_errorPosition cX5_errorPosition 1 (some .int) 0 := ⟨(zgt_at 917 (by decide +kernel) (by decide +kernel)), (zgt_at 5 (by decide +kernel) (by decide +kernel)), by decide +kernel, by decide +kernel, by decide +kernel⟩
theorem wl_RL_193 : zLv RL 193 yX5_errorPosition := ⟨(zgt_at 914 (by decide +kernel) (by decide +kernel)), (zgt_at 915 (by decide +kernel) (by decide +kernel)), (zgt_at 916 (by decide +kernel) (by decide +kernel))⟩
theorem wc_RL_196 : Cond.constantLong RL 196 500009800000 ∈ zgt := (zgt_at 918 (by decide +kernel) (by decide +kernel))
theorem dL_now_0 : decode cL_now 0 = .ok (.ldc2_w 106, 3) := by decide +kernel
theorem dL_now_3 : decode cL_now 3 = .ok (.lstore_n 1, 1) := by decide +kernel
theorem dL_now_4 : decode cL_now 4 = .ok (.iconst 0, 1) := by decide +kernel
theorem dL_now_5 : decode cL_now 5 = .ok (.istore_n 3, 1) := by decide +kernel
theorem dL_now_6 : decode cL_now 6 = .ok (.iload_n 3, 1) := by decide +kernel
theorem dL_now_7 : decode cL_now 7 = .ok (.bipush 12, 2) := by decide +kernel
theorem dL_now_9 : decode cL_now 9 = .ok (.if_icmp .ge 21, 3) := by decide +kernel
theorem dL_now_12 : decode cL_now 12 = .ok (.ldc2_w 108, 3) := by decide +kernel
theorem dL_now_15 : decode cL_now 15 = .ok (.lload_n 1, 1) := by decide +kernel
theorem dL_now_16 : decode cL_now 16 = .ok (.lmul, 1) := by decide +kernel
theorem dL_now_17 : decode cL_now 17 = .ok (.aload_n 0, 1) := by decide +kernel
theorem dL_now_18 : decode cL_now 18 = .ok (.iload_n 3, 1) := by decide +kernel
theorem dL_now_19 : decode cL_now 19 = .ok (.invokestatic 110, 3) := by decide +kernel
theorem dL_now_22 : decode cL_now 22 = .ok (.ladd, 1) := by decide +kernel
theorem dL_now_23 : decode cL_now 23 = .ok (.lstore_n 1, 1) := by decide +kernel
theorem dL_now_24 : decode cL_now 24 = .ok (.iinc 3 1, 3) := by decide +kernel
theorem dL_now_27 : decode cL_now 27 = .ok (.goto (-21), 3) := by decide +kernel
theorem dL_now_30 : decode cL_now 30 = .ok (.iconst 0, 1) := by decide +kernel
theorem dL_now_31 : decode cL_now 31 = .ok (.istore_n 3, 1) := by decide +kernel
theorem dL_now_32 : decode cL_now 32 = .ok (.iload_n 3, 1) := by decide +kernel
theorem dL_now_33 : decode cL_now 33 = .ok (.bipush 8, 2) := by decide +kernel
theorem dL_now_35 : decode cL_now 35 = .ok (.if_icmp .ge 41, 3) := by decide +kernel
theorem dL_now_38 : decode cL_now 38 = .ok (.ldc2_w 108, 3) := by decide +kernel
theorem dL_now_41 : decode cL_now 41 = .ok (.lload_n 1, 1) := by decide +kernel
theorem dL_now_42 : decode cL_now 42 = .ok (.lmul, 1) := by decide +kernel
theorem dL_now_43 : decode cL_now 43 = .ok (.aload_n 0, 1) := by decide +kernel
theorem dL_now_44 : decode cL_now 44 = .ok (.iload_n 3, 1) := by decide +kernel
theorem dL_now_45 : decode cL_now 45 = .ok (.invokestatic 115, 3) := by decide +kernel
theorem dL_now_48 : decode cL_now 48 = .ok (.ladd, 1) := by decide +kernel
theorem dL_now_49 : decode cL_now 49 = .ok (.iload_n 3, 1) := by decide +kernel
theorem dL_now_50 : decode cL_now 50 = .ok (.bipush 6, 2) := by decide +kernel
theorem dL_now_52 : decode cL_now 52 = .ok (.if_icmp .ge 15, 3) := by decide +kernel
theorem dL_now_55 : decode cL_now 55 = .ok (.ldc2_w 117, 3) := by decide +kernel
theorem dL_now_58 : decode cL_now 58 = .ok (.aload_n 0, 1) := by decide +kernel
theorem dL_now_59 : decode cL_now 59 = .ok (.iload_n 3, 1) := by decide +kernel
theorem dL_now_60 : decode cL_now 60 = .ok (.invokestatic 119, 3) := by decide +kernel
theorem dL_now_63 : decode cL_now 63 = .ok (.lmul, 1) := by decide +kernel
theorem dL_now_64 : decode cL_now 64 = .ok (.goto 4, 3) := by decide +kernel
theorem dL_now_67 : decode cL_now 67 = .ok (.lconst 0, 1) := by decide +kernel
theorem dL_now_68 : decode cL_now 68 = .ok (.ladd, 1) := by decide +kernel
theorem dL_now_69 : decode cL_now 69 = .ok (.lstore_n 1, 1) := by decide +kernel
theorem dL_now_70 : decode cL_now 70 = .ok (.iinc 3 1, 3) := by decide +kernel
theorem dL_now_73 : decode cL_now 73 = .ok (.goto (-41), 3) := by decide +kernel
theorem dL_now_76 : decode cL_now 76 = .ok (.iconst 0, 1) := by decide +kernel
theorem dL_now_77 : decode cL_now 77 = .ok (.istore_n 3, 1) := by decide +kernel
theorem dL_now_78 : decode cL_now 78 = .ok (.iload_n 3, 1) := by decide +kernel
theorem dL_now_79 : decode cL_now 79 = .ok (.bipush 8, 2) := by decide +kernel
theorem dL_now_81 : decode cL_now 81 = .ok (.if_icmp .ge 79, 3) := by decide +kernel
theorem dL_now_84 : decode cL_now 84 = .ok (.aload_n 0, 1) := by decide +kernel
theorem dL_now_85 : decode cL_now 85 = .ok (.iload_n 3, 1) := by decide +kernel
theorem dL_now_86 : decode cL_now 86 = .ok (.iconst 0, 1) := by decide +kernel
theorem dL_now_87 : decode cL_now 87 = .ok (.invokestatic 121, 3) := by decide +kernel
theorem dL_now_90 : decode cL_now 90 = .ok (.lstore 4, 2) := by decide +kernel
theorem dL_now_92 : decode cL_now 92 = .ok (.ldc2_w 108, 3) := by decide +kernel
theorem dL_now_95 : decode cL_now 95 = .ok (.lload_n 1, 1) := by decide +kernel
theorem dL_now_96 : decode cL_now 96 = .ok (.lmul, 1) := by decide +kernel
theorem dL_now_97 : decode cL_now 97 = .ok (.lload 4, 2) := by decide +kernel
theorem dL_now_99 : decode cL_now 99 = .ok (.ladd, 1) := by decide +kernel
theorem dL_now_100 : decode cL_now 100 = .ok (.lstore_n 1, 1) := by decide +kernel
theorem dL_now_101 : decode cL_now 101 = .ok (.iconst 1, 1) := by decide +kernel
theorem dL_now_102 : decode cL_now 102 = .ok (.istore 6, 2) := by decide +kernel
theorem dL_now_104 : decode cL_now 104 = .ok (.iload 6, 2) := by decide +kernel
theorem dL_now_106 : decode cL_now 106 = .ok (.bipush 9, 2) := by decide +kernel
theorem dL_now_108 : decode cL_now 108 = .ok (.if_icmp .ge 46, 3) := by decide +kernel
theorem dL_now_111 : decode cL_now 111 = .ok (.lload 4, 2) := by decide +kernel
theorem dL_now_113 : decode cL_now 113 = .ok (.ldc2_w 36, 3) := by decide +kernel
theorem dL_now_116 : decode cL_now 116 = .ok (.lcmp, 1) := by decide +kernel
theorem dL_now_117 : decode cL_now 117 = .ok (.ifCond .eq 37, 3) := by decide +kernel
theorem dL_now_120 : decode cL_now 120 = .ok (.ldc2_w 108, 3) := by decide +kernel
theorem dL_now_123 : decode cL_now 123 = .ok (.lload_n 1, 1) := by decide +kernel
theorem dL_now_124 : decode cL_now 124 = .ok (.lmul, 1) := by decide +kernel
theorem dL_now_125 : decode cL_now 125 = .ok (.aload_n 0, 1) := by decide +kernel
theorem dL_now_126 : decode cL_now 126 = .ok (.iload_n 3, 1) := by decide +kernel
theorem dL_now_127 : decode cL_now 127 = .ok (.iload 6, 2) := by decide +kernel
theorem dL_now_129 : decode cL_now 129 = .ok (.invokestatic 121, 3) := by decide +kernel
theorem dL_now_132 : decode cL_now 132 = .ok (.ladd, 1) := by decide +kernel
theorem dL_now_133 : decode cL_now 133 = .ok (.ldc2_w 124, 3) := by decide +kernel
theorem dL_now_136 : decode cL_now 136 = .ok (.aload_n 0, 1) := by decide +kernel
theorem dL_now_137 : decode cL_now 137 = .ok (.iload_n 3, 1) := by decide +kernel
theorem dL_now_138 : decode cL_now 138 = .ok (.iload 6, 2) := by decide +kernel
theorem dL_now_140 : decode cL_now 140 = .ok (.iconst 1, 1) := by decide +kernel
theorem dL_now_141 : decode cL_now 141 = .ok (.isub, 1) := by decide +kernel
theorem dL_now_142 : decode cL_now 142 = .ok (.invokestatic 126, 3) := by decide +kernel
theorem dL_now_145 : decode cL_now 145 = .ok (.lmul, 1) := by decide +kernel
theorem dL_now_146 : decode cL_now 146 = .ok (.ladd, 1) := by decide +kernel
theorem dL_now_147 : decode cL_now 147 = .ok (.lstore_n 1, 1) := by decide +kernel
theorem dL_now_148 : decode cL_now 148 = .ok (.iinc 6 1, 3) := by decide +kernel
theorem dL_now_151 : decode cL_now 151 = .ok (.goto (-47), 3) := by decide +kernel
theorem dL_now_154 : decode cL_now 154 = .ok (.iinc 3 1, 3) := by decide +kernel
theorem dL_now_157 : decode cL_now 157 = .ok (.goto (-79), 3) := by decide +kernel
theorem dL_now_160 : decode cL_now 160 = .ok (.lload_n 1, 1) := by decide +kernel
theorem dL_now_161 : decode cL_now 161 = .ok (.lreturn, 1) := by decide +kernel
def PL_LAW_now_104 : Nat → TT → Int64 → Int32 → Int64 → Int32 → (Int64 → Int32 → Prop) → (Int64 → Prop) → Prop
  | 0, _, _, _, _, _, _, _ => False
  | n + 1, v0, y1, y3, y4, y6, K78, Q => ((9 ≤ y6 → K78 y1 (y3 + 1)) ∧ (¬ 9 ≤ y6 → (((lg_cmp y4 (-9000000000000000001)) = 0 → K78 y1 (y3 + 1)) ∧ (¬ (lg_cmp y4 (-9000000000000000001)) = 0 → P_LAW_readerOf y3 y6 v0 (fun r11_ => (P_LAW_table y3 (y6 - 1) v0 (fun r16_ => ((fun y1 y3 y4 y6 => PL_LAW_now_104 n v0 y1 y3 y4 y6 K78 Q) (((31 * y1) + r11_) + (89 * r16_)) y3 y4 (y6 + 1)))))))))
def PL_LAW_now_78 : Nat → TT → Int64 → Int32 → (Int64 → Prop) → Prop
  | 0, _, _, _, _ => False
  | n + 1, v0, y1, y3, Q => ((8 ≤ y3 → Q y1) ∧ (¬ 8 ≤ y3 → P_LAW_readerOf y3 0 v0 (fun r4_ => ((∃ n21_, n21_ ≤ 9 ∧ PL_LAW_now_104 n21_ v0 ((31 * y1) + r4_) y3 r4_ 1 (fun a0 a1 => (fun y1 y3 => PL_LAW_now_78 n v0 y1 y3  Q) a0 a1) Q)))))
def PL_LAW_now_32 : Nat → TT → Int64 → Int32 → (Int64 → Prop) → Prop
  | 0, _, _, _, _ => False
  | n + 1, v0, y1, y3, Q => ((8 ≤ y3 → (∃ n22_, n22_ ≤ 9 ∧ PL_LAW_now_78 n22_ v0 y1 0 Q)) ∧ (¬ 8 ≤ y3 → P_LAW_base y3 v0 (fun r23_ => (((6 ≤ y3 → (fun y1 y3 => PL_LAW_now_32 n v0 y1 y3  Q) (((31 * y1) + r23_) + 0) (y3 + 1)) ∧ (¬ 6 ≤ y3 → P_LAW_setting y3 v0 (fun r29_ => ((fun y1 y3 => PL_LAW_now_32 n v0 y1 y3  Q) (((31 * y1) + r23_) + (97 * r29_)) (y3 + 1)))))))))
def PL_LAW_now_6 : Nat → TT → Int64 → Int32 → (Int64 → Prop) → Prop
  | 0, _, _, _, _ => False
  | n + 1, v0, y1, y3, Q => ((12 ≤ y3 → (∃ n34_, n34_ ≤ 9 ∧ PL_LAW_now_32 n34_ v0 y1 0 Q)) ∧ (¬ 12 ≤ y3 → P_LAW_about y3 v0 (fun r35_ => ((fun y1 y3 => PL_LAW_now_6 n v0 y1 y3  Q) ((31 * y1) + r35_) (y3 + 1)))))
def P_LAW_now (v0 : TT) (Q : Int64 → Prop) : Prop := (∃ n40_, n40_ ≤ 13 ∧ PL_LAW_now_6 n40_ v0 131 0 Q)
set_option maxRecDepth 100000 in
theorem s_LAW_now {l : Launch} {D : zD} {B : Nat} {sa : Nat → Nat} (hfl : l.stackTraces = false) {z : Nat} {G : zG} {b0 : Nat} {v0 : TT} {Q : Int64 → Prop} (h0 : TA b0 v0 G) (h : P_LAW_now v0 Q) : zSp l D B sa yL_now cL_now 7 (some .long) 8 151 202 1212 [.ref b0] z G (zRl fun r z' G' => G = G' ∧ Q r) := by
  unfold P_LAW_now at h
  refine z_ofW (by decide +kernel) hfl [some (.ref b0), none, none, none, none, none, none] rfl (Nat.le_of_ble_eq_true rfl) (fun p e s m args below meth c O hret hlk hnm => ?_)
  have O : zO p l s m args c D B sa 7 cL_now RL := O
  have hk0 : 0 + (202 + 0) ≤ 202 ∧ 0 + 6 * (202 + 0) ≤ 1212 := ⟨Nat.le_of_ble_eq_true rfl, Nat.le_of_ble_eq_true rfl⟩
  have HL104 : ∀ (n9 : Nat)  (K78 : Int64 → Int32 → Prop) (Y78 : Nat) (hK78 : ∀ (a0 : Int64) (a1 : Int32) (z9 k9 m9 : Nat) (hk9 : k9 + (0 + Y78) ≤ 202 ∧ m9 + 6 * (0 + Y78) ≤ 1212), K78 a0 a1 → zT p l e (zrm 8 151 202 1212) s m args below meth c (zEnd below D B (zRl fun r z' G' => G = G' ∧ Q r) args s 202 1212) D B 7 k9 m9 78 [] [some (.ref b0), some (.long a0), none, some (.int a1), none, none, none] z9 G) (y1 : Int64) (y3 : Int32) (y4 : Int64) (y6 : Int32) (z9 k9 m9 : Nat) (hk : k9 + (0 + (n9 * 2 + Y78)) ≤ 202 ∧ m9 + 6 * (0 + (n9 * 2 + Y78)) ≤ 1212) (h : PL_LAW_now_104 n9 v0 y1 y3 y4 y6 K78 Q), zT p l e (zrm 8 151 202 1212) s m args below meth c (zEnd below D B (zRl fun r z' G' => G = G' ∧ Q r) args s 202 1212) D B 7 k9 m9 104 [] [some (.ref b0), some (.long y1), none, some (.int y3), some (.long y4), none, some (.int y6)] z9 G := by
    intro n9 K78 Y78 hK78
    induction n9 with
    | zero =>
      intro _ _ _ _ _ _ _ _ h
      exact (h : False).elim
    | succ n ih =>
      intro y1 y3 y4 y6 z9 k9 m9 hk h
      rw [PL_LAW_now_104] at h
      have hk2 := lk_succ hk
      refine z_iload O dL_now_104 rfl ?_
      refine z_bipush (v := 9) O dL_now_106 (by decide) ?_
      refine z_icmp_ge (tgt := 154) O dL_now_108 (by decide) (fun c9_ => ?_) (fun c9_ => ?_)
      · have h := h.1 c9_
        refine z_iinc (v := (y3 + 1)) (L' := [some (.ref b0), some (.long y1), none, some (.int (y3 + 1)), some (.long y4), none, some (.int y6)]) O dL_now_154 rfl (by first | rfl | decide) (by decide) rfl ?_
        refine z_goto (tgt := 78) O dL_now_157 (by decide) ?_
        exact z_subL (L' := [some (.ref b0), some (.long y1), none, some (.int (y3 + 1)), none, none, none]) (zLe.sub (And.intro rfl (And.intro rfl (And.intro rfl True.intro)))) (hK78 y1 (y3 + 1) _ _ _ (lk_weak hk2 (c' := 0) (Nat.le_of_ble_eq_true rfl) (Nat.le_add_left _ _)) h)
      · have h := h.2 c9_
        refine z_lload O dL_now_111 rfl ?_
        refine z_ldc2 (v := (-9000000000000000001)) O wc_RL_36 dL_now_113 ?_
        refine z_lcmp O dL_now_116 ?_
        refine z_if_eq (tgt := 154) O dL_now_117 (by decide) (fun c10_ => ?_) (fun c10_ => ?_)
        · have h := h.1 c10_
          refine z_iinc (v := (y3 + 1)) (L' := [some (.ref b0), some (.long y1), none, some (.int (y3 + 1)), some (.long y4), none, some (.int y6)]) O dL_now_154 rfl (by first | rfl | decide) (by decide) rfl ?_
          refine z_goto (tgt := 78) O dL_now_157 (by decide) ?_
          exact z_subL (L' := [some (.ref b0), some (.long y1), none, some (.int (y3 + 1)), none, none, none]) (zLe.sub (And.intro rfl (And.intro rfl (And.intro rfl True.intro)))) (hK78 y1 (y3 + 1) _ _ _ (lk_weak hk2 (c' := 0) (Nat.le_of_ble_eq_true rfl) (Nat.le_add_left _ _)) h)
        · have h := h.2 c10_
          refine z_ldc2 (v := 31) O wc_RL_108 dL_now_120 ?_
          refine z_lload_n O dL_now_123 rfl rfl ?_
          refine z_lmul O dL_now_124 ?_
          refine z_aload_n O dL_now_125 rfl rfl ?_
          refine z_iload_n O dL_now_126 rfl rfl ?_
          refine z_iload O dL_now_127 rfl ?_
          have hk12_ := lk_step 1 1 hk2 (Nat.le_of_ble_eq_true rfl)
          refine z_callHl (As := [.ref b0, .int y3, .int y6]) (st := [.long (31 * y1)]) O (s_LAW_readerOf hfl h0 h) wh_L_readerOf wl_RL_121 dL_now_129 rfl rfl ⟨Nat.le_of_ble_eq_true rfl, Nat.le_of_ble_eq_true rfl⟩ (Nat.le_of_ble_eq_true rfl) ⟨lk_k hk12_, lk_n hk12_⟩ (fun r11_ z13_ G14_ hq15_ => ?_)
          obtain ⟨rfl, h⟩ := hq15_
          refine z_ladd O dL_now_132 ?_
          refine z_ldc2 (v := 89) O wc_RL_124 dL_now_133 ?_
          refine z_aload_n O dL_now_136 rfl rfl ?_
          refine z_iload_n O dL_now_137 rfl rfl ?_
          refine z_iload O dL_now_138 rfl ?_
          refine z_iconst (v := 1) O dL_now_140 (by decide) ?_
          refine z_isub O dL_now_141 ?_
          have hk17_ := lk_step 1 0 hk12_ (Nat.le_of_ble_eq_true rfl)
          refine z_callHl (As := [.ref b0, .int y3, .int (y6 - 1)]) (st := [.long 89, .long ((31 * y1) + r11_)]) O (s_LAW_table hfl h0 h) wh_L_table wl_RL_126 dL_now_142 rfl rfl ⟨Nat.le_of_ble_eq_true rfl, Nat.le_of_ble_eq_true rfl⟩ (Nat.le_of_ble_eq_true rfl) ⟨lk_k hk17_, lk_n hk17_⟩ (fun r16_ z18_ G19_ hq20_ => ?_)
          obtain ⟨rfl, h⟩ := hq20_
          refine z_lmul O dL_now_145 ?_
          refine z_ladd O dL_now_146 ?_
          refine z_lstore_n (L' := [some (.ref b0), some (.long (((31 * y1) + r11_) + (89 * r16_))), none, some (.int y3), some (.long y4), none, some (.int y6)]) O dL_now_147 rfl (by decide) rfl ?_
          refine z_iinc (v := (y6 + 1)) (L' := [some (.ref b0), some (.long (((31 * y1) + r11_) + (89 * r16_))), none, some (.int y3), some (.long y4), none, some (.int (y6 + 1))]) O dL_now_148 rfl (by first | rfl | decide) (by decide) rfl ?_
          refine z_goto (tgt := 104) O dL_now_151 (by decide) ?_
          exact z_subL (L' := [some (.ref b0), some (.long (((31 * y1) + r11_) + (89 * r16_))), none, some (.int y3), some (.long y4), none, some (.int (y6 + 1))]) (zLe.sub (And.intro rfl (And.intro rfl (And.intro rfl (And.intro rfl (And.intro rfl True.intro)))))) (ih (((31 * y1) + r11_) + (89 * r16_)) y3 y4 (y6 + 1) _ _ _ (lk_weak hk17_ (c' := 0) (Nat.le_of_ble_eq_true rfl) (Nat.le_refl _)) h)
  have HL78 : ∀ (n9 : Nat)     (y1 : Int64) (y3 : Int32) (z9 k9 m9 : Nat) (hk : k9 + (0 + (n9 * 19 + 0)) ≤ 202 ∧ m9 + 6 * (0 + (n9 * 19 + 0)) ≤ 1212) (h : PL_LAW_now_78 n9 v0 y1 y3 Q), zT p l e (zrm 8 151 202 1212) s m args below meth c (zEnd below D B (zRl fun r z' G' => G = G' ∧ Q r) args s 202 1212) D B 7 k9 m9 78 [] [some (.ref b0), some (.long y1), none, some (.int y3), none, none, none] z9 G := by
    intro n9 
    induction n9 with
    | zero =>
      intro _ _ _ _ _ _ h
      exact (h : False).elim
    | succ n ih =>
      intro y1 y3 z9 k9 m9 hk h
      rw [PL_LAW_now_78] at h
      have hk2 := lk_succ hk
      refine z_iload_n O dL_now_78 rfl rfl ?_
      refine z_bipush (v := 8) O dL_now_79 (by decide) ?_
      refine z_icmp_ge (tgt := 160) O dL_now_81 (by decide) (fun c3_ => ?_) (fun c3_ => ?_)
      · have h := h.1 c3_
        refine z_lload_n O dL_now_160 rfl rfl ?_
        exact z_lret O hret hlk dL_now_161 (lk_k hk2) (lk_n hk2) ⟨_, rfl, rfl, h⟩
      · have h := h.2 c3_
        refine z_aload_n O dL_now_84 rfl rfl ?_
        refine z_iload_n O dL_now_85 rfl rfl ?_
        refine z_iconst (v := 0) O dL_now_86 (by decide) ?_
        have hk5_ := lk_step 1 18 hk2 (Nat.le_of_ble_eq_true rfl)
        refine z_callHl (As := [.ref b0, .int y3, .int 0]) (st := []) O (s_LAW_readerOf hfl h0 h) wh_L_readerOf wl_RL_121 dL_now_87 rfl rfl ⟨Nat.le_of_ble_eq_true rfl, Nat.le_of_ble_eq_true rfl⟩ (Nat.le_of_ble_eq_true rfl) ⟨lk_k hk5_, lk_n hk5_⟩ (fun r4_ z6_ G7_ hq8_ => ?_)
        obtain ⟨rfl, h⟩ := hq8_
        refine z_lstore (L' := [some (.ref b0), some (.long y1), none, some (.int y3), some (.long r4_), none, none]) O dL_now_90 (by decide) rfl ?_
        refine z_ldc2 (v := 31) O wc_RL_108 dL_now_92 ?_
        refine z_lload_n O dL_now_95 rfl rfl ?_
        refine z_lmul O dL_now_96 ?_
        refine z_lload O dL_now_97 rfl ?_
        refine z_ladd O dL_now_99 ?_
        refine z_lstore_n (L' := [some (.ref b0), some (.long ((31 * y1) + r4_)), none, some (.int y3), some (.long r4_), none, none]) O dL_now_100 rfl (by decide) rfl ?_
        refine z_iconst (v := 1) O dL_now_101 (by decide) ?_
        refine z_istore (L' := [some (.ref b0), some (.long ((31 * y1) + r4_)), none, some (.int y3), some (.long r4_), none, some (.int 1)]) O dL_now_102 (by decide) rfl ?_
        obtain ⟨n21_, hbn21_, h⟩ := h
        exact z_subL (L' := [some (.ref b0), some (.long ((31 * y1) + r4_)), none, some (.int y3), some (.long r4_), none, some (.int 1)]) (zLe.sub (And.intro rfl (And.intro rfl (And.intro rfl (And.intro rfl (And.intro rfl True.intro)))))) (HL104 n21_ _ (n * 19 + 0) ih ((31 * y1) + r4_) y3 r4_ 1 _ _ _ (lk_loop hk5_ hbn21_ (I := 2) (base := 0) (Nat.le_of_ble_eq_true rfl) (Nat.le_refl _)) h)
  have HL32 : ∀ (n9 : Nat)     (y1 : Int64) (y3 : Int32) (z9 k9 m9 : Nat) (hk : k9 + (171 + (n9 * 2 + 0)) ≤ 202 ∧ m9 + 6 * (171 + (n9 * 2 + 0)) ≤ 1212) (h : PL_LAW_now_32 n9 v0 y1 y3 Q), zT p l e (zrm 8 151 202 1212) s m args below meth c (zEnd below D B (zRl fun r z' G' => G = G' ∧ Q r) args s 202 1212) D B 7 k9 m9 32 [] [some (.ref b0), some (.long y1), none, some (.int y3), none, none, none] z9 G := by
    intro n9 
    induction n9 with
    | zero =>
      intro _ _ _ _ _ _ h
      exact (h : False).elim
    | succ n ih =>
      intro y1 y3 z9 k9 m9 hk h
      rw [PL_LAW_now_32] at h
      have hk2 := lk_succ hk
      refine z_iload_n O dL_now_32 rfl rfl ?_
      refine z_bipush (v := 8) O dL_now_33 (by decide) ?_
      refine z_icmp_ge (tgt := 76) O dL_now_35 (by decide) (fun c2_ => ?_) (fun c2_ => ?_)
      · have h := h.1 c2_
        refine z_iconst (v := 0) O dL_now_76 (by decide) ?_
        refine z_istore_n (L' := [some (.ref b0), some (.long y1), none, some (.int 0), none, none, none]) O dL_now_77 rfl (by decide) rfl ?_
        obtain ⟨n22_, hbn22_, h⟩ := h
        exact z_subL (L' := [some (.ref b0), some (.long y1), none, some (.int 0), none, none, none]) (zLe.sub (And.intro rfl (And.intro rfl (And.intro rfl True.intro)))) (HL78 n22_ y1 0 _ _ _ (lk_loop hk2 hbn22_ (I := 19) (base := 0) (Nat.le_of_ble_eq_true rfl) (Nat.zero_le _)) h)
      · have h := h.2 c2_
        refine z_ldc2 (v := 31) O wc_RL_108 dL_now_38 ?_
        refine z_lload_n O dL_now_41 rfl rfl ?_
        refine z_lmul O dL_now_42 ?_
        refine z_aload_n O dL_now_43 rfl rfl ?_
        refine z_iload_n O dL_now_44 rfl rfl ?_
        have hk24_ := lk_step 1 172 hk2 (Nat.le_of_ble_eq_true rfl)
        refine z_callHl (As := [.ref b0, .int y3]) (st := [.long (31 * y1)]) O (s_LAW_base hfl h0 h) wh_L_base wl_RL_115 dL_now_45 rfl rfl ⟨Nat.le_of_ble_eq_true rfl, Nat.le_of_ble_eq_true rfl⟩ (Nat.le_of_ble_eq_true rfl) ⟨lk_k hk24_, lk_n hk24_⟩ (fun r23_ z25_ G26_ hq27_ => ?_)
        obtain ⟨rfl, h⟩ := hq27_
        refine z_ladd O dL_now_48 ?_
        refine z_iload_n O dL_now_49 rfl rfl ?_
        refine z_bipush (v := 6) O dL_now_50 (by decide) ?_
        refine z_icmp_ge (tgt := 67) O dL_now_52 (by decide) (fun c28_ => ?_) (fun c28_ => ?_)
        · have h := h.1 c28_
          refine z_lconst (v := 0) O dL_now_67 (by decide) ?_
          refine z_ladd O dL_now_68 ?_
          refine z_lstore_n (L' := [some (.ref b0), some (.long (((31 * y1) + r23_) + 0)), none, some (.int y3), none, none, none]) O dL_now_69 rfl (by decide) rfl ?_
          refine z_iinc (v := (y3 + 1)) (L' := [some (.ref b0), some (.long (((31 * y1) + r23_) + 0)), none, some (.int (y3 + 1)), none, none, none]) O dL_now_70 rfl (by first | rfl | decide) (by decide) rfl ?_
          refine z_goto (tgt := 32) O dL_now_73 (by decide) ?_
          exact z_subL (L' := [some (.ref b0), some (.long (((31 * y1) + r23_) + 0)), none, some (.int (y3 + 1)), none, none, none]) (zLe.sub (And.intro rfl (And.intro rfl (And.intro rfl True.intro)))) (ih (((31 * y1) + r23_) + 0) (y3 + 1) _ _ _ (lk_weak hk24_ (c' := 171) (Nat.le_of_ble_eq_true rfl) (Nat.le_refl _)) h)
        · have h := h.2 c28_
          refine z_ldc2 (v := 97) O wc_RL_117 dL_now_55 ?_
          refine z_aload_n O dL_now_58 rfl rfl ?_
          refine z_iload_n O dL_now_59 rfl rfl ?_
          have hk30_ := lk_step 1 171 hk24_ (Nat.le_of_ble_eq_true rfl)
          refine z_callHl (As := [.ref b0, .int y3]) (st := [.long 97, .long ((31 * y1) + r23_)]) O (s_LAW_setting hfl h0 h) wh_L_setting wl_RL_119 dL_now_60 rfl rfl ⟨Nat.le_of_ble_eq_true rfl, Nat.le_of_ble_eq_true rfl⟩ (Nat.le_of_ble_eq_true rfl) ⟨lk_k hk30_, lk_n hk30_⟩ (fun r29_ z31_ G32_ hq33_ => ?_)
          obtain ⟨rfl, h⟩ := hq33_
          refine z_lmul O dL_now_63 ?_
          refine z_goto (tgt := 68) O dL_now_64 (by decide) ?_
          refine z_ladd O dL_now_68 ?_
          refine z_lstore_n (L' := [some (.ref b0), some (.long (((31 * y1) + r23_) + (97 * r29_))), none, some (.int y3), none, none, none]) O dL_now_69 rfl (by decide) rfl ?_
          refine z_iinc (v := (y3 + 1)) (L' := [some (.ref b0), some (.long (((31 * y1) + r23_) + (97 * r29_))), none, some (.int (y3 + 1)), none, none, none]) O dL_now_70 rfl (by first | rfl | decide) (by decide) rfl ?_
          refine z_goto (tgt := 32) O dL_now_73 (by decide) ?_
          exact z_subL (L' := [some (.ref b0), some (.long (((31 * y1) + r23_) + (97 * r29_))), none, some (.int (y3 + 1)), none, none, none]) (zLe.sub (And.intro rfl (And.intro rfl (And.intro rfl True.intro)))) (ih (((31 * y1) + r23_) + (97 * r29_)) (y3 + 1) _ _ _ (lk_weak hk30_ (c' := 171) (Nat.le_of_ble_eq_true rfl) (Nat.le_refl _)) h)
  have HL6 : ∀ (n9 : Nat)     (y1 : Int64) (y3 : Int32) (z9 k9 m9 : Nat) (hk : k9 + (189 + (n9 * 1 + 0)) ≤ 202 ∧ m9 + 6 * (189 + (n9 * 1 + 0)) ≤ 1212) (h : PL_LAW_now_6 n9 v0 y1 y3 Q), zT p l e (zrm 8 151 202 1212) s m args below meth c (zEnd below D B (zRl fun r z' G' => G = G' ∧ Q r) args s 202 1212) D B 7 k9 m9 6 [] [some (.ref b0), some (.long y1), none, some (.int y3), none, none, none] z9 G := by
    intro n9 
    induction n9 with
    | zero =>
      intro _ _ _ _ _ _ h
      exact (h : False).elim
    | succ n ih =>
      intro y1 y3 z9 k9 m9 hk h
      rw [PL_LAW_now_6] at h
      have hk2 := lk_succ hk
      refine z_iload_n O dL_now_6 rfl rfl ?_
      refine z_bipush (v := 12) O dL_now_7 (by decide) ?_
      refine z_icmp_ge (tgt := 30) O dL_now_9 (by decide) (fun c1_ => ?_) (fun c1_ => ?_)
      · have h := h.1 c1_
        refine z_iconst (v := 0) O dL_now_30 (by decide) ?_
        refine z_istore_n (L' := [some (.ref b0), some (.long y1), none, some (.int 0), none, none, none]) O dL_now_31 rfl (by decide) rfl ?_
        obtain ⟨n34_, hbn34_, h⟩ := h
        exact z_subL (L' := [some (.ref b0), some (.long y1), none, some (.int 0), none, none, none]) (zLe.sub (And.intro rfl (And.intro rfl (And.intro rfl True.intro)))) (HL32 n34_ y1 0 _ _ _ (lk_loop hk2 hbn34_ (I := 2) (base := 171) (Nat.le_of_ble_eq_true rfl) (Nat.zero_le _)) h)
      · have h := h.2 c1_
        refine z_ldc2 (v := 31) O wc_RL_108 dL_now_12 ?_
        refine z_lload_n O dL_now_15 rfl rfl ?_
        refine z_lmul O dL_now_16 ?_
        refine z_aload_n O dL_now_17 rfl rfl ?_
        refine z_iload_n O dL_now_18 rfl rfl ?_
        have hk36_ := lk_step 1 189 hk2 (Nat.le_of_ble_eq_true rfl)
        refine z_callHl (As := [.ref b0, .int y3]) (st := [.long (31 * y1)]) O (s_LAW_about hfl h0 h) wh_L_about wl_RL_110 dL_now_19 rfl rfl ⟨Nat.le_of_ble_eq_true rfl, Nat.le_of_ble_eq_true rfl⟩ (Nat.le_of_ble_eq_true rfl) ⟨lk_k hk36_, lk_n hk36_⟩ (fun r35_ z37_ G38_ hq39_ => ?_)
        obtain ⟨rfl, h⟩ := hq39_
        refine z_ladd O dL_now_22 ?_
        refine z_lstore_n (L' := [some (.ref b0), some (.long ((31 * y1) + r35_)), none, some (.int y3), none, none, none]) O dL_now_23 rfl (by decide) rfl ?_
        refine z_iinc (v := (y3 + 1)) (L' := [some (.ref b0), some (.long ((31 * y1) + r35_)), none, some (.int (y3 + 1)), none, none, none]) O dL_now_24 rfl (by first | rfl | decide) (by decide) rfl ?_
        refine z_goto (tgt := 6) O dL_now_27 (by decide) ?_
        exact z_subL (L' := [some (.ref b0), some (.long ((31 * y1) + r35_)), none, some (.int (y3 + 1)), none, none, none]) (zLe.sub (And.intro rfl (And.intro rfl (And.intro rfl True.intro)))) (ih ((31 * y1) + r35_) (y3 + 1) _ _ _ (lk_weak hk36_ (c' := 189) (Nat.le_of_ble_eq_true rfl) (Nat.le_refl _)) h)
  refine z_ldc2 (v := 131) O wc_RL_106 dL_now_0 ?_
  refine z_lstore_n (L' := [some (.ref b0), some (.long 131), none, none, none, none, none]) O dL_now_3 rfl (by decide) rfl ?_
  refine z_iconst (v := 0) O dL_now_4 (by decide) ?_
  refine z_istore_n (L' := [some (.ref b0), some (.long 131), none, some (.int 0), none, none, none]) O dL_now_5 rfl (by decide) rfl ?_
  obtain ⟨n40_, hbn40_, h⟩ := h
  exact z_subL (L' := [some (.ref b0), some (.long 131), none, some (.int 0), none, none, none]) (zLe.sub (And.intro rfl (And.intro rfl (And.intro rfl True.intro)))) (HL6 n40_ 131 0 _ _ _ (lk_loop hk0 hbn40_ (I := 1) (base := 189) (Nat.le_of_ble_eq_true rfl) (Nat.le_refl _)) h)
