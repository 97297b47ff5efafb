theorem zgt_at {w : Cond} (i : Nat) (h : lw_tbl[i]? = some w) (hg : goodWord w = true) : w ∈ zgt := zgt_in (List.mem_of_getElem? h) hg
theorem wu_0_0 : u_lay RX0 TX0 0 ∈ zgt := zgt_at 226 (by decide +kernel) (by decide +kernel)
theorem wu_0_1 : u_lay RX0 TX0 1 ∈ zgt := zgt_at 228 (by decide +kernel) (by decide +kernel)
theorem wu_0_2 : u_lay RX0 TX0 2 ∈ zgt := zgt_at 230 (by decide +kernel) (by decide +kernel)
theorem wu_1_0 : u_lay RX1 TX1 0 ∈ zgt := zgt_at 95 (by decide +kernel) (by decide +kernel)
theorem wu_1_1 : u_lay RX1 TX1 1 ∈ zgt := zgt_at 97 (by decide +kernel) (by decide +kernel)
theorem wu_1_10 : u_lay RX1 TX1 10 ∈ zgt := zgt_at 115 (by decide +kernel) (by decide +kernel)
theorem wu_1_2 : u_lay RX1 TX1 2 ∈ zgt := zgt_at 99 (by decide +kernel) (by decide +kernel)
theorem wu_1_3 : u_lay RX1 TX1 3 ∈ zgt := zgt_at 101 (by decide +kernel) (by decide +kernel)
theorem wu_1_4 : u_lay RX1 TX1 4 ∈ zgt := zgt_at 103 (by decide +kernel) (by decide +kernel)
theorem wu_1_5 : u_lay RX1 TX1 5 ∈ zgt := zgt_at 105 (by decide +kernel) (by decide +kernel)
theorem wu_1_6 : u_lay RX1 TX1 6 ∈ zgt := zgt_at 107 (by decide +kernel) (by decide +kernel)
theorem wu_1_7 : u_lay RX1 TX1 7 ∈ zgt := zgt_at 109 (by decide +kernel) (by decide +kernel)
theorem wu_1_8 : u_lay RX1 TX1 8 ∈ zgt := zgt_at 111 (by decide +kernel) (by decide +kernel)
theorem wu_1_9 : u_lay RX1 TX1 9 ∈ zgt := zgt_at 113 (by decide +kernel) (by decide +kernel)
theorem wu_2_0 : u_lay RX2 TX2 0 ∈ zgt := zgt_at 145 (by decide +kernel) (by decide +kernel)
theorem wu_2_1 : u_lay RX2 TX2 1 ∈ zgt := zgt_at 147 (by decide +kernel) (by decide +kernel)
theorem wu_2_2 : u_lay RX2 TX2 2 ∈ zgt := zgt_at 149 (by decide +kernel) (by decide +kernel)
theorem wu_2_3 : u_lay RX2 TX2 3 ∈ zgt := zgt_at 151 (by decide +kernel) (by decide +kernel)
theorem wu_2_4 : u_lay RX2 TX2 4 ∈ zgt := zgt_at 153 (by decide +kernel) (by decide +kernel)
theorem wu_2_5 : u_lay RX2 TX2 5 ∈ zgt := zgt_at 155 (by decide +kernel) (by decide +kernel)
theorem wu_2_6 : u_lay RX2 TX2 6 ∈ zgt := zgt_at 157 (by decide +kernel) (by decide +kernel)
theorem wu_2_7 : u_lay RX2 TX2 7 ∈ zgt := zgt_at 159 (by decide +kernel) (by decide +kernel)
theorem wu_2_8 : u_lay RX2 TX2 8 ∈ zgt := zgt_at 161 (by decide +kernel) (by decide +kernel)
theorem wu_3_0 : u_lay RX3 TX3 0 ∈ zgt := zgt_at 198 (by decide +kernel) (by decide +kernel)
theorem wu_3_1 : u_lay RX3 TX3 1 ∈ zgt := zgt_at 200 (by decide +kernel) (by decide +kernel)
theorem wu_3_2 : u_lay RX3 TX3 2 ∈ zgt := zgt_at 202 (by decide +kernel) (by decide +kernel)
theorem wu_3_3 : u_lay RX3 TX3 3 ∈ zgt := zgt_at 204 (by decide +kernel) (by decide +kernel)
theorem wu_3_4 : u_lay RX3 TX3 4 ∈ zgt := zgt_at 206 (by decide +kernel) (by decide +kernel)
theorem wu_3_5 : u_lay RX3 TX3 5 ∈ zgt := zgt_at 208 (by decide +kernel) (by decide +kernel)
theorem wu_3_6 : u_lay RX3 TX3 6 ∈ zgt := zgt_at 210 (by decide +kernel) (by decide +kernel)
theorem wu_4_0 : u_lay RX4 TX4 0 ∈ zgt := zgt_at 41 (by decide +kernel) (by decide +kernel)
theorem wu_4_1 : u_lay RX4 TX4 1 ∈ zgt := zgt_at 43 (by decide +kernel) (by decide +kernel)
theorem wu_4_2 : u_lay RX4 TX4 2 ∈ zgt := zgt_at 45 (by decide +kernel) (by decide +kernel)
theorem wu_4_3 : u_lay RX4 TX4 3 ∈ zgt := zgt_at 47 (by decide +kernel) (by decide +kernel)
theorem wu_4_4 : u_lay RX4 TX4 4 ∈ zgt := zgt_at 49 (by decide +kernel) (by decide +kernel)
theorem wu_4_5 : u_lay RX4 TX4 5 ∈ zgt := zgt_at 51 (by decide +kernel) (by decide +kernel)
theorem wu_4_6 : u_lay RX4 TX4 6 ∈ zgt := zgt_at 53 (by decide +kernel) (by decide +kernel)
theorem wu_4_7 : u_lay RX4 TX4 7 ∈ zgt := zgt_at 55 (by decide +kernel) (by decide +kernel)
theorem wu_5_0 : u_lay RX5 TX5 0 ∈ zgt := zgt_at 239 (by decide +kernel) (by decide +kernel)
theorem wu_5_1 : u_lay RX5 TX5 1 ∈ zgt := zgt_at 241 (by decide +kernel) (by decide +kernel)
theorem wu_5_2 : u_lay RX5 TX5 2 ∈ zgt := zgt_at 243 (by decide +kernel) (by decide +kernel)
theorem wu_5_3 : u_lay RX5 TX5 3 ∈ zgt := zgt_at 245 (by decide +kernel) (by decide +kernel)
theorem wu_5_4 : u_lay RX5 TX5 4 ∈ zgt := zgt_at 247 (by decide +kernel) (by decide +kernel)
theorem wu_5_5 : u_lay RX5 TX5 5 ∈ zgt := zgt_at 249 (by decide +kernel) (by decide +kernel)
theorem wu_0 : ∀ w ∈ u_ws RX0 TX0 3, w ∈ zgt := by
  show ∀ w ∈ ([u_lay RX0 TX0 0, u_lay RX0 TX0 1, u_lay RX0 TX0 2] : List Cond), w ∈ zgt
  exact List.forall_mem_cons.mpr ⟨wu_0_0, List.forall_mem_cons.mpr ⟨wu_0_1, List.forall_mem_cons.mpr ⟨wu_0_2, fun _ h => absurd h List.not_mem_nil⟩⟩⟩
theorem wu_1 : ∀ w ∈ u_ws RX1 TX1 11, w ∈ zgt := by
  show ∀ w ∈ ([u_lay RX1 TX1 0, u_lay RX1 TX1 1, u_lay RX1 TX1 2, u_lay RX1 TX1 3, u_lay RX1 TX1 4, u_lay RX1 TX1 5, u_lay RX1 TX1 6, u_lay RX1 TX1 7, u_lay RX1 TX1 8, u_lay RX1 TX1 9, u_lay RX1 TX1 10] : List Cond), w ∈ zgt
  exact List.forall_mem_cons.mpr ⟨wu_1_0, List.forall_mem_cons.mpr ⟨wu_1_1, List.forall_mem_cons.mpr ⟨wu_1_2, List.forall_mem_cons.mpr ⟨wu_1_3, List.forall_mem_cons.mpr ⟨wu_1_4, List.forall_mem_cons.mpr ⟨wu_1_5, List.forall_mem_cons.mpr ⟨wu_1_6, List.forall_mem_cons.mpr ⟨wu_1_7, List.forall_mem_cons.mpr ⟨wu_1_8, List.forall_mem_cons.mpr ⟨wu_1_9, List.forall_mem_cons.mpr ⟨wu_1_10, fun _ h => absurd h List.not_mem_nil⟩⟩⟩⟩⟩⟩⟩⟩⟩⟩⟩
theorem wu_2 : ∀ w ∈ u_ws RX2 TX2 9, w ∈ zgt := by
  show ∀ w ∈ ([u_lay RX2 TX2 0, u_lay RX2 TX2 1, u_lay RX2 TX2 2, u_lay RX2 TX2 3, u_lay RX2 TX2 4, u_lay RX2 TX2 5, u_lay RX2 TX2 6, u_lay RX2 TX2 7, u_lay RX2 TX2 8] : List Cond), w ∈ zgt
  exact List.forall_mem_cons.mpr ⟨wu_2_0, List.forall_mem_cons.mpr ⟨wu_2_1, List.forall_mem_cons.mpr ⟨wu_2_2, List.forall_mem_cons.mpr ⟨wu_2_3, List.forall_mem_cons.mpr ⟨wu_2_4, List.forall_mem_cons.mpr ⟨wu_2_5, List.forall_mem_cons.mpr ⟨wu_2_6, List.forall_mem_cons.mpr ⟨wu_2_7, List.forall_mem_cons.mpr ⟨wu_2_8, fun _ h => absurd h List.not_mem_nil⟩⟩⟩⟩⟩⟩⟩⟩⟩
theorem wu_3 : ∀ w ∈ u_ws RX3 TX3 7, w ∈ zgt := by
  show ∀ w ∈ ([u_lay RX3 TX3 0, u_lay RX3 TX3 1, u_lay RX3 TX3 2, u_lay RX3 TX3 3, u_lay RX3 TX3 4, u_lay RX3 TX3 5, u_lay RX3 TX3 6] : List Cond), w ∈ zgt
  exact List.forall_mem_cons.mpr ⟨wu_3_0, List.forall_mem_cons.mpr ⟨wu_3_1, List.forall_mem_cons.mpr ⟨wu_3_2, List.forall_mem_cons.mpr ⟨wu_3_3, List.forall_mem_cons.mpr ⟨wu_3_4, List.forall_mem_cons.mpr ⟨wu_3_5, List.forall_mem_cons.mpr ⟨wu_3_6, fun _ h => absurd h List.not_mem_nil⟩⟩⟩⟩⟩⟩⟩
theorem wu_4 : ∀ w ∈ u_ws RX4 TX4 8, w ∈ zgt := by
  show ∀ w ∈ ([u_lay RX4 TX4 0, u_lay RX4 TX4 1, u_lay RX4 TX4 2, u_lay RX4 TX4 3, u_lay RX4 TX4 4, u_lay RX4 TX4 5, u_lay RX4 TX4 6, u_lay RX4 TX4 7] : List Cond), w ∈ zgt
  exact List.forall_mem_cons.mpr ⟨wu_4_0, List.forall_mem_cons.mpr ⟨wu_4_1, List.forall_mem_cons.mpr ⟨wu_4_2, List.forall_mem_cons.mpr ⟨wu_4_3, List.forall_mem_cons.mpr ⟨wu_4_4, List.forall_mem_cons.mpr ⟨wu_4_5, List.forall_mem_cons.mpr ⟨wu_4_6, List.forall_mem_cons.mpr ⟨wu_4_7, fun _ h => absurd h List.not_mem_nil⟩⟩⟩⟩⟩⟩⟩⟩
theorem wu_5 : ∀ w ∈ u_ws RX5 TX5 6, w ∈ zgt := by
  show ∀ w ∈ ([u_lay RX5 TX5 0, u_lay RX5 TX5 1, u_lay RX5 TX5 2, u_lay RX5 TX5 3, u_lay RX5 TX5 4, u_lay RX5 TX5 5] : List Cond), w ∈ zgt
  exact List.forall_mem_cons.mpr ⟨wu_5_0, List.forall_mem_cons.mpr ⟨wu_5_1, List.forall_mem_cons.mpr ⟨wu_5_2, List.forall_mem_cons.mpr ⟨wu_5_3, List.forall_mem_cons.mpr ⟨wu_5_4, List.forall_mem_cons.mpr ⟨wu_5_5, fun _ h => absurd h List.not_mem_nil⟩⟩⟩⟩⟩⟩
theorem wc_RX5_222 : Cond.constantLong RX5 222 1000000 ∈ zgt := (zgt_at 827 (by decide +kernel) (by decide +kernel))
theorem wc_RX5_230 : Cond.constantLong RX5 230 6364136223846793005 ∈ zgt := (zgt_at 850 (by decide +kernel) (by decide +kernel))
theorem wc_RX5_232 : Cond.constantLong RX5 232 1442695040888963407 ∈ zgt := (zgt_at 851 (by decide +kernel) (by decide +kernel))
theorem wc_RX5_276 : Cond.constant RX5 276 100000 ∈ zgt := (zgt_at 832 (by decide +kernel) (by decide +kernel))
theorem wf_RX0_11 : zFl RX0 11 0 0 := ⟨RX0, TX0, 3, rfl, by decide, by decide, wu_0, (zgt_at 222 (by decide +kernel) (by decide +kernel))⟩
theorem wf_RX0_18 : zFl RX0 18 0 1 := ⟨RX0, TX0, 3, rfl, by decide, by decide, wu_0, (zgt_at 223 (by decide +kernel) (by decide +kernel))⟩
theorem wf_RX0_22 : zFl RX0 22 0 2 := ⟨RX0, TX0, 3, rfl, by decide, by decide, wu_0, (zgt_at 224 (by decide +kernel) (by decide +kernel))⟩
theorem wf_RX1_15 : zFl RX1 15 1 1 := ⟨RX1, TX1, 11, rfl, by decide, by decide, wu_1, (zgt_at 73 (by decide +kernel) (by decide +kernel))⟩
theorem wf_RX1_18 : zFl RX1 18 1 2 := ⟨RX1, TX1, 11, rfl, by decide, by decide, wu_1, (zgt_at 75 (by decide +kernel) (by decide +kernel))⟩
theorem wf_RX1_21 : zFl RX1 21 1 3 := ⟨RX1, TX1, 11, rfl, by decide, by decide, wu_1, (zgt_at 77 (by decide +kernel) (by decide +kernel))⟩
theorem wf_RX1_24 : zFl RX1 24 1 4 := ⟨RX1, TX1, 11, rfl, by decide, by decide, wu_1, (zgt_at 78 (by decide +kernel) (by decide +kernel))⟩
theorem wf_RX1_27 : zFl RX1 27 1 5 := ⟨RX1, TX1, 11, rfl, by decide, by decide, wu_1, (zgt_at 79 (by decide +kernel) (by decide +kernel))⟩
theorem wf_RX1_30 : zFl RX1 30 1 6 := ⟨RX1, TX1, 11, rfl, by decide, by decide, wu_1, (zgt_at 82 (by decide +kernel) (by decide +kernel))⟩
theorem wf_RX1_34 : zFl RX1 34 1 7 := ⟨RX1, TX1, 11, rfl, by decide, by decide, wu_1, (zgt_at 85 (by decide +kernel) (by decide +kernel))⟩
theorem wf_RX1_37 : zFl RX1 37 1 8 := ⟨RX1, TX1, 11, rfl, by decide, by decide, wu_1, (zgt_at 88 (by decide +kernel) (by decide +kernel))⟩
theorem wf_RX1_40 : zFl RX1 40 1 9 := ⟨RX1, TX1, 11, rfl, by decide, by decide, wu_1, (zgt_at 91 (by decide +kernel) (by decide +kernel))⟩
theorem wf_RX1_43 : zFl RX1 43 1 10 := ⟨RX1, TX1, 11, rfl, by decide, by decide, wu_1, (zgt_at 92 (by decide +kernel) (by decide +kernel))⟩
theorem wf_RX1_9 : zFl RX1 9 1 0 := ⟨RX1, TX1, 11, rfl, by decide, by decide, wu_1, (zgt_at 71 (by decide +kernel) (by decide +kernel))⟩
theorem wf_RX2_15 : zFl RX2 15 2 1 := ⟨RX2, TX2, 9, rfl, by decide, by decide, wu_2, (zgt_at 129 (by decide +kernel) (by decide +kernel))⟩
theorem wf_RX2_19 : zFl RX2 19 2 2 := ⟨RX2, TX2, 9, rfl, by decide, by decide, wu_2, (zgt_at 131 (by decide +kernel) (by decide +kernel))⟩
theorem wf_RX2_22 : zFl RX2 22 2 3 := ⟨RX2, TX2, 9, rfl, by decide, by decide, wu_2, (zgt_at 133 (by decide +kernel) (by decide +kernel))⟩
theorem wf_RX2_29 : zFl RX2 29 2 4 := ⟨RX2, TX2, 9, rfl, by decide, by decide, wu_2, (zgt_at 135 (by decide +kernel) (by decide +kernel))⟩
theorem wf_RX2_33 : zFl RX2 33 2 5 := ⟨RX2, TX2, 9, rfl, by decide, by decide, wu_2, (zgt_at 137 (by decide +kernel) (by decide +kernel))⟩
theorem wf_RX2_36 : zFl RX2 36 2 6 := ⟨RX2, TX2, 9, rfl, by decide, by decide, wu_2, (zgt_at 139 (by decide +kernel) (by decide +kernel))⟩
theorem wf_RX2_39 : zFl RX2 39 2 7 := ⟨RX2, TX2, 9, rfl, by decide, by decide, wu_2, (zgt_at 141 (by decide +kernel) (by decide +kernel))⟩
theorem wf_RX2_42 : zFl RX2 42 2 8 := ⟨RX2, TX2, 9, rfl, by decide, by decide, wu_2, (zgt_at 143 (by decide +kernel) (by decide +kernel))⟩
theorem wf_RX2_9 : zFl RX2 9 2 0 := ⟨RX2, TX2, 9, rfl, by decide, by decide, wu_2, (zgt_at 126 (by decide +kernel) (by decide +kernel))⟩
theorem wf_RX3_109 : zFl RX3 109 1 10 := ⟨RX1, TX1, 11, rfl, by decide, by decide, wu_1, (zgt_at 93 (by decide +kernel) (by decide +kernel))⟩
theorem wf_RX3_12 : zFl RX3 12 3 0 := ⟨RX3, TX3, 7, rfl, by decide, by decide, wu_3, (zgt_at 187 (by decide +kernel) (by decide +kernel))⟩
theorem wf_RX3_125 : zFl RX3 125 2 5 := ⟨RX2, TX2, 9, rfl, by decide, by decide, wu_2, (zgt_at 138 (by decide +kernel) (by decide +kernel))⟩
theorem wf_RX3_128 : zFl RX3 128 2 6 := ⟨RX2, TX2, 9, rfl, by decide, by decide, wu_2, (zgt_at 140 (by decide +kernel) (by decide +kernel))⟩
theorem wf_RX3_131 : zFl RX3 131 2 7 := ⟨RX2, TX2, 9, rfl, by decide, by decide, wu_2, (zgt_at 142 (by decide +kernel) (by decide +kernel))⟩
theorem wf_RX3_142 : zFl RX3 142 2 8 := ⟨RX2, TX2, 9, rfl, by decide, by decide, wu_2, (zgt_at 144 (by decide +kernel) (by decide +kernel))⟩
theorem wf_RX3_149 : zFl RX3 149 1 2 := ⟨RX1, TX1, 11, rfl, by decide, by decide, wu_1, (zgt_at 76 (by decide +kernel) (by decide +kernel))⟩
theorem wf_RX3_170 : zFl RX3 170 2 2 := ⟨RX2, TX2, 9, rfl, by decide, by decide, wu_2, (zgt_at 132 (by decide +kernel) (by decide +kernel))⟩
theorem wf_RX3_20 : zFl RX3 20 3 1 := ⟨RX3, TX3, 7, rfl, by decide, by decide, wu_3, (zgt_at 189 (by decide +kernel) (by decide +kernel))⟩
theorem wf_RX3_209 : zFl RX3 209 1 5 := ⟨RX1, TX1, 11, rfl, by decide, by decide, wu_1, (zgt_at 81 (by decide +kernel) (by decide +kernel))⟩
theorem wf_RX3_212 : zFl RX3 212 2 0 := ⟨RX2, TX2, 9, rfl, by decide, by decide, wu_2, (zgt_at 128 (by decide +kernel) (by decide +kernel))⟩
theorem wf_RX3_235 : zFl RX3 235 1 0 := ⟨RX1, TX1, 11, rfl, by decide, by decide, wu_1, (zgt_at 72 (by decide +kernel) (by decide +kernel))⟩
theorem wf_RX3_238 : zFl RX3 238 1 1 := ⟨RX1, TX1, 11, rfl, by decide, by decide, wu_1, (zgt_at 74 (by decide +kernel) (by decide +kernel))⟩
theorem wf_RX3_24 : zFl RX3 24 3 2 := ⟨RX3, TX3, 7, rfl, by decide, by decide, wu_3, (zgt_at 190 (by decide +kernel) (by decide +kernel))⟩
theorem wf_RX3_41 : zFl RX3 41 3 3 := ⟨RX3, TX3, 7, rfl, by decide, by decide, wu_3, (zgt_at 192 (by decide +kernel) (by decide +kernel))⟩
theorem wf_RX3_45 : zFl RX3 45 3 4 := ⟨RX3, TX3, 7, rfl, by decide, by decide, wu_3, (zgt_at 194 (by decide +kernel) (by decide +kernel))⟩
theorem wf_RX3_48 : zFl RX3 48 3 5 := ⟨RX3, TX3, 7, rfl, by decide, by decide, wu_3, (zgt_at 195 (by decide +kernel) (by decide +kernel))⟩
theorem wf_RX3_51 : zFl RX3 51 3 6 := ⟨RX3, TX3, 7, rfl, by decide, by decide, wu_3, (zgt_at 196 (by decide +kernel) (by decide +kernel))⟩
theorem wf_RX3_65 : zFl RX3 65 2 1 := ⟨RX2, TX2, 9, rfl, by decide, by decide, wu_2, (zgt_at 130 (by decide +kernel) (by decide +kernel))⟩
theorem wf_RX3_72 : zFl RX3 72 2 3 := ⟨RX2, TX2, 9, rfl, by decide, by decide, wu_2, (zgt_at 134 (by decide +kernel) (by decide +kernel))⟩
theorem wf_RX3_75 : zFl RX3 75 2 4 := ⟨RX2, TX2, 9, rfl, by decide, by decide, wu_2, (zgt_at 136 (by decide +kernel) (by decide +kernel))⟩
theorem wf_RX3_78 : zFl RX3 78 1 6 := ⟨RX1, TX1, 11, rfl, by decide, by decide, wu_1, (zgt_at 83 (by decide +kernel) (by decide +kernel))⟩
theorem wf_RX3_89 : zFl RX3 89 1 7 := ⟨RX1, TX1, 11, rfl, by decide, by decide, wu_1, (zgt_at 86 (by decide +kernel) (by decide +kernel))⟩
theorem wf_RX3_96 : zFl RX3 96 1 8 := ⟨RX1, TX1, 11, rfl, by decide, by decide, wu_1, (zgt_at 89 (by decide +kernel) (by decide +kernel))⟩
theorem wf_RX4_15 : zFl RX4 15 4 1 := ⟨RX4, TX4, 8, rfl, by decide, by decide, wu_4, (zgt_at 34 (by decide +kernel) (by decide +kernel))⟩
theorem wf_RX4_29 : zFl RX4 29 4 3 := ⟨RX4, TX4, 8, rfl, by decide, by decide, wu_4, (zgt_at 36 (by decide +kernel) (by decide +kernel))⟩
theorem wf_RX4_33 : zFl RX4 33 4 2 := ⟨RX4, TX4, 8, rfl, by decide, by decide, wu_4, (zgt_at 35 (by decide +kernel) (by decide +kernel))⟩
theorem wf_RX4_36 : zFl RX4 36 4 4 := ⟨RX4, TX4, 8, rfl, by decide, by decide, wu_4, (zgt_at 37 (by decide +kernel) (by decide +kernel))⟩
theorem wf_RX4_39 : zFl RX4 39 4 5 := ⟨RX4, TX4, 8, rfl, by decide, by decide, wu_4, (zgt_at 38 (by decide +kernel) (by decide +kernel))⟩
theorem wf_RX4_42 : zFl RX4 42 4 6 := ⟨RX4, TX4, 8, rfl, by decide, by decide, wu_4, (zgt_at 39 (by decide +kernel) (by decide +kernel))⟩
theorem wf_RX4_45 : zFl RX4 45 4 7 := ⟨RX4, TX4, 8, rfl, by decide, by decide, wu_4, (zgt_at 40 (by decide +kernel) (by decide +kernel))⟩
theorem wf_RX4_9 : zFl RX4 9 4 0 := ⟨RX4, TX4, 8, rfl, by decide, by decide, wu_4, (zgt_at 33 (by decide +kernel) (by decide +kernel))⟩
theorem wf_RX5_10 : zFl RX5 10 5 0 := ⟨RX5, TX5, 6, rfl, by decide, by decide, wu_5, (zgt_at 233 (by decide +kernel) (by decide +kernel))⟩
theorem wf_RX5_136 : zFl RX5 136 2 0 := ⟨RX2, TX2, 9, rfl, by decide, by decide, wu_2, (zgt_at 127 (by decide +kernel) (by decide +kernel))⟩
theorem wf_RX5_146 : zFl RX5 146 1 5 := ⟨RX1, TX1, 11, rfl, by decide, by decide, wu_1, (zgt_at 80 (by decide +kernel) (by decide +kernel))⟩
theorem wf_RX5_149 : zFl RX5 149 3 2 := ⟨RX3, TX3, 7, rfl, by decide, by decide, wu_3, (zgt_at 191 (by decide +kernel) (by decide +kernel))⟩
theorem wf_RX5_160 : zFl RX5 160 0 2 := ⟨RX0, TX0, 3, rfl, by decide, by decide, wu_0, (zgt_at 225 (by decide +kernel) (by decide +kernel))⟩
theorem wf_RX5_175 : zFl RX5 175 1 6 := ⟨RX1, TX1, 11, rfl, by decide, by decide, wu_1, (zgt_at 84 (by decide +kernel) (by decide +kernel))⟩
theorem wf_RX5_178 : zFl RX5 178 1 7 := ⟨RX1, TX1, 11, rfl, by decide, by decide, wu_1, (zgt_at 87 (by decide +kernel) (by decide +kernel))⟩
theorem wf_RX5_19 : zFl RX5 19 5 1 := ⟨RX5, TX5, 6, rfl, by decide, by decide, wu_5, (zgt_at 234 (by decide +kernel) (by decide +kernel))⟩
theorem wf_RX5_211 : zFl RX5 211 1 8 := ⟨RX1, TX1, 11, rfl, by decide, by decide, wu_1, (zgt_at 90 (by decide +kernel) (by decide +kernel))⟩
theorem wf_RX5_23 : zFl RX5 23 5 2 := ⟨RX5, TX5, 6, rfl, by decide, by decide, wu_5, (zgt_at 235 (by decide +kernel) (by decide +kernel))⟩
theorem wf_RX5_238 : zFl RX5 238 1 10 := ⟨RX1, TX1, 11, rfl, by decide, by decide, wu_1, (zgt_at 94 (by decide +kernel) (by decide +kernel))⟩
theorem wf_RX5_241 : zFl RX5 241 3 6 := ⟨RX3, TX3, 7, rfl, by decide, by decide, wu_3, (zgt_at 197 (by decide +kernel) (by decide +kernel))⟩
theorem wf_RX5_258 : zFl RX5 258 3 3 := ⟨RX3, TX3, 7, rfl, by decide, by decide, wu_3, (zgt_at 193 (by decide +kernel) (by decide +kernel))⟩
theorem wf_RX5_29 : zFl RX5 29 5 3 := ⟨RX5, TX5, 6, rfl, by decide, by decide, wu_5, (zgt_at 236 (by decide +kernel) (by decide +kernel))⟩
theorem wf_RX5_33 : zFl RX5 33 5 4 := ⟨RX5, TX5, 6, rfl, by decide, by decide, wu_5, (zgt_at 237 (by decide +kernel) (by decide +kernel))⟩
theorem wf_RX5_37 : zFl RX5 37 5 5 := ⟨RX5, TX5, 6, rfl, by decide, by decide, wu_5, (zgt_at 238 (by decide +kernel) (by decide +kernel))⟩
theorem wf_RX5_90 : zFl RX5 90 3 0 := ⟨RX3, TX3, 7, rfl, by decide, by decide, wu_3, (zgt_at 188 (by decide +kernel) (by decide +kernel))⟩
theorem wl_RX0_25 : zLv RX0 25 yX0_stateAt := ⟨(zgt_at 716 (by decide +kernel) (by decide +kernel)), (zgt_at 717 (by decide +kernel) (by decide +kernel)), (zgt_at 718 (by decide +kernel) (by decide +kernel))⟩
theorem wl_RX0_29 : zLv RX0 29 yX3_takeOver := ⟨(zgt_at 720 (by decide +kernel) (by decide +kernel)), (zgt_at 555 (by decide +kernel) (by decide +kernel)), (zgt_at 556 (by decide +kernel) (by decide +kernel))⟩
theorem wl_RX1_46 : zLn RX1 46 yX5_copy := ⟨by decide +kernel, (zgt_at 179 (by decide +kernel) (by decide +kernel))⟩
theorem wl_RX1_50 : zLv RX1 50 yX1_startOf := ⟨(zgt_at 511 (by decide +kernel) (by decide +kernel)), (zgt_at 512 (by decide +kernel) (by decide +kernel)), (zgt_at 513 (by decide +kernel) (by decide +kernel))⟩
theorem wl_RX1_54 : zLn RX1 54 yX5_at := ⟨by decide +kernel, (zgt_at 416 (by decide +kernel) (by decide +kernel))⟩
theorem wl_RX1_58 : zLv RX1 58 yX1_segments := ⟨(zgt_at 682 (by decide +kernel) (by decide +kernel)), (zgt_at 504 (by decide +kernel) (by decide +kernel)), (zgt_at 505 (by decide +kernel) (by decide +kernel))⟩
theorem wl_RX1_62 : zLv RX1 62 yX1_lengthOf := ⟨(zgt_at 429 (by decide +kernel) (by decide +kernel)), (zgt_at 430 (by decide +kernel) (by decide +kernel)), (zgt_at 431 (by decide +kernel) (by decide +kernel))⟩
theorem wl_RX1_66 : zLv RX1 66 yX1_startAround := ⟨(zgt_at 678 (by decide +kernel) (by decide +kernel)), (zgt_at 679 (by decide +kernel) (by decide +kernel)), (zgt_at 680 (by decide +kernel) (by decide +kernel))⟩
theorem wl_RX1_69 : zLn RX1 69 yX5_put := ⟨by decide +kernel, (zgt_at 434 (by decide +kernel) (by decide +kernel))⟩
theorem wl_RX1_73 : zLv RX1 73 yX1_endOf := ⟨(zgt_at 527 (by decide +kernel) (by decide +kernel)), (zgt_at 508 (by decide +kernel) (by decide +kernel)), (zgt_at 509 (by decide +kernel) (by decide +kernel))⟩
theorem wl_RX2_25 : zLn RX2 25 yX5_copy := ⟨by decide +kernel, (zgt_at 179 (by decide +kernel) (by decide +kernel))⟩
theorem wl_RX3_102 : zLv RX3 102 yX3_holdersUpTo := ⟨(zgt_at 519 (by decide +kernel) (by decide +kernel)), (zgt_at 520 (by decide +kernel) (by decide +kernel)), (zgt_at 521 (by decide +kernel) (by decide +kernel))⟩
theorem wl_RX3_106 : zLv RX3 106 yX3_gapCount := ⟨(zgt_at 613 (by decide +kernel) (by decide +kernel)), (zgt_at 614 (by decide +kernel) (by decide +kernel)), (zgt_at 615 (by decide +kernel) (by decide +kernel))⟩
theorem wl_RX3_112 : zLv RX3 112 yX1_startOf := ⟨(zgt_at 696 (by decide +kernel) (by decide +kernel)), (zgt_at 512 (by decide +kernel) (by decide +kernel)), (zgt_at 513 (by decide +kernel) (by decide +kernel))⟩
theorem wl_RX3_115 : zLv RX3 115 yX1_endOf := ⟨(zgt_at 507 (by decide +kernel) (by decide +kernel)), (zgt_at 508 (by decide +kernel) (by decide +kernel)), (zgt_at 509 (by decide +kernel) (by decide +kernel))⟩
theorem wl_RX3_118 : zLv RX3 118 yX1_lengthOf := ⟨(zgt_at 697 (by decide +kernel) (by decide +kernel)), (zgt_at 430 (by decide +kernel) (by decide +kernel)), (zgt_at 431 (by decide +kernel) (by decide +kernel))⟩
theorem wl_RX3_122 : zLv RX3 122 yX3_isDue := ⟨(zgt_at 515 (by decide +kernel) (by decide +kernel)), (zgt_at 516 (by decide +kernel) (by decide +kernel)), (zgt_at 517 (by decide +kernel) (by decide +kernel))⟩
theorem wl_RX3_139 : zLv RX3 139 yX1_lengthFrom := ⟨(zgt_at 495 (by decide +kernel) (by decide +kernel)), (zgt_at 496 (by decide +kernel) (by decide +kernel)), (zgt_at 497 (by decide +kernel) (by decide +kernel))⟩
theorem wl_RX3_145 : zLn RX3 145 yX5_at := ⟨by decide +kernel, (zgt_at 416 (by decide +kernel) (by decide +kernel))⟩
theorem wl_RX3_152 : zLv RX3 152 yX3_faultOfWriting := ⟨(zgt_at 390 (by decide +kernel) (by decide +kernel)), (zgt_at 391 (by decide +kernel) (by decide +kernel)), (zgt_at 392 (by decide +kernel) (by decide +kernel))⟩
theorem wl_RX3_156 : zLv RX3 156 yX3_faultOfJoining := ⟨(zgt_at 397 (by decide +kernel) (by decide +kernel)), (zgt_at 398 (by decide +kernel) (by decide +kernel)), (zgt_at 399 (by decide +kernel) (by decide +kernel))⟩
theorem wl_RX3_160 : zLn RX3 160 yX5_isIn := ⟨by decide +kernel, (zgt_at 395 (by decide +kernel) (by decide +kernel))⟩
theorem wl_RX3_173 : zLv RX3 173 yX3_faultOf := ⟨(zgt_at 386 (by decide +kernel) (by decide +kernel)), (zgt_at 387 (by decide +kernel) (by decide +kernel)), (zgt_at 388 (by decide +kernel) (by decide +kernel))⟩
theorem wl_RX3_177 : zLv RX3 177 yX3_perform := ⟨(zgt_at 420 (by decide +kernel) (by decide +kernel)), (zgt_at 421 (by decide +kernel) (by decide +kernel)), (zgt_at 422 (by decide +kernel) (by decide +kernel))⟩
theorem wl_RX3_180 : zLv RX3 180 yX1_makeRoomFor := ⟨(zgt_at 424 (by decide +kernel) (by decide +kernel)), (zgt_at 425 (by decide +kernel) (by decide +kernel)), (zgt_at 426 (by decide +kernel) (by decide +kernel))⟩
theorem wl_RX3_184 : zLv RX3 184 yX1_add := ⟨(zgt_at 436 (by decide +kernel) (by decide +kernel)), (zgt_at 437 (by decide +kernel) (by decide +kernel)), (zgt_at 438 (by decide +kernel) (by decide +kernel))⟩
theorem wl_RX3_187 : zLv RX3 187 yX3_letIn := ⟨(zgt_at 440 (by decide +kernel) (by decide +kernel)), (zgt_at 441 (by decide +kernel) (by decide +kernel)), (zgt_at 442 (by decide +kernel) (by decide +kernel))⟩
theorem wl_RX3_191 : zLv RX3 191 yX3_letRead := ⟨(zgt_at 453 (by decide +kernel) (by decide +kernel)), (zgt_at 454 (by decide +kernel) (by decide +kernel)), (zgt_at 455 (by decide +kernel) (by decide +kernel))⟩
theorem wl_RX3_195 : zLv RX3 195 yX3_letGo := ⟨(zgt_at 466 (by decide +kernel) (by decide +kernel)), (zgt_at 467 (by decide +kernel) (by decide +kernel)), (zgt_at 468 (by decide +kernel) (by decide +kernel))⟩
theorem wl_RX3_199 : zLv RX3 199 yX3_changeHold := ⟨(zgt_at 479 (by decide +kernel) (by decide +kernel)), (zgt_at 480 (by decide +kernel) (by decide +kernel)), (zgt_at 481 (by decide +kernel) (by decide +kernel))⟩
theorem wl_RX3_203 : zLv RX3 203 yX3_change := ⟨(zgt_at 483 (by decide +kernel) (by decide +kernel)), (zgt_at 484 (by decide +kernel) (by decide +kernel)), (zgt_at 485 (by decide +kernel) (by decide +kernel))⟩
theorem wl_RX3_206 : zLv RX3 206 yX3_passTime := ⟨(zgt_at 487 (by decide +kernel) (by decide +kernel)), (zgt_at 488 (by decide +kernel) (by decide +kernel)), (zgt_at 489 (by decide +kernel) (by decide +kernel))⟩
theorem wl_RX3_215 : zLv RX3 215 yX1_toldForwards := ⟨(zgt_at 444 (by decide +kernel) (by decide +kernel)), (zgt_at 445 (by decide +kernel) (by decide +kernel)), (zgt_at 446 (by decide +kernel) (by decide +kernel))⟩
theorem wl_RX3_218 : zLn RX3 218 yX5_put := ⟨by decide +kernel, (zgt_at 434 (by decide +kernel) (by decide +kernel))⟩
theorem wl_RX3_222 : zLv RX3 222 yX2_arrive := ⟨(zgt_at 449 (by decide +kernel) (by decide +kernel)), (zgt_at 450 (by decide +kernel) (by decide +kernel)), (zgt_at 451 (by decide +kernel) (by decide +kernel))⟩
theorem wl_RX3_226 : zLv RX3 226 yX3_tellGap := ⟨(zgt_at 457 (by decide +kernel) (by decide +kernel)), (zgt_at 458 (by decide +kernel) (by decide +kernel)), (zgt_at 459 (by decide +kernel) (by decide +kernel))⟩
theorem wl_RX3_232 : zLv RX3 232 yX3_readOn := ⟨(zgt_at 462 (by decide +kernel) (by decide +kernel)), (zgt_at 463 (by decide +kernel) (by decide +kernel)), (zgt_at 464 (by decide +kernel) (by decide +kernel))⟩
theorem wl_RX3_239 : zLv RX3 239 yX2_depart := ⟨(zgt_at 470 (by decide +kernel) (by decide +kernel)), (zgt_at 471 (by decide +kernel) (by decide +kernel)), (zgt_at 472 (by decide +kernel) (by decide +kernel))⟩
theorem wl_RX3_242 : zLv RX3 242 yX3_checkHold := ⟨(zgt_at 491 (by decide +kernel) (by decide +kernel)), (zgt_at 492 (by decide +kernel) (by decide +kernel)), (zgt_at 493 (by decide +kernel) (by decide +kernel))⟩
theorem wl_RX3_245 : zLv RX3 245 yX3_firstStays := ⟨(zgt_at 499 (by decide +kernel) (by decide +kernel)), (zgt_at 500 (by decide +kernel) (by decide +kernel)), (zgt_at 501 (by decide +kernel) (by decide +kernel))⟩
theorem wl_RX3_248 : zLv RX3 248 yX1_dropFirst := ⟨(zgt_at 523 (by decide +kernel) (by decide +kernel)), (zgt_at 524 (by decide +kernel) (by decide +kernel)), (zgt_at 525 (by decide +kernel) (by decide +kernel))⟩
theorem wl_RX3_32 : zLv RX3 32 yX1_renew := ⟨(zgt_at 168 (by decide +kernel) (by decide +kernel)), (zgt_at 169 (by decide +kernel) (by decide +kernel)), (zgt_at 170 (by decide +kernel) (by decide +kernel))⟩
theorem wl_RX3_33 : zLv RX3 33 yX2_renew := ⟨(zgt_at 172 (by decide +kernel) (by decide +kernel)), (zgt_at 173 (by decide +kernel) (by decide +kernel)), (zgt_at 174 (by decide +kernel) (by decide +kernel))⟩
theorem wl_RX3_37 : zLn RX3 37 yX5_copy := ⟨by decide +kernel, (zgt_at 179 (by decide +kernel) (by decide +kernel))⟩
theorem wl_RX3_54 : zLv RX3 54 yX1_takeOver := ⟨(zgt_at 558 (by decide +kernel) (by decide +kernel)), (zgt_at 559 (by decide +kernel) (by decide +kernel)), (zgt_at 560 (by decide +kernel) (by decide +kernel))⟩
theorem wl_RX3_58 : zLv RX3 58 yX2_takeOver := ⟨(zgt_at 563 (by decide +kernel) (by decide +kernel)), (zgt_at 564 (by decide +kernel) (by decide +kernel)), (zgt_at 565 (by decide +kernel) (by decide +kernel))⟩
theorem wl_RX3_61 : zLv RX3 61 yX3_named := ⟨(zgt_at 401 (by decide +kernel) (by decide +kernel)), (zgt_at 402 (by decide +kernel) (by decide +kernel)), (zgt_at 403 (by decide +kernel) (by decide +kernel))⟩
theorem wl_RX3_69 : zLv RX3 69 yX3_reader := ⟨(zgt_at 405 (by decide +kernel) (by decide +kernel)), (zgt_at 406 (by decide +kernel) (by decide +kernel)), (zgt_at 407 (by decide +kernel) (by decide +kernel))⟩
theorem wl_RX3_81 : zLn RX3 81 yX5_asNumber := ⟨by decide +kernel, (zgt_at 303 (by decide +kernel) (by decide +kernel))⟩
theorem wl_RX3_85 : zLv RX3 85 yX3_hasGap := ⟨(zgt_at 409 (by decide +kernel) (by decide +kernel)), (zgt_at 410 (by decide +kernel) (by decide +kernel)), (zgt_at 411 (by decide +kernel) (by decide +kernel))⟩
theorem wl_RX3_92 : zLv RX3 92 yX1_segments := ⟨(zgt_at 503 (by decide +kernel) (by decide +kernel)), (zgt_at 504 (by decide +kernel) (by decide +kernel)), (zgt_at 505 (by decide +kernel) (by decide +kernel))⟩
theorem wl_RX3_99 : zLv RX3 99 yX3_readerCount := ⟨(zgt_at 474 (by decide +kernel) (by decide +kernel)), (zgt_at 475 (by decide +kernel) (by decide +kernel)), (zgt_at 476 (by decide +kernel) (by decide +kernel))⟩
theorem wl_RX4_19 : zLv RX4 19 yX4_begin := ⟨(zgt_at 270 (by decide +kernel) (by decide +kernel)), (zgt_at 271 (by decide +kernel) (by decide +kernel)), (zgt_at 272 (by decide +kernel) (by decide +kernel))⟩
theorem wl_RX4_22 : zLv RX4 22 yX4_hasMore := ⟨(zgt_at 278 (by decide +kernel) (by decide +kernel)), (zgt_at 279 (by decide +kernel) (by decide +kernel)), (zgt_at 280 (by decide +kernel) (by decide +kernel))⟩
theorem wl_RX4_26 : zLv RX4 26 yX4_understand := ⟨(zgt_at 282 (by decide +kernel) (by decide +kernel)), (zgt_at 283 (by decide +kernel) (by decide +kernel)), (zgt_at 284 (by decide +kernel) (by decide +kernel))⟩
theorem wl_RX4_48 : zLv RX4 48 yX3_attempt := ⟨(zgt_at 382 (by decide +kernel) (by decide +kernel)), (zgt_at 383 (by decide +kernel) (by decide +kernel)), (zgt_at 384 (by decide +kernel) (by decide +kernel))⟩
theorem wl_RX4_54 : zLn RX4 54 yX5_asNumber := ⟨by decide +kernel, (zgt_at 303 (by decide +kernel) (by decide +kernel))⟩
theorem wl_RX4_58 : zLv RX4 58 yX4_sign := ⟨(zgt_at 274 (by decide +kernel) (by decide +kernel)), (zgt_at 275 (by decide +kernel) (by decide +kernel)), (zgt_at 276 (by decide +kernel) (by decide +kernel))⟩
theorem wl_RX4_62 : zLv RX4 62 yX4_actionOf := ⟨(zgt_at 286 (by decide +kernel) (by decide +kernel)), (zgt_at 287 (by decide +kernel) (by decide +kernel)), (zgt_at 288 (by decide +kernel) (by decide +kernel))⟩
theorem wl_RX4_66 : zLv RX4 66 yX4_digits := ⟨(zgt_at 290 (by decide +kernel) (by decide +kernel)), (zgt_at 291 (by decide +kernel) (by decide +kernel)), (zgt_at 292 (by decide +kernel) (by decide +kernel))⟩
theorem wl_RX4_70 : zLv RX4 70 yX4_understandRest := ⟨(zgt_at 294 (by decide +kernel) (by decide +kernel)), (zgt_at 295 (by decide +kernel) (by decide +kernel)), (zgt_at 296 (by decide +kernel) (by decide +kernel))⟩
theorem wl_RX4_73 : zLv RX4 73 yX4_plusOrMinus := ⟨(zgt_at 298 (by decide +kernel) (by decide +kernel)), (zgt_at 299 (by decide +kernel) (by decide +kernel)), (zgt_at 300 (by decide +kernel) (by decide +kernel))⟩
theorem wl_RX5_107 : zLv RX5 107 yX3_holdersUpTo := ⟨(zgt_at 673 (by decide +kernel) (by decide +kernel)), (zgt_at 520 (by decide +kernel) (by decide +kernel)), (zgt_at 521 (by decide +kernel) (by decide +kernel))⟩
theorem wl_RX5_110 : zLv RX5 110 yX1_rowNumber := ⟨(zgt_at 674 (by decide +kernel) (by decide +kernel)), (zgt_at 675 (by decide +kernel) (by decide +kernel)), (zgt_at 676 (by decide +kernel) (by decide +kernel))⟩
theorem wl_RX5_114 : zLv RX5 114 yX1_segments := ⟨(zgt_at 690 (by decide +kernel) (by decide +kernel)), (zgt_at 504 (by decide +kernel) (by decide +kernel)), (zgt_at 505 (by decide +kernel) (by decide +kernel))⟩
theorem wl_RX5_119 : zLv RX5 119 yX3_segmentNumber := ⟨(zgt_at 692 (by decide +kernel) (by decide +kernel)), (zgt_at 693 (by decide +kernel) (by decide +kernel)), (zgt_at 694 (by decide +kernel) (by decide +kernel))⟩
theorem wl_RX5_122 : zLv RX5 122 yX3_reader := ⟨(zgt_at 643 (by decide +kernel) (by decide +kernel)), (zgt_at 406 (by decide +kernel) (by decide +kernel)), (zgt_at 407 (by decide +kernel) (by decide +kernel))⟩
theorem wl_RX5_130 : zLv RX5 130 yX3_readerNumber := ⟨(zgt_at 646 (by decide +kernel) (by decide +kernel)), (zgt_at 647 (by decide +kernel) (by decide +kernel)), (zgt_at 648 (by decide +kernel) (by decide +kernel))⟩
theorem wl_RX5_142 : zLs RX5 142 yX5_at := ⟨(zgt_at 626 (by decide +kernel) (by decide +kernel)), (zgt_at 416 (by decide +kernel) (by decide +kernel))⟩
theorem wl_RX5_152 : zLv RX5 152 yX5_act := ⟨(zgt_at 705 (by decide +kernel) (by decide +kernel)), (zgt_at 707 (by decide +kernel) (by decide +kernel)), (zgt_at 1 (by decide +kernel) (by decide +kernel))⟩
theorem wl_RX5_156 : zLs RX5 156 yX5_asNumber := ⟨(zgt_at 730 (by decide +kernel) (by decide +kernel)), (zgt_at 303 (by decide +kernel) (by decide +kernel))⟩
theorem wl_RX5_166 : zLv RX5 166 yX0_takeBack := ⟨(zgt_at 905 (by decide +kernel) (by decide +kernel)), (zgt_at 906 (by decide +kernel) (by decide +kernel)), (zgt_at 907 (by decide +kernel) (by decide +kernel))⟩
theorem wl_RX5_169 : zLv RX5 169 yX3_firstStays := ⟨(zgt_at 889 (by decide +kernel) (by decide +kernel)), (zgt_at 500 (by decide +kernel) (by decide +kernel)), (zgt_at 501 (by decide +kernel) (by decide +kernel))⟩
theorem wl_RX5_172 : zLv RX5 172 yX3_slowestHolder := ⟨(zgt_at 881 (by decide +kernel) (by decide +kernel)), (zgt_at 882 (by decide +kernel) (by decide +kernel)), (zgt_at 883 (by decide +kernel) (by decide +kernel))⟩
theorem wl_RX5_185 : zLv RX5 185 yX1_toldForwards := ⟨(zgt_at 799 (by decide +kernel) (by decide +kernel)), (zgt_at 445 (by decide +kernel) (by decide +kernel)), (zgt_at 446 (by decide +kernel) (by decide +kernel))⟩
theorem wl_RX5_188 : zLv RX5 188 yX1_toldBackwards := ⟨(zgt_at 800 (by decide +kernel) (by decide +kernel)), (zgt_at 801 (by decide +kernel) (by decide +kernel)), (zgt_at 802 (by decide +kernel) (by decide +kernel))⟩
theorem wl_RX5_191 : zLv RX5 191 yX5_copyToTry := ⟨(zgt_at 766 (by decide +kernel) (by decide +kernel)), (zgt_at 768 (by decide +kernel) (by decide +kernel)), (zgt_at 2 (by decide +kernel) (by decide +kernel))⟩
theorem wl_RX5_195 : zLv RX5 195 yX3_passTime := ⟨(zgt_at 774 (by decide +kernel) (by decide +kernel)), (zgt_at 488 (by decide +kernel) (by decide +kernel)), (zgt_at 489 (by decide +kernel) (by decide +kernel))⟩
theorem wl_RX5_198 : zLv RX5 198 yX3_hasHold := ⟨(zgt_at 770 (by decide +kernel) (by decide +kernel)), (zgt_at 771 (by decide +kernel) (by decide +kernel)), (zgt_at 772 (by decide +kernel) (by decide +kernel))⟩
theorem wl_RX5_201 : zLv RX5 201 yX3_attempt := ⟨(zgt_at 782 (by decide +kernel) (by decide +kernel)), (zgt_at 383 (by decide +kernel) (by decide +kernel)), (zgt_at 384 (by decide +kernel) (by decide +kernel))⟩
theorem wl_RX5_207 : zLv RX5 207 yX5_dropsNone := ⟨(zgt_at 812 (by decide +kernel) (by decide +kernel)), (zgt_at 814 (by decide +kernel) (by decide +kernel)), (zgt_at 3 (by decide +kernel) (by decide +kernel))⟩
theorem wl_RX5_216 : zLs RX5 216 yX5_withoutGroups := ⟨(zgt_at 824 (by decide +kernel) (by decide +kernel)), (zgt_at 825 (by decide +kernel) (by decide +kernel))⟩
theorem wl_RX5_224 : zLs RX5 224 yX5_succeeds := ⟨(zgt_at 829 (by decide +kernel) (by decide +kernel)), (zgt_at 830 (by decide +kernel) (by decide +kernel))⟩
theorem wl_RX5_234 : zLs RX5 234 yX5_takeTurn := ⟨(zgt_at 852 (by decide +kernel) (by decide +kernel)), (zgt_at 853 (by decide +kernel) (by decide +kernel))⟩
theorem wl_RX5_249 : zLv RX5 249 yX3_readerCount := ⟨(zgt_at 855 (by decide +kernel) (by decide +kernel)), (zgt_at 475 (by decide +kernel) (by decide +kernel)), (zgt_at 476 (by decide +kernel) (by decide +kernel))⟩
theorem wl_RX5_254 : zLv RX5 254 yX3_takeOver := ⟨(zgt_at 554 (by decide +kernel) (by decide +kernel)), (zgt_at 555 (by decide +kernel) (by decide +kernel)), (zgt_at 556 (by decide +kernel) (by decide +kernel))⟩
theorem wl_RX5_263 : zLv RX5 263 yX3_faultOf := ⟨(zgt_at 709 (by decide +kernel) (by decide +kernel)), (zgt_at 387 (by decide +kernel) (by decide +kernel)), (zgt_at 388 (by decide +kernel) (by decide +kernel))⟩
theorem wl_RX5_270 : zLv RX5 270 yX0_remember := ⟨(zgt_at 712 (by decide +kernel) (by decide +kernel)), (zgt_at 713 (by decide +kernel) (by decide +kernel)), (zgt_at 714 (by decide +kernel) (by decide +kernel))⟩
theorem wl_RX5_273 : zLv RX5 273 yX3_perform := ⟨(zgt_at 722 (by decide +kernel) (by decide +kernel)), (zgt_at 421 (by decide +kernel) (by decide +kernel)), (zgt_at 422 (by decide +kernel) (by decide +kernel))⟩
theorem wl_RX5_277 : zLv RX5 277 yX3_getsFurther := ⟨(zgt_at 833 (by decide +kernel) (by decide +kernel)), (zgt_at 834 (by decide +kernel) (by decide +kernel)), (zgt_at 835 (by decide +kernel) (by decide +kernel))⟩
theorem wl_RX5_280 : zLv RX5 280 yX3_isAtLeastAt := ⟨(zgt_at 837 (by decide +kernel) (by decide +kernel)), (zgt_at 838 (by decide +kernel) (by decide +kernel)), (zgt_at 839 (by decide +kernel) (by decide +kernel))⟩
theorem wl_RX5_41 : zLs RX5 41 yX5_isIn := ⟨(zgt_at 537 (by decide +kernel) (by decide +kernel)), (zgt_at 395 (by decide +kernel) (by decide +kernel))⟩
theorem wl_RX5_52 : zLv RX5 52 yX4_isFull := ⟨(zgt_at 864 (by decide +kernel) (by decide +kernel)), (zgt_at 865 (by decide +kernel) (by decide +kernel)), (zgt_at 866 (by decide +kernel) (by decide +kernel))⟩
theorem wl_RX5_61 : zLv RX5 61 yX4_add := ⟨(zgt_at 869 (by decide +kernel) (by decide +kernel)), (zgt_at 870 (by decide +kernel) (by decide +kernel)), (zgt_at 871 (by decide +kernel) (by decide +kernel))⟩
theorem wl_RX5_65 : zLv RX5 65 yX4_empty := ⟨(zgt_at 926 (by decide +kernel) (by decide +kernel)), (zgt_at 927 (by decide +kernel) (by decide +kernel)), (zgt_at 928 (by decide +kernel) (by decide +kernel))⟩
theorem wl_RX5_69 : zLv RX5 69 yX4_findError := ⟨(zgt_at 266 (by decide +kernel) (by decide +kernel)), (zgt_at 267 (by decide +kernel) (by decide +kernel)), (zgt_at 268 (by decide +kernel) (by decide +kernel))⟩
theorem wl_RX5_74 : zLv RX5 74 yX3_renew := ⟨(zgt_at 373 (by decide +kernel) (by decide +kernel)), (zgt_at 165 (by decide +kernel) (by decide +kernel)), (zgt_at 166 (by decide +kernel) (by decide +kernel))⟩
theorem wl_RX5_77 : zLv RX5 77 yX0_forget := ⟨(zgt_at 374 (by decide +kernel) (by decide +kernel)), (zgt_at 375 (by decide +kernel) (by decide +kernel)), (zgt_at 376 (by decide +kernel) (by decide +kernel))⟩
theorem wl_RX5_80 : zLv RX5 80 yX4_runOn := ⟨(zgt_at 378 (by decide +kernel) (by decide +kernel)), (zgt_at 379 (by decide +kernel) (by decide +kernel)), (zgt_at 380 (by decide +kernel) (by decide +kernel))⟩
theorem wl_RX5_86 : zLv RX5 86 yX3_number := ⟨(zgt_at 609 (by decide +kernel) (by decide +kernel)), (zgt_at 610 (by decide +kernel) (by decide +kernel)), (zgt_at 611 (by decide +kernel) (by decide +kernel))⟩
theorem wl_RX5_94 : zLv RX5 94 yX1_hasRow := ⟨(zgt_at 668 (by decide +kernel) (by decide +kernel)), (zgt_at 669 (by decide +kernel) (by decide +kernel)), (zgt_at 670 (by decide +kernel) (by decide +kernel))⟩
theorem wm_RX0_33 : Cond.methodLink RX0 33 Lib.Math.min.name ∈ zgt := (zgt_at 721 (by decide +kernel) (by decide +kernel))
theorem wm_RX3_134 : Cond.methodLink RX3 134 Lib.Math.max.name ∈ zgt := (zgt_at 650 (by decide +kernel) (by decide +kernel))
theorem wm_RX3_229 : Cond.methodLink RX3 229 Lib.Math.min.name ∈ zgt := (zgt_at 461 (by decide +kernel) (by decide +kernel))
theorem wm_RX5_244 : Cond.methodLink RX5 244 Lib.Math.min.name ∈ zgt := (zgt_at 181 (by decide +kernel) (by decide +kernel))
theorem wm_math : Cond.initialized "java/lang/Math" ∈ zgt := (zgt_at 10 (by decide +kernel) (by decide +kernel))
theorem wm_max_c : Cond.code Lib.Math.max.name Lib.Math.max.code 2 (some .int) ∈ zgt := (zgt_at 652 (by decide +kernel) (by decide +kernel))
theorem wm_max_s : Cond.static Lib.Math.max.name ∈ zgt := (zgt_at 651 (by decide +kernel) (by decide +kernel))
theorem wm_min_c : Cond.code Lib.Math.min.name Lib.Math.min.code 2 (some .int) ∈ zgt := (zgt_at 183 (by decide +kernel) (by decide +kernel))
theorem wm_min_s : Cond.static Lib.Math.min.name ∈ zgt := (zgt_at 182 (by decide +kernel) (by decide +kernel))
theorem wp_RX0_18 : zFp RX0 18 0 1 .int false := ⟨RX0, TX0, 3, tyX0, rfl, by decide, by decide, wu_0, (zgt_at 223 (by decide +kernel) (by decide +kernel)), tyX0_ok, nmX0, rfl, rfl, fun h => nomatch h⟩
theorem wp_RX0_22 : zFp RX0 22 0 2 .int false := ⟨RX0, TX0, 3, tyX0, rfl, by decide, by decide, wu_0, (zgt_at 224 (by decide +kernel) (by decide +kernel)), tyX0_ok, nmX0, rfl, rfl, fun h => nomatch h⟩
theorem wp_RX1_30 : zFp RX1 30 1 6 .int false := ⟨RX1, TX1, 11, tyX1, rfl, by decide, by decide, wu_1, (zgt_at 82 (by decide +kernel) (by decide +kernel)), tyX1_ok, nmX1, rfl, rfl, fun h => nomatch h⟩
theorem wp_RX1_34 : zFp RX1 34 1 7 .int false := ⟨RX1, TX1, 11, tyX1, rfl, by decide, by decide, wu_1, (zgt_at 85 (by decide +kernel) (by decide +kernel)), tyX1_ok, nmX1, rfl, rfl, fun h => nomatch h⟩
theorem wp_RX1_37 : zFp RX1 37 1 8 .int false := ⟨RX1, TX1, 11, tyX1, rfl, by decide, by decide, wu_1, (zgt_at 88 (by decide +kernel) (by decide +kernel)), tyX1_ok, nmX1, rfl, rfl, fun h => nomatch h⟩
theorem wp_RX1_40 : zFp RX1 40 1 9 .int false := ⟨RX1, TX1, 11, tyX1, rfl, by decide, by decide, wu_1, (zgt_at 91 (by decide +kernel) (by decide +kernel)), tyX1_ok, nmX1, rfl, rfl, fun h => nomatch h⟩
theorem wp_RX1_43 : zFp RX1 43 1 10 .int false := ⟨RX1, TX1, 11, tyX1, rfl, by decide, by decide, wu_1, (zgt_at 92 (by decide +kernel) (by decide +kernel)), tyX1_ok, nmX1, rfl, rfl, fun h => nomatch h⟩
theorem wp_RX2_15 : zFp RX2 15 2 1 .boolean false := ⟨RX2, TX2, 9, tyX2, rfl, by decide, by decide, wu_2, (zgt_at 129 (by decide +kernel) (by decide +kernel)), tyX2_ok, nmX2, rfl, rfl, fun h => nomatch h⟩
theorem wp_RX2_19 : zFp RX2 19 2 2 .boolean false := ⟨RX2, TX2, 9, tyX2, rfl, by decide, by decide, wu_2, (zgt_at 131 (by decide +kernel) (by decide +kernel)), tyX2_ok, nmX2, rfl, rfl, fun h => nomatch h⟩
theorem wp_RX2_22 : zFp RX2 22 2 3 .boolean false := ⟨RX2, TX2, 9, tyX2, rfl, by decide, by decide, wu_2, (zgt_at 133 (by decide +kernel) (by decide +kernel)), tyX2_ok, nmX2, rfl, rfl, fun h => nomatch h⟩
theorem wp_RX2_29 : zFp RX2 29 2 4 .int false := ⟨RX2, TX2, 9, tyX2, rfl, by decide, by decide, wu_2, (zgt_at 135 (by decide +kernel) (by decide +kernel)), tyX2_ok, nmX2, rfl, rfl, fun h => nomatch h⟩
theorem wp_RX2_33 : zFp RX2 33 2 5 .int false := ⟨RX2, TX2, 9, tyX2, rfl, by decide, by decide, wu_2, (zgt_at 137 (by decide +kernel) (by decide +kernel)), tyX2_ok, nmX2, rfl, rfl, fun h => nomatch h⟩
theorem wp_RX2_36 : zFp RX2 36 2 6 .int false := ⟨RX2, TX2, 9, tyX2, rfl, by decide, by decide, wu_2, (zgt_at 139 (by decide +kernel) (by decide +kernel)), tyX2_ok, nmX2, rfl, rfl, fun h => nomatch h⟩
theorem wp_RX2_39 : zFp RX2 39 2 7 .int false := ⟨RX2, TX2, 9, tyX2, rfl, by decide, by decide, wu_2, (zgt_at 141 (by decide +kernel) (by decide +kernel)), tyX2_ok, nmX2, rfl, rfl, fun h => nomatch h⟩
theorem wp_RX2_42 : zFp RX2 42 2 8 .int false := ⟨RX2, TX2, 9, tyX2, rfl, by decide, by decide, wu_2, (zgt_at 143 (by decide +kernel) (by decide +kernel)), tyX2_ok, nmX2, rfl, rfl, fun h => nomatch h⟩
theorem wp_RX3_125 : zFp RX3 125 2 5 .int false := ⟨RX2, TX2, 9, tyX2, rfl, by decide, by decide, wu_2, (zgt_at 138 (by decide +kernel) (by decide +kernel)), tyX2_ok, nmX2, rfl, rfl, fun h => nomatch h⟩
theorem wp_RX3_128 : zFp RX3 128 2 6 .int false := ⟨RX2, TX2, 9, tyX2, rfl, by decide, by decide, wu_2, (zgt_at 140 (by decide +kernel) (by decide +kernel)), tyX2_ok, nmX2, rfl, rfl, fun h => nomatch h⟩
theorem wp_RX3_131 : zFp RX3 131 2 7 .int false := ⟨RX2, TX2, 9, tyX2, rfl, by decide, by decide, wu_2, (zgt_at 142 (by decide +kernel) (by decide +kernel)), tyX2_ok, nmX2, rfl, rfl, fun h => nomatch h⟩
theorem wp_RX3_142 : zFp RX3 142 2 8 .int false := ⟨RX2, TX2, 9, tyX2, rfl, by decide, by decide, wu_2, (zgt_at 144 (by decide +kernel) (by decide +kernel)), tyX2_ok, nmX2, rfl, rfl, fun h => nomatch h⟩
theorem wp_RX3_41 : zFp RX3 41 3 3 .int false := ⟨RX3, TX3, 7, tyX3, rfl, by decide, by decide, wu_3, (zgt_at 192 (by decide +kernel) (by decide +kernel)), tyX3_ok, nmX3, rfl, rfl, fun h => nomatch h⟩
theorem wp_RX3_45 : zFp RX3 45 3 4 .int false := ⟨RX3, TX3, 7, tyX3, rfl, by decide, by decide, wu_3, (zgt_at 194 (by decide +kernel) (by decide +kernel)), tyX3_ok, nmX3, rfl, rfl, fun h => nomatch h⟩
theorem wp_RX3_48 : zFp RX3 48 3 5 .int false := ⟨RX3, TX3, 7, tyX3, rfl, by decide, by decide, wu_3, (zgt_at 195 (by decide +kernel) (by decide +kernel)), tyX3_ok, nmX3, rfl, rfl, fun h => nomatch h⟩
theorem wp_RX3_51 : zFp RX3 51 3 6 .int false := ⟨RX3, TX3, 7, tyX3, rfl, by decide, by decide, wu_3, (zgt_at 196 (by decide +kernel) (by decide +kernel)), tyX3_ok, nmX3, rfl, rfl, fun h => nomatch h⟩
theorem wp_RX3_72 : zFp RX3 72 2 3 .boolean false := ⟨RX2, TX2, 9, tyX2, rfl, by decide, by decide, wu_2, (zgt_at 134 (by decide +kernel) (by decide +kernel)), tyX2_ok, nmX2, rfl, rfl, fun h => nomatch h⟩
theorem wp_RX3_75 : zFp RX3 75 2 4 .int false := ⟨RX2, TX2, 9, tyX2, rfl, by decide, by decide, wu_2, (zgt_at 136 (by decide +kernel) (by decide +kernel)), tyX2_ok, nmX2, rfl, rfl, fun h => nomatch h⟩
theorem wp_RX4_15 : zFp RX4 15 4 1 .int false := ⟨RX4, TX4, 8, tyX4, rfl, by decide, by decide, wu_4, (zgt_at 34 (by decide +kernel) (by decide +kernel)), tyX4_ok, nmX4, rfl, rfl, fun h => nomatch h⟩
theorem wp_RX4_29 : zFp RX4 29 4 3 .boolean false := ⟨RX4, TX4, 8, tyX4, rfl, by decide, by decide, wu_4, (zgt_at 36 (by decide +kernel) (by decide +kernel)), tyX4_ok, nmX4, rfl, rfl, fun h => nomatch h⟩
theorem wp_RX4_33 : zFp RX4 33 4 2 .int false := ⟨RX4, TX4, 8, tyX4, rfl, by decide, by decide, wu_4, (zgt_at 35 (by decide +kernel) (by decide +kernel)), tyX4_ok, nmX4, rfl, rfl, fun h => nomatch h⟩
theorem wp_RX4_36 : zFp RX4 36 4 4 .int false := ⟨RX4, TX4, 8, tyX4, rfl, by decide, by decide, wu_4, (zgt_at 37 (by decide +kernel) (by decide +kernel)), tyX4_ok, nmX4, rfl, rfl, fun h => nomatch h⟩
theorem wp_RX4_39 : zFp RX4 39 4 5 .int false := ⟨RX4, TX4, 8, tyX4, rfl, by decide, by decide, wu_4, (zgt_at 38 (by decide +kernel) (by decide +kernel)), tyX4_ok, nmX4, rfl, rfl, fun h => nomatch h⟩
theorem wp_RX4_42 : zFp RX4 42 4 6 .int false := ⟨RX4, TX4, 8, tyX4, rfl, by decide, by decide, wu_4, (zgt_at 39 (by decide +kernel) (by decide +kernel)), tyX4_ok, nmX4, rfl, rfl, fun h => nomatch h⟩
theorem wp_RX4_45 : zFp RX4 45 4 7 .int false := ⟨RX4, TX4, 8, tyX4, rfl, by decide, by decide, wu_4, (zgt_at 40 (by decide +kernel) (by decide +kernel)), tyX4_ok, nmX4, rfl, rfl, fun h => nomatch h⟩
theorem wt_RX5_100_104 : zTw RX5 100 104 "java/lang/IndexOutOfBoundsException" := ⟨by decide +kernel, by decide +kernel, by decide +kernel, by decide +kernel⟩
theorem wt_RX5_45_49 : zTw RX5 45 49 "java/lang/IllegalArgumentException" := ⟨by decide +kernel, by decide +kernel, by decide +kernel, by decide +kernel⟩
theorem wt_RX5_56_60 : zTw RX5 56 60 "java/lang/IllegalStateException" := ⟨by decide +kernel, by decide +kernel, by decide +kernel, by decide +kernel⟩
theorem wy_X0_forget : zYw yX0_forget cX0_forget 1 none 0 := ⟨(zgt_at 377 (by decide +kernel) (by decide +kernel)), (zgt_at 12 (by decide +kernel) (by decide +kernel)), by decide +kernel, by decide +kernel, by decide +kernel⟩
theorem wy_X0_remember : zYw yX0_remember cX0_remember 3 none 1 := ⟨(zgt_at 715 (by decide +kernel) (by decide +kernel)), (zgt_at 12 (by decide +kernel) (by decide +kernel)), by decide +kernel, by decide +kernel, by decide +kernel⟩
theorem wy_X0_stateAt : zYw yX0_stateAt cX0_stateAt 2 (some (.object "TrimmedLog$State")) 1 := ⟨(zgt_at 719 (by decide +kernel) (by decide +kernel)), (zgt_at 12 (by decide +kernel) (by decide +kernel)), by decide +kernel, by decide +kernel, by decide +kernel⟩
theorem wy_X0_takeBack : zYw yX0_takeBack cX0_takeBack 2 (some .int) 1 := ⟨(zgt_at 908 (by decide +kernel) (by decide +kernel)), (zgt_at 12 (by decide +kernel) (by decide +kernel)), by decide +kernel, by decide +kernel, by decide +kernel⟩
theorem wy_X1_add : zYw yX1_add cX1_add 6 (some .int) 4 := ⟨(zgt_at 439 (by decide +kernel) (by decide +kernel)), (zgt_at 8 (by decide +kernel) (by decide +kernel)), by decide +kernel, by decide +kernel, by decide +kernel⟩
theorem wy_X1_dropFirst : zYw yX1_dropFirst cX1_dropFirst 3 none 0 := ⟨(zgt_at 526 (by decide +kernel) (by decide +kernel)), (zgt_at 8 (by decide +kernel) (by decide +kernel)), by decide +kernel, by decide +kernel, by decide +kernel⟩
theorem wy_X1_endOf : zYw yX1_endOf cX1_endOf 2 (some .int) 1 := ⟨(zgt_at 510 (by decide +kernel) (by decide +kernel)), (zgt_at 8 (by decide +kernel) (by decide +kernel)), by decide +kernel, by decide +kernel, by decide +kernel⟩
theorem wy_X1_hasRow : zYw yX1_hasRow cX1_hasRow 2 (some .boolean) 1 := ⟨(zgt_at 671 (by decide +kernel) (by decide +kernel)), (zgt_at 8 (by decide +kernel) (by decide +kernel)), by decide +kernel, by decide +kernel, by decide +kernel⟩
theorem wy_X1_lengthFrom : zYw yX1_lengthFrom cX1_lengthFrom 2 (some .int) 1 := ⟨(zgt_at 498 (by decide +kernel) (by decide +kernel)), (zgt_at 8 (by decide +kernel) (by decide +kernel)), by decide +kernel, by decide +kernel, by decide +kernel⟩
theorem wy_X1_lengthOf : zYw yX1_lengthOf cX1_lengthOf 3 (some .int) 2 := ⟨(zgt_at 432 (by decide +kernel) (by decide +kernel)), (zgt_at 8 (by decide +kernel) (by decide +kernel)), by decide +kernel, by decide +kernel, by decide +kernel⟩
theorem wy_X1_makeRoomFor : zYw yX1_makeRoomFor cX1_makeRoomFor 5 none 3 := ⟨(zgt_at 427 (by decide +kernel) (by decide +kernel)), (zgt_at 8 (by decide +kernel) (by decide +kernel)), by decide +kernel, by decide +kernel, by decide +kernel⟩
theorem wy_X1_renew : zYw yX1_renew cX1_renew 2 none 0 := ⟨(zgt_at 171 (by decide +kernel) (by decide +kernel)), (zgt_at 8 (by decide +kernel) (by decide +kernel)), by decide +kernel, by decide +kernel, by decide +kernel⟩
theorem wy_X1_rowNumber : zYw yX1_rowNumber cX1_rowNumber 3 (some .int) 2 := ⟨(zgt_at 677 (by decide +kernel) (by decide +kernel)), (zgt_at 8 (by decide +kernel) (by decide +kernel)), by decide +kernel, by decide +kernel, by decide +kernel⟩
theorem wy_X1_segments : zYw yX1_segments cX1_segments 1 (some .int) 0 := ⟨(zgt_at 506 (by decide +kernel) (by decide +kernel)), (zgt_at 8 (by decide +kernel) (by decide +kernel)), by decide +kernel, by decide +kernel, by decide +kernel⟩
theorem wy_X1_startAround : zYw yX1_startAround cX1_startAround 4 (some .int) 1 := ⟨(zgt_at 681 (by decide +kernel) (by decide +kernel)), (zgt_at 8 (by decide +kernel) (by decide +kernel)), by decide +kernel, by decide +kernel, by decide +kernel⟩
theorem wy_X1_startOf : zYw yX1_startOf cX1_startOf 3 (some .int) 1 := ⟨(zgt_at 514 (by decide +kernel) (by decide +kernel)), (zgt_at 8 (by decide +kernel) (by decide +kernel)), by decide +kernel, by decide +kernel, by decide +kernel⟩
theorem wy_X1_takeOver : zYw yX1_takeOver cX1_takeOver 2 none 1 := ⟨(zgt_at 561 (by decide +kernel) (by decide +kernel)), (zgt_at 8 (by decide +kernel) (by decide +kernel)), by decide +kernel, by decide +kernel, by decide +kernel⟩
theorem wy_X1_toldBackwards : zYw yX1_toldBackwards cX1_toldBackwards 4 (some .int) 2 := ⟨(zgt_at 803 (by decide +kernel) (by decide +kernel)), (zgt_at 8 (by decide +kernel) (by decide +kernel)), by decide +kernel, by decide +kernel, by decide +kernel⟩
theorem wy_X1_toldForwards : zYw yX1_toldForwards cX1_toldForwards 5 (some .int) 2 := ⟨(zgt_at 447 (by decide +kernel) (by decide +kernel)), (zgt_at 8 (by decide +kernel) (by decide +kernel)), by decide +kernel, by decide +kernel, by decide +kernel⟩
theorem wy_X2_arrive : zYw yX2_arrive cX2_arrive 3 none 2 := ⟨(zgt_at 452 (by decide +kernel) (by decide +kernel)), (zgt_at 9 (by decide +kernel) (by decide +kernel)), by decide +kernel, by decide +kernel, by decide +kernel⟩
theorem wy_X2_depart : zYw yX2_depart cX2_depart 1 none 0 := ⟨(zgt_at 473 (by decide +kernel) (by decide +kernel)), (zgt_at 9 (by decide +kernel) (by decide +kernel)), by decide +kernel, by decide +kernel, by decide +kernel⟩
theorem wy_X2_renew : zYw yX2_renew cX2_renew 1 none 0 := ⟨(zgt_at 175 (by decide +kernel) (by decide +kernel)), (zgt_at 9 (by decide +kernel) (by decide +kernel)), by decide +kernel, by decide +kernel, by decide +kernel⟩
theorem wy_X2_takeOver : zYw yX2_takeOver cX2_takeOver 2 none 1 := ⟨(zgt_at 566 (by decide +kernel) (by decide +kernel)), (zgt_at 9 (by decide +kernel) (by decide +kernel)), by decide +kernel, by decide +kernel, by decide +kernel⟩
theorem wy_X3_attempt : zYw yX3_attempt cX3_attempt 5 (some .boolean) 4 := ⟨(zgt_at 385 (by decide +kernel) (by decide +kernel)), (zgt_at 7 (by decide +kernel) (by decide +kernel)), by decide +kernel, by decide +kernel, by decide +kernel⟩
theorem wy_X3_change : zYw yX3_change cX3_change 4 (some .int) 2 := ⟨(zgt_at 486 (by decide +kernel) (by decide +kernel)), (zgt_at 7 (by decide +kernel) (by decide +kernel)), by decide +kernel, by decide +kernel, by decide +kernel⟩
theorem wy_X3_changeHold : zYw yX3_changeHold cX3_changeHold 4 (some .int) 2 := ⟨(zgt_at 482 (by decide +kernel) (by decide +kernel)), (zgt_at 7 (by decide +kernel) (by decide +kernel)), by decide +kernel, by decide +kernel, by decide +kernel⟩
theorem wy_X3_checkHold : zYw yX3_checkHold cX3_checkHold 4 none 1 := ⟨(zgt_at 494 (by decide +kernel) (by decide +kernel)), (zgt_at 7 (by decide +kernel) (by decide +kernel)), by decide +kernel, by decide +kernel, by decide +kernel⟩
theorem wy_X3_faultOf : zYw yX3_faultOf cX3_faultOf 5 (some .int) 4 := ⟨(zgt_at 389 (by decide +kernel) (by decide +kernel)), (zgt_at 7 (by decide +kernel) (by decide +kernel)), by decide +kernel, by decide +kernel, by decide +kernel⟩
theorem wy_X3_faultOfJoining : zYw yX3_faultOfJoining cX3_faultOfJoining 6 (some .int) 3 := ⟨(zgt_at 400 (by decide +kernel) (by decide +kernel)), (zgt_at 7 (by decide +kernel) (by decide +kernel)), by decide +kernel, by decide +kernel, by decide +kernel⟩
theorem wy_X3_faultOfWriting : zYw yX3_faultOfWriting cX3_faultOfWriting 4 (some .int) 3 := ⟨(zgt_at 393 (by decide +kernel) (by decide +kernel)), (zgt_at 7 (by decide +kernel) (by decide +kernel)), by decide +kernel, by decide +kernel, by decide +kernel⟩
theorem wy_X3_firstStays : zYw yX3_firstStays cX3_firstStays 2 (some .int) 0 := ⟨(zgt_at 502 (by decide +kernel) (by decide +kernel)), (zgt_at 7 (by decide +kernel) (by decide +kernel)), by decide +kernel, by decide +kernel, by decide +kernel⟩
theorem wy_X3_gapCount : zYw yX3_gapCount cX3_gapCount 3 (some .int) 0 := ⟨(zgt_at 616 (by decide +kernel) (by decide +kernel)), (zgt_at 7 (by decide +kernel) (by decide +kernel)), by decide +kernel, by decide +kernel, by decide +kernel⟩
theorem wy_X3_getsFurther : zYw yX3_getsFurther cX3_getsFurther 3 (some .boolean) 2 := ⟨(zgt_at 836 (by decide +kernel) (by decide +kernel)), (zgt_at 7 (by decide +kernel) (by decide +kernel)), by decide +kernel, by decide +kernel, by decide +kernel⟩
theorem wy_X3_hasGap : zYw yX3_hasGap cX3_hasGap 3 (some .boolean) 1 := ⟨(zgt_at 412 (by decide +kernel) (by decide +kernel)), (zgt_at 7 (by decide +kernel) (by decide +kernel)), by decide +kernel, by decide +kernel, by decide +kernel⟩
theorem wy_X3_hasHold : zYw yX3_hasHold cX3_hasHold 3 (some .boolean) 1 := ⟨(zgt_at 773 (by decide +kernel) (by decide +kernel)), (zgt_at 7 (by decide +kernel) (by decide +kernel)), by decide +kernel, by decide +kernel, by decide +kernel⟩
theorem wy_X3_holdersUpTo : zYw yX3_holdersUpTo cX3_holdersUpTo 5 (some .int) 1 := ⟨(zgt_at 522 (by decide +kernel) (by decide +kernel)), (zgt_at 7 (by decide +kernel) (by decide +kernel)), by decide +kernel, by decide +kernel, by decide +kernel⟩
theorem wy_X3_isAtLeastAt : zYw yX3_isAtLeastAt cX3_isAtLeastAt 4 (some .boolean) 2 := ⟨(zgt_at 840 (by decide +kernel) (by decide +kernel)), (zgt_at 7 (by decide +kernel) (by decide +kernel)), by decide +kernel, by decide +kernel, by decide +kernel⟩
theorem wy_X3_isDue : zYw yX3_isDue cX3_isDue 3 (some .boolean) 1 := ⟨(zgt_at 518 (by decide +kernel) (by decide +kernel)), (zgt_at 7 (by decide +kernel) (by decide +kernel)), by decide +kernel, by decide +kernel, by decide +kernel⟩
theorem wy_X3_letGo : zYw yX3_letGo cX3_letGo 2 (some .int) 1 := ⟨(zgt_at 469 (by decide +kernel) (by decide +kernel)), (zgt_at 7 (by decide +kernel) (by decide +kernel)), by decide +kernel, by decide +kernel, by decide +kernel⟩
theorem wy_X3_letIn : zYw yX3_letIn cX3_letIn 5 (some .int) 3 := ⟨(zgt_at 443 (by decide +kernel) (by decide +kernel)), (zgt_at 7 (by decide +kernel) (by decide +kernel)), by decide +kernel, by decide +kernel, by decide +kernel⟩
theorem wy_X3_letRead : zYw yX3_letRead cX3_letRead 3 (some .int) 2 := ⟨(zgt_at 456 (by decide +kernel) (by decide +kernel)), (zgt_at 7 (by decide +kernel) (by decide +kernel)), by decide +kernel, by decide +kernel, by decide +kernel⟩
theorem wy_X3_named : zYw yX3_named cX3_named 2 (some (.object "TrimmedLog$Reader")) 1 := ⟨(zgt_at 404 (by decide +kernel) (by decide +kernel)), (zgt_at 7 (by decide +kernel) (by decide +kernel)), by decide +kernel, by decide +kernel, by decide +kernel⟩
theorem wy_X3_number : zYw yX3_number cX3_number 2 (some .int) 1 := ⟨(zgt_at 612 (by decide +kernel) (by decide +kernel)), (zgt_at 7 (by decide +kernel) (by decide +kernel)), by decide +kernel, by decide +kernel, by decide +kernel⟩
theorem wy_X3_passTime : zYw yX3_passTime cX3_passTime 5 (some .int) 1 := ⟨(zgt_at 490 (by decide +kernel) (by decide +kernel)), (zgt_at 7 (by decide +kernel) (by decide +kernel)), by decide +kernel, by decide +kernel, by decide +kernel⟩
theorem wy_X3_perform : zYw yX3_perform cX3_perform 5 (some .int) 4 := ⟨(zgt_at 423 (by decide +kernel) (by decide +kernel)), (zgt_at 7 (by decide +kernel) (by decide +kernel)), by decide +kernel, by decide +kernel, by decide +kernel⟩
theorem wy_X3_readOn : zYw yX3_readOn cX3_readOn 4 (some .int) 2 := ⟨(zgt_at 465 (by decide +kernel) (by decide +kernel)), (zgt_at 7 (by decide +kernel) (by decide +kernel)), by decide +kernel, by decide +kernel, by decide +kernel⟩
theorem wy_X3_reader : zYw yX3_reader cX3_reader 3 (some (.object "TrimmedLog$Reader")) 1 := ⟨(zgt_at 408 (by decide +kernel) (by decide +kernel)), (zgt_at 7 (by decide +kernel) (by decide +kernel)), by decide +kernel, by decide +kernel, by decide +kernel⟩
theorem wy_X3_readerCount : zYw yX3_readerCount cX3_readerCount 3 (some .int) 0 := ⟨(zgt_at 477 (by decide +kernel) (by decide +kernel)), (zgt_at 7 (by decide +kernel) (by decide +kernel)), by decide +kernel, by decide +kernel, by decide +kernel⟩
theorem wy_X3_readerNumber : zYw yX3_readerNumber cX3_readerNumber 3 (some .int) 2 := ⟨(zgt_at 649 (by decide +kernel) (by decide +kernel)), (zgt_at 7 (by decide +kernel) (by decide +kernel)), by decide +kernel, by decide +kernel, by decide +kernel⟩
theorem wy_X3_renew : zYw yX3_renew cX3_renew 3 none 0 := ⟨(zgt_at 167 (by decide +kernel) (by decide +kernel)), (zgt_at 7 (by decide +kernel) (by decide +kernel)), by decide +kernel, by decide +kernel, by decide +kernel⟩
theorem wy_X3_segmentNumber : zYw yX3_segmentNumber cX3_segmentNumber 3 (some .int) 2 := ⟨(zgt_at 695 (by decide +kernel) (by decide +kernel)), (zgt_at 7 (by decide +kernel) (by decide +kernel)), by decide +kernel, by decide +kernel, by decide +kernel⟩
theorem wy_X3_slowestHolder : zYw yX3_slowestHolder cX3_slowestHolder 5 (some .int) 0 := ⟨(zgt_at 884 (by decide +kernel) (by decide +kernel)), (zgt_at 7 (by decide +kernel) (by decide +kernel)), by decide +kernel, by decide +kernel, by decide +kernel⟩
theorem wy_X3_takeOver : zYw yX3_takeOver cX3_takeOver 5 none 1 := ⟨(zgt_at 557 (by decide +kernel) (by decide +kernel)), (zgt_at 7 (by decide +kernel) (by decide +kernel)), by decide +kernel, by decide +kernel, by decide +kernel⟩
theorem wy_X3_tellGap : zYw yX3_tellGap cX3_tellGap 3 (some .int) 1 := ⟨(zgt_at 460 (by decide +kernel) (by decide +kernel)), (zgt_at 7 (by decide +kernel) (by decide +kernel)), by decide +kernel, by decide +kernel, by decide +kernel⟩
theorem wy_X4_actionOf : zYw yX4_actionOf cX4_actionOf 2 (some .int) 1 := ⟨(zgt_at 289 (by decide +kernel) (by decide +kernel)), (zgt_at 6 (by decide +kernel) (by decide +kernel)), by decide +kernel, by decide +kernel, by decide +kernel⟩
theorem wy_X4_add : zYw yX4_add cX4_add 2 (some .int) 1 := ⟨(zgt_at 872 (by decide +kernel) (by decide +kernel)), (zgt_at 6 (by decide +kernel) (by decide +kernel)), by decide +kernel, by decide +kernel, by decide +kernel⟩
theorem wy_X4_begin : zYw yX4_begin cX4_begin 1 none 0 := ⟨(zgt_at 273 (by decide +kernel) (by decide +kernel)), (zgt_at 6 (by decide +kernel) (by decide +kernel)), by decide +kernel, by decide +kernel, by decide +kernel⟩
theorem wy_X4_digits : zYw yX4_digits cX4_digits 9 (some .int) 3 := ⟨(zgt_at 293 (by decide +kernel) (by decide +kernel)), (zgt_at 6 (by decide +kernel) (by decide +kernel)), by decide +kernel, by decide +kernel, by decide +kernel⟩
theorem wy_X4_empty : zYw yX4_empty cX4_empty 2 (some .int) 0 := ⟨(zgt_at 929 (by decide +kernel) (by decide +kernel)), (zgt_at 6 (by decide +kernel) (by decide +kernel)), by decide +kernel, by decide +kernel, by decide +kernel⟩
theorem wy_X4_findError : zYw yX4_findError cX4_findError 2 (some .int) 0 := ⟨(zgt_at 269 (by decide +kernel) (by decide +kernel)), (zgt_at 6 (by decide +kernel) (by decide +kernel)), by decide +kernel, by decide +kernel, by decide +kernel⟩
theorem wy_X4_hasMore : zYw yX4_hasMore cX4_hasMore 1 (some .boolean) 0 := ⟨(zgt_at 281 (by decide +kernel) (by decide +kernel)), (zgt_at 6 (by decide +kernel) (by decide +kernel)), by decide +kernel, by decide +kernel, by decide +kernel⟩
theorem wy_X4_isFull : zYw yX4_isFull cX4_isFull 1 (some .boolean) 0 := ⟨(zgt_at 867 (by decide +kernel) (by decide +kernel)), (zgt_at 6 (by decide +kernel) (by decide +kernel)), by decide +kernel, by decide +kernel, by decide +kernel⟩
theorem wy_X4_plusOrMinus : zYw yX4_plusOrMinus cX4_plusOrMinus 2 (some .int) 0 := ⟨(zgt_at 301 (by decide +kernel) (by decide +kernel)), (zgt_at 6 (by decide +kernel) (by decide +kernel)), by decide +kernel, by decide +kernel, by decide +kernel⟩
theorem wy_X4_runOn : zYw yX4_runOn cX4_runOn 4 (some .int) 1 := ⟨(zgt_at 381 (by decide +kernel) (by decide +kernel)), (zgt_at 6 (by decide +kernel) (by decide +kernel)), by decide +kernel, by decide +kernel, by decide +kernel⟩
theorem wy_X4_sign : zYw yX4_sign cX4_sign 1 (some .char) 0 := ⟨(zgt_at 277 (by decide +kernel) (by decide +kernel)), (zgt_at 6 (by decide +kernel) (by decide +kernel)), by decide +kernel, by decide +kernel, by decide +kernel⟩
theorem wy_X4_understand : zYw yX4_understand cX4_understand 1 none 0 := ⟨(zgt_at 285 (by decide +kernel) (by decide +kernel)), (zgt_at 6 (by decide +kernel) (by decide +kernel)), by decide +kernel, by decide +kernel, by decide +kernel⟩
theorem wy_X4_understandRest : zYw yX4_understandRest cX4_understandRest 1 none 0 := ⟨(zgt_at 297 (by decide +kernel) (by decide +kernel)), (zgt_at 6 (by decide +kernel) (by decide +kernel)), by decide +kernel, by decide +kernel, by decide +kernel⟩
theorem wy_X5_act : zYw yX5_act cX5_act 6 (some .int) 4 := ⟨(zgt_at 708 (by decide +kernel) (by decide +kernel)), (zgt_at 5 (by decide +kernel) (by decide +kernel)), by decide +kernel, by decide +kernel, by decide +kernel⟩
theorem wy_X5_asNumber : zYw yX5_asNumber cX5_asNumber 1 (some .int) 1 := ⟨(zgt_at 304 (by decide +kernel) (by decide +kernel)), (zgt_at 5 (by decide +kernel) (by decide +kernel)), by decide +kernel, by decide +kernel, by decide +kernel⟩
theorem wy_X5_at : zYw yX5_at cX5_at 2 (some .int) 2 := ⟨(zgt_at 417 (by decide +kernel) (by decide +kernel)), (zgt_at 5 (by decide +kernel) (by decide +kernel)), by decide +kernel, by decide +kernel, by decide +kernel⟩
theorem wy_X5_copy : zYw yX5_copy cX5_copy 2 none 2 := ⟨(zgt_at 180 (by decide +kernel) (by decide +kernel)), (zgt_at 5 (by decide +kernel) (by decide +kernel)), by decide +kernel, by decide +kernel, by decide +kernel⟩
theorem wy_X5_copyToTry : zYw yX5_copyToTry cX5_copyToTry 1 (some (.object "TrimmedLog$State")) 0 := ⟨(zgt_at 769 (by decide +kernel) (by decide +kernel)), (zgt_at 5 (by decide +kernel) (by decide +kernel)), by decide +kernel, by decide +kernel, by decide +kernel⟩
theorem wy_X5_dropsNone : zYw yX5_dropsNone cX5_dropsNone 4 (some .boolean) 2 := ⟨(zgt_at 815 (by decide +kernel) (by decide +kernel)), (zgt_at 5 (by decide +kernel) (by decide +kernel)), by decide +kernel, by decide +kernel, by decide +kernel⟩
theorem wy_X5_isIn : zYw yX5_isIn cX5_isIn 3 (some .boolean) 3 := ⟨(zgt_at 396 (by decide +kernel) (by decide +kernel)), (zgt_at 5 (by decide +kernel) (by decide +kernel)), by decide +kernel, by decide +kernel, by decide +kernel⟩
theorem wy_X5_put : zYw yX5_put cX5_put 3 none 3 := ⟨(zgt_at 435 (by decide +kernel) (by decide +kernel)), (zgt_at 5 (by decide +kernel) (by decide +kernel)), by decide +kernel, by decide +kernel, by decide +kernel⟩
theorem wy_X5_succeeds : zYw yX5_succeeds cX5_succeeds 7 (some .boolean) 2 := ⟨(zgt_at 831 (by decide +kernel) (by decide +kernel)), (zgt_at 5 (by decide +kernel) (by decide +kernel)), by decide +kernel, by decide +kernel, by decide +kernel⟩
theorem wy_X5_takeTurn : zYw yX5_takeTurn cX5_takeTurn 4 none 2 := ⟨(zgt_at 854 (by decide +kernel) (by decide +kernel)), (zgt_at 5 (by decide +kernel) (by decide +kernel)), by decide +kernel, by decide +kernel, by decide +kernel⟩
theorem wy_X5_withoutGroups : zYw yX5_withoutGroups cX5_withoutGroups 6 (some .long) 2 := ⟨(zgt_at 826 (by decide +kernel) (by decide +kernel)), (zgt_at 5 (by decide +kernel) (by decide +kernel)), by decide +kernel, by decide +kernel, by decide +kernel⟩
