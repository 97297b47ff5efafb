theorem wl_RL_102 : zLs RL 102 yL_append := ⟨(zgt_at 425 (by decide +kernel) (by decide +kernel)), (zgt_at 426 (by decide +kernel) (by decide +kernel))⟩
theorem wy_X6_append : zYw yX6_append cX6_append 2 (some .int) 1 := ⟨(zgt_at 976 (by decide +kernel) (by decide +kernel)), (zgt_at 37 (by decide +kernel) (by decide +kernel)), by decide +kernel, by decide +kernel, by decide +kernel⟩
theorem wl_RL_107 : zLv RL 107 yX6_append := ⟨(zgt_at 973 (by decide +kernel) (by decide +kernel)), (zgt_at 974 (by decide +kernel) (by decide +kernel)), (zgt_at 975 (by decide +kernel) (by decide +kernel))⟩
theorem wy_X6_thrown : zYw yX6_thrown cX6_thrown 1 (some .int) 0 := ⟨(zgt_at 972 (by decide +kernel) (by decide +kernel)), (zgt_at 37 (by decide +kernel) (by decide +kernel)), by decide +kernel, by decide +kernel, by decide +kernel⟩
theorem wl_RL_108 : zLv RL 108 yX6_thrown := ⟨(zgt_at 969 (by decide +kernel) (by decide +kernel)), (zgt_at 970 (by decide +kernel) (by decide +kernel)), (zgt_at 971 (by decide +kernel) (by decide +kernel))⟩
theorem wy_X5_clearText : zYw yX5_clearText cX5_clearText 1 (some .int) 0 := ⟨(zgt_at 281 (by decide +kernel) (by decide +kernel)), (zgt_at 29 (by decide +kernel) (by decide +kernel)), by decide +kernel, by decide +kernel, by decide +kernel⟩
theorem wl_RL_111 : zLv RL 111 yX5_clearText := ⟨(zgt_at 278 (by decide +kernel) (by decide +kernel)), (zgt_at 279 (by decide +kernel) (by decide +kernel)), (zgt_at 280 (by decide +kernel) (by decide +kernel))⟩
theorem wy_X6_clearText : zYw yX6_clearText cX6_clearText 2 (some .int) 0 := ⟨(zgt_at 988 (by decide +kernel) (by decide +kernel)), (zgt_at 37 (by decide +kernel) (by decide +kernel)), by decide +kernel, by decide +kernel, by decide +kernel⟩
theorem wl_RL_114 : zLv RL 114 yX6_clearText := ⟨(zgt_at 985 (by decide +kernel) (by decide +kernel)), (zgt_at 986 (by decide +kernel) (by decide +kernel)), (zgt_at 987 (by decide +kernel) (by decide +kernel))⟩
theorem wy_X5_errorPosition : zYw yX5_errorPosition cX5_errorPosition 1 (some .int) 0 := ⟨(zgt_at 289 (by decide +kernel) (by decide +kernel)), (zgt_at 29 (by decide +kernel) (by decide +kernel)), by decide +kernel, by decide +kernel, by decide +kernel⟩
theorem wl_RL_115 : zLv RL 115 yX5_errorPosition := ⟨(zgt_at 286 (by decide +kernel) (by decide +kernel)), (zgt_at 287 (by decide +kernel) (by decide +kernel)), (zgt_at 288 (by decide +kernel) (by decide +kernel))⟩
theorem wy_X6_errorPosition : zYw yX6_errorPosition cX6_errorPosition 1 (some .int) 0 := ⟨(zgt_at 992 (by decide +kernel) (by decide +kernel)), (zgt_at 37 (by decide +kernel) (by decide +kernel)), by decide +kernel, by decide +kernel, by decide +kernel⟩
theorem wl_RL_118 : zLv RL 118 yX6_errorPosition := ⟨(zgt_at 989 (by decide +kernel) (by decide +kernel)), (zgt_at 990 (by decide +kernel) (by decide +kernel)), (zgt_at 991 (by decide +kernel) (by decide +kernel))⟩
theorem wl_RL_119 : zLs RL 119 yL_load := ⟨(zgt_at 529 (by decide +kernel) (by decide +kernel)), (zgt_at 530 (by decide +kernel) (by decide +kernel))⟩
theorem wy_X6_load : zYw yX6_load cX6_load 1 (some .int) 0 := ⟨(zgt_at 1147 (by decide +kernel) (by decide +kernel)), (zgt_at 37 (by decide +kernel) (by decide +kernel)), by decide +kernel, by decide +kernel, by decide +kernel⟩
theorem wl_RL_122 : zLv RL 122 yX6_load := ⟨(zgt_at 1144 (by decide +kernel) (by decide +kernel)), (zgt_at 1145 (by decide +kernel) (by decide +kernel)), (zgt_at 1146 (by decide +kernel) (by decide +kernel))⟩
theorem wl_RL_123 : zLs RL 123 yL_about := ⟨(zgt_at 630 (by decide +kernel) (by decide +kernel)), (zgt_at 631 (by decide +kernel) (by decide +kernel))⟩
theorem wy_X6_about : zYw yX6_about cX6_about 2 (some .int) 1 := ⟨(zgt_at 1154 (by decide +kernel) (by decide +kernel)), (zgt_at 37 (by decide +kernel) (by decide +kernel)), by decide +kernel, by decide +kernel, by decide +kernel⟩
theorem wl_RL_125 : zLv RL 125 yX6_about := ⟨(zgt_at 1151 (by decide +kernel) (by decide +kernel)), (zgt_at 1152 (by decide +kernel) (by decide +kernel)), (zgt_at 1153 (by decide +kernel) (by decide +kernel))⟩
theorem wl_RL_126 : zLs RL 126 yL_rowOf := ⟨(zgt_at 646 (by decide +kernel) (by decide +kernel)), (zgt_at 647 (by decide +kernel) (by decide +kernel))⟩
theorem wy_X6_rowOf : zYw yX6_rowOf cX6_rowOf 3 (some .int) 2 := ⟨(zgt_at 1165 (by decide +kernel) (by decide +kernel)), (zgt_at 37 (by decide +kernel) (by decide +kernel)), by decide +kernel, by decide +kernel, by decide +kernel⟩
theorem wl_RL_129 : zLv RL 129 yX6_rowOf := ⟨(zgt_at 1162 (by decide +kernel) (by decide +kernel)), (zgt_at 1163 (by decide +kernel) (by decide +kernel)), (zgt_at 1164 (by decide +kernel) (by decide +kernel))⟩
theorem wl_RL_130 : zLs RL 130 yL_segmentOf := ⟨(zgt_at 685 (by decide +kernel) (by decide +kernel)), (zgt_at 686 (by decide +kernel) (by decide +kernel))⟩
theorem wy_X6_segmentOf : zYw yX6_segmentOf cX6_segmentOf 5 (some .int) 2 := ⟨(zgt_at 1170 (by decide +kernel) (by decide +kernel)), (zgt_at 37 (by decide +kernel) (by decide +kernel)), by decide +kernel, by decide +kernel, by decide +kernel⟩
theorem wl_RL_132 : zLv RL 132 yX6_segmentOf := ⟨(zgt_at 1167 (by decide +kernel) (by decide +kernel)), (zgt_at 1168 (by decide +kernel) (by decide +kernel)), (zgt_at 1169 (by decide +kernel) (by decide +kernel))⟩
theorem wl_RL_133 : zLs RL 133 yL_readerOf := ⟨(zgt_at 700 (by decide +kernel) (by decide +kernel)), (zgt_at 701 (by decide +kernel) (by decide +kernel))⟩
theorem wy_X6_readerOf : zYw yX6_readerOf cX6_readerOf 5 (some .int) 2 := ⟨(zgt_at 1177 (by decide +kernel) (by decide +kernel)), (zgt_at 37 (by decide +kernel) (by decide +kernel)), by decide +kernel, by decide +kernel, by decide +kernel⟩
theorem wl_RL_135 : zLv RL 135 yX6_readerOf := ⟨(zgt_at 1174 (by decide +kernel) (by decide +kernel)), (zgt_at 1175 (by decide +kernel) (by decide +kernel)), (zgt_at 1176 (by decide +kernel) (by decide +kernel))⟩
theorem wl_RL_136 : zLs RL 136 yL_table := ⟨(zgt_at 717 (by decide +kernel) (by decide +kernel)), (zgt_at 718 (by decide +kernel) (by decide +kernel))⟩
theorem wy_X6_table : zYw yX6_table cX6_table 3 (some .int) 2 := ⟨(zgt_at 1181 (by decide +kernel) (by decide +kernel)), (zgt_at 37 (by decide +kernel) (by decide +kernel)), by decide +kernel, by decide +kernel, by decide +kernel⟩
theorem wl_RL_138 : zLv RL 138 yX6_table := ⟨(zgt_at 1178 (by decide +kernel) (by decide +kernel)), (zgt_at 1179 (by decide +kernel) (by decide +kernel)), (zgt_at 1180 (by decide +kernel) (by decide +kernel))⟩
theorem wl_RL_139 : zLs RL 139 yL_base := ⟨(zgt_at 726 (by decide +kernel) (by decide +kernel)), (zgt_at 727 (by decide +kernel) (by decide +kernel))⟩
theorem wy_X6_base : zYw yX6_base cX6_base 2 (some .int) 1 := ⟨(zgt_at 1188 (by decide +kernel) (by decide +kernel)), (zgt_at 37 (by decide +kernel) (by decide +kernel)), by decide +kernel, by decide +kernel, by decide +kernel⟩
theorem wl_RL_141 : zLv RL 141 yX6_base := ⟨(zgt_at 1185 (by decide +kernel) (by decide +kernel)), (zgt_at 1186 (by decide +kernel) (by decide +kernel)), (zgt_at 1187 (by decide +kernel) (by decide +kernel))⟩
theorem wl_RL_142 : zLs RL 142 yL_setting := ⟨(zgt_at 733 (by decide +kernel) (by decide +kernel)), (zgt_at 734 (by decide +kernel) (by decide +kernel))⟩
theorem wy_X6_setting : zYw yX6_setting cX6_setting 2 (some .int) 1 := ⟨(zgt_at 1192 (by decide +kernel) (by decide +kernel)), (zgt_at 37 (by decide +kernel) (by decide +kernel)), by decide +kernel, by decide +kernel, by decide +kernel⟩
theorem wl_RL_144 : zLv RL 144 yX6_setting := ⟨(zgt_at 1189 (by decide +kernel) (by decide +kernel)), (zgt_at 1190 (by decide +kernel) (by decide +kernel)), (zgt_at 1191 (by decide +kernel) (by decide +kernel))⟩
theorem wl_RL_145 : zLs RL 145 yL_write := ⟨(zgt_at 740 (by decide +kernel) (by decide +kernel)), (zgt_at 741 (by decide +kernel) (by decide +kernel))⟩
theorem wy_X6_write : zYw yX6_write cX6_write 4 (some .int) 3 := ⟨(zgt_at 1196 (by decide +kernel) (by decide +kernel)), (zgt_at 37 (by decide +kernel) (by decide +kernel)), by decide +kernel, by decide +kernel, by decide +kernel⟩
theorem wl_RL_148 : zLv RL 148 yX6_write := ⟨(zgt_at 1193 (by decide +kernel) (by decide +kernel)), (zgt_at 1194 (by decide +kernel) (by decide +kernel)), (zgt_at 1195 (by decide +kernel) (by decide +kernel))⟩
theorem wl_RL_149 : zLs RL 149 yL_join := ⟨(zgt_at 765 (by decide +kernel) (by decide +kernel)), (zgt_at 766 (by decide +kernel) (by decide +kernel))⟩
theorem wy_X6_join : zYw yX6_join cX6_join 4 (some .int) 3 := ⟨(zgt_at 1207 (by decide +kernel) (by decide +kernel)), (zgt_at 37 (by decide +kernel) (by decide +kernel)), by decide +kernel, by decide +kernel, by decide +kernel⟩
theorem wl_RL_152 : zLv RL 152 yX6_join := ⟨(zgt_at 1204 (by decide +kernel) (by decide +kernel)), (zgt_at 1205 (by decide +kernel) (by decide +kernel)), (zgt_at 1206 (by decide +kernel) (by decide +kernel))⟩
theorem wl_RL_153 : zLs RL 153 yL_read := ⟨(zgt_at 773 (by decide +kernel) (by decide +kernel)), (zgt_at 774 (by decide +kernel) (by decide +kernel))⟩
theorem wy_X6_read : zYw yX6_read cX6_read 3 (some .int) 2 := ⟨(zgt_at 1212 (by decide +kernel) (by decide +kernel)), (zgt_at 37 (by decide +kernel) (by decide +kernel)), by decide +kernel, by decide +kernel, by decide +kernel⟩
theorem wl_RL_155 : zLv RL 155 yX6_read := ⟨(zgt_at 1209 (by decide +kernel) (by decide +kernel)), (zgt_at 1210 (by decide +kernel) (by decide +kernel)), (zgt_at 1211 (by decide +kernel) (by decide +kernel))⟩
theorem wl_RL_156 : zLs RL 156 yL_leave := ⟨(zgt_at 780 (by decide +kernel) (by decide +kernel)), (zgt_at 781 (by decide +kernel) (by decide +kernel))⟩
theorem wy_X6_leave : zYw yX6_leave cX6_leave 2 (some .int) 1 := ⟨(zgt_at 1217 (by decide +kernel) (by decide +kernel)), (zgt_at 37 (by decide +kernel) (by decide +kernel)), by decide +kernel, by decide +kernel, by decide +kernel⟩
theorem wl_RL_158 : zLv RL 158 yX6_leave := ⟨(zgt_at 1214 (by decide +kernel) (by decide +kernel)), (zgt_at 1215 (by decide +kernel) (by decide +kernel)), (zgt_at 1216 (by decide +kernel) (by decide +kernel))⟩
theorem wl_RL_159 : zLs RL 159 yL_hold := ⟨(zgt_at 787 (by decide +kernel) (by decide +kernel)), (zgt_at 788 (by decide +kernel) (by decide +kernel))⟩
theorem wy_X6_hold : zYw yX6_hold cX6_hold 3 (some .int) 2 := ⟨(zgt_at 1221 (by decide +kernel) (by decide +kernel)), (zgt_at 37 (by decide +kernel) (by decide +kernel)), by decide +kernel, by decide +kernel, by decide +kernel⟩
theorem wl_RL_162 : zLv RL 162 yX6_hold := ⟨(zgt_at 1218 (by decide +kernel) (by decide +kernel)), (zgt_at 1219 (by decide +kernel) (by decide +kernel)), (zgt_at 1220 (by decide +kernel) (by decide +kernel))⟩
theorem wl_RL_163 : zLs RL 163 yL_set := ⟨(zgt_at 794 (by decide +kernel) (by decide +kernel)), (zgt_at 795 (by decide +kernel) (by decide +kernel))⟩
theorem wy_X6_set : zYw yX6_set cX6_set 3 (some .int) 2 := ⟨(zgt_at 1225 (by decide +kernel) (by decide +kernel)), (zgt_at 37 (by decide +kernel) (by decide +kernel)), by decide +kernel, by decide +kernel, by decide +kernel⟩
theorem wl_RL_165 : zLv RL 165 yX6_set := ⟨(zgt_at 1222 (by decide +kernel) (by decide +kernel)), (zgt_at 1223 (by decide +kernel) (by decide +kernel)), (zgt_at 1224 (by decide +kernel) (by decide +kernel))⟩
theorem wl_RL_166 : zLs RL 166 yL_ticks := ⟨(zgt_at 801 (by decide +kernel) (by decide +kernel)), (zgt_at 802 (by decide +kernel) (by decide +kernel))⟩
theorem wy_X6_ticks : zYw yX6_ticks cX6_ticks 2 (some .int) 1 := ⟨(zgt_at 1229 (by decide +kernel) (by decide +kernel)), (zgt_at 37 (by decide +kernel) (by decide +kernel)), by decide +kernel, by decide +kernel, by decide +kernel⟩
theorem wl_RL_168 : zLv RL 168 yX6_ticks := ⟨(zgt_at 1226 (by decide +kernel) (by decide +kernel)), (zgt_at 1227 (by decide +kernel) (by decide +kernel)), (zgt_at 1228 (by decide +kernel) (by decide +kernel))⟩
theorem wl_RL_169 : zLs RL 169 yL_undo := ⟨(zgt_at 808 (by decide +kernel) (by decide +kernel)), (zgt_at 809 (by decide +kernel) (by decide +kernel))⟩
theorem wy_X6_undo : zYw yX6_undo cX6_undo 2 (some .int) 0 := ⟨(zgt_at 1233 (by decide +kernel) (by decide +kernel)), (zgt_at 37 (by decide +kernel) (by decide +kernel)), by decide +kernel, by decide +kernel, by decide +kernel⟩
theorem wl_RL_171 : zLv RL 171 yX6_undo := ⟨(zgt_at 1230 (by decide +kernel) (by decide +kernel)), (zgt_at 1231 (by decide +kernel) (by decide +kernel)), (zgt_at 1232 (by decide +kernel) (by decide +kernel))⟩
theorem wy_X5_why : zYw yX5_why cX5_why 1 (some .int) 0 := ⟨(zgt_at 332 (by decide +kernel) (by decide +kernel)), (zgt_at 29 (by decide +kernel) (by decide +kernel)), by decide +kernel, by decide +kernel, by decide +kernel⟩
theorem wl_RL_172 : zLv RL 172 yX5_why := ⟨(zgt_at 329 (by decide +kernel) (by decide +kernel)), (zgt_at 330 (by decide +kernel) (by decide +kernel)), (zgt_at 331 (by decide +kernel) (by decide +kernel))⟩
theorem wy_X6_why : zYw yX6_why cX6_why 1 (some .int) 0 := ⟨(zgt_at 1237 (by decide +kernel) (by decide +kernel)), (zgt_at 37 (by decide +kernel) (by decide +kernel)), by decide +kernel, by decide +kernel, by decide +kernel⟩
theorem wl_RL_175 : zLv RL 175 yX6_why := ⟨(zgt_at 1234 (by decide +kernel) (by decide +kernel)), (zgt_at 1235 (by decide +kernel) (by decide +kernel)), (zgt_at 1236 (by decide +kernel) (by decide +kernel))⟩
theorem wy_X5_slowest : zYw yX5_slowest cX5_slowest 1 (some .int) 0 := ⟨(zgt_at 364 (by decide +kernel) (by decide +kernel)), (zgt_at 29 (by decide +kernel) (by decide +kernel)), by decide +kernel, by decide +kernel, by decide +kernel⟩
theorem wl_RL_176 : zLv RL 176 yX5_slowest := ⟨(zgt_at 361 (by decide +kernel) (by decide +kernel)), (zgt_at 362 (by decide +kernel) (by decide +kernel)), (zgt_at 363 (by decide +kernel) (by decide +kernel))⟩
theorem wy_X6_slowest : zYw yX6_slowest cX6_slowest 4 (some .int) 0 := ⟨(zgt_at 1241 (by decide +kernel) (by decide +kernel)), (zgt_at 37 (by decide +kernel) (by decide +kernel)), by decide +kernel, by decide +kernel, by decide +kernel⟩
theorem wl_RL_179 : zLv RL 179 yX6_slowest := ⟨(zgt_at 1238 (by decide +kernel) (by decide +kernel)), (zgt_at 1239 (by decide +kernel) (by decide +kernel)), (zgt_at 1240 (by decide +kernel) (by decide +kernel))⟩
theorem wl_RL_180 : zLs RL 180 yL_truth := ⟨(zgt_at 820 (by decide +kernel) (by decide +kernel)), (zgt_at 821 (by decide +kernel) (by decide +kernel))⟩
theorem wy_X6_truth : zYw yX6_truth cX6_truth 4 (some .int) 3 := ⟨(zgt_at 1245 (by decide +kernel) (by decide +kernel)), (zgt_at 37 (by decide +kernel) (by decide +kernel)), by decide +kernel, by decide +kernel, by decide +kernel⟩
theorem wl_RL_182 : zLv RL 182 yX6_truth := ⟨(zgt_at 1242 (by decide +kernel) (by decide +kernel)), (zgt_at 1243 (by decide +kernel) (by decide +kernel)), (zgt_at 1244 (by decide +kernel) (by decide +kernel))⟩
theorem wy_X5_droppedIn : zYw yX5_droppedIn cX5_droppedIn 3 (some .int) 0 := ⟨(zgt_at 380 (by decide +kernel) (by decide +kernel)), (zgt_at 29 (by decide +kernel) (by decide +kernel)), by decide +kernel, by decide +kernel, by decide +kernel⟩
theorem wl_RL_183 : zLv RL 183 yX5_droppedIn := ⟨(zgt_at 377 (by decide +kernel) (by decide +kernel)), (zgt_at 378 (by decide +kernel) (by decide +kernel)), (zgt_at 379 (by decide +kernel) (by decide +kernel))⟩
theorem wy_X6_droppedIn : zYw yX6_droppedIn cX6_droppedIn 2 (some .int) 0 := ⟨(zgt_at 1252 (by decide +kernel) (by decide +kernel)), (zgt_at 37 (by decide +kernel) (by decide +kernel)), by decide +kernel, by decide +kernel, by decide +kernel⟩
theorem wl_RL_186 : zLv RL 186 yX6_droppedIn := ⟨(zgt_at 1249 (by decide +kernel) (by decide +kernel)), (zgt_at 1250 (by decide +kernel) (by decide +kernel)), (zgt_at 1251 (by decide +kernel) (by decide +kernel))⟩
theorem wl_RL_187 : zLs RL 187 yL_lostIn := ⟨(zgt_at 834 (by decide +kernel) (by decide +kernel)), (zgt_at 835 (by decide +kernel) (by decide +kernel))⟩
theorem wy_X6_lostIn : zYw yX6_lostIn cX6_lostIn 3 (some .int) 1 := ⟨(zgt_at 1256 (by decide +kernel) (by decide +kernel)), (zgt_at 37 (by decide +kernel) (by decide +kernel)), by decide +kernel, by decide +kernel, by decide +kernel⟩
theorem wl_RL_189 : zLv RL 189 yX6_lostIn := ⟨(zgt_at 1253 (by decide +kernel) (by decide +kernel)), (zgt_at 1254 (by decide +kernel) (by decide +kernel)), (zgt_at 1255 (by decide +kernel) (by decide +kernel))⟩
theorem wl_RL_190 : zLs RL 190 yL_ifFree := ⟨(zgt_at 845 (by decide +kernel) (by decide +kernel)), (zgt_at 846 (by decide +kernel) (by decide +kernel))⟩
theorem wy_X6_ifFree : zYw yX6_ifFree cX6_ifFree 2 (some .int) 1 := ⟨(zgt_at 1260 (by decide +kernel) (by decide +kernel)), (zgt_at 37 (by decide +kernel) (by decide +kernel)), by decide +kernel, by decide +kernel, by decide +kernel⟩
theorem wl_RL_192 : zLv RL 192 yX6_ifFree := ⟨(zgt_at 1257 (by decide +kernel) (by decide +kernel)), (zgt_at 1258 (by decide +kernel) (by decide +kernel)), (zgt_at 1259 (by decide +kernel) (by decide +kernel))⟩
theorem wl_RL_193 : zLs RL 193 yL_leastRoom := ⟨(zgt_at 853 (by decide +kernel) (by decide +kernel)), (zgt_at 854 (by decide +kernel) (by decide +kernel))⟩
theorem wy_X6_leastRoom : zYw yX6_leastRoom cX6_leastRoom 3 (some .int) 1 := ⟨(zgt_at 1264 (by decide +kernel) (by decide +kernel)), (zgt_at 37 (by decide +kernel) (by decide +kernel)), by decide +kernel, by decide +kernel, by decide +kernel⟩
theorem wl_RL_195 : zLv RL 195 yX6_leastRoom := ⟨(zgt_at 1261 (by decide +kernel) (by decide +kernel)), (zgt_at 1262 (by decide +kernel) (by decide +kernel)), (zgt_at 1263 (by decide +kernel) (by decide +kernel))⟩
theorem wc_RL_196 : Cond.constantLong RL 196 4294967295 ∈ zgt := (zgt_at 1327 (by decide +kernel) (by decide +kernel))
theorem wl_RL_198 : zLs RL 198 yL_runScript := ⟨(zgt_at 865 (by decide +kernel) (by decide +kernel)), (zgt_at 866 (by decide +kernel) (by decide +kernel))⟩
theorem wy_X6_runScript : zYw yX6_runScript cX6_runScript 5 (some .int) 2 := ⟨(zgt_at 1272 (by decide +kernel) (by decide +kernel)), (zgt_at 37 (by decide +kernel) (by decide +kernel)), by decide +kernel, by decide +kernel, by decide +kernel⟩
theorem wl_RL_201 : zLv RL 201 yX6_runScript := ⟨(zgt_at 1269 (by decide +kernel) (by decide +kernel)), (zgt_at 1270 (by decide +kernel) (by decide +kernel)), (zgt_at 1271 (by decide +kernel) (by decide +kernel))⟩
theorem wl_RL_202 : zLs RL 202 yL_simulate := ⟨(zgt_at 890 (by decide +kernel) (by decide +kernel)), (zgt_at 891 (by decide +kernel) (by decide +kernel))⟩
theorem wy_X6_simulate : zYw yX6_simulate cX6_simulate 7 (some .int) 2 := ⟨(zgt_at 1307 (by decide +kernel) (by decide +kernel)), (zgt_at 37 (by decide +kernel) (by decide +kernel)), by decide +kernel, by decide +kernel, by decide +kernel⟩
theorem wl_RL_205 : zLv RL 205 yX6_simulate := ⟨(zgt_at 1304 (by decide +kernel) (by decide +kernel)), (zgt_at 1305 (by decide +kernel) (by decide +kernel)), (zgt_at 1306 (by decide +kernel) (by decide +kernel))⟩
theorem wl_RL_206 : zLs RL 206 yL_save := ⟨(zgt_at 904 (by decide +kernel) (by decide +kernel)), (zgt_at 905 (by decide +kernel) (by decide +kernel))⟩
theorem wy_X6_save : zYw yX6_save cX6_save 3 (some .int) 1 := ⟨(zgt_at 1322 (by decide +kernel) (by decide +kernel)), (zgt_at 37 (by decide +kernel) (by decide +kernel)), by decide +kernel, by decide +kernel, by decide +kernel⟩
theorem wl_RL_208 : zLv RL 208 yX6_save := ⟨(zgt_at 1319 (by decide +kernel) (by decide +kernel)), (zgt_at 1320 (by decide +kernel) (by decide +kernel)), (zgt_at 1321 (by decide +kernel) (by decide +kernel))⟩
theorem wl_RL_209 : zLs RL 209 yL_restore := ⟨(zgt_at 912 (by decide +kernel) (by decide +kernel)), (zgt_at 913 (by decide +kernel) (by decide +kernel))⟩
theorem wy_X6_restore : zYw yX6_restore cX6_restore 3 (some .int) 1 := ⟨(zgt_at 1326 (by decide +kernel) (by decide +kernel)), (zgt_at 37 (by decide +kernel) (by decide +kernel)), by decide +kernel, by decide +kernel, by decide +kernel⟩
theorem wl_RL_211 : zLv RL 211 yX6_restore := ⟨(zgt_at 1323 (by decide +kernel) (by decide +kernel)), (zgt_at 1324 (by decide +kernel) (by decide +kernel)), (zgt_at 1325 (by decide +kernel) (by decide +kernel))⟩
def LI (B : Nat) (v : TT) (w : MT) (o : Nat → Int64) (G : zG) : Prop := TA B v G ∧ MA (B + 475) w G ∧ G (B + 483) = some (zla 1 o)
section ZLX
variable {p : Program} {l : Launch} {e : Env} {R : Room} {s : State} {m : MethodId} {args : Array Value} {below : List Frame} {meth : Method} {c : Code} {Q : State → Prop} {D : zD} {B nL : Nat} {sa : Nat → Nat} {cc : ByteArray} {own : String} {k n pc z : Nat} {st : List Value} {L : zL} {G : zG}
theorem z_sld {b0 N : Nat} {xs : Nat → Int32} {i : Int32} (O : zO p l s m args c D B sa nL cc own) (hX : va_X b0 N xs s s.heap) (hb : b0 < s.heap.size) (hbB : ¬ B ≤ b0) (hin : vp_in i N) (hd : decode cc pc = .ok (.iaload, 1))
    (kk : zT p l e R s m args below meth c Q D B nL k n (pc + 1) (.int (xs i.toNatClampNeg) :: st) L z G) : zT p l e R s m args below meth c Q D B nL k n pc (.int i :: .ref b0 :: st) L z G := fun H locs ls hR hS hl =>
  va_sld O.1 O.2.1 hX hb hbB hS hin hd (kk H locs ls hR hS hl)
theorem z_slen {b0 N : Nat} {xs : Nat → Int32} (O : zO p l s m args c D B sa nL cc own) (hX : va_X b0 N xs s s.heap) (hb : b0 < s.heap.size) (hbB : ¬ B ≤ b0) (hd : decode cc pc = .ok (.arraylength, 1))
    (kk : zT p l e R s m args below meth c Q D B nL k n (pc + 1) (.int (Int32.ofNat N) :: st) L z G) : zT p l e R s m args below meth c Q D B nL k n pc (.ref b0 :: st) L z G := fun H locs ls hR hS hl =>
  va_slen O.1 O.2.1 hX hb hbB hS hd (kk H locs ls hR hS hl)
theorem lw_cmp0 {a b : Int64} (h : a = b) : lg_cmp a b = 0 := by
  subst h
  unfold lg_cmp
  rw [if_neg (by simp), if_pos rfl]
end ZLX
def KL_append (Sim Sm2 : TT → MT → Prop) : Prop := ∀ (x1 : Int32) (v : TT) (w : MT) (o : Nat → Int64), Sim v w → P_LAW_append x1 v o (fun k v' o' => P_M_append x1 w (fun b w' => P_M_thrown w' (fun t => t = k ∧ (k = 0 → o' 0 = Int32.toInt64 b) ∧ Sm2 v' w')))
set_option maxRecDepth 100000 in
theorem lw_append {p : Program} {l : Launch} {e : Env} {R : Room} {s : State} {m : MethodId} {args : Array Value} {below : List Frame} {meth : Method} {c : Code} {Q : State → Prop} {D : zD} {B : Nat} {sa : Nat → Nat} {k n z : Nat} {G : zG} (hfl : l.stackTraces = false) (O : zO p l s m args c D B sa 7 cL_law RL) {Sim Sm2 : TT → MT → Prop} (K : KL_append Sim Sm2) {b N i : Nat} {xs : Nat → Int32} {v : TT} {w : MT} {o : Nat → Int64} (hX : va_X b N xs s s.heap) (hb : b < s.heap.size) (hbB : ¬ B ≤ b) (hi1 : vp_in (Int32.ofNat i + 1) N) (hi2 : vp_in (Int32.ofNat i + 2) N) (hi3 : vp_in (Int32.ofNat i + 3) N)
    (hfr : 11 ≤ R.frames) (hlo : 270 ≤ R.locals) (hk0 : k + 0 ≤ R.cells) (hn0 : n + 0 ≤ R.slots) (hk1 : k + 1 ≤ R.cells) (hn1 : n + 6 ≤ R.slots) (hS : Sim v w) (hT : TA B v G) (hM : MA (B + 475) w G) (hO : G (B + 483) = some (zla 1 o))
    (hc : ∀ (v' : TT) (w' : MT) (o' : Nat → Int64) (z' : Nat) (G' : zG), Sm2 v' w' → LI B v' w' o' G' → zT p l e R s m args below meth c Q D B 7 (k + 1) (n + 6) 1889 [] [some (.ref b), some (.ref B), some (.ref (B + 475)), some (.ref (B + 483)), some (.int (Int32.ofNat i)), none, none] z' G') :
    zT p l e R s m args below meth c Q D B 7 k n 172 [] [some (.ref b), some (.ref B), some (.ref (B + 475)), some (.ref (B + 483)), some (.int (Int32.ofNat i)), none, none] z G := by
  refine z_aload_n O dL_law_172 rfl rfl ?_
  refine z_aload_n O dL_law_173 rfl rfl ?_
  refine z_iload O dL_law_174 rfl ?_
  refine z_iconst (v := 1) O dL_law_176 (by decide) ?_
  refine z_iadd O dL_law_177 ?_
  refine z_sld O hX hb hbB hi1 dL_law_178 ?_
  refine z_aload_n O dL_law_179 rfl rfl ?_
  have h := K (xs (Int32.toNatClampNeg (Int32.ofNat i + 1))) v w o hS
  refine z_callHi (As := [.ref B, .int (xs (Int32.toNatClampNeg (Int32.ofNat i + 1))), .ref (B + 483)]) (st := []) O (s_LAW_append hfl hT hO (by omega) h) wh_L_append wl_RL_102 dL_law_180 rfl rfl ⟨by have := hfr; omega, by have := hlo; omega⟩ (Nat.le_of_ble_eq_true rfl) ⟨hk1, hn1⟩ (fun r z1 G1 hq => ?_)
  obtain ⟨v1, o1, k1, k2, k3, h⟩ := hq
  have m1 : MA (B + 475) w G1 := MA.eq hM (fun q g1 g2 => k3 q (by omega) (by omega))
  refine z_istore (L' := [some (.ref b), some (.ref B), some (.ref (B + 475)), some (.ref (B + 483)), some (.int (Int32.ofNat i)), some (.int r), none]) O dL_law_183 (by decide) rfl ?_
  refine z_aload_n O dL_law_185 rfl rfl ?_
  refine z_aload_n O dL_law_186 rfl rfl ?_
  refine z_iload O dL_law_187 rfl ?_
  refine z_iconst (v := 1) O dL_law_189 (by decide) ?_
  refine z_iadd O dL_law_190 ?_
  refine z_sld O hX hb hbB hi1 dL_law_191 ?_
  refine z_callVi (As := [.int (xs (Int32.toNatClampNeg (Int32.ofNat i + 1)))]) (st := []) O (s_M_append hfl m1 h) wy_X6_append wl_RL_107 dL_law_192 rfl rfl (M_obj m1) ⟨by decide, rfl⟩ ⟨by have := hfr; omega, by have := hlo; omega⟩ (Nat.le_of_ble_eq_true rfl) ⟨hk1, hn1⟩ (fun r0 z20 G20 hq0 => ?_)
  obtain ⟨rfl, u0, a0, b0, h⟩ := hq0
  have c0 := TA.fr k1 b0 (by omega)
  have e0 := (b0 (B + 483) (by omega)).trans k2
  refine z_istore (L' := [some (.ref b), some (.ref B), some (.ref (B + 475)), some (.ref (B + 483)), some (.int (Int32.ofNat i)), some (.int r), some (.int r0)]) O dL_law_195 (by decide) rfl ?_
  refine z_aload_n O dL_law_197 rfl rfl ?_
  refine z_callVi (As := []) (st := []) O (s_M_thrown hfl a0 h) wy_X6_thrown wl_RL_108 dL_law_198 rfl rfl (M_obj a0) ⟨by decide, rfl⟩ ⟨by have := hfr; omega, by have := hlo; omega⟩ (Nat.le_of_ble_eq_true rfl) ⟨hk1, hn1⟩ (fun r1 z21 G21 hq1 => ?_)
  obtain ⟨rfl, rfl, h⟩ := hq1
  refine z_iload O dL_law_201 rfl ?_
  obtain ⟨h1, h2, hS⟩ := h
  refine z_icmp_eq (tgt := 208) O dL_law_203 (by decide) (fun _ => ?_) (fun q => absurd h1 q)
  refine z_iload O dL_law_208 rfl ?_
  refine z_if_ne (tgt := 225) O dL_law_210 (by decide) (fun cr => ?_) (fun cr => ?_)
  · refine z_goto (tgt := 1889) O dL_law_225 (by decide) ?_
    exact z_subL (L' := [some (.ref b), some (.ref B), some (.ref (B + 475)), some (.ref (B + 483)), some (.int (Int32.ofNat i)), none, none]) (zLe.sub (And.intro rfl (And.intro rfl (And.intro rfl (And.intro rfl (And.intro rfl True.intro)))))) (hc _ _ _ _ _ hS ⟨c0, a0, e0⟩)
  refine z_aload_n O dL_law_213 rfl rfl ?_
  refine z_iconst (v := 0) O dL_law_214 (by decide) ?_
  refine z_lald O dL_law_215 e0 (vp_i (by decide)) ?_
  refine z_iload O dL_law_216 rfl ?_
  refine z_i2l O dL_law_218 ?_
  refine z_lcmp O dL_law_219 ?_
  refine z_if_eq (tgt := 225) O dL_law_220 (by decide) (fun _ => ?_) (fun q => absurd (lw_cmp0 (h2 cr)) q)
  refine z_goto (tgt := 1889) O dL_law_225 (by decide) ?_
  exact z_subL (L' := [some (.ref b), some (.ref B), some (.ref (B + 475)), some (.ref (B + 483)), some (.int (Int32.ofNat i)), none, none]) (zLe.sub (And.intro rfl (And.intro rfl (And.intro rfl (And.intro rfl (And.intro rfl True.intro)))))) (hc _ _ _ _ _ hS ⟨c0, a0, e0⟩)
def KL_clearText (Sim Sm2 : TT → MT → Prop) : Prop := ∀ (v : TT) (w : MT), Sim v w → P_T_clearText v (fun r v' => P_M_clearText w (fun b w' => r = b ∧ Sm2 v' w'))
set_option maxRecDepth 100000 in
theorem lw_clearText {p : Program} {l : Launch} {e : Env} {R : Room} {s : State} {m : MethodId} {args : Array Value} {below : List Frame} {meth : Method} {c : Code} {Q : State → Prop} {D : zD} {B : Nat} {sa : Nat → Nat} {k n z : Nat} {G : zG} (hfl : l.stackTraces = false) (O : zO p l s m args c D B sa 7 cL_law RL) {Sim Sm2 : TT → MT → Prop} (K : KL_clearText Sim Sm2) {b N i : Nat} {xs : Nat → Int32} {v : TT} {w : MT} {o : Nat → Int64} (hX : va_X b N xs s s.heap) (hb : b < s.heap.size) (hbB : ¬ B ≤ b) (hi1 : vp_in (Int32.ofNat i + 1) N) (hi2 : vp_in (Int32.ofNat i + 2) N) (hi3 : vp_in (Int32.ofNat i + 3) N)
    (hfr : 11 ≤ R.frames) (hlo : 270 ≤ R.locals) (hk0 : k + 0 ≤ R.cells) (hn0 : n + 0 ≤ R.slots) (hk1 : k + 1 ≤ R.cells) (hn1 : n + 6 ≤ R.slots) (hS : Sim v w) (hT : TA B v G) (hM : MA (B + 475) w G) (hO : G (B + 483) = some (zla 1 o))
    (hc : ∀ (v' : TT) (w' : MT) (o' : Nat → Int64) (z' : Nat) (G' : zG), Sm2 v' w' → LI B v' w' o' G' → zT p l e R s m args below meth c Q D B 7 k n 1889 [] [some (.ref b), some (.ref B), some (.ref (B + 475)), some (.ref (B + 483)), some (.int (Int32.ofNat i)), none, none] z' G') :
    zT p l e R s m args below meth c Q D B 7 k n 228 [] [some (.ref b), some (.ref B), some (.ref (B + 475)), some (.ref (B + 483)), some (.int (Int32.ofNat i)), none, none] z G := by
  refine z_aload_n O dL_law_228 rfl rfl ?_
  have h := K v w hS
  refine z_callVi (As := []) (st := []) O (s_T_clearText hfl hT h) wy_X5_clearText wl_RL_111 dL_law_229 rfl rfl (T_obj hT) ⟨by decide, rfl⟩ ⟨by have := hfr; omega, by have := hlo; omega⟩ (Nat.le_of_ble_eq_true rfl) ⟨hk0, hn0⟩ (fun r0 z20 G20 hq0 => ?_)
  obtain ⟨rfl, u0, a0, b0, h⟩ := hq0
  have c0 : MA (B + 475) w G20 := MA.fr hM b0 (by omega)
  have e0 := (b0 (B + 483) (by omega)).trans hO
  refine z_aload_n O dL_law_232 rfl rfl ?_
  refine z_callVi (As := []) (st := [.int r0]) O (s_M_clearText hfl c0 h) wy_X6_clearText wl_RL_114 dL_law_233 rfl rfl (M_obj c0) ⟨by decide, rfl⟩ ⟨by have := hfr; omega, by have := hlo; omega⟩ (Nat.le_of_ble_eq_true rfl) ⟨hk0, hn0⟩ (fun r1 z21 G21 hq1 => ?_)
  obtain ⟨rfl, u1, a1, b1, h⟩ := hq1
  have c1 := TA.fr a0 b1 (by omega)
  have e1 := (b1 (B + 483) (by omega)).trans e0
  obtain ⟨h1, hS⟩ := h
  refine z_icmp_eq (tgt := 1889) O dL_law_236 (by decide) (fun _ => ?_) (fun q => absurd h1 q)
  exact z_subL (L' := [some (.ref b), some (.ref B), some (.ref (B + 475)), some (.ref (B + 483)), some (.int (Int32.ofNat i)), none, none]) (zLe.sub (And.intro rfl (And.intro rfl (And.intro rfl (And.intro rfl (And.intro rfl True.intro)))))) (hc _ _ _ _ _ hS ⟨c1, a1, e1⟩)
def KL_errorPosition (Sim Sm2 : TT → MT → Prop) : Prop := ∀ (v : TT) (w : MT), Sim v w → P_T_errorPosition v (fun r v' => P_M_errorPosition w (fun b w' => r = b ∧ Sm2 v' w'))
set_option maxRecDepth 100000 in
theorem lw_errorPosition {p : Program} {l : Launch} {e : Env} {R : Room} {s : State} {m : MethodId} {args : Array Value} {below : List Frame} {meth : Method} {c : Code} {Q : State → Prop} {D : zD} {B : Nat} {sa : Nat → Nat} {k n z : Nat} {G : zG} (hfl : l.stackTraces = false) (O : zO p l s m args c D B sa 7 cL_law RL) {Sim Sm2 : TT → MT → Prop} (K : KL_errorPosition Sim Sm2) {b N i : Nat} {xs : Nat → Int32} {v : TT} {w : MT} {o : Nat → Int64} (hX : va_X b N xs s s.heap) (hb : b < s.heap.size) (hbB : ¬ B ≤ b) (hi1 : vp_in (Int32.ofNat i + 1) N) (hi2 : vp_in (Int32.ofNat i + 2) N) (hi3 : vp_in (Int32.ofNat i + 3) N)
    (hfr : 11 ≤ R.frames) (hlo : 270 ≤ R.locals) (hk0 : k + 0 ≤ R.cells) (hn0 : n + 0 ≤ R.slots) (hk1 : k + 1 ≤ R.cells) (hn1 : n + 6 ≤ R.slots) (hS : Sim v w) (hT : TA B v G) (hM : MA (B + 475) w G) (hO : G (B + 483) = some (zla 1 o))
    (hc : ∀ (v' : TT) (w' : MT) (o' : Nat → Int64) (z' : Nat) (G' : zG), Sm2 v' w' → LI B v' w' o' G' → zT p l e R s m args below meth c Q D B 7 k n 1889 [] [some (.ref b), some (.ref B), some (.ref (B + 475)), some (.ref (B + 483)), some (.int (Int32.ofNat i)), none, none] z' G') :
    zT p l e R s m args below meth c Q D B 7 k n 241 [] [some (.ref b), some (.ref B), some (.ref (B + 475)), some (.ref (B + 483)), some (.int (Int32.ofNat i)), none, none] z G := by
  refine z_aload_n O dL_law_241 rfl rfl ?_
  have h := K v w hS
  refine z_callVi (As := []) (st := []) O (s_T_errorPosition hfl hT h) wy_X5_errorPosition wl_RL_115 dL_law_242 rfl rfl (T_obj hT) ⟨by decide, rfl⟩ ⟨by have := hfr; omega, by have := hlo; omega⟩ (Nat.le_of_ble_eq_true rfl) ⟨hk0, hn0⟩ (fun r0 z20 G20 hq0 => ?_)
  obtain ⟨rfl, u0, a0, b0, h⟩ := hq0
  have c0 : MA (B + 475) w G20 := MA.fr hM b0 (by omega)
  have e0 := (b0 (B + 483) (by omega)).trans hO
  refine z_aload_n O dL_law_245 rfl rfl ?_
  refine z_callVi (As := []) (st := [.int r0]) O (s_M_errorPosition hfl c0 h) wy_X6_errorPosition wl_RL_118 dL_law_246 rfl rfl (M_obj c0) ⟨by decide, rfl⟩ ⟨by have := hfr; omega, by have := hlo; omega⟩ (Nat.le_of_ble_eq_true rfl) ⟨hk0, hn0⟩ (fun r1 z21 G21 hq1 => ?_)
  obtain ⟨rfl, u1, a1, b1, h⟩ := hq1
  have c1 := TA.fr a0 b1 (by omega)
  have e1 := (b1 (B + 483) (by omega)).trans e0
  obtain ⟨h1, hS⟩ := h
  refine z_icmp_eq (tgt := 1889) O dL_law_249 (by decide) (fun _ => ?_) (fun q => absurd h1 q)
  exact z_subL (L' := [some (.ref b), some (.ref B), some (.ref (B + 475)), some (.ref (B + 483)), some (.int (Int32.ofNat i)), none, none]) (zLe.sub (And.intro rfl (And.intro rfl (And.intro rfl (And.intro rfl (And.intro rfl True.intro)))))) (hc _ _ _ _ _ hS ⟨c1, a1, e1⟩)
def KL_load (Sim Sm2 : TT → MT → Prop) : Prop := ∀ (v : TT) (w : MT) (o : Nat → Int64), Sim v w → P_LAW_load  v o (fun k v' o' => P_M_load  w (fun b w' => P_M_thrown w' (fun t => t = k ∧ (k = 0 → o' 0 = Int32.toInt64 b) ∧ Sm2 v' w')))
set_option maxRecDepth 100000 in
theorem lw_load {p : Program} {l : Launch} {e : Env} {R : Room} {s : State} {m : MethodId} {args : Array Value} {below : List Frame} {meth : Method} {c : Code} {Q : State → Prop} {D : zD} {B : Nat} {sa : Nat → Nat} {k n z : Nat} {G : zG} (hfl : l.stackTraces = false) (O : zO p l s m args c D B sa 7 cL_law RL) {Sim Sm2 : TT → MT → Prop} (K : KL_load Sim Sm2) {b N i : Nat} {xs : Nat → Int32} {v : TT} {w : MT} {o : Nat → Int64} (hX : va_X b N xs s s.heap) (hb : b < s.heap.size) (hbB : ¬ B ≤ b) (hi1 : vp_in (Int32.ofNat i + 1) N) (hi2 : vp_in (Int32.ofNat i + 2) N) (hi3 : vp_in (Int32.ofNat i + 3) N)
    (hfr : 11 ≤ R.frames) (hlo : 270 ≤ R.locals) (hk0 : k + 0 ≤ R.cells) (hn0 : n + 0 ≤ R.slots) (hk1 : k + 1 ≤ R.cells) (hn1 : n + 6 ≤ R.slots) (hS : Sim v w) (hT : TA B v G) (hM : MA (B + 475) w G) (hO : G (B + 483) = some (zla 1 o))
    (hc : ∀ (v' : TT) (w' : MT) (o' : Nat → Int64) (z' : Nat) (G' : zG), Sm2 v' w' → LI B v' w' o' G' → zT p l e R s m args below meth c Q D B 7 (k + 1) (n + 6) 1889 [] [some (.ref b), some (.ref B), some (.ref (B + 475)), some (.ref (B + 483)), some (.int (Int32.ofNat i)), none, none] z' G') :
    zT p l e R s m args below meth c Q D B 7 k n 254 [] [some (.ref b), some (.ref B), some (.ref (B + 475)), some (.ref (B + 483)), some (.int (Int32.ofNat i)), none, none] z G := by
  refine z_aload_n O dL_law_254 rfl rfl ?_
  refine z_aload_n O dL_law_255 rfl rfl ?_
  have h := K  v w o hS
  refine z_callHi (As := [.ref B, .ref (B + 483)]) (st := []) O (s_LAW_load hfl hT hO (by omega) h) wh_L_load wl_RL_119 dL_law_256 rfl rfl ⟨by have := hfr; omega, by have := hlo; omega⟩ (Nat.le_of_ble_eq_true rfl) ⟨hk1, hn1⟩ (fun r z1 G1 hq => ?_)
  obtain ⟨v1, o1, k1, k2, k3, h⟩ := hq
  have m1 : MA (B + 475) w G1 := MA.eq hM (fun q g1 g2 => k3 q (by omega) (by omega))
  refine z_istore (L' := [some (.ref b), some (.ref B), some (.ref (B + 475)), some (.ref (B + 483)), some (.int (Int32.ofNat i)), some (.int r), none]) O dL_law_259 (by decide) rfl ?_
  refine z_aload_n O dL_law_261 rfl rfl ?_
  refine z_callVi (As := []) (st := []) O (s_M_load hfl m1 h) wy_X6_load wl_RL_122 dL_law_262 rfl rfl (M_obj m1) ⟨by decide, rfl⟩ ⟨by have := hfr; omega, by have := hlo; omega⟩ (Nat.le_of_ble_eq_true rfl) ⟨hk1, hn1⟩ (fun r0 z20 G20 hq0 => ?_)
  obtain ⟨rfl, u0, a0, b0, h⟩ := hq0
  have c0 := TA.fr k1 b0 (by omega)
  have e0 := (b0 (B + 483) (by omega)).trans k2
  refine z_istore (L' := [some (.ref b), some (.ref B), some (.ref (B + 475)), some (.ref (B + 483)), some (.int (Int32.ofNat i)), some (.int r), some (.int r0)]) O dL_law_265 (by decide) rfl ?_
  refine z_aload_n O dL_law_267 rfl rfl ?_
  refine z_callVi (As := []) (st := []) O (s_M_thrown hfl a0 h) wy_X6_thrown wl_RL_108 dL_law_268 rfl rfl (M_obj a0) ⟨by decide, rfl⟩ ⟨by have := hfr; omega, by have := hlo; omega⟩ (Nat.le_of_ble_eq_true rfl) ⟨hk1, hn1⟩ (fun r1 z21 G21 hq1 => ?_)
  obtain ⟨rfl, rfl, h⟩ := hq1
  refine z_iload O dL_law_271 rfl ?_
  obtain ⟨h1, h2, hS⟩ := h
  refine z_icmp_eq (tgt := 278) O dL_law_273 (by decide) (fun _ => ?_) (fun q => absurd h1 q)
  refine z_iload O dL_law_278 rfl ?_
  refine z_if_ne (tgt := 295) O dL_law_280 (by decide) (fun cr => ?_) (fun cr => ?_)
  · refine z_goto (tgt := 1889) O dL_law_295 (by decide) ?_
    exact z_subL (L' := [some (.ref b), some (.ref B), some (.ref (B + 475)), some (.ref (B + 483)), some (.int (Int32.ofNat i)), none, none]) (zLe.sub (And.intro rfl (And.intro rfl (And.intro rfl (And.intro rfl (And.intro rfl True.intro)))))) (hc _ _ _ _ _ hS ⟨c0, a0, e0⟩)
  refine z_aload_n O dL_law_283 rfl rfl ?_
  refine z_iconst (v := 0) O dL_law_284 (by decide) ?_
  refine z_lald O dL_law_285 e0 (vp_i (by decide)) ?_
  refine z_iload O dL_law_286 rfl ?_
  refine z_i2l O dL_law_288 ?_
  refine z_lcmp O dL_law_289 ?_
  refine z_if_eq (tgt := 295) O dL_law_290 (by decide) (fun _ => ?_) (fun q => absurd (lw_cmp0 (h2 cr)) q)
  refine z_goto (tgt := 1889) O dL_law_295 (by decide) ?_
  exact z_subL (L' := [some (.ref b), some (.ref B), some (.ref (B + 475)), some (.ref (B + 483)), some (.int (Int32.ofNat i)), none, none]) (zLe.sub (And.intro rfl (And.intro rfl (And.intro rfl (And.intro rfl (And.intro rfl True.intro)))))) (hc _ _ _ _ _ hS ⟨c0, a0, e0⟩)
def KL_about (Sim Sm2 : TT → MT → Prop) : Prop := ∀ (x1 : Int32) (v : TT) (w : MT) (o : Nat → Int64), Sim v w → P_LAW_about x1 v o (fun k v' o' => P_M_about x1 w (fun b w' => P_M_thrown w' (fun t => t = k ∧ (k = 0 → o' 0 = Int32.toInt64 b) ∧ Sm2 v' w')))
set_option maxRecDepth 100000 in
theorem lw_about {p : Program} {l : Launch} {e : Env} {R : Room} {s : State} {m : MethodId} {args : Array Value} {below : List Frame} {meth : Method} {c : Code} {Q : State → Prop} {D : zD} {B : Nat} {sa : Nat → Nat} {k n z : Nat} {G : zG} (hfl : l.stackTraces = false) (O : zO p l s m args c D B sa 7 cL_law RL) {Sim Sm2 : TT → MT → Prop} (K : KL_about Sim Sm2) {b N i : Nat} {xs : Nat → Int32} {v : TT} {w : MT} {o : Nat → Int64} (hX : va_X b N xs s s.heap) (hb : b < s.heap.size) (hbB : ¬ B ≤ b) (hi1 : vp_in (Int32.ofNat i + 1) N) (hi2 : vp_in (Int32.ofNat i + 2) N) (hi3 : vp_in (Int32.ofNat i + 3) N)
    (hfr : 11 ≤ R.frames) (hlo : 270 ≤ R.locals) (hk0 : k + 0 ≤ R.cells) (hn0 : n + 0 ≤ R.slots) (hk1 : k + 1 ≤ R.cells) (hn1 : n + 6 ≤ R.slots) (hS : Sim v w) (hT : TA B v G) (hM : MA (B + 475) w G) (hO : G (B + 483) = some (zla 1 o))
    (hc : ∀ (v' : TT) (w' : MT) (o' : Nat → Int64) (z' : Nat) (G' : zG), Sm2 v' w' → LI B v' w' o' G' → zT p l e R s m args below meth c Q D B 7 (k + 1) (n + 6) 1889 [] [some (.ref b), some (.ref B), some (.ref (B + 475)), some (.ref (B + 483)), some (.int (Int32.ofNat i)), none, none] z' G') :
    zT p l e R s m args below meth c Q D B 7 k n 298 [] [some (.ref b), some (.ref B), some (.ref (B + 475)), some (.ref (B + 483)), some (.int (Int32.ofNat i)), none, none] z G := by
  refine z_aload_n O dL_law_298 rfl rfl ?_
  refine z_aload_n O dL_law_299 rfl rfl ?_
  refine z_iload O dL_law_300 rfl ?_
  refine z_iconst (v := 1) O dL_law_302 (by decide) ?_
  refine z_iadd O dL_law_303 ?_
  refine z_sld O hX hb hbB hi1 dL_law_304 ?_
  refine z_aload_n O dL_law_305 rfl rfl ?_
  have h := K (xs (Int32.toNatClampNeg (Int32.ofNat i + 1))) v w o hS
  refine z_callHi (As := [.ref B, .int (xs (Int32.toNatClampNeg (Int32.ofNat i + 1))), .ref (B + 483)]) (st := []) O (s_LAW_about hfl hT hO (by omega) h) wh_L_about wl_RL_123 dL_law_306 rfl rfl ⟨by have := hfr; omega, by have := hlo; omega⟩ (Nat.le_of_ble_eq_true rfl) ⟨hk1, hn1⟩ (fun r z1 G1 hq => ?_)
  obtain ⟨v1, o1, k1, k2, k3, h⟩ := hq
  have m1 : MA (B + 475) w G1 := MA.eq hM (fun q g1 g2 => k3 q (by omega) (by omega))
  refine z_istore (L' := [some (.ref b), some (.ref B), some (.ref (B + 475)), some (.ref (B + 483)), some (.int (Int32.ofNat i)), some (.int r), none]) O dL_law_309 (by decide) rfl ?_
  refine z_aload_n O dL_law_311 rfl rfl ?_
  refine z_aload_n O dL_law_312 rfl rfl ?_
  refine z_iload O dL_law_313 rfl ?_
  refine z_iconst (v := 1) O dL_law_315 (by decide) ?_
  refine z_iadd O dL_law_316 ?_
  refine z_sld O hX hb hbB hi1 dL_law_317 ?_
  refine z_callVi (As := [.int (xs (Int32.toNatClampNeg (Int32.ofNat i + 1)))]) (st := []) O (s_M_about hfl m1 h) wy_X6_about wl_RL_125 dL_law_318 rfl rfl (M_obj m1) ⟨by decide, rfl⟩ ⟨by have := hfr; omega, by have := hlo; omega⟩ (Nat.le_of_ble_eq_true rfl) ⟨hk1, hn1⟩ (fun r0 z20 G20 hq0 => ?_)
  obtain ⟨rfl, u0, a0, b0, h⟩ := hq0
  have c0 := TA.fr k1 b0 (by omega)
  have e0 := (b0 (B + 483) (by omega)).trans k2
  refine z_istore (L' := [some (.ref b), some (.ref B), some (.ref (B + 475)), some (.ref (B + 483)), some (.int (Int32.ofNat i)), some (.int r), some (.int r0)]) O dL_law_321 (by decide) rfl ?_
  refine z_aload_n O dL_law_323 rfl rfl ?_
  refine z_callVi (As := []) (st := []) O (s_M_thrown hfl a0 h) wy_X6_thrown wl_RL_108 dL_law_324 rfl rfl (M_obj a0) ⟨by decide, rfl⟩ ⟨by have := hfr; omega, by have := hlo; omega⟩ (Nat.le_of_ble_eq_true rfl) ⟨hk1, hn1⟩ (fun r1 z21 G21 hq1 => ?_)
  obtain ⟨rfl, rfl, h⟩ := hq1
  refine z_iload O dL_law_327 rfl ?_
  obtain ⟨h1, h2, hS⟩ := h
  refine z_icmp_eq (tgt := 334) O dL_law_329 (by decide) (fun _ => ?_) (fun q => absurd h1 q)
  refine z_iload O dL_law_334 rfl ?_
  refine z_if_ne (tgt := 351) O dL_law_336 (by decide) (fun cr => ?_) (fun cr => ?_)
  · refine z_goto (tgt := 1889) O dL_law_351 (by decide) ?_
    exact z_subL (L' := [some (.ref b), some (.ref B), some (.ref (B + 475)), some (.ref (B + 483)), some (.int (Int32.ofNat i)), none, none]) (zLe.sub (And.intro rfl (And.intro rfl (And.intro rfl (And.intro rfl (And.intro rfl True.intro)))))) (hc _ _ _ _ _ hS ⟨c0, a0, e0⟩)
  refine z_aload_n O dL_law_339 rfl rfl ?_
  refine z_iconst (v := 0) O dL_law_340 (by decide) ?_
  refine z_lald O dL_law_341 e0 (vp_i (by decide)) ?_
  refine z_iload O dL_law_342 rfl ?_
  refine z_i2l O dL_law_344 ?_
  refine z_lcmp O dL_law_345 ?_
  refine z_if_eq (tgt := 351) O dL_law_346 (by decide) (fun _ => ?_) (fun q => absurd (lw_cmp0 (h2 cr)) q)
  refine z_goto (tgt := 1889) O dL_law_351 (by decide) ?_
  exact z_subL (L' := [some (.ref b), some (.ref B), some (.ref (B + 475)), some (.ref (B + 483)), some (.int (Int32.ofNat i)), none, none]) (zLe.sub (And.intro rfl (And.intro rfl (And.intro rfl (And.intro rfl (And.intro rfl True.intro)))))) (hc _ _ _ _ _ hS ⟨c0, a0, e0⟩)
def KL_rowOf (Sim Sm2 : TT → MT → Prop) : Prop := ∀ (x1 : Int32) (x2 : Int32) (v : TT) (w : MT) (o : Nat → Int64), Sim v w → P_LAW_rowOf x1 x2 v o (fun k v' o' => P_M_rowOf x1 x2 w (fun b w' => P_M_thrown w' (fun t => t = k ∧ (k = 0 → o' 0 = Int32.toInt64 b) ∧ Sm2 v' w')))
set_option maxRecDepth 100000 in
theorem lw_rowOf {p : Program} {l : Launch} {e : Env} {R : Room} {s : State} {m : MethodId} {args : Array Value} {below : List Frame} {meth : Method} {c : Code} {Q : State → Prop} {D : zD} {B : Nat} {sa : Nat → Nat} {k n z : Nat} {G : zG} (hfl : l.stackTraces = false) (O : zO p l s m args c D B sa 7 cL_law RL) {Sim Sm2 : TT → MT → Prop} (K : KL_rowOf Sim Sm2) {b N i : Nat} {xs : Nat → Int32} {v : TT} {w : MT} {o : Nat → Int64} (hX : va_X b N xs s s.heap) (hb : b < s.heap.size) (hbB : ¬ B ≤ b) (hi1 : vp_in (Int32.ofNat i + 1) N) (hi2 : vp_in (Int32.ofNat i + 2) N) (hi3 : vp_in (Int32.ofNat i + 3) N)
    (hfr : 11 ≤ R.frames) (hlo : 270 ≤ R.locals) (hk0 : k + 0 ≤ R.cells) (hn0 : n + 0 ≤ R.slots) (hk1 : k + 1 ≤ R.cells) (hn1 : n + 6 ≤ R.slots) (hS : Sim v w) (hT : TA B v G) (hM : MA (B + 475) w G) (hO : G (B + 483) = some (zla 1 o))
    (hc : ∀ (v' : TT) (w' : MT) (o' : Nat → Int64) (z' : Nat) (G' : zG), Sm2 v' w' → LI B v' w' o' G' → zT p l e R s m args below meth c Q D B 7 (k + 1) (n + 6) 1889 [] [some (.ref b), some (.ref B), some (.ref (B + 475)), some (.ref (B + 483)), some (.int (Int32.ofNat i)), none, none] z' G') :
    zT p l e R s m args below meth c Q D B 7 k n 354 [] [some (.ref b), some (.ref B), some (.ref (B + 475)), some (.ref (B + 483)), some (.int (Int32.ofNat i)), none, none] z G := by
  refine z_aload_n O dL_law_354 rfl rfl ?_
  refine z_aload_n O dL_law_355 rfl rfl ?_
  refine z_iload O dL_law_356 rfl ?_
  refine z_iconst (v := 1) O dL_law_358 (by decide) ?_
  refine z_iadd O dL_law_359 ?_
  refine z_sld O hX hb hbB hi1 dL_law_360 ?_
  refine z_aload_n O dL_law_361 rfl rfl ?_
  refine z_iload O dL_law_362 rfl ?_
  refine z_iconst (v := 2) O dL_law_364 (by decide) ?_
  refine z_iadd O dL_law_365 ?_
  refine z_sld O hX hb hbB hi2 dL_law_366 ?_
  refine z_aload_n O dL_law_367 rfl rfl ?_
  have h := K (xs (Int32.toNatClampNeg (Int32.ofNat i + 1))) (xs (Int32.toNatClampNeg (Int32.ofNat i + 2))) v w o hS
  refine z_callHi (As := [.ref B, .int (xs (Int32.toNatClampNeg (Int32.ofNat i + 1))), .int (xs (Int32.toNatClampNeg (Int32.ofNat i + 2))), .ref (B + 483)]) (st := []) O (s_LAW_rowOf hfl hT hO (by omega) h) wh_L_rowOf wl_RL_126 dL_law_368 rfl rfl ⟨by have := hfr; omega, by have := hlo; omega⟩ (Nat.le_of_ble_eq_true rfl) ⟨hk1, hn1⟩ (fun r z1 G1 hq => ?_)
  obtain ⟨v1, o1, k1, k2, k3, h⟩ := hq
  have m1 : MA (B + 475) w G1 := MA.eq hM (fun q g1 g2 => k3 q (by omega) (by omega))
  refine z_istore (L' := [some (.ref b), some (.ref B), some (.ref (B + 475)), some (.ref (B + 483)), some (.int (Int32.ofNat i)), some (.int r), none]) O dL_law_371 (by decide) rfl ?_
  refine z_aload_n O dL_law_373 rfl rfl ?_
  refine z_aload_n O dL_law_374 rfl rfl ?_
  refine z_iload O dL_law_375 rfl ?_
  refine z_iconst (v := 1) O dL_law_377 (by decide) ?_
  refine z_iadd O dL_law_378 ?_
  refine z_sld O hX hb hbB hi1 dL_law_379 ?_
  refine z_aload_n O dL_law_380 rfl rfl ?_
  refine z_iload O dL_law_381 rfl ?_
  refine z_iconst (v := 2) O dL_law_383 (by decide) ?_
  refine z_iadd O dL_law_384 ?_
  refine z_sld O hX hb hbB hi2 dL_law_385 ?_
  refine z_callVi (As := [.int (xs (Int32.toNatClampNeg (Int32.ofNat i + 1))), .int (xs (Int32.toNatClampNeg (Int32.ofNat i + 2)))]) (st := []) O (s_M_rowOf hfl m1 h) wy_X6_rowOf wl_RL_129 dL_law_386 rfl rfl (M_obj m1) ⟨by decide, rfl⟩ ⟨by have := hfr; omega, by have := hlo; omega⟩ (Nat.le_of_ble_eq_true rfl) ⟨hk1, hn1⟩ (fun r0 z20 G20 hq0 => ?_)
  obtain ⟨rfl, u0, a0, b0, h⟩ := hq0
  have c0 := TA.fr k1 b0 (by omega)
  have e0 := (b0 (B + 483) (by omega)).trans k2
  refine z_istore (L' := [some (.ref b), some (.ref B), some (.ref (B + 475)), some (.ref (B + 483)), some (.int (Int32.ofNat i)), some (.int r), some (.int r0)]) O dL_law_389 (by decide) rfl ?_
  refine z_aload_n O dL_law_391 rfl rfl ?_
  refine z_callVi (As := []) (st := []) O (s_M_thrown hfl a0 h) wy_X6_thrown wl_RL_108 dL_law_392 rfl rfl (M_obj a0) ⟨by decide, rfl⟩ ⟨by have := hfr; omega, by have := hlo; omega⟩ (Nat.le_of_ble_eq_true rfl) ⟨hk1, hn1⟩ (fun r1 z21 G21 hq1 => ?_)
  obtain ⟨rfl, rfl, h⟩ := hq1
  refine z_iload O dL_law_395 rfl ?_
  obtain ⟨h1, h2, hS⟩ := h
  refine z_icmp_eq (tgt := 402) O dL_law_397 (by decide) (fun _ => ?_) (fun q => absurd h1 q)
  refine z_iload O dL_law_402 rfl ?_
  refine z_if_ne (tgt := 419) O dL_law_404 (by decide) (fun cr => ?_) (fun cr => ?_)
  · refine z_goto (tgt := 1889) O dL_law_419 (by decide) ?_
    exact z_subL (L' := [some (.ref b), some (.ref B), some (.ref (B + 475)), some (.ref (B + 483)), some (.int (Int32.ofNat i)), none, none]) (zLe.sub (And.intro rfl (And.intro rfl (And.intro rfl (And.intro rfl (And.intro rfl True.intro)))))) (hc _ _ _ _ _ hS ⟨c0, a0, e0⟩)
  refine z_aload_n O dL_law_407 rfl rfl ?_
  refine z_iconst (v := 0) O dL_law_408 (by decide) ?_
  refine z_lald O dL_law_409 e0 (vp_i (by decide)) ?_
  refine z_iload O dL_law_410 rfl ?_
  refine z_i2l O dL_law_412 ?_
  refine z_lcmp O dL_law_413 ?_
  refine z_if_eq (tgt := 419) O dL_law_414 (by decide) (fun _ => ?_) (fun q => absurd (lw_cmp0 (h2 cr)) q)
  refine z_goto (tgt := 1889) O dL_law_419 (by decide) ?_
  exact z_subL (L' := [some (.ref b), some (.ref B), some (.ref (B + 475)), some (.ref (B + 483)), some (.int (Int32.ofNat i)), none, none]) (zLe.sub (And.intro rfl (And.intro rfl (And.intro rfl (And.intro rfl (And.intro rfl True.intro)))))) (hc _ _ _ _ _ hS ⟨c0, a0, e0⟩)
def KL_segmentOf (Sim Sm2 : TT → MT → Prop) : Prop := ∀ (x1 : Int32) (x2 : Int32) (v : TT) (w : MT) (o : Nat → Int64), Sim v w → P_LAW_segmentOf x1 x2 v o (fun k v' o' => P_M_segmentOf x1 x2 w (fun b w' => P_M_thrown w' (fun t => t = k ∧ (k = 0 → o' 0 = Int32.toInt64 b) ∧ Sm2 v' w')))
set_option maxRecDepth 100000 in
theorem lw_segmentOf {p : Program} {l : Launch} {e : Env} {R : Room} {s : State} {m : MethodId} {args : Array Value} {below : List Frame} {meth : Method} {c : Code} {Q : State → Prop} {D : zD} {B : Nat} {sa : Nat → Nat} {k n z : Nat} {G : zG} (hfl : l.stackTraces = false) (O : zO p l s m args c D B sa 7 cL_law RL) {Sim Sm2 : TT → MT → Prop} (K : KL_segmentOf Sim Sm2) {b N i : Nat} {xs : Nat → Int32} {v : TT} {w : MT} {o : Nat → Int64} (hX : va_X b N xs s s.heap) (hb : b < s.heap.size) (hbB : ¬ B ≤ b) (hi1 : vp_in (Int32.ofNat i + 1) N) (hi2 : vp_in (Int32.ofNat i + 2) N) (hi3 : vp_in (Int32.ofNat i + 3) N)
    (hfr : 11 ≤ R.frames) (hlo : 270 ≤ R.locals) (hk0 : k + 0 ≤ R.cells) (hn0 : n + 0 ≤ R.slots) (hk1 : k + 1 ≤ R.cells) (hn1 : n + 6 ≤ R.slots) (hS : Sim v w) (hT : TA B v G) (hM : MA (B + 475) w G) (hO : G (B + 483) = some (zla 1 o))
    (hc : ∀ (v' : TT) (w' : MT) (o' : Nat → Int64) (z' : Nat) (G' : zG), Sm2 v' w' → LI B v' w' o' G' → zT p l e R s m args below meth c Q D B 7 (k + 1) (n + 6) 1889 [] [some (.ref b), some (.ref B), some (.ref (B + 475)), some (.ref (B + 483)), some (.int (Int32.ofNat i)), none, none] z' G') :
    zT p l e R s m args below meth c Q D B 7 k n 422 [] [some (.ref b), some (.ref B), some (.ref (B + 475)), some (.ref (B + 483)), some (.int (Int32.ofNat i)), none, none] z G := by
  refine z_aload_n O dL_law_422 rfl rfl ?_
  refine z_aload_n O dL_law_423 rfl rfl ?_
  refine z_iload O dL_law_424 rfl ?_
  refine z_iconst (v := 1) O dL_law_426 (by decide) ?_
  refine z_iadd O dL_law_427 ?_
  refine z_sld O hX hb hbB hi1 dL_law_428 ?_
  refine z_aload_n O dL_law_429 rfl rfl ?_
  refine z_iload O dL_law_430 rfl ?_
  refine z_iconst (v := 2) O dL_law_432 (by decide) ?_
  refine z_iadd O dL_law_433 ?_
  refine z_sld O hX hb hbB hi2 dL_law_434 ?_
  refine z_aload_n O dL_law_435 rfl rfl ?_
  have h := K (xs (Int32.toNatClampNeg (Int32.ofNat i + 1))) (xs (Int32.toNatClampNeg (Int32.ofNat i + 2))) v w o hS
  refine z_callHi (As := [.ref B, .int (xs (Int32.toNatClampNeg (Int32.ofNat i + 1))), .int (xs (Int32.toNatClampNeg (Int32.ofNat i + 2))), .ref (B + 483)]) (st := []) O (s_LAW_segmentOf hfl hT hO (by omega) h) wh_L_segmentOf wl_RL_130 dL_law_436 rfl rfl ⟨by have := hfr; omega, by have := hlo; omega⟩ (Nat.le_of_ble_eq_true rfl) ⟨hk1, hn1⟩ (fun r z1 G1 hq => ?_)
  obtain ⟨v1, o1, k1, k2, k3, h⟩ := hq
  have m1 : MA (B + 475) w G1 := MA.eq hM (fun q g1 g2 => k3 q (by omega) (by omega))
  refine z_istore (L' := [some (.ref b), some (.ref B), some (.ref (B + 475)), some (.ref (B + 483)), some (.int (Int32.ofNat i)), some (.int r), none]) O dL_law_439 (by decide) rfl ?_
  refine z_aload_n O dL_law_441 rfl rfl ?_
  refine z_aload_n O dL_law_442 rfl rfl ?_
  refine z_iload O dL_law_443 rfl ?_
  refine z_iconst (v := 1) O dL_law_445 (by decide) ?_
  refine z_iadd O dL_law_446 ?_
  refine z_sld O hX hb hbB hi1 dL_law_447 ?_
  refine z_aload_n O dL_law_448 rfl rfl ?_
  refine z_iload O dL_law_449 rfl ?_
  refine z_iconst (v := 2) O dL_law_451 (by decide) ?_
  refine z_iadd O dL_law_452 ?_
  refine z_sld O hX hb hbB hi2 dL_law_453 ?_
  refine z_callVi (As := [.int (xs (Int32.toNatClampNeg (Int32.ofNat i + 1))), .int (xs (Int32.toNatClampNeg (Int32.ofNat i + 2)))]) (st := []) O (s_M_segmentOf hfl m1 h) wy_X6_segmentOf wl_RL_132 dL_law_454 rfl rfl (M_obj m1) ⟨by decide, rfl⟩ ⟨by have := hfr; omega, by have := hlo; omega⟩ (Nat.le_of_ble_eq_true rfl) ⟨hk1, hn1⟩ (fun r0 z20 G20 hq0 => ?_)
  obtain ⟨rfl, u0, a0, b0, h⟩ := hq0
  have c0 := TA.fr k1 b0 (by omega)
  have e0 := (b0 (B + 483) (by omega)).trans k2
  refine z_istore (L' := [some (.ref b), some (.ref B), some (.ref (B + 475)), some (.ref (B + 483)), some (.int (Int32.ofNat i)), some (.int r), some (.int r0)]) O dL_law_457 (by decide) rfl ?_
  refine z_aload_n O dL_law_459 rfl rfl ?_
  refine z_callVi (As := []) (st := []) O (s_M_thrown hfl a0 h) wy_X6_thrown wl_RL_108 dL_law_460 rfl rfl (M_obj a0) ⟨by decide, rfl⟩ ⟨by have := hfr; omega, by have := hlo; omega⟩ (Nat.le_of_ble_eq_true rfl) ⟨hk1, hn1⟩ (fun r1 z21 G21 hq1 => ?_)
  obtain ⟨rfl, rfl, h⟩ := hq1
  refine z_iload O dL_law_463 rfl ?_
  obtain ⟨h1, h2, hS⟩ := h
  refine z_icmp_eq (tgt := 470) O dL_law_465 (by decide) (fun _ => ?_) (fun q => absurd h1 q)
  refine z_iload O dL_law_470 rfl ?_
  refine z_if_ne (tgt := 487) O dL_law_472 (by decide) (fun cr => ?_) (fun cr => ?_)
  · refine z_goto (tgt := 1889) O dL_law_487 (by decide) ?_
    exact z_subL (L' := [some (.ref b), some (.ref B), some (.ref (B + 475)), some (.ref (B + 483)), some (.int (Int32.ofNat i)), none, none]) (zLe.sub (And.intro rfl (And.intro rfl (And.intro rfl (And.intro rfl (And.intro rfl True.intro)))))) (hc _ _ _ _ _ hS ⟨c0, a0, e0⟩)
  refine z_aload_n O dL_law_475 rfl rfl ?_
  refine z_iconst (v := 0) O dL_law_476 (by decide) ?_
  refine z_lald O dL_law_477 e0 (vp_i (by decide)) ?_
  refine z_iload O dL_law_478 rfl ?_
  refine z_i2l O dL_law_480 ?_
  refine z_lcmp O dL_law_481 ?_
  refine z_if_eq (tgt := 487) O dL_law_482 (by decide) (fun _ => ?_) (fun q => absurd (lw_cmp0 (h2 cr)) q)
  refine z_goto (tgt := 1889) O dL_law_487 (by decide) ?_
  exact z_subL (L' := [some (.ref b), some (.ref B), some (.ref (B + 475)), some (.ref (B + 483)), some (.int (Int32.ofNat i)), none, none]) (zLe.sub (And.intro rfl (And.intro rfl (And.intro rfl (And.intro rfl (And.intro rfl True.intro)))))) (hc _ _ _ _ _ hS ⟨c0, a0, e0⟩)
def KL_readerOf (Sim Sm2 : TT → MT → Prop) : Prop := ∀ (x1 : Int32) (x2 : Int32) (v : TT) (w : MT) (o : Nat → Int64), Sim v w → P_LAW_readerOf x1 x2 v o (fun k v' o' => P_M_readerOf x1 x2 w (fun b w' => P_M_thrown w' (fun t => t = k ∧ (k = 0 → o' 0 = Int32.toInt64 b) ∧ Sm2 v' w')))
set_option maxRecDepth 100000 in
theorem lw_readerOf {p : Program} {l : Launch} {e : Env} {R : Room} {s : State} {m : MethodId} {args : Array Value} {below : List Frame} {meth : Method} {c : Code} {Q : State → Prop} {D : zD} {B : Nat} {sa : Nat → Nat} {k n z : Nat} {G : zG} (hfl : l.stackTraces = false) (O : zO p l s m args c D B sa 7 cL_law RL) {Sim Sm2 : TT → MT → Prop} (K : KL_readerOf Sim Sm2) {b N i : Nat} {xs : Nat → Int32} {v : TT} {w : MT} {o : Nat → Int64} (hX : va_X b N xs s s.heap) (hb : b < s.heap.size) (hbB : ¬ B ≤ b) (hi1 : vp_in (Int32.ofNat i + 1) N) (hi2 : vp_in (Int32.ofNat i + 2) N) (hi3 : vp_in (Int32.ofNat i + 3) N)
    (hfr : 11 ≤ R.frames) (hlo : 270 ≤ R.locals) (hk0 : k + 0 ≤ R.cells) (hn0 : n + 0 ≤ R.slots) (hk1 : k + 1 ≤ R.cells) (hn1 : n + 6 ≤ R.slots) (hS : Sim v w) (hT : TA B v G) (hM : MA (B + 475) w G) (hO : G (B + 483) = some (zla 1 o))
    (hc : ∀ (v' : TT) (w' : MT) (o' : Nat → Int64) (z' : Nat) (G' : zG), Sm2 v' w' → LI B v' w' o' G' → zT p l e R s m args below meth c Q D B 7 (k + 1) (n + 6) 1889 [] [some (.ref b), some (.ref B), some (.ref (B + 475)), some (.ref (B + 483)), some (.int (Int32.ofNat i)), none, none] z' G') :
    zT p l e R s m args below meth c Q D B 7 k n 490 [] [some (.ref b), some (.ref B), some (.ref (B + 475)), some (.ref (B + 483)), some (.int (Int32.ofNat i)), none, none] z G := by
  refine z_aload_n O dL_law_490 rfl rfl ?_
  refine z_aload_n O dL_law_491 rfl rfl ?_
  refine z_iload O dL_law_492 rfl ?_
  refine z_iconst (v := 1) O dL_law_494 (by decide) ?_
  refine z_iadd O dL_law_495 ?_
  refine z_sld O hX hb hbB hi1 dL_law_496 ?_
  refine z_aload_n O dL_law_497 rfl rfl ?_
  refine z_iload O dL_law_498 rfl ?_
  refine z_iconst (v := 2) O dL_law_500 (by decide) ?_
  refine z_iadd O dL_law_501 ?_
  refine z_sld O hX hb hbB hi2 dL_law_502 ?_
  refine z_aload_n O dL_law_503 rfl rfl ?_
  have h := K (xs (Int32.toNatClampNeg (Int32.ofNat i + 1))) (xs (Int32.toNatClampNeg (Int32.ofNat i + 2))) v w o hS
  refine z_callHi (As := [.ref B, .int (xs (Int32.toNatClampNeg (Int32.ofNat i + 1))), .int (xs (Int32.toNatClampNeg (Int32.ofNat i + 2))), .ref (B + 483)]) (st := []) O (s_LAW_readerOf hfl hT hO (by omega) h) wh_L_readerOf wl_RL_133 dL_law_504 rfl rfl ⟨by have := hfr; omega, by have := hlo; omega⟩ (Nat.le_of_ble_eq_true rfl) ⟨hk1, hn1⟩ (fun r z1 G1 hq => ?_)
  obtain ⟨v1, o1, k1, k2, k3, h⟩ := hq
  have m1 : MA (B + 475) w G1 := MA.eq hM (fun q g1 g2 => k3 q (by omega) (by omega))
  refine z_istore (L' := [some (.ref b), some (.ref B), some (.ref (B + 475)), some (.ref (B + 483)), some (.int (Int32.ofNat i)), some (.int r), none]) O dL_law_507 (by decide) rfl ?_
  refine z_aload_n O dL_law_509 rfl rfl ?_
  refine z_aload_n O dL_law_510 rfl rfl ?_
  refine z_iload O dL_law_511 rfl ?_
  refine z_iconst (v := 1) O dL_law_513 (by decide) ?_
  refine z_iadd O dL_law_514 ?_
  refine z_sld O hX hb hbB hi1 dL_law_515 ?_
  refine z_aload_n O dL_law_516 rfl rfl ?_
  refine z_iload O dL_law_517 rfl ?_
  refine z_iconst (v := 2) O dL_law_519 (by decide) ?_
  refine z_iadd O dL_law_520 ?_
  refine z_sld O hX hb hbB hi2 dL_law_521 ?_
  refine z_callVi (As := [.int (xs (Int32.toNatClampNeg (Int32.ofNat i + 1))), .int (xs (Int32.toNatClampNeg (Int32.ofNat i + 2)))]) (st := []) O (s_M_readerOf hfl m1 h) wy_X6_readerOf wl_RL_135 dL_law_522 rfl rfl (M_obj m1) ⟨by decide, rfl⟩ ⟨by have := hfr; omega, by have := hlo; omega⟩ (Nat.le_of_ble_eq_true rfl) ⟨hk1, hn1⟩ (fun r0 z20 G20 hq0 => ?_)
  obtain ⟨rfl, u0, a0, b0, h⟩ := hq0
  have c0 := TA.fr k1 b0 (by omega)
  have e0 := (b0 (B + 483) (by omega)).trans k2
  refine z_istore (L' := [some (.ref b), some (.ref B), some (.ref (B + 475)), some (.ref (B + 483)), some (.int (Int32.ofNat i)), some (.int r), some (.int r0)]) O dL_law_525 (by decide) rfl ?_
  refine z_aload_n O dL_law_527 rfl rfl ?_
  refine z_callVi (As := []) (st := []) O (s_M_thrown hfl a0 h) wy_X6_thrown wl_RL_108 dL_law_528 rfl rfl (M_obj a0) ⟨by decide, rfl⟩ ⟨by have := hfr; omega, by have := hlo; omega⟩ (Nat.le_of_ble_eq_true rfl) ⟨hk1, hn1⟩ (fun r1 z21 G21 hq1 => ?_)
  obtain ⟨rfl, rfl, h⟩ := hq1
  refine z_iload O dL_law_531 rfl ?_
  obtain ⟨h1, h2, hS⟩ := h
  refine z_icmp_eq (tgt := 538) O dL_law_533 (by decide) (fun _ => ?_) (fun q => absurd h1 q)
  refine z_iload O dL_law_538 rfl ?_
  refine z_if_ne (tgt := 555) O dL_law_540 (by decide) (fun cr => ?_) (fun cr => ?_)
  · refine z_goto (tgt := 1889) O dL_law_555 (by decide) ?_
    exact z_subL (L' := [some (.ref b), some (.ref B), some (.ref (B + 475)), some (.ref (B + 483)), some (.int (Int32.ofNat i)), none, none]) (zLe.sub (And.intro rfl (And.intro rfl (And.intro rfl (And.intro rfl (And.intro rfl True.intro)))))) (hc _ _ _ _ _ hS ⟨c0, a0, e0⟩)
  refine z_aload_n O dL_law_543 rfl rfl ?_
  refine z_iconst (v := 0) O dL_law_544 (by decide) ?_
  refine z_lald O dL_law_545 e0 (vp_i (by decide)) ?_
  refine z_iload O dL_law_546 rfl ?_
  refine z_i2l O dL_law_548 ?_
  refine z_lcmp O dL_law_549 ?_
  refine z_if_eq (tgt := 555) O dL_law_550 (by decide) (fun _ => ?_) (fun q => absurd (lw_cmp0 (h2 cr)) q)
  refine z_goto (tgt := 1889) O dL_law_555 (by decide) ?_
  exact z_subL (L' := [some (.ref b), some (.ref B), some (.ref (B + 475)), some (.ref (B + 483)), some (.int (Int32.ofNat i)), none, none]) (zLe.sub (And.intro rfl (And.intro rfl (And.intro rfl (And.intro rfl (And.intro rfl True.intro)))))) (hc _ _ _ _ _ hS ⟨c0, a0, e0⟩)
def KL_table (Sim Sm2 : TT → MT → Prop) : Prop := ∀ (x1 : Int32) (x2 : Int32) (v : TT) (w : MT) (o : Nat → Int64), Sim v w → P_LAW_table x1 x2 v o (fun k v' o' => P_M_table x1 x2 w (fun b w' => P_M_thrown w' (fun t => t = k ∧ (k = 0 → o' 0 = Int32.toInt64 b) ∧ Sm2 v' w')))
set_option maxRecDepth 100000 in
theorem lw_table {p : Program} {l : Launch} {e : Env} {R : Room} {s : State} {m : MethodId} {args : Array Value} {below : List Frame} {meth : Method} {c : Code} {Q : State → Prop} {D : zD} {B : Nat} {sa : Nat → Nat} {k n z : Nat} {G : zG} (hfl : l.stackTraces = false) (O : zO p l s m args c D B sa 7 cL_law RL) {Sim Sm2 : TT → MT → Prop} (K : KL_table Sim Sm2) {b N i : Nat} {xs : Nat → Int32} {v : TT} {w : MT} {o : Nat → Int64} (hX : va_X b N xs s s.heap) (hb : b < s.heap.size) (hbB : ¬ B ≤ b) (hi1 : vp_in (Int32.ofNat i + 1) N) (hi2 : vp_in (Int32.ofNat i + 2) N) (hi3 : vp_in (Int32.ofNat i + 3) N)
    (hfr : 11 ≤ R.frames) (hlo : 270 ≤ R.locals) (hk0 : k + 0 ≤ R.cells) (hn0 : n + 0 ≤ R.slots) (hk1 : k + 1 ≤ R.cells) (hn1 : n + 6 ≤ R.slots) (hS : Sim v w) (hT : TA B v G) (hM : MA (B + 475) w G) (hO : G (B + 483) = some (zla 1 o))
    (hc : ∀ (v' : TT) (w' : MT) (o' : Nat → Int64) (z' : Nat) (G' : zG), Sm2 v' w' → LI B v' w' o' G' → zT p l e R s m args below meth c Q D B 7 (k + 1) (n + 6) 1889 [] [some (.ref b), some (.ref B), some (.ref (B + 475)), some (.ref (B + 483)), some (.int (Int32.ofNat i)), none, none] z' G') :
    zT p l e R s m args below meth c Q D B 7 k n 558 [] [some (.ref b), some (.ref B), some (.ref (B + 475)), some (.ref (B + 483)), some (.int (Int32.ofNat i)), none, none] z G := by
  refine z_aload_n O dL_law_558 rfl rfl ?_
  refine z_aload_n O dL_law_559 rfl rfl ?_
  refine z_iload O dL_law_560 rfl ?_
  refine z_iconst (v := 1) O dL_law_562 (by decide) ?_
  refine z_iadd O dL_law_563 ?_
  refine z_sld O hX hb hbB hi1 dL_law_564 ?_
  refine z_aload_n O dL_law_565 rfl rfl ?_
  refine z_iload O dL_law_566 rfl ?_
  refine z_iconst (v := 2) O dL_law_568 (by decide) ?_
  refine z_iadd O dL_law_569 ?_
  refine z_sld O hX hb hbB hi2 dL_law_570 ?_
  refine z_aload_n O dL_law_571 rfl rfl ?_
  have h := K (xs (Int32.toNatClampNeg (Int32.ofNat i + 1))) (xs (Int32.toNatClampNeg (Int32.ofNat i + 2))) v w o hS
  refine z_callHi (As := [.ref B, .int (xs (Int32.toNatClampNeg (Int32.ofNat i + 1))), .int (xs (Int32.toNatClampNeg (Int32.ofNat i + 2))), .ref (B + 483)]) (st := []) O (s_LAW_table hfl hT hO (by omega) h) wh_L_table wl_RL_136 dL_law_572 rfl rfl ⟨by have := hfr; omega, by have := hlo; omega⟩ (Nat.le_of_ble_eq_true rfl) ⟨hk1, hn1⟩ (fun r z1 G1 hq => ?_)
  obtain ⟨v1, o1, k1, k2, k3, h⟩ := hq
  have m1 : MA (B + 475) w G1 := MA.eq hM (fun q g1 g2 => k3 q (by omega) (by omega))
  refine z_istore (L' := [some (.ref b), some (.ref B), some (.ref (B + 475)), some (.ref (B + 483)), some (.int (Int32.ofNat i)), some (.int r), none]) O dL_law_575 (by decide) rfl ?_
  refine z_aload_n O dL_law_577 rfl rfl ?_
  refine z_aload_n O dL_law_578 rfl rfl ?_
  refine z_iload O dL_law_579 rfl ?_
  refine z_iconst (v := 1) O dL_law_581 (by decide) ?_
  refine z_iadd O dL_law_582 ?_
  refine z_sld O hX hb hbB hi1 dL_law_583 ?_
  refine z_aload_n O dL_law_584 rfl rfl ?_
  refine z_iload O dL_law_585 rfl ?_
  refine z_iconst (v := 2) O dL_law_587 (by decide) ?_
  refine z_iadd O dL_law_588 ?_
  refine z_sld O hX hb hbB hi2 dL_law_589 ?_
  refine z_callVi (As := [.int (xs (Int32.toNatClampNeg (Int32.ofNat i + 1))), .int (xs (Int32.toNatClampNeg (Int32.ofNat i + 2)))]) (st := []) O (s_M_table hfl m1 h) wy_X6_table wl_RL_138 dL_law_590 rfl rfl (M_obj m1) ⟨by decide, rfl⟩ ⟨by have := hfr; omega, by have := hlo; omega⟩ (Nat.le_of_ble_eq_true rfl) ⟨hk1, hn1⟩ (fun r0 z20 G20 hq0 => ?_)
  obtain ⟨rfl, u0, a0, b0, h⟩ := hq0
  have c0 := TA.fr k1 b0 (by omega)
  have e0 := (b0 (B + 483) (by omega)).trans k2
  refine z_istore (L' := [some (.ref b), some (.ref B), some (.ref (B + 475)), some (.ref (B + 483)), some (.int (Int32.ofNat i)), some (.int r), some (.int r0)]) O dL_law_593 (by decide) rfl ?_
  refine z_aload_n O dL_law_595 rfl rfl ?_
  refine z_callVi (As := []) (st := []) O (s_M_thrown hfl a0 h) wy_X6_thrown wl_RL_108 dL_law_596 rfl rfl (M_obj a0) ⟨by decide, rfl⟩ ⟨by have := hfr; omega, by have := hlo; omega⟩ (Nat.le_of_ble_eq_true rfl) ⟨hk1, hn1⟩ (fun r1 z21 G21 hq1 => ?_)
  obtain ⟨rfl, rfl, h⟩ := hq1
  refine z_iload O dL_law_599 rfl ?_
  obtain ⟨h1, h2, hS⟩ := h
  refine z_icmp_eq (tgt := 606) O dL_law_601 (by decide) (fun _ => ?_) (fun q => absurd h1 q)
  refine z_iload O dL_law_606 rfl ?_
  refine z_if_ne (tgt := 623) O dL_law_608 (by decide) (fun cr => ?_) (fun cr => ?_)
  · refine z_goto (tgt := 1889) O dL_law_623 (by decide) ?_
    exact z_subL (L' := [some (.ref b), some (.ref B), some (.ref (B + 475)), some (.ref (B + 483)), some (.int (Int32.ofNat i)), none, none]) (zLe.sub (And.intro rfl (And.intro rfl (And.intro rfl (And.intro rfl (And.intro rfl True.intro)))))) (hc _ _ _ _ _ hS ⟨c0, a0, e0⟩)
  refine z_aload_n O dL_law_611 rfl rfl ?_
  refine z_iconst (v := 0) O dL_law_612 (by decide) ?_
  refine z_lald O dL_law_613 e0 (vp_i (by decide)) ?_
  refine z_iload O dL_law_614 rfl ?_
  refine z_i2l O dL_law_616 ?_
  refine z_lcmp O dL_law_617 ?_
  refine z_if_eq (tgt := 623) O dL_law_618 (by decide) (fun _ => ?_) (fun q => absurd (lw_cmp0 (h2 cr)) q)
  refine z_goto (tgt := 1889) O dL_law_623 (by decide) ?_
  exact z_subL (L' := [some (.ref b), some (.ref B), some (.ref (B + 475)), some (.ref (B + 483)), some (.int (Int32.ofNat i)), none, none]) (zLe.sub (And.intro rfl (And.intro rfl (And.intro rfl (And.intro rfl (And.intro rfl True.intro)))))) (hc _ _ _ _ _ hS ⟨c0, a0, e0⟩)
def KL_base (Sim Sm2 : TT → MT → Prop) : Prop := ∀ (x1 : Int32) (v : TT) (w : MT) (o : Nat → Int64), Sim v w → P_LAW_base x1 v o (fun k v' o' => P_M_base x1 w (fun b w' => P_M_thrown w' (fun t => t = k ∧ (k = 0 → o' 0 = Int32.toInt64 b) ∧ Sm2 v' w')))
set_option maxRecDepth 100000 in
theorem lw_base {p : Program} {l : Launch} {e : Env} {R : Room} {s : State} {m : MethodId} {args : Array Value} {below : List Frame} {meth : Method} {c : Code} {Q : State → Prop} {D : zD} {B : Nat} {sa : Nat → Nat} {k n z : Nat} {G : zG} (hfl : l.stackTraces = false) (O : zO p l s m args c D B sa 7 cL_law RL) {Sim Sm2 : TT → MT → Prop} (K : KL_base Sim Sm2) {b N i : Nat} {xs : Nat → Int32} {v : TT} {w : MT} {o : Nat → Int64} (hX : va_X b N xs s s.heap) (hb : b < s.heap.size) (hbB : ¬ B ≤ b) (hi1 : vp_in (Int32.ofNat i + 1) N) (hi2 : vp_in (Int32.ofNat i + 2) N) (hi3 : vp_in (Int32.ofNat i + 3) N)
    (hfr : 11 ≤ R.frames) (hlo : 270 ≤ R.locals) (hk0 : k + 0 ≤ R.cells) (hn0 : n + 0 ≤ R.slots) (hk1 : k + 1 ≤ R.cells) (hn1 : n + 6 ≤ R.slots) (hS : Sim v w) (hT : TA B v G) (hM : MA (B + 475) w G) (hO : G (B + 483) = some (zla 1 o))
    (hc : ∀ (v' : TT) (w' : MT) (o' : Nat → Int64) (z' : Nat) (G' : zG), Sm2 v' w' → LI B v' w' o' G' → zT p l e R s m args below meth c Q D B 7 (k + 1) (n + 6) 1889 [] [some (.ref b), some (.ref B), some (.ref (B + 475)), some (.ref (B + 483)), some (.int (Int32.ofNat i)), none, none] z' G') :
    zT p l e R s m args below meth c Q D B 7 k n 626 [] [some (.ref b), some (.ref B), some (.ref (B + 475)), some (.ref (B + 483)), some (.int (Int32.ofNat i)), none, none] z G := by
  refine z_aload_n O dL_law_626 rfl rfl ?_
  refine z_aload_n O dL_law_627 rfl rfl ?_
  refine z_iload O dL_law_628 rfl ?_
  refine z_iconst (v := 1) O dL_law_630 (by decide) ?_
  refine z_iadd O dL_law_631 ?_
  refine z_sld O hX hb hbB hi1 dL_law_632 ?_
  refine z_aload_n O dL_law_633 rfl rfl ?_
  have h := K (xs (Int32.toNatClampNeg (Int32.ofNat i + 1))) v w o hS
  refine z_callHi (As := [.ref B, .int (xs (Int32.toNatClampNeg (Int32.ofNat i + 1))), .ref (B + 483)]) (st := []) O (s_LAW_base hfl hT hO (by omega) h) wh_L_base wl_RL_139 dL_law_634 rfl rfl ⟨by have := hfr; omega, by have := hlo; omega⟩ (Nat.le_of_ble_eq_true rfl) ⟨hk1, hn1⟩ (fun r z1 G1 hq => ?_)
  obtain ⟨v1, o1, k1, k2, k3, h⟩ := hq
  have m1 : MA (B + 475) w G1 := MA.eq hM (fun q g1 g2 => k3 q (by omega) (by omega))
  refine z_istore (L' := [some (.ref b), some (.ref B), some (.ref (B + 475)), some (.ref (B + 483)), some (.int (Int32.ofNat i)), some (.int r), none]) O dL_law_637 (by decide) rfl ?_
  refine z_aload_n O dL_law_639 rfl rfl ?_
  refine z_aload_n O dL_law_640 rfl rfl ?_
  refine z_iload O dL_law_641 rfl ?_
  refine z_iconst (v := 1) O dL_law_643 (by decide) ?_
  refine z_iadd O dL_law_644 ?_
  refine z_sld O hX hb hbB hi1 dL_law_645 ?_
  refine z_callVi (As := [.int (xs (Int32.toNatClampNeg (Int32.ofNat i + 1)))]) (st := []) O (s_M_base hfl m1 h) wy_X6_base wl_RL_141 dL_law_646 rfl rfl (M_obj m1) ⟨by decide, rfl⟩ ⟨by have := hfr; omega, by have := hlo; omega⟩ (Nat.le_of_ble_eq_true rfl) ⟨hk1, hn1⟩ (fun r0 z20 G20 hq0 => ?_)
  obtain ⟨rfl, u0, a0, b0, h⟩ := hq0
  have c0 := TA.fr k1 b0 (by omega)
  have e0 := (b0 (B + 483) (by omega)).trans k2
  refine z_istore (L' := [some (.ref b), some (.ref B), some (.ref (B + 475)), some (.ref (B + 483)), some (.int (Int32.ofNat i)), some (.int r), some (.int r0)]) O dL_law_649 (by decide) rfl ?_
  refine z_aload_n O dL_law_651 rfl rfl ?_
  refine z_callVi (As := []) (st := []) O (s_M_thrown hfl a0 h) wy_X6_thrown wl_RL_108 dL_law_652 rfl rfl (M_obj a0) ⟨by decide, rfl⟩ ⟨by have := hfr; omega, by have := hlo; omega⟩ (Nat.le_of_ble_eq_true rfl) ⟨hk1, hn1⟩ (fun r1 z21 G21 hq1 => ?_)
  obtain ⟨rfl, rfl, h⟩ := hq1
  refine z_iload O dL_law_655 rfl ?_
  obtain ⟨h1, h2, hS⟩ := h
  refine z_icmp_eq (tgt := 662) O dL_law_657 (by decide) (fun _ => ?_) (fun q => absurd h1 q)
  refine z_iload O dL_law_662 rfl ?_
  refine z_if_ne (tgt := 679) O dL_law_664 (by decide) (fun cr => ?_) (fun cr => ?_)
  · refine z_goto (tgt := 1889) O dL_law_679 (by decide) ?_
    exact z_subL (L' := [some (.ref b), some (.ref B), some (.ref (B + 475)), some (.ref (B + 483)), some (.int (Int32.ofNat i)), none, none]) (zLe.sub (And.intro rfl (And.intro rfl (And.intro rfl (And.intro rfl (And.intro rfl True.intro)))))) (hc _ _ _ _ _ hS ⟨c0, a0, e0⟩)
  refine z_aload_n O dL_law_667 rfl rfl ?_
  refine z_iconst (v := 0) O dL_law_668 (by decide) ?_
  refine z_lald O dL_law_669 e0 (vp_i (by decide)) ?_
  refine z_iload O dL_law_670 rfl ?_
  refine z_i2l O dL_law_672 ?_
  refine z_lcmp O dL_law_673 ?_
  refine z_if_eq (tgt := 679) O dL_law_674 (by decide) (fun _ => ?_) (fun q => absurd (lw_cmp0 (h2 cr)) q)
  refine z_goto (tgt := 1889) O dL_law_679 (by decide) ?_
  exact z_subL (L' := [some (.ref b), some (.ref B), some (.ref (B + 475)), some (.ref (B + 483)), some (.int (Int32.ofNat i)), none, none]) (zLe.sub (And.intro rfl (And.intro rfl (And.intro rfl (And.intro rfl (And.intro rfl True.intro)))))) (hc _ _ _ _ _ hS ⟨c0, a0, e0⟩)
def KL_setting (Sim Sm2 : TT → MT → Prop) : Prop := ∀ (x1 : Int32) (v : TT) (w : MT) (o : Nat → Int64), Sim v w → P_LAW_setting x1 v o (fun k v' o' => P_M_setting x1 w (fun b w' => P_M_thrown w' (fun t => t = k ∧ (k = 0 → o' 0 = Int32.toInt64 b) ∧ Sm2 v' w')))
set_option maxRecDepth 100000 in
theorem lw_setting {p : Program} {l : Launch} {e : Env} {R : Room} {s : State} {m : MethodId} {args : Array Value} {below : List Frame} {meth : Method} {c : Code} {Q : State → Prop} {D : zD} {B : Nat} {sa : Nat → Nat} {k n z : Nat} {G : zG} (hfl : l.stackTraces = false) (O : zO p l s m args c D B sa 7 cL_law RL) {Sim Sm2 : TT → MT → Prop} (K : KL_setting Sim Sm2) {b N i : Nat} {xs : Nat → Int32} {v : TT} {w : MT} {o : Nat → Int64} (hX : va_X b N xs s s.heap) (hb : b < s.heap.size) (hbB : ¬ B ≤ b) (hi1 : vp_in (Int32.ofNat i + 1) N) (hi2 : vp_in (Int32.ofNat i + 2) N) (hi3 : vp_in (Int32.ofNat i + 3) N)
    (hfr : 11 ≤ R.frames) (hlo : 270 ≤ R.locals) (hk0 : k + 0 ≤ R.cells) (hn0 : n + 0 ≤ R.slots) (hk1 : k + 1 ≤ R.cells) (hn1 : n + 6 ≤ R.slots) (hS : Sim v w) (hT : TA B v G) (hM : MA (B + 475) w G) (hO : G (B + 483) = some (zla 1 o))
    (hc : ∀ (v' : TT) (w' : MT) (o' : Nat → Int64) (z' : Nat) (G' : zG), Sm2 v' w' → LI B v' w' o' G' → zT p l e R s m args below meth c Q D B 7 (k + 1) (n + 6) 1889 [] [some (.ref b), some (.ref B), some (.ref (B + 475)), some (.ref (B + 483)), some (.int (Int32.ofNat i)), none, none] z' G') :
    zT p l e R s m args below meth c Q D B 7 k n 682 [] [some (.ref b), some (.ref B), some (.ref (B + 475)), some (.ref (B + 483)), some (.int (Int32.ofNat i)), none, none] z G := by
  refine z_aload_n O dL_law_682 rfl rfl ?_
  refine z_aload_n O dL_law_683 rfl rfl ?_
  refine z_iload O dL_law_684 rfl ?_
  refine z_iconst (v := 1) O dL_law_686 (by decide) ?_
  refine z_iadd O dL_law_687 ?_
  refine z_sld O hX hb hbB hi1 dL_law_688 ?_
  refine z_aload_n O dL_law_689 rfl rfl ?_
  have h := K (xs (Int32.toNatClampNeg (Int32.ofNat i + 1))) v w o hS
  refine z_callHi (As := [.ref B, .int (xs (Int32.toNatClampNeg (Int32.ofNat i + 1))), .ref (B + 483)]) (st := []) O (s_LAW_setting hfl hT hO (by omega) h) wh_L_setting wl_RL_142 dL_law_690 rfl rfl ⟨by have := hfr; omega, by have := hlo; omega⟩ (Nat.le_of_ble_eq_true rfl) ⟨hk1, hn1⟩ (fun r z1 G1 hq => ?_)
  obtain ⟨v1, o1, k1, k2, k3, h⟩ := hq
  have m1 : MA (B + 475) w G1 := MA.eq hM (fun q g1 g2 => k3 q (by omega) (by omega))
  refine z_istore (L' := [some (.ref b), some (.ref B), some (.ref (B + 475)), some (.ref (B + 483)), some (.int (Int32.ofNat i)), some (.int r), none]) O dL_law_693 (by decide) rfl ?_
  refine z_aload_n O dL_law_695 rfl rfl ?_
  refine z_aload_n O dL_law_696 rfl rfl ?_
  refine z_iload O dL_law_697 rfl ?_
  refine z_iconst (v := 1) O dL_law_699 (by decide) ?_
  refine z_iadd O dL_law_700 ?_
  refine z_sld O hX hb hbB hi1 dL_law_701 ?_
  refine z_callVi (As := [.int (xs (Int32.toNatClampNeg (Int32.ofNat i + 1)))]) (st := []) O (s_M_setting hfl m1 h) wy_X6_setting wl_RL_144 dL_law_702 rfl rfl (M_obj m1) ⟨by decide, rfl⟩ ⟨by have := hfr; omega, by have := hlo; omega⟩ (Nat.le_of_ble_eq_true rfl) ⟨hk1, hn1⟩ (fun r0 z20 G20 hq0 => ?_)
  obtain ⟨rfl, u0, a0, b0, h⟩ := hq0
  have c0 := TA.fr k1 b0 (by omega)
  have e0 := (b0 (B + 483) (by omega)).trans k2
  refine z_istore (L' := [some (.ref b), some (.ref B), some (.ref (B + 475)), some (.ref (B + 483)), some (.int (Int32.ofNat i)), some (.int r), some (.int r0)]) O dL_law_705 (by decide) rfl ?_
  refine z_aload_n O dL_law_707 rfl rfl ?_
  refine z_callVi (As := []) (st := []) O (s_M_thrown hfl a0 h) wy_X6_thrown wl_RL_108 dL_law_708 rfl rfl (M_obj a0) ⟨by decide, rfl⟩ ⟨by have := hfr; omega, by have := hlo; omega⟩ (Nat.le_of_ble_eq_true rfl) ⟨hk1, hn1⟩ (fun r1 z21 G21 hq1 => ?_)
  obtain ⟨rfl, rfl, h⟩ := hq1
  refine z_iload O dL_law_711 rfl ?_
  obtain ⟨h1, h2, hS⟩ := h
  refine z_icmp_eq (tgt := 718) O dL_law_713 (by decide) (fun _ => ?_) (fun q => absurd h1 q)
  refine z_iload O dL_law_718 rfl ?_
  refine z_if_ne (tgt := 735) O dL_law_720 (by decide) (fun cr => ?_) (fun cr => ?_)
  · refine z_goto (tgt := 1889) O dL_law_735 (by decide) ?_
    exact z_subL (L' := [some (.ref b), some (.ref B), some (.ref (B + 475)), some (.ref (B + 483)), some (.int (Int32.ofNat i)), none, none]) (zLe.sub (And.intro rfl (And.intro rfl (And.intro rfl (And.intro rfl (And.intro rfl True.intro)))))) (hc _ _ _ _ _ hS ⟨c0, a0, e0⟩)
  refine z_aload_n O dL_law_723 rfl rfl ?_
  refine z_iconst (v := 0) O dL_law_724 (by decide) ?_
  refine z_lald O dL_law_725 e0 (vp_i (by decide)) ?_
  refine z_iload O dL_law_726 rfl ?_
  refine z_i2l O dL_law_728 ?_
  refine z_lcmp O dL_law_729 ?_
  refine z_if_eq (tgt := 735) O dL_law_730 (by decide) (fun _ => ?_) (fun q => absurd (lw_cmp0 (h2 cr)) q)
  refine z_goto (tgt := 1889) O dL_law_735 (by decide) ?_
  exact z_subL (L' := [some (.ref b), some (.ref B), some (.ref (B + 475)), some (.ref (B + 483)), some (.int (Int32.ofNat i)), none, none]) (zLe.sub (And.intro rfl (And.intro rfl (And.intro rfl (And.intro rfl (And.intro rfl True.intro)))))) (hc _ _ _ _ _ hS ⟨c0, a0, e0⟩)
def KL_write (Sim Sm2 : TT → MT → Prop) : Prop := ∀ (x1 : Int32) (x2 : Int32) (x3 : Int32) (v : TT) (w : MT) (o : Nat → Int64), Sim v w → P_LAW_write x1 x2 x3 v o (fun k v' o' => P_M_write x1 x2 x3 w (fun b w' => P_M_thrown w' (fun t => t = k ∧ (k = 0 → o' 0 = Int32.toInt64 b) ∧ Sm2 v' w')))
set_option maxRecDepth 100000 in
theorem lw_write {p : Program} {l : Launch} {e : Env} {R : Room} {s : State} {m : MethodId} {args : Array Value} {below : List Frame} {meth : Method} {c : Code} {Q : State → Prop} {D : zD} {B : Nat} {sa : Nat → Nat} {k n z : Nat} {G : zG} (hfl : l.stackTraces = false) (O : zO p l s m args c D B sa 7 cL_law RL) {Sim Sm2 : TT → MT → Prop} (K : KL_write Sim Sm2) {b N i : Nat} {xs : Nat → Int32} {v : TT} {w : MT} {o : Nat → Int64} (hX : va_X b N xs s s.heap) (hb : b < s.heap.size) (hbB : ¬ B ≤ b) (hi1 : vp_in (Int32.ofNat i + 1) N) (hi2 : vp_in (Int32.ofNat i + 2) N) (hi3 : vp_in (Int32.ofNat i + 3) N)
    (hfr : 11 ≤ R.frames) (hlo : 270 ≤ R.locals) (hk0 : k + 0 ≤ R.cells) (hn0 : n + 0 ≤ R.slots) (hk1 : k + 1 ≤ R.cells) (hn1 : n + 6 ≤ R.slots) (hS : Sim v w) (hT : TA B v G) (hM : MA (B + 475) w G) (hO : G (B + 483) = some (zla 1 o))
    (hc : ∀ (v' : TT) (w' : MT) (o' : Nat → Int64) (z' : Nat) (G' : zG), Sm2 v' w' → LI B v' w' o' G' → zT p l e R s m args below meth c Q D B 7 (k + 1) (n + 6) 1889 [] [some (.ref b), some (.ref B), some (.ref (B + 475)), some (.ref (B + 483)), some (.int (Int32.ofNat i)), none, none] z' G') :
    zT p l e R s m args below meth c Q D B 7 k n 738 [] [some (.ref b), some (.ref B), some (.ref (B + 475)), some (.ref (B + 483)), some (.int (Int32.ofNat i)), none, none] z G := by
  refine z_aload_n O dL_law_738 rfl rfl ?_
  refine z_aload_n O dL_law_739 rfl rfl ?_
  refine z_iload O dL_law_740 rfl ?_
  refine z_iconst (v := 1) O dL_law_742 (by decide) ?_
  refine z_iadd O dL_law_743 ?_
  refine z_sld O hX hb hbB hi1 dL_law_744 ?_
  refine z_aload_n O dL_law_745 rfl rfl ?_
  refine z_iload O dL_law_746 rfl ?_
  refine z_iconst (v := 2) O dL_law_748 (by decide) ?_
  refine z_iadd O dL_law_749 ?_
  refine z_sld O hX hb hbB hi2 dL_law_750 ?_
  refine z_aload_n O dL_law_751 rfl rfl ?_
  refine z_iload O dL_law_752 rfl ?_
  refine z_iconst (v := 3) O dL_law_754 (by decide) ?_
  refine z_iadd O dL_law_755 ?_
  refine z_sld O hX hb hbB hi3 dL_law_756 ?_
  refine z_aload_n O dL_law_757 rfl rfl ?_
  have h := K (xs (Int32.toNatClampNeg (Int32.ofNat i + 1))) (xs (Int32.toNatClampNeg (Int32.ofNat i + 2))) (xs (Int32.toNatClampNeg (Int32.ofNat i + 3))) v w o hS
  refine z_callHi (As := [.ref B, .int (xs (Int32.toNatClampNeg (Int32.ofNat i + 1))), .int (xs (Int32.toNatClampNeg (Int32.ofNat i + 2))), .int (xs (Int32.toNatClampNeg (Int32.ofNat i + 3))), .ref (B + 483)]) (st := []) O (s_LAW_write hfl hT hO (by omega) h) wh_L_write wl_RL_145 dL_law_758 rfl rfl ⟨by have := hfr; omega, by have := hlo; omega⟩ (Nat.le_of_ble_eq_true rfl) ⟨hk1, hn1⟩ (fun r z1 G1 hq => ?_)
  obtain ⟨v1, o1, k1, k2, k3, h⟩ := hq
  have m1 : MA (B + 475) w G1 := MA.eq hM (fun q g1 g2 => k3 q (by omega) (by omega))
  refine z_istore (L' := [some (.ref b), some (.ref B), some (.ref (B + 475)), some (.ref (B + 483)), some (.int (Int32.ofNat i)), some (.int r), none]) O dL_law_761 (by decide) rfl ?_
  refine z_aload_n O dL_law_763 rfl rfl ?_
  refine z_aload_n O dL_law_764 rfl rfl ?_
  refine z_iload O dL_law_765 rfl ?_
  refine z_iconst (v := 1) O dL_law_767 (by decide) ?_
  refine z_iadd O dL_law_768 ?_
  refine z_sld O hX hb hbB hi1 dL_law_769 ?_
  refine z_aload_n O dL_law_770 rfl rfl ?_
  refine z_iload O dL_law_771 rfl ?_
  refine z_iconst (v := 2) O dL_law_773 (by decide) ?_
  refine z_iadd O dL_law_774 ?_
  refine z_sld O hX hb hbB hi2 dL_law_775 ?_
  refine z_aload_n O dL_law_776 rfl rfl ?_
  refine z_iload O dL_law_777 rfl ?_
  refine z_iconst (v := 3) O dL_law_779 (by decide) ?_
  refine z_iadd O dL_law_780 ?_
  refine z_sld O hX hb hbB hi3 dL_law_781 ?_
  refine z_callVi (As := [.int (xs (Int32.toNatClampNeg (Int32.ofNat i + 1))), .int (xs (Int32.toNatClampNeg (Int32.ofNat i + 2))), .int (xs (Int32.toNatClampNeg (Int32.ofNat i + 3)))]) (st := []) O (s_M_write hfl m1 h) wy_X6_write wl_RL_148 dL_law_782 rfl rfl (M_obj m1) ⟨by decide, rfl⟩ ⟨by have := hfr; omega, by have := hlo; omega⟩ (Nat.le_of_ble_eq_true rfl) ⟨hk1, hn1⟩ (fun r0 z20 G20 hq0 => ?_)
  obtain ⟨rfl, u0, a0, b0, h⟩ := hq0
  have c0 := TA.fr k1 b0 (by omega)
  have e0 := (b0 (B + 483) (by omega)).trans k2
  refine z_istore (L' := [some (.ref b), some (.ref B), some (.ref (B + 475)), some (.ref (B + 483)), some (.int (Int32.ofNat i)), some (.int r), some (.int r0)]) O dL_law_785 (by decide) rfl ?_
  refine z_aload_n O dL_law_787 rfl rfl ?_
  refine z_callVi (As := []) (st := []) O (s_M_thrown hfl a0 h) wy_X6_thrown wl_RL_108 dL_law_788 rfl rfl (M_obj a0) ⟨by decide, rfl⟩ ⟨by have := hfr; omega, by have := hlo; omega⟩ (Nat.le_of_ble_eq_true rfl) ⟨hk1, hn1⟩ (fun r1 z21 G21 hq1 => ?_)
  obtain ⟨rfl, rfl, h⟩ := hq1
  refine z_iload O dL_law_791 rfl ?_
  obtain ⟨h1, h2, hS⟩ := h
  refine z_icmp_eq (tgt := 798) O dL_law_793 (by decide) (fun _ => ?_) (fun q => absurd h1 q)
  refine z_iload O dL_law_798 rfl ?_
  refine z_if_ne (tgt := 815) O dL_law_800 (by decide) (fun cr => ?_) (fun cr => ?_)
  · refine z_goto (tgt := 1889) O dL_law_815 (by decide) ?_
    exact z_subL (L' := [some (.ref b), some (.ref B), some (.ref (B + 475)), some (.ref (B + 483)), some (.int (Int32.ofNat i)), none, none]) (zLe.sub (And.intro rfl (And.intro rfl (And.intro rfl (And.intro rfl (And.intro rfl True.intro)))))) (hc _ _ _ _ _ hS ⟨c0, a0, e0⟩)
  refine z_aload_n O dL_law_803 rfl rfl ?_
  refine z_iconst (v := 0) O dL_law_804 (by decide) ?_
  refine z_lald O dL_law_805 e0 (vp_i (by decide)) ?_
  refine z_iload O dL_law_806 rfl ?_
  refine z_i2l O dL_law_808 ?_
  refine z_lcmp O dL_law_809 ?_
  refine z_if_eq (tgt := 815) O dL_law_810 (by decide) (fun _ => ?_) (fun q => absurd (lw_cmp0 (h2 cr)) q)
  refine z_goto (tgt := 1889) O dL_law_815 (by decide) ?_
  exact z_subL (L' := [some (.ref b), some (.ref B), some (.ref (B + 475)), some (.ref (B + 483)), some (.int (Int32.ofNat i)), none, none]) (zLe.sub (And.intro rfl (And.intro rfl (And.intro rfl (And.intro rfl (And.intro rfl True.intro)))))) (hc _ _ _ _ _ hS ⟨c0, a0, e0⟩)
def KL_join (Sim Sm2 : TT → MT → Prop) : Prop := ∀ (x1 : Int32) (x2 : Int32) (x3 : Int32) (v : TT) (w : MT) (o : Nat → Int64), (x3 = 0 ∨ x3 = 1) → Sim v w → P_LAW_join x1 x2 x3 v o (fun k v' o' => P_M_join x1 x2 x3 w (fun b w' => P_M_thrown w' (fun t => t = k ∧ (k = 0 → o' 0 = Int32.toInt64 b) ∧ Sm2 v' w')))
set_option maxRecDepth 100000 in
theorem lw_join {p : Program} {l : Launch} {e : Env} {R : Room} {s : State} {m : MethodId} {args : Array Value} {below : List Frame} {meth : Method} {c : Code} {Q : State → Prop} {D : zD} {B : Nat} {sa : Nat → Nat} {k n z : Nat} {G : zG} (hfl : l.stackTraces = false) (O : zO p l s m args c D B sa 7 cL_law RL) {Sim Sm2 : TT → MT → Prop} (K : KL_join Sim Sm2) {b N i : Nat} {xs : Nat → Int32} {v : TT} {w : MT} {o : Nat → Int64} (hX : va_X b N xs s s.heap) (hb : b < s.heap.size) (hbB : ¬ B ≤ b) (hi1 : vp_in (Int32.ofNat i + 1) N) (hi2 : vp_in (Int32.ofNat i + 2) N) (hi3 : vp_in (Int32.ofNat i + 3) N)
    (hfr : 11 ≤ R.frames) (hlo : 270 ≤ R.locals) (hk0 : k + 0 ≤ R.cells) (hn0 : n + 0 ≤ R.slots) (hk1 : k + 1 ≤ R.cells) (hn1 : n + 6 ≤ R.slots) (hS : Sim v w) (hT : TA B v G) (hM : MA (B + 475) w G) (hO : G (B + 483) = some (zla 1 o))
    (hc : ∀ (v' : TT) (w' : MT) (o' : Nat → Int64) (z' : Nat) (G' : zG), Sm2 v' w' → LI B v' w' o' G' → zT p l e R s m args below meth c Q D B 7 (k + 1) (n + 6) 1889 [] [some (.ref b), some (.ref B), some (.ref (B + 475)), some (.ref (B + 483)), some (.int (Int32.ofNat i)), none, none] z' G') :
    zT p l e R s m args below meth c Q D B 7 k n 818 [] [some (.ref b), some (.ref B), some (.ref (B + 475)), some (.ref (B + 483)), some (.int (Int32.ofNat i)), none, none] z G := by
  by_cases ce : (xs (Int32.toNatClampNeg (Int32.ofNat i + 3))) = 0
  · refine z_aload_n O dL_law_818 rfl rfl ?_
    refine z_aload_n O dL_law_819 rfl rfl ?_
    refine z_iload O dL_law_820 rfl ?_
    refine z_iconst (v := 1) O dL_law_822 (by decide) ?_
    refine z_iadd O dL_law_823 ?_
    refine z_sld O hX hb hbB hi1 dL_law_824 ?_
    refine z_aload_n O dL_law_825 rfl rfl ?_
    refine z_iload O dL_law_826 rfl ?_
    refine z_iconst (v := 2) O dL_law_828 (by decide) ?_
    refine z_iadd O dL_law_829 ?_
    refine z_sld O hX hb hbB hi2 dL_law_830 ?_
    refine z_aload_n O dL_law_831 rfl rfl ?_
    refine z_iload O dL_law_832 rfl ?_
    refine z_iconst (v := 3) O dL_law_834 (by decide) ?_
    refine z_iadd O dL_law_835 ?_
    refine z_sld O hX hb hbB hi3 dL_law_836 ?_
    refine z_if_eq (tgt := 844) O dL_law_837 (by decide) (fun _ => ?_) (fun q => absurd ce q)
    refine z_iconst (v := 0) O dL_law_844 (by decide) ?_
    refine z_aload_n O dL_law_845 rfl rfl ?_
    have h := K (xs (Int32.toNatClampNeg (Int32.ofNat i + 1))) (xs (Int32.toNatClampNeg (Int32.ofNat i + 2))) 0 v w o (Or.inl rfl) hS
    refine z_callHi (As := [.ref B, .int (xs (Int32.toNatClampNeg (Int32.ofNat i + 1))), .int (xs (Int32.toNatClampNeg (Int32.ofNat i + 2))), .int 0, .ref (B + 483)]) (st := []) O (s_LAW_join hfl hT hO (by omega) h) wh_L_join wl_RL_149 dL_law_846 rfl rfl ⟨by have := hfr; omega, by have := hlo; omega⟩ (Nat.le_of_ble_eq_true rfl) ⟨hk1, hn1⟩ (fun r z1 G1 hq => ?_)
    obtain ⟨v1, o1, k1, k2, k3, h⟩ := hq
    have m1 : MA (B + 475) w G1 := MA.eq hM (fun q g1 g2 => k3 q (by omega) (by omega))
    refine z_istore (L' := [some (.ref b), some (.ref B), some (.ref (B + 475)), some (.ref (B + 483)), some (.int (Int32.ofNat i)), some (.int r), none]) O dL_law_849 (by decide) rfl ?_
    refine z_aload_n O dL_law_851 rfl rfl ?_
    refine z_aload_n O dL_law_852 rfl rfl ?_
    refine z_iload O dL_law_853 rfl ?_
    refine z_iconst (v := 1) O dL_law_855 (by decide) ?_
    refine z_iadd O dL_law_856 ?_
    refine z_sld O hX hb hbB hi1 dL_law_857 ?_
    refine z_aload_n O dL_law_858 rfl rfl ?_
    refine z_iload O dL_law_859 rfl ?_
    refine z_iconst (v := 2) O dL_law_861 (by decide) ?_
    refine z_iadd O dL_law_862 ?_
    refine z_sld O hX hb hbB hi2 dL_law_863 ?_
    refine z_aload_n O dL_law_864 rfl rfl ?_
    refine z_iload O dL_law_865 rfl ?_
    refine z_iconst (v := 3) O dL_law_867 (by decide) ?_
    refine z_iadd O dL_law_868 ?_
    refine z_sld O hX hb hbB hi3 dL_law_869 ?_
    refine z_if_eq (tgt := 877) O dL_law_870 (by decide) (fun _ => ?_) (fun q => absurd ce q)
    refine z_iconst (v := 0) O dL_law_877 (by decide) ?_
    refine z_callVi (As := [.int (xs (Int32.toNatClampNeg (Int32.ofNat i + 1))), .int (xs (Int32.toNatClampNeg (Int32.ofNat i + 2))), .int 0]) (st := []) O (s_M_join hfl m1 h) wy_X6_join wl_RL_152 dL_law_878 rfl rfl (M_obj m1) ⟨by decide, rfl⟩ ⟨by have := hfr; omega, by have := hlo; omega⟩ (Nat.le_of_ble_eq_true rfl) ⟨hk1, hn1⟩ (fun r0 z20 G20 hq0 => ?_)
    obtain ⟨rfl, u0, a0, b0, h⟩ := hq0
    have c0 := TA.fr k1 b0 (by omega)
    have e0 := (b0 (B + 483) (by omega)).trans k2
    refine z_istore (L' := [some (.ref b), some (.ref B), some (.ref (B + 475)), some (.ref (B + 483)), some (.int (Int32.ofNat i)), some (.int r), some (.int r0)]) O dL_law_881 (by decide) rfl ?_
    refine z_aload_n O dL_law_883 rfl rfl ?_
    refine z_callVi (As := []) (st := []) O (s_M_thrown hfl a0 h) wy_X6_thrown wl_RL_108 dL_law_884 rfl rfl (M_obj a0) ⟨by decide, rfl⟩ ⟨by have := hfr; omega, by have := hlo; omega⟩ (Nat.le_of_ble_eq_true rfl) ⟨hk1, hn1⟩ (fun r1 z21 G21 hq1 => ?_)
    obtain ⟨rfl, rfl, h⟩ := hq1
    refine z_iload O dL_law_887 rfl ?_
    obtain ⟨h1, h2, hS⟩ := h
    refine z_icmp_eq (tgt := 894) O dL_law_889 (by decide) (fun _ => ?_) (fun q => absurd h1 q)
    refine z_iload O dL_law_894 rfl ?_
    refine z_if_ne (tgt := 911) O dL_law_896 (by decide) (fun cr => ?_) (fun cr => ?_)
    · refine z_goto (tgt := 1889) O dL_law_911 (by decide) ?_
      exact z_subL (L' := [some (.ref b), some (.ref B), some (.ref (B + 475)), some (.ref (B + 483)), some (.int (Int32.ofNat i)), none, none]) (zLe.sub (And.intro rfl (And.intro rfl (And.intro rfl (And.intro rfl (And.intro rfl True.intro)))))) (hc _ _ _ _ _ hS ⟨c0, a0, e0⟩)
    refine z_aload_n O dL_law_899 rfl rfl ?_
    refine z_iconst (v := 0) O dL_law_900 (by decide) ?_
    refine z_lald O dL_law_901 e0 (vp_i (by decide)) ?_
    refine z_iload O dL_law_902 rfl ?_
    refine z_i2l O dL_law_904 ?_
    refine z_lcmp O dL_law_905 ?_
    refine z_if_eq (tgt := 911) O dL_law_906 (by decide) (fun _ => ?_) (fun q => absurd (lw_cmp0 (h2 cr)) q)
    refine z_goto (tgt := 1889) O dL_law_911 (by decide) ?_
    exact z_subL (L' := [some (.ref b), some (.ref B), some (.ref (B + 475)), some (.ref (B + 483)), some (.int (Int32.ofNat i)), none, none]) (zLe.sub (And.intro rfl (And.intro rfl (And.intro rfl (And.intro rfl (And.intro rfl True.intro)))))) (hc _ _ _ _ _ hS ⟨c0, a0, e0⟩)
  · refine z_aload_n O dL_law_818 rfl rfl ?_
    refine z_aload_n O dL_law_819 rfl rfl ?_
    refine z_iload O dL_law_820 rfl ?_
    refine z_iconst (v := 1) O dL_law_822 (by decide) ?_
    refine z_iadd O dL_law_823 ?_
    refine z_sld O hX hb hbB hi1 dL_law_824 ?_
    refine z_aload_n O dL_law_825 rfl rfl ?_
    refine z_iload O dL_law_826 rfl ?_
    refine z_iconst (v := 2) O dL_law_828 (by decide) ?_
    refine z_iadd O dL_law_829 ?_
    refine z_sld O hX hb hbB hi2 dL_law_830 ?_
    refine z_aload_n O dL_law_831 rfl rfl ?_
    refine z_iload O dL_law_832 rfl ?_
    refine z_iconst (v := 3) O dL_law_834 (by decide) ?_
    refine z_iadd O dL_law_835 ?_
    refine z_sld O hX hb hbB hi3 dL_law_836 ?_
    refine z_if_eq (tgt := 844) O dL_law_837 (by decide) (fun q => absurd q ce) (fun _ => ?_)
    refine z_iconst (v := 1) O dL_law_840 (by decide) ?_
    refine z_goto (tgt := 845) O dL_law_841 (by decide) ?_
    refine z_aload_n O dL_law_845 rfl rfl ?_
    have h := K (xs (Int32.toNatClampNeg (Int32.ofNat i + 1))) (xs (Int32.toNatClampNeg (Int32.ofNat i + 2))) 1 v w o (Or.inr rfl) hS
    refine z_callHi (As := [.ref B, .int (xs (Int32.toNatClampNeg (Int32.ofNat i + 1))), .int (xs (Int32.toNatClampNeg (Int32.ofNat i + 2))), .int 1, .ref (B + 483)]) (st := []) O (s_LAW_join hfl hT hO (by omega) h) wh_L_join wl_RL_149 dL_law_846 rfl rfl ⟨by have := hfr; omega, by have := hlo; omega⟩ (Nat.le_of_ble_eq_true rfl) ⟨hk1, hn1⟩ (fun r z1 G1 hq => ?_)
    obtain ⟨v1, o1, k1, k2, k3, h⟩ := hq
    have m1 : MA (B + 475) w G1 := MA.eq hM (fun q g1 g2 => k3 q (by omega) (by omega))
    refine z_istore (L' := [some (.ref b), some (.ref B), some (.ref (B + 475)), some (.ref (B + 483)), some (.int (Int32.ofNat i)), some (.int r), none]) O dL_law_849 (by decide) rfl ?_
    refine z_aload_n O dL_law_851 rfl rfl ?_
    refine z_aload_n O dL_law_852 rfl rfl ?_
    refine z_iload O dL_law_853 rfl ?_
    refine z_iconst (v := 1) O dL_law_855 (by decide) ?_
    refine z_iadd O dL_law_856 ?_
    refine z_sld O hX hb hbB hi1 dL_law_857 ?_
    refine z_aload_n O dL_law_858 rfl rfl ?_
    refine z_iload O dL_law_859 rfl ?_
    refine z_iconst (v := 2) O dL_law_861 (by decide) ?_
    refine z_iadd O dL_law_862 ?_
    refine z_sld O hX hb hbB hi2 dL_law_863 ?_
    refine z_aload_n O dL_law_864 rfl rfl ?_
    refine z_iload O dL_law_865 rfl ?_
    refine z_iconst (v := 3) O dL_law_867 (by decide) ?_
    refine z_iadd O dL_law_868 ?_
    refine z_sld O hX hb hbB hi3 dL_law_869 ?_
    refine z_if_eq (tgt := 877) O dL_law_870 (by decide) (fun q => absurd q ce) (fun _ => ?_)
    refine z_iconst (v := 1) O dL_law_873 (by decide) ?_
    refine z_goto (tgt := 878) O dL_law_874 (by decide) ?_
    refine z_callVi (As := [.int (xs (Int32.toNatClampNeg (Int32.ofNat i + 1))), .int (xs (Int32.toNatClampNeg (Int32.ofNat i + 2))), .int 1]) (st := []) O (s_M_join hfl m1 h) wy_X6_join wl_RL_152 dL_law_878 rfl rfl (M_obj m1) ⟨by decide, rfl⟩ ⟨by have := hfr; omega, by have := hlo; omega⟩ (Nat.le_of_ble_eq_true rfl) ⟨hk1, hn1⟩ (fun r0 z20 G20 hq0 => ?_)
    obtain ⟨rfl, u0, a0, b0, h⟩ := hq0
    have c0 := TA.fr k1 b0 (by omega)
    have e0 := (b0 (B + 483) (by omega)).trans k2
    refine z_istore (L' := [some (.ref b), some (.ref B), some (.ref (B + 475)), some (.ref (B + 483)), some (.int (Int32.ofNat i)), some (.int r), some (.int r0)]) O dL_law_881 (by decide) rfl ?_
    refine z_aload_n O dL_law_883 rfl rfl ?_
    refine z_callVi (As := []) (st := []) O (s_M_thrown hfl a0 h) wy_X6_thrown wl_RL_108 dL_law_884 rfl rfl (M_obj a0) ⟨by decide, rfl⟩ ⟨by have := hfr; omega, by have := hlo; omega⟩ (Nat.le_of_ble_eq_true rfl) ⟨hk1, hn1⟩ (fun r1 z21 G21 hq1 => ?_)
    obtain ⟨rfl, rfl, h⟩ := hq1
    refine z_iload O dL_law_887 rfl ?_
    obtain ⟨h1, h2, hS⟩ := h
    refine z_icmp_eq (tgt := 894) O dL_law_889 (by decide) (fun _ => ?_) (fun q => absurd h1 q)
    refine z_iload O dL_law_894 rfl ?_
    refine z_if_ne (tgt := 911) O dL_law_896 (by decide) (fun cr => ?_) (fun cr => ?_)
    · refine z_goto (tgt := 1889) O dL_law_911 (by decide) ?_
      exact z_subL (L' := [some (.ref b), some (.ref B), some (.ref (B + 475)), some (.ref (B + 483)), some (.int (Int32.ofNat i)), none, none]) (zLe.sub (And.intro rfl (And.intro rfl (And.intro rfl (And.intro rfl (And.intro rfl True.intro)))))) (hc _ _ _ _ _ hS ⟨c0, a0, e0⟩)
    refine z_aload_n O dL_law_899 rfl rfl ?_
    refine z_iconst (v := 0) O dL_law_900 (by decide) ?_
    refine z_lald O dL_law_901 e0 (vp_i (by decide)) ?_
    refine z_iload O dL_law_902 rfl ?_
    refine z_i2l O dL_law_904 ?_
    refine z_lcmp O dL_law_905 ?_
    refine z_if_eq (tgt := 911) O dL_law_906 (by decide) (fun _ => ?_) (fun q => absurd (lw_cmp0 (h2 cr)) q)
    refine z_goto (tgt := 1889) O dL_law_911 (by decide) ?_
    exact z_subL (L' := [some (.ref b), some (.ref B), some (.ref (B + 475)), some (.ref (B + 483)), some (.int (Int32.ofNat i)), none, none]) (zLe.sub (And.intro rfl (And.intro rfl (And.intro rfl (And.intro rfl (And.intro rfl True.intro)))))) (hc _ _ _ _ _ hS ⟨c0, a0, e0⟩)
def KL_read (Sim Sm2 : TT → MT → Prop) : Prop := ∀ (x1 : Int32) (x2 : Int32) (v : TT) (w : MT) (o : Nat → Int64), Sim v w → P_LAW_read x1 x2 v o (fun k v' o' => P_M_read x1 x2 w (fun b w' => P_M_thrown w' (fun t => t = k ∧ (k = 0 → o' 0 = Int32.toInt64 b) ∧ Sm2 v' w')))
set_option maxRecDepth 100000 in
theorem lw_read {p : Program} {l : Launch} {e : Env} {R : Room} {s : State} {m : MethodId} {args : Array Value} {below : List Frame} {meth : Method} {c : Code} {Q : State → Prop} {D : zD} {B : Nat} {sa : Nat → Nat} {k n z : Nat} {G : zG} (hfl : l.stackTraces = false) (O : zO p l s m args c D B sa 7 cL_law RL) {Sim Sm2 : TT → MT → Prop} (K : KL_read Sim Sm2) {b N i : Nat} {xs : Nat → Int32} {v : TT} {w : MT} {o : Nat → Int64} (hX : va_X b N xs s s.heap) (hb : b < s.heap.size) (hbB : ¬ B ≤ b) (hi1 : vp_in (Int32.ofNat i + 1) N) (hi2 : vp_in (Int32.ofNat i + 2) N) (hi3 : vp_in (Int32.ofNat i + 3) N)
    (hfr : 11 ≤ R.frames) (hlo : 270 ≤ R.locals) (hk0 : k + 0 ≤ R.cells) (hn0 : n + 0 ≤ R.slots) (hk1 : k + 1 ≤ R.cells) (hn1 : n + 6 ≤ R.slots) (hS : Sim v w) (hT : TA B v G) (hM : MA (B + 475) w G) (hO : G (B + 483) = some (zla 1 o))
    (hc : ∀ (v' : TT) (w' : MT) (o' : Nat → Int64) (z' : Nat) (G' : zG), Sm2 v' w' → LI B v' w' o' G' → zT p l e R s m args below meth c Q D B 7 (k + 1) (n + 6) 1889 [] [some (.ref b), some (.ref B), some (.ref (B + 475)), some (.ref (B + 483)), some (.int (Int32.ofNat i)), none, none] z' G') :
    zT p l e R s m args below meth c Q D B 7 k n 914 [] [some (.ref b), some (.ref B), some (.ref (B + 475)), some (.ref (B + 483)), some (.int (Int32.ofNat i)), none, none] z G := by
  refine z_aload_n O dL_law_914 rfl rfl ?_
  refine z_aload_n O dL_law_915 rfl rfl ?_
  refine z_iload O dL_law_916 rfl ?_
  refine z_iconst (v := 1) O dL_law_918 (by decide) ?_
  refine z_iadd O dL_law_919 ?_
  refine z_sld O hX hb hbB hi1 dL_law_920 ?_
  refine z_aload_n O dL_law_921 rfl rfl ?_
  refine z_iload O dL_law_922 rfl ?_
  refine z_iconst (v := 2) O dL_law_924 (by decide) ?_
  refine z_iadd O dL_law_925 ?_
  refine z_sld O hX hb hbB hi2 dL_law_926 ?_
  refine z_aload_n O dL_law_927 rfl rfl ?_
  have h := K (xs (Int32.toNatClampNeg (Int32.ofNat i + 1))) (xs (Int32.toNatClampNeg (Int32.ofNat i + 2))) v w o hS
  refine z_callHi (As := [.ref B, .int (xs (Int32.toNatClampNeg (Int32.ofNat i + 1))), .int (xs (Int32.toNatClampNeg (Int32.ofNat i + 2))), .ref (B + 483)]) (st := []) O (s_LAW_read hfl hT hO (by omega) h) wh_L_read wl_RL_153 dL_law_928 rfl rfl ⟨by have := hfr; omega, by have := hlo; omega⟩ (Nat.le_of_ble_eq_true rfl) ⟨hk1, hn1⟩ (fun r z1 G1 hq => ?_)
  obtain ⟨v1, o1, k1, k2, k3, h⟩ := hq
  have m1 : MA (B + 475) w G1 := MA.eq hM (fun q g1 g2 => k3 q (by omega) (by omega))
  refine z_istore (L' := [some (.ref b), some (.ref B), some (.ref (B + 475)), some (.ref (B + 483)), some (.int (Int32.ofNat i)), some (.int r), none]) O dL_law_931 (by decide) rfl ?_
  refine z_aload_n O dL_law_933 rfl rfl ?_
  refine z_aload_n O dL_law_934 rfl rfl ?_
  refine z_iload O dL_law_935 rfl ?_
  refine z_iconst (v := 1) O dL_law_937 (by decide) ?_
  refine z_iadd O dL_law_938 ?_
  refine z_sld O hX hb hbB hi1 dL_law_939 ?_
  refine z_aload_n O dL_law_940 rfl rfl ?_
  refine z_iload O dL_law_941 rfl ?_
  refine z_iconst (v := 2) O dL_law_943 (by decide) ?_
  refine z_iadd O dL_law_944 ?_
  refine z_sld O hX hb hbB hi2 dL_law_945 ?_
  refine z_callVi (As := [.int (xs (Int32.toNatClampNeg (Int32.ofNat i + 1))), .int (xs (Int32.toNatClampNeg (Int32.ofNat i + 2)))]) (st := []) O (s_M_read hfl m1 h) wy_X6_read wl_RL_155 dL_law_946 rfl rfl (M_obj m1) ⟨by decide, rfl⟩ ⟨by have := hfr; omega, by have := hlo; omega⟩ (Nat.le_of_ble_eq_true rfl) ⟨hk1, hn1⟩ (fun r0 z20 G20 hq0 => ?_)
  obtain ⟨rfl, u0, a0, b0, h⟩ := hq0
  have c0 := TA.fr k1 b0 (by omega)
  have e0 := (b0 (B + 483) (by omega)).trans k2
  refine z_istore (L' := [some (.ref b), some (.ref B), some (.ref (B + 475)), some (.ref (B + 483)), some (.int (Int32.ofNat i)), some (.int r), some (.int r0)]) O dL_law_949 (by decide) rfl ?_
  refine z_aload_n O dL_law_951 rfl rfl ?_
  refine z_callVi (As := []) (st := []) O (s_M_thrown hfl a0 h) wy_X6_thrown wl_RL_108 dL_law_952 rfl rfl (M_obj a0) ⟨by decide, rfl⟩ ⟨by have := hfr; omega, by have := hlo; omega⟩ (Nat.le_of_ble_eq_true rfl) ⟨hk1, hn1⟩ (fun r1 z21 G21 hq1 => ?_)
  obtain ⟨rfl, rfl, h⟩ := hq1
  refine z_iload O dL_law_955 rfl ?_
  obtain ⟨h1, h2, hS⟩ := h
  refine z_icmp_eq (tgt := 962) O dL_law_957 (by decide) (fun _ => ?_) (fun q => absurd h1 q)
  refine z_iload O dL_law_962 rfl ?_
  refine z_if_ne (tgt := 979) O dL_law_964 (by decide) (fun cr => ?_) (fun cr => ?_)
  · refine z_goto (tgt := 1889) O dL_law_979 (by decide) ?_
    exact z_subL (L' := [some (.ref b), some (.ref B), some (.ref (B + 475)), some (.ref (B + 483)), some (.int (Int32.ofNat i)), none, none]) (zLe.sub (And.intro rfl (And.intro rfl (And.intro rfl (And.intro rfl (And.intro rfl True.intro)))))) (hc _ _ _ _ _ hS ⟨c0, a0, e0⟩)
  refine z_aload_n O dL_law_967 rfl rfl ?_
  refine z_iconst (v := 0) O dL_law_968 (by decide) ?_
  refine z_lald O dL_law_969 e0 (vp_i (by decide)) ?_
  refine z_iload O dL_law_970 rfl ?_
  refine z_i2l O dL_law_972 ?_
  refine z_lcmp O dL_law_973 ?_
  refine z_if_eq (tgt := 979) O dL_law_974 (by decide) (fun _ => ?_) (fun q => absurd (lw_cmp0 (h2 cr)) q)
  refine z_goto (tgt := 1889) O dL_law_979 (by decide) ?_
  exact z_subL (L' := [some (.ref b), some (.ref B), some (.ref (B + 475)), some (.ref (B + 483)), some (.int (Int32.ofNat i)), none, none]) (zLe.sub (And.intro rfl (And.intro rfl (And.intro rfl (And.intro rfl (And.intro rfl True.intro)))))) (hc _ _ _ _ _ hS ⟨c0, a0, e0⟩)
def KL_leave (Sim Sm2 : TT → MT → Prop) : Prop := ∀ (x1 : Int32) (v : TT) (w : MT) (o : Nat → Int64), Sim v w → P_LAW_leave x1 v o (fun k v' o' => P_M_leave x1 w (fun b w' => P_M_thrown w' (fun t => t = k ∧ (k = 0 → o' 0 = Int32.toInt64 b) ∧ Sm2 v' w')))
set_option maxRecDepth 100000 in
theorem lw_leave {p : Program} {l : Launch} {e : Env} {R : Room} {s : State} {m : MethodId} {args : Array Value} {below : List Frame} {meth : Method} {c : Code} {Q : State → Prop} {D : zD} {B : Nat} {sa : Nat → Nat} {k n z : Nat} {G : zG} (hfl : l.stackTraces = false) (O : zO p l s m args c D B sa 7 cL_law RL) {Sim Sm2 : TT → MT → Prop} (K : KL_leave Sim Sm2) {b N i : Nat} {xs : Nat → Int32} {v : TT} {w : MT} {o : Nat → Int64} (hX : va_X b N xs s s.heap) (hb : b < s.heap.size) (hbB : ¬ B ≤ b) (hi1 : vp_in (Int32.ofNat i + 1) N) (hi2 : vp_in (Int32.ofNat i + 2) N) (hi3 : vp_in (Int32.ofNat i + 3) N)
    (hfr : 11 ≤ R.frames) (hlo : 270 ≤ R.locals) (hk0 : k + 0 ≤ R.cells) (hn0 : n + 0 ≤ R.slots) (hk1 : k + 1 ≤ R.cells) (hn1 : n + 6 ≤ R.slots) (hS : Sim v w) (hT : TA B v G) (hM : MA (B + 475) w G) (hO : G (B + 483) = some (zla 1 o))
    (hc : ∀ (v' : TT) (w' : MT) (o' : Nat → Int64) (z' : Nat) (G' : zG), Sm2 v' w' → LI B v' w' o' G' → zT p l e R s m args below meth c Q D B 7 (k + 1) (n + 6) 1889 [] [some (.ref b), some (.ref B), some (.ref (B + 475)), some (.ref (B + 483)), some (.int (Int32.ofNat i)), none, none] z' G') :
    zT p l e R s m args below meth c Q D B 7 k n 982 [] [some (.ref b), some (.ref B), some (.ref (B + 475)), some (.ref (B + 483)), some (.int (Int32.ofNat i)), none, none] z G := by
  refine z_aload_n O dL_law_982 rfl rfl ?_
  refine z_aload_n O dL_law_983 rfl rfl ?_
  refine z_iload O dL_law_984 rfl ?_
  refine z_iconst (v := 1) O dL_law_986 (by decide) ?_
  refine z_iadd O dL_law_987 ?_
  refine z_sld O hX hb hbB hi1 dL_law_988 ?_
  refine z_aload_n O dL_law_989 rfl rfl ?_
  have h := K (xs (Int32.toNatClampNeg (Int32.ofNat i + 1))) v w o hS
  refine z_callHi (As := [.ref B, .int (xs (Int32.toNatClampNeg (Int32.ofNat i + 1))), .ref (B + 483)]) (st := []) O (s_LAW_leave hfl hT hO (by omega) h) wh_L_leave wl_RL_156 dL_law_990 rfl rfl ⟨by have := hfr; omega, by have := hlo; omega⟩ (Nat.le_of_ble_eq_true rfl) ⟨hk1, hn1⟩ (fun r z1 G1 hq => ?_)
  obtain ⟨v1, o1, k1, k2, k3, h⟩ := hq
  have m1 : MA (B + 475) w G1 := MA.eq hM (fun q g1 g2 => k3 q (by omega) (by omega))
  refine z_istore (L' := [some (.ref b), some (.ref B), some (.ref (B + 475)), some (.ref (B + 483)), some (.int (Int32.ofNat i)), some (.int r), none]) O dL_law_993 (by decide) rfl ?_
  refine z_aload_n O dL_law_995 rfl rfl ?_
  refine z_aload_n O dL_law_996 rfl rfl ?_
  refine z_iload O dL_law_997 rfl ?_
  refine z_iconst (v := 1) O dL_law_999 (by decide) ?_
  refine z_iadd O dL_law_1000 ?_
  refine z_sld O hX hb hbB hi1 dL_law_1001 ?_
  refine z_callVi (As := [.int (xs (Int32.toNatClampNeg (Int32.ofNat i + 1)))]) (st := []) O (s_M_leave hfl m1 h) wy_X6_leave wl_RL_158 dL_law_1002 rfl rfl (M_obj m1) ⟨by decide, rfl⟩ ⟨by have := hfr; omega, by have := hlo; omega⟩ (Nat.le_of_ble_eq_true rfl) ⟨hk1, hn1⟩ (fun r0 z20 G20 hq0 => ?_)
  obtain ⟨rfl, u0, a0, b0, h⟩ := hq0
  have c0 := TA.fr k1 b0 (by omega)
  have e0 := (b0 (B + 483) (by omega)).trans k2
  refine z_istore (L' := [some (.ref b), some (.ref B), some (.ref (B + 475)), some (.ref (B + 483)), some (.int (Int32.ofNat i)), some (.int r), some (.int r0)]) O dL_law_1005 (by decide) rfl ?_
  refine z_aload_n O dL_law_1007 rfl rfl ?_
  refine z_callVi (As := []) (st := []) O (s_M_thrown hfl a0 h) wy_X6_thrown wl_RL_108 dL_law_1008 rfl rfl (M_obj a0) ⟨by decide, rfl⟩ ⟨by have := hfr; omega, by have := hlo; omega⟩ (Nat.le_of_ble_eq_true rfl) ⟨hk1, hn1⟩ (fun r1 z21 G21 hq1 => ?_)
  obtain ⟨rfl, rfl, h⟩ := hq1
  refine z_iload O dL_law_1011 rfl ?_
  obtain ⟨h1, h2, hS⟩ := h
  refine z_icmp_eq (tgt := 1018) O dL_law_1013 (by decide) (fun _ => ?_) (fun q => absurd h1 q)
  refine z_iload O dL_law_1018 rfl ?_
  refine z_if_ne (tgt := 1035) O dL_law_1020 (by decide) (fun cr => ?_) (fun cr => ?_)
  · refine z_goto (tgt := 1889) O dL_law_1035 (by decide) ?_
    exact z_subL (L' := [some (.ref b), some (.ref B), some (.ref (B + 475)), some (.ref (B + 483)), some (.int (Int32.ofNat i)), none, none]) (zLe.sub (And.intro rfl (And.intro rfl (And.intro rfl (And.intro rfl (And.intro rfl True.intro)))))) (hc _ _ _ _ _ hS ⟨c0, a0, e0⟩)
  refine z_aload_n O dL_law_1023 rfl rfl ?_
  refine z_iconst (v := 0) O dL_law_1024 (by decide) ?_
  refine z_lald O dL_law_1025 e0 (vp_i (by decide)) ?_
  refine z_iload O dL_law_1026 rfl ?_
  refine z_i2l O dL_law_1028 ?_
  refine z_lcmp O dL_law_1029 ?_
  refine z_if_eq (tgt := 1035) O dL_law_1030 (by decide) (fun _ => ?_) (fun q => absurd (lw_cmp0 (h2 cr)) q)
  refine z_goto (tgt := 1889) O dL_law_1035 (by decide) ?_
  exact z_subL (L' := [some (.ref b), some (.ref B), some (.ref (B + 475)), some (.ref (B + 483)), some (.int (Int32.ofNat i)), none, none]) (zLe.sub (And.intro rfl (And.intro rfl (And.intro rfl (And.intro rfl (And.intro rfl True.intro)))))) (hc _ _ _ _ _ hS ⟨c0, a0, e0⟩)
def KL_hold (Sim Sm2 : TT → MT → Prop) : Prop := ∀ (x1 : Int32) (x2 : Int32) (v : TT) (w : MT) (o : Nat → Int64), (x2 = 0 ∨ x2 = 1) → Sim v w → P_LAW_hold x1 x2 v o (fun k v' o' => P_M_hold x1 x2 w (fun b w' => P_M_thrown w' (fun t => t = k ∧ (k = 0 → o' 0 = Int32.toInt64 b) ∧ Sm2 v' w')))
set_option maxRecDepth 100000 in
theorem lw_hold {p : Program} {l : Launch} {e : Env} {R : Room} {s : State} {m : MethodId} {args : Array Value} {below : List Frame} {meth : Method} {c : Code} {Q : State → Prop} {D : zD} {B : Nat} {sa : Nat → Nat} {k n z : Nat} {G : zG} (hfl : l.stackTraces = false) (O : zO p l s m args c D B sa 7 cL_law RL) {Sim Sm2 : TT → MT → Prop} (K : KL_hold Sim Sm2) {b N i : Nat} {xs : Nat → Int32} {v : TT} {w : MT} {o : Nat → Int64} (hX : va_X b N xs s s.heap) (hb : b < s.heap.size) (hbB : ¬ B ≤ b) (hi1 : vp_in (Int32.ofNat i + 1) N) (hi2 : vp_in (Int32.ofNat i + 2) N) (hi3 : vp_in (Int32.ofNat i + 3) N)
    (hfr : 11 ≤ R.frames) (hlo : 270 ≤ R.locals) (hk0 : k + 0 ≤ R.cells) (hn0 : n + 0 ≤ R.slots) (hk1 : k + 1 ≤ R.cells) (hn1 : n + 6 ≤ R.slots) (hS : Sim v w) (hT : TA B v G) (hM : MA (B + 475) w G) (hO : G (B + 483) = some (zla 1 o))
    (hc : ∀ (v' : TT) (w' : MT) (o' : Nat → Int64) (z' : Nat) (G' : zG), Sm2 v' w' → LI B v' w' o' G' → zT p l e R s m args below meth c Q D B 7 (k + 1) (n + 6) 1889 [] [some (.ref b), some (.ref B), some (.ref (B + 475)), some (.ref (B + 483)), some (.int (Int32.ofNat i)), none, none] z' G') :
    zT p l e R s m args below meth c Q D B 7 k n 1038 [] [some (.ref b), some (.ref B), some (.ref (B + 475)), some (.ref (B + 483)), some (.int (Int32.ofNat i)), none, none] z G := by
  by_cases ce : (xs (Int32.toNatClampNeg (Int32.ofNat i + 2))) = 0
  · refine z_aload_n O dL_law_1038 rfl rfl ?_
    refine z_aload_n O dL_law_1039 rfl rfl ?_
    refine z_iload O dL_law_1040 rfl ?_
    refine z_iconst (v := 1) O dL_law_1042 (by decide) ?_
    refine z_iadd O dL_law_1043 ?_
    refine z_sld O hX hb hbB hi1 dL_law_1044 ?_
    refine z_aload_n O dL_law_1045 rfl rfl ?_
    refine z_iload O dL_law_1046 rfl ?_
    refine z_iconst (v := 2) O dL_law_1048 (by decide) ?_
    refine z_iadd O dL_law_1049 ?_
    refine z_sld O hX hb hbB hi2 dL_law_1050 ?_
    refine z_if_eq (tgt := 1058) O dL_law_1051 (by decide) (fun _ => ?_) (fun q => absurd ce q)
    refine z_iconst (v := 0) O dL_law_1058 (by decide) ?_
    refine z_aload_n O dL_law_1059 rfl rfl ?_
    have h := K (xs (Int32.toNatClampNeg (Int32.ofNat i + 1))) 0 v w o (Or.inl rfl) hS
    refine z_callHi (As := [.ref B, .int (xs (Int32.toNatClampNeg (Int32.ofNat i + 1))), .int 0, .ref (B + 483)]) (st := []) O (s_LAW_hold hfl hT hO (by omega) h) wh_L_hold wl_RL_159 dL_law_1060 rfl rfl ⟨by have := hfr; omega, by have := hlo; omega⟩ (Nat.le_of_ble_eq_true rfl) ⟨hk1, hn1⟩ (fun r z1 G1 hq => ?_)
    obtain ⟨v1, o1, k1, k2, k3, h⟩ := hq
    have m1 : MA (B + 475) w G1 := MA.eq hM (fun q g1 g2 => k3 q (by omega) (by omega))
    refine z_istore (L' := [some (.ref b), some (.ref B), some (.ref (B + 475)), some (.ref (B + 483)), some (.int (Int32.ofNat i)), some (.int r), none]) O dL_law_1063 (by decide) rfl ?_
    refine z_aload_n O dL_law_1065 rfl rfl ?_
    refine z_aload_n O dL_law_1066 rfl rfl ?_
    refine z_iload O dL_law_1067 rfl ?_
    refine z_iconst (v := 1) O dL_law_1069 (by decide) ?_
    refine z_iadd O dL_law_1070 ?_
    refine z_sld O hX hb hbB hi1 dL_law_1071 ?_
    refine z_aload_n O dL_law_1072 rfl rfl ?_
    refine z_iload O dL_law_1073 rfl ?_
    refine z_iconst (v := 2) O dL_law_1075 (by decide) ?_
    refine z_iadd O dL_law_1076 ?_
    refine z_sld O hX hb hbB hi2 dL_law_1077 ?_
    refine z_if_eq (tgt := 1085) O dL_law_1078 (by decide) (fun _ => ?_) (fun q => absurd ce q)
    refine z_iconst (v := 0) O dL_law_1085 (by decide) ?_
    refine z_callVi (As := [.int (xs (Int32.toNatClampNeg (Int32.ofNat i + 1))), .int 0]) (st := []) O (s_M_hold hfl m1 h) wy_X6_hold wl_RL_162 dL_law_1086 rfl rfl (M_obj m1) ⟨by decide, rfl⟩ ⟨by have := hfr; omega, by have := hlo; omega⟩ (Nat.le_of_ble_eq_true rfl) ⟨hk1, hn1⟩ (fun r0 z20 G20 hq0 => ?_)
    obtain ⟨rfl, u0, a0, b0, h⟩ := hq0
    have c0 := TA.fr k1 b0 (by omega)
    have e0 := (b0 (B + 483) (by omega)).trans k2
    refine z_istore (L' := [some (.ref b), some (.ref B), some (.ref (B + 475)), some (.ref (B + 483)), some (.int (Int32.ofNat i)), some (.int r), some (.int r0)]) O dL_law_1089 (by decide) rfl ?_
    refine z_aload_n O dL_law_1091 rfl rfl ?_
    refine z_callVi (As := []) (st := []) O (s_M_thrown hfl a0 h) wy_X6_thrown wl_RL_108 dL_law_1092 rfl rfl (M_obj a0) ⟨by decide, rfl⟩ ⟨by have := hfr; omega, by have := hlo; omega⟩ (Nat.le_of_ble_eq_true rfl) ⟨hk1, hn1⟩ (fun r1 z21 G21 hq1 => ?_)
    obtain ⟨rfl, rfl, h⟩ := hq1
    refine z_iload O dL_law_1095 rfl ?_
    obtain ⟨h1, h2, hS⟩ := h
    refine z_icmp_eq (tgt := 1102) O dL_law_1097 (by decide) (fun _ => ?_) (fun q => absurd h1 q)
    refine z_iload O dL_law_1102 rfl ?_
    refine z_if_ne (tgt := 1119) O dL_law_1104 (by decide) (fun cr => ?_) (fun cr => ?_)
    · refine z_goto (tgt := 1889) O dL_law_1119 (by decide) ?_
      exact z_subL (L' := [some (.ref b), some (.ref B), some (.ref (B + 475)), some (.ref (B + 483)), some (.int (Int32.ofNat i)), none, none]) (zLe.sub (And.intro rfl (And.intro rfl (And.intro rfl (And.intro rfl (And.intro rfl True.intro)))))) (hc _ _ _ _ _ hS ⟨c0, a0, e0⟩)
    refine z_aload_n O dL_law_1107 rfl rfl ?_
    refine z_iconst (v := 0) O dL_law_1108 (by decide) ?_
    refine z_lald O dL_law_1109 e0 (vp_i (by decide)) ?_
    refine z_iload O dL_law_1110 rfl ?_
    refine z_i2l O dL_law_1112 ?_
    refine z_lcmp O dL_law_1113 ?_
    refine z_if_eq (tgt := 1119) O dL_law_1114 (by decide) (fun _ => ?_) (fun q => absurd (lw_cmp0 (h2 cr)) q)
    refine z_goto (tgt := 1889) O dL_law_1119 (by decide) ?_
    exact z_subL (L' := [some (.ref b), some (.ref B), some (.ref (B + 475)), some (.ref (B + 483)), some (.int (Int32.ofNat i)), none, none]) (zLe.sub (And.intro rfl (And.intro rfl (And.intro rfl (And.intro rfl (And.intro rfl True.intro)))))) (hc _ _ _ _ _ hS ⟨c0, a0, e0⟩)
  · refine z_aload_n O dL_law_1038 rfl rfl ?_
    refine z_aload_n O dL_law_1039 rfl rfl ?_
    refine z_iload O dL_law_1040 rfl ?_
    refine z_iconst (v := 1) O dL_law_1042 (by decide) ?_
    refine z_iadd O dL_law_1043 ?_
    refine z_sld O hX hb hbB hi1 dL_law_1044 ?_
    refine z_aload_n O dL_law_1045 rfl rfl ?_
    refine z_iload O dL_law_1046 rfl ?_
    refine z_iconst (v := 2) O dL_law_1048 (by decide) ?_
    refine z_iadd O dL_law_1049 ?_
    refine z_sld O hX hb hbB hi2 dL_law_1050 ?_
    refine z_if_eq (tgt := 1058) O dL_law_1051 (by decide) (fun q => absurd q ce) (fun _ => ?_)
    refine z_iconst (v := 1) O dL_law_1054 (by decide) ?_
    refine z_goto (tgt := 1059) O dL_law_1055 (by decide) ?_
    refine z_aload_n O dL_law_1059 rfl rfl ?_
    have h := K (xs (Int32.toNatClampNeg (Int32.ofNat i + 1))) 1 v w o (Or.inr rfl) hS
    refine z_callHi (As := [.ref B, .int (xs (Int32.toNatClampNeg (Int32.ofNat i + 1))), .int 1, .ref (B + 483)]) (st := []) O (s_LAW_hold hfl hT hO (by omega) h) wh_L_hold wl_RL_159 dL_law_1060 rfl rfl ⟨by have := hfr; omega, by have := hlo; omega⟩ (Nat.le_of_ble_eq_true rfl) ⟨hk1, hn1⟩ (fun r z1 G1 hq => ?_)
    obtain ⟨v1, o1, k1, k2, k3, h⟩ := hq
    have m1 : MA (B + 475) w G1 := MA.eq hM (fun q g1 g2 => k3 q (by omega) (by omega))
    refine z_istore (L' := [some (.ref b), some (.ref B), some (.ref (B + 475)), some (.ref (B + 483)), some (.int (Int32.ofNat i)), some (.int r), none]) O dL_law_1063 (by decide) rfl ?_
    refine z_aload_n O dL_law_1065 rfl rfl ?_
    refine z_aload_n O dL_law_1066 rfl rfl ?_
    refine z_iload O dL_law_1067 rfl ?_
    refine z_iconst (v := 1) O dL_law_1069 (by decide) ?_
    refine z_iadd O dL_law_1070 ?_
    refine z_sld O hX hb hbB hi1 dL_law_1071 ?_
    refine z_aload_n O dL_law_1072 rfl rfl ?_
    refine z_iload O dL_law_1073 rfl ?_
    refine z_iconst (v := 2) O dL_law_1075 (by decide) ?_
    refine z_iadd O dL_law_1076 ?_
    refine z_sld O hX hb hbB hi2 dL_law_1077 ?_
    refine z_if_eq (tgt := 1085) O dL_law_1078 (by decide) (fun q => absurd q ce) (fun _ => ?_)
    refine z_iconst (v := 1) O dL_law_1081 (by decide) ?_
    refine z_goto (tgt := 1086) O dL_law_1082 (by decide) ?_
    refine z_callVi (As := [.int (xs (Int32.toNatClampNeg (Int32.ofNat i + 1))), .int 1]) (st := []) O (s_M_hold hfl m1 h) wy_X6_hold wl_RL_162 dL_law_1086 rfl rfl (M_obj m1) ⟨by decide, rfl⟩ ⟨by have := hfr; omega, by have := hlo; omega⟩ (Nat.le_of_ble_eq_true rfl) ⟨hk1, hn1⟩ (fun r0 z20 G20 hq0 => ?_)
    obtain ⟨rfl, u0, a0, b0, h⟩ := hq0
    have c0 := TA.fr k1 b0 (by omega)
    have e0 := (b0 (B + 483) (by omega)).trans k2
    refine z_istore (L' := [some (.ref b), some (.ref B), some (.ref (B + 475)), some (.ref (B + 483)), some (.int (Int32.ofNat i)), some (.int r), some (.int r0)]) O dL_law_1089 (by decide) rfl ?_
    refine z_aload_n O dL_law_1091 rfl rfl ?_
    refine z_callVi (As := []) (st := []) O (s_M_thrown hfl a0 h) wy_X6_thrown wl_RL_108 dL_law_1092 rfl rfl (M_obj a0) ⟨by decide, rfl⟩ ⟨by have := hfr; omega, by have := hlo; omega⟩ (Nat.le_of_ble_eq_true rfl) ⟨hk1, hn1⟩ (fun r1 z21 G21 hq1 => ?_)
    obtain ⟨rfl, rfl, h⟩ := hq1
    refine z_iload O dL_law_1095 rfl ?_
    obtain ⟨h1, h2, hS⟩ := h
    refine z_icmp_eq (tgt := 1102) O dL_law_1097 (by decide) (fun _ => ?_) (fun q => absurd h1 q)
    refine z_iload O dL_law_1102 rfl ?_
    refine z_if_ne (tgt := 1119) O dL_law_1104 (by decide) (fun cr => ?_) (fun cr => ?_)
    · refine z_goto (tgt := 1889) O dL_law_1119 (by decide) ?_
      exact z_subL (L' := [some (.ref b), some (.ref B), some (.ref (B + 475)), some (.ref (B + 483)), some (.int (Int32.ofNat i)), none, none]) (zLe.sub (And.intro rfl (And.intro rfl (And.intro rfl (And.intro rfl (And.intro rfl True.intro)))))) (hc _ _ _ _ _ hS ⟨c0, a0, e0⟩)
    refine z_aload_n O dL_law_1107 rfl rfl ?_
    refine z_iconst (v := 0) O dL_law_1108 (by decide) ?_
    refine z_lald O dL_law_1109 e0 (vp_i (by decide)) ?_
    refine z_iload O dL_law_1110 rfl ?_
    refine z_i2l O dL_law_1112 ?_
    refine z_lcmp O dL_law_1113 ?_
    refine z_if_eq (tgt := 1119) O dL_law_1114 (by decide) (fun _ => ?_) (fun q => absurd (lw_cmp0 (h2 cr)) q)
    refine z_goto (tgt := 1889) O dL_law_1119 (by decide) ?_
    exact z_subL (L' := [some (.ref b), some (.ref B), some (.ref (B + 475)), some (.ref (B + 483)), some (.int (Int32.ofNat i)), none, none]) (zLe.sub (And.intro rfl (And.intro rfl (And.intro rfl (And.intro rfl (And.intro rfl True.intro)))))) (hc _ _ _ _ _ hS ⟨c0, a0, e0⟩)
def KL_set (Sim Sm2 : TT → MT → Prop) : Prop := ∀ (x1 : Int32) (x2 : Int32) (v : TT) (w : MT) (o : Nat → Int64), Sim v w → P_LAW_set x1 x2 v o (fun k v' o' => P_M_set x1 x2 w (fun b w' => P_M_thrown w' (fun t => t = k ∧ (k = 0 → o' 0 = Int32.toInt64 b) ∧ Sm2 v' w')))
set_option maxRecDepth 100000 in
theorem lw_set {p : Program} {l : Launch} {e : Env} {R : Room} {s : State} {m : MethodId} {args : Array Value} {below : List Frame} {meth : Method} {c : Code} {Q : State → Prop} {D : zD} {B : Nat} {sa : Nat → Nat} {k n z : Nat} {G : zG} (hfl : l.stackTraces = false) (O : zO p l s m args c D B sa 7 cL_law RL) {Sim Sm2 : TT → MT → Prop} (K : KL_set Sim Sm2) {b N i : Nat} {xs : Nat → Int32} {v : TT} {w : MT} {o : Nat → Int64} (hX : va_X b N xs s s.heap) (hb : b < s.heap.size) (hbB : ¬ B ≤ b) (hi1 : vp_in (Int32.ofNat i + 1) N) (hi2 : vp_in (Int32.ofNat i + 2) N) (hi3 : vp_in (Int32.ofNat i + 3) N)
    (hfr : 11 ≤ R.frames) (hlo : 270 ≤ R.locals) (hk0 : k + 0 ≤ R.cells) (hn0 : n + 0 ≤ R.slots) (hk1 : k + 1 ≤ R.cells) (hn1 : n + 6 ≤ R.slots) (hS : Sim v w) (hT : TA B v G) (hM : MA (B + 475) w G) (hO : G (B + 483) = some (zla 1 o))
    (hc : ∀ (v' : TT) (w' : MT) (o' : Nat → Int64) (z' : Nat) (G' : zG), Sm2 v' w' → LI B v' w' o' G' → zT p l e R s m args below meth c Q D B 7 (k + 1) (n + 6) 1889 [] [some (.ref b), some (.ref B), some (.ref (B + 475)), some (.ref (B + 483)), some (.int (Int32.ofNat i)), none, none] z' G') :
    zT p l e R s m args below meth c Q D B 7 k n 1122 [] [some (.ref b), some (.ref B), some (.ref (B + 475)), some (.ref (B + 483)), some (.int (Int32.ofNat i)), none, none] z G := by
  refine z_aload_n O dL_law_1122 rfl rfl ?_
  refine z_aload_n O dL_law_1123 rfl rfl ?_
  refine z_iload O dL_law_1124 rfl ?_
  refine z_iconst (v := 1) O dL_law_1126 (by decide) ?_
  refine z_iadd O dL_law_1127 ?_
  refine z_sld O hX hb hbB hi1 dL_law_1128 ?_
  refine z_aload_n O dL_law_1129 rfl rfl ?_
  refine z_iload O dL_law_1130 rfl ?_
  refine z_iconst (v := 2) O dL_law_1132 (by decide) ?_
  refine z_iadd O dL_law_1133 ?_
  refine z_sld O hX hb hbB hi2 dL_law_1134 ?_
  refine z_aload_n O dL_law_1135 rfl rfl ?_
  have h := K (xs (Int32.toNatClampNeg (Int32.ofNat i + 1))) (xs (Int32.toNatClampNeg (Int32.ofNat i + 2))) v w o hS
  refine z_callHi (As := [.ref B, .int (xs (Int32.toNatClampNeg (Int32.ofNat i + 1))), .int (xs (Int32.toNatClampNeg (Int32.ofNat i + 2))), .ref (B + 483)]) (st := []) O (s_LAW_set hfl hT hO (by omega) h) wh_L_set wl_RL_163 dL_law_1136 rfl rfl ⟨by have := hfr; omega, by have := hlo; omega⟩ (Nat.le_of_ble_eq_true rfl) ⟨hk1, hn1⟩ (fun r z1 G1 hq => ?_)
  obtain ⟨v1, o1, k1, k2, k3, h⟩ := hq
  have m1 : MA (B + 475) w G1 := MA.eq hM (fun q g1 g2 => k3 q (by omega) (by omega))
  refine z_istore (L' := [some (.ref b), some (.ref B), some (.ref (B + 475)), some (.ref (B + 483)), some (.int (Int32.ofNat i)), some (.int r), none]) O dL_law_1139 (by decide) rfl ?_
  refine z_aload_n O dL_law_1141 rfl rfl ?_
  refine z_aload_n O dL_law_1142 rfl rfl ?_
  refine z_iload O dL_law_1143 rfl ?_
  refine z_iconst (v := 1) O dL_law_1145 (by decide) ?_
  refine z_iadd O dL_law_1146 ?_
  refine z_sld O hX hb hbB hi1 dL_law_1147 ?_
  refine z_aload_n O dL_law_1148 rfl rfl ?_
  refine z_iload O dL_law_1149 rfl ?_
  refine z_iconst (v := 2) O dL_law_1151 (by decide) ?_
  refine z_iadd O dL_law_1152 ?_
  refine z_sld O hX hb hbB hi2 dL_law_1153 ?_
  refine z_callVi (As := [.int (xs (Int32.toNatClampNeg (Int32.ofNat i + 1))), .int (xs (Int32.toNatClampNeg (Int32.ofNat i + 2)))]) (st := []) O (s_M_set hfl m1 h) wy_X6_set wl_RL_165 dL_law_1154 rfl rfl (M_obj m1) ⟨by decide, rfl⟩ ⟨by have := hfr; omega, by have := hlo; omega⟩ (Nat.le_of_ble_eq_true rfl) ⟨hk1, hn1⟩ (fun r0 z20 G20 hq0 => ?_)
  obtain ⟨rfl, u0, a0, b0, h⟩ := hq0
  have c0 := TA.fr k1 b0 (by omega)
  have e0 := (b0 (B + 483) (by omega)).trans k2
  refine z_istore (L' := [some (.ref b), some (.ref B), some (.ref (B + 475)), some (.ref (B + 483)), some (.int (Int32.ofNat i)), some (.int r), some (.int r0)]) O dL_law_1157 (by decide) rfl ?_
  refine z_aload_n O dL_law_1159 rfl rfl ?_
  refine z_callVi (As := []) (st := []) O (s_M_thrown hfl a0 h) wy_X6_thrown wl_RL_108 dL_law_1160 rfl rfl (M_obj a0) ⟨by decide, rfl⟩ ⟨by have := hfr; omega, by have := hlo; omega⟩ (Nat.le_of_ble_eq_true rfl) ⟨hk1, hn1⟩ (fun r1 z21 G21 hq1 => ?_)
  obtain ⟨rfl, rfl, h⟩ := hq1
  refine z_iload O dL_law_1163 rfl ?_
  obtain ⟨h1, h2, hS⟩ := h
  refine z_icmp_eq (tgt := 1170) O dL_law_1165 (by decide) (fun _ => ?_) (fun q => absurd h1 q)
  refine z_iload O dL_law_1170 rfl ?_
  refine z_if_ne (tgt := 1187) O dL_law_1172 (by decide) (fun cr => ?_) (fun cr => ?_)
  · refine z_goto (tgt := 1889) O dL_law_1187 (by decide) ?_
    exact z_subL (L' := [some (.ref b), some (.ref B), some (.ref (B + 475)), some (.ref (B + 483)), some (.int (Int32.ofNat i)), none, none]) (zLe.sub (And.intro rfl (And.intro rfl (And.intro rfl (And.intro rfl (And.intro rfl True.intro)))))) (hc _ _ _ _ _ hS ⟨c0, a0, e0⟩)
  refine z_aload_n O dL_law_1175 rfl rfl ?_
  refine z_iconst (v := 0) O dL_law_1176 (by decide) ?_
  refine z_lald O dL_law_1177 e0 (vp_i (by decide)) ?_
  refine z_iload O dL_law_1178 rfl ?_
  refine z_i2l O dL_law_1180 ?_
  refine z_lcmp O dL_law_1181 ?_
  refine z_if_eq (tgt := 1187) O dL_law_1182 (by decide) (fun _ => ?_) (fun q => absurd (lw_cmp0 (h2 cr)) q)
  refine z_goto (tgt := 1889) O dL_law_1187 (by decide) ?_
  exact z_subL (L' := [some (.ref b), some (.ref B), some (.ref (B + 475)), some (.ref (B + 483)), some (.int (Int32.ofNat i)), none, none]) (zLe.sub (And.intro rfl (And.intro rfl (And.intro rfl (And.intro rfl (And.intro rfl True.intro)))))) (hc _ _ _ _ _ hS ⟨c0, a0, e0⟩)
def KL_ticks (Sim Sm2 : TT → MT → Prop) : Prop := ∀ (x1 : Int32) (v : TT) (w : MT) (o : Nat → Int64), Sim v w → P_LAW_ticks x1 v o (fun k v' o' => P_M_ticks x1 w (fun b w' => P_M_thrown w' (fun t => t = k ∧ (k = 0 → o' 0 = Int32.toInt64 b) ∧ Sm2 v' w')))
set_option maxRecDepth 100000 in
theorem lw_ticks {p : Program} {l : Launch} {e : Env} {R : Room} {s : State} {m : MethodId} {args : Array Value} {below : List Frame} {meth : Method} {c : Code} {Q : State → Prop} {D : zD} {B : Nat} {sa : Nat → Nat} {k n z : Nat} {G : zG} (hfl : l.stackTraces = false) (O : zO p l s m args c D B sa 7 cL_law RL) {Sim Sm2 : TT → MT → Prop} (K : KL_ticks Sim Sm2) {b N i : Nat} {xs : Nat → Int32} {v : TT} {w : MT} {o : Nat → Int64} (hX : va_X b N xs s s.heap) (hb : b < s.heap.size) (hbB : ¬ B ≤ b) (hi1 : vp_in (Int32.ofNat i + 1) N) (hi2 : vp_in (Int32.ofNat i + 2) N) (hi3 : vp_in (Int32.ofNat i + 3) N)
    (hfr : 11 ≤ R.frames) (hlo : 270 ≤ R.locals) (hk0 : k + 0 ≤ R.cells) (hn0 : n + 0 ≤ R.slots) (hk1 : k + 1 ≤ R.cells) (hn1 : n + 6 ≤ R.slots) (hS : Sim v w) (hT : TA B v G) (hM : MA (B + 475) w G) (hO : G (B + 483) = some (zla 1 o))
    (hc : ∀ (v' : TT) (w' : MT) (o' : Nat → Int64) (z' : Nat) (G' : zG), Sm2 v' w' → LI B v' w' o' G' → zT p l e R s m args below meth c Q D B 7 (k + 1) (n + 6) 1889 [] [some (.ref b), some (.ref B), some (.ref (B + 475)), some (.ref (B + 483)), some (.int (Int32.ofNat i)), none, none] z' G') :
    zT p l e R s m args below meth c Q D B 7 k n 1190 [] [some (.ref b), some (.ref B), some (.ref (B + 475)), some (.ref (B + 483)), some (.int (Int32.ofNat i)), none, none] z G := by
  refine z_aload_n O dL_law_1190 rfl rfl ?_
  refine z_aload_n O dL_law_1191 rfl rfl ?_
  refine z_iload O dL_law_1192 rfl ?_
  refine z_iconst (v := 1) O dL_law_1194 (by decide) ?_
  refine z_iadd O dL_law_1195 ?_
  refine z_sld O hX hb hbB hi1 dL_law_1196 ?_
  refine z_aload_n O dL_law_1197 rfl rfl ?_
  have h := K (xs (Int32.toNatClampNeg (Int32.ofNat i + 1))) v w o hS
  refine z_callHi (As := [.ref B, .int (xs (Int32.toNatClampNeg (Int32.ofNat i + 1))), .ref (B + 483)]) (st := []) O (s_LAW_ticks hfl hT hO (by omega) h) wh_L_ticks wl_RL_166 dL_law_1198 rfl rfl ⟨by have := hfr; omega, by have := hlo; omega⟩ (Nat.le_of_ble_eq_true rfl) ⟨hk1, hn1⟩ (fun r z1 G1 hq => ?_)
  obtain ⟨v1, o1, k1, k2, k3, h⟩ := hq
  have m1 : MA (B + 475) w G1 := MA.eq hM (fun q g1 g2 => k3 q (by omega) (by omega))
  refine z_istore (L' := [some (.ref b), some (.ref B), some (.ref (B + 475)), some (.ref (B + 483)), some (.int (Int32.ofNat i)), some (.int r), none]) O dL_law_1201 (by decide) rfl ?_
  refine z_aload_n O dL_law_1203 rfl rfl ?_
  refine z_aload_n O dL_law_1204 rfl rfl ?_
  refine z_iload O dL_law_1205 rfl ?_
  refine z_iconst (v := 1) O dL_law_1207 (by decide) ?_
  refine z_iadd O dL_law_1208 ?_
  refine z_sld O hX hb hbB hi1 dL_law_1209 ?_
  refine z_callVi (As := [.int (xs (Int32.toNatClampNeg (Int32.ofNat i + 1)))]) (st := []) O (s_M_ticks hfl m1 h) wy_X6_ticks wl_RL_168 dL_law_1210 rfl rfl (M_obj m1) ⟨by decide, rfl⟩ ⟨by have := hfr; omega, by have := hlo; omega⟩ (Nat.le_of_ble_eq_true rfl) ⟨hk1, hn1⟩ (fun r0 z20 G20 hq0 => ?_)
  obtain ⟨rfl, u0, a0, b0, h⟩ := hq0
  have c0 := TA.fr k1 b0 (by omega)
  have e0 := (b0 (B + 483) (by omega)).trans k2
  refine z_istore (L' := [some (.ref b), some (.ref B), some (.ref (B + 475)), some (.ref (B + 483)), some (.int (Int32.ofNat i)), some (.int r), some (.int r0)]) O dL_law_1213 (by decide) rfl ?_
  refine z_aload_n O dL_law_1215 rfl rfl ?_
  refine z_callVi (As := []) (st := []) O (s_M_thrown hfl a0 h) wy_X6_thrown wl_RL_108 dL_law_1216 rfl rfl (M_obj a0) ⟨by decide, rfl⟩ ⟨by have := hfr; omega, by have := hlo; omega⟩ (Nat.le_of_ble_eq_true rfl) ⟨hk1, hn1⟩ (fun r1 z21 G21 hq1 => ?_)
  obtain ⟨rfl, rfl, h⟩ := hq1
  refine z_iload O dL_law_1219 rfl ?_
  obtain ⟨h1, h2, hS⟩ := h
  refine z_icmp_eq (tgt := 1226) O dL_law_1221 (by decide) (fun _ => ?_) (fun q => absurd h1 q)
  refine z_iload O dL_law_1226 rfl ?_
  refine z_if_ne (tgt := 1243) O dL_law_1228 (by decide) (fun cr => ?_) (fun cr => ?_)
  · refine z_goto (tgt := 1889) O dL_law_1243 (by decide) ?_
    exact z_subL (L' := [some (.ref b), some (.ref B), some (.ref (B + 475)), some (.ref (B + 483)), some (.int (Int32.ofNat i)), none, none]) (zLe.sub (And.intro rfl (And.intro rfl (And.intro rfl (And.intro rfl (And.intro rfl True.intro)))))) (hc _ _ _ _ _ hS ⟨c0, a0, e0⟩)
  refine z_aload_n O dL_law_1231 rfl rfl ?_
  refine z_iconst (v := 0) O dL_law_1232 (by decide) ?_
  refine z_lald O dL_law_1233 e0 (vp_i (by decide)) ?_
  refine z_iload O dL_law_1234 rfl ?_
  refine z_i2l O dL_law_1236 ?_
  refine z_lcmp O dL_law_1237 ?_
  refine z_if_eq (tgt := 1243) O dL_law_1238 (by decide) (fun _ => ?_) (fun q => absurd (lw_cmp0 (h2 cr)) q)
  refine z_goto (tgt := 1889) O dL_law_1243 (by decide) ?_
  exact z_subL (L' := [some (.ref b), some (.ref B), some (.ref (B + 475)), some (.ref (B + 483)), some (.int (Int32.ofNat i)), none, none]) (zLe.sub (And.intro rfl (And.intro rfl (And.intro rfl (And.intro rfl (And.intro rfl True.intro)))))) (hc _ _ _ _ _ hS ⟨c0, a0, e0⟩)
def KL_undo (Sim Sm2 : TT → MT → Prop) : Prop := ∀ (v : TT) (w : MT) (o : Nat → Int64), Sim v w → P_LAW_undo  v o (fun k v' o' => P_M_undo  w (fun b w' => P_M_thrown w' (fun t => t = k ∧ (k = 0 → o' 0 = Int32.toInt64 b) ∧ Sm2 v' w')))
set_option maxRecDepth 100000 in
theorem lw_undo {p : Program} {l : Launch} {e : Env} {R : Room} {s : State} {m : MethodId} {args : Array Value} {below : List Frame} {meth : Method} {c : Code} {Q : State → Prop} {D : zD} {B : Nat} {sa : Nat → Nat} {k n z : Nat} {G : zG} (hfl : l.stackTraces = false) (O : zO p l s m args c D B sa 7 cL_law RL) {Sim Sm2 : TT → MT → Prop} (K : KL_undo Sim Sm2) {b N i : Nat} {xs : Nat → Int32} {v : TT} {w : MT} {o : Nat → Int64} (hX : va_X b N xs s s.heap) (hb : b < s.heap.size) (hbB : ¬ B ≤ b) (hi1 : vp_in (Int32.ofNat i + 1) N) (hi2 : vp_in (Int32.ofNat i + 2) N) (hi3 : vp_in (Int32.ofNat i + 3) N)
    (hfr : 11 ≤ R.frames) (hlo : 270 ≤ R.locals) (hk0 : k + 0 ≤ R.cells) (hn0 : n + 0 ≤ R.slots) (hk1 : k + 1 ≤ R.cells) (hn1 : n + 6 ≤ R.slots) (hS : Sim v w) (hT : TA B v G) (hM : MA (B + 475) w G) (hO : G (B + 483) = some (zla 1 o))
    (hc : ∀ (v' : TT) (w' : MT) (o' : Nat → Int64) (z' : Nat) (G' : zG), Sm2 v' w' → LI B v' w' o' G' → zT p l e R s m args below meth c Q D B 7 (k + 1) (n + 6) 1889 [] [some (.ref b), some (.ref B), some (.ref (B + 475)), some (.ref (B + 483)), some (.int (Int32.ofNat i)), none, none] z' G') :
    zT p l e R s m args below meth c Q D B 7 k n 1246 [] [some (.ref b), some (.ref B), some (.ref (B + 475)), some (.ref (B + 483)), some (.int (Int32.ofNat i)), none, none] z G := by
  refine z_aload_n O dL_law_1246 rfl rfl ?_
  refine z_aload_n O dL_law_1247 rfl rfl ?_
  have h := K  v w o hS
  refine z_callHi (As := [.ref B, .ref (B + 483)]) (st := []) O (s_LAW_undo hfl hT hO (by omega) h) wh_L_undo wl_RL_169 dL_law_1248 rfl rfl ⟨by have := hfr; omega, by have := hlo; omega⟩ (Nat.le_of_ble_eq_true rfl) ⟨hk1, hn1⟩ (fun r z1 G1 hq => ?_)
  obtain ⟨v1, o1, k1, k2, k3, h⟩ := hq
  have m1 : MA (B + 475) w G1 := MA.eq hM (fun q g1 g2 => k3 q (by omega) (by omega))
  refine z_istore (L' := [some (.ref b), some (.ref B), some (.ref (B + 475)), some (.ref (B + 483)), some (.int (Int32.ofNat i)), some (.int r), none]) O dL_law_1251 (by decide) rfl ?_
  refine z_aload_n O dL_law_1253 rfl rfl ?_
  refine z_callVi (As := []) (st := []) O (s_M_undo hfl m1 h) wy_X6_undo wl_RL_171 dL_law_1254 rfl rfl (M_obj m1) ⟨by decide, rfl⟩ ⟨by have := hfr; omega, by have := hlo; omega⟩ (Nat.le_of_ble_eq_true rfl) ⟨hk1, hn1⟩ (fun r0 z20 G20 hq0 => ?_)
  obtain ⟨rfl, u0, a0, b0, h⟩ := hq0
  have c0 := TA.fr k1 b0 (by omega)
  have e0 := (b0 (B + 483) (by omega)).trans k2
  refine z_istore (L' := [some (.ref b), some (.ref B), some (.ref (B + 475)), some (.ref (B + 483)), some (.int (Int32.ofNat i)), some (.int r), some (.int r0)]) O dL_law_1257 (by decide) rfl ?_
  refine z_aload_n O dL_law_1259 rfl rfl ?_
  refine z_callVi (As := []) (st := []) O (s_M_thrown hfl a0 h) wy_X6_thrown wl_RL_108 dL_law_1260 rfl rfl (M_obj a0) ⟨by decide, rfl⟩ ⟨by have := hfr; omega, by have := hlo; omega⟩ (Nat.le_of_ble_eq_true rfl) ⟨hk1, hn1⟩ (fun r1 z21 G21 hq1 => ?_)
  obtain ⟨rfl, rfl, h⟩ := hq1
  refine z_iload O dL_law_1263 rfl ?_
  obtain ⟨h1, h2, hS⟩ := h
  refine z_icmp_eq (tgt := 1270) O dL_law_1265 (by decide) (fun _ => ?_) (fun q => absurd h1 q)
  refine z_iload O dL_law_1270 rfl ?_
  refine z_if_ne (tgt := 1287) O dL_law_1272 (by decide) (fun cr => ?_) (fun cr => ?_)
  · refine z_goto (tgt := 1889) O dL_law_1287 (by decide) ?_
    exact z_subL (L' := [some (.ref b), some (.ref B), some (.ref (B + 475)), some (.ref (B + 483)), some (.int (Int32.ofNat i)), none, none]) (zLe.sub (And.intro rfl (And.intro rfl (And.intro rfl (And.intro rfl (And.intro rfl True.intro)))))) (hc _ _ _ _ _ hS ⟨c0, a0, e0⟩)
  refine z_aload_n O dL_law_1275 rfl rfl ?_
  refine z_iconst (v := 0) O dL_law_1276 (by decide) ?_
  refine z_lald O dL_law_1277 e0 (vp_i (by decide)) ?_
  refine z_iload O dL_law_1278 rfl ?_
  refine z_i2l O dL_law_1280 ?_
  refine z_lcmp O dL_law_1281 ?_
  refine z_if_eq (tgt := 1287) O dL_law_1282 (by decide) (fun _ => ?_) (fun q => absurd (lw_cmp0 (h2 cr)) q)
  refine z_goto (tgt := 1889) O dL_law_1287 (by decide) ?_
  exact z_subL (L' := [some (.ref b), some (.ref B), some (.ref (B + 475)), some (.ref (B + 483)), some (.int (Int32.ofNat i)), none, none]) (zLe.sub (And.intro rfl (And.intro rfl (And.intro rfl (And.intro rfl (And.intro rfl True.intro)))))) (hc _ _ _ _ _ hS ⟨c0, a0, e0⟩)
def KL_why (Sim Sm2 : TT → MT → Prop) : Prop := ∀ (v : TT) (w : MT), Sim v w → P_T_why v (fun r => P_M_why w (fun b w' => r = b ∧ Sm2 v w'))
set_option maxRecDepth 100000 in
theorem lw_why {p : Program} {l : Launch} {e : Env} {R : Room} {s : State} {m : MethodId} {args : Array Value} {below : List Frame} {meth : Method} {c : Code} {Q : State → Prop} {D : zD} {B : Nat} {sa : Nat → Nat} {k n z : Nat} {G : zG} (hfl : l.stackTraces = false) (O : zO p l s m args c D B sa 7 cL_law RL) {Sim Sm2 : TT → MT → Prop} (K : KL_why Sim Sm2) {b N i : Nat} {xs : Nat → Int32} {v : TT} {w : MT} {o : Nat → Int64} (hX : va_X b N xs s s.heap) (hb : b < s.heap.size) (hbB : ¬ B ≤ b) (hi1 : vp_in (Int32.ofNat i + 1) N) (hi2 : vp_in (Int32.ofNat i + 2) N) (hi3 : vp_in (Int32.ofNat i + 3) N)
    (hfr : 11 ≤ R.frames) (hlo : 270 ≤ R.locals) (hk0 : k + 0 ≤ R.cells) (hn0 : n + 0 ≤ R.slots) (hk1 : k + 1 ≤ R.cells) (hn1 : n + 6 ≤ R.slots) (hS : Sim v w) (hT : TA B v G) (hM : MA (B + 475) w G) (hO : G (B + 483) = some (zla 1 o))
    (hc : ∀ (v' : TT) (w' : MT) (o' : Nat → Int64) (z' : Nat) (G' : zG), Sm2 v' w' → LI B v' w' o' G' → zT p l e R s m args below meth c Q D B 7 k n 1889 [] [some (.ref b), some (.ref B), some (.ref (B + 475)), some (.ref (B + 483)), some (.int (Int32.ofNat i)), none, none] z' G') :
    zT p l e R s m args below meth c Q D B 7 k n 1290 [] [some (.ref b), some (.ref B), some (.ref (B + 475)), some (.ref (B + 483)), some (.int (Int32.ofNat i)), none, none] z G := by
  refine z_aload_n O dL_law_1290 rfl rfl ?_
  have h := K v w hS
  refine z_callVi (As := []) (st := []) O (s_T_why hfl hT h) wy_X5_why wl_RL_172 dL_law_1291 rfl rfl (T_obj hT) ⟨by decide, rfl⟩ ⟨by have := hfr; omega, by have := hlo; omega⟩ (Nat.le_of_ble_eq_true rfl) ⟨hk0, hn0⟩ (fun r0 z20 G20 hq0 => ?_)
  obtain ⟨rfl, rfl, h⟩ := hq0
  refine z_aload_n O dL_law_1294 rfl rfl ?_
  refine z_callVi (As := []) (st := [.int r0]) O (s_M_why hfl hM h) wy_X6_why wl_RL_175 dL_law_1295 rfl rfl (M_obj hM) ⟨by decide, rfl⟩ ⟨by have := hfr; omega, by have := hlo; omega⟩ (Nat.le_of_ble_eq_true rfl) ⟨hk0, hn0⟩ (fun r1 z21 G21 hq1 => ?_)
  obtain ⟨rfl, u1, a1, b1, h⟩ := hq1
  have c1 := TA.fr hT b1 (by omega)
  have e1 := (b1 (B + 483) (by omega)).trans hO
  obtain ⟨h1, hS⟩ := h
  refine z_icmp_eq (tgt := 1889) O dL_law_1298 (by decide) (fun _ => ?_) (fun q => absurd h1 q)
  exact z_subL (L' := [some (.ref b), some (.ref B), some (.ref (B + 475)), some (.ref (B + 483)), some (.int (Int32.ofNat i)), none, none]) (zLe.sub (And.intro rfl (And.intro rfl (And.intro rfl (And.intro rfl (And.intro rfl True.intro)))))) (hc _ _ _ _ _ hS ⟨c1, a1, e1⟩)
def KL_slowest (Sim Sm2 : TT → MT → Prop) : Prop := ∀ (v : TT) (w : MT), Sim v w → P_T_slowest v (fun r => P_M_slowest w (fun b w' => r = b ∧ Sm2 v w'))
set_option maxRecDepth 100000 in
theorem lw_slowest {p : Program} {l : Launch} {e : Env} {R : Room} {s : State} {m : MethodId} {args : Array Value} {below : List Frame} {meth : Method} {c : Code} {Q : State → Prop} {D : zD} {B : Nat} {sa : Nat → Nat} {k n z : Nat} {G : zG} (hfl : l.stackTraces = false) (O : zO p l s m args c D B sa 7 cL_law RL) {Sim Sm2 : TT → MT → Prop} (K : KL_slowest Sim Sm2) {b N i : Nat} {xs : Nat → Int32} {v : TT} {w : MT} {o : Nat → Int64} (hX : va_X b N xs s s.heap) (hb : b < s.heap.size) (hbB : ¬ B ≤ b) (hi1 : vp_in (Int32.ofNat i + 1) N) (hi2 : vp_in (Int32.ofNat i + 2) N) (hi3 : vp_in (Int32.ofNat i + 3) N)
    (hfr : 11 ≤ R.frames) (hlo : 270 ≤ R.locals) (hk0 : k + 0 ≤ R.cells) (hn0 : n + 0 ≤ R.slots) (hk1 : k + 1 ≤ R.cells) (hn1 : n + 6 ≤ R.slots) (hS : Sim v w) (hT : TA B v G) (hM : MA (B + 475) w G) (hO : G (B + 483) = some (zla 1 o))
    (hc : ∀ (v' : TT) (w' : MT) (o' : Nat → Int64) (z' : Nat) (G' : zG), Sm2 v' w' → LI B v' w' o' G' → zT p l e R s m args below meth c Q D B 7 k n 1889 [] [some (.ref b), some (.ref B), some (.ref (B + 475)), some (.ref (B + 483)), some (.int (Int32.ofNat i)), none, none] z' G') :
    zT p l e R s m args below meth c Q D B 7 k n 1303 [] [some (.ref b), some (.ref B), some (.ref (B + 475)), some (.ref (B + 483)), some (.int (Int32.ofNat i)), none, none] z G := by
  refine z_aload_n O dL_law_1303 rfl rfl ?_
  have h := K v w hS
  refine z_callVi (As := []) (st := []) O (s_T_slowest hfl hT h) wy_X5_slowest wl_RL_176 dL_law_1304 rfl rfl (T_obj hT) ⟨by decide, rfl⟩ ⟨by have := hfr; omega, by have := hlo; omega⟩ (Nat.le_of_ble_eq_true rfl) ⟨hk0, hn0⟩ (fun r0 z20 G20 hq0 => ?_)
  obtain ⟨rfl, rfl, h⟩ := hq0
  refine z_aload_n O dL_law_1307 rfl rfl ?_
  refine z_callVi (As := []) (st := [.int r0]) O (s_M_slowest hfl hM h) wy_X6_slowest wl_RL_179 dL_law_1308 rfl rfl (M_obj hM) ⟨by decide, rfl⟩ ⟨by have := hfr; omega, by have := hlo; omega⟩ (Nat.le_of_ble_eq_true rfl) ⟨hk0, hn0⟩ (fun r1 z21 G21 hq1 => ?_)
  obtain ⟨rfl, u1, a1, b1, h⟩ := hq1
  have c1 := TA.fr hT b1 (by omega)
  have e1 := (b1 (B + 483) (by omega)).trans hO
  obtain ⟨h1, hS⟩ := h
  refine z_icmp_eq (tgt := 1889) O dL_law_1311 (by decide) (fun _ => ?_) (fun q => absurd h1 q)
  exact z_subL (L' := [some (.ref b), some (.ref B), some (.ref (B + 475)), some (.ref (B + 483)), some (.int (Int32.ofNat i)), none, none]) (zLe.sub (And.intro rfl (And.intro rfl (And.intro rfl (And.intro rfl (And.intro rfl True.intro)))))) (hc _ _ _ _ _ hS ⟨c1, a1, e1⟩)
def KL_truth (Sim Sm2 : TT → MT → Prop) : Prop := ∀ (x1 : Int32) (x2 : Int32) (x3 : Int32) (v : TT) (w : MT) (o : Nat → Int64), Sim v w → P_LAW_truth x1 x2 x3 v o (fun k v' o' => P_M_truth x1 x2 x3 w (fun b w' => P_M_thrown w' (fun t => t = k ∧ (k = 0 → o' 0 = Int32.toInt64 b) ∧ Sm2 v' w')))
set_option maxRecDepth 100000 in
theorem lw_truth {p : Program} {l : Launch} {e : Env} {R : Room} {s : State} {m : MethodId} {args : Array Value} {below : List Frame} {meth : Method} {c : Code} {Q : State → Prop} {D : zD} {B : Nat} {sa : Nat → Nat} {k n z : Nat} {G : zG} (hfl : l.stackTraces = false) (O : zO p l s m args c D B sa 7 cL_law RL) {Sim Sm2 : TT → MT → Prop} (K : KL_truth Sim Sm2) {b N i : Nat} {xs : Nat → Int32} {v : TT} {w : MT} {o : Nat → Int64} (hX : va_X b N xs s s.heap) (hb : b < s.heap.size) (hbB : ¬ B ≤ b) (hi1 : vp_in (Int32.ofNat i + 1) N) (hi2 : vp_in (Int32.ofNat i + 2) N) (hi3 : vp_in (Int32.ofNat i + 3) N)
    (hfr : 11 ≤ R.frames) (hlo : 270 ≤ R.locals) (hk0 : k + 0 ≤ R.cells) (hn0 : n + 0 ≤ R.slots) (hk1 : k + 1 ≤ R.cells) (hn1 : n + 6 ≤ R.slots) (hS : Sim v w) (hT : TA B v G) (hM : MA (B + 475) w G) (hO : G (B + 483) = some (zla 1 o))
    (hc : ∀ (v' : TT) (w' : MT) (o' : Nat → Int64) (z' : Nat) (G' : zG), Sm2 v' w' → LI B v' w' o' G' → zT p l e R s m args below meth c Q D B 7 (k + 1) (n + 6) 1889 [] [some (.ref b), some (.ref B), some (.ref (B + 475)), some (.ref (B + 483)), some (.int (Int32.ofNat i)), none, none] z' G') :
    zT p l e R s m args below meth c Q D B 7 k n 1316 [] [some (.ref b), some (.ref B), some (.ref (B + 475)), some (.ref (B + 483)), some (.int (Int32.ofNat i)), none, none] z G := by
  refine z_aload_n O dL_law_1316 rfl rfl ?_
  refine z_aload_n O dL_law_1317 rfl rfl ?_
  refine z_iload O dL_law_1318 rfl ?_
  refine z_iconst (v := 1) O dL_law_1320 (by decide) ?_
  refine z_iadd O dL_law_1321 ?_
  refine z_sld O hX hb hbB hi1 dL_law_1322 ?_
  refine z_aload_n O dL_law_1323 rfl rfl ?_
  refine z_iload O dL_law_1324 rfl ?_
  refine z_iconst (v := 2) O dL_law_1326 (by decide) ?_
  refine z_iadd O dL_law_1327 ?_
  refine z_sld O hX hb hbB hi2 dL_law_1328 ?_
  refine z_aload_n O dL_law_1329 rfl rfl ?_
  refine z_iload O dL_law_1330 rfl ?_
  refine z_iconst (v := 3) O dL_law_1332 (by decide) ?_
  refine z_iadd O dL_law_1333 ?_
  refine z_sld O hX hb hbB hi3 dL_law_1334 ?_
  refine z_aload_n O dL_law_1335 rfl rfl ?_
  have h := K (xs (Int32.toNatClampNeg (Int32.ofNat i + 1))) (xs (Int32.toNatClampNeg (Int32.ofNat i + 2))) (xs (Int32.toNatClampNeg (Int32.ofNat i + 3))) v w o hS
  refine z_callHi (As := [.ref B, .int (xs (Int32.toNatClampNeg (Int32.ofNat i + 1))), .int (xs (Int32.toNatClampNeg (Int32.ofNat i + 2))), .int (xs (Int32.toNatClampNeg (Int32.ofNat i + 3))), .ref (B + 483)]) (st := []) O (s_LAW_truth hfl hT hO (by omega) h) wh_L_truth wl_RL_180 dL_law_1336 rfl rfl ⟨by have := hfr; omega, by have := hlo; omega⟩ (Nat.le_of_ble_eq_true rfl) ⟨hk1, hn1⟩ (fun r z1 G1 hq => ?_)
  obtain ⟨v1, o1, k1, k2, k3, h⟩ := hq
  have m1 : MA (B + 475) w G1 := MA.eq hM (fun q g1 g2 => k3 q (by omega) (by omega))
  refine z_istore (L' := [some (.ref b), some (.ref B), some (.ref (B + 475)), some (.ref (B + 483)), some (.int (Int32.ofNat i)), some (.int r), none]) O dL_law_1339 (by decide) rfl ?_
  refine z_aload_n O dL_law_1341 rfl rfl ?_
  refine z_aload_n O dL_law_1342 rfl rfl ?_
  refine z_iload O dL_law_1343 rfl ?_
  refine z_iconst (v := 1) O dL_law_1345 (by decide) ?_
  refine z_iadd O dL_law_1346 ?_
  refine z_sld O hX hb hbB hi1 dL_law_1347 ?_
  refine z_aload_n O dL_law_1348 rfl rfl ?_
  refine z_iload O dL_law_1349 rfl ?_
  refine z_iconst (v := 2) O dL_law_1351 (by decide) ?_
  refine z_iadd O dL_law_1352 ?_
  refine z_sld O hX hb hbB hi2 dL_law_1353 ?_
  refine z_aload_n O dL_law_1354 rfl rfl ?_
  refine z_iload O dL_law_1355 rfl ?_
  refine z_iconst (v := 3) O dL_law_1357 (by decide) ?_
  refine z_iadd O dL_law_1358 ?_
  refine z_sld O hX hb hbB hi3 dL_law_1359 ?_
  refine z_callVi (As := [.int (xs (Int32.toNatClampNeg (Int32.ofNat i + 1))), .int (xs (Int32.toNatClampNeg (Int32.ofNat i + 2))), .int (xs (Int32.toNatClampNeg (Int32.ofNat i + 3)))]) (st := []) O (s_M_truth hfl m1 h) wy_X6_truth wl_RL_182 dL_law_1360 rfl rfl (M_obj m1) ⟨by decide, rfl⟩ ⟨by have := hfr; omega, by have := hlo; omega⟩ (Nat.le_of_ble_eq_true rfl) ⟨hk1, hn1⟩ (fun r0 z20 G20 hq0 => ?_)
  obtain ⟨rfl, u0, a0, b0, h⟩ := hq0
  have c0 := TA.fr k1 b0 (by omega)
  have e0 := (b0 (B + 483) (by omega)).trans k2
  refine z_istore (L' := [some (.ref b), some (.ref B), some (.ref (B + 475)), some (.ref (B + 483)), some (.int (Int32.ofNat i)), some (.int r), some (.int r0)]) O dL_law_1363 (by decide) rfl ?_
  refine z_aload_n O dL_law_1365 rfl rfl ?_
  refine z_callVi (As := []) (st := []) O (s_M_thrown hfl a0 h) wy_X6_thrown wl_RL_108 dL_law_1366 rfl rfl (M_obj a0) ⟨by decide, rfl⟩ ⟨by have := hfr; omega, by have := hlo; omega⟩ (Nat.le_of_ble_eq_true rfl) ⟨hk1, hn1⟩ (fun r1 z21 G21 hq1 => ?_)
  obtain ⟨rfl, rfl, h⟩ := hq1
  refine z_iload O dL_law_1369 rfl ?_
  obtain ⟨h1, h2, hS⟩ := h
  refine z_icmp_eq (tgt := 1376) O dL_law_1371 (by decide) (fun _ => ?_) (fun q => absurd h1 q)
  refine z_iload O dL_law_1376 rfl ?_
  refine z_if_ne (tgt := 1393) O dL_law_1378 (by decide) (fun cr => ?_) (fun cr => ?_)
  · refine z_goto (tgt := 1889) O dL_law_1393 (by decide) ?_
    exact z_subL (L' := [some (.ref b), some (.ref B), some (.ref (B + 475)), some (.ref (B + 483)), some (.int (Int32.ofNat i)), none, none]) (zLe.sub (And.intro rfl (And.intro rfl (And.intro rfl (And.intro rfl (And.intro rfl True.intro)))))) (hc _ _ _ _ _ hS ⟨c0, a0, e0⟩)
  refine z_aload_n O dL_law_1381 rfl rfl ?_
  refine z_iconst (v := 0) O dL_law_1382 (by decide) ?_
  refine z_lald O dL_law_1383 e0 (vp_i (by decide)) ?_
  refine z_iload O dL_law_1384 rfl ?_
  refine z_i2l O dL_law_1386 ?_
  refine z_lcmp O dL_law_1387 ?_
  refine z_if_eq (tgt := 1393) O dL_law_1388 (by decide) (fun _ => ?_) (fun q => absurd (lw_cmp0 (h2 cr)) q)
  refine z_goto (tgt := 1889) O dL_law_1393 (by decide) ?_
  exact z_subL (L' := [some (.ref b), some (.ref B), some (.ref (B + 475)), some (.ref (B + 483)), some (.int (Int32.ofNat i)), none, none]) (zLe.sub (And.intro rfl (And.intro rfl (And.intro rfl (And.intro rfl (And.intro rfl True.intro)))))) (hc _ _ _ _ _ hS ⟨c0, a0, e0⟩)
def KL_droppedIn (Sim Sm2 : TT → MT → Prop) : Prop := ∀ (v : TT) (w : MT), Sim v w → P_T_droppedIn v (fun r v' => P_M_droppedIn w (fun b w' => r = b ∧ Sm2 v' w'))
set_option maxRecDepth 100000 in
theorem lw_droppedIn {p : Program} {l : Launch} {e : Env} {R : Room} {s : State} {m : MethodId} {args : Array Value} {below : List Frame} {meth : Method} {c : Code} {Q : State → Prop} {D : zD} {B : Nat} {sa : Nat → Nat} {k n z : Nat} {G : zG} (hfl : l.stackTraces = false) (O : zO p l s m args c D B sa 7 cL_law RL) {Sim Sm2 : TT → MT → Prop} (K : KL_droppedIn Sim Sm2) {b N i : Nat} {xs : Nat → Int32} {v : TT} {w : MT} {o : Nat → Int64} (hX : va_X b N xs s s.heap) (hb : b < s.heap.size) (hbB : ¬ B ≤ b) (hi1 : vp_in (Int32.ofNat i + 1) N) (hi2 : vp_in (Int32.ofNat i + 2) N) (hi3 : vp_in (Int32.ofNat i + 3) N)
    (hfr : 11 ≤ R.frames) (hlo : 270 ≤ R.locals) (hk0 : k + 0 ≤ R.cells) (hn0 : n + 0 ≤ R.slots) (hk1 : k + 1 ≤ R.cells) (hn1 : n + 6 ≤ R.slots) (hS : Sim v w) (hT : TA B v G) (hM : MA (B + 475) w G) (hO : G (B + 483) = some (zla 1 o))
    (hc : ∀ (v' : TT) (w' : MT) (o' : Nat → Int64) (z' : Nat) (G' : zG), Sm2 v' w' → LI B v' w' o' G' → zT p l e R s m args below meth c Q D B 7 k n 1889 [] [some (.ref b), some (.ref B), some (.ref (B + 475)), some (.ref (B + 483)), some (.int (Int32.ofNat i)), none, none] z' G') :
    zT p l e R s m args below meth c Q D B 7 k n 1396 [] [some (.ref b), some (.ref B), some (.ref (B + 475)), some (.ref (B + 483)), some (.int (Int32.ofNat i)), none, none] z G := by
  refine z_aload_n O dL_law_1396 rfl rfl ?_
  have h := K v w hS
  refine z_callVi (As := []) (st := []) O (s_T_droppedIn hfl hT h) wy_X5_droppedIn wl_RL_183 dL_law_1397 rfl rfl (T_obj hT) ⟨by decide, rfl⟩ ⟨by have := hfr; omega, by have := hlo; omega⟩ (Nat.le_of_ble_eq_true rfl) ⟨hk0, hn0⟩ (fun r0 z20 G20 hq0 => ?_)
  obtain ⟨rfl, u0, a0, b0, h⟩ := hq0
  have c0 : MA (B + 475) w G20 := MA.fr hM b0 (by omega)
  have e0 := (b0 (B + 483) (by omega)).trans hO
  refine z_aload_n O dL_law_1400 rfl rfl ?_
  refine z_callVi (As := []) (st := [.int r0]) O (s_M_droppedIn hfl c0 h) wy_X6_droppedIn wl_RL_186 dL_law_1401 rfl rfl (M_obj c0) ⟨by decide, rfl⟩ ⟨by have := hfr; omega, by have := hlo; omega⟩ (Nat.le_of_ble_eq_true rfl) ⟨hk0, hn0⟩ (fun r1 z21 G21 hq1 => ?_)
  obtain ⟨rfl, u1, a1, b1, h⟩ := hq1
  have c1 := TA.fr a0 b1 (by omega)
  have e1 := (b1 (B + 483) (by omega)).trans e0
  obtain ⟨h1, hS⟩ := h
  refine z_icmp_eq (tgt := 1889) O dL_law_1404 (by decide) (fun _ => ?_) (fun q => absurd h1 q)
  exact z_subL (L' := [some (.ref b), some (.ref B), some (.ref (B + 475)), some (.ref (B + 483)), some (.int (Int32.ofNat i)), none, none]) (zLe.sub (And.intro rfl (And.intro rfl (And.intro rfl (And.intro rfl (And.intro rfl True.intro)))))) (hc _ _ _ _ _ hS ⟨c1, a1, e1⟩)
def KL_lostIn (Sim Sm2 : TT → MT → Prop) : Prop := ∀ (x1 : Int32) (v : TT) (w : MT) (o : Nat → Int64), Sim v w → P_LAW_lostIn x1 v o (fun k v' o' => P_M_lostIn x1 w (fun b w' => P_M_thrown w' (fun t => t = k ∧ (k = 0 → o' 0 = Int32.toInt64 b) ∧ Sm2 v' w')))
set_option maxRecDepth 100000 in
theorem lw_lostIn {p : Program} {l : Launch} {e : Env} {R : Room} {s : State} {m : MethodId} {args : Array Value} {below : List Frame} {meth : Method} {c : Code} {Q : State → Prop} {D : zD} {B : Nat} {sa : Nat → Nat} {k n z : Nat} {G : zG} (hfl : l.stackTraces = false) (O : zO p l s m args c D B sa 7 cL_law RL) {Sim Sm2 : TT → MT → Prop} (K : KL_lostIn Sim Sm2) {b N i : Nat} {xs : Nat → Int32} {v : TT} {w : MT} {o : Nat → Int64} (hX : va_X b N xs s s.heap) (hb : b < s.heap.size) (hbB : ¬ B ≤ b) (hi1 : vp_in (Int32.ofNat i + 1) N) (hi2 : vp_in (Int32.ofNat i + 2) N) (hi3 : vp_in (Int32.ofNat i + 3) N)
    (hfr : 11 ≤ R.frames) (hlo : 270 ≤ R.locals) (hk0 : k + 0 ≤ R.cells) (hn0 : n + 0 ≤ R.slots) (hk1 : k + 1 ≤ R.cells) (hn1 : n + 6 ≤ R.slots) (hS : Sim v w) (hT : TA B v G) (hM : MA (B + 475) w G) (hO : G (B + 483) = some (zla 1 o))
    (hc : ∀ (v' : TT) (w' : MT) (o' : Nat → Int64) (z' : Nat) (G' : zG), Sm2 v' w' → LI B v' w' o' G' → zT p l e R s m args below meth c Q D B 7 (k + 1) (n + 6) 1889 [] [some (.ref b), some (.ref B), some (.ref (B + 475)), some (.ref (B + 483)), some (.int (Int32.ofNat i)), none, none] z' G') :
    zT p l e R s m args below meth c Q D B 7 k n 1409 [] [some (.ref b), some (.ref B), some (.ref (B + 475)), some (.ref (B + 483)), some (.int (Int32.ofNat i)), none, none] z G := by
  refine z_aload_n O dL_law_1409 rfl rfl ?_
  refine z_aload_n O dL_law_1410 rfl rfl ?_
  refine z_iload O dL_law_1411 rfl ?_
  refine z_iconst (v := 1) O dL_law_1413 (by decide) ?_
  refine z_iadd O dL_law_1414 ?_
  refine z_sld O hX hb hbB hi1 dL_law_1415 ?_
  refine z_aload_n O dL_law_1416 rfl rfl ?_
  have h := K (xs (Int32.toNatClampNeg (Int32.ofNat i + 1))) v w o hS
  refine z_callHi (As := [.ref B, .int (xs (Int32.toNatClampNeg (Int32.ofNat i + 1))), .ref (B + 483)]) (st := []) O (s_LAW_lostIn hfl hT hO (by omega) h) wh_L_lostIn wl_RL_187 dL_law_1417 rfl rfl ⟨by have := hfr; omega, by have := hlo; omega⟩ (Nat.le_of_ble_eq_true rfl) ⟨hk1, hn1⟩ (fun r z1 G1 hq => ?_)
  obtain ⟨v1, o1, k1, k2, k3, h⟩ := hq
  have m1 : MA (B + 475) w G1 := MA.eq hM (fun q g1 g2 => k3 q (by omega) (by omega))
  refine z_istore (L' := [some (.ref b), some (.ref B), some (.ref (B + 475)), some (.ref (B + 483)), some (.int (Int32.ofNat i)), some (.int r), none]) O dL_law_1420 (by decide) rfl ?_
  refine z_aload_n O dL_law_1422 rfl rfl ?_
  refine z_aload_n O dL_law_1423 rfl rfl ?_
  refine z_iload O dL_law_1424 rfl ?_
  refine z_iconst (v := 1) O dL_law_1426 (by decide) ?_
  refine z_iadd O dL_law_1427 ?_
  refine z_sld O hX hb hbB hi1 dL_law_1428 ?_
  refine z_callVi (As := [.int (xs (Int32.toNatClampNeg (Int32.ofNat i + 1)))]) (st := []) O (s_M_lostIn hfl m1 h) wy_X6_lostIn wl_RL_189 dL_law_1429 rfl rfl (M_obj m1) ⟨by decide, rfl⟩ ⟨by have := hfr; omega, by have := hlo; omega⟩ (Nat.le_of_ble_eq_true rfl) ⟨hk1, hn1⟩ (fun r0 z20 G20 hq0 => ?_)
  obtain ⟨rfl, u0, a0, b0, h⟩ := hq0
  have c0 := TA.fr k1 b0 (by omega)
  have e0 := (b0 (B + 483) (by omega)).trans k2
  refine z_istore (L' := [some (.ref b), some (.ref B), some (.ref (B + 475)), some (.ref (B + 483)), some (.int (Int32.ofNat i)), some (.int r), some (.int r0)]) O dL_law_1432 (by decide) rfl ?_
  refine z_aload_n O dL_law_1434 rfl rfl ?_
  refine z_callVi (As := []) (st := []) O (s_M_thrown hfl a0 h) wy_X6_thrown wl_RL_108 dL_law_1435 rfl rfl (M_obj a0) ⟨by decide, rfl⟩ ⟨by have := hfr; omega, by have := hlo; omega⟩ (Nat.le_of_ble_eq_true rfl) ⟨hk1, hn1⟩ (fun r1 z21 G21 hq1 => ?_)
  obtain ⟨rfl, rfl, h⟩ := hq1
  refine z_iload O dL_law_1438 rfl ?_
  obtain ⟨h1, h2, hS⟩ := h
  refine z_icmp_eq (tgt := 1445) O dL_law_1440 (by decide) (fun _ => ?_) (fun q => absurd h1 q)
  refine z_iload O dL_law_1445 rfl ?_
  refine z_if_ne (tgt := 1462) O dL_law_1447 (by decide) (fun cr => ?_) (fun cr => ?_)
  · refine z_goto (tgt := 1889) O dL_law_1462 (by decide) ?_
    exact z_subL (L' := [some (.ref b), some (.ref B), some (.ref (B + 475)), some (.ref (B + 483)), some (.int (Int32.ofNat i)), none, none]) (zLe.sub (And.intro rfl (And.intro rfl (And.intro rfl (And.intro rfl (And.intro rfl True.intro)))))) (hc _ _ _ _ _ hS ⟨c0, a0, e0⟩)
  refine z_aload_n O dL_law_1450 rfl rfl ?_
  refine z_iconst (v := 0) O dL_law_1451 (by decide) ?_
  refine z_lald O dL_law_1452 e0 (vp_i (by decide)) ?_
  refine z_iload O dL_law_1453 rfl ?_
  refine z_i2l O dL_law_1455 ?_
  refine z_lcmp O dL_law_1456 ?_
  refine z_if_eq (tgt := 1462) O dL_law_1457 (by decide) (fun _ => ?_) (fun q => absurd (lw_cmp0 (h2 cr)) q)
  refine z_goto (tgt := 1889) O dL_law_1462 (by decide) ?_
  exact z_subL (L' := [some (.ref b), some (.ref B), some (.ref (B + 475)), some (.ref (B + 483)), some (.int (Int32.ofNat i)), none, none]) (zLe.sub (And.intro rfl (And.intro rfl (And.intro rfl (And.intro rfl (And.intro rfl True.intro)))))) (hc _ _ _ _ _ hS ⟨c0, a0, e0⟩)
def KL_ifFree (Sim Sm2 : TT → MT → Prop) : Prop := ∀ (x1 : Int32) (v : TT) (w : MT) (o : Nat → Int64), Sim v w → P_LAW_ifFree x1 v o (fun k v' o' => P_M_ifFree x1 w (fun b w' => P_M_thrown w' (fun t => t = k ∧ (k = 0 → o' 0 = Int32.toInt64 b) ∧ Sm2 v' w')))
set_option maxRecDepth 100000 in
theorem lw_ifFree {p : Program} {l : Launch} {e : Env} {R : Room} {s : State} {m : MethodId} {args : Array Value} {below : List Frame} {meth : Method} {c : Code} {Q : State → Prop} {D : zD} {B : Nat} {sa : Nat → Nat} {k n z : Nat} {G : zG} (hfl : l.stackTraces = false) (O : zO p l s m args c D B sa 7 cL_law RL) {Sim Sm2 : TT → MT → Prop} (K : KL_ifFree Sim Sm2) {b N i : Nat} {xs : Nat → Int32} {v : TT} {w : MT} {o : Nat → Int64} (hX : va_X b N xs s s.heap) (hb : b < s.heap.size) (hbB : ¬ B ≤ b) (hi1 : vp_in (Int32.ofNat i + 1) N) (hi2 : vp_in (Int32.ofNat i + 2) N) (hi3 : vp_in (Int32.ofNat i + 3) N)
    (hfr : 11 ≤ R.frames) (hlo : 270 ≤ R.locals) (hk0 : k + 0 ≤ R.cells) (hn0 : n + 0 ≤ R.slots) (hk1 : k + 1 ≤ R.cells) (hn1 : n + 6 ≤ R.slots) (hS : Sim v w) (hT : TA B v G) (hM : MA (B + 475) w G) (hO : G (B + 483) = some (zla 1 o))
    (hc : ∀ (v' : TT) (w' : MT) (o' : Nat → Int64) (z' : Nat) (G' : zG), Sm2 v' w' → LI B v' w' o' G' → zT p l e R s m args below meth c Q D B 7 (k + 1) (n + 6) 1889 [] [some (.ref b), some (.ref B), some (.ref (B + 475)), some (.ref (B + 483)), some (.int (Int32.ofNat i)), none, none] z' G') :
    zT p l e R s m args below meth c Q D B 7 k n 1465 [] [some (.ref b), some (.ref B), some (.ref (B + 475)), some (.ref (B + 483)), some (.int (Int32.ofNat i)), none, none] z G := by
  refine z_aload_n O dL_law_1465 rfl rfl ?_
  refine z_aload_n O dL_law_1466 rfl rfl ?_
  refine z_iload O dL_law_1467 rfl ?_
  refine z_iconst (v := 1) O dL_law_1469 (by decide) ?_
  refine z_iadd O dL_law_1470 ?_
  refine z_sld O hX hb hbB hi1 dL_law_1471 ?_
  refine z_aload_n O dL_law_1472 rfl rfl ?_
  have h := K (xs (Int32.toNatClampNeg (Int32.ofNat i + 1))) v w o hS
  refine z_callHi (As := [.ref B, .int (xs (Int32.toNatClampNeg (Int32.ofNat i + 1))), .ref (B + 483)]) (st := []) O (s_LAW_ifFree hfl hT hO (by omega) h) wh_L_ifFree wl_RL_190 dL_law_1473 rfl rfl ⟨by have := hfr; omega, by have := hlo; omega⟩ (Nat.le_of_ble_eq_true rfl) ⟨hk1, hn1⟩ (fun r z1 G1 hq => ?_)
  obtain ⟨v1, o1, k1, k2, k3, h⟩ := hq
  have m1 : MA (B + 475) w G1 := MA.eq hM (fun q g1 g2 => k3 q (by omega) (by omega))
  refine z_istore (L' := [some (.ref b), some (.ref B), some (.ref (B + 475)), some (.ref (B + 483)), some (.int (Int32.ofNat i)), some (.int r), none]) O dL_law_1476 (by decide) rfl ?_
  refine z_aload_n O dL_law_1478 rfl rfl ?_
  refine z_aload_n O dL_law_1479 rfl rfl ?_
  refine z_iload O dL_law_1480 rfl ?_
  refine z_iconst (v := 1) O dL_law_1482 (by decide) ?_
  refine z_iadd O dL_law_1483 ?_
  refine z_sld O hX hb hbB hi1 dL_law_1484 ?_
  refine z_callVi (As := [.int (xs (Int32.toNatClampNeg (Int32.ofNat i + 1)))]) (st := []) O (s_M_ifFree hfl m1 h) wy_X6_ifFree wl_RL_192 dL_law_1485 rfl rfl (M_obj m1) ⟨by decide, rfl⟩ ⟨by have := hfr; omega, by have := hlo; omega⟩ (Nat.le_of_ble_eq_true rfl) ⟨hk1, hn1⟩ (fun r0 z20 G20 hq0 => ?_)
  obtain ⟨rfl, u0, a0, b0, h⟩ := hq0
  have c0 := TA.fr k1 b0 (by omega)
  have e0 := (b0 (B + 483) (by omega)).trans k2
  refine z_istore (L' := [some (.ref b), some (.ref B), some (.ref (B + 475)), some (.ref (B + 483)), some (.int (Int32.ofNat i)), some (.int r), some (.int r0)]) O dL_law_1488 (by decide) rfl ?_
  refine z_aload_n O dL_law_1490 rfl rfl ?_
  refine z_callVi (As := []) (st := []) O (s_M_thrown hfl a0 h) wy_X6_thrown wl_RL_108 dL_law_1491 rfl rfl (M_obj a0) ⟨by decide, rfl⟩ ⟨by have := hfr; omega, by have := hlo; omega⟩ (Nat.le_of_ble_eq_true rfl) ⟨hk1, hn1⟩ (fun r1 z21 G21 hq1 => ?_)
  obtain ⟨rfl, rfl, h⟩ := hq1
  refine z_iload O dL_law_1494 rfl ?_
  obtain ⟨h1, h2, hS⟩ := h
  refine z_icmp_eq (tgt := 1501) O dL_law_1496 (by decide) (fun _ => ?_) (fun q => absurd h1 q)
  refine z_iload O dL_law_1501 rfl ?_
  refine z_if_ne (tgt := 1518) O dL_law_1503 (by decide) (fun cr => ?_) (fun cr => ?_)
  · refine z_goto (tgt := 1889) O dL_law_1518 (by decide) ?_
    exact z_subL (L' := [some (.ref b), some (.ref B), some (.ref (B + 475)), some (.ref (B + 483)), some (.int (Int32.ofNat i)), none, none]) (zLe.sub (And.intro rfl (And.intro rfl (And.intro rfl (And.intro rfl (And.intro rfl True.intro)))))) (hc _ _ _ _ _ hS ⟨c0, a0, e0⟩)
  refine z_aload_n O dL_law_1506 rfl rfl ?_
  refine z_iconst (v := 0) O dL_law_1507 (by decide) ?_
  refine z_lald O dL_law_1508 e0 (vp_i (by decide)) ?_
  refine z_iload O dL_law_1509 rfl ?_
  refine z_i2l O dL_law_1511 ?_
  refine z_lcmp O dL_law_1512 ?_
  refine z_if_eq (tgt := 1518) O dL_law_1513 (by decide) (fun _ => ?_) (fun q => absurd (lw_cmp0 (h2 cr)) q)
  refine z_goto (tgt := 1889) O dL_law_1518 (by decide) ?_
  exact z_subL (L' := [some (.ref b), some (.ref B), some (.ref (B + 475)), some (.ref (B + 483)), some (.int (Int32.ofNat i)), none, none]) (zLe.sub (And.intro rfl (And.intro rfl (And.intro rfl (And.intro rfl (And.intro rfl True.intro)))))) (hc _ _ _ _ _ hS ⟨c0, a0, e0⟩)
def KL_leastRoom (Sim Sm2 : TT → MT → Prop) : Prop := ∀ (x1 : Int32) (v : TT) (w : MT) (o : Nat → Int64), Sim v w → P_LAW_leastRoom x1 v o (fun k v' o' => P_M_leastRoom x1 w (fun b w' => P_M_thrown w' (fun t => t = k ∧ (k = 0 → o' 0 = Int32.toInt64 b) ∧ Sm2 v' w')))
set_option maxRecDepth 100000 in
theorem lw_leastRoom {p : Program} {l : Launch} {e : Env} {R : Room} {s : State} {m : MethodId} {args : Array Value} {below : List Frame} {meth : Method} {c : Code} {Q : State → Prop} {D : zD} {B : Nat} {sa : Nat → Nat} {k n z : Nat} {G : zG} (hfl : l.stackTraces = false) (O : zO p l s m args c D B sa 7 cL_law RL) {Sim Sm2 : TT → MT → Prop} (K : KL_leastRoom Sim Sm2) {b N i : Nat} {xs : Nat → Int32} {v : TT} {w : MT} {o : Nat → Int64} (hX : va_X b N xs s s.heap) (hb : b < s.heap.size) (hbB : ¬ B ≤ b) (hi1 : vp_in (Int32.ofNat i + 1) N) (hi2 : vp_in (Int32.ofNat i + 2) N) (hi3 : vp_in (Int32.ofNat i + 3) N)
    (hfr : 11 ≤ R.frames) (hlo : 270 ≤ R.locals) (hk0 : k + 0 ≤ R.cells) (hn0 : n + 0 ≤ R.slots) (hk1 : k + 1 ≤ R.cells) (hn1 : n + 6 ≤ R.slots) (hS : Sim v w) (hT : TA B v G) (hM : MA (B + 475) w G) (hO : G (B + 483) = some (zla 1 o))
    (hc : ∀ (v' : TT) (w' : MT) (o' : Nat → Int64) (z' : Nat) (G' : zG), Sm2 v' w' → LI B v' w' o' G' → zT p l e R s m args below meth c Q D B 7 (k + 1) (n + 6) 1889 [] [some (.ref b), some (.ref B), some (.ref (B + 475)), some (.ref (B + 483)), some (.int (Int32.ofNat i)), none, none] z' G') :
    zT p l e R s m args below meth c Q D B 7 k n 1521 [] [some (.ref b), some (.ref B), some (.ref (B + 475)), some (.ref (B + 483)), some (.int (Int32.ofNat i)), none, none] z G := by
  refine z_aload_n O dL_law_1521 rfl rfl ?_
  refine z_aload_n O dL_law_1522 rfl rfl ?_
  refine z_iload O dL_law_1523 rfl ?_
  refine z_iconst (v := 1) O dL_law_1525 (by decide) ?_
  refine z_iadd O dL_law_1526 ?_
  refine z_sld O hX hb hbB hi1 dL_law_1527 ?_
  refine z_aload_n O dL_law_1528 rfl rfl ?_
  have h := K (xs (Int32.toNatClampNeg (Int32.ofNat i + 1))) v w o hS
  refine z_callHi (As := [.ref B, .int (xs (Int32.toNatClampNeg (Int32.ofNat i + 1))), .ref (B + 483)]) (st := []) O (s_LAW_leastRoom hfl hT hO (by omega) h) wh_L_leastRoom wl_RL_193 dL_law_1529 rfl rfl ⟨by have := hfr; omega, by have := hlo; omega⟩ (Nat.le_of_ble_eq_true rfl) ⟨hk1, hn1⟩ (fun r z1 G1 hq => ?_)
  obtain ⟨v1, o1, k1, k2, k3, h⟩ := hq
  have m1 : MA (B + 475) w G1 := MA.eq hM (fun q g1 g2 => k3 q (by omega) (by omega))
  refine z_istore (L' := [some (.ref b), some (.ref B), some (.ref (B + 475)), some (.ref (B + 483)), some (.int (Int32.ofNat i)), some (.int r), none]) O dL_law_1532 (by decide) rfl ?_
  refine z_aload_n O dL_law_1534 rfl rfl ?_
  refine z_aload_n O dL_law_1535 rfl rfl ?_
  refine z_iload O dL_law_1536 rfl ?_
  refine z_iconst (v := 1) O dL_law_1538 (by decide) ?_
  refine z_iadd O dL_law_1539 ?_
  refine z_sld O hX hb hbB hi1 dL_law_1540 ?_
  refine z_callVi (As := [.int (xs (Int32.toNatClampNeg (Int32.ofNat i + 1)))]) (st := []) O (s_M_leastRoom hfl m1 h) wy_X6_leastRoom wl_RL_195 dL_law_1541 rfl rfl (M_obj m1) ⟨by decide, rfl⟩ ⟨by have := hfr; omega, by have := hlo; omega⟩ (Nat.le_of_ble_eq_true rfl) ⟨hk1, hn1⟩ (fun r0 z20 G20 hq0 => ?_)
  obtain ⟨rfl, u0, a0, b0, h⟩ := hq0
  have c0 := TA.fr k1 b0 (by omega)
  have e0 := (b0 (B + 483) (by omega)).trans k2
  refine z_istore (L' := [some (.ref b), some (.ref B), some (.ref (B + 475)), some (.ref (B + 483)), some (.int (Int32.ofNat i)), some (.int r), some (.int r0)]) O dL_law_1544 (by decide) rfl ?_
  refine z_aload_n O dL_law_1546 rfl rfl ?_
  refine z_callVi (As := []) (st := []) O (s_M_thrown hfl a0 h) wy_X6_thrown wl_RL_108 dL_law_1547 rfl rfl (M_obj a0) ⟨by decide, rfl⟩ ⟨by have := hfr; omega, by have := hlo; omega⟩ (Nat.le_of_ble_eq_true rfl) ⟨hk1, hn1⟩ (fun r1 z21 G21 hq1 => ?_)
  obtain ⟨rfl, rfl, h⟩ := hq1
  refine z_iload O dL_law_1550 rfl ?_
  obtain ⟨h1, h2, hS⟩ := h
  refine z_icmp_eq (tgt := 1557) O dL_law_1552 (by decide) (fun _ => ?_) (fun q => absurd h1 q)
  refine z_iload O dL_law_1557 rfl ?_
  refine z_if_ne (tgt := 1574) O dL_law_1559 (by decide) (fun cr => ?_) (fun cr => ?_)
  · refine z_goto (tgt := 1889) O dL_law_1574 (by decide) ?_
    exact z_subL (L' := [some (.ref b), some (.ref B), some (.ref (B + 475)), some (.ref (B + 483)), some (.int (Int32.ofNat i)), none, none]) (zLe.sub (And.intro rfl (And.intro rfl (And.intro rfl (And.intro rfl (And.intro rfl True.intro)))))) (hc _ _ _ _ _ hS ⟨c0, a0, e0⟩)
  refine z_aload_n O dL_law_1562 rfl rfl ?_
  refine z_iconst (v := 0) O dL_law_1563 (by decide) ?_
  refine z_lald O dL_law_1564 e0 (vp_i (by decide)) ?_
  refine z_iload O dL_law_1565 rfl ?_
  refine z_i2l O dL_law_1567 ?_
  refine z_lcmp O dL_law_1568 ?_
  refine z_if_eq (tgt := 1574) O dL_law_1569 (by decide) (fun _ => ?_) (fun q => absurd (lw_cmp0 (h2 cr)) q)
  refine z_goto (tgt := 1889) O dL_law_1574 (by decide) ?_
  exact z_subL (L' := [some (.ref b), some (.ref B), some (.ref (B + 475)), some (.ref (B + 483)), some (.int (Int32.ofNat i)), none, none]) (zLe.sub (And.intro rfl (And.intro rfl (And.intro rfl (And.intro rfl (And.intro rfl True.intro)))))) (hc _ _ _ _ _ hS ⟨c0, a0, e0⟩)
def KL_runScript (Sim Sm2 : TT → MT → Prop) : Prop := ∀ (x1 : Int32) (x2 : Int64) (v : TT) (w : MT) (o : Nat → Int64), Sim v w → P_LAW_runScript x1 x2 v o (fun k v' o' => P_M_runScript x1 x2 w (fun b w' => P_M_thrown w' (fun t => t = k ∧ (k = 0 → o' 0 = Int32.toInt64 b) ∧ Sm2 v' w')))
set_option maxRecDepth 100000 in
theorem lw_runScript {p : Program} {l : Launch} {e : Env} {R : Room} {s : State} {m : MethodId} {args : Array Value} {below : List Frame} {meth : Method} {c : Code} {Q : State → Prop} {D : zD} {B : Nat} {sa : Nat → Nat} {k n z : Nat} {G : zG} (hfl : l.stackTraces = false) (O : zO p l s m args c D B sa 7 cL_law RL) {Sim Sm2 : TT → MT → Prop} (K : KL_runScript Sim Sm2) {b N i : Nat} {xs : Nat → Int32} {v : TT} {w : MT} {o : Nat → Int64} (hX : va_X b N xs s s.heap) (hb : b < s.heap.size) (hbB : ¬ B ≤ b) (hi1 : vp_in (Int32.ofNat i + 1) N) (hi2 : vp_in (Int32.ofNat i + 2) N) (hi3 : vp_in (Int32.ofNat i + 3) N)
    (hfr : 11 ≤ R.frames) (hlo : 270 ≤ R.locals) (hk0 : k + 0 ≤ R.cells) (hn0 : n + 0 ≤ R.slots) (hk1 : k + 1 ≤ R.cells) (hn1 : n + 6 ≤ R.slots) (hS : Sim v w) (hT : TA B v G) (hM : MA (B + 475) w G) (hO : G (B + 483) = some (zla 1 o))
    (hc : ∀ (v' : TT) (w' : MT) (o' : Nat → Int64) (z' : Nat) (G' : zG), Sm2 v' w' → LI B v' w' o' G' → zT p l e R s m args below meth c Q D B 7 (k + 1) (n + 6) 1889 [] [some (.ref b), some (.ref B), some (.ref (B + 475)), some (.ref (B + 483)), some (.int (Int32.ofNat i)), none, none] z' G') :
    zT p l e R s m args below meth c Q D B 7 k n 1577 [] [some (.ref b), some (.ref B), some (.ref (B + 475)), some (.ref (B + 483)), some (.int (Int32.ofNat i)), none, none] z G := by
  refine z_aload_n O dL_law_1577 rfl rfl ?_
  refine z_aload_n O dL_law_1578 rfl rfl ?_
  refine z_iload O dL_law_1579 rfl ?_
  refine z_iconst (v := 1) O dL_law_1581 (by decide) ?_
  refine z_iadd O dL_law_1582 ?_
  refine z_sld O hX hb hbB hi1 dL_law_1583 ?_
  refine z_aload_n O dL_law_1584 rfl rfl ?_
  refine z_iload O dL_law_1585 rfl ?_
  refine z_iconst (v := 2) O dL_law_1587 (by decide) ?_
  refine z_iadd O dL_law_1588 ?_
  refine z_sld O hX hb hbB hi2 dL_law_1589 ?_
  refine z_i2l O dL_law_1590 ?_
  refine z_bipush (v := 32) O dL_law_1591 (by decide) ?_
  refine z_lshl O dL_law_1593 ?_
  refine z_aload_n O dL_law_1594 rfl rfl ?_
  refine z_iload O dL_law_1595 rfl ?_
  refine z_iconst (v := 3) O dL_law_1597 (by decide) ?_
  refine z_iadd O dL_law_1598 ?_
  refine z_sld O hX hb hbB hi3 dL_law_1599 ?_
  refine z_i2l O dL_law_1600 ?_
  refine z_ldc2 (v := 4294967295) O wc_RL_196 dL_law_1601 ?_
  refine z_land O dL_law_1604 ?_
  refine z_lor O dL_law_1605 ?_
  refine z_aload_n O dL_law_1606 rfl rfl ?_
  have h := K (xs (Int32.toNatClampNeg (Int32.ofNat i + 1))) (((Int32.toInt64 (xs (Int32.toNatClampNeg (Int32.ofNat i + 2)))) <<< (Int32.toInt64 32 &&& 63)) ||| ((Int32.toInt64 (xs (Int32.toNatClampNeg (Int32.ofNat i + 3)))) &&& 4294967295)) v w o hS
  refine z_callHi (As := [.ref B, .int (xs (Int32.toNatClampNeg (Int32.ofNat i + 1))), .long (((Int32.toInt64 (xs (Int32.toNatClampNeg (Int32.ofNat i + 2)))) <<< (Int32.toInt64 32 &&& 63)) ||| ((Int32.toInt64 (xs (Int32.toNatClampNeg (Int32.ofNat i + 3)))) &&& 4294967295)), .ref (B + 483)]) (st := []) O (s_LAW_runScript hfl hT hO (by omega) h) wh_L_runScript wl_RL_198 dL_law_1607 rfl rfl ⟨by have := hfr; omega, by have := hlo; omega⟩ (Nat.le_of_ble_eq_true rfl) ⟨hk1, hn1⟩ (fun r z1 G1 hq => ?_)
  obtain ⟨v1, o1, k1, k2, k3, h⟩ := hq
  have m1 : MA (B + 475) w G1 := MA.eq hM (fun q g1 g2 => k3 q (by omega) (by omega))
  refine z_istore (L' := [some (.ref b), some (.ref B), some (.ref (B + 475)), some (.ref (B + 483)), some (.int (Int32.ofNat i)), some (.int r), none]) O dL_law_1610 (by decide) rfl ?_
  refine z_aload_n O dL_law_1612 rfl rfl ?_
  refine z_aload_n O dL_law_1613 rfl rfl ?_
  refine z_iload O dL_law_1614 rfl ?_
  refine z_iconst (v := 1) O dL_law_1616 (by decide) ?_
  refine z_iadd O dL_law_1617 ?_
  refine z_sld O hX hb hbB hi1 dL_law_1618 ?_
  refine z_aload_n O dL_law_1619 rfl rfl ?_
  refine z_iload O dL_law_1620 rfl ?_
  refine z_iconst (v := 2) O dL_law_1622 (by decide) ?_
  refine z_iadd O dL_law_1623 ?_
  refine z_sld O hX hb hbB hi2 dL_law_1624 ?_
  refine z_i2l O dL_law_1625 ?_
  refine z_bipush (v := 32) O dL_law_1626 (by decide) ?_
  refine z_lshl O dL_law_1628 ?_
  refine z_aload_n O dL_law_1629 rfl rfl ?_
  refine z_iload O dL_law_1630 rfl ?_
  refine z_iconst (v := 3) O dL_law_1632 (by decide) ?_
  refine z_iadd O dL_law_1633 ?_
  refine z_sld O hX hb hbB hi3 dL_law_1634 ?_
  refine z_i2l O dL_law_1635 ?_
  refine z_ldc2 (v := 4294967295) O wc_RL_196 dL_law_1636 ?_
  refine z_land O dL_law_1639 ?_
  refine z_lor O dL_law_1640 ?_
  refine z_callVi (As := [.int (xs (Int32.toNatClampNeg (Int32.ofNat i + 1))), .long (((Int32.toInt64 (xs (Int32.toNatClampNeg (Int32.ofNat i + 2)))) <<< (Int32.toInt64 32 &&& 63)) ||| ((Int32.toInt64 (xs (Int32.toNatClampNeg (Int32.ofNat i + 3)))) &&& 4294967295))]) (st := []) O (s_M_runScript hfl m1 h) wy_X6_runScript wl_RL_201 dL_law_1641 rfl rfl (M_obj m1) ⟨by decide, rfl⟩ ⟨by have := hfr; omega, by have := hlo; omega⟩ (Nat.le_of_ble_eq_true rfl) ⟨hk1, hn1⟩ (fun r0 z20 G20 hq0 => ?_)
  obtain ⟨rfl, u0, a0, b0, h⟩ := hq0
  have c0 := TA.fr k1 b0 (by omega)
  have e0 := (b0 (B + 483) (by omega)).trans k2
  refine z_istore (L' := [some (.ref b), some (.ref B), some (.ref (B + 475)), some (.ref (B + 483)), some (.int (Int32.ofNat i)), some (.int r), some (.int r0)]) O dL_law_1644 (by decide) rfl ?_
  refine z_aload_n O dL_law_1646 rfl rfl ?_
  refine z_callVi (As := []) (st := []) O (s_M_thrown hfl a0 h) wy_X6_thrown wl_RL_108 dL_law_1647 rfl rfl (M_obj a0) ⟨by decide, rfl⟩ ⟨by have := hfr; omega, by have := hlo; omega⟩ (Nat.le_of_ble_eq_true rfl) ⟨hk1, hn1⟩ (fun r1 z21 G21 hq1 => ?_)
  obtain ⟨rfl, rfl, h⟩ := hq1
  refine z_iload O dL_law_1650 rfl ?_
  obtain ⟨h1, h2, hS⟩ := h
  refine z_icmp_eq (tgt := 1657) O dL_law_1652 (by decide) (fun _ => ?_) (fun q => absurd h1 q)
  refine z_iload O dL_law_1657 rfl ?_
  refine z_if_ne (tgt := 1674) O dL_law_1659 (by decide) (fun cr => ?_) (fun cr => ?_)
  · refine z_goto (tgt := 1889) O dL_law_1674 (by decide) ?_
    exact z_subL (L' := [some (.ref b), some (.ref B), some (.ref (B + 475)), some (.ref (B + 483)), some (.int (Int32.ofNat i)), none, none]) (zLe.sub (And.intro rfl (And.intro rfl (And.intro rfl (And.intro rfl (And.intro rfl True.intro)))))) (hc _ _ _ _ _ hS ⟨c0, a0, e0⟩)
  refine z_aload_n O dL_law_1662 rfl rfl ?_
  refine z_iconst (v := 0) O dL_law_1663 (by decide) ?_
  refine z_lald O dL_law_1664 e0 (vp_i (by decide)) ?_
  refine z_iload O dL_law_1665 rfl ?_
  refine z_i2l O dL_law_1667 ?_
  refine z_lcmp O dL_law_1668 ?_
  refine z_if_eq (tgt := 1674) O dL_law_1669 (by decide) (fun _ => ?_) (fun q => absurd (lw_cmp0 (h2 cr)) q)
  refine z_goto (tgt := 1889) O dL_law_1674 (by decide) ?_
  exact z_subL (L' := [some (.ref b), some (.ref B), some (.ref (B + 475)), some (.ref (B + 483)), some (.int (Int32.ofNat i)), none, none]) (zLe.sub (And.intro rfl (And.intro rfl (And.intro rfl (And.intro rfl (And.intro rfl True.intro)))))) (hc _ _ _ _ _ hS ⟨c0, a0, e0⟩)
def KL_simulate (Sim Sm2 : TT → MT → Prop) : Prop := ∀ (x1 : Int64) (x2 : Int32) (v : TT) (w : MT) (o : Nat → Int64), Sim v w → P_LAW_simulate x1 x2 v o (fun k v' o' => P_M_simulate x1 x2 w (fun b w' => P_M_thrown w' (fun t => t = k ∧ (k = 0 → o' 0 = Int32.toInt64 b) ∧ Sm2 v' w')))
set_option maxRecDepth 100000 in
theorem lw_simulate {p : Program} {l : Launch} {e : Env} {R : Room} {s : State} {m : MethodId} {args : Array Value} {below : List Frame} {meth : Method} {c : Code} {Q : State → Prop} {D : zD} {B : Nat} {sa : Nat → Nat} {k n z : Nat} {G : zG} (hfl : l.stackTraces = false) (O : zO p l s m args c D B sa 7 cL_law RL) {Sim Sm2 : TT → MT → Prop} (K : KL_simulate Sim Sm2) {b N i : Nat} {xs : Nat → Int32} {v : TT} {w : MT} {o : Nat → Int64} (hX : va_X b N xs s s.heap) (hb : b < s.heap.size) (hbB : ¬ B ≤ b) (hi1 : vp_in (Int32.ofNat i + 1) N) (hi2 : vp_in (Int32.ofNat i + 2) N) (hi3 : vp_in (Int32.ofNat i + 3) N)
    (hfr : 11 ≤ R.frames) (hlo : 270 ≤ R.locals) (hk0 : k + 0 ≤ R.cells) (hn0 : n + 0 ≤ R.slots) (hk1 : k + 1 ≤ R.cells) (hn1 : n + 6 ≤ R.slots) (hS : Sim v w) (hT : TA B v G) (hM : MA (B + 475) w G) (hO : G (B + 483) = some (zla 1 o))
    (hc : ∀ (v' : TT) (w' : MT) (o' : Nat → Int64) (z' : Nat) (G' : zG), Sm2 v' w' → LI B v' w' o' G' → zT p l e R s m args below meth c Q D B 7 (k + 1) (n + 6) 1889 [] [some (.ref b), some (.ref B), some (.ref (B + 475)), some (.ref (B + 483)), some (.int (Int32.ofNat i)), none, none] z' G') :
    zT p l e R s m args below meth c Q D B 7 k n 1677 [] [some (.ref b), some (.ref B), some (.ref (B + 475)), some (.ref (B + 483)), some (.int (Int32.ofNat i)), none, none] z G := by
  refine z_aload_n O dL_law_1677 rfl rfl ?_
  refine z_aload_n O dL_law_1678 rfl rfl ?_
  refine z_iload O dL_law_1679 rfl ?_
  refine z_iconst (v := 1) O dL_law_1681 (by decide) ?_
  refine z_iadd O dL_law_1682 ?_
  refine z_sld O hX hb hbB hi1 dL_law_1683 ?_
  refine z_i2l O dL_law_1684 ?_
  refine z_bipush (v := 32) O dL_law_1685 (by decide) ?_
  refine z_lshl O dL_law_1687 ?_
  refine z_aload_n O dL_law_1688 rfl rfl ?_
  refine z_iload O dL_law_1689 rfl ?_
  refine z_iconst (v := 2) O dL_law_1691 (by decide) ?_
  refine z_iadd O dL_law_1692 ?_
  refine z_sld O hX hb hbB hi2 dL_law_1693 ?_
  refine z_i2l O dL_law_1694 ?_
  refine z_ldc2 (v := 4294967295) O wc_RL_196 dL_law_1695 ?_
  refine z_land O dL_law_1698 ?_
  refine z_lor O dL_law_1699 ?_
  refine z_aload_n O dL_law_1700 rfl rfl ?_
  refine z_iload O dL_law_1701 rfl ?_
  refine z_iconst (v := 3) O dL_law_1703 (by decide) ?_
  refine z_iadd O dL_law_1704 ?_
  refine z_sld O hX hb hbB hi3 dL_law_1705 ?_
  refine z_aload_n O dL_law_1706 rfl rfl ?_
  have h := K (((Int32.toInt64 (xs (Int32.toNatClampNeg (Int32.ofNat i + 1)))) <<< (Int32.toInt64 32 &&& 63)) ||| ((Int32.toInt64 (xs (Int32.toNatClampNeg (Int32.ofNat i + 2)))) &&& 4294967295)) (xs (Int32.toNatClampNeg (Int32.ofNat i + 3))) v w o hS
  refine z_callHi (As := [.ref B, .long (((Int32.toInt64 (xs (Int32.toNatClampNeg (Int32.ofNat i + 1)))) <<< (Int32.toInt64 32 &&& 63)) ||| ((Int32.toInt64 (xs (Int32.toNatClampNeg (Int32.ofNat i + 2)))) &&& 4294967295)), .int (xs (Int32.toNatClampNeg (Int32.ofNat i + 3))), .ref (B + 483)]) (st := []) O (s_LAW_simulate hfl hT hO (by omega) h) wh_L_simulate wl_RL_202 dL_law_1707 rfl rfl ⟨by have := hfr; omega, by have := hlo; omega⟩ (Nat.le_of_ble_eq_true rfl) ⟨hk1, hn1⟩ (fun r z1 G1 hq => ?_)
  obtain ⟨v1, o1, k1, k2, k3, h⟩ := hq
  have m1 : MA (B + 475) w G1 := MA.eq hM (fun q g1 g2 => k3 q (by omega) (by omega))
  refine z_istore (L' := [some (.ref b), some (.ref B), some (.ref (B + 475)), some (.ref (B + 483)), some (.int (Int32.ofNat i)), some (.int r), none]) O dL_law_1710 (by decide) rfl ?_
  refine z_aload_n O dL_law_1712 rfl rfl ?_
  refine z_aload_n O dL_law_1713 rfl rfl ?_
  refine z_iload O dL_law_1714 rfl ?_
  refine z_iconst (v := 1) O dL_law_1716 (by decide) ?_
  refine z_iadd O dL_law_1717 ?_
  refine z_sld O hX hb hbB hi1 dL_law_1718 ?_
  refine z_i2l O dL_law_1719 ?_
  refine z_bipush (v := 32) O dL_law_1720 (by decide) ?_
  refine z_lshl O dL_law_1722 ?_
  refine z_aload_n O dL_law_1723 rfl rfl ?_
  refine z_iload O dL_law_1724 rfl ?_
  refine z_iconst (v := 2) O dL_law_1726 (by decide) ?_
  refine z_iadd O dL_law_1727 ?_
  refine z_sld O hX hb hbB hi2 dL_law_1728 ?_
  refine z_i2l O dL_law_1729 ?_
  refine z_ldc2 (v := 4294967295) O wc_RL_196 dL_law_1730 ?_
  refine z_land O dL_law_1733 ?_
  refine z_lor O dL_law_1734 ?_
  refine z_aload_n O dL_law_1735 rfl rfl ?_
  refine z_iload O dL_law_1736 rfl ?_
  refine z_iconst (v := 3) O dL_law_1738 (by decide) ?_
  refine z_iadd O dL_law_1739 ?_
  refine z_sld O hX hb hbB hi3 dL_law_1740 ?_
  refine z_callVi (As := [.long (((Int32.toInt64 (xs (Int32.toNatClampNeg (Int32.ofNat i + 1)))) <<< (Int32.toInt64 32 &&& 63)) ||| ((Int32.toInt64 (xs (Int32.toNatClampNeg (Int32.ofNat i + 2)))) &&& 4294967295)), .int (xs (Int32.toNatClampNeg (Int32.ofNat i + 3)))]) (st := []) O (s_M_simulate hfl m1 h) wy_X6_simulate wl_RL_205 dL_law_1741 rfl rfl (M_obj m1) ⟨by decide, rfl⟩ ⟨by have := hfr; omega, by have := hlo; omega⟩ (Nat.le_of_ble_eq_true rfl) ⟨hk1, hn1⟩ (fun r0 z20 G20 hq0 => ?_)
  obtain ⟨rfl, u0, a0, b0, h⟩ := hq0
  have c0 := TA.fr k1 b0 (by omega)
  have e0 := (b0 (B + 483) (by omega)).trans k2
  refine z_istore (L' := [some (.ref b), some (.ref B), some (.ref (B + 475)), some (.ref (B + 483)), some (.int (Int32.ofNat i)), some (.int r), some (.int r0)]) O dL_law_1744 (by decide) rfl ?_
  refine z_aload_n O dL_law_1746 rfl rfl ?_
  refine z_callVi (As := []) (st := []) O (s_M_thrown hfl a0 h) wy_X6_thrown wl_RL_108 dL_law_1747 rfl rfl (M_obj a0) ⟨by decide, rfl⟩ ⟨by have := hfr; omega, by have := hlo; omega⟩ (Nat.le_of_ble_eq_true rfl) ⟨hk1, hn1⟩ (fun r1 z21 G21 hq1 => ?_)
  obtain ⟨rfl, rfl, h⟩ := hq1
  refine z_iload O dL_law_1750 rfl ?_
  obtain ⟨h1, h2, hS⟩ := h
  refine z_icmp_eq (tgt := 1757) O dL_law_1752 (by decide) (fun _ => ?_) (fun q => absurd h1 q)
  refine z_iload O dL_law_1757 rfl ?_
  refine z_if_ne (tgt := 1774) O dL_law_1759 (by decide) (fun cr => ?_) (fun cr => ?_)
  · refine z_goto (tgt := 1889) O dL_law_1774 (by decide) ?_
    exact z_subL (L' := [some (.ref b), some (.ref B), some (.ref (B + 475)), some (.ref (B + 483)), some (.int (Int32.ofNat i)), none, none]) (zLe.sub (And.intro rfl (And.intro rfl (And.intro rfl (And.intro rfl (And.intro rfl True.intro)))))) (hc _ _ _ _ _ hS ⟨c0, a0, e0⟩)
  refine z_aload_n O dL_law_1762 rfl rfl ?_
  refine z_iconst (v := 0) O dL_law_1763 (by decide) ?_
  refine z_lald O dL_law_1764 e0 (vp_i (by decide)) ?_
  refine z_iload O dL_law_1765 rfl ?_
  refine z_i2l O dL_law_1767 ?_
  refine z_lcmp O dL_law_1768 ?_
  refine z_if_eq (tgt := 1774) O dL_law_1769 (by decide) (fun _ => ?_) (fun q => absurd (lw_cmp0 (h2 cr)) q)
  refine z_goto (tgt := 1889) O dL_law_1774 (by decide) ?_
  exact z_subL (L' := [some (.ref b), some (.ref B), some (.ref (B + 475)), some (.ref (B + 483)), some (.int (Int32.ofNat i)), none, none]) (zLe.sub (And.intro rfl (And.intro rfl (And.intro rfl (And.intro rfl (And.intro rfl True.intro)))))) (hc _ _ _ _ _ hS ⟨c0, a0, e0⟩)
def KL_save (Sim Sm2 : TT → MT → Prop) : Prop := ∀ (x1 : Int32) (v : TT) (w : MT) (o : Nat → Int64), Sim v w → P_LAW_save x1 v o (fun k v' o' => P_M_save x1 w (fun b w' => P_M_thrown w' (fun t => t = k ∧ (k = 0 → o' 0 = Int32.toInt64 b) ∧ Sm2 v' w')))
set_option maxRecDepth 100000 in
theorem lw_save {p : Program} {l : Launch} {e : Env} {R : Room} {s : State} {m : MethodId} {args : Array Value} {below : List Frame} {meth : Method} {c : Code} {Q : State → Prop} {D : zD} {B : Nat} {sa : Nat → Nat} {k n z : Nat} {G : zG} (hfl : l.stackTraces = false) (O : zO p l s m args c D B sa 7 cL_law RL) {Sim Sm2 : TT → MT → Prop} (K : KL_save Sim Sm2) {b N i : Nat} {xs : Nat → Int32} {v : TT} {w : MT} {o : Nat → Int64} (hX : va_X b N xs s s.heap) (hb : b < s.heap.size) (hbB : ¬ B ≤ b) (hi1 : vp_in (Int32.ofNat i + 1) N) (hi2 : vp_in (Int32.ofNat i + 2) N) (hi3 : vp_in (Int32.ofNat i + 3) N)
    (hfr : 11 ≤ R.frames) (hlo : 270 ≤ R.locals) (hk0 : k + 0 ≤ R.cells) (hn0 : n + 0 ≤ R.slots) (hk1 : k + 1 ≤ R.cells) (hn1 : n + 6 ≤ R.slots) (hS : Sim v w) (hT : TA B v G) (hM : MA (B + 475) w G) (hO : G (B + 483) = some (zla 1 o))
    (hc : ∀ (v' : TT) (w' : MT) (o' : Nat → Int64) (z' : Nat) (G' : zG), Sm2 v' w' → LI B v' w' o' G' → zT p l e R s m args below meth c Q D B 7 (k + 1) (n + 6) 1889 [] [some (.ref b), some (.ref B), some (.ref (B + 475)), some (.ref (B + 483)), some (.int (Int32.ofNat i)), none, none] z' G') :
    zT p l e R s m args below meth c Q D B 7 k n 1777 [] [some (.ref b), some (.ref B), some (.ref (B + 475)), some (.ref (B + 483)), some (.int (Int32.ofNat i)), none, none] z G := by
  refine z_aload_n O dL_law_1777 rfl rfl ?_
  refine z_aload_n O dL_law_1778 rfl rfl ?_
  refine z_iload O dL_law_1779 rfl ?_
  refine z_iconst (v := 1) O dL_law_1781 (by decide) ?_
  refine z_iadd O dL_law_1782 ?_
  refine z_sld O hX hb hbB hi1 dL_law_1783 ?_
  refine z_aload_n O dL_law_1784 rfl rfl ?_
  have h := K (xs (Int32.toNatClampNeg (Int32.ofNat i + 1))) v w o hS
  refine z_callHi (As := [.ref B, .int (xs (Int32.toNatClampNeg (Int32.ofNat i + 1))), .ref (B + 483)]) (st := []) O (s_LAW_save hfl hT hO (by omega) h) wh_L_save wl_RL_206 dL_law_1785 rfl rfl ⟨by have := hfr; omega, by have := hlo; omega⟩ (Nat.le_of_ble_eq_true rfl) ⟨hk1, hn1⟩ (fun r z1 G1 hq => ?_)
  obtain ⟨v1, o1, k1, k2, k3, h⟩ := hq
  have m1 : MA (B + 475) w G1 := MA.eq hM (fun q g1 g2 => k3 q (by omega) (by omega))
  refine z_istore (L' := [some (.ref b), some (.ref B), some (.ref (B + 475)), some (.ref (B + 483)), some (.int (Int32.ofNat i)), some (.int r), none]) O dL_law_1788 (by decide) rfl ?_
  refine z_aload_n O dL_law_1790 rfl rfl ?_
  refine z_aload_n O dL_law_1791 rfl rfl ?_
  refine z_iload O dL_law_1792 rfl ?_
  refine z_iconst (v := 1) O dL_law_1794 (by decide) ?_
  refine z_iadd O dL_law_1795 ?_
  refine z_sld O hX hb hbB hi1 dL_law_1796 ?_
  refine z_callVi (As := [.int (xs (Int32.toNatClampNeg (Int32.ofNat i + 1)))]) (st := []) O (s_M_save hfl m1 h) wy_X6_save wl_RL_208 dL_law_1797 rfl rfl (M_obj m1) ⟨by decide, rfl⟩ ⟨by have := hfr; omega, by have := hlo; omega⟩ (Nat.le_of_ble_eq_true rfl) ⟨hk1, hn1⟩ (fun r0 z20 G20 hq0 => ?_)
  obtain ⟨rfl, u0, a0, b0, h⟩ := hq0
  have c0 := TA.fr k1 b0 (by omega)
  have e0 := (b0 (B + 483) (by omega)).trans k2
  refine z_istore (L' := [some (.ref b), some (.ref B), some (.ref (B + 475)), some (.ref (B + 483)), some (.int (Int32.ofNat i)), some (.int r), some (.int r0)]) O dL_law_1800 (by decide) rfl ?_
  refine z_aload_n O dL_law_1802 rfl rfl ?_
  refine z_callVi (As := []) (st := []) O (s_M_thrown hfl a0 h) wy_X6_thrown wl_RL_108 dL_law_1803 rfl rfl (M_obj a0) ⟨by decide, rfl⟩ ⟨by have := hfr; omega, by have := hlo; omega⟩ (Nat.le_of_ble_eq_true rfl) ⟨hk1, hn1⟩ (fun r1 z21 G21 hq1 => ?_)
  obtain ⟨rfl, rfl, h⟩ := hq1
  refine z_iload O dL_law_1806 rfl ?_
  obtain ⟨h1, h2, hS⟩ := h
  refine z_icmp_eq (tgt := 1813) O dL_law_1808 (by decide) (fun _ => ?_) (fun q => absurd h1 q)
  refine z_iload O dL_law_1813 rfl ?_
  refine z_if_ne (tgt := 1830) O dL_law_1815 (by decide) (fun cr => ?_) (fun cr => ?_)
  · refine z_goto (tgt := 1889) O dL_law_1830 (by decide) ?_
    exact z_subL (L' := [some (.ref b), some (.ref B), some (.ref (B + 475)), some (.ref (B + 483)), some (.int (Int32.ofNat i)), none, none]) (zLe.sub (And.intro rfl (And.intro rfl (And.intro rfl (And.intro rfl (And.intro rfl True.intro)))))) (hc _ _ _ _ _ hS ⟨c0, a0, e0⟩)
  refine z_aload_n O dL_law_1818 rfl rfl ?_
  refine z_iconst (v := 0) O dL_law_1819 (by decide) ?_
  refine z_lald O dL_law_1820 e0 (vp_i (by decide)) ?_
  refine z_iload O dL_law_1821 rfl ?_
  refine z_i2l O dL_law_1823 ?_
  refine z_lcmp O dL_law_1824 ?_
  refine z_if_eq (tgt := 1830) O dL_law_1825 (by decide) (fun _ => ?_) (fun q => absurd (lw_cmp0 (h2 cr)) q)
  refine z_goto (tgt := 1889) O dL_law_1830 (by decide) ?_
  exact z_subL (L' := [some (.ref b), some (.ref B), some (.ref (B + 475)), some (.ref (B + 483)), some (.int (Int32.ofNat i)), none, none]) (zLe.sub (And.intro rfl (And.intro rfl (And.intro rfl (And.intro rfl (And.intro rfl True.intro)))))) (hc _ _ _ _ _ hS ⟨c0, a0, e0⟩)
def KL_restore (Sim Sm2 : TT → MT → Prop) : Prop := ∀ (x1 : Int32) (v : TT) (w : MT) (o : Nat → Int64), Sim v w → P_LAW_restore x1 v o (fun k v' o' => P_M_restore x1 w (fun b w' => P_M_thrown w' (fun t => t = k ∧ (k = 0 → o' 0 = Int32.toInt64 b) ∧ Sm2 v' w')))
set_option maxRecDepth 100000 in
theorem lw_restore {p : Program} {l : Launch} {e : Env} {R : Room} {s : State} {m : MethodId} {args : Array Value} {below : List Frame} {meth : Method} {c : Code} {Q : State → Prop} {D : zD} {B : Nat} {sa : Nat → Nat} {k n z : Nat} {G : zG} (hfl : l.stackTraces = false) (O : zO p l s m args c D B sa 7 cL_law RL) {Sim Sm2 : TT → MT → Prop} (K : KL_restore Sim Sm2) {b N i : Nat} {xs : Nat → Int32} {v : TT} {w : MT} {o : Nat → Int64} (hX : va_X b N xs s s.heap) (hb : b < s.heap.size) (hbB : ¬ B ≤ b) (hi1 : vp_in (Int32.ofNat i + 1) N) (hi2 : vp_in (Int32.ofNat i + 2) N) (hi3 : vp_in (Int32.ofNat i + 3) N)
    (hfr : 11 ≤ R.frames) (hlo : 270 ≤ R.locals) (hk0 : k + 0 ≤ R.cells) (hn0 : n + 0 ≤ R.slots) (hk1 : k + 1 ≤ R.cells) (hn1 : n + 6 ≤ R.slots) (hS : Sim v w) (hT : TA B v G) (hM : MA (B + 475) w G) (hO : G (B + 483) = some (zla 1 o))
    (hc : ∀ (v' : TT) (w' : MT) (o' : Nat → Int64) (z' : Nat) (G' : zG), Sm2 v' w' → LI B v' w' o' G' → zT p l e R s m args below meth c Q D B 7 (k + 1) (n + 6) 1889 [] [some (.ref b), some (.ref B), some (.ref (B + 475)), some (.ref (B + 483)), some (.int (Int32.ofNat i)), none, none] z' G') :
    zT p l e R s m args below meth c Q D B 7 k n 1833 [] [some (.ref b), some (.ref B), some (.ref (B + 475)), some (.ref (B + 483)), some (.int (Int32.ofNat i)), none, none] z G := by
  refine z_aload_n O dL_law_1833 rfl rfl ?_
  refine z_aload_n O dL_law_1834 rfl rfl ?_
  refine z_iload O dL_law_1835 rfl ?_
  refine z_iconst (v := 1) O dL_law_1837 (by decide) ?_
  refine z_iadd O dL_law_1838 ?_
  refine z_sld O hX hb hbB hi1 dL_law_1839 ?_
  refine z_aload_n O dL_law_1840 rfl rfl ?_
  have h := K (xs (Int32.toNatClampNeg (Int32.ofNat i + 1))) v w o hS
  refine z_callHi (As := [.ref B, .int (xs (Int32.toNatClampNeg (Int32.ofNat i + 1))), .ref (B + 483)]) (st := []) O (s_LAW_restore hfl hT hO (by omega) h) wh_L_restore wl_RL_209 dL_law_1841 rfl rfl ⟨by have := hfr; omega, by have := hlo; omega⟩ (Nat.le_of_ble_eq_true rfl) ⟨hk1, hn1⟩ (fun r z1 G1 hq => ?_)
  obtain ⟨v1, o1, k1, k2, k3, h⟩ := hq
  have m1 : MA (B + 475) w G1 := MA.eq hM (fun q g1 g2 => k3 q (by omega) (by omega))
  refine z_istore (L' := [some (.ref b), some (.ref B), some (.ref (B + 475)), some (.ref (B + 483)), some (.int (Int32.ofNat i)), some (.int r), none]) O dL_law_1844 (by decide) rfl ?_
  refine z_aload_n O dL_law_1846 rfl rfl ?_
  refine z_aload_n O dL_law_1847 rfl rfl ?_
  refine z_iload O dL_law_1848 rfl ?_
  refine z_iconst (v := 1) O dL_law_1850 (by decide) ?_
  refine z_iadd O dL_law_1851 ?_
  refine z_sld O hX hb hbB hi1 dL_law_1852 ?_
  refine z_callVi (As := [.int (xs (Int32.toNatClampNeg (Int32.ofNat i + 1)))]) (st := []) O (s_M_restore hfl m1 h) wy_X6_restore wl_RL_211 dL_law_1853 rfl rfl (M_obj m1) ⟨by decide, rfl⟩ ⟨by have := hfr; omega, by have := hlo; omega⟩ (Nat.le_of_ble_eq_true rfl) ⟨hk1, hn1⟩ (fun r0 z20 G20 hq0 => ?_)
  obtain ⟨rfl, u0, a0, b0, h⟩ := hq0
  have c0 := TA.fr k1 b0 (by omega)
  have e0 := (b0 (B + 483) (by omega)).trans k2
  refine z_istore (L' := [some (.ref b), some (.ref B), some (.ref (B + 475)), some (.ref (B + 483)), some (.int (Int32.ofNat i)), some (.int r), some (.int r0)]) O dL_law_1856 (by decide) rfl ?_
  refine z_aload_n O dL_law_1858 rfl rfl ?_
  refine z_callVi (As := []) (st := []) O (s_M_thrown hfl a0 h) wy_X6_thrown wl_RL_108 dL_law_1859 rfl rfl (M_obj a0) ⟨by decide, rfl⟩ ⟨by have := hfr; omega, by have := hlo; omega⟩ (Nat.le_of_ble_eq_true rfl) ⟨hk1, hn1⟩ (fun r1 z21 G21 hq1 => ?_)
  obtain ⟨rfl, rfl, h⟩ := hq1
  refine z_iload O dL_law_1862 rfl ?_
  obtain ⟨h1, h2, hS⟩ := h
  refine z_icmp_eq (tgt := 1869) O dL_law_1864 (by decide) (fun _ => ?_) (fun q => absurd h1 q)
  refine z_iload O dL_law_1869 rfl ?_
  refine z_if_ne (tgt := 1886) O dL_law_1871 (by decide) (fun cr => ?_) (fun cr => ?_)
  · refine z_goto (tgt := 1889) O dL_law_1886 (by decide) ?_
    exact z_subL (L' := [some (.ref b), some (.ref B), some (.ref (B + 475)), some (.ref (B + 483)), some (.int (Int32.ofNat i)), none, none]) (zLe.sub (And.intro rfl (And.intro rfl (And.intro rfl (And.intro rfl (And.intro rfl True.intro)))))) (hc _ _ _ _ _ hS ⟨c0, a0, e0⟩)
  refine z_aload_n O dL_law_1874 rfl rfl ?_
  refine z_iconst (v := 0) O dL_law_1875 (by decide) ?_
  refine z_lald O dL_law_1876 e0 (vp_i (by decide)) ?_
  refine z_iload O dL_law_1877 rfl ?_
  refine z_i2l O dL_law_1879 ?_
  refine z_lcmp O dL_law_1880 ?_
  refine z_if_eq (tgt := 1886) O dL_law_1881 (by decide) (fun _ => ?_) (fun q => absurd (lw_cmp0 (h2 cr)) q)
  refine z_goto (tgt := 1889) O dL_law_1886 (by decide) ?_
  exact z_subL (L' := [some (.ref b), some (.ref B), some (.ref (B + 475)), some (.ref (B + 483)), some (.int (Int32.ofNat i)), none, none]) (zLe.sub (And.intro rfl (And.intro rfl (And.intro rfl (And.intro rfl (And.intro rfl True.intro)))))) (hc _ _ _ _ _ hS ⟨c0, a0, e0⟩)
