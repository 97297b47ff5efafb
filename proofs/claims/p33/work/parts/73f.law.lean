theorem dL_told_0 : decode cL_told 0 = .ok (.aload_n 0, 1) := by decide +kernel
theorem dL_told_1 : decode cL_told 1 = .ok (.invokevirtual 198, 3) := by decide +kernel
theorem dL_told_4 : decode cL_told 4 = .ok (.ifCond .lt 18, 3) := by decide +kernel
theorem dL_told_7 : decode cL_told 7 = .ok (.aload_n 0, 1) := by decide +kernel
theorem dL_told_8 : decode cL_told 8 = .ok (.bipush 71, 2) := by decide +kernel
theorem dL_told_10 : decode cL_told 10 = .ok (.invokestatic 174, 3) := by decide +kernel
theorem dL_told_13 : decode cL_told 13 = .ok (.lconst 0, 1) := by decide +kernel
theorem dL_told_14 : decode cL_told 14 = .ok (.lcmp, 1) := by decide +kernel
theorem dL_told_15 : decode cL_told 15 = .ok (.ifCond .le 7, 3) := by decide +kernel
theorem dL_told_18 : decode cL_told 18 = .ok (.iconst 1, 1) := by decide +kernel
theorem dL_told_19 : decode cL_told 19 = .ok (.goto 4, 3) := by decide +kernel
theorem dL_told_22 : decode cL_told 22 = .ok (.iconst 0, 1) := by decide +kernel
theorem dL_told_23 : decode cL_told 23 = .ok (.istore_n 2, 1) := by decide +kernel
theorem dL_told_24 : decode cL_told 24 = .ok (.iconst 0, 1) := by decide +kernel
theorem dL_told_25 : decode cL_told 25 = .ok (.istore_n 3, 1) := by decide +kernel
theorem dL_told_26 : decode cL_told 26 = .ok (.iload_n 3, 1) := by decide +kernel
theorem dL_told_27 : decode cL_told 27 = .ok (.iconst 1, 1) := by decide +kernel
theorem dL_told_28 : decode cL_told 28 = .ok (.iload_n 1, 1) := by decide +kernel
theorem dL_told_29 : decode cL_told 29 = .ok (.iconst 4, 1) := by decide +kernel
theorem dL_told_30 : decode cL_told 30 = .ok (.irem, 1) := by decide +kernel
theorem dL_told_31 : decode cL_told 31 = .ok (.iadd, 1) := by decide +kernel
theorem dL_told_32 : decode cL_told 32 = .ok (.if_icmp .ge 196, 3) := by decide +kernel
theorem dL_told_35 : decode cL_told 35 = .ok (.iload_n 2, 1) := by decide +kernel
theorem dL_told_36 : decode cL_told 36 = .ok (.ifCond .eq 192, 3) := by decide +kernel
theorem dL_told_39 : decode cL_told 39 = .ok (.iload_n 1, 1) := by decide +kernel
theorem dL_told_40 : decode cL_told 40 = .ok (.iload_n 3, 1) := by decide +kernel
theorem dL_told_41 : decode cL_told 41 = .ok (.ishr, 1) := by decide +kernel
theorem dL_told_42 : decode cL_told 42 = .ok (.istore 4, 2) := by decide +kernel
theorem dL_told_44 : decode cL_told 44 = .ok (.aload_n 0, 1) := by decide +kernel
theorem dL_told_45 : decode cL_told 45 = .ok (.bipush 119, 2) := by decide +kernel
theorem dL_told_47 : decode cL_told 47 = .ok (.bipush 48, 2) := by decide +kernel
theorem dL_told_49 : decode cL_told 49 = .ok (.iload 4, 2) := by decide +kernel
theorem dL_told_51 : decode cL_told 51 = .ok (.bipush 8, 2) := by decide +kernel
theorem dL_told_53 : decode cL_told 53 = .ok (.irem, 1) := by decide +kernel
theorem dL_told_54 : decode cL_told 54 = .ok (.iadd, 1) := by decide +kernel
theorem dL_told_55 : decode cL_told 55 = .ok (.bipush 48, 2) := by decide +kernel
theorem dL_told_57 : decode cL_told 57 = .ok (.iload 4, 2) := by decide +kernel
theorem dL_told_59 : decode cL_told 59 = .ok (.bipush 10, 2) := by decide +kernel
theorem dL_told_61 : decode cL_told 61 = .ok (.irem, 1) := by decide +kernel
theorem dL_told_62 : decode cL_told 62 = .ok (.iadd, 1) := by decide +kernel
theorem dL_told_63 : decode cL_told 63 = .ok (.bipush 48, 2) := by decide +kernel
theorem dL_told_65 : decode cL_told 65 = .ok (.iload 4, 2) := by decide +kernel
theorem dL_told_67 : decode cL_told 67 = .ok (.iconst 3, 1) := by decide +kernel
theorem dL_told_68 : decode cL_told 68 = .ok (.idiv, 1) := by decide +kernel
theorem dL_told_69 : decode cL_told 69 = .ok (.bipush 10, 2) := by decide +kernel
theorem dL_told_71 : decode cL_told 71 = .ok (.irem, 1) := by decide +kernel
theorem dL_told_72 : decode cL_told 72 = .ok (.iadd, 1) := by decide +kernel
theorem dL_told_73 : decode cL_told 73 = .ok (.invokestatic 201, 3) := by decide +kernel
theorem dL_told_76 : decode cL_told 76 = .ok (.ifCond .eq 144, 3) := by decide +kernel
theorem dL_told_79 : decode cL_told 79 = .ok (.aload_n 0, 1) := by decide +kernel
theorem dL_told_80 : decode cL_told 80 = .ok (.bipush 48, 2) := by decide +kernel
theorem dL_told_82 : decode cL_told 82 = .ok (.iload 4, 2) := by decide +kernel
theorem dL_told_84 : decode cL_told 84 = .ok (.iconst 4, 1) := by decide +kernel
theorem dL_told_85 : decode cL_told 85 = .ok (.irem, 1) := by decide +kernel
theorem dL_told_86 : decode cL_told 86 = .ok (.iadd, 1) := by decide +kernel
theorem dL_told_87 : decode cL_told 87 = .ok (.bipush 49, 2) := by decide +kernel
theorem dL_told_89 : decode cL_told 89 = .ok (.iload 4, 2) := by decide +kernel
theorem dL_told_91 : decode cL_told 91 = .ok (.bipush 9, 2) := by decide +kernel
theorem dL_told_93 : decode cL_told 93 = .ok (.irem, 1) := by decide +kernel
theorem dL_told_94 : decode cL_told 94 = .ok (.iadd, 1) := by decide +kernel
theorem dL_told_95 : decode cL_told 95 = .ok (.bipush 106, 2) := by decide +kernel
theorem dL_told_97 : decode cL_told 97 = .ok (.bipush 48, 2) := by decide +kernel
theorem dL_told_99 : decode cL_told 99 = .ok (.iload 4, 2) := by decide +kernel
theorem dL_told_101 : decode cL_told 101 = .ok (.bipush 8, 2) := by decide +kernel
theorem dL_told_103 : decode cL_told 103 = .ok (.irem, 1) := by decide +kernel
theorem dL_told_104 : decode cL_told 104 = .ok (.iadd, 1) := by decide +kernel
theorem dL_told_105 : decode cL_told 105 = .ok (.invokestatic 201, 3) := by decide +kernel
theorem dL_told_108 : decode cL_told 108 = .ok (.ifCond .eq 112, 3) := by decide +kernel
theorem dL_told_111 : decode cL_told 111 = .ok (.aload_n 0, 1) := by decide +kernel
theorem dL_told_112 : decode cL_told 112 = .ok (.bipush 48, 2) := by decide +kernel
theorem dL_told_114 : decode cL_told 114 = .ok (.iload 4, 2) := by decide +kernel
theorem dL_told_116 : decode cL_told 116 = .ok (.iconst 3, 1) := by decide +kernel
theorem dL_told_117 : decode cL_told 117 = .ok (.irem, 1) := by decide +kernel
theorem dL_told_118 : decode cL_told 118 = .ok (.iadd, 1) := by decide +kernel
theorem dL_told_119 : decode cL_told 119 = .ok (.iload 4, 2) := by decide +kernel
theorem dL_told_121 : decode cL_told 121 = .ok (.iconst 2, 1) := by decide +kernel
theorem dL_told_122 : decode cL_told 122 = .ok (.irem, 1) := by decide +kernel
theorem dL_told_123 : decode cL_told 123 = .ok (.ifCond .ne 8, 3) := by decide +kernel
theorem dL_told_126 : decode cL_told 126 = .ok (.bipush 43, 2) := by decide +kernel
theorem dL_told_128 : decode cL_told 128 = .ok (.goto 5, 3) := by decide +kernel
theorem dL_told_131 : decode cL_told 131 = .ok (.bipush 45, 2) := by decide +kernel
theorem dL_told_133 : decode cL_told 133 = .ok (.bipush 114, 2) := by decide +kernel
theorem dL_told_135 : decode cL_told 135 = .ok (.bipush 48, 2) := by decide +kernel
theorem dL_told_137 : decode cL_told 137 = .ok (.iload 4, 2) := by decide +kernel
theorem dL_told_139 : decode cL_told 139 = .ok (.bipush 8, 2) := by decide +kernel
theorem dL_told_141 : decode cL_told 141 = .ok (.irem, 1) := by decide +kernel
theorem dL_told_142 : decode cL_told 142 = .ok (.iadd, 1) := by decide +kernel
theorem dL_told_143 : decode cL_told 143 = .ok (.invokestatic 201, 3) := by decide +kernel
theorem dL_told_146 : decode cL_told 146 = .ok (.ifCond .eq 74, 3) := by decide +kernel
theorem dL_told_149 : decode cL_told 149 = .ok (.aload_n 0, 1) := by decide +kernel
theorem dL_told_150 : decode cL_told 150 = .ok (.bipush 48, 2) := by decide +kernel
theorem dL_told_152 : decode cL_told 152 = .ok (.iload 4, 2) := by decide +kernel
theorem dL_told_154 : decode cL_told 154 = .ok (.iconst 5, 1) := by decide +kernel
theorem dL_told_155 : decode cL_told 155 = .ok (.irem, 1) := by decide +kernel
theorem dL_told_156 : decode cL_told 156 = .ok (.iadd, 1) := by decide +kernel
theorem dL_told_157 : decode cL_told 157 = .ok (.bipush 49, 2) := by decide +kernel
theorem dL_told_159 : decode cL_told 159 = .ok (.iload 4, 2) := by decide +kernel
theorem dL_told_161 : decode cL_told 161 = .ok (.bipush 9, 2) := by decide +kernel
theorem dL_told_163 : decode cL_told 163 = .ok (.irem, 1) := by decide +kernel
theorem dL_told_164 : decode cL_told 164 = .ok (.iadd, 1) := by decide +kernel
theorem dL_told_165 : decode cL_told 165 = .ok (.bipush 116, 2) := by decide +kernel
theorem dL_told_167 : decode cL_told 167 = .ok (.bipush 48, 2) := by decide +kernel
theorem dL_told_169 : decode cL_told 169 = .ok (.invokestatic 201, 3) := by decide +kernel
theorem dL_told_172 : decode cL_told 172 = .ok (.ifCond .eq 48, 3) := by decide +kernel
theorem dL_told_175 : decode cL_told 175 = .ok (.aload_n 0, 1) := by decide +kernel
theorem dL_told_176 : decode cL_told 176 = .ok (.bipush 49, 2) := by decide +kernel
theorem dL_told_178 : decode cL_told 178 = .ok (.iload 4, 2) := by decide +kernel
theorem dL_told_180 : decode cL_told 180 = .ok (.bipush 9, 2) := by decide +kernel
theorem dL_told_182 : decode cL_told 182 = .ok (.irem, 1) := by decide +kernel
theorem dL_told_183 : decode cL_told 183 = .ok (.iadd, 1) := by decide +kernel
theorem dL_told_184 : decode cL_told 184 = .ok (.bipush 104, 2) := by decide +kernel
theorem dL_told_186 : decode cL_told 186 = .ok (.bipush 48, 2) := by decide +kernel
theorem dL_told_188 : decode cL_told 188 = .ok (.iload 4, 2) := by decide +kernel
theorem dL_told_190 : decode cL_told 190 = .ok (.iconst 2, 1) := by decide +kernel
theorem dL_told_191 : decode cL_told 191 = .ok (.idiv, 1) := by decide +kernel
theorem dL_told_192 : decode cL_told 192 = .ok (.bipush 8, 2) := by decide +kernel
theorem dL_told_194 : decode cL_told 194 = .ok (.irem, 1) := by decide +kernel
theorem dL_told_195 : decode cL_told 195 = .ok (.iadd, 1) := by decide +kernel
theorem dL_told_196 : decode cL_told 196 = .ok (.iload 4, 2) := by decide +kernel
theorem dL_told_198 : decode cL_told 198 = .ok (.iconst 3, 1) := by decide +kernel
theorem dL_told_199 : decode cL_told 199 = .ok (.irem, 1) := by decide +kernel
theorem dL_told_200 : decode cL_told 200 = .ok (.ifCond .ne 8, 3) := by decide +kernel
theorem dL_told_203 : decode cL_told 203 = .ok (.bipush 45, 2) := by decide +kernel
theorem dL_told_205 : decode cL_told 205 = .ok (.goto 5, 3) := by decide +kernel
theorem dL_told_208 : decode cL_told 208 = .ok (.bipush 43, 2) := by decide +kernel
theorem dL_told_210 : decode cL_told 210 = .ok (.invokestatic 201, 3) := by decide +kernel
theorem dL_told_213 : decode cL_told 213 = .ok (.ifCond .eq 7, 3) := by decide +kernel
theorem dL_told_216 : decode cL_told 216 = .ok (.iconst 1, 1) := by decide +kernel
theorem dL_told_217 : decode cL_told 217 = .ok (.goto 4, 3) := by decide +kernel
theorem dL_told_220 : decode cL_told 220 = .ok (.iconst 0, 1) := by decide +kernel
theorem dL_told_221 : decode cL_told 221 = .ok (.istore_n 2, 1) := by decide +kernel
theorem dL_told_222 : decode cL_told 222 = .ok (.iinc 3 1, 3) := by decide +kernel
theorem dL_told_225 : decode cL_told 225 = .ok (.goto (-199), 3) := by decide +kernel
theorem dL_told_228 : decode cL_told 228 = .ok (.iload_n 2, 1) := by decide +kernel
theorem dL_told_229 : decode cL_told 229 = .ok (.ifCond .eq 62, 3) := by decide +kernel
theorem dL_told_232 : decode cL_told 232 = .ok (.aload_n 0, 1) := by decide +kernel
theorem dL_told_233 : decode cL_told 233 = .ok (.bipush 115, 2) := by decide +kernel
theorem dL_told_235 : decode cL_told 235 = .ok (.bipush 51, 2) := by decide +kernel
theorem dL_told_237 : decode cL_told 237 = .ok (.bipush 48, 2) := by decide +kernel
theorem dL_told_239 : decode cL_told 239 = .ok (.bipush 48, 2) := by decide +kernel
theorem dL_told_241 : decode cL_told 241 = .ok (.iload_n 1, 1) := by decide +kernel
theorem dL_told_242 : decode cL_told 242 = .ok (.bipush 10, 2) := by decide +kernel
theorem dL_told_244 : decode cL_told 244 = .ok (.irem, 1) := by decide +kernel
theorem dL_told_245 : decode cL_told 245 = .ok (.iadd, 1) := by decide +kernel
theorem dL_told_246 : decode cL_told 246 = .ok (.invokestatic 201, 3) := by decide +kernel
theorem dL_told_249 : decode cL_told 249 = .ok (.ifCond .eq 42, 3) := by decide +kernel
theorem dL_told_252 : decode cL_told 252 = .ok (.aload_n 0, 1) := by decide +kernel
theorem dL_told_253 : decode cL_told 253 = .ok (.bipush 48, 2) := by decide +kernel
theorem dL_told_255 : decode cL_told 255 = .ok (.iload_n 1, 1) := by decide +kernel
theorem dL_told_256 : decode cL_told 256 = .ok (.iconst 2, 1) := by decide +kernel
theorem dL_told_257 : decode cL_told 257 = .ok (.idiv, 1) := by decide +kernel
theorem dL_told_258 : decode cL_told 258 = .ok (.bipush 10, 2) := by decide +kernel
theorem dL_told_260 : decode cL_told 260 = .ok (.irem, 1) := by decide +kernel
theorem dL_told_261 : decode cL_told 261 = .ok (.iadd, 1) := by decide +kernel
theorem dL_told_262 : decode cL_told 262 = .ok (.bipush 48, 2) := by decide +kernel
theorem dL_told_264 : decode cL_told 264 = .ok (.bipush 108, 2) := by decide +kernel
theorem dL_told_266 : decode cL_told 266 = .ok (.bipush 48, 2) := by decide +kernel
theorem dL_told_268 : decode cL_told 268 = .ok (.iload_n 1, 1) := by decide +kernel
theorem dL_told_269 : decode cL_told 269 = .ok (.bipush 8, 2) := by decide +kernel
theorem dL_told_271 : decode cL_told 271 = .ok (.irem, 1) := by decide +kernel
theorem dL_told_272 : decode cL_told 272 = .ok (.iadd, 1) := by decide +kernel
theorem dL_told_273 : decode cL_told 273 = .ok (.invokestatic 201, 3) := by decide +kernel
theorem dL_told_276 : decode cL_told 276 = .ok (.ifCond .eq 15, 3) := by decide +kernel
theorem dL_told_279 : decode cL_told 279 = .ok (.aload_n 0, 1) := by decide +kernel
theorem dL_told_280 : decode cL_told 280 = .ok (.invokevirtual 193, 3) := by decide +kernel
theorem dL_told_283 : decode cL_told 283 = .ok (.iconst (-1), 1) := by decide +kernel
theorem dL_told_284 : decode cL_told 284 = .ok (.if_icmp .ne 7, 3) := by decide +kernel
theorem dL_told_287 : decode cL_told 287 = .ok (.iconst 1, 1) := by decide +kernel
theorem dL_told_288 : decode cL_told 288 = .ok (.goto 4, 3) := by decide +kernel
theorem dL_told_291 : decode cL_told 291 = .ok (.iconst 0, 1) := by decide +kernel
theorem dL_told_292 : decode cL_told 292 = .ok (.ireturn, 1) := by decide +kernel
def PJ_LAW_told_228 (x1 : Int32) (y1 : Int32) (y2 : Int32) (v0 : TT) (Q : Int32 → TT → Prop) : Prop := ((y2 = 0 → Q 0 v0) ∧ (¬ y2 = 0 → P_LAW_says 115 51 48 (48 + (zrem y1 10)) v0 (fun r12_ v17_ => (((r12_ = 0 → Q 0 v17_) ∧ (¬ r12_ = 0 → P_LAW_says (48 + (zrem (y1 / 2) 10)) 48 108 (48 + (zrem y1 8)) v17_ (fun r22_ v27_ => (((r22_ = 0 → Q 0 v27_) ∧ (¬ r22_ = 0 → P_T_errorPosition v27_ (fun r32_ v36_ => (((¬ r32_ = (-1) → Q 0 v36_) ∧ (r32_ = (-1) → Q 1 v36_))))))))))))))
def PJ_LAW_told_133 (x1 : Int32) (y1 : Int32) (y3 : Int32) (y4 : Int32) (u0 : Int32) (u1 : Int32) (v0 : TT) (K26 : Int32 → Int32 → Int32 → TT → Prop) (Q : Int32 → TT → Prop) : Prop := P_LAW_says u1 u0 114 (48 + (zrem y4 8)) v0 (fun r63_ v68_ => (((r63_ = 0 → K26 y1 0 (y3 + 1) v68_) ∧ (¬ r63_ = 0 → P_LAW_says (48 + (zrem y4 5)) (49 + (zrem y4 9)) 116 48 v68_ (fun r73_ v78_ => (((r73_ = 0 → K26 y1 0 (y3 + 1) v78_) ∧ (¬ r73_ = 0 → ((¬ (zrem y4 3) = 0 → P_LAW_says (49 + (zrem y4 9)) 104 (48 + (zrem (y4 / 2) 8)) 43 v78_ (fun r84_ v89_ => (((r84_ = 0 → K26 y1 0 (y3 + 1) v89_) ∧ (¬ r84_ = 0 → K26 y1 1 (y3 + 1) v89_))))) ∧ ((zrem y4 3) = 0 → P_LAW_says (49 + (zrem y4 9)) 104 (48 + (zrem (y4 / 2) 8)) 45 v78_ (fun r94_ v99_ => (((r94_ = 0 → K26 y1 0 (y3 + 1) v99_) ∧ (¬ r94_ = 0 → K26 y1 1 (y3 + 1) v99_))))))))))))))
def PL_LAW_told_26 : Nat → Int32 → Int32 → Int32 → Int32 → TT → (Int32 → TT → Prop) → Prop
  | 0, _, _, _, _, _, _ => False
  | n + 1, x1, y1, y2, y3, v0, Q => (((1 + (zrem y1 4)) ≤ y3 → PJ_LAW_told_228 x1 y1 y2 v0 Q) ∧ (¬ (1 + (zrem y1 4)) ≤ y3 → ((y2 = 0 → PJ_LAW_told_228 x1 y1 y2 v0 Q) ∧ (¬ y2 = 0 → P_LAW_says 119 (48 + (zrem (zshr y1 y3) 8)) (48 + (zrem (zshr y1 y3) 10)) (48 + (zrem ((zshr y1 y3) / 3) 10)) v0 (fun r42_ v47_ => (((r42_ = 0 → (fun y1 y2 y3 v0 => PL_LAW_told_26 n x1 y1 y2 y3 v0  Q) y1 0 (y3 + 1) v47_) ∧ (¬ r42_ = 0 → P_LAW_says (48 + (zrem (zshr y1 y3) 4)) (49 + (zrem (zshr y1 y3) 9)) 106 (48 + (zrem (zshr y1 y3) 8)) v47_ (fun r52_ v57_ => (((r52_ = 0 → (fun y1 y2 y3 v0 => PL_LAW_told_26 n x1 y1 y2 y3 v0  Q) y1 0 (y3 + 1) v57_) ∧ (¬ r52_ = 0 → ((¬ (zrem (zshr y1 y3) 2) = 0 → PJ_LAW_told_133 x1 y1 y3 (zshr y1 y3) 45 (48 + (zrem (zshr y1 y3) 3)) v57_ (fun a0 a1 a2 w0 => (fun y1 y2 y3 v0 => PL_LAW_told_26 n x1 y1 y2 y3 v0  Q) a0 a1 a2 w0) Q) ∧ ((zrem (zshr y1 y3) 2) = 0 → PJ_LAW_told_133 x1 y1 y3 (zshr y1 y3) 43 (48 + (zrem (zshr y1 y3) 3)) v57_ (fun a0 a1 a2 w0 => (fun y1 y2 y3 v0 => PL_LAW_told_26 n x1 y1 y2 y3 v0  Q) a0 a1 a2 w0) Q))))))))))))))
def P_LAW_told (x1 : Int32) (v0 : TT) (Q : Int32 → TT → Prop) : Prop := P_T_clearText v0 (fun r1_ v5_ => (((r1_ < 0 → (∃ n104_, n104_ ≤ 5 ∧ PL_LAW_told_26 n104_ x1 x1 0 0 v5_ Q)) ∧ (¬ r1_ < 0 → P_LAW_append 71 v5_ (fun r105_ v110_ => ((((lg_cmp r105_ 0) ≤ 0 → (∃ n115_, n115_ ≤ 5 ∧ PL_LAW_told_26 n115_ x1 x1 0 0 v110_ Q)) ∧ (¬ (lg_cmp r105_ 0) ≤ 0 → (∃ n116_, n116_ ≤ 5 ∧ PL_LAW_told_26 n116_ x1 x1 1 0 v110_ Q)))))))))
set_option maxRecDepth 100000 in
theorem s_LAW_told {l : Launch} {D : zD} {B : Nat} {sa : Nat → Nat} (hfl : l.stackTraces = false) {z : Nat} {G : zG} {b0 : Nat} {x1 : Int32} {v0 : TT} {Q : Int32 → TT → Prop} (h0 : TA b0 v0 G) (h : P_LAW_told x1 v0 Q) : zSp l D B sa yL_told cL_told 5 (some .boolean) 9 157 109 654 [.ref b0, .int x1] z G (zRi fun r z' G' => ∃ w, TA b0 w G' ∧ Fr b0 475 G G' ∧ Q r w) := by
  unfold P_LAW_told at h
  refine z_ofW (by decide +kernel) hfl [some (.ref b0), some (.int x1), none, none, none] rfl (Nat.le_of_ble_eq_true rfl) (fun p e s m args below meth c O hret hlk hnm => ?_)
  have O : zO p l s m args c D B sa 5 cL_told RL := O
  have hk0 : 0 + (109 + 0) ≤ 109 ∧ 0 + 6 * (109 + 0) ≤ 654 := ⟨Nat.le_of_ble_eq_true rfl, Nat.le_of_ble_eq_true rfl⟩
  have HJ228 : ∀     (y1 : Int32) (y2 : Int32) (v0 : TT) (G9 : zG) (g0 : TA b0 v0 G9) (gF : Fr b0 475 G G9) (z9 k9 m9 : Nat) (hk : k9 + (8 + 0) ≤ 109 ∧ m9 + 6 * (8 + 0) ≤ 654) (h : PJ_LAW_told_228 x1 y1 y2 v0 Q), zT p l e (zrm 9 157 109 654) s m args below meth c (zEnd below D B (zRi fun r z' G' => ∃ w, TA b0 w G' ∧ Fr b0 475 G G' ∧ Q r w) args s 109 654) D B 5 k9 m9 228 [] [some (.ref b0), some (.int y1), some (.int y2), none, none] z9 G9 := by
    intro  y1 y2 v0 G9 g0 gF z9 k9 m9 hk h
    unfold PJ_LAW_told_228 at h
    refine z_iload_n O dL_told_228 rfl rfl ?_
    refine z_if_eq (tgt := 291) O dL_told_229 (by decide) (fun c11_ => ?_) (fun c11_ => ?_)
    · have h := h.1 c11_
      refine z_iconst (v := 0) O dL_told_291 (by decide) ?_
      exact z_zret O hret rfl hlk dL_told_292 (lk_k hk) (lk_n hk) ⟨_, rfl, _, g0, gF, h⟩
    · have h := h.2 c11_
      refine z_aload_n O dL_told_232 rfl rfl ?_
      refine z_bipush (v := 115) O dL_told_233 (by decide) ?_
      refine z_bipush (v := 51) O dL_told_235 (by decide) ?_
      refine z_bipush (v := 48) O dL_told_237 (by decide) ?_
      refine z_bipush (v := 48) O dL_told_239 (by decide) ?_
      refine z_iload_n O dL_told_241 rfl rfl ?_
      refine z_bipush (v := 10) O dL_told_242 (by decide) ?_
      refine z_irem O dL_told_244 (by decide) ?_
      refine z_iadd O dL_told_245 ?_
      have hk13_ := lk_step 4 4 hk (Nat.le_of_ble_eq_true rfl)
      refine z_callSi (As := [.ref b0, .int 115, .int 51, .int 48, .int (48 + (zrem y1 10))]) (st := []) O (s_LAW_says hfl g0 h) wy_L_says wl_RL_201 dL_told_246 rfl rfl ⟨Nat.le_of_ble_eq_true rfl, Nat.le_of_ble_eq_true rfl⟩ (Nat.le_of_ble_eq_true rfl) ⟨lk_k hk13_, lk_n hk13_⟩ (fun r12_ z14_ G15_ hq16_ => ?_)
      obtain ⟨v17_, k18_, f19_, h⟩ := hq16_
      have F20_ : Fr b0 475 G G15_ := Fr.trans gF f19_
      refine z_if_eq (tgt := 291) O dL_told_249 (by decide) (fun c21_ => ?_) (fun c21_ => ?_)
      · have h := h.1 c21_
        refine z_iconst (v := 0) O dL_told_291 (by decide) ?_
        exact z_zret O hret rfl hlk dL_told_292 (lk_k hk13_) (lk_n hk13_) ⟨_, rfl, _, k18_, F20_, h⟩
      · have h := h.2 c21_
        refine z_aload_n O dL_told_252 rfl rfl ?_
        refine z_bipush (v := 48) O dL_told_253 (by decide) ?_
        refine z_iload_n O dL_told_255 rfl rfl ?_
        refine z_iconst (v := 2) O dL_told_256 (by decide) ?_
        refine z_idiv O dL_told_257 (by decide) ?_
        refine z_bipush (v := 10) O dL_told_258 (by decide) ?_
        refine z_irem O dL_told_260 (by decide) ?_
        refine z_iadd O dL_told_261 ?_
        refine z_bipush (v := 48) O dL_told_262 (by decide) ?_
        refine z_bipush (v := 108) O dL_told_264 (by decide) ?_
        refine z_bipush (v := 48) O dL_told_266 (by decide) ?_
        refine z_iload_n O dL_told_268 rfl rfl ?_
        refine z_bipush (v := 8) O dL_told_269 (by decide) ?_
        refine z_irem O dL_told_271 (by decide) ?_
        refine z_iadd O dL_told_272 ?_
        have hk23_ := lk_step 4 0 hk13_ (Nat.le_of_ble_eq_true rfl)
        refine z_callSi (As := [.ref b0, .int (48 + (zrem (y1 / 2) 10)), .int 48, .int 108, .int (48 + (zrem y1 8))]) (st := []) O (s_LAW_says hfl k18_ h) wy_L_says wl_RL_201 dL_told_273 rfl rfl ⟨Nat.le_of_ble_eq_true rfl, Nat.le_of_ble_eq_true rfl⟩ (Nat.le_of_ble_eq_true rfl) ⟨lk_k hk23_, lk_n hk23_⟩ (fun r22_ z24_ G25_ hq26_ => ?_)
        obtain ⟨v27_, k28_, f29_, h⟩ := hq26_
        have F30_ : Fr b0 475 G G25_ := Fr.trans F20_ f29_
        refine z_if_eq (tgt := 291) O dL_told_276 (by decide) (fun c31_ => ?_) (fun c31_ => ?_)
        · have h := h.1 c31_
          refine z_iconst (v := 0) O dL_told_291 (by decide) ?_
          exact z_zret O hret rfl hlk dL_told_292 (lk_k hk23_) (lk_n hk23_) ⟨_, rfl, _, k28_, F30_, h⟩
        · have h := h.2 c31_
          refine z_aload_n O dL_told_279 rfl rfl ?_
          refine z_callVi (As := []) (st := []) O (s_T_errorPosition hfl k28_ h) wy_X5_errorPosition wl_RL_193 dL_told_280 rfl rfl (T_obj k28_) ⟨by decide, rfl⟩ ⟨Nat.le_of_ble_eq_true rfl, Nat.le_of_ble_eq_true rfl⟩ (Nat.le_of_ble_eq_true rfl) ⟨lk_k hk23_, lk_n hk23_⟩ (fun r32_ z33_ G34_ hq35_ => ?_)
          obtain ⟨rfl, v36_, k37_, f38_, h⟩ := hq35_
          have F39_ : Fr b0 475 G G34_ := Fr.trans F30_ f38_
          refine z_iconst (v := (-1)) O dL_told_283 (by decide) ?_
          refine z_icmp_ne (tgt := 291) O dL_told_284 (by decide) (fun c40_ => ?_) (fun c40_ => ?_)
          · have h := h.1 c40_
            refine z_iconst (v := 0) O dL_told_291 (by decide) ?_
            exact z_zret O hret rfl hlk dL_told_292 (lk_k hk23_) (lk_n hk23_) ⟨_, rfl, _, k37_, F39_, h⟩
          · have h := h.2 c40_
            refine z_iconst (v := 1) O dL_told_287 (by decide) ?_
            refine z_goto (tgt := 292) O dL_told_288 (by decide) ?_
            exact z_zret O hret rfl hlk dL_told_292 (lk_k hk23_) (lk_n hk23_) ⟨_, rfl, _, k37_, F39_, h⟩
  have HJ133 : ∀  (K26 : Int32 → Int32 → Int32 → TT → Prop) (Y26 : Nat) (hK26 : ∀ (a0 : Int32) (a1 : Int32) (a2 : Int32) (w0 : TT) (G7 : zG) (g0 : TA b0 w0 G7) (gF : Fr b0 475 G G7) (z9 k9 m9 : Nat) (hk9 : k9 + (8 + Y26) ≤ 109 ∧ m9 + 6 * (8 + Y26) ≤ 654), K26 a0 a1 a2 w0 → zT p l e (zrm 9 157 109 654) s m args below meth c (zEnd below D B (zRi fun r z' G' => ∃ w, TA b0 w G' ∧ Fr b0 475 G G' ∧ Q r w) args s 109 654) D B 5 k9 m9 26 [] [some (.ref b0), some (.int a0), some (.int a1), some (.int a2), none] z9 G7) (y1 : Int32) (y3 : Int32) (y4 : Int32) (u0 : Int32) (u1 : Int32) (v0 : TT) (G9 : zG) (g0 : TA b0 v0 G9) (gF : Fr b0 475 G G9) (z9 k9 m9 : Nat) (hk : k9 + (20 + Y26) ≤ 109 ∧ m9 + 6 * (20 + Y26) ≤ 654) (h : PJ_LAW_told_133 x1 y1 y3 y4 u0 u1 v0 K26 Q), zT p l e (zrm 9 157 109 654) s m args below meth c (zEnd below D B (zRi fun r z' G' => ∃ w, TA b0 w G' ∧ Fr b0 475 G G' ∧ Q r w) args s 109 654) D B 5 k9 m9 133 [.int u0, .int u1, .ref b0] [some (.ref b0), some (.int y1), none, some (.int y3), some (.int y4)] z9 G9 := by
    intro K26 Y26 hK26 y1 y3 y4 u0 u1 v0 G9 g0 gF z9 k9 m9 hk h
    unfold PJ_LAW_told_133 at h
    refine z_bipush (v := 114) O dL_told_133 (by decide) ?_
    refine z_bipush (v := 48) O dL_told_135 (by decide) ?_
    refine z_iload O dL_told_137 rfl ?_
    refine z_bipush (v := 8) O dL_told_139 (by decide) ?_
    refine z_irem O dL_told_141 (by decide) ?_
    refine z_iadd O dL_told_142 ?_
    have hk64_ := lk_step 4 16 hk (Nat.le_of_ble_eq_true rfl)
    refine z_callSi (As := [.ref b0, .int u1, .int u0, .int 114, .int (48 + (zrem y4 8))]) (st := []) O (s_LAW_says hfl g0 h) wy_L_says wl_RL_201 dL_told_143 rfl rfl ⟨Nat.le_of_ble_eq_true rfl, Nat.le_of_ble_eq_true rfl⟩ (Nat.le_of_ble_eq_true rfl) ⟨lk_k hk64_, lk_n hk64_⟩ (fun r63_ z65_ G66_ hq67_ => ?_)
    obtain ⟨v68_, k69_, f70_, h⟩ := hq67_
    have F71_ : Fr b0 475 G G66_ := Fr.trans gF f70_
    refine z_if_eq (tgt := 220) O dL_told_146 (by decide) (fun c72_ => ?_) (fun c72_ => ?_)
    · have h := h.1 c72_
      refine z_iconst (v := 0) O dL_told_220 (by decide) ?_
      refine z_istore_n (L' := [some (.ref b0), some (.int y1), some (.int 0), some (.int y3), some (.int y4)]) O dL_told_221 rfl (by decide) rfl ?_
      refine z_iinc (v := (y3 + 1)) (L' := [some (.ref b0), some (.int y1), some (.int 0), some (.int (y3 + 1)), some (.int y4)]) O dL_told_222 rfl (by first | rfl | decide) (by decide) rfl ?_
      refine z_goto (tgt := 26) O dL_told_225 (by decide) ?_
      exact z_subL (L' := [some (.ref b0), some (.int y1), some (.int 0), some (.int (y3 + 1)), none]) (zLe.sub (And.intro rfl (And.intro rfl (And.intro rfl (And.intro rfl True.intro))))) (hK26 y1 0 (y3 + 1) v68_ G66_ k69_ F71_ _ _ _ (lk_weak hk64_ (c' := 8) (Nat.le_of_ble_eq_true rfl) (Nat.le_refl _)) h)
    · have h := h.2 c72_
      refine z_aload_n O dL_told_149 rfl rfl ?_
      refine z_bipush (v := 48) O dL_told_150 (by decide) ?_
      refine z_iload O dL_told_152 rfl ?_
      refine z_iconst (v := 5) O dL_told_154 (by decide) ?_
      refine z_irem O dL_told_155 (by decide) ?_
      refine z_iadd O dL_told_156 ?_
      refine z_bipush (v := 49) O dL_told_157 (by decide) ?_
      refine z_iload O dL_told_159 rfl ?_
      refine z_bipush (v := 9) O dL_told_161 (by decide) ?_
      refine z_irem O dL_told_163 (by decide) ?_
      refine z_iadd O dL_told_164 ?_
      refine z_bipush (v := 116) O dL_told_165 (by decide) ?_
      refine z_bipush (v := 48) O dL_told_167 (by decide) ?_
      have hk74_ := lk_step 4 12 hk64_ (Nat.le_of_ble_eq_true rfl)
      refine z_callSi (As := [.ref b0, .int (48 + (zrem y4 5)), .int (49 + (zrem y4 9)), .int 116, .int 48]) (st := []) O (s_LAW_says hfl k69_ h) wy_L_says wl_RL_201 dL_told_169 rfl rfl ⟨Nat.le_of_ble_eq_true rfl, Nat.le_of_ble_eq_true rfl⟩ (Nat.le_of_ble_eq_true rfl) ⟨lk_k hk74_, lk_n hk74_⟩ (fun r73_ z75_ G76_ hq77_ => ?_)
      obtain ⟨v78_, k79_, f80_, h⟩ := hq77_
      have F81_ : Fr b0 475 G G76_ := Fr.trans F71_ f80_
      refine z_if_eq (tgt := 220) O dL_told_172 (by decide) (fun c82_ => ?_) (fun c82_ => ?_)
      · have h := h.1 c82_
        refine z_iconst (v := 0) O dL_told_220 (by decide) ?_
        refine z_istore_n (L' := [some (.ref b0), some (.int y1), some (.int 0), some (.int y3), some (.int y4)]) O dL_told_221 rfl (by decide) rfl ?_
        refine z_iinc (v := (y3 + 1)) (L' := [some (.ref b0), some (.int y1), some (.int 0), some (.int (y3 + 1)), some (.int y4)]) O dL_told_222 rfl (by first | rfl | decide) (by decide) rfl ?_
        refine z_goto (tgt := 26) O dL_told_225 (by decide) ?_
        exact z_subL (L' := [some (.ref b0), some (.int y1), some (.int 0), some (.int (y3 + 1)), none]) (zLe.sub (And.intro rfl (And.intro rfl (And.intro rfl (And.intro rfl True.intro))))) (hK26 y1 0 (y3 + 1) v78_ G76_ k79_ F81_ _ _ _ (lk_weak hk74_ (c' := 8) (Nat.le_of_ble_eq_true rfl) (Nat.le_refl _)) h)
      · have h := h.2 c82_
        refine z_aload_n O dL_told_175 rfl rfl ?_
        refine z_bipush (v := 49) O dL_told_176 (by decide) ?_
        refine z_iload O dL_told_178 rfl ?_
        refine z_bipush (v := 9) O dL_told_180 (by decide) ?_
        refine z_irem O dL_told_182 (by decide) ?_
        refine z_iadd O dL_told_183 ?_
        refine z_bipush (v := 104) O dL_told_184 (by decide) ?_
        refine z_bipush (v := 48) O dL_told_186 (by decide) ?_
        refine z_iload O dL_told_188 rfl ?_
        refine z_iconst (v := 2) O dL_told_190 (by decide) ?_
        refine z_idiv O dL_told_191 (by decide) ?_
        refine z_bipush (v := 8) O dL_told_192 (by decide) ?_
        refine z_irem O dL_told_194 (by decide) ?_
        refine z_iadd O dL_told_195 ?_
        refine z_iload O dL_told_196 rfl ?_
        refine z_iconst (v := 3) O dL_told_198 (by decide) ?_
        refine z_irem O dL_told_199 (by decide) ?_
        refine z_if_ne (tgt := 208) O dL_told_200 (by decide) (fun c83_ => ?_) (fun c83_ => ?_)
        · have h := h.1 c83_
          refine z_bipush (v := 43) O dL_told_208 (by decide) ?_
          have hk85_ := lk_step 4 8 hk74_ (Nat.le_of_ble_eq_true rfl)
          refine z_callSi (As := [.ref b0, .int (49 + (zrem y4 9)), .int 104, .int (48 + (zrem (y4 / 2) 8)), .int 43]) (st := []) O (s_LAW_says hfl k79_ h) wy_L_says wl_RL_201 dL_told_210 rfl rfl ⟨Nat.le_of_ble_eq_true rfl, Nat.le_of_ble_eq_true rfl⟩ (Nat.le_of_ble_eq_true rfl) ⟨lk_k hk85_, lk_n hk85_⟩ (fun r84_ z86_ G87_ hq88_ => ?_)
          obtain ⟨v89_, k90_, f91_, h⟩ := hq88_
          have F92_ : Fr b0 475 G G87_ := Fr.trans F81_ f91_
          refine z_if_eq (tgt := 220) O dL_told_213 (by decide) (fun c93_ => ?_) (fun c93_ => ?_)
          · have h := h.1 c93_
            refine z_iconst (v := 0) O dL_told_220 (by decide) ?_
            refine z_istore_n (L' := [some (.ref b0), some (.int y1), some (.int 0), some (.int y3), some (.int y4)]) O dL_told_221 rfl (by decide) rfl ?_
            refine z_iinc (v := (y3 + 1)) (L' := [some (.ref b0), some (.int y1), some (.int 0), some (.int (y3 + 1)), some (.int y4)]) O dL_told_222 rfl (by first | rfl | decide) (by decide) rfl ?_
            refine z_goto (tgt := 26) O dL_told_225 (by decide) ?_
            exact z_subL (L' := [some (.ref b0), some (.int y1), some (.int 0), some (.int (y3 + 1)), none]) (zLe.sub (And.intro rfl (And.intro rfl (And.intro rfl (And.intro rfl True.intro))))) (hK26 y1 0 (y3 + 1) v89_ G87_ k90_ F92_ _ _ _ (lk_weak hk85_ (c' := 8) (Nat.le_of_ble_eq_true rfl) (Nat.le_refl _)) h)
          · have h := h.2 c93_
            refine z_iconst (v := 1) O dL_told_216 (by decide) ?_
            refine z_goto (tgt := 221) O dL_told_217 (by decide) ?_
            refine z_istore_n (L' := [some (.ref b0), some (.int y1), some (.int 1), some (.int y3), some (.int y4)]) O dL_told_221 rfl (by decide) rfl ?_
            refine z_iinc (v := (y3 + 1)) (L' := [some (.ref b0), some (.int y1), some (.int 1), some (.int (y3 + 1)), some (.int y4)]) O dL_told_222 rfl (by first | rfl | decide) (by decide) rfl ?_
            refine z_goto (tgt := 26) O dL_told_225 (by decide) ?_
            exact z_subL (L' := [some (.ref b0), some (.int y1), some (.int 1), some (.int (y3 + 1)), none]) (zLe.sub (And.intro rfl (And.intro rfl (And.intro rfl (And.intro rfl True.intro))))) (hK26 y1 1 (y3 + 1) v89_ G87_ k90_ F92_ _ _ _ (lk_weak hk85_ (c' := 8) (Nat.le_of_ble_eq_true rfl) (Nat.le_refl _)) h)
        · have h := h.2 c83_
          refine z_bipush (v := 45) O dL_told_203 (by decide) ?_
          refine z_goto (tgt := 210) O dL_told_205 (by decide) ?_
          have hk95_ := lk_step 4 8 hk74_ (Nat.le_of_ble_eq_true rfl)
          refine z_callSi (As := [.ref b0, .int (49 + (zrem y4 9)), .int 104, .int (48 + (zrem (y4 / 2) 8)), .int 45]) (st := []) O (s_LAW_says hfl k79_ h) wy_L_says wl_RL_201 dL_told_210 rfl rfl ⟨Nat.le_of_ble_eq_true rfl, Nat.le_of_ble_eq_true rfl⟩ (Nat.le_of_ble_eq_true rfl) ⟨lk_k hk95_, lk_n hk95_⟩ (fun r94_ z96_ G97_ hq98_ => ?_)
          obtain ⟨v99_, k100_, f101_, h⟩ := hq98_
          have F102_ : Fr b0 475 G G97_ := Fr.trans F81_ f101_
          refine z_if_eq (tgt := 220) O dL_told_213 (by decide) (fun c103_ => ?_) (fun c103_ => ?_)
          · have h := h.1 c103_
            refine z_iconst (v := 0) O dL_told_220 (by decide) ?_
            refine z_istore_n (L' := [some (.ref b0), some (.int y1), some (.int 0), some (.int y3), some (.int y4)]) O dL_told_221 rfl (by decide) rfl ?_
            refine z_iinc (v := (y3 + 1)) (L' := [some (.ref b0), some (.int y1), some (.int 0), some (.int (y3 + 1)), some (.int y4)]) O dL_told_222 rfl (by first | rfl | decide) (by decide) rfl ?_
            refine z_goto (tgt := 26) O dL_told_225 (by decide) ?_
            exact z_subL (L' := [some (.ref b0), some (.int y1), some (.int 0), some (.int (y3 + 1)), none]) (zLe.sub (And.intro rfl (And.intro rfl (And.intro rfl (And.intro rfl True.intro))))) (hK26 y1 0 (y3 + 1) v99_ G97_ k100_ F102_ _ _ _ (lk_weak hk95_ (c' := 8) (Nat.le_of_ble_eq_true rfl) (Nat.le_refl _)) h)
          · have h := h.2 c103_
            refine z_iconst (v := 1) O dL_told_216 (by decide) ?_
            refine z_goto (tgt := 221) O dL_told_217 (by decide) ?_
            refine z_istore_n (L' := [some (.ref b0), some (.int y1), some (.int 1), some (.int y3), some (.int y4)]) O dL_told_221 rfl (by decide) rfl ?_
            refine z_iinc (v := (y3 + 1)) (L' := [some (.ref b0), some (.int y1), some (.int 1), some (.int (y3 + 1)), some (.int y4)]) O dL_told_222 rfl (by first | rfl | decide) (by decide) rfl ?_
            refine z_goto (tgt := 26) O dL_told_225 (by decide) ?_
            exact z_subL (L' := [some (.ref b0), some (.int y1), some (.int 1), some (.int (y3 + 1)), none]) (zLe.sub (And.intro rfl (And.intro rfl (And.intro rfl (And.intro rfl True.intro))))) (hK26 y1 1 (y3 + 1) v99_ G97_ k100_ F102_ _ _ _ (lk_weak hk95_ (c' := 8) (Nat.le_of_ble_eq_true rfl) (Nat.le_refl _)) h)
  have HL26 : ∀ (n9 : Nat)     (y1 : Int32) (y2 : Int32) (y3 : Int32) (v0 : TT) (G9 : zG) (g0 : TA b0 v0 G9) (gF : Fr b0 475 G G9) (z9 k9 m9 : Nat) (hk : k9 + (8 + (n9 * 20 + 0)) ≤ 109 ∧ m9 + 6 * (8 + (n9 * 20 + 0)) ≤ 654) (h : PL_LAW_told_26 n9 x1 y1 y2 y3 v0 Q), zT p l e (zrm 9 157 109 654) s m args below meth c (zEnd below D B (zRi fun r z' G' => ∃ w, TA b0 w G' ∧ Fr b0 475 G G' ∧ Q r w) args s 109 654) D B 5 k9 m9 26 [] [some (.ref b0), some (.int y1), some (.int y2), some (.int y3), none] z9 G9 := by
    intro n9 
    induction n9 with
    | zero =>
      intro _ _ _ _ _ _ _ _ _ _ _ h
      exact (h : False).elim
    | succ n ih =>
      intro y1 y2 y3 v0 G9 g0 gF z9 k9 m9 hk h
      rw [PL_LAW_told_26] at h
      have hk2 := lk_succ hk
      refine z_iload_n O dL_told_26 rfl rfl ?_
      refine z_iconst (v := 1) O dL_told_27 (by decide) ?_
      refine z_iload_n O dL_told_28 rfl rfl ?_
      refine z_iconst (v := 4) O dL_told_29 (by decide) ?_
      refine z_irem O dL_told_30 (by decide) ?_
      refine z_iadd O dL_told_31 ?_
      refine z_icmp_ge (tgt := 228) O dL_told_32 (by decide) (fun c10_ => ?_) (fun c10_ => ?_)
      · have h := h.1 c10_
        exact z_subL (L' := [some (.ref b0), some (.int y1), some (.int y2), none, none]) (zLe.sub (And.intro rfl (And.intro rfl (And.intro rfl True.intro)))) (HJ228 y1 y2 v0 G9 g0 gF _ _ _ (lk_weak hk2 (c' := 8) (Nat.le_of_ble_eq_true rfl) (Nat.zero_le _)) h)
      · have h := h.2 c10_
        refine z_iload_n O dL_told_35 rfl rfl ?_
        refine z_if_eq (tgt := 228) O dL_told_36 (by decide) (fun c41_ => ?_) (fun c41_ => ?_)
        · have h := h.1 c41_
          exact z_subL (L' := [some (.ref b0), some (.int y1), some (.int y2), none, none]) (zLe.sub (And.intro rfl (And.intro rfl (And.intro rfl True.intro)))) (HJ228 y1 y2 v0 G9 g0 gF _ _ _ (lk_weak hk2 (c' := 8) (Nat.le_of_ble_eq_true rfl) (Nat.zero_le _)) h)
        · have h := h.2 c41_
          refine z_iload_n O dL_told_39 rfl rfl ?_
          refine z_iload_n O dL_told_40 rfl rfl ?_
          refine z_ishr O dL_told_41 ?_
          refine z_istore (L' := [some (.ref b0), some (.int y1), some (.int y2), some (.int y3), some (.int (zshr y1 y3))]) O dL_told_42 (by decide) rfl ?_
          refine z_aload_n O dL_told_44 rfl rfl ?_
          refine z_bipush (v := 119) O dL_told_45 (by decide) ?_
          refine z_bipush (v := 48) O dL_told_47 (by decide) ?_
          refine z_iload O dL_told_49 rfl ?_
          refine z_bipush (v := 8) O dL_told_51 (by decide) ?_
          refine z_irem O dL_told_53 (by decide) ?_
          refine z_iadd O dL_told_54 ?_
          refine z_bipush (v := 48) O dL_told_55 (by decide) ?_
          refine z_iload O dL_told_57 rfl ?_
          refine z_bipush (v := 10) O dL_told_59 (by decide) ?_
          refine z_irem O dL_told_61 (by decide) ?_
          refine z_iadd O dL_told_62 ?_
          refine z_bipush (v := 48) O dL_told_63 (by decide) ?_
          refine z_iload O dL_told_65 rfl ?_
          refine z_iconst (v := 3) O dL_told_67 (by decide) ?_
          refine z_idiv O dL_told_68 (by decide) ?_
          refine z_bipush (v := 10) O dL_told_69 (by decide) ?_
          refine z_irem O dL_told_71 (by decide) ?_
          refine z_iadd O dL_told_72 ?_
          have hk43_ := lk_step 4 24 hk2 (Nat.le_of_ble_eq_true rfl)
          refine z_callSi (As := [.ref b0, .int 119, .int (48 + (zrem (zshr y1 y3) 8)), .int (48 + (zrem (zshr y1 y3) 10)), .int (48 + (zrem ((zshr y1 y3) / 3) 10))]) (st := []) O (s_LAW_says hfl g0 h) wy_L_says wl_RL_201 dL_told_73 rfl rfl ⟨Nat.le_of_ble_eq_true rfl, Nat.le_of_ble_eq_true rfl⟩ (Nat.le_of_ble_eq_true rfl) ⟨lk_k hk43_, lk_n hk43_⟩ (fun r42_ z44_ G45_ hq46_ => ?_)
          obtain ⟨v47_, k48_, f49_, h⟩ := hq46_
          have F50_ : Fr b0 475 G G45_ := Fr.trans gF f49_
          refine z_if_eq (tgt := 220) O dL_told_76 (by decide) (fun c51_ => ?_) (fun c51_ => ?_)
          · have h := h.1 c51_
            refine z_iconst (v := 0) O dL_told_220 (by decide) ?_
            refine z_istore_n (L' := [some (.ref b0), some (.int y1), some (.int 0), some (.int y3), some (.int (zshr y1 y3))]) O dL_told_221 rfl (by decide) rfl ?_
            refine z_iinc (v := (y3 + 1)) (L' := [some (.ref b0), some (.int y1), some (.int 0), some (.int (y3 + 1)), some (.int (zshr y1 y3))]) O dL_told_222 rfl (by first | rfl | decide) (by decide) rfl ?_
            refine z_goto (tgt := 26) O dL_told_225 (by decide) ?_
            exact z_subL (L' := [some (.ref b0), some (.int y1), some (.int 0), some (.int (y3 + 1)), none]) (zLe.sub (And.intro rfl (And.intro rfl (And.intro rfl (And.intro rfl True.intro))))) (ih y1 0 (y3 + 1) v47_ G45_ k48_ F50_ _ _ _ (lk_weak hk43_ (c' := 8) (Nat.le_of_ble_eq_true rfl) (Nat.le_refl _)) h)
          · have h := h.2 c51_
            refine z_aload_n O dL_told_79 rfl rfl ?_
            refine z_bipush (v := 48) O dL_told_80 (by decide) ?_
            refine z_iload O dL_told_82 rfl ?_
            refine z_iconst (v := 4) O dL_told_84 (by decide) ?_
            refine z_irem O dL_told_85 (by decide) ?_
            refine z_iadd O dL_told_86 ?_
            refine z_bipush (v := 49) O dL_told_87 (by decide) ?_
            refine z_iload O dL_told_89 rfl ?_
            refine z_bipush (v := 9) O dL_told_91 (by decide) ?_
            refine z_irem O dL_told_93 (by decide) ?_
            refine z_iadd O dL_told_94 ?_
            refine z_bipush (v := 106) O dL_told_95 (by decide) ?_
            refine z_bipush (v := 48) O dL_told_97 (by decide) ?_
            refine z_iload O dL_told_99 rfl ?_
            refine z_bipush (v := 8) O dL_told_101 (by decide) ?_
            refine z_irem O dL_told_103 (by decide) ?_
            refine z_iadd O dL_told_104 ?_
            have hk53_ := lk_step 4 20 hk43_ (Nat.le_of_ble_eq_true rfl)
            refine z_callSi (As := [.ref b0, .int (48 + (zrem (zshr y1 y3) 4)), .int (49 + (zrem (zshr y1 y3) 9)), .int 106, .int (48 + (zrem (zshr y1 y3) 8))]) (st := []) O (s_LAW_says hfl k48_ h) wy_L_says wl_RL_201 dL_told_105 rfl rfl ⟨Nat.le_of_ble_eq_true rfl, Nat.le_of_ble_eq_true rfl⟩ (Nat.le_of_ble_eq_true rfl) ⟨lk_k hk53_, lk_n hk53_⟩ (fun r52_ z54_ G55_ hq56_ => ?_)
            obtain ⟨v57_, k58_, f59_, h⟩ := hq56_
            have F60_ : Fr b0 475 G G55_ := Fr.trans F50_ f59_
            refine z_if_eq (tgt := 220) O dL_told_108 (by decide) (fun c61_ => ?_) (fun c61_ => ?_)
            · have h := h.1 c61_
              refine z_iconst (v := 0) O dL_told_220 (by decide) ?_
              refine z_istore_n (L' := [some (.ref b0), some (.int y1), some (.int 0), some (.int y3), some (.int (zshr y1 y3))]) O dL_told_221 rfl (by decide) rfl ?_
              refine z_iinc (v := (y3 + 1)) (L' := [some (.ref b0), some (.int y1), some (.int 0), some (.int (y3 + 1)), some (.int (zshr y1 y3))]) O dL_told_222 rfl (by first | rfl | decide) (by decide) rfl ?_
              refine z_goto (tgt := 26) O dL_told_225 (by decide) ?_
              exact z_subL (L' := [some (.ref b0), some (.int y1), some (.int 0), some (.int (y3 + 1)), none]) (zLe.sub (And.intro rfl (And.intro rfl (And.intro rfl (And.intro rfl True.intro))))) (ih y1 0 (y3 + 1) v57_ G55_ k58_ F60_ _ _ _ (lk_weak hk53_ (c' := 8) (Nat.le_of_ble_eq_true rfl) (Nat.le_refl _)) h)
            · have h := h.2 c61_
              refine z_aload_n O dL_told_111 rfl rfl ?_
              refine z_bipush (v := 48) O dL_told_112 (by decide) ?_
              refine z_iload O dL_told_114 rfl ?_
              refine z_iconst (v := 3) O dL_told_116 (by decide) ?_
              refine z_irem O dL_told_117 (by decide) ?_
              refine z_iadd O dL_told_118 ?_
              refine z_iload O dL_told_119 rfl ?_
              refine z_iconst (v := 2) O dL_told_121 (by decide) ?_
              refine z_irem O dL_told_122 (by decide) ?_
              refine z_if_ne (tgt := 131) O dL_told_123 (by decide) (fun c62_ => ?_) (fun c62_ => ?_)
              · have h := h.1 c62_
                refine z_bipush (v := 45) O dL_told_131 (by decide) ?_
                exact z_subL (L' := [some (.ref b0), some (.int y1), none, some (.int y3), some (.int (zshr y1 y3))]) (zLe.sub (And.intro rfl (And.intro rfl (And.intro rfl (And.intro rfl True.intro))))) (HJ133 _ (n * 20 + 0) ih y1 y3 (zshr y1 y3) 45 (48 + (zrem (zshr y1 y3) 3)) v57_ G55_ k58_ F60_ _ _ _ (lk_weak hk53_ (c' := 20) (Nat.le_of_ble_eq_true rfl) (Nat.le_refl _)) h)
              · have h := h.2 c62_
                refine z_bipush (v := 43) O dL_told_126 (by decide) ?_
                refine z_goto (tgt := 133) O dL_told_128 (by decide) ?_
                exact z_subL (L' := [some (.ref b0), some (.int y1), none, some (.int y3), some (.int (zshr y1 y3))]) (zLe.sub (And.intro rfl (And.intro rfl (And.intro rfl (And.intro rfl True.intro))))) (HJ133 _ (n * 20 + 0) ih y1 y3 (zshr y1 y3) 43 (48 + (zrem (zshr y1 y3) 3)) v57_ G55_ k58_ F60_ _ _ _ (lk_weak hk53_ (c' := 20) (Nat.le_of_ble_eq_true rfl) (Nat.le_refl _)) h)
  refine z_aload_n O dL_told_0 rfl rfl ?_
  refine z_callVi (As := []) (st := []) O (s_T_clearText hfl h0 h) wy_X5_clearText wl_RL_198 dL_told_1 rfl rfl (T_obj h0) ⟨by decide, rfl⟩ ⟨Nat.le_of_ble_eq_true rfl, Nat.le_of_ble_eq_true rfl⟩ (Nat.le_of_ble_eq_true rfl) ⟨lk_k hk0, lk_n hk0⟩ (fun r1_ z2_ G3_ hq4_ => ?_)
  obtain ⟨rfl, v5_, k6_, f7_, h⟩ := hq4_
  have F8_ : Fr b0 475 G G3_ := Fr.trans Fr.rf f7_
  refine z_if_lt (tgt := 22) O dL_told_4 (by decide) (fun c9_ => ?_) (fun c9_ => ?_)
  · have h := h.1 c9_
    refine z_iconst (v := 0) O dL_told_22 (by decide) ?_
    refine z_istore_n (L' := [some (.ref b0), some (.int x1), some (.int 0), none, none]) O dL_told_23 rfl (by decide) rfl ?_
    refine z_iconst (v := 0) O dL_told_24 (by decide) ?_
    refine z_istore_n (L' := [some (.ref b0), some (.int x1), some (.int 0), some (.int 0), none]) O dL_told_25 rfl (by decide) rfl ?_
    obtain ⟨n104_, hbn104_, h⟩ := h
    exact z_subL (L' := [some (.ref b0), some (.int x1), some (.int 0), some (.int 0), none]) (zLe.sub (And.intro rfl (And.intro rfl (And.intro rfl (And.intro rfl True.intro))))) (HL26 n104_ x1 0 0 v5_ G3_ k6_ F8_ _ _ _ (lk_loop hk0 hbn104_ (I := 20) (base := 8) (Nat.le_of_ble_eq_true rfl) (Nat.le_refl _)) h)
  · have h := h.2 c9_
    refine z_aload_n O dL_told_7 rfl rfl ?_
    refine z_bipush (v := 71) O dL_told_8 (by decide) ?_
    have hk106_ := lk_step 1 108 hk0 (Nat.le_of_ble_eq_true rfl)
    refine z_callHl (As := [.ref b0, .int 71]) (st := []) O (s_LAW_append hfl k6_ h) wh_L_append wl_RL_174 dL_told_10 rfl rfl ⟨Nat.le_of_ble_eq_true rfl, Nat.le_of_ble_eq_true rfl⟩ (Nat.le_of_ble_eq_true rfl) ⟨lk_k hk106_, lk_n hk106_⟩ (fun r105_ z107_ G108_ hq109_ => ?_)
    obtain ⟨v110_, k111_, f112_, h⟩ := hq109_
    have F113_ : Fr b0 475 G G108_ := Fr.trans F8_ f112_
    refine z_lconst (v := 0) O dL_told_13 (by decide) ?_
    refine z_lcmp O dL_told_14 ?_
    refine z_if_le (tgt := 22) O dL_told_15 (by decide) (fun c114_ => ?_) (fun c114_ => ?_)
    · have h := h.1 c114_
      refine z_iconst (v := 0) O dL_told_22 (by decide) ?_
      refine z_istore_n (L' := [some (.ref b0), some (.int x1), some (.int 0), none, none]) O dL_told_23 rfl (by decide) rfl ?_
      refine z_iconst (v := 0) O dL_told_24 (by decide) ?_
      refine z_istore_n (L' := [some (.ref b0), some (.int x1), some (.int 0), some (.int 0), none]) O dL_told_25 rfl (by decide) rfl ?_
      obtain ⟨n115_, hbn115_, h⟩ := h
      exact z_subL (L' := [some (.ref b0), some (.int x1), some (.int 0), some (.int 0), none]) (zLe.sub (And.intro rfl (And.intro rfl (And.intro rfl (And.intro rfl True.intro))))) (HL26 n115_ x1 0 0 v110_ G108_ k111_ F113_ _ _ _ (lk_loop hk106_ hbn115_ (I := 20) (base := 8) (Nat.le_of_ble_eq_true rfl) (Nat.le_refl _)) h)
    · have h := h.2 c114_
      refine z_iconst (v := 1) O dL_told_18 (by decide) ?_
      refine z_goto (tgt := 23) O dL_told_19 (by decide) ?_
      refine z_istore_n (L' := [some (.ref b0), some (.int x1), some (.int 1), none, none]) O dL_told_23 rfl (by decide) rfl ?_
      refine z_iconst (v := 0) O dL_told_24 (by decide) ?_
      refine z_istore_n (L' := [some (.ref b0), some (.int x1), some (.int 1), some (.int 0), none]) O dL_told_25 rfl (by decide) rfl ?_
      obtain ⟨n116_, hbn116_, h⟩ := h
      exact z_subL (L' := [some (.ref b0), some (.int x1), some (.int 1), some (.int 0), none]) (zLe.sub (And.intro rfl (And.intro rfl (And.intro rfl (And.intro rfl True.intro))))) (HL26 n116_ x1 1 0 v110_ G108_ k111_ F113_ _ _ _ (lk_loop hk106_ hbn116_ (I := 20) (base := 8) (Nat.le_of_ble_eq_true rfl) (Nat.le_refl _)) h)
