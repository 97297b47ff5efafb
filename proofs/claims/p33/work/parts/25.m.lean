theorem dX5_succeeds_0 : decode cX5_succeeds 0 = .ok (.iload_n 1, 1) := by decide +kernel
theorem dX5_succeeds_1 : decode cX5_succeeds 1 = .ok (.sipush 10000, 3) := by decide +kernel
theorem dX5_succeeds_4 : decode cX5_succeeds 4 = .ok (.idiv, 1) := by decide +kernel
theorem dX5_succeeds_5 : decode cX5_succeeds 5 = .ok (.bipush 10, 2) := by decide +kernel
theorem dX5_succeeds_7 : decode cX5_succeeds 7 = .ok (.irem, 1) := by decide +kernel
theorem dX5_succeeds_8 : decode cX5_succeeds 8 = .ok (.istore_n 2, 1) := by decide +kernel
theorem dX5_succeeds_9 : decode cX5_succeeds 9 = .ok (.iload_n 1, 1) := by decide +kernel
theorem dX5_succeeds_10 : decode cX5_succeeds 10 = .ok (.bipush 10, 2) := by decide +kernel
theorem dX5_succeeds_12 : decode cX5_succeeds 12 = .ok (.irem, 1) := by decide +kernel
theorem dX5_succeeds_13 : decode cX5_succeeds 13 = .ok (.istore_n 3, 1) := by decide +kernel
theorem dX5_succeeds_14 : decode cX5_succeeds 14 = .ok (.iload_n 1, 1) := by decide +kernel
theorem dX5_succeeds_15 : decode cX5_succeeds 15 = .ok (.bipush 100, 2) := by decide +kernel
theorem dX5_succeeds_17 : decode cX5_succeeds 17 = .ok (.irem, 1) := by decide +kernel
theorem dX5_succeeds_18 : decode cX5_succeeds 18 = .ok (.istore 4, 2) := by decide +kernel
theorem dX5_succeeds_20 : decode cX5_succeeds 20 = .ok (.iload_n 1, 1) := by decide +kernel
theorem dX5_succeeds_21 : decode cX5_succeeds 21 = .ok (.sipush 1000, 3) := by decide +kernel
theorem dX5_succeeds_24 : decode cX5_succeeds 24 = .ok (.irem, 1) := by decide +kernel
theorem dX5_succeeds_25 : decode cX5_succeeds 25 = .ok (.istore 5, 2) := by decide +kernel
theorem dX5_succeeds_27 : decode cX5_succeeds 27 = .ok (.iload_n 1, 1) := by decide +kernel
theorem dX5_succeeds_28 : decode cX5_succeeds 28 = .ok (.bipush 100, 2) := by decide +kernel
theorem dX5_succeeds_30 : decode cX5_succeeds 30 = .ok (.idiv, 1) := by decide +kernel
theorem dX5_succeeds_31 : decode cX5_succeeds 31 = .ok (.bipush 100, 2) := by decide +kernel
theorem dX5_succeeds_33 : decode cX5_succeeds 33 = .ok (.irem, 1) := by decide +kernel
theorem dX5_succeeds_34 : decode cX5_succeeds 34 = .ok (.ifCond .ne 7, 3) := by decide +kernel
theorem dX5_succeeds_37 : decode cX5_succeeds 37 = .ok (.iconst 1, 1) := by decide +kernel
theorem dX5_succeeds_38 : decode cX5_succeeds 38 = .ok (.goto 4, 3) := by decide +kernel
theorem dX5_succeeds_41 : decode cX5_succeeds 41 = .ok (.iconst 0, 1) := by decide +kernel
theorem dX5_succeeds_42 : decode cX5_succeeds 42 = .ok (.istore 6, 2) := by decide +kernel
theorem dX5_succeeds_44 : decode cX5_succeeds 44 = .ok (.iload_n 1, 1) := by decide +kernel
theorem dX5_succeeds_45 : decode cX5_succeeds 45 = .ok (.ldc_w 276, 3) := by decide +kernel
theorem dX5_succeeds_48 : decode cX5_succeeds 48 = .ok (.idiv, 1) := by decide +kernel
theorem dX5_succeeds_49 : decode cX5_succeeds 49 = .ok (.tableswitch 323 1 9 #[51, 67, 88, 127, 152, 182, 209, 246, 275], 51) := by decide +kernel
theorem dX5_succeeds_100 : decode cX5_succeeds 100 = .ok (.aload_n 0, 1) := by decide +kernel
theorem dX5_succeeds_101 : decode cX5_succeeds 101 = .ok (.iconst 0, 1) := by decide +kernel
theorem dX5_succeeds_102 : decode cX5_succeeds 102 = .ok (.iload_n 2, 1) := by decide +kernel
theorem dX5_succeeds_103 : decode cX5_succeeds 103 = .ok (.iload_n 1, 1) := by decide +kernel
theorem dX5_succeeds_104 : decode cX5_succeeds 104 = .ok (.bipush 100, 2) := by decide +kernel
theorem dX5_succeeds_106 : decode cX5_succeeds 106 = .ok (.idiv, 1) := by decide +kernel
theorem dX5_succeeds_107 : decode cX5_succeeds 107 = .ok (.bipush 100, 2) := by decide +kernel
theorem dX5_succeeds_109 : decode cX5_succeeds 109 = .ok (.irem, 1) := by decide +kernel
theorem dX5_succeeds_110 : decode cX5_succeeds 110 = .ok (.iload 4, 2) := by decide +kernel
theorem dX5_succeeds_112 : decode cX5_succeeds 112 = .ok (.invokevirtual 201, 3) := by decide +kernel
theorem dX5_succeeds_115 : decode cX5_succeeds 115 = .ok (.ireturn, 1) := by decide +kernel
theorem dX5_succeeds_116 : decode cX5_succeeds 116 = .ok (.iload 6, 2) := by decide +kernel
theorem dX5_succeeds_118 : decode cX5_succeeds 118 = .ok (.ifCond .eq 17, 3) := by decide +kernel
theorem dX5_succeeds_121 : decode cX5_succeeds 121 = .ok (.aload_n 0, 1) := by decide +kernel
theorem dX5_succeeds_122 : decode cX5_succeeds 122 = .ok (.iload_n 2, 1) := by decide +kernel
theorem dX5_succeeds_123 : decode cX5_succeeds 123 = .ok (.iload 4, 2) := by decide +kernel
theorem dX5_succeeds_125 : decode cX5_succeeds 125 = .ok (.invokevirtual 277, 3) := by decide +kernel
theorem dX5_succeeds_128 : decode cX5_succeeds 128 = .ok (.ifCond .eq 7, 3) := by decide +kernel
theorem dX5_succeeds_131 : decode cX5_succeeds 131 = .ok (.iconst 1, 1) := by decide +kernel
theorem dX5_succeeds_132 : decode cX5_succeeds 132 = .ok (.goto 4, 3) := by decide +kernel
theorem dX5_succeeds_135 : decode cX5_succeeds 135 = .ok (.iconst 0, 1) := by decide +kernel
theorem dX5_succeeds_136 : decode cX5_succeeds 136 = .ok (.ireturn, 1) := by decide +kernel
theorem dX5_succeeds_137 : decode cX5_succeeds 137 = .ok (.iload_n 1, 1) := by decide +kernel
theorem dX5_succeeds_138 : decode cX5_succeeds 138 = .ok (.bipush 10, 2) := by decide +kernel
theorem dX5_succeeds_140 : decode cX5_succeeds 140 = .ok (.idiv, 1) := by decide +kernel
theorem dX5_succeeds_141 : decode cX5_succeeds 141 = .ok (.bipush 100, 2) := by decide +kernel
theorem dX5_succeeds_143 : decode cX5_succeeds 143 = .ok (.irem, 1) := by decide +kernel
theorem dX5_succeeds_144 : decode cX5_succeeds 144 = .ok (.ifCond .ne 30, 3) := by decide +kernel
theorem dX5_succeeds_147 : decode cX5_succeeds 147 = .ok (.iload_n 3, 1) := by decide +kernel
theorem dX5_succeeds_148 : decode cX5_succeeds 148 = .ok (.iconst 1, 1) := by decide +kernel
theorem dX5_succeeds_149 : decode cX5_succeeds 149 = .ok (.if_icmp .gt 25, 3) := by decide +kernel
theorem dX5_succeeds_152 : decode cX5_succeeds 152 = .ok (.aload_n 0, 1) := by decide +kernel
theorem dX5_succeeds_153 : decode cX5_succeeds 153 = .ok (.iconst 1, 1) := by decide +kernel
theorem dX5_succeeds_154 : decode cX5_succeeds 154 = .ok (.iload_n 2, 1) := by decide +kernel
theorem dX5_succeeds_155 : decode cX5_succeeds 155 = .ok (.iload_n 1, 1) := by decide +kernel
theorem dX5_succeeds_156 : decode cX5_succeeds 156 = .ok (.sipush 1000, 3) := by decide +kernel
theorem dX5_succeeds_159 : decode cX5_succeeds 159 = .ok (.idiv, 1) := by decide +kernel
theorem dX5_succeeds_160 : decode cX5_succeeds 160 = .ok (.bipush 10, 2) := by decide +kernel
theorem dX5_succeeds_162 : decode cX5_succeeds 162 = .ok (.irem, 1) := by decide +kernel
theorem dX5_succeeds_163 : decode cX5_succeeds 163 = .ok (.iload_n 3, 1) := by decide +kernel
theorem dX5_succeeds_164 : decode cX5_succeeds 164 = .ok (.invokevirtual 201, 3) := by decide +kernel
theorem dX5_succeeds_167 : decode cX5_succeeds 167 = .ok (.ifCond .eq 7, 3) := by decide +kernel
theorem dX5_succeeds_170 : decode cX5_succeeds 170 = .ok (.iconst 1, 1) := by decide +kernel
theorem dX5_succeeds_171 : decode cX5_succeeds 171 = .ok (.goto 4, 3) := by decide +kernel
theorem dX5_succeeds_174 : decode cX5_succeeds 174 = .ok (.iconst 0, 1) := by decide +kernel
theorem dX5_succeeds_175 : decode cX5_succeeds 175 = .ok (.ireturn, 1) := by decide +kernel
theorem dX5_succeeds_176 : decode cX5_succeeds 176 = .ok (.iload_n 1, 1) := by decide +kernel
theorem dX5_succeeds_177 : decode cX5_succeeds 177 = .ok (.sipush 10000, 3) := by decide +kernel
theorem dX5_succeeds_180 : decode cX5_succeeds 180 = .ok (.irem, 1) := by decide +kernel
theorem dX5_succeeds_181 : decode cX5_succeeds 181 = .ok (.ifCond .ne 18, 3) := by decide +kernel
theorem dX5_succeeds_184 : decode cX5_succeeds 184 = .ok (.aload_n 0, 1) := by decide +kernel
theorem dX5_succeeds_185 : decode cX5_succeeds 185 = .ok (.iconst 3, 1) := by decide +kernel
theorem dX5_succeeds_186 : decode cX5_succeeds 186 = .ok (.iload_n 2, 1) := by decide +kernel
theorem dX5_succeeds_187 : decode cX5_succeeds 187 = .ok (.iconst 0, 1) := by decide +kernel
theorem dX5_succeeds_188 : decode cX5_succeeds 188 = .ok (.iconst 0, 1) := by decide +kernel
theorem dX5_succeeds_189 : decode cX5_succeeds 189 = .ok (.invokevirtual 201, 3) := by decide +kernel
theorem dX5_succeeds_192 : decode cX5_succeeds 192 = .ok (.ifCond .eq 7, 3) := by decide +kernel
theorem dX5_succeeds_195 : decode cX5_succeeds 195 = .ok (.iconst 1, 1) := by decide +kernel
theorem dX5_succeeds_196 : decode cX5_succeeds 196 = .ok (.goto 4, 3) := by decide +kernel
theorem dX5_succeeds_199 : decode cX5_succeeds 199 = .ok (.iconst 0, 1) := by decide +kernel
theorem dX5_succeeds_200 : decode cX5_succeeds 200 = .ok (.ireturn, 1) := by decide +kernel
theorem dX5_succeeds_201 : decode cX5_succeeds 201 = .ok (.iload_n 1, 1) := by decide +kernel
theorem dX5_succeeds_202 : decode cX5_succeeds 202 = .ok (.bipush 100, 2) := by decide +kernel
theorem dX5_succeeds_204 : decode cX5_succeeds 204 = .ok (.idiv, 1) := by decide +kernel
theorem dX5_succeeds_205 : decode cX5_succeeds 205 = .ok (.sipush 1000, 3) := by decide +kernel
theorem dX5_succeeds_208 : decode cX5_succeeds 208 = .ok (.irem, 1) := by decide +kernel
theorem dX5_succeeds_209 : decode cX5_succeeds 209 = .ok (.ifCond .ne 20, 3) := by decide +kernel
theorem dX5_succeeds_212 : decode cX5_succeeds 212 = .ok (.aload_n 0, 1) := by decide +kernel
theorem dX5_succeeds_213 : decode cX5_succeeds 213 = .ok (.bipush 6, 2) := by decide +kernel
theorem dX5_succeeds_215 : decode cX5_succeeds 215 = .ok (.iload 4, 2) := by decide +kernel
theorem dX5_succeeds_217 : decode cX5_succeeds 217 = .ok (.iconst 0, 1) := by decide +kernel
theorem dX5_succeeds_218 : decode cX5_succeeds 218 = .ok (.iconst 0, 1) := by decide +kernel
theorem dX5_succeeds_219 : decode cX5_succeeds 219 = .ok (.invokevirtual 201, 3) := by decide +kernel
theorem dX5_succeeds_222 : decode cX5_succeeds 222 = .ok (.ifCond .eq 7, 3) := by decide +kernel
theorem dX5_succeeds_225 : decode cX5_succeeds 225 = .ok (.iconst 1, 1) := by decide +kernel
theorem dX5_succeeds_226 : decode cX5_succeeds 226 = .ok (.goto 4, 3) := by decide +kernel
theorem dX5_succeeds_229 : decode cX5_succeeds 229 = .ok (.iconst 0, 1) := by decide +kernel
theorem dX5_succeeds_230 : decode cX5_succeeds 230 = .ok (.ireturn, 1) := by decide +kernel
theorem dX5_succeeds_231 : decode cX5_succeeds 231 = .ok (.iload_n 1, 1) := by decide +kernel
theorem dX5_succeeds_232 : decode cX5_succeeds 232 = .ok (.sipush 1000, 3) := by decide +kernel
theorem dX5_succeeds_235 : decode cX5_succeeds 235 = .ok (.idiv, 1) := by decide +kernel
theorem dX5_succeeds_236 : decode cX5_succeeds 236 = .ok (.bipush 10, 2) := by decide +kernel
theorem dX5_succeeds_238 : decode cX5_succeeds 238 = .ok (.irem, 1) := by decide +kernel
theorem dX5_succeeds_239 : decode cX5_succeeds 239 = .ok (.ifCond .ne 17, 3) := by decide +kernel
theorem dX5_succeeds_242 : decode cX5_succeeds 242 = .ok (.aload_n 0, 1) := by decide +kernel
theorem dX5_succeeds_243 : decode cX5_succeeds 243 = .ok (.iload_n 2, 1) := by decide +kernel
theorem dX5_succeeds_244 : decode cX5_succeeds 244 = .ok (.iload 5, 2) := by decide +kernel
theorem dX5_succeeds_246 : decode cX5_succeeds 246 = .ok (.invokevirtual 280, 3) := by decide +kernel
theorem dX5_succeeds_249 : decode cX5_succeeds 249 = .ok (.ifCond .eq 7, 3) := by decide +kernel
theorem dX5_succeeds_252 : decode cX5_succeeds 252 = .ok (.iconst 1, 1) := by decide +kernel
theorem dX5_succeeds_253 : decode cX5_succeeds 253 = .ok (.goto 4, 3) := by decide +kernel
theorem dX5_succeeds_256 : decode cX5_succeeds 256 = .ok (.iconst 0, 1) := by decide +kernel
theorem dX5_succeeds_257 : decode cX5_succeeds 257 = .ok (.ireturn, 1) := by decide +kernel
theorem dX5_succeeds_258 : decode cX5_succeeds 258 = .ok (.iload 6, 2) := by decide +kernel
theorem dX5_succeeds_260 : decode cX5_succeeds 260 = .ok (.ifCond .eq 33, 3) := by decide +kernel
theorem dX5_succeeds_263 : decode cX5_succeeds 263 = .ok (.iload_n 2, 1) := by decide +kernel
theorem dX5_succeeds_264 : decode cX5_succeeds 264 = .ok (.bipush 8, 2) := by decide +kernel
theorem dX5_succeeds_266 : decode cX5_succeeds 266 = .ok (.if_icmp .ge 27, 3) := by decide +kernel
theorem dX5_succeeds_269 : decode cX5_succeeds 269 = .ok (.aload_n 0, 1) := by decide +kernel
theorem dX5_succeeds_270 : decode cX5_succeeds 270 = .ok (.getfield 90, 3) := by decide +kernel
theorem dX5_succeeds_273 : decode cX5_succeeds 273 = .ok (.iload_n 2, 1) := by decide +kernel
theorem dX5_succeeds_274 : decode cX5_succeeds 274 = .ok (.aload_n 0, 1) := by decide +kernel
theorem dX5_succeeds_275 : decode cX5_succeeds 275 = .ok (.getfield 90, 3) := by decide +kernel
theorem dX5_succeeds_278 : decode cX5_succeeds 278 = .ok (.getfield 178, 3) := by decide +kernel
theorem dX5_succeeds_281 : decode cX5_succeeds 281 = .ok (.invokevirtual 185, 3) := by decide +kernel
theorem dX5_succeeds_284 : decode cX5_succeeds 284 = .ok (.iload 4, 2) := by decide +kernel
theorem dX5_succeeds_286 : decode cX5_succeeds 286 = .ok (.if_icmp .ne 7, 3) := by decide +kernel
theorem dX5_succeeds_289 : decode cX5_succeeds 289 = .ok (.iconst 1, 1) := by decide +kernel
theorem dX5_succeeds_290 : decode cX5_succeeds 290 = .ok (.goto 4, 3) := by decide +kernel
theorem dX5_succeeds_293 : decode cX5_succeeds 293 = .ok (.iconst 0, 1) := by decide +kernel
theorem dX5_succeeds_294 : decode cX5_succeeds 294 = .ok (.ireturn, 1) := by decide +kernel
theorem dX5_succeeds_295 : decode cX5_succeeds 295 = .ok (.iload_n 1, 1) := by decide +kernel
theorem dX5_succeeds_296 : decode cX5_succeeds 296 = .ok (.sipush 1000, 3) := by decide +kernel
theorem dX5_succeeds_299 : decode cX5_succeeds 299 = .ok (.idiv, 1) := by decide +kernel
theorem dX5_succeeds_300 : decode cX5_succeeds 300 = .ok (.bipush 100, 2) := by decide +kernel
theorem dX5_succeeds_302 : decode cX5_succeeds 302 = .ok (.irem, 1) := by decide +kernel
theorem dX5_succeeds_303 : decode cX5_succeeds 303 = .ok (.ifCond .ne 19, 3) := by decide +kernel
theorem dX5_succeeds_306 : decode cX5_succeeds 306 = .ok (.aload_n 0, 1) := by decide +kernel
theorem dX5_succeeds_307 : decode cX5_succeeds 307 = .ok (.getfield 90, 3) := by decide +kernel
theorem dX5_succeeds_310 : decode cX5_succeeds 310 = .ok (.getfield 175, 3) := by decide +kernel
theorem dX5_succeeds_313 : decode cX5_succeeds 313 = .ok (.iload 5, 2) := by decide +kernel
theorem dX5_succeeds_315 : decode cX5_succeeds 315 = .ok (.if_icmp .lt 7, 3) := by decide +kernel
theorem dX5_succeeds_318 : decode cX5_succeeds 318 = .ok (.iconst 1, 1) := by decide +kernel
theorem dX5_succeeds_319 : decode cX5_succeeds 319 = .ok (.goto 4, 3) := by decide +kernel
theorem dX5_succeeds_322 : decode cX5_succeeds 322 = .ok (.iconst 0, 1) := by decide +kernel
theorem dX5_succeeds_323 : decode cX5_succeeds 323 = .ok (.ireturn, 1) := by decide +kernel
theorem dX5_succeeds_324 : decode cX5_succeeds 324 = .ok (.iload_n 1, 1) := by decide +kernel
theorem dX5_succeeds_325 : decode cX5_succeeds 325 = .ok (.bipush 10, 2) := by decide +kernel
theorem dX5_succeeds_327 : decode cX5_succeeds 327 = .ok (.idiv, 1) := by decide +kernel
theorem dX5_succeeds_328 : decode cX5_succeeds 328 = .ok (.sipush 1000, 3) := by decide +kernel
theorem dX5_succeeds_331 : decode cX5_succeeds 331 = .ok (.irem, 1) := by decide +kernel
theorem dX5_succeeds_332 : decode cX5_succeeds 332 = .ok (.ifCond .ne 38, 3) := by decide +kernel
theorem dX5_succeeds_335 : decode cX5_succeeds 335 = .ok (.iload_n 3, 1) := by decide +kernel
theorem dX5_succeeds_336 : decode cX5_succeeds 336 = .ok (.iconst 1, 1) := by decide +kernel
theorem dX5_succeeds_337 : decode cX5_succeeds 337 = .ok (.if_icmp .gt 33, 3) := by decide +kernel
theorem dX5_succeeds_340 : decode cX5_succeeds 340 = .ok (.aload_n 0, 1) := by decide +kernel
theorem dX5_succeeds_341 : decode cX5_succeeds 341 = .ok (.iload_n 2, 1) := by decide +kernel
theorem dX5_succeeds_342 : decode cX5_succeeds 342 = .ok (.invokevirtual 122, 3) := by decide +kernel
theorem dX5_succeeds_345 : decode cX5_succeeds 345 = .ok (.ifnull 25, 3) := by decide +kernel
theorem dX5_succeeds_348 : decode cX5_succeeds 348 = .ok (.aload_n 0, 1) := by decide +kernel
theorem dX5_succeeds_349 : decode cX5_succeeds 349 = .ok (.iload_n 2, 1) := by decide +kernel
theorem dX5_succeeds_350 : decode cX5_succeeds 350 = .ok (.invokevirtual 198, 3) := by decide +kernel
theorem dX5_succeeds_353 : decode cX5_succeeds 353 = .ok (.iload_n 3, 1) := by decide +kernel
theorem dX5_succeeds_354 : decode cX5_succeeds 354 = .ok (.iconst 1, 1) := by decide +kernel
theorem dX5_succeeds_355 : decode cX5_succeeds 355 = .ok (.if_icmp .ne 7, 3) := by decide +kernel
theorem dX5_succeeds_358 : decode cX5_succeeds 358 = .ok (.iconst 1, 1) := by decide +kernel
theorem dX5_succeeds_359 : decode cX5_succeeds 359 = .ok (.goto 4, 3) := by decide +kernel
theorem dX5_succeeds_362 : decode cX5_succeeds 362 = .ok (.iconst 0, 1) := by decide +kernel
theorem dX5_succeeds_363 : decode cX5_succeeds 363 = .ok (.if_icmp .ne 7, 3) := by decide +kernel
theorem dX5_succeeds_366 : decode cX5_succeeds 366 = .ok (.iconst 1, 1) := by decide +kernel
theorem dX5_succeeds_367 : decode cX5_succeeds 367 = .ok (.goto 4, 3) := by decide +kernel
theorem dX5_succeeds_370 : decode cX5_succeeds 370 = .ok (.iconst 0, 1) := by decide +kernel
theorem dX5_succeeds_371 : decode cX5_succeeds 371 = .ok (.ireturn, 1) := by decide +kernel
theorem dX5_succeeds_372 : decode cX5_succeeds 372 = .ok (.iconst 0, 1) := by decide +kernel
theorem dX5_succeeds_373 : decode cX5_succeeds 373 = .ok (.ireturn, 1) := by decide +kernel
def PJ_T_succeeds_42 (x1 : Int32) (y1 : Int32) (y2 : Int32) (y3 : Int32) (y4 : Int32) (y5 : Int32) (u0 : Int32) (v0 : ST) (Q : Int32 → ST → Prop) : Prop := (((y1 / 100000) = 1 → P_S_attempt 0 y2 (zrem (y1 / 100) 100) y4 v0 (fun r3_ v7_ => (zb r3_ ∧ Q r3_ v7_))) ∧ (¬ (y1 / 100000) = 1 → (((y1 / 100000) = 2 → ((u0 = 0 → Q 0 v0) ∧ (¬ u0 = 0 → P_S_getsFurther y2 y4 v0 (fun r13_ v17_ => (((r13_ = 0 → Q 0 v17_) ∧ (¬ r13_ = 0 → Q 1 v17_))))))) ∧ (¬ (y1 / 100000) = 2 → (((y1 / 100000) = 3 → ((¬ (zrem (y1 / 10) 100) = 0 → Q 0 v0) ∧ ((zrem (y1 / 10) 100) = 0 → ((1 < y3 → Q 0 v0) ∧ (¬ 1 < y3 → P_S_attempt 1 y2 (zrem (y1 / 1000) 10) y3 v0 (fun r25_ v29_ => (((r25_ = 0 → Q 0 v29_) ∧ (¬ r25_ = 0 → Q 1 v29_))))))))) ∧ (¬ (y1 / 100000) = 3 → (((y1 / 100000) = 4 → ((¬ (zrem y1 10000) = 0 → Q 0 v0) ∧ ((zrem y1 10000) = 0 → P_S_attempt 3 y2 0 0 v0 (fun r36_ v40_ => (((r36_ = 0 → Q 0 v40_) ∧ (¬ r36_ = 0 → Q 1 v40_))))))) ∧ (¬ (y1 / 100000) = 4 → (((y1 / 100000) = 5 → ((¬ (zrem (y1 / 100) 1000) = 0 → Q 0 v0) ∧ ((zrem (y1 / 100) 1000) = 0 → P_S_attempt 6 y4 0 0 v0 (fun r47_ v51_ => (((r47_ = 0 → Q 0 v51_) ∧ (¬ r47_ = 0 → Q 1 v51_))))))) ∧ (¬ (y1 / 100000) = 5 → (((y1 / 100000) = 6 → ((¬ (zrem (y1 / 1000) 10) = 0 → Q 0 v0) ∧ ((zrem (y1 / 1000) 10) = 0 → P_S_isAtLeastAt y2 y5 v0 (fun r58_ => (((r58_ = 0 → Q 0 v0) ∧ (¬ r58_ = 0 → Q 1 v0))))))) ∧ (¬ (y1 / 100000) = 6 → (((y1 / 100000) = 7 → ((u0 = 0 → Q 0 v0) ∧ (¬ u0 = 0 → ((8 ≤ y2 → Q 0 v0) ∧ (¬ 8 ≤ y2 → P_L_toldForwards y2 (L_end (S_log v0)) (S_log v0) (fun r66_ => (((¬ r66_ = y4 → Q 0 v0) ∧ (r66_ = y4 → Q 1 v0))))))))) ∧ (¬ (y1 / 100000) = 7 → (((y1 / 100000) = 8 → ((¬ (zrem (y1 / 1000) 100) = 0 → Q 0 v0) ∧ ((zrem (y1 / 1000) 100) = 0 → (((L_first (S_log v0)) < y5 → Q 0 v0) ∧ (¬ (L_first (S_log v0)) < y5 → Q 1 v0))))) ∧ (¬ (y1 / 100000) = 8 → (((y1 / 100000) = 9 → ((¬ (zrem (y1 / 10) 1000) = 0 → Q 0 v0) ∧ ((zrem (y1 / 10) 1000) = 0 → ((1 < y3 → Q 0 v0) ∧ (¬ 1 < y3 → P_S_reader y2 v0 (fun r81_ => ((r81_ = none → Q 0 v0) ∧ (∀ i83_, r81_ = some i83_ → P_S_hasHold y2 v0 (fun r85_ => (((¬ y3 = 1 → ((¬ r85_ = 0 → Q 0 v0) ∧ (r85_ = 0 → Q 1 v0))) ∧ (y3 = 1 → ((¬ r85_ = 1 → Q 0 v0) ∧ (r85_ = 1 → Q 1 v0)))))))))))))) ∧ (¬ (y1 / 100000) = 9 → Q 0 v0))))))))))))))))))
def P_T_succeeds (x1 : Int32) (v0 : ST) (Q : Int32 → ST → Prop) : Prop := ((¬ (zrem (x1 / 100) 100) = 0 → PJ_T_succeeds_42 x1 x1 (zrem (x1 / 10000) 10) (zrem x1 10) (zrem x1 100) (zrem x1 1000) 0 v0 Q) ∧ ((zrem (x1 / 100) 100) = 0 → PJ_T_succeeds_42 x1 x1 (zrem (x1 / 10000) 10) (zrem x1 10) (zrem x1 100) (zrem x1 1000) 1 v0 Q))
set_option maxRecDepth 100000 in
theorem s_T_succeeds {l : Launch} {D : zD} {B : Nat} {sa : Nat → Nat} (hfl : l.stackTraces = false) {z : Nat} {G : zG} {b0 : Nat} {x1 : Int32} {v0 : ST} {Q : Int32 → ST → Prop} (h0 : SA b0 v0 G) (h : P_T_succeeds x1 v0 Q) : zSp l D B sa yX5_succeeds cX5_succeeds 7 (some .boolean) 6 165 0 0 [.ref b0, .int x1] z G (zRi fun r z' G' => z = z' ∧ ∃ w, SA b0 w G' ∧ Fr b0 26 G G' ∧ Q r w) := by
  unfold P_T_succeeds at h
  refine z_ofW (by decide +kernel) hfl [some (.ref b0), some (.int x1), none, none, none, none, none] rfl (Nat.le_of_ble_eq_true rfl) (fun p e s m args below meth c O hret hlk hnm => ?_)
  have O : zO p l s m args c D B sa 7 cX5_succeeds RX5 := O
  have HJ42 : ∀ (y1 : Int32) (y2 : Int32) (y3 : Int32) (y4 : Int32) (y5 : Int32) (u0 : Int32) (v0 : ST) (G9 : zG) (g0 : SA b0 v0 G9) (gF : Fr b0 26 G G9), PJ_T_succeeds_42 x1 y1 y2 y3 y4 y5 u0 v0 Q → zT p l e (zrm 6 165 0 0) s m args below meth c (zEnd below D B (zRi fun r z' G' => z = z' ∧ ∃ w, SA b0 w G' ∧ Fr b0 26 G G' ∧ Q r w) args s 0 0) D B 7 0 0 42 [.int u0] [some (.ref b0), some (.int y1), some (.int y2), some (.int y3), some (.int y4), some (.int y5), none] z G9 := by
    intro y1 y2 y3 y4 y5 u0 v0 G9 g0 gF h
    unfold PJ_T_succeeds_42 at h
    refine z_istore (L' := [some (.ref b0), some (.int y1), some (.int y2), some (.int y3), some (.int y4), some (.int y5), some (.int u0)]) O dX5_succeeds_42 (by decide) rfl ?_
    refine z_iload_n O dX5_succeeds_44 rfl rfl ?_
    refine z_ldcw (v := 100000) O wc_RX5_276 dX5_succeeds_45 ?_
    refine z_idiv O dX5_succeeds_48 (by decide) ?_
    rcases Decidable.em ((y1 / 100000) = 1) with c2_ | c2_
    · have h := h.1 c2_
      refine z_tsw (v := 1) (tgt := 100) O dX5_succeeds_49 c2_ (by decide) (by decide) rfl (by decide) ?_
      refine z_aload_n O dX5_succeeds_100 rfl rfl ?_
      refine z_iconst (v := 0) O dX5_succeeds_101 (by decide) ?_
      refine z_iload_n O dX5_succeeds_102 rfl rfl ?_
      refine z_iload_n O dX5_succeeds_103 rfl rfl ?_
      refine z_bipush (v := 100) O dX5_succeeds_104 (by decide) ?_
      refine z_idiv O dX5_succeeds_106 (by decide) ?_
      refine z_bipush (v := 100) O dX5_succeeds_107 (by decide) ?_
      refine z_irem O dX5_succeeds_109 (by decide) ?_
      refine z_iload O dX5_succeeds_110 rfl ?_
      refine z_callVi (As := [.int 0, .int y2, .int (zrem (y1 / 100) 100), .int y4]) (st := []) O (s_S_attempt hfl g0 h) wy_X3_attempt wl_RX5_201 dX5_succeeds_112 rfl rfl (S_obj g0) ⟨by decide, rfl⟩ ⟨Nat.le_of_ble_eq_true rfl, Nat.le_of_ble_eq_true rfl⟩ (Nat.le_of_ble_eq_true rfl) ⟨Nat.le_of_ble_eq_true rfl, Nat.le_of_ble_eq_true rfl⟩ (fun r3_ z4_ G5_ hq6_ => ?_)
      obtain ⟨rfl, v7_, k8_, f9_, h⟩ := hq6_
      have F10_ : Fr b0 26 G G5_ := Fr.trans gF f9_
      obtain ⟨hz, h⟩ := h
      exact z_zret O hret (z_narb hz) hlk dX5_succeeds_115 (Nat.le_of_ble_eq_true rfl) (Nat.le_of_ble_eq_true rfl) ⟨_, rfl, rfl, _, k8_, F10_, h⟩
    · have h := h.2 c2_
      rcases Decidable.em ((y1 / 100000) = 2) with c11_ | c11_
      · have h := h.1 c11_
        refine z_tsw (v := 2) (tgt := 116) O dX5_succeeds_49 c11_ (by decide) (by decide) rfl (by decide) ?_
        refine z_iload O dX5_succeeds_116 rfl ?_
        refine z_if_eq (tgt := 135) O dX5_succeeds_118 (by decide) (fun c12_ => ?_) (fun c12_ => ?_)
        · have h := h.1 c12_
          refine z_iconst (v := 0) O dX5_succeeds_135 (by decide) ?_
          exact z_zret O hret rfl hlk dX5_succeeds_136 (Nat.le_of_ble_eq_true rfl) (Nat.le_of_ble_eq_true rfl) ⟨_, rfl, rfl, _, g0, gF, h⟩
        · have h := h.2 c12_
          refine z_aload_n O dX5_succeeds_121 rfl rfl ?_
          refine z_iload_n O dX5_succeeds_122 rfl rfl ?_
          refine z_iload O dX5_succeeds_123 rfl ?_
          refine z_callVi (As := [.int y2, .int y4]) (st := []) O (s_S_getsFurther hfl g0 h) wy_X3_getsFurther wl_RX5_277 dX5_succeeds_125 rfl rfl (S_obj g0) ⟨by decide, rfl⟩ ⟨Nat.le_of_ble_eq_true rfl, Nat.le_of_ble_eq_true rfl⟩ (Nat.le_of_ble_eq_true rfl) ⟨Nat.le_of_ble_eq_true rfl, Nat.le_of_ble_eq_true rfl⟩ (fun r13_ z14_ G15_ hq16_ => ?_)
          obtain ⟨rfl, v17_, k18_, f19_, h⟩ := hq16_
          have F20_ : Fr b0 26 G G15_ := Fr.trans gF f19_
          refine z_if_eq (tgt := 135) O dX5_succeeds_128 (by decide) (fun c21_ => ?_) (fun c21_ => ?_)
          · have h := h.1 c21_
            refine z_iconst (v := 0) O dX5_succeeds_135 (by decide) ?_
            exact z_zret O hret rfl hlk dX5_succeeds_136 (Nat.le_of_ble_eq_true rfl) (Nat.le_of_ble_eq_true rfl) ⟨_, rfl, rfl, _, k18_, F20_, h⟩
          · have h := h.2 c21_
            refine z_iconst (v := 1) O dX5_succeeds_131 (by decide) ?_
            refine z_goto (tgt := 136) O dX5_succeeds_132 (by decide) ?_
            exact z_zret O hret rfl hlk dX5_succeeds_136 (Nat.le_of_ble_eq_true rfl) (Nat.le_of_ble_eq_true rfl) ⟨_, rfl, rfl, _, k18_, F20_, h⟩
      · have h := h.2 c11_
        rcases Decidable.em ((y1 / 100000) = 3) with c22_ | c22_
        · have h := h.1 c22_
          refine z_tsw (v := 3) (tgt := 137) O dX5_succeeds_49 c22_ (by decide) (by decide) rfl (by decide) ?_
          refine z_iload_n O dX5_succeeds_137 rfl rfl ?_
          refine z_bipush (v := 10) O dX5_succeeds_138 (by decide) ?_
          refine z_idiv O dX5_succeeds_140 (by decide) ?_
          refine z_bipush (v := 100) O dX5_succeeds_141 (by decide) ?_
          refine z_irem O dX5_succeeds_143 (by decide) ?_
          refine z_if_ne (tgt := 174) O dX5_succeeds_144 (by decide) (fun c23_ => ?_) (fun c23_ => ?_)
          · have h := h.1 c23_
            refine z_iconst (v := 0) O dX5_succeeds_174 (by decide) ?_
            exact z_zret O hret rfl hlk dX5_succeeds_175 (Nat.le_of_ble_eq_true rfl) (Nat.le_of_ble_eq_true rfl) ⟨_, rfl, rfl, _, g0, gF, h⟩
          · have h := h.2 c23_
            refine z_iload_n O dX5_succeeds_147 rfl rfl ?_
            refine z_iconst (v := 1) O dX5_succeeds_148 (by decide) ?_
            refine z_icmp_gt (tgt := 174) O dX5_succeeds_149 (by decide) (fun c24_ => ?_) (fun c24_ => ?_)
            · have h := h.1 c24_
              refine z_iconst (v := 0) O dX5_succeeds_174 (by decide) ?_
              exact z_zret O hret rfl hlk dX5_succeeds_175 (Nat.le_of_ble_eq_true rfl) (Nat.le_of_ble_eq_true rfl) ⟨_, rfl, rfl, _, g0, gF, h⟩
            · have h := h.2 c24_
              refine z_aload_n O dX5_succeeds_152 rfl rfl ?_
              refine z_iconst (v := 1) O dX5_succeeds_153 (by decide) ?_
              refine z_iload_n O dX5_succeeds_154 rfl rfl ?_
              refine z_iload_n O dX5_succeeds_155 rfl rfl ?_
              refine z_sipush (v := 1000) O dX5_succeeds_156 (by decide) ?_
              refine z_idiv O dX5_succeeds_159 (by decide) ?_
              refine z_bipush (v := 10) O dX5_succeeds_160 (by decide) ?_
              refine z_irem O dX5_succeeds_162 (by decide) ?_
              refine z_iload_n O dX5_succeeds_163 rfl rfl ?_
              refine z_callVi (As := [.int 1, .int y2, .int (zrem (y1 / 1000) 10), .int y3]) (st := []) O (s_S_attempt hfl g0 h) wy_X3_attempt wl_RX5_201 dX5_succeeds_164 rfl rfl (S_obj g0) ⟨by decide, rfl⟩ ⟨Nat.le_of_ble_eq_true rfl, Nat.le_of_ble_eq_true rfl⟩ (Nat.le_of_ble_eq_true rfl) ⟨Nat.le_of_ble_eq_true rfl, Nat.le_of_ble_eq_true rfl⟩ (fun r25_ z26_ G27_ hq28_ => ?_)
              obtain ⟨rfl, v29_, k30_, f31_, h⟩ := hq28_
              have F32_ : Fr b0 26 G G27_ := Fr.trans gF f31_
              refine z_if_eq (tgt := 174) O dX5_succeeds_167 (by decide) (fun c33_ => ?_) (fun c33_ => ?_)
              · have h := h.1 c33_
                refine z_iconst (v := 0) O dX5_succeeds_174 (by decide) ?_
                exact z_zret O hret rfl hlk dX5_succeeds_175 (Nat.le_of_ble_eq_true rfl) (Nat.le_of_ble_eq_true rfl) ⟨_, rfl, rfl, _, k30_, F32_, h⟩
              · have h := h.2 c33_
                refine z_iconst (v := 1) O dX5_succeeds_170 (by decide) ?_
                refine z_goto (tgt := 175) O dX5_succeeds_171 (by decide) ?_
                exact z_zret O hret rfl hlk dX5_succeeds_175 (Nat.le_of_ble_eq_true rfl) (Nat.le_of_ble_eq_true rfl) ⟨_, rfl, rfl, _, k30_, F32_, h⟩
        · have h := h.2 c22_
          rcases Decidable.em ((y1 / 100000) = 4) with c34_ | c34_
          · have h := h.1 c34_
            refine z_tsw (v := 4) (tgt := 176) O dX5_succeeds_49 c34_ (by decide) (by decide) rfl (by decide) ?_
            refine z_iload_n O dX5_succeeds_176 rfl rfl ?_
            refine z_sipush (v := 10000) O dX5_succeeds_177 (by decide) ?_
            refine z_irem O dX5_succeeds_180 (by decide) ?_
            refine z_if_ne (tgt := 199) O dX5_succeeds_181 (by decide) (fun c35_ => ?_) (fun c35_ => ?_)
            · have h := h.1 c35_
              refine z_iconst (v := 0) O dX5_succeeds_199 (by decide) ?_
              exact z_zret O hret rfl hlk dX5_succeeds_200 (Nat.le_of_ble_eq_true rfl) (Nat.le_of_ble_eq_true rfl) ⟨_, rfl, rfl, _, g0, gF, h⟩
            · have h := h.2 c35_
              refine z_aload_n O dX5_succeeds_184 rfl rfl ?_
              refine z_iconst (v := 3) O dX5_succeeds_185 (by decide) ?_
              refine z_iload_n O dX5_succeeds_186 rfl rfl ?_
              refine z_iconst (v := 0) O dX5_succeeds_187 (by decide) ?_
              refine z_iconst (v := 0) O dX5_succeeds_188 (by decide) ?_
              refine z_callVi (As := [.int 3, .int y2, .int 0, .int 0]) (st := []) O (s_S_attempt hfl g0 h) wy_X3_attempt wl_RX5_201 dX5_succeeds_189 rfl rfl (S_obj g0) ⟨by decide, rfl⟩ ⟨Nat.le_of_ble_eq_true rfl, Nat.le_of_ble_eq_true rfl⟩ (Nat.le_of_ble_eq_true rfl) ⟨Nat.le_of_ble_eq_true rfl, Nat.le_of_ble_eq_true rfl⟩ (fun r36_ z37_ G38_ hq39_ => ?_)
              obtain ⟨rfl, v40_, k41_, f42_, h⟩ := hq39_
              have F43_ : Fr b0 26 G G38_ := Fr.trans gF f42_
              refine z_if_eq (tgt := 199) O dX5_succeeds_192 (by decide) (fun c44_ => ?_) (fun c44_ => ?_)
              · have h := h.1 c44_
                refine z_iconst (v := 0) O dX5_succeeds_199 (by decide) ?_
                exact z_zret O hret rfl hlk dX5_succeeds_200 (Nat.le_of_ble_eq_true rfl) (Nat.le_of_ble_eq_true rfl) ⟨_, rfl, rfl, _, k41_, F43_, h⟩
              · have h := h.2 c44_
                refine z_iconst (v := 1) O dX5_succeeds_195 (by decide) ?_
                refine z_goto (tgt := 200) O dX5_succeeds_196 (by decide) ?_
                exact z_zret O hret rfl hlk dX5_succeeds_200 (Nat.le_of_ble_eq_true rfl) (Nat.le_of_ble_eq_true rfl) ⟨_, rfl, rfl, _, k41_, F43_, h⟩
          · have h := h.2 c34_
            rcases Decidable.em ((y1 / 100000) = 5) with c45_ | c45_
            · have h := h.1 c45_
              refine z_tsw (v := 5) (tgt := 201) O dX5_succeeds_49 c45_ (by decide) (by decide) rfl (by decide) ?_
              refine z_iload_n O dX5_succeeds_201 rfl rfl ?_
              refine z_bipush (v := 100) O dX5_succeeds_202 (by decide) ?_
              refine z_idiv O dX5_succeeds_204 (by decide) ?_
              refine z_sipush (v := 1000) O dX5_succeeds_205 (by decide) ?_
              refine z_irem O dX5_succeeds_208 (by decide) ?_
              refine z_if_ne (tgt := 229) O dX5_succeeds_209 (by decide) (fun c46_ => ?_) (fun c46_ => ?_)
              · have h := h.1 c46_
                refine z_iconst (v := 0) O dX5_succeeds_229 (by decide) ?_
                exact z_zret O hret rfl hlk dX5_succeeds_230 (Nat.le_of_ble_eq_true rfl) (Nat.le_of_ble_eq_true rfl) ⟨_, rfl, rfl, _, g0, gF, h⟩
              · have h := h.2 c46_
                refine z_aload_n O dX5_succeeds_212 rfl rfl ?_
                refine z_bipush (v := 6) O dX5_succeeds_213 (by decide) ?_
                refine z_iload O dX5_succeeds_215 rfl ?_
                refine z_iconst (v := 0) O dX5_succeeds_217 (by decide) ?_
                refine z_iconst (v := 0) O dX5_succeeds_218 (by decide) ?_
                refine z_callVi (As := [.int 6, .int y4, .int 0, .int 0]) (st := []) O (s_S_attempt hfl g0 h) wy_X3_attempt wl_RX5_201 dX5_succeeds_219 rfl rfl (S_obj g0) ⟨by decide, rfl⟩ ⟨Nat.le_of_ble_eq_true rfl, Nat.le_of_ble_eq_true rfl⟩ (Nat.le_of_ble_eq_true rfl) ⟨Nat.le_of_ble_eq_true rfl, Nat.le_of_ble_eq_true rfl⟩ (fun r47_ z48_ G49_ hq50_ => ?_)
                obtain ⟨rfl, v51_, k52_, f53_, h⟩ := hq50_
                have F54_ : Fr b0 26 G G49_ := Fr.trans gF f53_
                refine z_if_eq (tgt := 229) O dX5_succeeds_222 (by decide) (fun c55_ => ?_) (fun c55_ => ?_)
                · have h := h.1 c55_
                  refine z_iconst (v := 0) O dX5_succeeds_229 (by decide) ?_
                  exact z_zret O hret rfl hlk dX5_succeeds_230 (Nat.le_of_ble_eq_true rfl) (Nat.le_of_ble_eq_true rfl) ⟨_, rfl, rfl, _, k52_, F54_, h⟩
                · have h := h.2 c55_
                  refine z_iconst (v := 1) O dX5_succeeds_225 (by decide) ?_
                  refine z_goto (tgt := 230) O dX5_succeeds_226 (by decide) ?_
                  exact z_zret O hret rfl hlk dX5_succeeds_230 (Nat.le_of_ble_eq_true rfl) (Nat.le_of_ble_eq_true rfl) ⟨_, rfl, rfl, _, k52_, F54_, h⟩
            · have h := h.2 c45_
              rcases Decidable.em ((y1 / 100000) = 6) with c56_ | c56_
              · have h := h.1 c56_
                refine z_tsw (v := 6) (tgt := 231) O dX5_succeeds_49 c56_ (by decide) (by decide) rfl (by decide) ?_
                refine z_iload_n O dX5_succeeds_231 rfl rfl ?_
                refine z_sipush (v := 1000) O dX5_succeeds_232 (by decide) ?_
                refine z_idiv O dX5_succeeds_235 (by decide) ?_
                refine z_bipush (v := 10) O dX5_succeeds_236 (by decide) ?_
                refine z_irem O dX5_succeeds_238 (by decide) ?_
                refine z_if_ne (tgt := 256) O dX5_succeeds_239 (by decide) (fun c57_ => ?_) (fun c57_ => ?_)
                · have h := h.1 c57_
                  refine z_iconst (v := 0) O dX5_succeeds_256 (by decide) ?_
                  exact z_zret O hret rfl hlk dX5_succeeds_257 (Nat.le_of_ble_eq_true rfl) (Nat.le_of_ble_eq_true rfl) ⟨_, rfl, rfl, _, g0, gF, h⟩
                · have h := h.2 c57_
                  refine z_aload_n O dX5_succeeds_242 rfl rfl ?_
                  refine z_iload_n O dX5_succeeds_243 rfl rfl ?_
                  refine z_iload O dX5_succeeds_244 rfl ?_
                  refine z_callVi (As := [.int y2, .int y5]) (st := []) O (s_S_isAtLeastAt hfl g0 h) wy_X3_isAtLeastAt wl_RX5_280 dX5_succeeds_246 rfl rfl (S_obj g0) ⟨by decide, rfl⟩ ⟨Nat.le_of_ble_eq_true rfl, Nat.le_of_ble_eq_true rfl⟩ (Nat.le_of_ble_eq_true rfl) ⟨Nat.le_of_ble_eq_true rfl, Nat.le_of_ble_eq_true rfl⟩ (fun r58_ z59_ G60_ hq61_ => ?_)
                  obtain ⟨rfl, rfl, h⟩ := hq61_
                  refine z_if_eq (tgt := 256) O dX5_succeeds_249 (by decide) (fun c62_ => ?_) (fun c62_ => ?_)
                  · have h := h.1 c62_
                    refine z_iconst (v := 0) O dX5_succeeds_256 (by decide) ?_
                    exact z_zret O hret rfl hlk dX5_succeeds_257 (Nat.le_of_ble_eq_true rfl) (Nat.le_of_ble_eq_true rfl) ⟨_, rfl, rfl, _, g0, gF, h⟩
                  · have h := h.2 c62_
                    refine z_iconst (v := 1) O dX5_succeeds_252 (by decide) ?_
                    refine z_goto (tgt := 257) O dX5_succeeds_253 (by decide) ?_
                    exact z_zret O hret rfl hlk dX5_succeeds_257 (Nat.le_of_ble_eq_true rfl) (Nat.le_of_ble_eq_true rfl) ⟨_, rfl, rfl, _, g0, gF, h⟩
              · have h := h.2 c56_
                rcases Decidable.em ((y1 / 100000) = 7) with c63_ | c63_
                · have h := h.1 c63_
                  refine z_tsw (v := 7) (tgt := 258) O dX5_succeeds_49 c63_ (by decide) (by decide) rfl (by decide) ?_
                  refine z_iload O dX5_succeeds_258 rfl ?_
                  refine z_if_eq (tgt := 293) O dX5_succeeds_260 (by decide) (fun c64_ => ?_) (fun c64_ => ?_)
                  · have h := h.1 c64_
                    refine z_iconst (v := 0) O dX5_succeeds_293 (by decide) ?_
                    exact z_zret O hret rfl hlk dX5_succeeds_294 (Nat.le_of_ble_eq_true rfl) (Nat.le_of_ble_eq_true rfl) ⟨_, rfl, rfl, _, g0, gF, h⟩
                  · have h := h.2 c64_
                    refine z_iload_n O dX5_succeeds_263 rfl rfl ?_
                    refine z_bipush (v := 8) O dX5_succeeds_264 (by decide) ?_
                    refine z_icmp_ge (tgt := 293) O dX5_succeeds_266 (by decide) (fun c65_ => ?_) (fun c65_ => ?_)
                    · have h := h.1 c65_
                      refine z_iconst (v := 0) O dX5_succeeds_293 (by decide) ?_
                      exact z_zret O hret rfl hlk dX5_succeeds_294 (Nat.le_of_ble_eq_true rfl) (Nat.le_of_ble_eq_true rfl) ⟨_, rfl, rfl, _, g0, gF, h⟩
                    · have h := h.2 c65_
                      refine z_aload_n O dX5_succeeds_269 rfl rfl ?_
                      refine z_get (v := .ref (b0 + 1)) O wf_RX5_90 dX5_succeeds_270 (S_obj g0) rfl ?_
                      refine z_iload_n O dX5_succeeds_273 rfl rfl ?_
                      refine z_aload_n O dX5_succeeds_274 rfl rfl ?_
                      refine z_get (v := .ref (b0 + 1)) O wf_RX5_90 dX5_succeeds_275 (S_obj g0) rfl ?_
                      refine z_get (v := .int (L_end (S_log v0))) O wf_RX5_178 dX5_succeeds_278 (L_obj (S_log_of g0)) rfl ?_
                      refine z_callVi (As := [.int y2, .int (L_end (S_log v0))]) (st := []) O (s_L_toldForwards hfl (S_log_of g0) h) wy_X1_toldForwards wl_RX5_185 dX5_succeeds_281 rfl rfl (L_obj (S_log_of g0)) ⟨by decide, rfl⟩ ⟨Nat.le_of_ble_eq_true rfl, Nat.le_of_ble_eq_true rfl⟩ (Nat.le_of_ble_eq_true rfl) ⟨Nat.le_of_ble_eq_true rfl, Nat.le_of_ble_eq_true rfl⟩ (fun r66_ z67_ G68_ hq69_ => ?_)
                      obtain ⟨rfl, rfl, h⟩ := hq69_
                      refine z_iload O dX5_succeeds_284 rfl ?_
                      refine z_icmp_ne (tgt := 293) O dX5_succeeds_286 (by decide) (fun c70_ => ?_) (fun c70_ => ?_)
                      · have h := h.1 c70_
                        refine z_iconst (v := 0) O dX5_succeeds_293 (by decide) ?_
                        exact z_zret O hret rfl hlk dX5_succeeds_294 (Nat.le_of_ble_eq_true rfl) (Nat.le_of_ble_eq_true rfl) ⟨_, rfl, rfl, _, g0, gF, h⟩
                      · have h := h.2 c70_
                        refine z_iconst (v := 1) O dX5_succeeds_289 (by decide) ?_
                        refine z_goto (tgt := 294) O dX5_succeeds_290 (by decide) ?_
                        exact z_zret O hret rfl hlk dX5_succeeds_294 (Nat.le_of_ble_eq_true rfl) (Nat.le_of_ble_eq_true rfl) ⟨_, rfl, rfl, _, g0, gF, h⟩
                · have h := h.2 c63_
                  rcases Decidable.em ((y1 / 100000) = 8) with c71_ | c71_
                  · have h := h.1 c71_
                    refine z_tsw (v := 8) (tgt := 295) O dX5_succeeds_49 c71_ (by decide) (by decide) rfl (by decide) ?_
                    refine z_iload_n O dX5_succeeds_295 rfl rfl ?_
                    refine z_sipush (v := 1000) O dX5_succeeds_296 (by decide) ?_
                    refine z_idiv O dX5_succeeds_299 (by decide) ?_
                    refine z_bipush (v := 100) O dX5_succeeds_300 (by decide) ?_
                    refine z_irem O dX5_succeeds_302 (by decide) ?_
                    refine z_if_ne (tgt := 322) O dX5_succeeds_303 (by decide) (fun c72_ => ?_) (fun c72_ => ?_)
                    · have h := h.1 c72_
                      refine z_iconst (v := 0) O dX5_succeeds_322 (by decide) ?_
                      exact z_zret O hret rfl hlk dX5_succeeds_323 (Nat.le_of_ble_eq_true rfl) (Nat.le_of_ble_eq_true rfl) ⟨_, rfl, rfl, _, g0, gF, h⟩
                    · have h := h.2 c72_
                      refine z_aload_n O dX5_succeeds_306 rfl rfl ?_
                      refine z_get (v := .ref (b0 + 1)) O wf_RX5_90 dX5_succeeds_307 (S_obj g0) rfl ?_
                      refine z_get (v := .int (L_first (S_log v0))) O wf_RX5_175 dX5_succeeds_310 (L_obj (S_log_of g0)) rfl ?_
                      refine z_iload O dX5_succeeds_313 rfl ?_
                      refine z_icmp_lt (tgt := 322) O dX5_succeeds_315 (by decide) (fun c73_ => ?_) (fun c73_ => ?_)
                      · have h := h.1 c73_
                        refine z_iconst (v := 0) O dX5_succeeds_322 (by decide) ?_
                        exact z_zret O hret rfl hlk dX5_succeeds_323 (Nat.le_of_ble_eq_true rfl) (Nat.le_of_ble_eq_true rfl) ⟨_, rfl, rfl, _, g0, gF, h⟩
                      · have h := h.2 c73_
                        refine z_iconst (v := 1) O dX5_succeeds_318 (by decide) ?_
                        refine z_goto (tgt := 323) O dX5_succeeds_319 (by decide) ?_
                        exact z_zret O hret rfl hlk dX5_succeeds_323 (Nat.le_of_ble_eq_true rfl) (Nat.le_of_ble_eq_true rfl) ⟨_, rfl, rfl, _, g0, gF, h⟩
                  · have h := h.2 c71_
                    rcases Decidable.em ((y1 / 100000) = 9) with c74_ | c74_
                    · have h := h.1 c74_
                      refine z_tsw (v := 9) (tgt := 324) O dX5_succeeds_49 c74_ (by decide) (by decide) rfl (by decide) ?_
                      refine z_iload_n O dX5_succeeds_324 rfl rfl ?_
                      refine z_bipush (v := 10) O dX5_succeeds_325 (by decide) ?_
                      refine z_idiv O dX5_succeeds_327 (by decide) ?_
                      refine z_sipush (v := 1000) O dX5_succeeds_328 (by decide) ?_
                      refine z_irem O dX5_succeeds_331 (by decide) ?_
                      refine z_if_ne (tgt := 370) O dX5_succeeds_332 (by decide) (fun c75_ => ?_) (fun c75_ => ?_)
                      · have h := h.1 c75_
                        refine z_iconst (v := 0) O dX5_succeeds_370 (by decide) ?_
                        exact z_zret O hret rfl hlk dX5_succeeds_371 (Nat.le_of_ble_eq_true rfl) (Nat.le_of_ble_eq_true rfl) ⟨_, rfl, rfl, _, g0, gF, h⟩
                      · have h := h.2 c75_
                        refine z_iload_n O dX5_succeeds_335 rfl rfl ?_
                        refine z_iconst (v := 1) O dX5_succeeds_336 (by decide) ?_
                        refine z_icmp_gt (tgt := 370) O dX5_succeeds_337 (by decide) (fun c76_ => ?_) (fun c76_ => ?_)
                        · have h := h.1 c76_
                          refine z_iconst (v := 0) O dX5_succeeds_370 (by decide) ?_
                          exact z_zret O hret rfl hlk dX5_succeeds_371 (Nat.le_of_ble_eq_true rfl) (Nat.le_of_ble_eq_true rfl) ⟨_, rfl, rfl, _, g0, gF, h⟩
                        · have h := h.2 c76_
                          refine z_aload_n O dX5_succeeds_340 rfl rfl ?_
                          refine z_iload_n O dX5_succeeds_341 rfl rfl ?_
                          refine z_callVa (As := [.int y2]) (st := []) O (s_S_reader hfl g0 h) wy_X3_reader wl_RX5_122 dX5_succeeds_342 rfl rfl (S_obj g0) ⟨by decide, rfl⟩ ⟨Nat.le_of_ble_eq_true rfl, Nat.le_of_ble_eq_true rfl⟩ (Nat.le_of_ble_eq_true rfl) ⟨Nat.le_of_ble_eq_true rfl, Nat.le_of_ble_eq_true rfl⟩ (fun r77_ z78_ G79_ hq80_ => ?_)
                          obtain ⟨rfl, rfl, r81_, rfl, hb82_, h⟩ := hq80_
                          cases r81_ with
                          | none =>
                            have h := h.1 rfl
                            refine z_ifnullN (tgt := 370) O dX5_succeeds_345 (by decide) ?_
                            refine z_iconst (v := 0) O dX5_succeeds_370 (by decide) ?_
                            exact z_zret O hret rfl hlk dX5_succeeds_371 (Nat.le_of_ble_eq_true rfl) (Nat.le_of_ble_eq_true rfl) ⟨_, rfl, rfl, _, g0, gF, h⟩
                          | some i83_ =>
                            have hi84_ := hb82_ _ rfl
                            have h := h.2 i83_ rfl
                            refine z_ifnull O dX5_succeeds_345 ?_
                            refine z_aload_n O dX5_succeeds_348 rfl rfl ?_
                            refine z_iload_n O dX5_succeeds_349 rfl rfl ?_
                            refine z_callVi (As := [.int y2]) (st := []) O (s_S_hasHold hfl g0 h) wy_X3_hasHold wl_RX5_198 dX5_succeeds_350 rfl rfl (S_obj g0) ⟨by decide, rfl⟩ ⟨Nat.le_of_ble_eq_true rfl, Nat.le_of_ble_eq_true rfl⟩ (Nat.le_of_ble_eq_true rfl) ⟨Nat.le_of_ble_eq_true rfl, Nat.le_of_ble_eq_true rfl⟩ (fun r85_ z86_ G87_ hq88_ => ?_)
                            obtain ⟨rfl, rfl, h⟩ := hq88_
                            refine z_iload_n O dX5_succeeds_353 rfl rfl ?_
                            refine z_iconst (v := 1) O dX5_succeeds_354 (by decide) ?_
                            refine z_icmp_ne (tgt := 362) O dX5_succeeds_355 (by decide) (fun c89_ => ?_) (fun c89_ => ?_)
                            · have h := h.1 c89_
                              refine z_iconst (v := 0) O dX5_succeeds_362 (by decide) ?_
                              refine z_icmp_ne (tgt := 370) O dX5_succeeds_363 (by decide) (fun c90_ => ?_) (fun c90_ => ?_)
                              · have h := h.1 c90_
                                refine z_iconst (v := 0) O dX5_succeeds_370 (by decide) ?_
                                exact z_zret O hret rfl hlk dX5_succeeds_371 (Nat.le_of_ble_eq_true rfl) (Nat.le_of_ble_eq_true rfl) ⟨_, rfl, rfl, _, g0, gF, h⟩
                              · have h := h.2 c90_
                                refine z_iconst (v := 1) O dX5_succeeds_366 (by decide) ?_
                                refine z_goto (tgt := 371) O dX5_succeeds_367 (by decide) ?_
                                exact z_zret O hret rfl hlk dX5_succeeds_371 (Nat.le_of_ble_eq_true rfl) (Nat.le_of_ble_eq_true rfl) ⟨_, rfl, rfl, _, g0, gF, h⟩
                            · have h := h.2 c89_
                              refine z_iconst (v := 1) O dX5_succeeds_358 (by decide) ?_
                              refine z_goto (tgt := 363) O dX5_succeeds_359 (by decide) ?_
                              refine z_icmp_ne (tgt := 370) O dX5_succeeds_363 (by decide) (fun c91_ => ?_) (fun c91_ => ?_)
                              · have h := h.1 c91_
                                refine z_iconst (v := 0) O dX5_succeeds_370 (by decide) ?_
                                exact z_zret O hret rfl hlk dX5_succeeds_371 (Nat.le_of_ble_eq_true rfl) (Nat.le_of_ble_eq_true rfl) ⟨_, rfl, rfl, _, g0, gF, h⟩
                              · have h := h.2 c91_
                                refine z_iconst (v := 1) O dX5_succeeds_366 (by decide) ?_
                                refine z_goto (tgt := 371) O dX5_succeeds_367 (by decide) ?_
                                exact z_zret O hret rfl hlk dX5_succeeds_371 (Nat.le_of_ble_eq_true rfl) (Nat.le_of_ble_eq_true rfl) ⟨_, rfl, rfl, _, g0, gF, h⟩
                    · have h := h.2 c74_
                      refine z_tswd (tgt := 372) O dX5_succeeds_49 (zsw_out (fun j h1 h2 => by rcases (show j = 1 ∨ j = 2 ∨ j = 3 ∨ j = 4 ∨ j = 5 ∨ j = 6 ∨ j = 7 ∨ j = 8 ∨ j = 9 by omega) with rfl | rfl | rfl | rfl | rfl | rfl | rfl | rfl | rfl; exact c2_; exact c11_; exact c22_; exact c34_; exact c45_; exact c56_; exact c63_; exact c71_; exact c74_)) (by decide) ?_
                      refine z_iconst (v := 0) O dX5_succeeds_372 (by decide) ?_
                      exact z_zret O hret rfl hlk dX5_succeeds_373 (Nat.le_of_ble_eq_true rfl) (Nat.le_of_ble_eq_true rfl) ⟨_, rfl, rfl, _, g0, gF, h⟩
  refine z_iload_n O dX5_succeeds_0 rfl rfl ?_
  refine z_sipush (v := 10000) O dX5_succeeds_1 (by decide) ?_
  refine z_idiv O dX5_succeeds_4 (by decide) ?_
  refine z_bipush (v := 10) O dX5_succeeds_5 (by decide) ?_
  refine z_irem O dX5_succeeds_7 (by decide) ?_
  refine z_istore_n (L' := [some (.ref b0), some (.int x1), some (.int (zrem (x1 / 10000) 10)), none, none, none, none]) O dX5_succeeds_8 rfl (by decide) rfl ?_
  refine z_iload_n O dX5_succeeds_9 rfl rfl ?_
  refine z_bipush (v := 10) O dX5_succeeds_10 (by decide) ?_
  refine z_irem O dX5_succeeds_12 (by decide) ?_
  refine z_istore_n (L' := [some (.ref b0), some (.int x1), some (.int (zrem (x1 / 10000) 10)), some (.int (zrem x1 10)), none, none, none]) O dX5_succeeds_13 rfl (by decide) rfl ?_
  refine z_iload_n O dX5_succeeds_14 rfl rfl ?_
  refine z_bipush (v := 100) O dX5_succeeds_15 (by decide) ?_
  refine z_irem O dX5_succeeds_17 (by decide) ?_
  refine z_istore (L' := [some (.ref b0), some (.int x1), some (.int (zrem (x1 / 10000) 10)), some (.int (zrem x1 10)), some (.int (zrem x1 100)), none, none]) O dX5_succeeds_18 (by decide) rfl ?_
  refine z_iload_n O dX5_succeeds_20 rfl rfl ?_
  refine z_sipush (v := 1000) O dX5_succeeds_21 (by decide) ?_
  refine z_irem O dX5_succeeds_24 (by decide) ?_
  refine z_istore (L' := [some (.ref b0), some (.int x1), some (.int (zrem (x1 / 10000) 10)), some (.int (zrem x1 10)), some (.int (zrem x1 100)), some (.int (zrem x1 1000)), none]) O dX5_succeeds_25 (by decide) rfl ?_
  refine z_iload_n O dX5_succeeds_27 rfl rfl ?_
  refine z_bipush (v := 100) O dX5_succeeds_28 (by decide) ?_
  refine z_idiv O dX5_succeeds_30 (by decide) ?_
  refine z_bipush (v := 100) O dX5_succeeds_31 (by decide) ?_
  refine z_irem O dX5_succeeds_33 (by decide) ?_
  refine z_if_ne (tgt := 41) O dX5_succeeds_34 (by decide) (fun c1_ => ?_) (fun c1_ => ?_)
  · have h := h.1 c1_
    refine z_iconst (v := 0) O dX5_succeeds_41 (by decide) ?_
    exact z_subL (L' := [some (.ref b0), some (.int x1), some (.int (zrem (x1 / 10000) 10)), some (.int (zrem x1 10)), some (.int (zrem x1 100)), some (.int (zrem x1 1000)), none]) (zLe.sub (And.intro rfl (And.intro rfl (And.intro rfl (And.intro rfl (And.intro rfl (And.intro rfl True.intro))))))) (HJ42 x1 (zrem (x1 / 10000) 10) (zrem x1 10) (zrem x1 100) (zrem x1 1000) 0 v0 G h0 Fr.rf h)
  · have h := h.2 c1_
    refine z_iconst (v := 1) O dX5_succeeds_37 (by decide) ?_
    refine z_goto (tgt := 42) O dX5_succeeds_38 (by decide) ?_
    exact z_subL (L' := [some (.ref b0), some (.int x1), some (.int (zrem (x1 / 10000) 10)), some (.int (zrem x1 10)), some (.int (zrem x1 100)), some (.int (zrem x1 1000)), none]) (zLe.sub (And.intro rfl (And.intro rfl (And.intro rfl (And.intro rfl (And.intro rfl (And.intro rfl True.intro))))))) (HJ42 x1 (zrem (x1 / 10000) 10) (zrem x1 10) (zrem x1 100) (zrem x1 1000) 1 v0 G h0 Fr.rf h)
