theorem dX6_command_0 : decode cX6_command 0 = .ok (.iload_n 1, 1) := by decide +kernel
theorem dX6_command_1 : decode cX6_command 1 = .ok (.sipush 10000, 3) := by decide +kernel
theorem dX6_command_4 : decode cX6_command 4 = .ok (.idiv, 1) := by decide +kernel
theorem dX6_command_5 : decode cX6_command 5 = .ok (.bipush 10, 2) := by decide +kernel
theorem dX6_command_7 : decode cX6_command 7 = .ok (.irem, 1) := by decide +kernel
theorem dX6_command_8 : decode cX6_command 8 = .ok (.istore_n 2, 1) := by decide +kernel
theorem dX6_command_9 : decode cX6_command 9 = .ok (.iload_n 1, 1) := by decide +kernel
theorem dX6_command_10 : decode cX6_command 10 = .ok (.sipush 1000, 3) := by decide +kernel
theorem dX6_command_13 : decode cX6_command 13 = .ok (.idiv, 1) := by decide +kernel
theorem dX6_command_14 : decode cX6_command 14 = .ok (.bipush 10, 2) := by decide +kernel
theorem dX6_command_16 : decode cX6_command 16 = .ok (.irem, 1) := by decide +kernel
theorem dX6_command_17 : decode cX6_command 17 = .ok (.istore_n 3, 1) := by decide +kernel
theorem dX6_command_18 : decode cX6_command 18 = .ok (.iload_n 1, 1) := by decide +kernel
theorem dX6_command_19 : decode cX6_command 19 = .ok (.bipush 100, 2) := by decide +kernel
theorem dX6_command_21 : decode cX6_command 21 = .ok (.idiv, 1) := by decide +kernel
theorem dX6_command_22 : decode cX6_command 22 = .ok (.bipush 100, 2) := by decide +kernel
theorem dX6_command_24 : decode cX6_command 24 = .ok (.irem, 1) := by decide +kernel
theorem dX6_command_25 : decode cX6_command 25 = .ok (.istore 4, 2) := by decide +kernel
theorem dX6_command_27 : decode cX6_command 27 = .ok (.iload_n 1, 1) := by decide +kernel
theorem dX6_command_28 : decode cX6_command 28 = .ok (.bipush 100, 2) := by decide +kernel
theorem dX6_command_30 : decode cX6_command 30 = .ok (.irem, 1) := by decide +kernel
theorem dX6_command_31 : decode cX6_command 31 = .ok (.istore 5, 2) := by decide +kernel
theorem dX6_command_33 : decode cX6_command 33 = .ok (.iload_n 1, 1) := by decide +kernel
theorem dX6_command_34 : decode cX6_command 34 = .ok (.bipush 10, 2) := by decide +kernel
theorem dX6_command_36 : decode cX6_command 36 = .ok (.irem, 1) := by decide +kernel
theorem dX6_command_37 : decode cX6_command 37 = .ok (.istore 6, 2) := by decide +kernel
theorem dX6_command_39 : decode cX6_command 39 = .ok (.iload_n 1, 1) := by decide +kernel
theorem dX6_command_40 : decode cX6_command 40 = .ok (.sipush 10000, 3) := by decide +kernel
theorem dX6_command_43 : decode cX6_command 43 = .ok (.irem, 1) := by decide +kernel
theorem dX6_command_44 : decode cX6_command 44 = .ok (.istore 7, 2) := by decide +kernel
theorem dX6_command_46 : decode cX6_command 46 = .ok (.iload_n 1, 1) := by decide +kernel
theorem dX6_command_47 : decode cX6_command 47 = .ok (.ldc_w 267, 3) := by decide +kernel
theorem dX6_command_50 : decode cX6_command 50 = .ok (.irem, 1) := by decide +kernel
theorem dX6_command_51 : decode cX6_command 51 = .ok (.istore 8, 2) := by decide +kernel
theorem dX6_command_53 : decode cX6_command 53 = .ok (.iload_n 1, 1) := by decide +kernel
theorem dX6_command_54 : decode cX6_command 54 = .ok (.ldc_w 267, 3) := by decide +kernel
theorem dX6_command_57 : decode cX6_command 57 = .ok (.idiv, 1) := by decide +kernel
theorem dX6_command_58 : decode cX6_command 58 = .ok (.tableswitch 307 1 9 #[50, 60, 83, 118, 137, 159, 200, 241, 268], 50) := by decide +kernel
theorem dX6_command_108 : decode cX6_command 108 = .ok (.aload_n 0, 1) := by decide +kernel
theorem dX6_command_109 : decode cX6_command 109 = .ok (.iload_n 2, 1) := by decide +kernel
theorem dX6_command_110 : decode cX6_command 110 = .ok (.iload 4, 2) := by decide +kernel
theorem dX6_command_112 : decode cX6_command 112 = .ok (.iload 5, 2) := by decide +kernel
theorem dX6_command_114 : decode cX6_command 114 = .ok (.invokevirtual 268, 3) := by decide +kernel
theorem dX6_command_117 : decode cX6_command 117 = .ok (.ireturn, 1) := by decide +kernel
theorem dX6_command_118 : decode cX6_command 118 = .ok (.iload 7, 2) := by decide +kernel
theorem dX6_command_120 : decode cX6_command 120 = .ok (.bipush 100, 2) := by decide +kernel
theorem dX6_command_122 : decode cX6_command 122 = .ok (.if_icmp .ge 17, 3) := by decide +kernel
theorem dX6_command_125 : decode cX6_command 125 = .ok (.aload_n 0, 1) := by decide +kernel
theorem dX6_command_126 : decode cX6_command 126 = .ok (.iload_n 2, 1) := by decide +kernel
theorem dX6_command_127 : decode cX6_command 127 = .ok (.iload 5, 2) := by decide +kernel
theorem dX6_command_129 : decode cX6_command 129 = .ok (.invokevirtual 271, 3) := by decide +kernel
theorem dX6_command_132 : decode cX6_command 132 = .ok (.ifCond .eq 7, 3) := by decide +kernel
theorem dX6_command_135 : decode cX6_command 135 = .ok (.iconst 1, 1) := by decide +kernel
theorem dX6_command_136 : decode cX6_command 136 = .ok (.goto 4, 3) := by decide +kernel
theorem dX6_command_139 : decode cX6_command 139 = .ok (.iconst 0, 1) := by decide +kernel
theorem dX6_command_140 : decode cX6_command 140 = .ok (.ireturn, 1) := by decide +kernel
theorem dX6_command_141 : decode cX6_command 141 = .ok (.iload_n 1, 1) := by decide +kernel
theorem dX6_command_142 : decode cX6_command 142 = .ok (.sipush 1000, 3) := by decide +kernel
theorem dX6_command_145 : decode cX6_command 145 = .ok (.irem, 1) := by decide +kernel
theorem dX6_command_146 : decode cX6_command 146 = .ok (.iconst 2, 1) := by decide +kernel
theorem dX6_command_147 : decode cX6_command 147 = .ok (.if_icmp .ge 27, 3) := by decide +kernel
theorem dX6_command_150 : decode cX6_command 150 = .ok (.aload_n 0, 1) := by decide +kernel
theorem dX6_command_151 : decode cX6_command 151 = .ok (.iload_n 2, 1) := by decide +kernel
theorem dX6_command_152 : decode cX6_command 152 = .ok (.iload_n 3, 1) := by decide +kernel
theorem dX6_command_153 : decode cX6_command 153 = .ok (.iload 6, 2) := by decide +kernel
theorem dX6_command_155 : decode cX6_command 155 = .ok (.iconst 1, 1) := by decide +kernel
theorem dX6_command_156 : decode cX6_command 156 = .ok (.if_icmp .ne 7, 3) := by decide +kernel
theorem dX6_command_159 : decode cX6_command 159 = .ok (.iconst 1, 1) := by decide +kernel
theorem dX6_command_160 : decode cX6_command 160 = .ok (.goto 4, 3) := by decide +kernel
theorem dX6_command_163 : decode cX6_command 163 = .ok (.iconst 0, 1) := by decide +kernel
theorem dX6_command_164 : decode cX6_command 164 = .ok (.invokevirtual 274, 3) := by decide +kernel
theorem dX6_command_167 : decode cX6_command 167 = .ok (.ifCond .eq 7, 3) := by decide +kernel
theorem dX6_command_170 : decode cX6_command 170 = .ok (.iconst 1, 1) := by decide +kernel
theorem dX6_command_171 : decode cX6_command 171 = .ok (.goto 4, 3) := by decide +kernel
theorem dX6_command_174 : decode cX6_command 174 = .ok (.iconst 0, 1) := by decide +kernel
theorem dX6_command_175 : decode cX6_command 175 = .ok (.ireturn, 1) := by decide +kernel
theorem dX6_command_176 : decode cX6_command 176 = .ok (.iload 7, 2) := by decide +kernel
theorem dX6_command_178 : decode cX6_command 178 = .ok (.ifCond .ne 15, 3) := by decide +kernel
theorem dX6_command_181 : decode cX6_command 181 = .ok (.aload_n 0, 1) := by decide +kernel
theorem dX6_command_182 : decode cX6_command 182 = .ok (.iload_n 2, 1) := by decide +kernel
theorem dX6_command_183 : decode cX6_command 183 = .ok (.invokevirtual 278, 3) := by decide +kernel
theorem dX6_command_186 : decode cX6_command 186 = .ok (.ifCond .eq 7, 3) := by decide +kernel
theorem dX6_command_189 : decode cX6_command 189 = .ok (.iconst 1, 1) := by decide +kernel
theorem dX6_command_190 : decode cX6_command 190 = .ok (.goto 4, 3) := by decide +kernel
theorem dX6_command_193 : decode cX6_command 193 = .ok (.iconst 0, 1) := by decide +kernel
theorem dX6_command_194 : decode cX6_command 194 = .ok (.ireturn, 1) := by decide +kernel
theorem dX6_command_195 : decode cX6_command 195 = .ok (.iload 8, 2) := by decide +kernel
theorem dX6_command_197 : decode cX6_command 197 = .ok (.bipush 100, 2) := by decide +kernel
theorem dX6_command_199 : decode cX6_command 199 = .ok (.if_icmp .ge 16, 3) := by decide +kernel
theorem dX6_command_202 : decode cX6_command 202 = .ok (.aload_n 0, 1) := by decide +kernel
theorem dX6_command_203 : decode cX6_command 203 = .ok (.iload 5, 2) := by decide +kernel
theorem dX6_command_205 : decode cX6_command 205 = .ok (.invokevirtual 281, 3) := by decide +kernel
theorem dX6_command_208 : decode cX6_command 208 = .ok (.ifCond .eq 7, 3) := by decide +kernel
theorem dX6_command_211 : decode cX6_command 211 = .ok (.iconst 1, 1) := by decide +kernel
theorem dX6_command_212 : decode cX6_command 212 = .ok (.goto 4, 3) := by decide +kernel
theorem dX6_command_215 : decode cX6_command 215 = .ok (.iconst 0, 1) := by decide +kernel
theorem dX6_command_216 : decode cX6_command 216 = .ok (.ireturn, 1) := by decide +kernel
theorem dX6_command_217 : decode cX6_command 217 = .ok (.iload 7, 2) := by decide +kernel
theorem dX6_command_219 : decode cX6_command 219 = .ok (.sipush 1000, 3) := by decide +kernel
theorem dX6_command_222 : decode cX6_command 222 = .ok (.if_icmp .ge 34, 3) := by decide +kernel
theorem dX6_command_225 : decode cX6_command 225 = .ok (.aload_n 0, 1) := by decide +kernel
theorem dX6_command_226 : decode cX6_command 226 = .ok (.getfield 13, 3) := by decide +kernel
theorem dX6_command_229 : decode cX6_command 229 = .ok (.iload_n 2, 1) := by decide +kernel
theorem dX6_command_230 : decode cX6_command 230 = .ok (.invokestatic 184, 3) := by decide +kernel
theorem dX6_command_233 : decode cX6_command 233 = .ok (.ifCond .eq 23, 3) := by decide +kernel
theorem dX6_command_236 : decode cX6_command 236 = .ok (.aload_n 0, 1) := by decide +kernel
theorem dX6_command_237 : decode cX6_command 237 = .ok (.getfield 13, 3) := by decide +kernel
theorem dX6_command_240 : decode cX6_command 240 = .ok (.iload_n 2, 1) := by decide +kernel
theorem dX6_command_241 : decode cX6_command 241 = .ok (.invokestatic 65, 3) := by decide +kernel
theorem dX6_command_244 : decode cX6_command 244 = .ok (.iconst 1, 1) := by decide +kernel
theorem dX6_command_245 : decode cX6_command 245 = .ok (.iadd, 1) := by decide +kernel
theorem dX6_command_246 : decode cX6_command 246 = .ok (.iaload, 1) := by decide +kernel
theorem dX6_command_247 : decode cX6_command 247 = .ok (.iload 7, 2) := by decide +kernel
theorem dX6_command_249 : decode cX6_command 249 = .ok (.if_icmp .lt 7, 3) := by decide +kernel
theorem dX6_command_252 : decode cX6_command 252 = .ok (.iconst 1, 1) := by decide +kernel
theorem dX6_command_253 : decode cX6_command 253 = .ok (.goto 4, 3) := by decide +kernel
theorem dX6_command_256 : decode cX6_command 256 = .ok (.iconst 0, 1) := by decide +kernel
theorem dX6_command_257 : decode cX6_command 257 = .ok (.ireturn, 1) := by decide +kernel
theorem dX6_command_258 : decode cX6_command 258 = .ok (.iload 7, 2) := by decide +kernel
theorem dX6_command_260 : decode cX6_command 260 = .ok (.bipush 100, 2) := by decide +kernel
theorem dX6_command_262 : decode cX6_command 262 = .ok (.if_icmp .ge 35, 3) := by decide +kernel
theorem dX6_command_265 : decode cX6_command 265 = .ok (.iload_n 2, 1) := by decide +kernel
theorem dX6_command_266 : decode cX6_command 266 = .ok (.invokestatic 48, 3) := by decide +kernel
theorem dX6_command_269 : decode cX6_command 269 = .ok (.ifCond .eq 28, 3) := by decide +kernel
theorem dX6_command_272 : decode cX6_command 272 = .ok (.aload_n 0, 1) := by decide +kernel
theorem dX6_command_273 : decode cX6_command 273 = .ok (.getfield 13, 3) := by decide +kernel
theorem dX6_command_276 : decode cX6_command 276 = .ok (.iload_n 2, 1) := by decide +kernel
theorem dX6_command_277 : decode cX6_command 277 = .ok (.aload_n 0, 1) := by decide +kernel
theorem dX6_command_278 : decode cX6_command 278 = .ok (.getfield 13, 3) := by decide +kernel
theorem dX6_command_281 : decode cX6_command 281 = .ok (.sipush 401, 3) := by decide +kernel
theorem dX6_command_284 : decode cX6_command 284 = .ok (.iaload, 1) := by decide +kernel
theorem dX6_command_285 : decode cX6_command 285 = .ok (.invokestatic 119, 3) := by decide +kernel
theorem dX6_command_288 : decode cX6_command 288 = .ok (.iload 5, 2) := by decide +kernel
theorem dX6_command_290 : decode cX6_command 290 = .ok (.if_icmp .ne 7, 3) := by decide +kernel
theorem dX6_command_293 : decode cX6_command 293 = .ok (.iconst 1, 1) := by decide +kernel
theorem dX6_command_294 : decode cX6_command 294 = .ok (.goto 4, 3) := by decide +kernel
theorem dX6_command_297 : decode cX6_command 297 = .ok (.iconst 0, 1) := by decide +kernel
theorem dX6_command_298 : decode cX6_command 298 = .ok (.ireturn, 1) := by decide +kernel
theorem dX6_command_299 : decode cX6_command 299 = .ok (.iload 8, 2) := by decide +kernel
theorem dX6_command_301 : decode cX6_command 301 = .ok (.sipush 1000, 3) := by decide +kernel
theorem dX6_command_304 : decode cX6_command 304 = .ok (.if_icmp .ge 20, 3) := by decide +kernel
theorem dX6_command_307 : decode cX6_command 307 = .ok (.aload_n 0, 1) := by decide +kernel
theorem dX6_command_308 : decode cX6_command 308 = .ok (.getfield 13, 3) := by decide +kernel
theorem dX6_command_311 : decode cX6_command 311 = .ok (.sipush 400, 3) := by decide +kernel
theorem dX6_command_314 : decode cX6_command 314 = .ok (.iaload, 1) := by decide +kernel
theorem dX6_command_315 : decode cX6_command 315 = .ok (.iload 8, 2) := by decide +kernel
theorem dX6_command_317 : decode cX6_command 317 = .ok (.if_icmp .lt 7, 3) := by decide +kernel
theorem dX6_command_320 : decode cX6_command 320 = .ok (.iconst 1, 1) := by decide +kernel
theorem dX6_command_321 : decode cX6_command 321 = .ok (.goto 4, 3) := by decide +kernel
theorem dX6_command_324 : decode cX6_command 324 = .ok (.iconst 0, 1) := by decide +kernel
theorem dX6_command_325 : decode cX6_command 325 = .ok (.ireturn, 1) := by decide +kernel
theorem dX6_command_326 : decode cX6_command 326 = .ok (.iload 7, 2) := by decide +kernel
theorem dX6_command_328 : decode cX6_command 328 = .ok (.iconst 2, 1) := by decide +kernel
theorem dX6_command_329 : decode cX6_command 329 = .ok (.if_icmp .ge 34, 3) := by decide +kernel
theorem dX6_command_332 : decode cX6_command 332 = .ok (.aload_n 0, 1) := by decide +kernel
theorem dX6_command_333 : decode cX6_command 333 = .ok (.getfield 13, 3) := by decide +kernel
theorem dX6_command_336 : decode cX6_command 336 = .ok (.iload_n 2, 1) := by decide +kernel
theorem dX6_command_337 : decode cX6_command 337 = .ok (.invokestatic 184, 3) := by decide +kernel
theorem dX6_command_340 : decode cX6_command 340 = .ok (.ifCond .eq 23, 3) := by decide +kernel
theorem dX6_command_343 : decode cX6_command 343 = .ok (.aload_n 0, 1) := by decide +kernel
theorem dX6_command_344 : decode cX6_command 344 = .ok (.getfield 13, 3) := by decide +kernel
theorem dX6_command_347 : decode cX6_command 347 = .ok (.iload_n 2, 1) := by decide +kernel
theorem dX6_command_348 : decode cX6_command 348 = .ok (.invokestatic 65, 3) := by decide +kernel
theorem dX6_command_351 : decode cX6_command 351 = .ok (.iconst 2, 1) := by decide +kernel
theorem dX6_command_352 : decode cX6_command 352 = .ok (.iadd, 1) := by decide +kernel
theorem dX6_command_353 : decode cX6_command 353 = .ok (.iaload, 1) := by decide +kernel
theorem dX6_command_354 : decode cX6_command 354 = .ok (.iload 6, 2) := by decide +kernel
theorem dX6_command_356 : decode cX6_command 356 = .ok (.if_icmp .ne 7, 3) := by decide +kernel
theorem dX6_command_359 : decode cX6_command 359 = .ok (.iconst 1, 1) := by decide +kernel
theorem dX6_command_360 : decode cX6_command 360 = .ok (.goto 4, 3) := by decide +kernel
theorem dX6_command_363 : decode cX6_command 363 = .ok (.iconst 0, 1) := by decide +kernel
theorem dX6_command_364 : decode cX6_command 364 = .ok (.ireturn, 1) := by decide +kernel
theorem dX6_command_365 : decode cX6_command 365 = .ok (.iconst 0, 1) := by decide +kernel
theorem dX6_command_366 : decode cX6_command 366 = .ok (.ireturn, 1) := by decide +kernel
def P_M_command (x1 : Int32) (v0 : MT) (Q : Int32 → MT → Prop) : Prop := (((x1 / 100000) = 1 → P_M_runWrite (zrem (x1 / 10000) 10) (zrem (x1 / 100) 100) (zrem x1 100) v0 (fun r2_ v6_ => (zb r2_ ∧ Q r2_ v6_))) ∧ (¬ (x1 / 100000) = 1 → (((x1 / 100000) = 2 → ((100 ≤ (zrem x1 10000) → Q 0 v0) ∧ (¬ 100 ≤ (zrem x1 10000) → P_M_runRead (zrem (x1 / 10000) 10) (zrem x1 100) v0 (fun r12_ v16_ => (((r12_ = 0 → Q 0 v16_) ∧ (¬ r12_ = 0 → Q 1 v16_))))))) ∧ (¬ (x1 / 100000) = 2 → (((x1 / 100000) = 3 → ((2 ≤ (zrem x1 1000) → Q 0 v0) ∧ (¬ 2 ≤ (zrem x1 1000) → ((¬ (zrem x1 10) = 1 → P_M_runJoin (zrem (x1 / 10000) 10) (zrem (x1 / 1000) 10) 0 v0 (fun r24_ v28_ => (((r24_ = 0 → Q 0 v28_) ∧ (¬ r24_ = 0 → Q 1 v28_))))) ∧ ((zrem x1 10) = 1 → P_M_runJoin (zrem (x1 / 10000) 10) (zrem (x1 / 1000) 10) 1 v0 (fun r33_ v37_ => (((r33_ = 0 → Q 0 v37_) ∧ (¬ r33_ = 0 → Q 1 v37_))))))))) ∧ (¬ (x1 / 100000) = 3 → (((x1 / 100000) = 4 → ((¬ (zrem x1 10000) = 0 → Q 0 v0) ∧ ((zrem x1 10000) = 0 → P_M_runLeave (zrem (x1 / 10000) 10) v0 (fun r44_ v48_ => (((r44_ = 0 → Q 0 v48_) ∧ (¬ r44_ = 0 → Q 1 v48_))))))) ∧ (¬ (x1 / 100000) = 4 → (((x1 / 100000) = 5 → ((100 ≤ (zrem x1 100000) → Q 0 v0) ∧ (¬ 100 ≤ (zrem x1 100000) → P_M_runTicks (zrem x1 100) v0 (fun r55_ v59_ => (((r55_ = 0 → Q 0 v59_) ∧ (¬ r55_ = 0 → Q 1 v59_))))))) ∧ (¬ (x1 / 100000) = 5 → (((x1 / 100000) = 6 → ((1000 ≤ (zrem x1 10000) → Q 0 v0) ∧ (¬ 1000 ≤ (zrem x1 10000) → P_M_isReader (zrem (x1 / 10000) 10) (M_trial v0) (fun r66_ => (((r66_ = 0 → Q 0 v0) ∧ (¬ r66_ = 0 → P_M_reader (zrem (x1 / 10000) 10) (fun r71_ => (vp_in (r71_ + 1) 621 ∧ (((((M_trial v0) (Int32.toNatClampNeg (r71_ + 1))) < (zrem x1 10000) → Q 0 v0) ∧ (¬ ((M_trial v0) (Int32.toNatClampNeg (r71_ + 1))) < (zrem x1 10000) → Q 1 v0)))))))))))) ∧ (¬ (x1 / 100000) = 6 → (((x1 / 100000) = 7 → ((100 ≤ (zrem x1 10000) → Q 0 v0) ∧ (¬ 100 ≤ (zrem x1 10000) → P_M_isKey (zrem (x1 / 10000) 10) (fun r79_ => (((r79_ = 0 → Q 0 v0) ∧ (¬ r79_ = 0 → vp_in 401 621 ∧ (P_M_told (zrem (x1 / 10000) 10) ((M_trial v0) (Int32.toNatClampNeg 401)) (M_trial v0) (fun r85_ => (((¬ r85_ = (zrem x1 100) → Q 0 v0) ∧ (r85_ = (zrem x1 100) → Q 1 v0)))))))))))) ∧ (¬ (x1 / 100000) = 7 → (((x1 / 100000) = 8 → ((1000 ≤ (zrem x1 100000) → Q 0 v0) ∧ (¬ 1000 ≤ (zrem x1 100000) → vp_in 400 621 ∧ (((((M_trial v0) (Int32.toNatClampNeg 400)) < (zrem x1 100000) → Q 0 v0) ∧ (¬ ((M_trial v0) (Int32.toNatClampNeg 400)) < (zrem x1 100000) → Q 1 v0)))))) ∧ (¬ (x1 / 100000) = 8 → (((x1 / 100000) = 9 → ((2 ≤ (zrem x1 10000) → Q 0 v0) ∧ (¬ 2 ≤ (zrem x1 10000) → P_M_isReader (zrem (x1 / 10000) 10) (M_trial v0) (fun r96_ => (((r96_ = 0 → Q 0 v0) ∧ (¬ r96_ = 0 → P_M_reader (zrem (x1 / 10000) 10) (fun r101_ => (vp_in (r101_ + 2) 621 ∧ (((¬ ((M_trial v0) (Int32.toNatClampNeg (r101_ + 2))) = (zrem x1 10) → Q 0 v0) ∧ (((M_trial v0) (Int32.toNatClampNeg (r101_ + 2))) = (zrem x1 10) → Q 1 v0)))))))))))) ∧ (¬ (x1 / 100000) = 9 → Q 0 v0))))))))))))))))))
set_option maxRecDepth 100000 in
theorem s_M_command {l : Launch} {D : zD} {B : Nat} {sa : Nat → Nat} (hfl : l.stackTraces = false) {z : Nat} {G : zG} {b0 : Nat} {x1 : Int32} {v0 : MT} {Q : Int32 → MT → Prop} (h0 : MA b0 v0 G) (h : P_M_command x1 v0 Q) : zSp l D B sa yX6_command cX6_command 9 (some .boolean) 7 153 0 0 [.ref b0, .int x1] z G (zRi fun r z' G' => z = z' ∧ ∃ w, MA b0 w G' ∧ Fr b0 8 G G' ∧ Q r w) := by
  unfold P_M_command at h
  refine z_ofW (by decide +kernel) hfl [some (.ref b0), some (.int x1), none, none, none, none, none, none, none] rfl (Nat.le_of_ble_eq_true rfl) (fun p e s m args below meth c O hret hlk hnm => ?_)
  have O : zO p l s m args c D B sa 9 cX6_command RX6 := O
  refine z_iload_n O dX6_command_0 rfl rfl ?_
  refine z_sipush (v := 10000) O dX6_command_1 (by decide) ?_
  refine z_idiv O dX6_command_4 (by decide) ?_
  refine z_bipush (v := 10) O dX6_command_5 (by decide) ?_
  refine z_irem O dX6_command_7 (by decide) ?_
  refine z_istore_n (L' := [some (.ref b0), some (.int x1), some (.int (zrem (x1 / 10000) 10)), none, none, none, none, none, none]) O dX6_command_8 rfl (by decide) rfl ?_
  refine z_iload_n O dX6_command_9 rfl rfl ?_
  refine z_sipush (v := 1000) O dX6_command_10 (by decide) ?_
  refine z_idiv O dX6_command_13 (by decide) ?_
  refine z_bipush (v := 10) O dX6_command_14 (by decide) ?_
  refine z_irem O dX6_command_16 (by decide) ?_
  refine z_istore_n (L' := [some (.ref b0), some (.int x1), some (.int (zrem (x1 / 10000) 10)), some (.int (zrem (x1 / 1000) 10)), none, none, none, none, none]) O dX6_command_17 rfl (by decide) rfl ?_
  refine z_iload_n O dX6_command_18 rfl rfl ?_
  refine z_bipush (v := 100) O dX6_command_19 (by decide) ?_
  refine z_idiv O dX6_command_21 (by decide) ?_
  refine z_bipush (v := 100) O dX6_command_22 (by decide) ?_
  refine z_irem O dX6_command_24 (by decide) ?_
  refine z_istore (L' := [some (.ref b0), some (.int x1), some (.int (zrem (x1 / 10000) 10)), some (.int (zrem (x1 / 1000) 10)), some (.int (zrem (x1 / 100) 100)), none, none, none, none]) O dX6_command_25 (by decide) rfl ?_
  refine z_iload_n O dX6_command_27 rfl rfl ?_
  refine z_bipush (v := 100) O dX6_command_28 (by decide) ?_
  refine z_irem O dX6_command_30 (by decide) ?_
  refine z_istore (L' := [some (.ref b0), some (.int x1), some (.int (zrem (x1 / 10000) 10)), some (.int (zrem (x1 / 1000) 10)), some (.int (zrem (x1 / 100) 100)), some (.int (zrem x1 100)), none, none, none]) O dX6_command_31 (by decide) rfl ?_
  refine z_iload_n O dX6_command_33 rfl rfl ?_
  refine z_bipush (v := 10) O dX6_command_34 (by decide) ?_
  refine z_irem O dX6_command_36 (by decide) ?_
  refine z_istore (L' := [some (.ref b0), some (.int x1), some (.int (zrem (x1 / 10000) 10)), some (.int (zrem (x1 / 1000) 10)), some (.int (zrem (x1 / 100) 100)), some (.int (zrem x1 100)), some (.int (zrem x1 10)), none, none]) O dX6_command_37 (by decide) rfl ?_
  refine z_iload_n O dX6_command_39 rfl rfl ?_
  refine z_sipush (v := 10000) O dX6_command_40 (by decide) ?_
  refine z_irem O dX6_command_43 (by decide) ?_
  refine z_istore (L' := [some (.ref b0), some (.int x1), some (.int (zrem (x1 / 10000) 10)), some (.int (zrem (x1 / 1000) 10)), some (.int (zrem (x1 / 100) 100)), some (.int (zrem x1 100)), some (.int (zrem x1 10)), some (.int (zrem x1 10000)), none]) O dX6_command_44 (by decide) rfl ?_
  refine z_iload_n O dX6_command_46 rfl rfl ?_
  refine z_ldcw (v := 100000) O wc_RX6_267 dX6_command_47 ?_
  refine z_irem O dX6_command_50 (by decide) ?_
  refine z_istore (L' := [some (.ref b0), some (.int x1), some (.int (zrem (x1 / 10000) 10)), some (.int (zrem (x1 / 1000) 10)), some (.int (zrem (x1 / 100) 100)), some (.int (zrem x1 100)), some (.int (zrem x1 10)), some (.int (zrem x1 10000)), some (.int (zrem x1 100000))]) O dX6_command_51 (by decide) rfl ?_
  refine z_iload_n O dX6_command_53 rfl rfl ?_
  refine z_ldcw (v := 100000) O wc_RX6_267 dX6_command_54 ?_
  refine z_idiv O dX6_command_57 (by decide) ?_
  rcases Decidable.em ((x1 / 100000) = 1) with c1_ | c1_
  · have h := h.1 c1_
    refine z_tsw (v := 1) (tgt := 108) O dX6_command_58 c1_ (by decide) (by decide) rfl (by decide) ?_
    refine z_aload_n O dX6_command_108 rfl rfl ?_
    refine z_iload_n O dX6_command_109 rfl rfl ?_
    refine z_iload O dX6_command_110 rfl ?_
    refine z_iload O dX6_command_112 rfl ?_
    refine z_callVi (As := [.int (zrem (x1 / 10000) 10), .int (zrem (x1 / 100) 100), .int (zrem x1 100)]) (st := []) O (s_M_runWrite hfl h0 h) wy_X6_runWrite wl_RX6_268 dX6_command_114 rfl rfl (M_obj h0) ⟨by decide, rfl⟩ ⟨Nat.le_of_ble_eq_true rfl, Nat.le_of_ble_eq_true rfl⟩ (Nat.le_of_ble_eq_true rfl) ⟨Nat.le_of_ble_eq_true rfl, Nat.le_of_ble_eq_true rfl⟩ (fun r2_ z3_ G4_ hq5_ => ?_)
    obtain ⟨rfl, v6_, k7_, f8_, h⟩ := hq5_
    have F9_ : Fr b0 8 G G4_ := Fr.trans Fr.rf f8_
    obtain ⟨hz, h⟩ := h
    exact z_zret O hret (z_narb hz) hlk dX6_command_117 (Nat.le_of_ble_eq_true rfl) (Nat.le_of_ble_eq_true rfl) ⟨_, rfl, rfl, _, k7_, F9_, h⟩
  · have h := h.2 c1_
    rcases Decidable.em ((x1 / 100000) = 2) with c10_ | c10_
    · have h := h.1 c10_
      refine z_tsw (v := 2) (tgt := 118) O dX6_command_58 c10_ (by decide) (by decide) rfl (by decide) ?_
      refine z_iload O dX6_command_118 rfl ?_
      refine z_bipush (v := 100) O dX6_command_120 (by decide) ?_
      refine z_icmp_ge (tgt := 139) O dX6_command_122 (by decide) (fun c11_ => ?_) (fun c11_ => ?_)
      · have h := h.1 c11_
        refine z_iconst (v := 0) O dX6_command_139 (by decide) ?_
        exact z_zret O hret rfl hlk dX6_command_140 (Nat.le_of_ble_eq_true rfl) (Nat.le_of_ble_eq_true rfl) ⟨_, rfl, rfl, _, h0, Fr.rf, h⟩
      · have h := h.2 c11_
        refine z_aload_n O dX6_command_125 rfl rfl ?_
        refine z_iload_n O dX6_command_126 rfl rfl ?_
        refine z_iload O dX6_command_127 rfl ?_
        refine z_callVi (As := [.int (zrem (x1 / 10000) 10), .int (zrem x1 100)]) (st := []) O (s_M_runRead hfl h0 h) wy_X6_runRead wl_RX6_271 dX6_command_129 rfl rfl (M_obj h0) ⟨by decide, rfl⟩ ⟨Nat.le_of_ble_eq_true rfl, Nat.le_of_ble_eq_true rfl⟩ (Nat.le_of_ble_eq_true rfl) ⟨Nat.le_of_ble_eq_true rfl, Nat.le_of_ble_eq_true rfl⟩ (fun r12_ z13_ G14_ hq15_ => ?_)
        obtain ⟨rfl, v16_, k17_, f18_, h⟩ := hq15_
        have F19_ : Fr b0 8 G G14_ := Fr.trans Fr.rf f18_
        refine z_if_eq (tgt := 139) O dX6_command_132 (by decide) (fun c20_ => ?_) (fun c20_ => ?_)
        · have h := h.1 c20_
          refine z_iconst (v := 0) O dX6_command_139 (by decide) ?_
          exact z_zret O hret rfl hlk dX6_command_140 (Nat.le_of_ble_eq_true rfl) (Nat.le_of_ble_eq_true rfl) ⟨_, rfl, rfl, _, k17_, F19_, h⟩
        · have h := h.2 c20_
          refine z_iconst (v := 1) O dX6_command_135 (by decide) ?_
          refine z_goto (tgt := 140) O dX6_command_136 (by decide) ?_
          exact z_zret O hret rfl hlk dX6_command_140 (Nat.le_of_ble_eq_true rfl) (Nat.le_of_ble_eq_true rfl) ⟨_, rfl, rfl, _, k17_, F19_, h⟩
    · have h := h.2 c10_
      rcases Decidable.em ((x1 / 100000) = 3) with c21_ | c21_
      · have h := h.1 c21_
        refine z_tsw (v := 3) (tgt := 141) O dX6_command_58 c21_ (by decide) (by decide) rfl (by decide) ?_
        refine z_iload_n O dX6_command_141 rfl rfl ?_
        refine z_sipush (v := 1000) O dX6_command_142 (by decide) ?_
        refine z_irem O dX6_command_145 (by decide) ?_
        refine z_iconst (v := 2) O dX6_command_146 (by decide) ?_
        refine z_icmp_ge (tgt := 174) O dX6_command_147 (by decide) (fun c22_ => ?_) (fun c22_ => ?_)
        · have h := h.1 c22_
          refine z_iconst (v := 0) O dX6_command_174 (by decide) ?_
          exact z_zret O hret rfl hlk dX6_command_175 (Nat.le_of_ble_eq_true rfl) (Nat.le_of_ble_eq_true rfl) ⟨_, rfl, rfl, _, h0, Fr.rf, h⟩
        · have h := h.2 c22_
          refine z_aload_n O dX6_command_150 rfl rfl ?_
          refine z_iload_n O dX6_command_151 rfl rfl ?_
          refine z_iload_n O dX6_command_152 rfl rfl ?_
          refine z_iload O dX6_command_153 rfl ?_
          refine z_iconst (v := 1) O dX6_command_155 (by decide) ?_
          refine z_icmp_ne (tgt := 163) O dX6_command_156 (by decide) (fun c23_ => ?_) (fun c23_ => ?_)
          · have h := h.1 c23_
            refine z_iconst (v := 0) O dX6_command_163 (by decide) ?_
            refine z_callVi (As := [.int (zrem (x1 / 10000) 10), .int (zrem (x1 / 1000) 10), .int 0]) (st := []) O (s_M_runJoin hfl h0 h) wy_X6_runJoin wl_RX6_274 dX6_command_164 rfl rfl (M_obj h0) ⟨by decide, rfl⟩ ⟨Nat.le_of_ble_eq_true rfl, Nat.le_of_ble_eq_true rfl⟩ (Nat.le_of_ble_eq_true rfl) ⟨Nat.le_of_ble_eq_true rfl, Nat.le_of_ble_eq_true rfl⟩ (fun r24_ z25_ G26_ hq27_ => ?_)
            obtain ⟨rfl, v28_, k29_, f30_, h⟩ := hq27_
            have F31_ : Fr b0 8 G G26_ := Fr.trans Fr.rf f30_
            refine z_if_eq (tgt := 174) O dX6_command_167 (by decide) (fun c32_ => ?_) (fun c32_ => ?_)
            · have h := h.1 c32_
              refine z_iconst (v := 0) O dX6_command_174 (by decide) ?_
              exact z_zret O hret rfl hlk dX6_command_175 (Nat.le_of_ble_eq_true rfl) (Nat.le_of_ble_eq_true rfl) ⟨_, rfl, rfl, _, k29_, F31_, h⟩
            · have h := h.2 c32_
              refine z_iconst (v := 1) O dX6_command_170 (by decide) ?_
              refine z_goto (tgt := 175) O dX6_command_171 (by decide) ?_
              exact z_zret O hret rfl hlk dX6_command_175 (Nat.le_of_ble_eq_true rfl) (Nat.le_of_ble_eq_true rfl) ⟨_, rfl, rfl, _, k29_, F31_, h⟩
          · have h := h.2 c23_
            refine z_iconst (v := 1) O dX6_command_159 (by decide) ?_
            refine z_goto (tgt := 164) O dX6_command_160 (by decide) ?_
            refine z_callVi (As := [.int (zrem (x1 / 10000) 10), .int (zrem (x1 / 1000) 10), .int 1]) (st := []) O (s_M_runJoin hfl h0 h) wy_X6_runJoin wl_RX6_274 dX6_command_164 rfl rfl (M_obj h0) ⟨by decide, rfl⟩ ⟨Nat.le_of_ble_eq_true rfl, Nat.le_of_ble_eq_true rfl⟩ (Nat.le_of_ble_eq_true rfl) ⟨Nat.le_of_ble_eq_true rfl, Nat.le_of_ble_eq_true rfl⟩ (fun r33_ z34_ G35_ hq36_ => ?_)
            obtain ⟨rfl, v37_, k38_, f39_, h⟩ := hq36_
            have F40_ : Fr b0 8 G G35_ := Fr.trans Fr.rf f39_
            refine z_if_eq (tgt := 174) O dX6_command_167 (by decide) (fun c41_ => ?_) (fun c41_ => ?_)
            · have h := h.1 c41_
              refine z_iconst (v := 0) O dX6_command_174 (by decide) ?_
              exact z_zret O hret rfl hlk dX6_command_175 (Nat.le_of_ble_eq_true rfl) (Nat.le_of_ble_eq_true rfl) ⟨_, rfl, rfl, _, k38_, F40_, h⟩
            · have h := h.2 c41_
              refine z_iconst (v := 1) O dX6_command_170 (by decide) ?_
              refine z_goto (tgt := 175) O dX6_command_171 (by decide) ?_
              exact z_zret O hret rfl hlk dX6_command_175 (Nat.le_of_ble_eq_true rfl) (Nat.le_of_ble_eq_true rfl) ⟨_, rfl, rfl, _, k38_, F40_, h⟩
      · have h := h.2 c21_
        rcases Decidable.em ((x1 / 100000) = 4) with c42_ | c42_
        · have h := h.1 c42_
          refine z_tsw (v := 4) (tgt := 176) O dX6_command_58 c42_ (by decide) (by decide) rfl (by decide) ?_
          refine z_iload O dX6_command_176 rfl ?_
          refine z_if_ne (tgt := 193) O dX6_command_178 (by decide) (fun c43_ => ?_) (fun c43_ => ?_)
          · have h := h.1 c43_
            refine z_iconst (v := 0) O dX6_command_193 (by decide) ?_
            exact z_zret O hret rfl hlk dX6_command_194 (Nat.le_of_ble_eq_true rfl) (Nat.le_of_ble_eq_true rfl) ⟨_, rfl, rfl, _, h0, Fr.rf, h⟩
          · have h := h.2 c43_
            refine z_aload_n O dX6_command_181 rfl rfl ?_
            refine z_iload_n O dX6_command_182 rfl rfl ?_
            refine z_callVi (As := [.int (zrem (x1 / 10000) 10)]) (st := []) O (s_M_runLeave hfl h0 h) wy_X6_runLeave wl_RX6_278 dX6_command_183 rfl rfl (M_obj h0) ⟨by decide, rfl⟩ ⟨Nat.le_of_ble_eq_true rfl, Nat.le_of_ble_eq_true rfl⟩ (Nat.le_of_ble_eq_true rfl) ⟨Nat.le_of_ble_eq_true rfl, Nat.le_of_ble_eq_true rfl⟩ (fun r44_ z45_ G46_ hq47_ => ?_)
            obtain ⟨rfl, v48_, k49_, f50_, h⟩ := hq47_
            have F51_ : Fr b0 8 G G46_ := Fr.trans Fr.rf f50_
            refine z_if_eq (tgt := 193) O dX6_command_186 (by decide) (fun c52_ => ?_) (fun c52_ => ?_)
            · have h := h.1 c52_
              refine z_iconst (v := 0) O dX6_command_193 (by decide) ?_
              exact z_zret O hret rfl hlk dX6_command_194 (Nat.le_of_ble_eq_true rfl) (Nat.le_of_ble_eq_true rfl) ⟨_, rfl, rfl, _, k49_, F51_, h⟩
            · have h := h.2 c52_
              refine z_iconst (v := 1) O dX6_command_189 (by decide) ?_
              refine z_goto (tgt := 194) O dX6_command_190 (by decide) ?_
              exact z_zret O hret rfl hlk dX6_command_194 (Nat.le_of_ble_eq_true rfl) (Nat.le_of_ble_eq_true rfl) ⟨_, rfl, rfl, _, k49_, F51_, h⟩
        · have h := h.2 c42_
          rcases Decidable.em ((x1 / 100000) = 5) with c53_ | c53_
          · have h := h.1 c53_
            refine z_tsw (v := 5) (tgt := 195) O dX6_command_58 c53_ (by decide) (by decide) rfl (by decide) ?_
            refine z_iload O dX6_command_195 rfl ?_
            refine z_bipush (v := 100) O dX6_command_197 (by decide) ?_
            refine z_icmp_ge (tgt := 215) O dX6_command_199 (by decide) (fun c54_ => ?_) (fun c54_ => ?_)
            · have h := h.1 c54_
              refine z_iconst (v := 0) O dX6_command_215 (by decide) ?_
              exact z_zret O hret rfl hlk dX6_command_216 (Nat.le_of_ble_eq_true rfl) (Nat.le_of_ble_eq_true rfl) ⟨_, rfl, rfl, _, h0, Fr.rf, h⟩
            · have h := h.2 c54_
              refine z_aload_n O dX6_command_202 rfl rfl ?_
              refine z_iload O dX6_command_203 rfl ?_
              refine z_callVi (As := [.int (zrem x1 100)]) (st := []) O (s_M_runTicks hfl h0 h) wy_X6_runTicks wl_RX6_281 dX6_command_205 rfl rfl (M_obj h0) ⟨by decide, rfl⟩ ⟨Nat.le_of_ble_eq_true rfl, Nat.le_of_ble_eq_true rfl⟩ (Nat.le_of_ble_eq_true rfl) ⟨Nat.le_of_ble_eq_true rfl, Nat.le_of_ble_eq_true rfl⟩ (fun r55_ z56_ G57_ hq58_ => ?_)
              obtain ⟨rfl, v59_, k60_, f61_, h⟩ := hq58_
              have F62_ : Fr b0 8 G G57_ := Fr.trans Fr.rf f61_
              refine z_if_eq (tgt := 215) O dX6_command_208 (by decide) (fun c63_ => ?_) (fun c63_ => ?_)
              · have h := h.1 c63_
                refine z_iconst (v := 0) O dX6_command_215 (by decide) ?_
                exact z_zret O hret rfl hlk dX6_command_216 (Nat.le_of_ble_eq_true rfl) (Nat.le_of_ble_eq_true rfl) ⟨_, rfl, rfl, _, k60_, F62_, h⟩
              · have h := h.2 c63_
                refine z_iconst (v := 1) O dX6_command_211 (by decide) ?_
                refine z_goto (tgt := 216) O dX6_command_212 (by decide) ?_
                exact z_zret O hret rfl hlk dX6_command_216 (Nat.le_of_ble_eq_true rfl) (Nat.le_of_ble_eq_true rfl) ⟨_, rfl, rfl, _, k60_, F62_, h⟩
          · have h := h.2 c53_
            rcases Decidable.em ((x1 / 100000) = 6) with c64_ | c64_
            · have h := h.1 c64_
              refine z_tsw (v := 6) (tgt := 217) O dX6_command_58 c64_ (by decide) (by decide) rfl (by decide) ?_
              refine z_iload O dX6_command_217 rfl ?_
              refine z_sipush (v := 1000) O dX6_command_219 (by decide) ?_
              refine z_icmp_ge (tgt := 256) O dX6_command_222 (by decide) (fun c65_ => ?_) (fun c65_ => ?_)
              · have h := h.1 c65_
                refine z_iconst (v := 0) O dX6_command_256 (by decide) ?_
                exact z_zret O hret rfl hlk dX6_command_257 (Nat.le_of_ble_eq_true rfl) (Nat.le_of_ble_eq_true rfl) ⟨_, rfl, rfl, _, h0, Fr.rf, h⟩
              · have h := h.2 c65_
                refine z_aload_n O dX6_command_225 rfl rfl ?_
                refine z_get (v := .ref (b0 + 2)) O wf_RX6_13 dX6_command_226 (M_obj h0) rfl ?_
                refine z_iload_n O dX6_command_229 rfl rfl ?_
                refine z_callSi (As := [.ref (b0 + 2), .int (zrem (x1 / 10000) 10)]) (st := []) O (s_M_isReader hfl (M_trial_of h0) h) wy_X6_isReader wl_RX6_184 dX6_command_230 rfl rfl ⟨Nat.le_of_ble_eq_true rfl, Nat.le_of_ble_eq_true rfl⟩ (Nat.le_of_ble_eq_true rfl) ⟨Nat.le_of_ble_eq_true rfl, Nat.le_of_ble_eq_true rfl⟩ (fun r66_ z67_ G68_ hq69_ => ?_)
                obtain ⟨rfl, rfl, h⟩ := hq69_
                refine z_if_eq (tgt := 256) O dX6_command_233 (by decide) (fun c70_ => ?_) (fun c70_ => ?_)
                · have h := h.1 c70_
                  refine z_iconst (v := 0) O dX6_command_256 (by decide) ?_
                  exact z_zret O hret rfl hlk dX6_command_257 (Nat.le_of_ble_eq_true rfl) (Nat.le_of_ble_eq_true rfl) ⟨_, rfl, rfl, _, h0, Fr.rf, h⟩
                · have h := h.2 c70_
                  refine z_aload_n O dX6_command_236 rfl rfl ?_
                  refine z_get (v := .ref (b0 + 2)) O wf_RX6_13 dX6_command_237 (M_obj h0) rfl ?_
                  refine z_iload_n O dX6_command_240 rfl rfl ?_
                  refine z_callSi (As := [.int (zrem (x1 / 10000) 10)]) (st := [.ref (b0 + 2)]) O (s_M_reader hfl h) wy_X6_reader wl_RX6_65 dX6_command_241 rfl rfl ⟨Nat.le_of_ble_eq_true rfl, Nat.le_of_ble_eq_true rfl⟩ (Nat.le_of_ble_eq_true rfl) ⟨Nat.le_of_ble_eq_true rfl, Nat.le_of_ble_eq_true rfl⟩ (fun r71_ z72_ G73_ hq74_ => ?_)
                  obtain ⟨rfl, rfl, h⟩ := hq74_
                  refine z_iconst (v := 1) O dX6_command_244 (by decide) ?_
                  refine z_iadd O dX6_command_245 ?_
                  obtain ⟨q75_, h⟩ := h
                  refine z_iald O dX6_command_246 (M_trial_of h0) q75_ ?_
                  refine z_iload O dX6_command_247 rfl ?_
                  refine z_icmp_lt (tgt := 256) O dX6_command_249 (by decide) (fun c76_ => ?_) (fun c76_ => ?_)
                  · have h := h.1 c76_
                    refine z_iconst (v := 0) O dX6_command_256 (by decide) ?_
                    exact z_zret O hret rfl hlk dX6_command_257 (Nat.le_of_ble_eq_true rfl) (Nat.le_of_ble_eq_true rfl) ⟨_, rfl, rfl, _, h0, Fr.rf, h⟩
                  · have h := h.2 c76_
                    refine z_iconst (v := 1) O dX6_command_252 (by decide) ?_
                    refine z_goto (tgt := 257) O dX6_command_253 (by decide) ?_
                    exact z_zret O hret rfl hlk dX6_command_257 (Nat.le_of_ble_eq_true rfl) (Nat.le_of_ble_eq_true rfl) ⟨_, rfl, rfl, _, h0, Fr.rf, h⟩
            · have h := h.2 c64_
              rcases Decidable.em ((x1 / 100000) = 7) with c77_ | c77_
              · have h := h.1 c77_
                refine z_tsw (v := 7) (tgt := 258) O dX6_command_58 c77_ (by decide) (by decide) rfl (by decide) ?_
                refine z_iload O dX6_command_258 rfl ?_
                refine z_bipush (v := 100) O dX6_command_260 (by decide) ?_
                refine z_icmp_ge (tgt := 297) O dX6_command_262 (by decide) (fun c78_ => ?_) (fun c78_ => ?_)
                · have h := h.1 c78_
                  refine z_iconst (v := 0) O dX6_command_297 (by decide) ?_
                  exact z_zret O hret rfl hlk dX6_command_298 (Nat.le_of_ble_eq_true rfl) (Nat.le_of_ble_eq_true rfl) ⟨_, rfl, rfl, _, h0, Fr.rf, h⟩
                · have h := h.2 c78_
                  refine z_iload_n O dX6_command_265 rfl rfl ?_
                  refine z_callSi (As := [.int (zrem (x1 / 10000) 10)]) (st := []) O (s_M_isKey hfl h) wy_X6_isKey wl_RX6_48 dX6_command_266 rfl rfl ⟨Nat.le_of_ble_eq_true rfl, Nat.le_of_ble_eq_true rfl⟩ (Nat.le_of_ble_eq_true rfl) ⟨Nat.le_of_ble_eq_true rfl, Nat.le_of_ble_eq_true rfl⟩ (fun r79_ z80_ G81_ hq82_ => ?_)
                  obtain ⟨rfl, rfl, h⟩ := hq82_
                  refine z_if_eq (tgt := 297) O dX6_command_269 (by decide) (fun c83_ => ?_) (fun c83_ => ?_)
                  · have h := h.1 c83_
                    refine z_iconst (v := 0) O dX6_command_297 (by decide) ?_
                    exact z_zret O hret rfl hlk dX6_command_298 (Nat.le_of_ble_eq_true rfl) (Nat.le_of_ble_eq_true rfl) ⟨_, rfl, rfl, _, h0, Fr.rf, h⟩
                  · have h := h.2 c83_
                    refine z_aload_n O dX6_command_272 rfl rfl ?_
                    refine z_get (v := .ref (b0 + 2)) O wf_RX6_13 dX6_command_273 (M_obj h0) rfl ?_
                    refine z_iload_n O dX6_command_276 rfl rfl ?_
                    refine z_aload_n O dX6_command_277 rfl rfl ?_
                    refine z_get (v := .ref (b0 + 2)) O wf_RX6_13 dX6_command_278 (M_obj h0) rfl ?_
                    refine z_sipush (v := 401) O dX6_command_281 (by decide) ?_
                    obtain ⟨q84_, h⟩ := h
                    refine z_iald O dX6_command_284 (M_trial_of h0) q84_ ?_
                    refine z_callSi (As := [.ref (b0 + 2), .int (zrem (x1 / 10000) 10), .int ((M_trial v0) (Int32.toNatClampNeg 401))]) (st := []) O (s_M_told hfl (M_trial_of h0) h) wy_X6_told wl_RX6_119 dX6_command_285 rfl rfl ⟨Nat.le_of_ble_eq_true rfl, Nat.le_of_ble_eq_true rfl⟩ (Nat.le_of_ble_eq_true rfl) ⟨Nat.le_of_ble_eq_true rfl, Nat.le_of_ble_eq_true rfl⟩ (fun r85_ z86_ G87_ hq88_ => ?_)
                    obtain ⟨rfl, rfl, h⟩ := hq88_
                    refine z_iload O dX6_command_288 rfl ?_
                    refine z_icmp_ne (tgt := 297) O dX6_command_290 (by decide) (fun c89_ => ?_) (fun c89_ => ?_)
                    · have h := h.1 c89_
                      refine z_iconst (v := 0) O dX6_command_297 (by decide) ?_
                      exact z_zret O hret rfl hlk dX6_command_298 (Nat.le_of_ble_eq_true rfl) (Nat.le_of_ble_eq_true rfl) ⟨_, rfl, rfl, _, h0, Fr.rf, h⟩
                    · have h := h.2 c89_
                      refine z_iconst (v := 1) O dX6_command_293 (by decide) ?_
                      refine z_goto (tgt := 298) O dX6_command_294 (by decide) ?_
                      exact z_zret O hret rfl hlk dX6_command_298 (Nat.le_of_ble_eq_true rfl) (Nat.le_of_ble_eq_true rfl) ⟨_, rfl, rfl, _, h0, Fr.rf, h⟩
              · have h := h.2 c77_
                rcases Decidable.em ((x1 / 100000) = 8) with c90_ | c90_
                · have h := h.1 c90_
                  refine z_tsw (v := 8) (tgt := 299) O dX6_command_58 c90_ (by decide) (by decide) rfl (by decide) ?_
                  refine z_iload O dX6_command_299 rfl ?_
                  refine z_sipush (v := 1000) O dX6_command_301 (by decide) ?_
                  refine z_icmp_ge (tgt := 324) O dX6_command_304 (by decide) (fun c91_ => ?_) (fun c91_ => ?_)
                  · have h := h.1 c91_
                    refine z_iconst (v := 0) O dX6_command_324 (by decide) ?_
                    exact z_zret O hret rfl hlk dX6_command_325 (Nat.le_of_ble_eq_true rfl) (Nat.le_of_ble_eq_true rfl) ⟨_, rfl, rfl, _, h0, Fr.rf, h⟩
                  · have h := h.2 c91_
                    refine z_aload_n O dX6_command_307 rfl rfl ?_
                    refine z_get (v := .ref (b0 + 2)) O wf_RX6_13 dX6_command_308 (M_obj h0) rfl ?_
                    refine z_sipush (v := 400) O dX6_command_311 (by decide) ?_
                    obtain ⟨q92_, h⟩ := h
                    refine z_iald O dX6_command_314 (M_trial_of h0) q92_ ?_
                    refine z_iload O dX6_command_315 rfl ?_
                    refine z_icmp_lt (tgt := 324) O dX6_command_317 (by decide) (fun c93_ => ?_) (fun c93_ => ?_)
                    · have h := h.1 c93_
                      refine z_iconst (v := 0) O dX6_command_324 (by decide) ?_
                      exact z_zret O hret rfl hlk dX6_command_325 (Nat.le_of_ble_eq_true rfl) (Nat.le_of_ble_eq_true rfl) ⟨_, rfl, rfl, _, h0, Fr.rf, h⟩
                    · have h := h.2 c93_
                      refine z_iconst (v := 1) O dX6_command_320 (by decide) ?_
                      refine z_goto (tgt := 325) O dX6_command_321 (by decide) ?_
                      exact z_zret O hret rfl hlk dX6_command_325 (Nat.le_of_ble_eq_true rfl) (Nat.le_of_ble_eq_true rfl) ⟨_, rfl, rfl, _, h0, Fr.rf, h⟩
                · have h := h.2 c90_
                  rcases Decidable.em ((x1 / 100000) = 9) with c94_ | c94_
                  · have h := h.1 c94_
                    refine z_tsw (v := 9) (tgt := 326) O dX6_command_58 c94_ (by decide) (by decide) rfl (by decide) ?_
                    refine z_iload O dX6_command_326 rfl ?_
                    refine z_iconst (v := 2) O dX6_command_328 (by decide) ?_
                    refine z_icmp_ge (tgt := 363) O dX6_command_329 (by decide) (fun c95_ => ?_) (fun c95_ => ?_)
                    · have h := h.1 c95_
                      refine z_iconst (v := 0) O dX6_command_363 (by decide) ?_
                      exact z_zret O hret rfl hlk dX6_command_364 (Nat.le_of_ble_eq_true rfl) (Nat.le_of_ble_eq_true rfl) ⟨_, rfl, rfl, _, h0, Fr.rf, h⟩
                    · have h := h.2 c95_
                      refine z_aload_n O dX6_command_332 rfl rfl ?_
                      refine z_get (v := .ref (b0 + 2)) O wf_RX6_13 dX6_command_333 (M_obj h0) rfl ?_
                      refine z_iload_n O dX6_command_336 rfl rfl ?_
                      refine z_callSi (As := [.ref (b0 + 2), .int (zrem (x1 / 10000) 10)]) (st := []) O (s_M_isReader hfl (M_trial_of h0) h) wy_X6_isReader wl_RX6_184 dX6_command_337 rfl rfl ⟨Nat.le_of_ble_eq_true rfl, Nat.le_of_ble_eq_true rfl⟩ (Nat.le_of_ble_eq_true rfl) ⟨Nat.le_of_ble_eq_true rfl, Nat.le_of_ble_eq_true rfl⟩ (fun r96_ z97_ G98_ hq99_ => ?_)
                      obtain ⟨rfl, rfl, h⟩ := hq99_
                      refine z_if_eq (tgt := 363) O dX6_command_340 (by decide) (fun c100_ => ?_) (fun c100_ => ?_)
                      · have h := h.1 c100_
                        refine z_iconst (v := 0) O dX6_command_363 (by decide) ?_
                        exact z_zret O hret rfl hlk dX6_command_364 (Nat.le_of_ble_eq_true rfl) (Nat.le_of_ble_eq_true rfl) ⟨_, rfl, rfl, _, h0, Fr.rf, h⟩
                      · have h := h.2 c100_
                        refine z_aload_n O dX6_command_343 rfl rfl ?_
                        refine z_get (v := .ref (b0 + 2)) O wf_RX6_13 dX6_command_344 (M_obj h0) rfl ?_
                        refine z_iload_n O dX6_command_347 rfl rfl ?_
                        refine z_callSi (As := [.int (zrem (x1 / 10000) 10)]) (st := [.ref (b0 + 2)]) O (s_M_reader hfl h) wy_X6_reader wl_RX6_65 dX6_command_348 rfl rfl ⟨Nat.le_of_ble_eq_true rfl, Nat.le_of_ble_eq_true rfl⟩ (Nat.le_of_ble_eq_true rfl) ⟨Nat.le_of_ble_eq_true rfl, Nat.le_of_ble_eq_true rfl⟩ (fun r101_ z102_ G103_ hq104_ => ?_)
                        obtain ⟨rfl, rfl, h⟩ := hq104_
                        refine z_iconst (v := 2) O dX6_command_351 (by decide) ?_
                        refine z_iadd O dX6_command_352 ?_
                        obtain ⟨q105_, h⟩ := h
                        refine z_iald O dX6_command_353 (M_trial_of h0) q105_ ?_
                        refine z_iload O dX6_command_354 rfl ?_
                        refine z_icmp_ne (tgt := 363) O dX6_command_356 (by decide) (fun c106_ => ?_) (fun c106_ => ?_)
                        · have h := h.1 c106_
                          refine z_iconst (v := 0) O dX6_command_363 (by decide) ?_
                          exact z_zret O hret rfl hlk dX6_command_364 (Nat.le_of_ble_eq_true rfl) (Nat.le_of_ble_eq_true rfl) ⟨_, rfl, rfl, _, h0, Fr.rf, h⟩
                        · have h := h.2 c106_
                          refine z_iconst (v := 1) O dX6_command_359 (by decide) ?_
                          refine z_goto (tgt := 364) O dX6_command_360 (by decide) ?_
                          exact z_zret O hret rfl hlk dX6_command_364 (Nat.le_of_ble_eq_true rfl) (Nat.le_of_ble_eq_true rfl) ⟨_, rfl, rfl, _, h0, Fr.rf, h⟩
                  · have h := h.2 c94_
                    refine z_tswd (tgt := 365) O dX6_command_58 (zsw_out (fun j h1 h2 => by rcases (show j = 1 ∨ j = 2 ∨ j = 3 ∨ j = 4 ∨ j = 5 ∨ j = 6 ∨ j = 7 ∨ j = 8 ∨ j = 9 by omega) with rfl | rfl | rfl | rfl | rfl | rfl | rfl | rfl | rfl; exact c1_; exact c10_; exact c21_; exact c42_; exact c53_; exact c64_; exact c77_; exact c90_; exact c94_)) (by decide) ?_
                    refine z_iconst (v := 0) O dX6_command_365 (by decide) ?_
                    exact z_zret O hret rfl hlk dX6_command_366 (Nat.le_of_ble_eq_true rfl) (Nat.le_of_ble_eq_true rfl) ⟨_, rfl, rfl, _, h0, Fr.rf, h⟩
