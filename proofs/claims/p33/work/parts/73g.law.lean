theorem dL_act_0 : decode cL_act 0 = .ok (.iload_n 2, 1) := by decide +kernel
theorem dL_act_1 : decode cL_act 1 = .ok (.bipush 32, 2) := by decide +kernel
theorem dL_act_3 : decode cL_act 3 = .ok (.idiv, 1) := by decide +kernel
theorem dL_act_4 : decode cL_act 4 = .ok (.istore_n 3, 1) := by decide +kernel
theorem dL_act_5 : decode cL_act 5 = .ok (.iload_n 1, 1) := by decide +kernel
theorem dL_act_6 : decode cL_act 6 = .ok (.bipush 24, 2) := by decide +kernel
theorem dL_act_8 : decode cL_act 8 = .ok (.irem, 1) := by decide +kernel
theorem dL_act_9 : decode cL_act 9 = .ok (.tableswitch 342 0 22 #[107, 107, 107, 107, 107, 107, 129, 129, 129, 169, 169, 169, 198, 207, 207, 226, 226, 315, 315, 315, 315, 337, 337], 107) := by decide +kernel
theorem dL_act_116 : decode cL_act 116 = .ok (.aload_n 0, 1) := by decide +kernel
theorem dL_act_117 : decode cL_act 117 = .ok (.iload_n 2, 1) := by decide +kernel
theorem dL_act_118 : decode cL_act 118 = .ok (.bipush 8, 2) := by decide +kernel
theorem dL_act_120 : decode cL_act 120 = .ok (.irem, 1) := by decide +kernel
theorem dL_act_121 : decode cL_act 121 = .ok (.iload_n 3, 1) := by decide +kernel
theorem dL_act_122 : decode cL_act 122 = .ok (.bipush 100, 2) := by decide +kernel
theorem dL_act_124 : decode cL_act 124 = .ok (.irem, 1) := by decide +kernel
theorem dL_act_125 : decode cL_act 125 = .ok (.iconst 1, 1) := by decide +kernel
theorem dL_act_126 : decode cL_act 126 = .ok (.iload_n 3, 1) := by decide +kernel
theorem dL_act_127 : decode cL_act 127 = .ok (.bipush 100, 2) := by decide +kernel
theorem dL_act_129 : decode cL_act 129 = .ok (.idiv, 1) := by decide +kernel
theorem dL_act_130 : decode cL_act 130 = .ok (.bipush 40, 2) := by decide +kernel
theorem dL_act_132 : decode cL_act 132 = .ok (.irem, 1) := by decide +kernel
theorem dL_act_133 : decode cL_act 133 = .ok (.iadd, 1) := by decide +kernel
theorem dL_act_134 : decode cL_act 134 = .ok (.invokestatic 136, 3) := by decide +kernel
theorem dL_act_137 : decode cL_act 137 = .ok (.lreturn, 1) := by decide +kernel
theorem dL_act_138 : decode cL_act 138 = .ok (.aload_n 0, 1) := by decide +kernel
theorem dL_act_139 : decode cL_act 139 = .ok (.iload_n 3, 1) := by decide +kernel
theorem dL_act_140 : decode cL_act 140 = .ok (.iconst 3, 1) := by decide +kernel
theorem dL_act_141 : decode cL_act 141 = .ok (.irem, 1) := by decide +kernel
theorem dL_act_142 : decode cL_act 142 = .ok (.ifCond .le 9, 3) := by decide +kernel
theorem dL_act_145 : decode cL_act 145 = .ok (.iload_n 2, 1) := by decide +kernel
theorem dL_act_146 : decode cL_act 146 = .ok (.iconst 3, 1) := by decide +kernel
theorem dL_act_147 : decode cL_act 147 = .ok (.irem, 1) := by decide +kernel
theorem dL_act_148 : decode cL_act 148 = .ok (.goto 7, 3) := by decide +kernel
theorem dL_act_151 : decode cL_act 151 = .ok (.iload_n 2, 1) := by decide +kernel
theorem dL_act_152 : decode cL_act 152 = .ok (.bipush 8, 2) := by decide +kernel
theorem dL_act_154 : decode cL_act 154 = .ok (.irem, 1) := by decide +kernel
theorem dL_act_155 : decode cL_act 155 = .ok (.iload_n 3, 1) := by decide +kernel
theorem dL_act_156 : decode cL_act 156 = .ok (.iconst 3, 1) := by decide +kernel
theorem dL_act_157 : decode cL_act 157 = .ok (.idiv, 1) := by decide +kernel
theorem dL_act_158 : decode cL_act 158 = .ok (.iconst 3, 1) := by decide +kernel
theorem dL_act_159 : decode cL_act 159 = .ok (.irem, 1) := by decide +kernel
theorem dL_act_160 : decode cL_act 160 = .ok (.iload_n 3, 1) := by decide +kernel
theorem dL_act_161 : decode cL_act 161 = .ok (.bipush 9, 2) := by decide +kernel
theorem dL_act_163 : decode cL_act 163 = .ok (.idiv, 1) := by decide +kernel
theorem dL_act_164 : decode cL_act 164 = .ok (.iconst 2, 1) := by decide +kernel
theorem dL_act_165 : decode cL_act 165 = .ok (.irem, 1) := by decide +kernel
theorem dL_act_166 : decode cL_act 166 = .ok (.ifCond .ne 7, 3) := by decide +kernel
theorem dL_act_169 : decode cL_act 169 = .ok (.iconst 1, 1) := by decide +kernel
theorem dL_act_170 : decode cL_act 170 = .ok (.goto 4, 3) := by decide +kernel
theorem dL_act_173 : decode cL_act 173 = .ok (.iconst 0, 1) := by decide +kernel
theorem dL_act_174 : decode cL_act 174 = .ok (.invokestatic 139, 3) := by decide +kernel
theorem dL_act_177 : decode cL_act 177 = .ok (.lreturn, 1) := by decide +kernel
theorem dL_act_178 : decode cL_act 178 = .ok (.aload_n 0, 1) := by decide +kernel
theorem dL_act_179 : decode cL_act 179 = .ok (.iload_n 3, 1) := by decide +kernel
theorem dL_act_180 : decode cL_act 180 = .ok (.iconst 3, 1) := by decide +kernel
theorem dL_act_181 : decode cL_act 181 = .ok (.irem, 1) := by decide +kernel
theorem dL_act_182 : decode cL_act 182 = .ok (.ifCond .le 9, 3) := by decide +kernel
theorem dL_act_185 : decode cL_act 185 = .ok (.iload_n 2, 1) := by decide +kernel
theorem dL_act_186 : decode cL_act 186 = .ok (.iconst 3, 1) := by decide +kernel
theorem dL_act_187 : decode cL_act 187 = .ok (.irem, 1) := by decide +kernel
theorem dL_act_188 : decode cL_act 188 = .ok (.goto 7, 3) := by decide +kernel
theorem dL_act_191 : decode cL_act 191 = .ok (.iload_n 2, 1) := by decide +kernel
theorem dL_act_192 : decode cL_act 192 = .ok (.bipush 8, 2) := by decide +kernel
theorem dL_act_194 : decode cL_act 194 = .ok (.irem, 1) := by decide +kernel
theorem dL_act_195 : decode cL_act 195 = .ok (.iconst 1, 1) := by decide +kernel
theorem dL_act_196 : decode cL_act 196 = .ok (.iload_n 3, 1) := by decide +kernel
theorem dL_act_197 : decode cL_act 197 = .ok (.iconst 3, 1) := by decide +kernel
theorem dL_act_198 : decode cL_act 198 = .ok (.idiv, 1) := by decide +kernel
theorem dL_act_199 : decode cL_act 199 = .ok (.bipush 9, 2) := by decide +kernel
theorem dL_act_201 : decode cL_act 201 = .ok (.irem, 1) := by decide +kernel
theorem dL_act_202 : decode cL_act 202 = .ok (.iadd, 1) := by decide +kernel
theorem dL_act_203 : decode cL_act 203 = .ok (.invokestatic 142, 3) := by decide +kernel
theorem dL_act_206 : decode cL_act 206 = .ok (.lreturn, 1) := by decide +kernel
theorem dL_act_207 : decode cL_act 207 = .ok (.aload_n 0, 1) := by decide +kernel
theorem dL_act_208 : decode cL_act 208 = .ok (.iload_n 2, 1) := by decide +kernel
theorem dL_act_209 : decode cL_act 209 = .ok (.bipush 8, 2) := by decide +kernel
theorem dL_act_211 : decode cL_act 211 = .ok (.irem, 1) := by decide +kernel
theorem dL_act_212 : decode cL_act 212 = .ok (.invokestatic 144, 3) := by decide +kernel
theorem dL_act_215 : decode cL_act 215 = .ok (.lreturn, 1) := by decide +kernel
theorem dL_act_216 : decode cL_act 216 = .ok (.aload_n 0, 1) := by decide +kernel
theorem dL_act_217 : decode cL_act 217 = .ok (.iload_n 2, 1) := by decide +kernel
theorem dL_act_218 : decode cL_act 218 = .ok (.iconst 4, 1) := by decide +kernel
theorem dL_act_219 : decode cL_act 219 = .ok (.irem, 1) := by decide +kernel
theorem dL_act_220 : decode cL_act 220 = .ok (.iload_n 3, 1) := by decide +kernel
theorem dL_act_221 : decode cL_act 221 = .ok (.iconst 2, 1) := by decide +kernel
theorem dL_act_222 : decode cL_act 222 = .ok (.irem, 1) := by decide +kernel
theorem dL_act_223 : decode cL_act 223 = .ok (.ifCond .ne 7, 3) := by decide +kernel
theorem dL_act_226 : decode cL_act 226 = .ok (.iconst 1, 1) := by decide +kernel
theorem dL_act_227 : decode cL_act 227 = .ok (.goto 4, 3) := by decide +kernel
theorem dL_act_230 : decode cL_act 230 = .ok (.iconst 0, 1) := by decide +kernel
theorem dL_act_231 : decode cL_act 231 = .ok (.invokestatic 146, 3) := by decide +kernel
theorem dL_act_234 : decode cL_act 234 = .ok (.lreturn, 1) := by decide +kernel
theorem dL_act_235 : decode cL_act 235 = .ok (.iload_n 2, 1) := by decide +kernel
theorem dL_act_236 : decode cL_act 236 = .ok (.bipush 6, 2) := by decide +kernel
theorem dL_act_238 : decode cL_act 238 = .ok (.irem, 1) := by decide +kernel
theorem dL_act_239 : decode cL_act 239 = .ok (.istore 4, 2) := by decide +kernel
theorem dL_act_241 : decode cL_act 241 = .ok (.aload_n 0, 1) := by decide +kernel
theorem dL_act_242 : decode cL_act 242 = .ok (.iload 4, 2) := by decide +kernel
theorem dL_act_244 : decode cL_act 244 = .ok (.iload 4, 2) := by decide +kernel
theorem dL_act_246 : decode cL_act 246 = .ok (.ifCond .ne 12, 3) := by decide +kernel
theorem dL_act_249 : decode cL_act 249 = .ok (.iconst 1, 1) := by decide +kernel
theorem dL_act_250 : decode cL_act 250 = .ok (.iload_n 3, 1) := by decide +kernel
theorem dL_act_251 : decode cL_act 251 = .ok (.bipush 8, 2) := by decide +kernel
theorem dL_act_253 : decode cL_act 253 = .ok (.irem, 1) := by decide +kernel
theorem dL_act_254 : decode cL_act 254 = .ok (.iadd, 1) := by decide +kernel
theorem dL_act_255 : decode cL_act 255 = .ok (.goto 65, 3) := by decide +kernel
theorem dL_act_258 : decode cL_act 258 = .ok (.iload 4, 2) := by decide +kernel
theorem dL_act_260 : decode cL_act 260 = .ok (.iconst 1, 1) := by decide +kernel
theorem dL_act_261 : decode cL_act 261 = .ok (.if_icmp .ne 14, 3) := by decide +kernel
theorem dL_act_264 : decode cL_act 264 = .ok (.bipush 40, 2) := by decide +kernel
theorem dL_act_266 : decode cL_act 266 = .ok (.iload_n 3, 1) := by decide +kernel
theorem dL_act_267 : decode cL_act 267 = .ok (.sipush 161, 3) := by decide +kernel
theorem dL_act_270 : decode cL_act 270 = .ok (.irem, 1) := by decide +kernel
theorem dL_act_271 : decode cL_act 271 = .ok (.iadd, 1) := by decide +kernel
theorem dL_act_272 : decode cL_act 272 = .ok (.goto 48, 3) := by decide +kernel
theorem dL_act_275 : decode cL_act 275 = .ok (.iload 4, 2) := by decide +kernel
theorem dL_act_277 : decode cL_act 277 = .ok (.iconst 2, 1) := by decide +kernel
theorem dL_act_278 : decode cL_act 278 = .ok (.if_icmp .ne 10, 3) := by decide +kernel
theorem dL_act_281 : decode cL_act 281 = .ok (.iload_n 3, 1) := by decide +kernel
theorem dL_act_282 : decode cL_act 282 = .ok (.bipush 9, 2) := by decide +kernel
theorem dL_act_284 : decode cL_act 284 = .ok (.irem, 1) := by decide +kernel
theorem dL_act_285 : decode cL_act 285 = .ok (.goto 35, 3) := by decide +kernel
theorem dL_act_288 : decode cL_act 288 = .ok (.iload 4, 2) := by decide +kernel
theorem dL_act_290 : decode cL_act 290 = .ok (.iconst 3, 1) := by decide +kernel
theorem dL_act_291 : decode cL_act 291 = .ok (.if_icmp .ne 11, 3) := by decide +kernel
theorem dL_act_294 : decode cL_act 294 = .ok (.iload_n 3, 1) := by decide +kernel
theorem dL_act_295 : decode cL_act 295 = .ok (.sipush 200, 3) := by decide +kernel
theorem dL_act_298 : decode cL_act 298 = .ok (.irem, 1) := by decide +kernel
theorem dL_act_299 : decode cL_act 299 = .ok (.goto 21, 3) := by decide +kernel
theorem dL_act_302 : decode cL_act 302 = .ok (.iload 4, 2) := by decide +kernel
theorem dL_act_304 : decode cL_act 304 = .ok (.iconst 4, 1) := by decide +kernel
theorem dL_act_305 : decode cL_act 305 = .ok (.if_icmp .ne 11, 3) := by decide +kernel
theorem dL_act_308 : decode cL_act 308 = .ok (.iload_n 3, 1) := by decide +kernel
theorem dL_act_309 : decode cL_act 309 = .ok (.sipush 300, 3) := by decide +kernel
theorem dL_act_312 : decode cL_act 312 = .ok (.irem, 1) := by decide +kernel
theorem dL_act_313 : decode cL_act 313 = .ok (.goto 7, 3) := by decide +kernel
theorem dL_act_316 : decode cL_act 316 = .ok (.iload_n 3, 1) := by decide +kernel
theorem dL_act_317 : decode cL_act 317 = .ok (.bipush 12, 2) := by decide +kernel
theorem dL_act_319 : decode cL_act 319 = .ok (.irem, 1) := by decide +kernel
theorem dL_act_320 : decode cL_act 320 = .ok (.invokestatic 149, 3) := by decide +kernel
theorem dL_act_323 : decode cL_act 323 = .ok (.lreturn, 1) := by decide +kernel
theorem dL_act_324 : decode cL_act 324 = .ok (.aload_n 0, 1) := by decide +kernel
theorem dL_act_325 : decode cL_act 325 = .ok (.iconst 1, 1) := by decide +kernel
theorem dL_act_326 : decode cL_act 326 = .ok (.iload_n 2, 1) := by decide +kernel
theorem dL_act_327 : decode cL_act 327 = .ok (.iload_n 3, 1) := by decide +kernel
theorem dL_act_328 : decode cL_act 328 = .ok (.iconst 5, 1) := by decide +kernel
theorem dL_act_329 : decode cL_act 329 = .ok (.irem, 1) := by decide +kernel
theorem dL_act_330 : decode cL_act 330 = .ok (.ifCond .ne 8, 3) := by decide +kernel
theorem dL_act_333 : decode cL_act 333 = .ok (.bipush 60, 2) := by decide +kernel
theorem dL_act_335 : decode cL_act 335 = .ok (.goto 5, 3) := by decide +kernel
theorem dL_act_338 : decode cL_act 338 = .ok (.bipush 6, 2) := by decide +kernel
theorem dL_act_340 : decode cL_act 340 = .ok (.irem, 1) := by decide +kernel
theorem dL_act_341 : decode cL_act 341 = .ok (.iadd, 1) := by decide +kernel
theorem dL_act_342 : decode cL_act 342 = .ok (.invokestatic 155, 3) := by decide +kernel
theorem dL_act_345 : decode cL_act 345 = .ok (.lreturn, 1) := by decide +kernel
theorem dL_act_346 : decode cL_act 346 = .ok (.aload_n 0, 1) := by decide +kernel
theorem dL_act_347 : decode cL_act 347 = .ok (.invokestatic 187, 3) := by decide +kernel
theorem dL_act_350 : decode cL_act 350 = .ok (.lreturn, 1) := by decide +kernel
theorem dL_act_351 : decode cL_act 351 = .ok (.iload_n 3, 1) := by decide +kernel
theorem dL_act_352 : decode cL_act 352 = .ok (.iconst 2, 1) := by decide +kernel
theorem dL_act_353 : decode cL_act 353 = .ok (.irem, 1) := by decide +kernel
theorem dL_act_354 : decode cL_act 354 = .ok (.ifCond .ne 15, 3) := by decide +kernel
theorem dL_act_357 : decode cL_act 357 = .ok (.aload_n 0, 1) := by decide +kernel
theorem dL_act_358 : decode cL_act 358 = .ok (.iload_n 3, 1) := by decide +kernel
theorem dL_act_359 : decode cL_act 359 = .ok (.iconst 2, 1) := by decide +kernel
theorem dL_act_360 : decode cL_act 360 = .ok (.idiv, 1) := by decide +kernel
theorem dL_act_361 : decode cL_act 361 = .ok (.iconst 1, 1) := by decide +kernel
theorem dL_act_362 : decode cL_act 362 = .ok (.iand, 1) := by decide +kernel
theorem dL_act_363 : decode cL_act 363 = .ok (.invokestatic 170, 3) := by decide +kernel
theorem dL_act_366 : decode cL_act 366 = .ok (.goto 12, 3) := by decide +kernel
theorem dL_act_369 : decode cL_act 369 = .ok (.aload_n 0, 1) := by decide +kernel
theorem dL_act_370 : decode cL_act 370 = .ok (.iload_n 3, 1) := by decide +kernel
theorem dL_act_371 : decode cL_act 371 = .ok (.iconst 2, 1) := by decide +kernel
theorem dL_act_372 : decode cL_act 372 = .ok (.idiv, 1) := by decide +kernel
theorem dL_act_373 : decode cL_act 373 = .ok (.iconst 1, 1) := by decide +kernel
theorem dL_act_374 : decode cL_act 374 = .ok (.iand, 1) := by decide +kernel
theorem dL_act_375 : decode cL_act 375 = .ok (.invokestatic 172, 3) := by decide +kernel
theorem dL_act_378 : decode cL_act 378 = .ok (.lreturn, 1) := by decide +kernel
def PJ_LAW_act_116 (x1 : Int32) (x2 : Int32) (y2 : Int32) (y3 : Int32) (v0 : TT) (Q : Int64 → TT → Prop) : Prop := P_LAW_write (zrem y2 8) (zrem y3 100) (1 + (zrem (y3 / 100) 40)) v0 (fun r2_ v7_ => (Q r2_ v7_))
def PJ_LAW_act_155 (x1 : Int32) (x2 : Int32) (y3 : Int32) (u0 : Int32) (v0 : TT) (Q : Int64 → TT → Prop) : Prop := ((¬ (zrem (y3 / 9) 2) = 0 → P_LAW_join u0 (zrem (y3 / 3) 3) 0 v0 (fun r19_ v24_ => (Q r19_ v24_))) ∧ ((zrem (y3 / 9) 2) = 0 → P_LAW_join u0 (zrem (y3 / 3) 3) 1 v0 (fun r28_ v33_ => (Q r28_ v33_))))
def PJ_LAW_act_138 (x1 : Int32) (x2 : Int32) (y2 : Int32) (y3 : Int32) (v0 : TT) (Q : Int64 → TT → Prop) : Prop := (((zrem y3 3) ≤ 0 → PJ_LAW_act_155 x1 x2 y3 (zrem y2 8) v0 Q) ∧ (¬ (zrem y3 3) ≤ 0 → PJ_LAW_act_155 x1 x2 y3 (zrem y2 3) v0 Q))
def PJ_LAW_act_195 (x1 : Int32) (x2 : Int32) (y3 : Int32) (u0 : Int32) (v0 : TT) (Q : Int64 → TT → Prop) : Prop := P_LAW_read u0 (1 + (zrem (y3 / 3) 9)) v0 (fun r41_ v46_ => (Q r41_ v46_))
def PJ_LAW_act_178 (x1 : Int32) (x2 : Int32) (y2 : Int32) (y3 : Int32) (v0 : TT) (Q : Int64 → TT → Prop) : Prop := (((zrem y3 3) ≤ 0 → PJ_LAW_act_195 x1 x2 y3 (zrem y2 8) v0 Q) ∧ (¬ (zrem y3 3) ≤ 0 → PJ_LAW_act_195 x1 x2 y3 (zrem y2 3) v0 Q))
def PJ_LAW_act_216 (x1 : Int32) (x2 : Int32) (y2 : Int32) (y3 : Int32) (v0 : TT) (Q : Int64 → TT → Prop) : Prop := ((¬ (zrem y3 2) = 0 → P_LAW_hold (zrem y2 4) 0 v0 (fun r64_ v69_ => (Q r64_ v69_))) ∧ ((zrem y3 2) = 0 → P_LAW_hold (zrem y2 4) 1 v0 (fun r73_ v78_ => (Q r73_ v78_))))
def PJ_LAW_act_235 (x1 : Int32) (x2 : Int32) (y2 : Int32) (y3 : Int32) (v0 : TT) (Q : Int64 → TT → Prop) : Prop := ((¬ (zrem y2 6) = 0 → ((¬ (zrem y2 6) = 1 → ((¬ (zrem y2 6) = 2 → ((¬ (zrem y2 6) = 3 → ((¬ (zrem y2 6) = 4 → P_LAW_set (zrem y2 6) (zrem y3 12) v0 (fun r89_ v94_ => (Q r89_ v94_))) ∧ ((zrem y2 6) = 4 → P_LAW_set (zrem y2 6) (zrem y3 300) v0 (fun r98_ v103_ => (Q r98_ v103_))))) ∧ ((zrem y2 6) = 3 → P_LAW_set (zrem y2 6) (zrem y3 200) v0 (fun r107_ v112_ => (Q r107_ v112_))))) ∧ ((zrem y2 6) = 2 → P_LAW_set (zrem y2 6) (zrem y3 9) v0 (fun r116_ v121_ => (Q r116_ v121_))))) ∧ ((zrem y2 6) = 1 → P_LAW_set (zrem y2 6) (40 + (zrem y3 161)) v0 (fun r125_ v130_ => (Q r125_ v130_))))) ∧ ((zrem y2 6) = 0 → P_LAW_set (zrem y2 6) (1 + (zrem y3 8)) v0 (fun r134_ v139_ => (Q r134_ v139_))))
def PJ_LAW_act_324 (x1 : Int32) (x2 : Int32) (y2 : Int32) (y3 : Int32) (v0 : TT) (Q : Int64 → TT → Prop) : Prop := ((¬ (zrem y3 5) = 0 → P_LAW_ticks (1 + (zrem y2 6)) v0 (fun r146_ v151_ => (Q r146_ v151_))) ∧ ((zrem y3 5) = 0 → P_LAW_ticks (1 + (zrem y2 60)) v0 (fun r155_ v160_ => (Q r155_ v160_))))
def P_LAW_act (x1 : Int32) (x2 : Int32) (v0 : TT) (Q : Int64 → TT → Prop) : Prop := (((zrem x1 24) = 0 → PJ_LAW_act_116 x1 x2 x2 (x2 / 32) v0 Q) ∧ (¬ (zrem x1 24) = 0 → (((zrem x1 24) = 1 → PJ_LAW_act_116 x1 x2 x2 (x2 / 32) v0 Q) ∧ (¬ (zrem x1 24) = 1 → (((zrem x1 24) = 2 → PJ_LAW_act_116 x1 x2 x2 (x2 / 32) v0 Q) ∧ (¬ (zrem x1 24) = 2 → (((zrem x1 24) = 3 → PJ_LAW_act_116 x1 x2 x2 (x2 / 32) v0 Q) ∧ (¬ (zrem x1 24) = 3 → (((zrem x1 24) = 4 → PJ_LAW_act_116 x1 x2 x2 (x2 / 32) v0 Q) ∧ (¬ (zrem x1 24) = 4 → (((zrem x1 24) = 5 → PJ_LAW_act_116 x1 x2 x2 (x2 / 32) v0 Q) ∧ (¬ (zrem x1 24) = 5 → (((zrem x1 24) = 6 → PJ_LAW_act_138 x1 x2 x2 (x2 / 32) v0 Q) ∧ (¬ (zrem x1 24) = 6 → (((zrem x1 24) = 7 → PJ_LAW_act_138 x1 x2 x2 (x2 / 32) v0 Q) ∧ (¬ (zrem x1 24) = 7 → (((zrem x1 24) = 8 → PJ_LAW_act_138 x1 x2 x2 (x2 / 32) v0 Q) ∧ (¬ (zrem x1 24) = 8 → (((zrem x1 24) = 9 → PJ_LAW_act_178 x1 x2 x2 (x2 / 32) v0 Q) ∧ (¬ (zrem x1 24) = 9 → (((zrem x1 24) = 10 → PJ_LAW_act_178 x1 x2 x2 (x2 / 32) v0 Q) ∧ (¬ (zrem x1 24) = 10 → (((zrem x1 24) = 11 → PJ_LAW_act_178 x1 x2 x2 (x2 / 32) v0 Q) ∧ (¬ (zrem x1 24) = 11 → (((zrem x1 24) = 12 → P_LAW_leave (zrem x2 8) v0 (fun r53_ v58_ => (Q r53_ v58_))) ∧ (¬ (zrem x1 24) = 12 → (((zrem x1 24) = 13 → PJ_LAW_act_216 x1 x2 x2 (x2 / 32) v0 Q) ∧ (¬ (zrem x1 24) = 13 → (((zrem x1 24) = 14 → PJ_LAW_act_216 x1 x2 x2 (x2 / 32) v0 Q) ∧ (¬ (zrem x1 24) = 14 → (((zrem x1 24) = 15 → PJ_LAW_act_235 x1 x2 x2 (x2 / 32) v0 Q) ∧ (¬ (zrem x1 24) = 15 → (((zrem x1 24) = 16 → PJ_LAW_act_235 x1 x2 x2 (x2 / 32) v0 Q) ∧ (¬ (zrem x1 24) = 16 → (((zrem x1 24) = 17 → PJ_LAW_act_324 x1 x2 x2 (x2 / 32) v0 Q) ∧ (¬ (zrem x1 24) = 17 → (((zrem x1 24) = 18 → PJ_LAW_act_324 x1 x2 x2 (x2 / 32) v0 Q) ∧ (¬ (zrem x1 24) = 18 → (((zrem x1 24) = 19 → PJ_LAW_act_324 x1 x2 x2 (x2 / 32) v0 Q) ∧ (¬ (zrem x1 24) = 19 → (((zrem x1 24) = 20 → PJ_LAW_act_324 x1 x2 x2 (x2 / 32) v0 Q) ∧ (¬ (zrem x1 24) = 20 → (((zrem x1 24) = 21 → P_LAW_undo v0 (fun r168_ v173_ => (Q r168_ v173_))) ∧ (¬ (zrem x1 24) = 21 → (((zrem x1 24) = 22 → P_LAW_undo v0 (fun r178_ v183_ => (Q r178_ v183_))) ∧ (¬ (zrem x1 24) = 22 → ((¬ (zrem (x2 / 32) 2) = 0 → P_LAW_restore (zand ((x2 / 32) / 2) 1) v0 (fun r188_ v193_ => (Q r188_ v193_))) ∧ ((zrem (x2 / 32) 2) = 0 → P_LAW_save (zand ((x2 / 32) / 2) 1) v0 (fun r197_ v202_ => (Q r197_ v202_))))))))))))))))))))))))))))))))))))))))))))))))))
set_option maxRecDepth 100000 in
theorem s_LAW_act {l : Launch} {D : zD} {B : Nat} {sa : Nat → Nat} (hfl : l.stackTraces = false) {z : Nat} {G : zG} {b0 : Nat} {x1 : Int32} {x2 : Int32} {v0 : TT} {Q : Int64 → TT → Prop} (h0 : TA b0 v0 G) (h : P_LAW_act x1 x2 v0 Q) : zSp l D B sa yL_act cL_act 5 (some .long) 9 213 1 6 [.ref b0, .int x1, .int x2] z G (zRl fun r z' G' => ∃ w, TA b0 w G' ∧ Fr b0 475 G G' ∧ Q r w) := by
  unfold P_LAW_act at h
  refine z_ofW (by decide +kernel) hfl [some (.ref b0), some (.int x1), some (.int x2), none, none] rfl (Nat.le_of_ble_eq_true rfl) (fun p e s m args below meth c O hret hlk hnm => ?_)
  have O : zO p l s m args c D B sa 5 cL_act RL := O
  have hk0 : 0 + (1 + 0) ≤ 1 ∧ 0 + 6 * (1 + 0) ≤ 6 := ⟨Nat.le_of_ble_eq_true rfl, Nat.le_of_ble_eq_true rfl⟩
  have HJ116 : ∀     (y2 : Int32) (y3 : Int32) (v0 : TT) (G9 : zG) (g0 : TA b0 v0 G9) (gF : Fr b0 475 G G9) (z9 k9 m9 : Nat) (hk : k9 + (1 + 0) ≤ 1 ∧ m9 + 6 * (1 + 0) ≤ 6) (h : PJ_LAW_act_116 x1 x2 y2 y3 v0 Q), zT p l e (zrm 9 213 1 6) s m args below meth c (zEnd below D B (zRl fun r z' G' => ∃ w, TA b0 w G' ∧ Fr b0 475 G G' ∧ Q r w) args s 1 6) D B 5 k9 m9 116 [] [some (.ref b0), none, some (.int y2), some (.int y3), none] z9 G9 := by
    intro  y2 y3 v0 G9 g0 gF z9 k9 m9 hk h
    unfold PJ_LAW_act_116 at h
    refine z_aload_n O dL_act_116 rfl rfl ?_
    refine z_iload_n O dL_act_117 rfl rfl ?_
    refine z_bipush (v := 8) O dL_act_118 (by decide) ?_
    refine z_irem O dL_act_120 (by decide) ?_
    refine z_iload_n O dL_act_121 rfl rfl ?_
    refine z_bipush (v := 100) O dL_act_122 (by decide) ?_
    refine z_irem O dL_act_124 (by decide) ?_
    refine z_iconst (v := 1) O dL_act_125 (by decide) ?_
    refine z_iload_n O dL_act_126 rfl rfl ?_
    refine z_bipush (v := 100) O dL_act_127 (by decide) ?_
    refine z_idiv O dL_act_129 (by decide) ?_
    refine z_bipush (v := 40) O dL_act_130 (by decide) ?_
    refine z_irem O dL_act_132 (by decide) ?_
    refine z_iadd O dL_act_133 ?_
    have hk3_ := lk_step 1 0 hk (Nat.le_of_ble_eq_true rfl)
    refine z_callHl (As := [.ref b0, .int (zrem y2 8), .int (zrem y3 100), .int (1 + (zrem (y3 / 100) 40))]) (st := []) O (s_LAW_write hfl g0 h) wh_L_write wl_RL_136 dL_act_134 rfl rfl ⟨Nat.le_of_ble_eq_true rfl, Nat.le_of_ble_eq_true rfl⟩ (Nat.le_of_ble_eq_true rfl) ⟨lk_k hk3_, lk_n hk3_⟩ (fun r2_ z4_ G5_ hq6_ => ?_)
    obtain ⟨v7_, k8_, f9_, h⟩ := hq6_
    have F10_ : Fr b0 475 G G5_ := Fr.trans gF f9_
    exact z_lret O hret hlk dL_act_137 (lk_k hk3_) (lk_n hk3_) ⟨_, rfl, _, k8_, F10_, h⟩
  have HJ155 : ∀     (y3 : Int32) (u0 : Int32) (v0 : TT) (G9 : zG) (g0 : TA b0 v0 G9) (gF : Fr b0 475 G G9) (z9 k9 m9 : Nat) (hk : k9 + (1 + 0) ≤ 1 ∧ m9 + 6 * (1 + 0) ≤ 6) (h : PJ_LAW_act_155 x1 x2 y3 u0 v0 Q), zT p l e (zrm 9 213 1 6) s m args below meth c (zEnd below D B (zRl fun r z' G' => ∃ w, TA b0 w G' ∧ Fr b0 475 G G' ∧ Q r w) args s 1 6) D B 5 k9 m9 155 [.int u0, .ref b0] [none, none, none, some (.int y3), none] z9 G9 := by
    intro  y3 u0 v0 G9 g0 gF z9 k9 m9 hk h
    unfold PJ_LAW_act_155 at h
    refine z_iload_n O dL_act_155 rfl rfl ?_
    refine z_iconst (v := 3) O dL_act_156 (by decide) ?_
    refine z_idiv O dL_act_157 (by decide) ?_
    refine z_iconst (v := 3) O dL_act_158 (by decide) ?_
    refine z_irem O dL_act_159 (by decide) ?_
    refine z_iload_n O dL_act_160 rfl rfl ?_
    refine z_bipush (v := 9) O dL_act_161 (by decide) ?_
    refine z_idiv O dL_act_163 (by decide) ?_
    refine z_iconst (v := 2) O dL_act_164 (by decide) ?_
    refine z_irem O dL_act_165 (by decide) ?_
    refine z_if_ne (tgt := 173) O dL_act_166 (by decide) (fun c18_ => ?_) (fun c18_ => ?_)
    · have h := h.1 c18_
      refine z_iconst (v := 0) O dL_act_173 (by decide) ?_
      have hk20_ := lk_step 1 0 hk (Nat.le_of_ble_eq_true rfl)
      refine z_callHl (As := [.ref b0, .int u0, .int (zrem (y3 / 3) 3), .int 0]) (st := []) O (s_LAW_join hfl g0 h) wh_L_join wl_RL_139 dL_act_174 rfl rfl ⟨Nat.le_of_ble_eq_true rfl, Nat.le_of_ble_eq_true rfl⟩ (Nat.le_of_ble_eq_true rfl) ⟨lk_k hk20_, lk_n hk20_⟩ (fun r19_ z21_ G22_ hq23_ => ?_)
      obtain ⟨v24_, k25_, f26_, h⟩ := hq23_
      have F27_ : Fr b0 475 G G22_ := Fr.trans gF f26_
      exact z_lret O hret hlk dL_act_177 (lk_k hk20_) (lk_n hk20_) ⟨_, rfl, _, k25_, F27_, h⟩
    · have h := h.2 c18_
      refine z_iconst (v := 1) O dL_act_169 (by decide) ?_
      refine z_goto (tgt := 174) O dL_act_170 (by decide) ?_
      have hk29_ := lk_step 1 0 hk (Nat.le_of_ble_eq_true rfl)
      refine z_callHl (As := [.ref b0, .int u0, .int (zrem (y3 / 3) 3), .int 1]) (st := []) O (s_LAW_join hfl g0 h) wh_L_join wl_RL_139 dL_act_174 rfl rfl ⟨Nat.le_of_ble_eq_true rfl, Nat.le_of_ble_eq_true rfl⟩ (Nat.le_of_ble_eq_true rfl) ⟨lk_k hk29_, lk_n hk29_⟩ (fun r28_ z30_ G31_ hq32_ => ?_)
      obtain ⟨v33_, k34_, f35_, h⟩ := hq32_
      have F36_ : Fr b0 475 G G31_ := Fr.trans gF f35_
      exact z_lret O hret hlk dL_act_177 (lk_k hk29_) (lk_n hk29_) ⟨_, rfl, _, k34_, F36_, h⟩
  have HJ138 : ∀     (y2 : Int32) (y3 : Int32) (v0 : TT) (G9 : zG) (g0 : TA b0 v0 G9) (gF : Fr b0 475 G G9) (z9 k9 m9 : Nat) (hk : k9 + (1 + 0) ≤ 1 ∧ m9 + 6 * (1 + 0) ≤ 6) (h : PJ_LAW_act_138 x1 x2 y2 y3 v0 Q), zT p l e (zrm 9 213 1 6) s m args below meth c (zEnd below D B (zRl fun r z' G' => ∃ w, TA b0 w G' ∧ Fr b0 475 G G' ∧ Q r w) args s 1 6) D B 5 k9 m9 138 [] [some (.ref b0), none, some (.int y2), some (.int y3), none] z9 G9 := by
    intro  y2 y3 v0 G9 g0 gF z9 k9 m9 hk h
    unfold PJ_LAW_act_138 at h
    refine z_aload_n O dL_act_138 rfl rfl ?_
    refine z_iload_n O dL_act_139 rfl rfl ?_
    refine z_iconst (v := 3) O dL_act_140 (by decide) ?_
    refine z_irem O dL_act_141 (by decide) ?_
    refine z_if_le (tgt := 151) O dL_act_142 (by decide) (fun c17_ => ?_) (fun c17_ => ?_)
    · have h := h.1 c17_
      refine z_iload_n O dL_act_151 rfl rfl ?_
      refine z_bipush (v := 8) O dL_act_152 (by decide) ?_
      refine z_irem O dL_act_154 (by decide) ?_
      exact z_subL (L' := [none, none, none, some (.int y3), none]) (zLe.sub (And.intro rfl True.intro)) (HJ155 y3 (zrem y2 8) v0 G9 g0 gF _ _ _ (lk_weak hk (c' := 1) (Nat.le_of_ble_eq_true rfl) (Nat.le_refl _)) h)
    · have h := h.2 c17_
      refine z_iload_n O dL_act_145 rfl rfl ?_
      refine z_iconst (v := 3) O dL_act_146 (by decide) ?_
      refine z_irem O dL_act_147 (by decide) ?_
      refine z_goto (tgt := 155) O dL_act_148 (by decide) ?_
      exact z_subL (L' := [none, none, none, some (.int y3), none]) (zLe.sub (And.intro rfl True.intro)) (HJ155 y3 (zrem y2 3) v0 G9 g0 gF _ _ _ (lk_weak hk (c' := 1) (Nat.le_of_ble_eq_true rfl) (Nat.le_refl _)) h)
  have HJ195 : ∀     (y3 : Int32) (u0 : Int32) (v0 : TT) (G9 : zG) (g0 : TA b0 v0 G9) (gF : Fr b0 475 G G9) (z9 k9 m9 : Nat) (hk : k9 + (1 + 0) ≤ 1 ∧ m9 + 6 * (1 + 0) ≤ 6) (h : PJ_LAW_act_195 x1 x2 y3 u0 v0 Q), zT p l e (zrm 9 213 1 6) s m args below meth c (zEnd below D B (zRl fun r z' G' => ∃ w, TA b0 w G' ∧ Fr b0 475 G G' ∧ Q r w) args s 1 6) D B 5 k9 m9 195 [.int u0, .ref b0] [none, none, none, some (.int y3), none] z9 G9 := by
    intro  y3 u0 v0 G9 g0 gF z9 k9 m9 hk h
    unfold PJ_LAW_act_195 at h
    refine z_iconst (v := 1) O dL_act_195 (by decide) ?_
    refine z_iload_n O dL_act_196 rfl rfl ?_
    refine z_iconst (v := 3) O dL_act_197 (by decide) ?_
    refine z_idiv O dL_act_198 (by decide) ?_
    refine z_bipush (v := 9) O dL_act_199 (by decide) ?_
    refine z_irem O dL_act_201 (by decide) ?_
    refine z_iadd O dL_act_202 ?_
    have hk42_ := lk_step 1 0 hk (Nat.le_of_ble_eq_true rfl)
    refine z_callHl (As := [.ref b0, .int u0, .int (1 + (zrem (y3 / 3) 9))]) (st := []) O (s_LAW_read hfl g0 h) wh_L_read wl_RL_142 dL_act_203 rfl rfl ⟨Nat.le_of_ble_eq_true rfl, Nat.le_of_ble_eq_true rfl⟩ (Nat.le_of_ble_eq_true rfl) ⟨lk_k hk42_, lk_n hk42_⟩ (fun r41_ z43_ G44_ hq45_ => ?_)
    obtain ⟨v46_, k47_, f48_, h⟩ := hq45_
    have F49_ : Fr b0 475 G G44_ := Fr.trans gF f48_
    exact z_lret O hret hlk dL_act_206 (lk_k hk42_) (lk_n hk42_) ⟨_, rfl, _, k47_, F49_, h⟩
  have HJ178 : ∀     (y2 : Int32) (y3 : Int32) (v0 : TT) (G9 : zG) (g0 : TA b0 v0 G9) (gF : Fr b0 475 G G9) (z9 k9 m9 : Nat) (hk : k9 + (1 + 0) ≤ 1 ∧ m9 + 6 * (1 + 0) ≤ 6) (h : PJ_LAW_act_178 x1 x2 y2 y3 v0 Q), zT p l e (zrm 9 213 1 6) s m args below meth c (zEnd below D B (zRl fun r z' G' => ∃ w, TA b0 w G' ∧ Fr b0 475 G G' ∧ Q r w) args s 1 6) D B 5 k9 m9 178 [] [some (.ref b0), none, some (.int y2), some (.int y3), none] z9 G9 := by
    intro  y2 y3 v0 G9 g0 gF z9 k9 m9 hk h
    unfold PJ_LAW_act_178 at h
    refine z_aload_n O dL_act_178 rfl rfl ?_
    refine z_iload_n O dL_act_179 rfl rfl ?_
    refine z_iconst (v := 3) O dL_act_180 (by decide) ?_
    refine z_irem O dL_act_181 (by decide) ?_
    refine z_if_le (tgt := 191) O dL_act_182 (by decide) (fun c40_ => ?_) (fun c40_ => ?_)
    · have h := h.1 c40_
      refine z_iload_n O dL_act_191 rfl rfl ?_
      refine z_bipush (v := 8) O dL_act_192 (by decide) ?_
      refine z_irem O dL_act_194 (by decide) ?_
      exact z_subL (L' := [none, none, none, some (.int y3), none]) (zLe.sub (And.intro rfl True.intro)) (HJ195 y3 (zrem y2 8) v0 G9 g0 gF _ _ _ (lk_weak hk (c' := 1) (Nat.le_of_ble_eq_true rfl) (Nat.le_refl _)) h)
    · have h := h.2 c40_
      refine z_iload_n O dL_act_185 rfl rfl ?_
      refine z_iconst (v := 3) O dL_act_186 (by decide) ?_
      refine z_irem O dL_act_187 (by decide) ?_
      refine z_goto (tgt := 195) O dL_act_188 (by decide) ?_
      exact z_subL (L' := [none, none, none, some (.int y3), none]) (zLe.sub (And.intro rfl True.intro)) (HJ195 y3 (zrem y2 3) v0 G9 g0 gF _ _ _ (lk_weak hk (c' := 1) (Nat.le_of_ble_eq_true rfl) (Nat.le_refl _)) h)
  have HJ216 : ∀     (y2 : Int32) (y3 : Int32) (v0 : TT) (G9 : zG) (g0 : TA b0 v0 G9) (gF : Fr b0 475 G G9) (z9 k9 m9 : Nat) (hk : k9 + (1 + 0) ≤ 1 ∧ m9 + 6 * (1 + 0) ≤ 6) (h : PJ_LAW_act_216 x1 x2 y2 y3 v0 Q), zT p l e (zrm 9 213 1 6) s m args below meth c (zEnd below D B (zRl fun r z' G' => ∃ w, TA b0 w G' ∧ Fr b0 475 G G' ∧ Q r w) args s 1 6) D B 5 k9 m9 216 [] [some (.ref b0), none, some (.int y2), some (.int y3), none] z9 G9 := by
    intro  y2 y3 v0 G9 g0 gF z9 k9 m9 hk h
    unfold PJ_LAW_act_216 at h
    refine z_aload_n O dL_act_216 rfl rfl ?_
    refine z_iload_n O dL_act_217 rfl rfl ?_
    refine z_iconst (v := 4) O dL_act_218 (by decide) ?_
    refine z_irem O dL_act_219 (by decide) ?_
    refine z_iload_n O dL_act_220 rfl rfl ?_
    refine z_iconst (v := 2) O dL_act_221 (by decide) ?_
    refine z_irem O dL_act_222 (by decide) ?_
    refine z_if_ne (tgt := 230) O dL_act_223 (by decide) (fun c63_ => ?_) (fun c63_ => ?_)
    · have h := h.1 c63_
      refine z_iconst (v := 0) O dL_act_230 (by decide) ?_
      have hk65_ := lk_step 1 0 hk (Nat.le_of_ble_eq_true rfl)
      refine z_callHl (As := [.ref b0, .int (zrem y2 4), .int 0]) (st := []) O (s_LAW_hold hfl g0 h) wh_L_hold wl_RL_146 dL_act_231 rfl rfl ⟨Nat.le_of_ble_eq_true rfl, Nat.le_of_ble_eq_true rfl⟩ (Nat.le_of_ble_eq_true rfl) ⟨lk_k hk65_, lk_n hk65_⟩ (fun r64_ z66_ G67_ hq68_ => ?_)
      obtain ⟨v69_, k70_, f71_, h⟩ := hq68_
      have F72_ : Fr b0 475 G G67_ := Fr.trans gF f71_
      exact z_lret O hret hlk dL_act_234 (lk_k hk65_) (lk_n hk65_) ⟨_, rfl, _, k70_, F72_, h⟩
    · have h := h.2 c63_
      refine z_iconst (v := 1) O dL_act_226 (by decide) ?_
      refine z_goto (tgt := 231) O dL_act_227 (by decide) ?_
      have hk74_ := lk_step 1 0 hk (Nat.le_of_ble_eq_true rfl)
      refine z_callHl (As := [.ref b0, .int (zrem y2 4), .int 1]) (st := []) O (s_LAW_hold hfl g0 h) wh_L_hold wl_RL_146 dL_act_231 rfl rfl ⟨Nat.le_of_ble_eq_true rfl, Nat.le_of_ble_eq_true rfl⟩ (Nat.le_of_ble_eq_true rfl) ⟨lk_k hk74_, lk_n hk74_⟩ (fun r73_ z75_ G76_ hq77_ => ?_)
      obtain ⟨v78_, k79_, f80_, h⟩ := hq77_
      have F81_ : Fr b0 475 G G76_ := Fr.trans gF f80_
      exact z_lret O hret hlk dL_act_234 (lk_k hk74_) (lk_n hk74_) ⟨_, rfl, _, k79_, F81_, h⟩
  have HJ235 : ∀     (y2 : Int32) (y3 : Int32) (v0 : TT) (G9 : zG) (g0 : TA b0 v0 G9) (gF : Fr b0 475 G G9) (z9 k9 m9 : Nat) (hk : k9 + (1 + 0) ≤ 1 ∧ m9 + 6 * (1 + 0) ≤ 6) (h : PJ_LAW_act_235 x1 x2 y2 y3 v0 Q), zT p l e (zrm 9 213 1 6) s m args below meth c (zEnd below D B (zRl fun r z' G' => ∃ w, TA b0 w G' ∧ Fr b0 475 G G' ∧ Q r w) args s 1 6) D B 5 k9 m9 235 [] [some (.ref b0), none, some (.int y2), some (.int y3), none] z9 G9 := by
    intro  y2 y3 v0 G9 g0 gF z9 k9 m9 hk h
    unfold PJ_LAW_act_235 at h
    refine z_iload_n O dL_act_235 rfl rfl ?_
    refine z_bipush (v := 6) O dL_act_236 (by decide) ?_
    refine z_irem O dL_act_238 (by decide) ?_
    refine z_istore (L' := [some (.ref b0), none, some (.int y2), some (.int y3), some (.int (zrem y2 6))]) O dL_act_239 (by decide) rfl ?_
    refine z_aload_n O dL_act_241 rfl rfl ?_
    refine z_iload O dL_act_242 rfl ?_
    refine z_iload O dL_act_244 rfl ?_
    refine z_if_ne (tgt := 258) O dL_act_246 (by decide) (fun c84_ => ?_) (fun c84_ => ?_)
    · have h := h.1 c84_
      refine z_iload O dL_act_258 rfl ?_
      refine z_iconst (v := 1) O dL_act_260 (by decide) ?_
      refine z_icmp_ne (tgt := 275) O dL_act_261 (by decide) (fun c85_ => ?_) (fun c85_ => ?_)
      · have h := h.1 c85_
        refine z_iload O dL_act_275 rfl ?_
        refine z_iconst (v := 2) O dL_act_277 (by decide) ?_
        refine z_icmp_ne (tgt := 288) O dL_act_278 (by decide) (fun c86_ => ?_) (fun c86_ => ?_)
        · have h := h.1 c86_
          refine z_iload O dL_act_288 rfl ?_
          refine z_iconst (v := 3) O dL_act_290 (by decide) ?_
          refine z_icmp_ne (tgt := 302) O dL_act_291 (by decide) (fun c87_ => ?_) (fun c87_ => ?_)
          · have h := h.1 c87_
            refine z_iload O dL_act_302 rfl ?_
            refine z_iconst (v := 4) O dL_act_304 (by decide) ?_
            refine z_icmp_ne (tgt := 316) O dL_act_305 (by decide) (fun c88_ => ?_) (fun c88_ => ?_)
            · have h := h.1 c88_
              refine z_iload_n O dL_act_316 rfl rfl ?_
              refine z_bipush (v := 12) O dL_act_317 (by decide) ?_
              refine z_irem O dL_act_319 (by decide) ?_
              have hk90_ := lk_step 1 0 hk (Nat.le_of_ble_eq_true rfl)
              refine z_callHl (As := [.ref b0, .int (zrem y2 6), .int (zrem y3 12)]) (st := []) O (s_LAW_set hfl g0 h) wh_L_set wl_RL_149 dL_act_320 rfl rfl ⟨Nat.le_of_ble_eq_true rfl, Nat.le_of_ble_eq_true rfl⟩ (Nat.le_of_ble_eq_true rfl) ⟨lk_k hk90_, lk_n hk90_⟩ (fun r89_ z91_ G92_ hq93_ => ?_)
              obtain ⟨v94_, k95_, f96_, h⟩ := hq93_
              have F97_ : Fr b0 475 G G92_ := Fr.trans gF f96_
              exact z_lret O hret hlk dL_act_323 (lk_k hk90_) (lk_n hk90_) ⟨_, rfl, _, k95_, F97_, h⟩
            · have h := h.2 c88_
              refine z_iload_n O dL_act_308 rfl rfl ?_
              refine z_sipush (v := 300) O dL_act_309 (by decide) ?_
              refine z_irem O dL_act_312 (by decide) ?_
              refine z_goto (tgt := 320) O dL_act_313 (by decide) ?_
              have hk99_ := lk_step 1 0 hk (Nat.le_of_ble_eq_true rfl)
              refine z_callHl (As := [.ref b0, .int (zrem y2 6), .int (zrem y3 300)]) (st := []) O (s_LAW_set hfl g0 h) wh_L_set wl_RL_149 dL_act_320 rfl rfl ⟨Nat.le_of_ble_eq_true rfl, Nat.le_of_ble_eq_true rfl⟩ (Nat.le_of_ble_eq_true rfl) ⟨lk_k hk99_, lk_n hk99_⟩ (fun r98_ z100_ G101_ hq102_ => ?_)
              obtain ⟨v103_, k104_, f105_, h⟩ := hq102_
              have F106_ : Fr b0 475 G G101_ := Fr.trans gF f105_
              exact z_lret O hret hlk dL_act_323 (lk_k hk99_) (lk_n hk99_) ⟨_, rfl, _, k104_, F106_, h⟩
          · have h := h.2 c87_
            refine z_iload_n O dL_act_294 rfl rfl ?_
            refine z_sipush (v := 200) O dL_act_295 (by decide) ?_
            refine z_irem O dL_act_298 (by decide) ?_
            refine z_goto (tgt := 320) O dL_act_299 (by decide) ?_
            have hk108_ := lk_step 1 0 hk (Nat.le_of_ble_eq_true rfl)
            refine z_callHl (As := [.ref b0, .int (zrem y2 6), .int (zrem y3 200)]) (st := []) O (s_LAW_set hfl g0 h) wh_L_set wl_RL_149 dL_act_320 rfl rfl ⟨Nat.le_of_ble_eq_true rfl, Nat.le_of_ble_eq_true rfl⟩ (Nat.le_of_ble_eq_true rfl) ⟨lk_k hk108_, lk_n hk108_⟩ (fun r107_ z109_ G110_ hq111_ => ?_)
            obtain ⟨v112_, k113_, f114_, h⟩ := hq111_
            have F115_ : Fr b0 475 G G110_ := Fr.trans gF f114_
            exact z_lret O hret hlk dL_act_323 (lk_k hk108_) (lk_n hk108_) ⟨_, rfl, _, k113_, F115_, h⟩
        · have h := h.2 c86_
          refine z_iload_n O dL_act_281 rfl rfl ?_
          refine z_bipush (v := 9) O dL_act_282 (by decide) ?_
          refine z_irem O dL_act_284 (by decide) ?_
          refine z_goto (tgt := 320) O dL_act_285 (by decide) ?_
          have hk117_ := lk_step 1 0 hk (Nat.le_of_ble_eq_true rfl)
          refine z_callHl (As := [.ref b0, .int (zrem y2 6), .int (zrem y3 9)]) (st := []) O (s_LAW_set hfl g0 h) wh_L_set wl_RL_149 dL_act_320 rfl rfl ⟨Nat.le_of_ble_eq_true rfl, Nat.le_of_ble_eq_true rfl⟩ (Nat.le_of_ble_eq_true rfl) ⟨lk_k hk117_, lk_n hk117_⟩ (fun r116_ z118_ G119_ hq120_ => ?_)
          obtain ⟨v121_, k122_, f123_, h⟩ := hq120_
          have F124_ : Fr b0 475 G G119_ := Fr.trans gF f123_
          exact z_lret O hret hlk dL_act_323 (lk_k hk117_) (lk_n hk117_) ⟨_, rfl, _, k122_, F124_, h⟩
      · have h := h.2 c85_
        refine z_bipush (v := 40) O dL_act_264 (by decide) ?_
        refine z_iload_n O dL_act_266 rfl rfl ?_
        refine z_sipush (v := 161) O dL_act_267 (by decide) ?_
        refine z_irem O dL_act_270 (by decide) ?_
        refine z_iadd O dL_act_271 ?_
        refine z_goto (tgt := 320) O dL_act_272 (by decide) ?_
        have hk126_ := lk_step 1 0 hk (Nat.le_of_ble_eq_true rfl)
        refine z_callHl (As := [.ref b0, .int (zrem y2 6), .int (40 + (zrem y3 161))]) (st := []) O (s_LAW_set hfl g0 h) wh_L_set wl_RL_149 dL_act_320 rfl rfl ⟨Nat.le_of_ble_eq_true rfl, Nat.le_of_ble_eq_true rfl⟩ (Nat.le_of_ble_eq_true rfl) ⟨lk_k hk126_, lk_n hk126_⟩ (fun r125_ z127_ G128_ hq129_ => ?_)
        obtain ⟨v130_, k131_, f132_, h⟩ := hq129_
        have F133_ : Fr b0 475 G G128_ := Fr.trans gF f132_
        exact z_lret O hret hlk dL_act_323 (lk_k hk126_) (lk_n hk126_) ⟨_, rfl, _, k131_, F133_, h⟩
    · have h := h.2 c84_
      refine z_iconst (v := 1) O dL_act_249 (by decide) ?_
      refine z_iload_n O dL_act_250 rfl rfl ?_
      refine z_bipush (v := 8) O dL_act_251 (by decide) ?_
      refine z_irem O dL_act_253 (by decide) ?_
      refine z_iadd O dL_act_254 ?_
      refine z_goto (tgt := 320) O dL_act_255 (by decide) ?_
      have hk135_ := lk_step 1 0 hk (Nat.le_of_ble_eq_true rfl)
      refine z_callHl (As := [.ref b0, .int (zrem y2 6), .int (1 + (zrem y3 8))]) (st := []) O (s_LAW_set hfl g0 h) wh_L_set wl_RL_149 dL_act_320 rfl rfl ⟨Nat.le_of_ble_eq_true rfl, Nat.le_of_ble_eq_true rfl⟩ (Nat.le_of_ble_eq_true rfl) ⟨lk_k hk135_, lk_n hk135_⟩ (fun r134_ z136_ G137_ hq138_ => ?_)
      obtain ⟨v139_, k140_, f141_, h⟩ := hq138_
      have F142_ : Fr b0 475 G G137_ := Fr.trans gF f141_
      exact z_lret O hret hlk dL_act_323 (lk_k hk135_) (lk_n hk135_) ⟨_, rfl, _, k140_, F142_, h⟩
  have HJ324 : ∀     (y2 : Int32) (y3 : Int32) (v0 : TT) (G9 : zG) (g0 : TA b0 v0 G9) (gF : Fr b0 475 G G9) (z9 k9 m9 : Nat) (hk : k9 + (1 + 0) ≤ 1 ∧ m9 + 6 * (1 + 0) ≤ 6) (h : PJ_LAW_act_324 x1 x2 y2 y3 v0 Q), zT p l e (zrm 9 213 1 6) s m args below meth c (zEnd below D B (zRl fun r z' G' => ∃ w, TA b0 w G' ∧ Fr b0 475 G G' ∧ Q r w) args s 1 6) D B 5 k9 m9 324 [] [some (.ref b0), none, some (.int y2), some (.int y3), none] z9 G9 := by
    intro  y2 y3 v0 G9 g0 gF z9 k9 m9 hk h
    unfold PJ_LAW_act_324 at h
    refine z_aload_n O dL_act_324 rfl rfl ?_
    refine z_iconst (v := 1) O dL_act_325 (by decide) ?_
    refine z_iload_n O dL_act_326 rfl rfl ?_
    refine z_iload_n O dL_act_327 rfl rfl ?_
    refine z_iconst (v := 5) O dL_act_328 (by decide) ?_
    refine z_irem O dL_act_329 (by decide) ?_
    refine z_if_ne (tgt := 338) O dL_act_330 (by decide) (fun c145_ => ?_) (fun c145_ => ?_)
    · have h := h.1 c145_
      refine z_bipush (v := 6) O dL_act_338 (by decide) ?_
      refine z_irem O dL_act_340 (by decide) ?_
      refine z_iadd O dL_act_341 ?_
      have hk147_ := lk_step 1 0 hk (Nat.le_of_ble_eq_true rfl)
      refine z_callHl (As := [.ref b0, .int (1 + (zrem y2 6))]) (st := []) O (s_LAW_ticks hfl g0 h) wh_L_ticks wl_RL_155 dL_act_342 rfl rfl ⟨Nat.le_of_ble_eq_true rfl, Nat.le_of_ble_eq_true rfl⟩ (Nat.le_of_ble_eq_true rfl) ⟨lk_k hk147_, lk_n hk147_⟩ (fun r146_ z148_ G149_ hq150_ => ?_)
      obtain ⟨v151_, k152_, f153_, h⟩ := hq150_
      have F154_ : Fr b0 475 G G149_ := Fr.trans gF f153_
      exact z_lret O hret hlk dL_act_345 (lk_k hk147_) (lk_n hk147_) ⟨_, rfl, _, k152_, F154_, h⟩
    · have h := h.2 c145_
      refine z_bipush (v := 60) O dL_act_333 (by decide) ?_
      refine z_goto (tgt := 340) O dL_act_335 (by decide) ?_
      refine z_irem O dL_act_340 (by decide) ?_
      refine z_iadd O dL_act_341 ?_
      have hk156_ := lk_step 1 0 hk (Nat.le_of_ble_eq_true rfl)
      refine z_callHl (As := [.ref b0, .int (1 + (zrem y2 60))]) (st := []) O (s_LAW_ticks hfl g0 h) wh_L_ticks wl_RL_155 dL_act_342 rfl rfl ⟨Nat.le_of_ble_eq_true rfl, Nat.le_of_ble_eq_true rfl⟩ (Nat.le_of_ble_eq_true rfl) ⟨lk_k hk156_, lk_n hk156_⟩ (fun r155_ z157_ G158_ hq159_ => ?_)
      obtain ⟨v160_, k161_, f162_, h⟩ := hq159_
      have F163_ : Fr b0 475 G G158_ := Fr.trans gF f162_
      exact z_lret O hret hlk dL_act_345 (lk_k hk156_) (lk_n hk156_) ⟨_, rfl, _, k161_, F163_, h⟩
  refine z_iload_n O dL_act_0 rfl rfl ?_
  refine z_bipush (v := 32) O dL_act_1 (by decide) ?_
  refine z_idiv O dL_act_3 (by decide) ?_
  refine z_istore_n (L' := [some (.ref b0), some (.int x1), some (.int x2), some (.int (x2 / 32)), none]) O dL_act_4 rfl (by decide) rfl ?_
  refine z_iload_n O dL_act_5 rfl rfl ?_
  refine z_bipush (v := 24) O dL_act_6 (by decide) ?_
  refine z_irem O dL_act_8 (by decide) ?_
  rcases Decidable.em ((zrem x1 24) = 0) with c1_ | c1_
  · have h := h.1 c1_
    refine z_tsw (v := 0) (tgt := 116) O dL_act_9 c1_ (by decide) (by decide) rfl (by decide) ?_
    exact z_subL (L' := [some (.ref b0), none, some (.int x2), some (.int (x2 / 32)), none]) (zLe.sub (And.intro rfl (And.intro rfl (And.intro rfl True.intro)))) (HJ116 x2 (x2 / 32) v0 G h0 Fr.rf _ _ _ (lk_weak hk0 (c' := 1) (Nat.le_of_ble_eq_true rfl) (Nat.le_refl _)) h)
  · have h := h.2 c1_
    rcases Decidable.em ((zrem x1 24) = 1) with c11_ | c11_
    · have h := h.1 c11_
      refine z_tsw (v := 1) (tgt := 116) O dL_act_9 c11_ (by decide) (by decide) rfl (by decide) ?_
      exact z_subL (L' := [some (.ref b0), none, some (.int x2), some (.int (x2 / 32)), none]) (zLe.sub (And.intro rfl (And.intro rfl (And.intro rfl True.intro)))) (HJ116 x2 (x2 / 32) v0 G h0 Fr.rf _ _ _ (lk_weak hk0 (c' := 1) (Nat.le_of_ble_eq_true rfl) (Nat.le_refl _)) h)
    · have h := h.2 c11_
      rcases Decidable.em ((zrem x1 24) = 2) with c12_ | c12_
      · have h := h.1 c12_
        refine z_tsw (v := 2) (tgt := 116) O dL_act_9 c12_ (by decide) (by decide) rfl (by decide) ?_
        exact z_subL (L' := [some (.ref b0), none, some (.int x2), some (.int (x2 / 32)), none]) (zLe.sub (And.intro rfl (And.intro rfl (And.intro rfl True.intro)))) (HJ116 x2 (x2 / 32) v0 G h0 Fr.rf _ _ _ (lk_weak hk0 (c' := 1) (Nat.le_of_ble_eq_true rfl) (Nat.le_refl _)) h)
      · have h := h.2 c12_
        rcases Decidable.em ((zrem x1 24) = 3) with c13_ | c13_
        · have h := h.1 c13_
          refine z_tsw (v := 3) (tgt := 116) O dL_act_9 c13_ (by decide) (by decide) rfl (by decide) ?_
          exact z_subL (L' := [some (.ref b0), none, some (.int x2), some (.int (x2 / 32)), none]) (zLe.sub (And.intro rfl (And.intro rfl (And.intro rfl True.intro)))) (HJ116 x2 (x2 / 32) v0 G h0 Fr.rf _ _ _ (lk_weak hk0 (c' := 1) (Nat.le_of_ble_eq_true rfl) (Nat.le_refl _)) h)
        · have h := h.2 c13_
          rcases Decidable.em ((zrem x1 24) = 4) with c14_ | c14_
          · have h := h.1 c14_
            refine z_tsw (v := 4) (tgt := 116) O dL_act_9 c14_ (by decide) (by decide) rfl (by decide) ?_
            exact z_subL (L' := [some (.ref b0), none, some (.int x2), some (.int (x2 / 32)), none]) (zLe.sub (And.intro rfl (And.intro rfl (And.intro rfl True.intro)))) (HJ116 x2 (x2 / 32) v0 G h0 Fr.rf _ _ _ (lk_weak hk0 (c' := 1) (Nat.le_of_ble_eq_true rfl) (Nat.le_refl _)) h)
          · have h := h.2 c14_
            rcases Decidable.em ((zrem x1 24) = 5) with c15_ | c15_
            · have h := h.1 c15_
              refine z_tsw (v := 5) (tgt := 116) O dL_act_9 c15_ (by decide) (by decide) rfl (by decide) ?_
              exact z_subL (L' := [some (.ref b0), none, some (.int x2), some (.int (x2 / 32)), none]) (zLe.sub (And.intro rfl (And.intro rfl (And.intro rfl True.intro)))) (HJ116 x2 (x2 / 32) v0 G h0 Fr.rf _ _ _ (lk_weak hk0 (c' := 1) (Nat.le_of_ble_eq_true rfl) (Nat.le_refl _)) h)
            · have h := h.2 c15_
              rcases Decidable.em ((zrem x1 24) = 6) with c16_ | c16_
              · have h := h.1 c16_
                refine z_tsw (v := 6) (tgt := 138) O dL_act_9 c16_ (by decide) (by decide) rfl (by decide) ?_
                exact z_subL (L' := [some (.ref b0), none, some (.int x2), some (.int (x2 / 32)), none]) (zLe.sub (And.intro rfl (And.intro rfl (And.intro rfl True.intro)))) (HJ138 x2 (x2 / 32) v0 G h0 Fr.rf _ _ _ (lk_weak hk0 (c' := 1) (Nat.le_of_ble_eq_true rfl) (Nat.le_refl _)) h)
              · have h := h.2 c16_
                rcases Decidable.em ((zrem x1 24) = 7) with c37_ | c37_
                · have h := h.1 c37_
                  refine z_tsw (v := 7) (tgt := 138) O dL_act_9 c37_ (by decide) (by decide) rfl (by decide) ?_
                  exact z_subL (L' := [some (.ref b0), none, some (.int x2), some (.int (x2 / 32)), none]) (zLe.sub (And.intro rfl (And.intro rfl (And.intro rfl True.intro)))) (HJ138 x2 (x2 / 32) v0 G h0 Fr.rf _ _ _ (lk_weak hk0 (c' := 1) (Nat.le_of_ble_eq_true rfl) (Nat.le_refl _)) h)
                · have h := h.2 c37_
                  rcases Decidable.em ((zrem x1 24) = 8) with c38_ | c38_
                  · have h := h.1 c38_
                    refine z_tsw (v := 8) (tgt := 138) O dL_act_9 c38_ (by decide) (by decide) rfl (by decide) ?_
                    exact z_subL (L' := [some (.ref b0), none, some (.int x2), some (.int (x2 / 32)), none]) (zLe.sub (And.intro rfl (And.intro rfl (And.intro rfl True.intro)))) (HJ138 x2 (x2 / 32) v0 G h0 Fr.rf _ _ _ (lk_weak hk0 (c' := 1) (Nat.le_of_ble_eq_true rfl) (Nat.le_refl _)) h)
                  · have h := h.2 c38_
                    rcases Decidable.em ((zrem x1 24) = 9) with c39_ | c39_
                    · have h := h.1 c39_
                      refine z_tsw (v := 9) (tgt := 178) O dL_act_9 c39_ (by decide) (by decide) rfl (by decide) ?_
                      exact z_subL (L' := [some (.ref b0), none, some (.int x2), some (.int (x2 / 32)), none]) (zLe.sub (And.intro rfl (And.intro rfl (And.intro rfl True.intro)))) (HJ178 x2 (x2 / 32) v0 G h0 Fr.rf _ _ _ (lk_weak hk0 (c' := 1) (Nat.le_of_ble_eq_true rfl) (Nat.le_refl _)) h)
                    · have h := h.2 c39_
                      rcases Decidable.em ((zrem x1 24) = 10) with c50_ | c50_
                      · have h := h.1 c50_
                        refine z_tsw (v := 10) (tgt := 178) O dL_act_9 c50_ (by decide) (by decide) rfl (by decide) ?_
                        exact z_subL (L' := [some (.ref b0), none, some (.int x2), some (.int (x2 / 32)), none]) (zLe.sub (And.intro rfl (And.intro rfl (And.intro rfl True.intro)))) (HJ178 x2 (x2 / 32) v0 G h0 Fr.rf _ _ _ (lk_weak hk0 (c' := 1) (Nat.le_of_ble_eq_true rfl) (Nat.le_refl _)) h)
                      · have h := h.2 c50_
                        rcases Decidable.em ((zrem x1 24) = 11) with c51_ | c51_
                        · have h := h.1 c51_
                          refine z_tsw (v := 11) (tgt := 178) O dL_act_9 c51_ (by decide) (by decide) rfl (by decide) ?_
                          exact z_subL (L' := [some (.ref b0), none, some (.int x2), some (.int (x2 / 32)), none]) (zLe.sub (And.intro rfl (And.intro rfl (And.intro rfl True.intro)))) (HJ178 x2 (x2 / 32) v0 G h0 Fr.rf _ _ _ (lk_weak hk0 (c' := 1) (Nat.le_of_ble_eq_true rfl) (Nat.le_refl _)) h)
                        · have h := h.2 c51_
                          rcases Decidable.em ((zrem x1 24) = 12) with c52_ | c52_
                          · have h := h.1 c52_
                            refine z_tsw (v := 12) (tgt := 207) O dL_act_9 c52_ (by decide) (by decide) rfl (by decide) ?_
                            refine z_aload_n O dL_act_207 rfl rfl ?_
                            refine z_iload_n O dL_act_208 rfl rfl ?_
                            refine z_bipush (v := 8) O dL_act_209 (by decide) ?_
                            refine z_irem O dL_act_211 (by decide) ?_
                            have hk54_ := lk_step 1 0 hk0 (Nat.le_of_ble_eq_true rfl)
                            refine z_callHl (As := [.ref b0, .int (zrem x2 8)]) (st := []) O (s_LAW_leave hfl h0 h) wh_L_leave wl_RL_144 dL_act_212 rfl rfl ⟨Nat.le_of_ble_eq_true rfl, Nat.le_of_ble_eq_true rfl⟩ (Nat.le_of_ble_eq_true rfl) ⟨lk_k hk54_, lk_n hk54_⟩ (fun r53_ z55_ G56_ hq57_ => ?_)
                            obtain ⟨v58_, k59_, f60_, h⟩ := hq57_
                            have F61_ : Fr b0 475 G G56_ := Fr.trans Fr.rf f60_
                            exact z_lret O hret hlk dL_act_215 (lk_k hk54_) (lk_n hk54_) ⟨_, rfl, _, k59_, F61_, h⟩
                          · have h := h.2 c52_
                            rcases Decidable.em ((zrem x1 24) = 13) with c62_ | c62_
                            · have h := h.1 c62_
                              refine z_tsw (v := 13) (tgt := 216) O dL_act_9 c62_ (by decide) (by decide) rfl (by decide) ?_
                              exact z_subL (L' := [some (.ref b0), none, some (.int x2), some (.int (x2 / 32)), none]) (zLe.sub (And.intro rfl (And.intro rfl (And.intro rfl True.intro)))) (HJ216 x2 (x2 / 32) v0 G h0 Fr.rf _ _ _ (lk_weak hk0 (c' := 1) (Nat.le_of_ble_eq_true rfl) (Nat.le_refl _)) h)
                            · have h := h.2 c62_
                              rcases Decidable.em ((zrem x1 24) = 14) with c82_ | c82_
                              · have h := h.1 c82_
                                refine z_tsw (v := 14) (tgt := 216) O dL_act_9 c82_ (by decide) (by decide) rfl (by decide) ?_
                                exact z_subL (L' := [some (.ref b0), none, some (.int x2), some (.int (x2 / 32)), none]) (zLe.sub (And.intro rfl (And.intro rfl (And.intro rfl True.intro)))) (HJ216 x2 (x2 / 32) v0 G h0 Fr.rf _ _ _ (lk_weak hk0 (c' := 1) (Nat.le_of_ble_eq_true rfl) (Nat.le_refl _)) h)
                              · have h := h.2 c82_
                                rcases Decidable.em ((zrem x1 24) = 15) with c83_ | c83_
                                · have h := h.1 c83_
                                  refine z_tsw (v := 15) (tgt := 235) O dL_act_9 c83_ (by decide) (by decide) rfl (by decide) ?_
                                  exact z_subL (L' := [some (.ref b0), none, some (.int x2), some (.int (x2 / 32)), none]) (zLe.sub (And.intro rfl (And.intro rfl (And.intro rfl True.intro)))) (HJ235 x2 (x2 / 32) v0 G h0 Fr.rf _ _ _ (lk_weak hk0 (c' := 1) (Nat.le_of_ble_eq_true rfl) (Nat.le_refl _)) h)
                                · have h := h.2 c83_
                                  rcases Decidable.em ((zrem x1 24) = 16) with c143_ | c143_
                                  · have h := h.1 c143_
                                    refine z_tsw (v := 16) (tgt := 235) O dL_act_9 c143_ (by decide) (by decide) rfl (by decide) ?_
                                    exact z_subL (L' := [some (.ref b0), none, some (.int x2), some (.int (x2 / 32)), none]) (zLe.sub (And.intro rfl (And.intro rfl (And.intro rfl True.intro)))) (HJ235 x2 (x2 / 32) v0 G h0 Fr.rf _ _ _ (lk_weak hk0 (c' := 1) (Nat.le_of_ble_eq_true rfl) (Nat.le_refl _)) h)
                                  · have h := h.2 c143_
                                    rcases Decidable.em ((zrem x1 24) = 17) with c144_ | c144_
                                    · have h := h.1 c144_
                                      refine z_tsw (v := 17) (tgt := 324) O dL_act_9 c144_ (by decide) (by decide) rfl (by decide) ?_
                                      exact z_subL (L' := [some (.ref b0), none, some (.int x2), some (.int (x2 / 32)), none]) (zLe.sub (And.intro rfl (And.intro rfl (And.intro rfl True.intro)))) (HJ324 x2 (x2 / 32) v0 G h0 Fr.rf _ _ _ (lk_weak hk0 (c' := 1) (Nat.le_of_ble_eq_true rfl) (Nat.le_refl _)) h)
                                    · have h := h.2 c144_
                                      rcases Decidable.em ((zrem x1 24) = 18) with c164_ | c164_
                                      · have h := h.1 c164_
                                        refine z_tsw (v := 18) (tgt := 324) O dL_act_9 c164_ (by decide) (by decide) rfl (by decide) ?_
                                        exact z_subL (L' := [some (.ref b0), none, some (.int x2), some (.int (x2 / 32)), none]) (zLe.sub (And.intro rfl (And.intro rfl (And.intro rfl True.intro)))) (HJ324 x2 (x2 / 32) v0 G h0 Fr.rf _ _ _ (lk_weak hk0 (c' := 1) (Nat.le_of_ble_eq_true rfl) (Nat.le_refl _)) h)
                                      · have h := h.2 c164_
                                        rcases Decidable.em ((zrem x1 24) = 19) with c165_ | c165_
                                        · have h := h.1 c165_
                                          refine z_tsw (v := 19) (tgt := 324) O dL_act_9 c165_ (by decide) (by decide) rfl (by decide) ?_
                                          exact z_subL (L' := [some (.ref b0), none, some (.int x2), some (.int (x2 / 32)), none]) (zLe.sub (And.intro rfl (And.intro rfl (And.intro rfl True.intro)))) (HJ324 x2 (x2 / 32) v0 G h0 Fr.rf _ _ _ (lk_weak hk0 (c' := 1) (Nat.le_of_ble_eq_true rfl) (Nat.le_refl _)) h)
                                        · have h := h.2 c165_
                                          rcases Decidable.em ((zrem x1 24) = 20) with c166_ | c166_
                                          · have h := h.1 c166_
                                            refine z_tsw (v := 20) (tgt := 324) O dL_act_9 c166_ (by decide) (by decide) rfl (by decide) ?_
                                            exact z_subL (L' := [some (.ref b0), none, some (.int x2), some (.int (x2 / 32)), none]) (zLe.sub (And.intro rfl (And.intro rfl (And.intro rfl True.intro)))) (HJ324 x2 (x2 / 32) v0 G h0 Fr.rf _ _ _ (lk_weak hk0 (c' := 1) (Nat.le_of_ble_eq_true rfl) (Nat.le_refl _)) h)
                                          · have h := h.2 c166_
                                            rcases Decidable.em ((zrem x1 24) = 21) with c167_ | c167_
                                            · have h := h.1 c167_
                                              refine z_tsw (v := 21) (tgt := 346) O dL_act_9 c167_ (by decide) (by decide) rfl (by decide) ?_
                                              refine z_aload_n O dL_act_346 rfl rfl ?_
                                              have hk169_ := lk_step 1 0 hk0 (Nat.le_of_ble_eq_true rfl)
                                              refine z_callHl (As := [.ref b0]) (st := []) O (s_LAW_undo hfl h0 h) wh_L_undo wl_RL_187 dL_act_347 rfl rfl ⟨Nat.le_of_ble_eq_true rfl, Nat.le_of_ble_eq_true rfl⟩ (Nat.le_of_ble_eq_true rfl) ⟨lk_k hk169_, lk_n hk169_⟩ (fun r168_ z170_ G171_ hq172_ => ?_)
                                              obtain ⟨v173_, k174_, f175_, h⟩ := hq172_
                                              have F176_ : Fr b0 475 G G171_ := Fr.trans Fr.rf f175_
                                              exact z_lret O hret hlk dL_act_350 (lk_k hk169_) (lk_n hk169_) ⟨_, rfl, _, k174_, F176_, h⟩
                                            · have h := h.2 c167_
                                              rcases Decidable.em ((zrem x1 24) = 22) with c177_ | c177_
                                              · have h := h.1 c177_
                                                refine z_tsw (v := 22) (tgt := 346) O dL_act_9 c177_ (by decide) (by decide) rfl (by decide) ?_
                                                refine z_aload_n O dL_act_346 rfl rfl ?_
                                                have hk179_ := lk_step 1 0 hk0 (Nat.le_of_ble_eq_true rfl)
                                                refine z_callHl (As := [.ref b0]) (st := []) O (s_LAW_undo hfl h0 h) wh_L_undo wl_RL_187 dL_act_347 rfl rfl ⟨Nat.le_of_ble_eq_true rfl, Nat.le_of_ble_eq_true rfl⟩ (Nat.le_of_ble_eq_true rfl) ⟨lk_k hk179_, lk_n hk179_⟩ (fun r178_ z180_ G181_ hq182_ => ?_)
                                                obtain ⟨v183_, k184_, f185_, h⟩ := hq182_
                                                have F186_ : Fr b0 475 G G181_ := Fr.trans Fr.rf f185_
                                                exact z_lret O hret hlk dL_act_350 (lk_k hk179_) (lk_n hk179_) ⟨_, rfl, _, k184_, F186_, h⟩
                                              · have h := h.2 c177_
                                                refine z_tswd (tgt := 351) O dL_act_9 (zsw_out (fun j h1 h2 => by rcases (show j = 0 ∨ j = 1 ∨ j = 2 ∨ j = 3 ∨ j = 4 ∨ j = 5 ∨ j = 6 ∨ j = 7 ∨ j = 8 ∨ j = 9 ∨ j = 10 ∨ j = 11 ∨ j = 12 ∨ j = 13 ∨ j = 14 ∨ j = 15 ∨ j = 16 ∨ j = 17 ∨ j = 18 ∨ j = 19 ∨ j = 20 ∨ j = 21 ∨ j = 22 by omega) with rfl | rfl | rfl | rfl | rfl | rfl | rfl | rfl | rfl | rfl | rfl | rfl | rfl | rfl | rfl | rfl | rfl | rfl | rfl | rfl | rfl | rfl | rfl; exact c1_; exact c11_; exact c12_; exact c13_; exact c14_; exact c15_; exact c16_; exact c37_; exact c38_; exact c39_; exact c50_; exact c51_; exact c52_; exact c62_; exact c82_; exact c83_; exact c143_; exact c144_; exact c164_; exact c165_; exact c166_; exact c167_; exact c177_)) (by decide) ?_
                                                refine z_iload_n O dL_act_351 rfl rfl ?_
                                                refine z_iconst (v := 2) O dL_act_352 (by decide) ?_
                                                refine z_irem O dL_act_353 (by decide) ?_
                                                refine z_if_ne (tgt := 369) O dL_act_354 (by decide) (fun c187_ => ?_) (fun c187_ => ?_)
                                                · have h := h.1 c187_
                                                  refine z_aload_n O dL_act_369 rfl rfl ?_
                                                  refine z_iload_n O dL_act_370 rfl rfl ?_
                                                  refine z_iconst (v := 2) O dL_act_371 (by decide) ?_
                                                  refine z_idiv O dL_act_372 (by decide) ?_
                                                  refine z_iconst (v := 1) O dL_act_373 (by decide) ?_
                                                  refine z_iand O dL_act_374 ?_
                                                  have hk189_ := lk_step 1 0 hk0 (Nat.le_of_ble_eq_true rfl)
                                                  refine z_callHl (As := [.ref b0, .int (zand ((x2 / 32) / 2) 1)]) (st := []) O (s_LAW_restore hfl h0 h) wh_L_restore wl_RL_172 dL_act_375 rfl rfl ⟨Nat.le_of_ble_eq_true rfl, Nat.le_of_ble_eq_true rfl⟩ (Nat.le_of_ble_eq_true rfl) ⟨lk_k hk189_, lk_n hk189_⟩ (fun r188_ z190_ G191_ hq192_ => ?_)
                                                  obtain ⟨v193_, k194_, f195_, h⟩ := hq192_
                                                  have F196_ : Fr b0 475 G G191_ := Fr.trans Fr.rf f195_
                                                  exact z_lret O hret hlk dL_act_378 (lk_k hk189_) (lk_n hk189_) ⟨_, rfl, _, k194_, F196_, h⟩
                                                · have h := h.2 c187_
                                                  refine z_aload_n O dL_act_357 rfl rfl ?_
                                                  refine z_iload_n O dL_act_358 rfl rfl ?_
                                                  refine z_iconst (v := 2) O dL_act_359 (by decide) ?_
                                                  refine z_idiv O dL_act_360 (by decide) ?_
                                                  refine z_iconst (v := 1) O dL_act_361 (by decide) ?_
                                                  refine z_iand O dL_act_362 ?_
                                                  have hk198_ := lk_step 1 0 hk0 (Nat.le_of_ble_eq_true rfl)
                                                  refine z_callHl (As := [.ref b0, .int (zand ((x2 / 32) / 2) 1)]) (st := []) O (s_LAW_save hfl h0 h) wh_L_save wl_RL_170 dL_act_363 rfl rfl ⟨Nat.le_of_ble_eq_true rfl, Nat.le_of_ble_eq_true rfl⟩ (Nat.le_of_ble_eq_true rfl) ⟨lk_k hk198_, lk_n hk198_⟩ (fun r197_ z199_ G200_ hq201_ => ?_)
                                                  obtain ⟨v202_, k203_, f204_, h⟩ := hq201_
                                                  have F205_ : Fr b0 475 G G200_ := Fr.trans Fr.rf f204_
                                                  refine z_goto (tgt := 378) O dL_act_366 (by decide) ?_
                                                  exact z_lret O hret hlk dL_act_378 (lk_k hk198_) (lk_n hk198_) ⟨_, rfl, _, k203_, F205_, h⟩
