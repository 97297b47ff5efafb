theorem dL_follows_0 : decode cL_follows 0 = .ok (.aload_n 0, 1) := by decide +kernel
theorem dL_follows_1 : decode cL_follows 1 = .ok (.invokestatic 128, 3) := by decide +kernel
theorem dL_follows_4 : decode cL_follows 4 = .ok (.lstore_n 2, 1) := by decide +kernel
theorem dL_follows_5 : decode cL_follows 5 = .ok (.aload_n 0, 1) := by decide +kernel
theorem dL_follows_6 : decode cL_follows 6 = .ok (.iconst 1, 1) := by decide +kernel
theorem dL_follows_7 : decode cL_follows 7 = .ok (.invokestatic 170, 3) := by decide +kernel
theorem dL_follows_10 : decode cL_follows 10 = .ok (.aload_n 0, 1) := by decide +kernel
theorem dL_follows_11 : decode cL_follows 11 = .ok (.bipush 7, 2) := by decide +kernel
theorem dL_follows_13 : decode cL_follows 13 = .ok (.invokestatic 110, 3) := by decide +kernel
theorem dL_follows_16 : decode cL_follows 16 = .ok (.lcmp, 1) := by decide +kernel
theorem dL_follows_17 : decode cL_follows 17 = .ok (.ifCond .ne 36, 3) := by decide +kernel
theorem dL_follows_20 : decode cL_follows 20 = .ok (.aload_n 0, 1) := by decide +kernel
theorem dL_follows_21 : decode cL_follows 21 = .ok (.iload_n 1, 1) := by decide +kernel
theorem dL_follows_22 : decode cL_follows 22 = .ok (.i2l, 1) := by decide +kernel
theorem dL_follows_23 : decode cL_follows 23 = .ok (.bipush 6, 2) := by decide +kernel
theorem dL_follows_25 : decode cL_follows 25 = .ok (.invokestatic 167, 3) := by decide +kernel
theorem dL_follows_28 : decode cL_follows 28 = .ok (.aload_n 0, 1) := by decide +kernel
theorem dL_follows_29 : decode cL_follows 29 = .ok (.iload_n 1, 1) := by decide +kernel
theorem dL_follows_30 : decode cL_follows 30 = .ok (.i2l, 1) := by decide +kernel
theorem dL_follows_31 : decode cL_follows 31 = .ok (.bipush 6, 2) := by decide +kernel
theorem dL_follows_33 : decode cL_follows 33 = .ok (.invokestatic 167, 3) := by decide +kernel
theorem dL_follows_36 : decode cL_follows 36 = .ok (.lcmp, 1) := by decide +kernel
theorem dL_follows_37 : decode cL_follows 37 = .ok (.ifCond .ne 16, 3) := by decide +kernel
theorem dL_follows_40 : decode cL_follows 40 = .ok (.aload_n 0, 1) := by decide +kernel
theorem dL_follows_41 : decode cL_follows 41 = .ok (.invokestatic 128, 3) := by decide +kernel
theorem dL_follows_44 : decode cL_follows 44 = .ok (.lload_n 2, 1) := by decide +kernel
theorem dL_follows_45 : decode cL_follows 45 = .ok (.lcmp, 1) := by decide +kernel
theorem dL_follows_46 : decode cL_follows 46 = .ok (.ifCond .ne 7, 3) := by decide +kernel
theorem dL_follows_49 : decode cL_follows 49 = .ok (.iconst 1, 1) := by decide +kernel
theorem dL_follows_50 : decode cL_follows 50 = .ok (.goto 4, 3) := by decide +kernel
theorem dL_follows_53 : decode cL_follows 53 = .ok (.iconst 0, 1) := by decide +kernel
theorem dL_follows_54 : decode cL_follows 54 = .ok (.istore 4, 2) := by decide +kernel
theorem dL_follows_56 : decode cL_follows 56 = .ok (.aload_n 0, 1) := by decide +kernel
theorem dL_follows_57 : decode cL_follows 57 = .ok (.invokevirtual 184, 3) := by decide +kernel
theorem dL_follows_60 : decode cL_follows 60 = .ok (.istore 5, 2) := by decide +kernel
theorem dL_follows_62 : decode cL_follows 62 = .ok (.aload_n 0, 1) := by decide +kernel
theorem dL_follows_63 : decode cL_follows 63 = .ok (.bipush 8, 2) := by decide +kernel
theorem dL_follows_65 : decode cL_follows 65 = .ok (.invokestatic 110, 3) := by decide +kernel
theorem dL_follows_68 : decode cL_follows 68 = .ok (.lstore 6, 2) := by decide +kernel
theorem dL_follows_70 : decode cL_follows 70 = .ok (.iload 5, 2) := by decide +kernel
theorem dL_follows_72 : decode cL_follows 72 = .ok (.iconst (-1), 1) := by decide +kernel
theorem dL_follows_73 : decode cL_follows 73 = .ok (.if_icmp .eq 85, 3) := by decide +kernel
theorem dL_follows_76 : decode cL_follows 76 = .ok (.iload 5, 2) := by decide +kernel
theorem dL_follows_78 : decode cL_follows 78 = .ok (.bipush 100, 2) := by decide +kernel
theorem dL_follows_80 : decode cL_follows 80 = .ok (.if_icmp .ge 78, 3) := by decide +kernel
theorem dL_follows_83 : decode cL_follows 83 = .ok (.iload 4, 2) := by decide +kernel
theorem dL_follows_85 : decode cL_follows 85 = .ok (.ifCond .eq 73, 3) := by decide +kernel
theorem dL_follows_88 : decode cL_follows 88 = .ok (.aload_n 0, 1) := by decide +kernel
theorem dL_follows_89 : decode cL_follows 89 = .ok (.iload 5, 2) := by decide +kernel
theorem dL_follows_91 : decode cL_follows 91 = .ok (.invokestatic 155, 3) := by decide +kernel
theorem dL_follows_94 : decode cL_follows 94 = .ok (.lconst 0, 1) := by decide +kernel
theorem dL_follows_95 : decode cL_follows 95 = .ok (.lcmp, 1) := by decide +kernel
theorem dL_follows_96 : decode cL_follows 96 = .ok (.ifCond .le 56, 3) := by decide +kernel
theorem dL_follows_99 : decode cL_follows 99 = .ok (.aload_n 0, 1) := by decide +kernel
theorem dL_follows_100 : decode cL_follows 100 = .ok (.bipush 8, 2) := by decide +kernel
theorem dL_follows_102 : decode cL_follows 102 = .ok (.invokestatic 110, 3) := by decide +kernel
theorem dL_follows_105 : decode cL_follows 105 = .ok (.lload 6, 2) := by decide +kernel
theorem dL_follows_107 : decode cL_follows 107 = .ok (.lcmp, 1) := by decide +kernel
theorem dL_follows_108 : decode cL_follows 108 = .ok (.ifCond .le 44, 3) := by decide +kernel
theorem dL_follows_111 : decode cL_follows 111 = .ok (.aload_n 0, 1) := by decide +kernel
theorem dL_follows_112 : decode cL_follows 112 = .ok (.invokestatic 187, 3) := by decide +kernel
theorem dL_follows_115 : decode cL_follows 115 = .ok (.lconst 0, 1) := by decide +kernel
theorem dL_follows_116 : decode cL_follows 116 = .ok (.lcmp, 1) := by decide +kernel
theorem dL_follows_117 : decode cL_follows 117 = .ok (.ifCond .lt 35, 3) := by decide +kernel
theorem dL_follows_120 : decode cL_follows 120 = .ok (.iload 5, 2) := by decide +kernel
theorem dL_follows_122 : decode cL_follows 122 = .ok (.iconst 1, 1) := by decide +kernel
theorem dL_follows_123 : decode cL_follows 123 = .ok (.if_icmp .eq 25, 3) := by decide +kernel
theorem dL_follows_126 : decode cL_follows 126 = .ok (.aload_n 0, 1) := by decide +kernel
theorem dL_follows_127 : decode cL_follows 127 = .ok (.iload 5, 2) := by decide +kernel
theorem dL_follows_129 : decode cL_follows 129 = .ok (.iconst 1, 1) := by decide +kernel
theorem dL_follows_130 : decode cL_follows 130 = .ok (.isub, 1) := by decide +kernel
theorem dL_follows_131 : decode cL_follows 131 = .ok (.invokestatic 155, 3) := by decide +kernel
theorem dL_follows_134 : decode cL_follows 134 = .ok (.lconst 0, 1) := by decide +kernel
theorem dL_follows_135 : decode cL_follows 135 = .ok (.lcmp, 1) := by decide +kernel
theorem dL_follows_136 : decode cL_follows 136 = .ok (.ifCond .ne 16, 3) := by decide +kernel
theorem dL_follows_139 : decode cL_follows 139 = .ok (.aload_n 0, 1) := by decide +kernel
theorem dL_follows_140 : decode cL_follows 140 = .ok (.invokestatic 187, 3) := by decide +kernel
theorem dL_follows_143 : decode cL_follows 143 = .ok (.lconst 0, 1) := by decide +kernel
theorem dL_follows_144 : decode cL_follows 144 = .ok (.lcmp, 1) := by decide +kernel
theorem dL_follows_145 : decode cL_follows 145 = .ok (.ifCond .lt 7, 3) := by decide +kernel
theorem dL_follows_148 : decode cL_follows 148 = .ok (.iconst 1, 1) := by decide +kernel
theorem dL_follows_149 : decode cL_follows 149 = .ok (.goto 4, 3) := by decide +kernel
theorem dL_follows_152 : decode cL_follows 152 = .ok (.iconst 0, 1) := by decide +kernel
theorem dL_follows_153 : decode cL_follows 153 = .ok (.istore 4, 2) := by decide +kernel
theorem dL_follows_155 : decode cL_follows 155 = .ok (.goto 41, 3) := by decide +kernel
theorem dL_follows_158 : decode cL_follows 158 = .ok (.iload 5, 2) := by decide +kernel
theorem dL_follows_160 : decode cL_follows 160 = .ok (.iconst (-1), 1) := by decide +kernel
theorem dL_follows_161 : decode cL_follows 161 = .ok (.if_icmp .ne 35, 3) := by decide +kernel
theorem dL_follows_164 : decode cL_follows 164 = .ok (.iload 4, 2) := by decide +kernel
theorem dL_follows_166 : decode cL_follows 166 = .ok (.ifCond .eq 30, 3) := by decide +kernel
theorem dL_follows_169 : decode cL_follows 169 = .ok (.aload_n 0, 1) := by decide +kernel
theorem dL_follows_170 : decode cL_follows 170 = .ok (.bipush 99, 2) := by decide +kernel
theorem dL_follows_172 : decode cL_follows 172 = .ok (.invokestatic 155, 3) := by decide +kernel
theorem dL_follows_175 : decode cL_follows 175 = .ok (.lconst 0, 1) := by decide +kernel
theorem dL_follows_176 : decode cL_follows 176 = .ok (.lcmp, 1) := by decide +kernel
theorem dL_follows_177 : decode cL_follows 177 = .ok (.ifCond .ne 16, 3) := by decide +kernel
theorem dL_follows_180 : decode cL_follows 180 = .ok (.aload_n 0, 1) := by decide +kernel
theorem dL_follows_181 : decode cL_follows 181 = .ok (.invokestatic 187, 3) := by decide +kernel
theorem dL_follows_184 : decode cL_follows 184 = .ok (.lconst 0, 1) := by decide +kernel
theorem dL_follows_185 : decode cL_follows 185 = .ok (.lcmp, 1) := by decide +kernel
theorem dL_follows_186 : decode cL_follows 186 = .ok (.ifCond .lt 7, 3) := by decide +kernel
theorem dL_follows_189 : decode cL_follows 189 = .ok (.iconst 1, 1) := by decide +kernel
theorem dL_follows_190 : decode cL_follows 190 = .ok (.goto 4, 3) := by decide +kernel
theorem dL_follows_193 : decode cL_follows 193 = .ok (.iconst 0, 1) := by decide +kernel
theorem dL_follows_194 : decode cL_follows 194 = .ok (.istore 4, 2) := by decide +kernel
theorem dL_follows_196 : decode cL_follows 196 = .ok (.iload_n 1, 1) := by decide +kernel
theorem dL_follows_197 : decode cL_follows 197 = .ok (.bipush 8, 2) := by decide +kernel
theorem dL_follows_199 : decode cL_follows 199 = .ok (.irem, 1) := by decide +kernel
theorem dL_follows_200 : decode cL_follows 200 = .ok (.istore 8, 2) := by decide +kernel
theorem dL_follows_202 : decode cL_follows 202 = .ok (.aload_n 0, 1) := by decide +kernel
theorem dL_follows_203 : decode cL_follows 203 = .ok (.iload 8, 2) := by decide +kernel
theorem dL_follows_205 : decode cL_follows 205 = .ok (.iconst 0, 1) := by decide +kernel
theorem dL_follows_206 : decode cL_follows 206 = .ok (.invokestatic 121, 3) := by decide +kernel
theorem dL_follows_209 : decode cL_follows 209 = .ok (.ldc2_w 36, 3) := by decide +kernel
theorem dL_follows_212 : decode cL_follows 212 = .ok (.lcmp, 1) := by decide +kernel
theorem dL_follows_213 : decode cL_follows 213 = .ok (.ifCond .eq 224, 3) := by decide +kernel
theorem dL_follows_216 : decode cL_follows 216 = .ok (.iload 4, 2) := by decide +kernel
theorem dL_follows_218 : decode cL_follows 218 = .ok (.ifCond .eq 219, 3) := by decide +kernel
theorem dL_follows_221 : decode cL_follows 221 = .ok (.aload_n 0, 1) := by decide +kernel
theorem dL_follows_222 : decode cL_follows 222 = .ok (.iload 8, 2) := by decide +kernel
theorem dL_follows_224 : decode cL_follows 224 = .ok (.invokestatic 151, 3) := by decide +kernel
theorem dL_follows_227 : decode cL_follows 227 = .ok (.lstore 9, 2) := by decide +kernel
theorem dL_follows_229 : decode cL_follows 229 = .ok (.aload_n 0, 1) := by decide +kernel
theorem dL_follows_230 : decode cL_follows 230 = .ok (.iload 8, 2) := by decide +kernel
theorem dL_follows_232 : decode cL_follows 232 = .ok (.invokestatic 153, 3) := by decide +kernel
theorem dL_follows_235 : decode cL_follows 235 = .ok (.lstore 11, 2) := by decide +kernel
theorem dL_follows_237 : decode cL_follows 237 = .ok (.aload_n 0, 1) := by decide +kernel
theorem dL_follows_238 : decode cL_follows 238 = .ok (.iload 8, 2) := by decide +kernel
theorem dL_follows_240 : decode cL_follows 240 = .ok (.iconst 1, 1) := by decide +kernel
theorem dL_follows_241 : decode cL_follows 241 = .ok (.invokestatic 121, 3) := by decide +kernel
theorem dL_follows_244 : decode cL_follows 244 = .ok (.lconst 1, 1) := by decide +kernel
theorem dL_follows_245 : decode cL_follows 245 = .ok (.lcmp, 1) := by decide +kernel
theorem dL_follows_246 : decode cL_follows 246 = .ok (.ifCond .ne 7, 3) := by decide +kernel
theorem dL_follows_249 : decode cL_follows 249 = .ok (.iconst 1, 1) := by decide +kernel
theorem dL_follows_250 : decode cL_follows 250 = .ok (.goto 4, 3) := by decide +kernel
theorem dL_follows_253 : decode cL_follows 253 = .ok (.iconst 0, 1) := by decide +kernel
theorem dL_follows_254 : decode cL_follows 254 = .ok (.istore 13, 2) := by decide +kernel
theorem dL_follows_256 : decode cL_follows 256 = .ok (.aload_n 0, 1) := by decide +kernel
theorem dL_follows_257 : decode cL_follows 257 = .ok (.bipush 9, 2) := by decide +kernel
theorem dL_follows_259 : decode cL_follows 259 = .ok (.invokestatic 110, 3) := by decide +kernel
theorem dL_follows_262 : decode cL_follows 262 = .ok (.aload_n 0, 1) := by decide +kernel
theorem dL_follows_263 : decode cL_follows 263 = .ok (.bipush 10, 2) := by decide +kernel
theorem dL_follows_265 : decode cL_follows 265 = .ok (.invokestatic 110, 3) := by decide +kernel
theorem dL_follows_268 : decode cL_follows 268 = .ok (.ladd, 1) := by decide +kernel
theorem dL_follows_269 : decode cL_follows 269 = .ok (.lstore 14, 2) := by decide +kernel
theorem dL_follows_271 : decode cL_follows 271 = .ok (.iload 13, 2) := by decide +kernel
theorem dL_follows_273 : decode cL_follows 273 = .ok (.ifCond .eq 93, 3) := by decide +kernel
theorem dL_follows_276 : decode cL_follows 276 = .ok (.lload 9, 2) := by decide +kernel
theorem dL_follows_278 : decode cL_follows 278 = .ok (.ldc2_w 189, 3) := by decide +kernel
theorem dL_follows_281 : decode cL_follows 281 = .ok (.lcmp, 1) := by decide +kernel
theorem dL_follows_282 : decode cL_follows 282 = .ok (.ifCond .eq 84, 3) := by decide +kernel
theorem dL_follows_285 : decode cL_follows 285 = .ok (.lload 9, 2) := by decide +kernel
theorem dL_follows_287 : decode cL_follows 287 = .ok (.ldc2_w 191, 3) := by decide +kernel
theorem dL_follows_290 : decode cL_follows 290 = .ok (.lcmp, 1) := by decide +kernel
theorem dL_follows_291 : decode cL_follows 291 = .ok (.ifCond .ge 75, 3) := by decide +kernel
theorem dL_follows_294 : decode cL_follows 294 = .ok (.aload_n 0, 1) := by decide +kernel
theorem dL_follows_295 : decode cL_follows 295 = .ok (.lload 9, 2) := by decide +kernel
theorem dL_follows_297 : decode cL_follows 297 = .ok (.l2i, 1) := by decide +kernel
theorem dL_follows_298 : decode cL_follows 298 = .ok (.invokestatic 155, 3) := by decide +kernel
theorem dL_follows_301 : decode cL_follows 301 = .ok (.lconst 0, 1) := by decide +kernel
theorem dL_follows_302 : decode cL_follows 302 = .ok (.lcmp, 1) := by decide +kernel
theorem dL_follows_303 : decode cL_follows 303 = .ok (.ifCond .lt 60, 3) := by decide +kernel
theorem dL_follows_306 : decode cL_follows 306 = .ok (.aload_n 0, 1) := by decide +kernel
theorem dL_follows_307 : decode cL_follows 307 = .ok (.iload 8, 2) := by decide +kernel
theorem dL_follows_309 : decode cL_follows 309 = .ok (.iconst 1, 1) := by decide +kernel
theorem dL_follows_310 : decode cL_follows 310 = .ok (.invokestatic 121, 3) := by decide +kernel
theorem dL_follows_313 : decode cL_follows 313 = .ok (.lconst 0, 1) := by decide +kernel
theorem dL_follows_314 : decode cL_follows 314 = .ok (.lcmp, 1) := by decide +kernel
theorem dL_follows_315 : decode cL_follows 315 = .ok (.ifCond .ne 48, 3) := by decide +kernel
theorem dL_follows_318 : decode cL_follows 318 = .ok (.aload_n 0, 1) := by decide +kernel
theorem dL_follows_319 : decode cL_follows 319 = .ok (.iload 8, 2) := by decide +kernel
theorem dL_follows_321 : decode cL_follows 321 = .ok (.bipush 8, 2) := by decide +kernel
theorem dL_follows_323 : decode cL_follows 323 = .ok (.invokestatic 121, 3) := by decide +kernel
theorem dL_follows_326 : decode cL_follows 326 = .ok (.lconst 0, 1) := by decide +kernel
theorem dL_follows_327 : decode cL_follows 327 = .ok (.lcmp, 1) := by decide +kernel
theorem dL_follows_328 : decode cL_follows 328 = .ok (.ifCond .le 35, 3) := by decide +kernel
theorem dL_follows_331 : decode cL_follows 331 = .ok (.aload_n 0, 1) := by decide +kernel
theorem dL_follows_332 : decode cL_follows 332 = .ok (.bipush 9, 2) := by decide +kernel
theorem dL_follows_334 : decode cL_follows 334 = .ok (.invokestatic 110, 3) := by decide +kernel
theorem dL_follows_337 : decode cL_follows 337 = .ok (.aload_n 0, 1) := by decide +kernel
theorem dL_follows_338 : decode cL_follows 338 = .ok (.bipush 10, 2) := by decide +kernel
theorem dL_follows_340 : decode cL_follows 340 = .ok (.invokestatic 110, 3) := by decide +kernel
theorem dL_follows_343 : decode cL_follows 343 = .ok (.ladd, 1) := by decide +kernel
theorem dL_follows_344 : decode cL_follows 344 = .ok (.lload 14, 2) := by decide +kernel
theorem dL_follows_346 : decode cL_follows 346 = .ok (.lcmp, 1) := by decide +kernel
theorem dL_follows_347 : decode cL_follows 347 = .ok (.ifCond .le 16, 3) := by decide +kernel
theorem dL_follows_350 : decode cL_follows 350 = .ok (.aload_n 0, 1) := by decide +kernel
theorem dL_follows_351 : decode cL_follows 351 = .ok (.invokestatic 187, 3) := by decide +kernel
theorem dL_follows_354 : decode cL_follows 354 = .ok (.lconst 0, 1) := by decide +kernel
theorem dL_follows_355 : decode cL_follows 355 = .ok (.lcmp, 1) := by decide +kernel
theorem dL_follows_356 : decode cL_follows 356 = .ok (.ifCond .lt 7, 3) := by decide +kernel
theorem dL_follows_359 : decode cL_follows 359 = .ok (.iconst 1, 1) := by decide +kernel
theorem dL_follows_360 : decode cL_follows 360 = .ok (.goto 4, 3) := by decide +kernel
theorem dL_follows_363 : decode cL_follows 363 = .ok (.iconst 0, 1) := by decide +kernel
theorem dL_follows_364 : decode cL_follows 364 = .ok (.istore 4, 2) := by decide +kernel
theorem dL_follows_366 : decode cL_follows 366 = .ok (.iload 4, 2) := by decide +kernel
theorem dL_follows_368 : decode cL_follows 368 = .ok (.ifCond .eq 66, 3) := by decide +kernel
theorem dL_follows_371 : decode cL_follows 371 = .ok (.aload_n 0, 1) := by decide +kernel
theorem dL_follows_372 : decode cL_follows 372 = .ok (.iload 8, 2) := by decide +kernel
theorem dL_follows_374 : decode cL_follows 374 = .ok (.iconst 0, 1) := by decide +kernel
theorem dL_follows_375 : decode cL_follows 375 = .ok (.invokestatic 146, 3) := by decide +kernel
theorem dL_follows_378 : decode cL_follows 378 = .ok (.iload 13, 2) := by decide +kernel
theorem dL_follows_380 : decode cL_follows 380 = .ok (.ifCond .eq 7, 3) := by decide +kernel
theorem dL_follows_383 : decode cL_follows 383 = .ok (.lconst 1, 1) := by decide +kernel
theorem dL_follows_384 : decode cL_follows 384 = .ok (.goto 4, 3) := by decide +kernel
theorem dL_follows_387 : decode cL_follows 387 = .ok (.lconst 0, 1) := by decide +kernel
theorem dL_follows_388 : decode cL_follows 388 = .ok (.lcmp, 1) := by decide +kernel
theorem dL_follows_389 : decode cL_follows 389 = .ok (.ifCond .ne 45, 3) := by decide +kernel
theorem dL_follows_392 : decode cL_follows 392 = .ok (.aload_n 0, 1) := by decide +kernel
theorem dL_follows_393 : decode cL_follows 393 = .ok (.iconst 1, 1) := by decide +kernel
theorem dL_follows_394 : decode cL_follows 394 = .ok (.invokestatic 155, 3) := by decide +kernel
theorem dL_follows_397 : decode cL_follows 397 = .ok (.lload 11, 2) := by decide +kernel
theorem dL_follows_399 : decode cL_follows 399 = .ok (.lcmp, 1) := by decide +kernel
theorem dL_follows_400 : decode cL_follows 400 = .ok (.ifCond .ne 34, 3) := by decide +kernel
theorem dL_follows_403 : decode cL_follows 403 = .ok (.aload_n 0, 1) := by decide +kernel
theorem dL_follows_404 : decode cL_follows 404 = .ok (.invokestatic 187, 3) := by decide +kernel
theorem dL_follows_407 : decode cL_follows 407 = .ok (.lconst 0, 1) := by decide +kernel
theorem dL_follows_408 : decode cL_follows 408 = .ok (.lcmp, 1) := by decide +kernel
theorem dL_follows_409 : decode cL_follows 409 = .ok (.ifCond .lt 25, 3) := by decide +kernel
theorem dL_follows_412 : decode cL_follows 412 = .ok (.aload_n 0, 1) := by decide +kernel
theorem dL_follows_413 : decode cL_follows 413 = .ok (.invokestatic 187, 3) := by decide +kernel
theorem dL_follows_416 : decode cL_follows 416 = .ok (.lconst 0, 1) := by decide +kernel
theorem dL_follows_417 : decode cL_follows 417 = .ok (.lcmp, 1) := by decide +kernel
theorem dL_follows_418 : decode cL_follows 418 = .ok (.ifCond .lt 16, 3) := by decide +kernel
theorem dL_follows_421 : decode cL_follows 421 = .ok (.aload_n 0, 1) := by decide +kernel
theorem dL_follows_422 : decode cL_follows 422 = .ok (.invokestatic 128, 3) := by decide +kernel
theorem dL_follows_425 : decode cL_follows 425 = .ok (.lload_n 2, 1) := by decide +kernel
theorem dL_follows_426 : decode cL_follows 426 = .ok (.lcmp, 1) := by decide +kernel
theorem dL_follows_427 : decode cL_follows 427 = .ok (.ifCond .ne 7, 3) := by decide +kernel
theorem dL_follows_430 : decode cL_follows 430 = .ok (.iconst 1, 1) := by decide +kernel
theorem dL_follows_431 : decode cL_follows 431 = .ok (.goto 4, 3) := by decide +kernel
theorem dL_follows_434 : decode cL_follows 434 = .ok (.iconst 0, 1) := by decide +kernel
theorem dL_follows_435 : decode cL_follows 435 = .ok (.istore 4, 2) := by decide +kernel
theorem dL_follows_437 : decode cL_follows 437 = .ok (.iconst 1, 1) := by decide +kernel
theorem dL_follows_438 : decode cL_follows 438 = .ok (.iload_n 1, 1) := by decide +kernel
theorem dL_follows_439 : decode cL_follows 439 = .ok (.bipush 99, 2) := by decide +kernel
theorem dL_follows_441 : decode cL_follows 441 = .ok (.irem, 1) := by decide +kernel
theorem dL_follows_442 : decode cL_follows 442 = .ok (.iadd, 1) := by decide +kernel
theorem dL_follows_443 : decode cL_follows 443 = .ok (.istore 9, 2) := by decide +kernel
theorem dL_follows_445 : decode cL_follows 445 = .ok (.aload_n 0, 1) := by decide +kernel
theorem dL_follows_446 : decode cL_follows 446 = .ok (.iload 9, 2) := by decide +kernel
theorem dL_follows_448 : decode cL_follows 448 = .ok (.invokestatic 159, 3) := by decide +kernel
theorem dL_follows_451 : decode cL_follows 451 = .ok (.l2i, 1) := by decide +kernel
theorem dL_follows_452 : decode cL_follows 452 = .ok (.istore 10, 2) := by decide +kernel
theorem dL_follows_454 : decode cL_follows 454 = .ok (.aload_n 0, 1) := by decide +kernel
theorem dL_follows_455 : decode cL_follows 455 = .ok (.iconst 3, 1) := by decide +kernel
theorem dL_follows_456 : decode cL_follows 456 = .ok (.invokestatic 119, 3) := by decide +kernel
theorem dL_follows_459 : decode cL_follows 459 = .ok (.lstore 11, 2) := by decide +kernel
theorem dL_follows_461 : decode cL_follows 461 = .ok (.iload 10, 2) := by decide +kernel
theorem dL_follows_463 : decode cL_follows 463 = .ok (.iconst (-1), 1) := by decide +kernel
theorem dL_follows_464 : decode cL_follows 464 = .ok (.if_icmp .eq 107, 3) := by decide +kernel
theorem dL_follows_467 : decode cL_follows 467 = .ok (.iload 4, 2) := by decide +kernel
theorem dL_follows_469 : decode cL_follows 469 = .ok (.ifCond .eq 102, 3) := by decide +kernel
theorem dL_follows_472 : decode cL_follows 472 = .ok (.aload_n 0, 1) := by decide +kernel
theorem dL_follows_473 : decode cL_follows 473 = .ok (.iconst 3, 1) := by decide +kernel
theorem dL_follows_474 : decode cL_follows 474 = .ok (.iload 10, 2) := by decide +kernel
theorem dL_follows_476 : decode cL_follows 476 = .ok (.invokestatic 149, 3) := by decide +kernel
theorem dL_follows_479 : decode cL_follows 479 = .ok (.lload 11, 2) := by decide +kernel
theorem dL_follows_481 : decode cL_follows 481 = .ok (.lcmp, 1) := by decide +kernel
theorem dL_follows_482 : decode cL_follows 482 = .ok (.ifCond .ne 86, 3) := by decide +kernel
theorem dL_follows_485 : decode cL_follows 485 = .ok (.aload_n 0, 1) := by decide +kernel
theorem dL_follows_486 : decode cL_follows 486 = .ok (.iload 9, 2) := by decide +kernel
theorem dL_follows_488 : decode cL_follows 488 = .ok (.invokestatic 155, 3) := by decide +kernel
theorem dL_follows_491 : decode cL_follows 491 = .ok (.lconst 0, 1) := by decide +kernel
theorem dL_follows_492 : decode cL_follows 492 = .ok (.lcmp, 1) := by decide +kernel
theorem dL_follows_493 : decode cL_follows 493 = .ok (.ifCond .ne 75, 3) := by decide +kernel
theorem dL_follows_496 : decode cL_follows 496 = .ok (.aload_n 0, 1) := by decide +kernel
theorem dL_follows_497 : decode cL_follows 497 = .ok (.invokestatic 187, 3) := by decide +kernel
theorem dL_follows_500 : decode cL_follows 500 = .ok (.lconst 0, 1) := by decide +kernel
theorem dL_follows_501 : decode cL_follows 501 = .ok (.lcmp, 1) := by decide +kernel
theorem dL_follows_502 : decode cL_follows 502 = .ok (.ifCond .lt 66, 3) := by decide +kernel
theorem dL_follows_505 : decode cL_follows 505 = .ok (.iload 10, 2) := by decide +kernel
theorem dL_follows_507 : decode cL_follows 507 = .ok (.ifCond .eq 48, 3) := by decide +kernel
theorem dL_follows_510 : decode cL_follows 510 = .ok (.aload_n 0, 1) := by decide +kernel
theorem dL_follows_511 : decode cL_follows 511 = .ok (.iconst 3, 1) := by decide +kernel
theorem dL_follows_512 : decode cL_follows 512 = .ok (.iload 10, 2) := by decide +kernel
theorem dL_follows_514 : decode cL_follows 514 = .ok (.iconst 1, 1) := by decide +kernel
theorem dL_follows_515 : decode cL_follows 515 = .ok (.isub, 1) := by decide +kernel
theorem dL_follows_516 : decode cL_follows 516 = .ok (.invokestatic 149, 3) := by decide +kernel
theorem dL_follows_519 : decode cL_follows 519 = .ok (.iload 10, 2) := by decide +kernel
theorem dL_follows_521 : decode cL_follows 521 = .ok (.i2l, 1) := by decide +kernel
theorem dL_follows_522 : decode cL_follows 522 = .ok (.lcmp, 1) := by decide +kernel
theorem dL_follows_523 : decode cL_follows 523 = .ok (.ifCond .ne 45, 3) := by decide +kernel
theorem dL_follows_526 : decode cL_follows 526 = .ok (.aload_n 0, 1) := by decide +kernel
theorem dL_follows_527 : decode cL_follows 527 = .ok (.iload 9, 2) := by decide +kernel
theorem dL_follows_529 : decode cL_follows 529 = .ok (.invokestatic 155, 3) := by decide +kernel
theorem dL_follows_532 : decode cL_follows 532 = .ok (.lconst 0, 1) := by decide +kernel
theorem dL_follows_533 : decode cL_follows 533 = .ok (.lcmp, 1) := by decide +kernel
theorem dL_follows_534 : decode cL_follows 534 = .ok (.ifCond .le 34, 3) := by decide +kernel
theorem dL_follows_537 : decode cL_follows 537 = .ok (.aload_n 0, 1) := by decide +kernel
theorem dL_follows_538 : decode cL_follows 538 = .ok (.invokestatic 187, 3) := by decide +kernel
theorem dL_follows_541 : decode cL_follows 541 = .ok (.lconst 0, 1) := by decide +kernel
theorem dL_follows_542 : decode cL_follows 542 = .ok (.lcmp, 1) := by decide +kernel
theorem dL_follows_543 : decode cL_follows 543 = .ok (.ifCond .lt 25, 3) := by decide +kernel
theorem dL_follows_546 : decode cL_follows 546 = .ok (.aload_n 0, 1) := by decide +kernel
theorem dL_follows_547 : decode cL_follows 547 = .ok (.invokestatic 187, 3) := by decide +kernel
theorem dL_follows_550 : decode cL_follows 550 = .ok (.lconst 0, 1) := by decide +kernel
theorem dL_follows_551 : decode cL_follows 551 = .ok (.lcmp, 1) := by decide +kernel
theorem dL_follows_552 : decode cL_follows 552 = .ok (.ifCond .lt 16, 3) := by decide +kernel
theorem dL_follows_555 : decode cL_follows 555 = .ok (.aload_n 0, 1) := by decide +kernel
theorem dL_follows_556 : decode cL_follows 556 = .ok (.invokestatic 187, 3) := by decide +kernel
theorem dL_follows_559 : decode cL_follows 559 = .ok (.lconst 0, 1) := by decide +kernel
theorem dL_follows_560 : decode cL_follows 560 = .ok (.lcmp, 1) := by decide +kernel
theorem dL_follows_561 : decode cL_follows 561 = .ok (.ifCond .lt 7, 3) := by decide +kernel
theorem dL_follows_564 : decode cL_follows 564 = .ok (.iconst 1, 1) := by decide +kernel
theorem dL_follows_565 : decode cL_follows 565 = .ok (.goto 4, 3) := by decide +kernel
theorem dL_follows_568 : decode cL_follows 568 = .ok (.iconst 0, 1) := by decide +kernel
theorem dL_follows_569 : decode cL_follows 569 = .ok (.istore 4, 2) := by decide +kernel
theorem dL_follows_571 : decode cL_follows 571 = .ok (.iload 4, 2) := by decide +kernel
theorem dL_follows_573 : decode cL_follows 573 = .ok (.ifCond .eq 46, 3) := by decide +kernel
theorem dL_follows_576 : decode cL_follows 576 = .ok (.aload_n 0, 1) := by decide +kernel
theorem dL_follows_577 : decode cL_follows 577 = .ok (.invokestatic 128, 3) := by decide +kernel
theorem dL_follows_580 : decode cL_follows 580 = .ok (.lload_n 2, 1) := by decide +kernel
theorem dL_follows_581 : decode cL_follows 581 = .ok (.lcmp, 1) := by decide +kernel
theorem dL_follows_582 : decode cL_follows 582 = .ok (.ifCond .ne 37, 3) := by decide +kernel
theorem dL_follows_585 : decode cL_follows 585 = .ok (.aload_n 0, 1) := by decide +kernel
theorem dL_follows_586 : decode cL_follows 586 = .ok (.iconst 1, 1) := by decide +kernel
theorem dL_follows_587 : decode cL_follows 587 = .ok (.invokestatic 172, 3) := by decide +kernel
theorem dL_follows_590 : decode cL_follows 590 = .ok (.lconst 0, 1) := by decide +kernel
theorem dL_follows_591 : decode cL_follows 591 = .ok (.lcmp, 1) := by decide +kernel
theorem dL_follows_592 : decode cL_follows 592 = .ok (.ifCond .lt 27, 3) := by decide +kernel
theorem dL_follows_595 : decode cL_follows 595 = .ok (.aload_n 0, 1) := by decide +kernel
theorem dL_follows_596 : decode cL_follows 596 = .ok (.invokestatic 128, 3) := by decide +kernel
theorem dL_follows_599 : decode cL_follows 599 = .ok (.lload_n 2, 1) := by decide +kernel
theorem dL_follows_600 : decode cL_follows 600 = .ok (.lcmp, 1) := by decide +kernel
theorem dL_follows_601 : decode cL_follows 601 = .ok (.ifCond .ne 18, 3) := by decide +kernel
theorem dL_follows_604 : decode cL_follows 604 = .ok (.aload_n 0, 1) := by decide +kernel
theorem dL_follows_605 : decode cL_follows 605 = .ok (.invokestatic 187, 3) := by decide +kernel
theorem dL_follows_608 : decode cL_follows 608 = .ok (.ldc2_w 21, 3) := by decide +kernel
theorem dL_follows_611 : decode cL_follows 611 = .ok (.lcmp, 1) := by decide +kernel
theorem dL_follows_612 : decode cL_follows 612 = .ok (.ifCond .ne 7, 3) := by decide +kernel
theorem dL_follows_615 : decode cL_follows 615 = .ok (.iconst 1, 1) := by decide +kernel
theorem dL_follows_616 : decode cL_follows 616 = .ok (.goto 4, 3) := by decide +kernel
theorem dL_follows_619 : decode cL_follows 619 = .ok (.iconst 0, 1) := by decide +kernel
theorem dL_follows_620 : decode cL_follows 620 = .ok (.ireturn, 1) := by decide +kernel
def PJ_LAW_follows_571 (x1 : Int32) (y2 : Int64) (y4 : Int32) (v0 : TT) (Q : Int32 → TT → Prop) : Prop := ((y4 = 0 → Q 0 v0) ∧ (¬ y4 = 0 → P_LAW_now v0 (fun r58_ => (((¬ (lg_cmp r58_ y2) = 0 → Q 0 v0) ∧ ((lg_cmp r58_ y2) = 0 → P_LAW_restore 1 v0 (fun r64_ v69_ => ((((lg_cmp r64_ 0) < 0 → Q 0 v69_) ∧ (¬ (lg_cmp r64_ 0) < 0 → P_LAW_now v69_ (fun r74_ => (((¬ (lg_cmp r74_ y2) = 0 → Q 0 v69_) ∧ ((lg_cmp r74_ y2) = 0 → P_LAW_undo v69_ (fun r80_ v85_ => (((¬ (lg_cmp r80_ (-9000000000000000003)) = 0 → Q 0 v85_) ∧ ((lg_cmp r80_ (-9000000000000000003)) = 0 → Q 1 v85_))))))))))))))))))
def PJ_LAW_follows_569 (x1 : Int32) (y2 : Int64) (u0 : Int32) (v0 : TT) (Q : Int32 → TT → Prop) : Prop := PJ_LAW_follows_571 x1 y2 u0 v0 Q
def PJ_LAW_follows_568 (x1 : Int32) (y2 : Int64) (v0 : TT) (Q : Int32 → TT → Prop) : Prop := PJ_LAW_follows_569 x1 y2 0 v0 Q
def PJ_LAW_follows_555 (x1 : Int32) (y2 : Int64) (v0 : TT) (Q : Int32 → TT → Prop) : Prop := P_LAW_undo v0 (fun r122_ v127_ => ((((lg_cmp r122_ 0) < 0 → PJ_LAW_follows_568 x1 y2 v127_ Q) ∧ (¬ (lg_cmp r122_ 0) < 0 → PJ_LAW_follows_569 x1 y2 1 v127_ Q))))
def PJ_LAW_follows_437 (x1 : Int32) (y1 : Int32) (y2 : Int64) (y4 : Int32) (v0 : TT) (Q : Int32 → TT → Prop) : Prop := P_LAW_leastRoom (1 + (zrem y1 99)) v0 (fun r42_ v47_ => (P_LAW_setting 3 v47_ (fun r51_ => ((((Int64.toInt32 r42_) = (-1) → PJ_LAW_follows_571 x1 y2 y4 v47_ Q) ∧ (¬ (Int64.toInt32 r42_) = (-1) → ((y4 = 0 → PJ_LAW_follows_571 x1 y2 y4 v47_ Q) ∧ (¬ y4 = 0 → P_LAW_set 3 (Int64.toInt32 r42_) v47_ (fun r91_ v96_ => (((¬ (lg_cmp r91_ r51_) = 0 → PJ_LAW_follows_568 x1 y2 v96_ Q) ∧ ((lg_cmp r91_ r51_) = 0 → P_LAW_ticks (1 + (zrem y1 99)) v96_ (fun r101_ v106_ => (((¬ (lg_cmp r101_ 0) = 0 → PJ_LAW_follows_568 x1 y2 v106_ Q) ∧ ((lg_cmp r101_ 0) = 0 → P_LAW_undo v106_ (fun r111_ v116_ => ((((lg_cmp r111_ 0) < 0 → PJ_LAW_follows_568 x1 y2 v116_ Q) ∧ (¬ (lg_cmp r111_ 0) < 0 → (((Int64.toInt32 r42_) = 0 → PJ_LAW_follows_555 x1 y2 v116_ Q) ∧ (¬ (Int64.toInt32 r42_) = 0 → P_LAW_set 3 ((Int64.toInt32 r42_) - 1) v116_ (fun r132_ v137_ => (((¬ (lg_cmp r132_ (Int32.toInt64 (Int64.toInt32 r42_))) = 0 → PJ_LAW_follows_568 x1 y2 v137_ Q) ∧ ((lg_cmp r132_ (Int32.toInt64 (Int64.toInt32 r42_))) = 0 → P_LAW_ticks (1 + (zrem y1 99)) v137_ (fun r142_ v147_ => ((((lg_cmp r142_ 0) ≤ 0 → PJ_LAW_follows_568 x1 y2 v147_ Q) ∧ (¬ (lg_cmp r142_ 0) ≤ 0 → P_LAW_undo v147_ (fun r152_ v157_ => ((((lg_cmp r152_ 0) < 0 → PJ_LAW_follows_568 x1 y2 v157_ Q) ∧ (¬ (lg_cmp r152_ 0) < 0 → P_LAW_undo v157_ (fun r162_ v167_ => ((((lg_cmp r162_ 0) < 0 → PJ_LAW_follows_568 x1 y2 v167_ Q) ∧ (¬ (lg_cmp r162_ 0) < 0 → PJ_LAW_follows_555 x1 y2 v167_ Q))))))))))))))))))))))))))))))))))))))
def PJ_LAW_follows_435 (x1 : Int32) (y1 : Int32) (y2 : Int64) (u0 : Int32) (v0 : TT) (Q : Int32 → TT → Prop) : Prop := PJ_LAW_follows_437 x1 y1 y2 u0 v0 Q
def PJ_LAW_follows_434 (x1 : Int32) (y1 : Int32) (y2 : Int64) (v0 : TT) (Q : Int32 → TT → Prop) : Prop := PJ_LAW_follows_435 x1 y1 y2 0 v0 Q
def PJ_LAW_follows_388 (x1 : Int32) (y1 : Int32) (y2 : Int64) (y11 : Int64) (u0 : Int64) (u1 : Int64) (v0 : TT) (Q : Int32 → TT → Prop) : Prop := ((¬ (lg_cmp u1 u0) = 0 → PJ_LAW_follows_434 x1 y1 y2 v0 Q) ∧ ((lg_cmp u1 u0) = 0 → P_LAW_ticks 1 v0 (fun r220_ v225_ => (((¬ (lg_cmp r220_ y11) = 0 → PJ_LAW_follows_434 x1 y1 y2 v225_ Q) ∧ ((lg_cmp r220_ y11) = 0 → P_LAW_undo v225_ (fun r230_ v235_ => ((((lg_cmp r230_ 0) < 0 → PJ_LAW_follows_434 x1 y1 y2 v235_ Q) ∧ (¬ (lg_cmp r230_ 0) < 0 → P_LAW_undo v235_ (fun r240_ v245_ => ((((lg_cmp r240_ 0) < 0 → PJ_LAW_follows_434 x1 y1 y2 v245_ Q) ∧ (¬ (lg_cmp r240_ 0) < 0 → P_LAW_now v245_ (fun r250_ => (((¬ (lg_cmp r250_ y2) = 0 → PJ_LAW_follows_434 x1 y1 y2 v245_ Q) ∧ ((lg_cmp r250_ y2) = 0 → PJ_LAW_follows_435 x1 y1 y2 1 v245_ Q))))))))))))))))))
def PJ_LAW_follows_366 (x1 : Int32) (y1 : Int32) (y2 : Int64) (y4 : Int32) (y8 : Int32) (y11 : Int64) (y13 : Int32) (v0 : TT) (Q : Int32 → TT → Prop) : Prop := ((y4 = 0 → PJ_LAW_follows_434 x1 y1 y2 v0 Q) ∧ (¬ y4 = 0 → P_LAW_hold y8 0 v0 (fun r209_ v214_ => (((y13 = 0 → PJ_LAW_follows_388 x1 y1 y2 y11 0 r209_ v214_ Q) ∧ (¬ y13 = 0 → PJ_LAW_follows_388 x1 y1 y2 y11 1 r209_ v214_ Q))))))
def PJ_LAW_follows_364 (x1 : Int32) (y1 : Int32) (y2 : Int64) (y8 : Int32) (y11 : Int64) (y13 : Int32) (u0 : Int32) (v0 : TT) (Q : Int32 → TT → Prop) : Prop := PJ_LAW_follows_366 x1 y1 y2 u0 y8 y11 y13 v0 Q
def PJ_LAW_follows_363 (x1 : Int32) (y1 : Int32) (y2 : Int64) (y8 : Int32) (y11 : Int64) (y13 : Int32) (v0 : TT) (Q : Int32 → TT → Prop) : Prop := PJ_LAW_follows_364 x1 y1 y2 y8 y11 y13 0 v0 Q
def PJ_LAW_follows_254 (x1 : Int32) (y1 : Int32) (y2 : Int64) (y4 : Int32) (y8 : Int32) (y9 : Int64) (y11 : Int64) (u0 : Int32) (v0 : TT) (Q : Int32 → TT → Prop) : Prop := P_LAW_about 9 v0 (fun r197_ => (P_LAW_about 10 v0 (fun r202_ => (((u0 = 0 → PJ_LAW_follows_366 x1 y1 y2 y4 y8 y11 u0 v0 Q) ∧ (¬ u0 = 0 → (((lg_cmp y9 (-1)) = 0 → PJ_LAW_follows_366 x1 y1 y2 y4 y8 y11 u0 v0 Q) ∧ (¬ (lg_cmp y9 (-1)) = 0 → ((0 ≤ (lg_cmp y9 100) → PJ_LAW_follows_366 x1 y1 y2 y4 y8 y11 u0 v0 Q) ∧ (¬ 0 ≤ (lg_cmp y9 100) → P_LAW_ticks (Int64.toInt32 y9) v0 (fun r258_ v263_ => ((((lg_cmp r258_ 0) < 0 → PJ_LAW_follows_363 x1 y1 y2 y8 y11 u0 v263_ Q) ∧ (¬ (lg_cmp r258_ 0) < 0 → P_LAW_readerOf y8 1 v263_ (fun r268_ => (((¬ (lg_cmp r268_ 0) = 0 → PJ_LAW_follows_363 x1 y1 y2 y8 y11 u0 v263_ Q) ∧ ((lg_cmp r268_ 0) = 0 → P_LAW_readerOf y8 8 v263_ (fun r274_ => ((((lg_cmp r274_ 0) ≤ 0 → PJ_LAW_follows_363 x1 y1 y2 y8 y11 u0 v263_ Q) ∧ (¬ (lg_cmp r274_ 0) ≤ 0 → P_LAW_about 9 v263_ (fun r280_ => (P_LAW_about 10 v263_ (fun r285_ => ((((lg_cmp (r280_ + r285_) (r197_ + r202_)) ≤ 0 → PJ_LAW_follows_363 x1 y1 y2 y8 y11 u0 v263_ Q) ∧ (¬ (lg_cmp (r280_ + r285_) (r197_ + r202_)) ≤ 0 → P_LAW_undo v263_ (fun r291_ v296_ => ((((lg_cmp r291_ 0) < 0 → PJ_LAW_follows_363 x1 y1 y2 y8 y11 u0 v296_ Q) ∧ (¬ (lg_cmp r291_ 0) < 0 → PJ_LAW_follows_364 x1 y1 y2 y8 y11 u0 1 v296_ Q))))))))))))))))))))))))))))))))
def PJ_LAW_follows_196 (x1 : Int32) (y1 : Int32) (y2 : Int64) (y4 : Int32) (v0 : TT) (Q : Int32 → TT → Prop) : Prop := P_LAW_readerOf (zrem y1 8) 0 v0 (fun r36_ => ((((lg_cmp r36_ (-9000000000000000001)) = 0 → PJ_LAW_follows_437 x1 y1 y2 y4 v0 Q) ∧ (¬ (lg_cmp r36_ (-9000000000000000001)) = 0 → ((y4 = 0 → PJ_LAW_follows_437 x1 y1 y2 y4 v0 Q) ∧ (¬ y4 = 0 → P_LAW_lostIn (zrem y1 8) v0 (fun r173_ v178_ => (P_LAW_ifFree (zrem y1 8) v178_ (fun r182_ v187_ => (P_LAW_readerOf (zrem y1 8) 1 v187_ (fun r191_ => (((¬ (lg_cmp r191_ 1) = 0 → PJ_LAW_follows_254 x1 y1 y2 y4 (zrem y1 8) r173_ r182_ 0 v187_ Q) ∧ ((lg_cmp r191_ 1) = 0 → PJ_LAW_follows_254 x1 y1 y2 y4 (zrem y1 8) r173_ r182_ 1 v187_ Q))))))))))))))
def PJ_LAW_follows_194 (x1 : Int32) (y1 : Int32) (y2 : Int64) (u0 : Int32) (v0 : TT) (Q : Int32 → TT → Prop) : Prop := PJ_LAW_follows_196 x1 y1 y2 u0 v0 Q
def PJ_LAW_follows_193 (x1 : Int32) (y1 : Int32) (y2 : Int64) (v0 : TT) (Q : Int32 → TT → Prop) : Prop := PJ_LAW_follows_194 x1 y1 y2 0 v0 Q
def PJ_LAW_follows_158 (x1 : Int32) (y1 : Int32) (y2 : Int64) (y4 : Int32) (y5 : Int32) (v0 : TT) (Q : Int32 → TT → Prop) : Prop := ((¬ y5 = (-1) → PJ_LAW_follows_196 x1 y1 y2 y4 v0 Q) ∧ (y5 = (-1) → ((y4 = 0 → PJ_LAW_follows_196 x1 y1 y2 y4 v0 Q) ∧ (¬ y4 = 0 → P_LAW_ticks 99 v0 (fun r302_ v307_ => (((¬ (lg_cmp r302_ 0) = 0 → PJ_LAW_follows_193 x1 y1 y2 v307_ Q) ∧ ((lg_cmp r302_ 0) = 0 → P_LAW_undo v307_ (fun r312_ v317_ => ((((lg_cmp r312_ 0) < 0 → PJ_LAW_follows_193 x1 y1 y2 v317_ Q) ∧ (¬ (lg_cmp r312_ 0) < 0 → PJ_LAW_follows_194 x1 y1 y2 1 v317_ Q))))))))))))
def PJ_LAW_follows_153 (x1 : Int32) (y1 : Int32) (y2 : Int64) (u0 : Int32) (v0 : TT) (Q : Int32 → TT → Prop) : Prop := PJ_LAW_follows_196 x1 y1 y2 u0 v0 Q
def PJ_LAW_follows_152 (x1 : Int32) (y1 : Int32) (y2 : Int64) (v0 : TT) (Q : Int32 → TT → Prop) : Prop := PJ_LAW_follows_153 x1 y1 y2 0 v0 Q
def PJ_LAW_follows_148 (x1 : Int32) (y1 : Int32) (y2 : Int64) (v0 : TT) (Q : Int32 → TT → Prop) : Prop := PJ_LAW_follows_153 x1 y1 y2 1 v0 Q
def PJ_LAW_follows_54 (x1 : Int32) (y1 : Int32) (y2 : Int64) (u0 : Int32) (v0 : TT) (Q : Int32 → TT → Prop) : Prop := P_T_droppedIn v0 (fun r21_ v25_ => (P_LAW_about 8 v25_ (fun r29_ => (((r21_ = (-1) → PJ_LAW_follows_158 x1 y1 y2 u0 r21_ v25_ Q) ∧ (¬ r21_ = (-1) → ((100 ≤ r21_ → PJ_LAW_follows_158 x1 y1 y2 u0 r21_ v25_ Q) ∧ (¬ 100 ≤ r21_ → ((u0 = 0 → PJ_LAW_follows_158 x1 y1 y2 u0 r21_ v25_ Q) ∧ (¬ u0 = 0 → P_LAW_ticks r21_ v25_ (fun r324_ v329_ => ((((lg_cmp r324_ 0) ≤ 0 → PJ_LAW_follows_152 x1 y1 y2 v329_ Q) ∧ (¬ (lg_cmp r324_ 0) ≤ 0 → P_LAW_about 8 v329_ (fun r334_ => ((((lg_cmp r334_ r29_) ≤ 0 → PJ_LAW_follows_152 x1 y1 y2 v329_ Q) ∧ (¬ (lg_cmp r334_ r29_) ≤ 0 → P_LAW_undo v329_ (fun r340_ v345_ => ((((lg_cmp r340_ 0) < 0 → PJ_LAW_follows_152 x1 y1 y2 v345_ Q) ∧ (¬ (lg_cmp r340_ 0) < 0 → ((r21_ = 1 → PJ_LAW_follows_148 x1 y1 y2 v345_ Q) ∧ (¬ r21_ = 1 → P_LAW_ticks (r21_ - 1) v345_ (fun r351_ v356_ => (((¬ (lg_cmp r351_ 0) = 0 → PJ_LAW_follows_152 x1 y1 y2 v356_ Q) ∧ ((lg_cmp r351_ 0) = 0 → P_LAW_undo v356_ (fun r361_ v366_ => ((((lg_cmp r361_ 0) < 0 → PJ_LAW_follows_152 x1 y1 y2 v366_ Q) ∧ (¬ (lg_cmp r361_ 0) < 0 → PJ_LAW_follows_148 x1 y1 y2 v366_ Q))))))))))))))))))))))))))))))))
def PJ_LAW_follows_53 (x1 : Int32) (y1 : Int32) (y2 : Int64) (v0 : TT) (Q : Int32 → TT → Prop) : Prop := PJ_LAW_follows_54 x1 y1 y2 0 v0 Q
def P_LAW_follows (x1 : Int32) (v0 : TT) (Q : Int32 → TT → Prop) : Prop := P_LAW_now v0 (fun r1_ => (P_LAW_save 1 v0 (fun r6_ v11_ => (P_LAW_about 7 v11_ (fun r15_ => (((¬ (lg_cmp r6_ r15_) = 0 → PJ_LAW_follows_53 x1 x1 r1_ v11_ Q) ∧ ((lg_cmp r6_ r15_) = 0 → P_LAW_simulate (Int32.toInt64 x1) 6 v11_ (fun r371_ v376_ => (P_LAW_simulate (Int32.toInt64 x1) 6 v376_ (fun r380_ v385_ => (((¬ (lg_cmp r371_ r380_) = 0 → PJ_LAW_follows_53 x1 x1 r1_ v385_ Q) ∧ ((lg_cmp r371_ r380_) = 0 → P_LAW_now v385_ (fun r390_ => (((¬ (lg_cmp r390_ r1_) = 0 → PJ_LAW_follows_53 x1 x1 r1_ v385_ Q) ∧ ((lg_cmp r390_ r1_) = 0 → PJ_LAW_follows_54 x1 x1 r1_ 1 v385_ Q))))))))))))))))))
set_option maxRecDepth 100000 in
theorem s_LAW_follows {l : Launch} {D : zD} {B : Nat} {sa : Nat → Nat} (hfl : l.stackTraces = false) {z : Nat} {G : zG} {b0 : Nat} {x1 : Int32} {v0 : TT} {Q : Int32 → TT → Prop} (h0 : TA b0 v0 G) (h : P_LAW_follows x1 v0 Q) : zSp l D B sa yL_follows cL_follows 16 (some .boolean) 9 240 1048 6288 [.ref b0, .int x1] z G (zRi fun r z' G' => ∃ w, TA b0 w G' ∧ Fr b0 475 G G' ∧ Q r w) := by
  unfold P_LAW_follows at h
  refine z_ofW (by decide +kernel) hfl [some (.ref b0), some (.int x1), none, none, none, none, none, none, none, none, none, none, none, none, none, none] rfl (Nat.le_of_ble_eq_true rfl) (fun p e s m args below meth c O hret hlk hnm => ?_)
  have O : zO p l s m args c D B sa 16 cL_follows RL := O
  have hk0 : 0 + (1048 + 0) ≤ 1048 ∧ 0 + 6 * (1048 + 0) ≤ 6288 := ⟨Nat.le_of_ble_eq_true rfl, Nat.le_of_ble_eq_true rfl⟩
  have HJ571 : ∀     (y2 : Int64) (y4 : Int32) (v0 : TT) (G9 : zG) (g0 : TA b0 v0 G9) (gF : Fr b0 475 G G9) (z9 k9 m9 : Nat) (hk : k9 + (406 + 0) ≤ 1048 ∧ m9 + 6 * (406 + 0) ≤ 6288) (h : PJ_LAW_follows_571 x1 y2 y4 v0 Q), zT p l e (zrm 9 240 1048 6288) s m args below meth c (zEnd below D B (zRi fun r z' G' => ∃ w, TA b0 w G' ∧ Fr b0 475 G G' ∧ Q r w) args s 1048 6288) D B 16 k9 m9 571 [] [some (.ref b0), none, some (.long y2), none, some (.int y4), none, none, none, none, none, none, none, none, none, none, none] z9 G9 := by
    intro  y2 y4 v0 G9 g0 gF z9 k9 m9 hk h
    unfold PJ_LAW_follows_571 at h
    refine z_iload O dL_follows_571 rfl ?_
    refine z_if_eq (tgt := 619) O dL_follows_573 (by decide) (fun c57_ => ?_) (fun c57_ => ?_)
    · have h := h.1 c57_
      refine z_iconst (v := 0) O dL_follows_619 (by decide) ?_
      exact z_zret O hret rfl hlk dL_follows_620 (lk_k hk) (lk_n hk) ⟨_, rfl, _, g0, gF, h⟩
    · have h := h.2 c57_
      refine z_aload_n O dL_follows_576 rfl rfl ?_
      have hk59_ := lk_step 202 204 hk (Nat.le_of_ble_eq_true rfl)
      refine z_callSl (As := [.ref b0]) (st := []) O (s_LAW_now hfl g0 h) wy_L_now wl_RL_128 dL_follows_577 rfl rfl ⟨Nat.le_of_ble_eq_true rfl, Nat.le_of_ble_eq_true rfl⟩ (Nat.le_of_ble_eq_true rfl) ⟨lk_k hk59_, lk_n hk59_⟩ (fun r58_ z60_ G61_ hq62_ => ?_)
      obtain ⟨rfl, h⟩ := hq62_
      refine z_lload_n O dL_follows_580 rfl rfl ?_
      refine z_lcmp O dL_follows_581 ?_
      refine z_if_ne (tgt := 619) O dL_follows_582 (by decide) (fun c63_ => ?_) (fun c63_ => ?_)
      · have h := h.1 c63_
        refine z_iconst (v := 0) O dL_follows_619 (by decide) ?_
        exact z_zret O hret rfl hlk dL_follows_620 (lk_k hk59_) (lk_n hk59_) ⟨_, rfl, _, g0, gF, h⟩
      · have h := h.2 c63_
        refine z_aload_n O dL_follows_585 rfl rfl ?_
        refine z_iconst (v := 1) O dL_follows_586 (by decide) ?_
        have hk65_ := lk_step 1 203 hk59_ (Nat.le_of_ble_eq_true rfl)
        refine z_callHl (As := [.ref b0, .int 1]) (st := []) O (s_LAW_restore hfl g0 h) wh_L_restore wl_RL_172 dL_follows_587 rfl rfl ⟨Nat.le_of_ble_eq_true rfl, Nat.le_of_ble_eq_true rfl⟩ (Nat.le_of_ble_eq_true rfl) ⟨lk_k hk65_, lk_n hk65_⟩ (fun r64_ z66_ G67_ hq68_ => ?_)
        obtain ⟨v69_, k70_, f71_, h⟩ := hq68_
        have F72_ : Fr b0 475 G G67_ := Fr.trans gF f71_
        refine z_lconst (v := 0) O dL_follows_590 (by decide) ?_
        refine z_lcmp O dL_follows_591 ?_
        refine z_if_lt (tgt := 619) O dL_follows_592 (by decide) (fun c73_ => ?_) (fun c73_ => ?_)
        · have h := h.1 c73_
          refine z_iconst (v := 0) O dL_follows_619 (by decide) ?_
          exact z_zret O hret rfl hlk dL_follows_620 (lk_k hk65_) (lk_n hk65_) ⟨_, rfl, _, k70_, F72_, h⟩
        · have h := h.2 c73_
          refine z_aload_n O dL_follows_595 rfl rfl ?_
          have hk75_ := lk_step 202 1 hk65_ (Nat.le_of_ble_eq_true rfl)
          refine z_callSl (As := [.ref b0]) (st := []) O (s_LAW_now hfl k70_ h) wy_L_now wl_RL_128 dL_follows_596 rfl rfl ⟨Nat.le_of_ble_eq_true rfl, Nat.le_of_ble_eq_true rfl⟩ (Nat.le_of_ble_eq_true rfl) ⟨lk_k hk75_, lk_n hk75_⟩ (fun r74_ z76_ G77_ hq78_ => ?_)
          obtain ⟨rfl, h⟩ := hq78_
          refine z_lload_n O dL_follows_599 rfl rfl ?_
          refine z_lcmp O dL_follows_600 ?_
          refine z_if_ne (tgt := 619) O dL_follows_601 (by decide) (fun c79_ => ?_) (fun c79_ => ?_)
          · have h := h.1 c79_
            refine z_iconst (v := 0) O dL_follows_619 (by decide) ?_
            exact z_zret O hret rfl hlk dL_follows_620 (lk_k hk75_) (lk_n hk75_) ⟨_, rfl, _, k70_, F72_, h⟩
          · have h := h.2 c79_
            refine z_aload_n O dL_follows_604 rfl rfl ?_
            have hk81_ := lk_step 1 0 hk75_ (Nat.le_of_ble_eq_true rfl)
            refine z_callHl (As := [.ref b0]) (st := []) O (s_LAW_undo hfl k70_ h) wh_L_undo wl_RL_187 dL_follows_605 rfl rfl ⟨Nat.le_of_ble_eq_true rfl, Nat.le_of_ble_eq_true rfl⟩ (Nat.le_of_ble_eq_true rfl) ⟨lk_k hk81_, lk_n hk81_⟩ (fun r80_ z82_ G83_ hq84_ => ?_)
            obtain ⟨v85_, k86_, f87_, h⟩ := hq84_
            have F88_ : Fr b0 475 G G83_ := Fr.trans F72_ f87_
            refine z_ldc2 (v := (-9000000000000000003)) O wc_RL_21 dL_follows_608 ?_
            refine z_lcmp O dL_follows_611 ?_
            refine z_if_ne (tgt := 619) O dL_follows_612 (by decide) (fun c89_ => ?_) (fun c89_ => ?_)
            · have h := h.1 c89_
              refine z_iconst (v := 0) O dL_follows_619 (by decide) ?_
              exact z_zret O hret rfl hlk dL_follows_620 (lk_k hk81_) (lk_n hk81_) ⟨_, rfl, _, k86_, F88_, h⟩
            · have h := h.2 c89_
              refine z_iconst (v := 1) O dL_follows_615 (by decide) ?_
              refine z_goto (tgt := 620) O dL_follows_616 (by decide) ?_
              exact z_zret O hret rfl hlk dL_follows_620 (lk_k hk81_) (lk_n hk81_) ⟨_, rfl, _, k86_, F88_, h⟩
  have HJ569 : ∀     (y2 : Int64) (u0 : Int32) (v0 : TT) (G9 : zG) (g0 : TA b0 v0 G9) (gF : Fr b0 475 G G9) (z9 k9 m9 : Nat) (hk : k9 + (406 + 0) ≤ 1048 ∧ m9 + 6 * (406 + 0) ≤ 6288) (h : PJ_LAW_follows_569 x1 y2 u0 v0 Q), zT p l e (zrm 9 240 1048 6288) s m args below meth c (zEnd below D B (zRi fun r z' G' => ∃ w, TA b0 w G' ∧ Fr b0 475 G G' ∧ Q r w) args s 1048 6288) D B 16 k9 m9 569 [.int u0] [some (.ref b0), none, some (.long y2), none, none, none, none, none, none, none, none, none, none, none, none, none] z9 G9 := by
    intro  y2 u0 v0 G9 g0 gF z9 k9 m9 hk h
    unfold PJ_LAW_follows_569 at h
    refine z_istore (L' := [some (.ref b0), none, some (.long y2), none, some (.int u0), none, none, none, none, none, none, none, none, none, none, none]) O dL_follows_569 (by decide) rfl ?_
    exact z_subL (L' := [some (.ref b0), none, some (.long y2), none, some (.int u0), none, none, none, none, none, none, none, none, none, none, none]) (zLe.sub (And.intro rfl (And.intro rfl (And.intro rfl True.intro)))) (HJ571 y2 u0 v0 G9 g0 gF _ _ _ (lk_weak hk (c' := 406) (Nat.le_of_ble_eq_true rfl) (Nat.le_refl _)) h)
  have HJ568 : ∀     (y2 : Int64) (v0 : TT) (G9 : zG) (g0 : TA b0 v0 G9) (gF : Fr b0 475 G G9) (z9 k9 m9 : Nat) (hk : k9 + (406 + 0) ≤ 1048 ∧ m9 + 6 * (406 + 0) ≤ 6288) (h : PJ_LAW_follows_568 x1 y2 v0 Q), zT p l e (zrm 9 240 1048 6288) s m args below meth c (zEnd below D B (zRi fun r z' G' => ∃ w, TA b0 w G' ∧ Fr b0 475 G G' ∧ Q r w) args s 1048 6288) D B 16 k9 m9 568 [] [some (.ref b0), none, some (.long y2), none, none, none, none, none, none, none, none, none, none, none, none, none] z9 G9 := by
    intro  y2 v0 G9 g0 gF z9 k9 m9 hk h
    unfold PJ_LAW_follows_568 at h
    refine z_iconst (v := 0) O dL_follows_568 (by decide) ?_
    exact z_subL (L' := [some (.ref b0), none, some (.long y2), none, none, none, none, none, none, none, none, none, none, none, none, none]) (zLe.sub (And.intro rfl (And.intro rfl True.intro))) (HJ569 y2 0 v0 G9 g0 gF _ _ _ (lk_weak hk (c' := 406) (Nat.le_of_ble_eq_true rfl) (Nat.le_refl _)) h)
  have HJ555 : ∀     (y2 : Int64) (v0 : TT) (G9 : zG) (g0 : TA b0 v0 G9) (gF : Fr b0 475 G G9) (z9 k9 m9 : Nat) (hk : k9 + (407 + 0) ≤ 1048 ∧ m9 + 6 * (407 + 0) ≤ 6288) (h : PJ_LAW_follows_555 x1 y2 v0 Q), zT p l e (zrm 9 240 1048 6288) s m args below meth c (zEnd below D B (zRi fun r z' G' => ∃ w, TA b0 w G' ∧ Fr b0 475 G G' ∧ Q r w) args s 1048 6288) D B 16 k9 m9 555 [] [some (.ref b0), none, some (.long y2), none, none, none, none, none, none, none, none, none, none, none, none, none] z9 G9 := by
    intro  y2 v0 G9 g0 gF z9 k9 m9 hk h
    unfold PJ_LAW_follows_555 at h
    refine z_aload_n O dL_follows_555 rfl rfl ?_
    have hk123_ := lk_step 1 406 hk (Nat.le_of_ble_eq_true rfl)
    refine z_callHl (As := [.ref b0]) (st := []) O (s_LAW_undo hfl g0 h) wh_L_undo wl_RL_187 dL_follows_556 rfl rfl ⟨Nat.le_of_ble_eq_true rfl, Nat.le_of_ble_eq_true rfl⟩ (Nat.le_of_ble_eq_true rfl) ⟨lk_k hk123_, lk_n hk123_⟩ (fun r122_ z124_ G125_ hq126_ => ?_)
    obtain ⟨v127_, k128_, f129_, h⟩ := hq126_
    have F130_ : Fr b0 475 G G125_ := Fr.trans gF f129_
    refine z_lconst (v := 0) O dL_follows_559 (by decide) ?_
    refine z_lcmp O dL_follows_560 ?_
    refine z_if_lt (tgt := 568) O dL_follows_561 (by decide) (fun c131_ => ?_) (fun c131_ => ?_)
    · have h := h.1 c131_
      exact z_subL (L' := [some (.ref b0), none, some (.long y2), none, none, none, none, none, none, none, none, none, none, none, none, none]) (zLe.sub (And.intro rfl (And.intro rfl True.intro))) (HJ568 y2 v127_ G125_ k128_ F130_ _ _ _ (lk_weak hk123_ (c' := 406) (Nat.le_of_ble_eq_true rfl) (Nat.le_refl _)) h)
    · have h := h.2 c131_
      refine z_iconst (v := 1) O dL_follows_564 (by decide) ?_
      refine z_goto (tgt := 569) O dL_follows_565 (by decide) ?_
      exact z_subL (L' := [some (.ref b0), none, some (.long y2), none, none, none, none, none, none, none, none, none, none, none, none, none]) (zLe.sub (And.intro rfl (And.intro rfl True.intro))) (HJ569 y2 1 v127_ G125_ k128_ F130_ _ _ _ (lk_weak hk123_ (c' := 406) (Nat.le_of_ble_eq_true rfl) (Nat.le_refl _)) h)
  have HJ437 : ∀     (y1 : Int32) (y2 : Int64) (y4 : Int32) (v0 : TT) (G9 : zG) (g0 : TA b0 v0 G9) (gF : Fr b0 475 G G9) (z9 k9 m9 : Nat) (hk : k9 + (416 + 0) ≤ 1048 ∧ m9 + 6 * (416 + 0) ≤ 6288) (h : PJ_LAW_follows_437 x1 y1 y2 y4 v0 Q), zT p l e (zrm 9 240 1048 6288) s m args below meth c (zEnd below D B (zRi fun r z' G' => ∃ w, TA b0 w G' ∧ Fr b0 475 G G' ∧ Q r w) args s 1048 6288) D B 16 k9 m9 437 [] [some (.ref b0), some (.int y1), some (.long y2), none, some (.int y4), none, none, none, none, none, none, none, none, none, none, none] z9 G9 := by
    intro  y1 y2 y4 v0 G9 g0 gF z9 k9 m9 hk h
    unfold PJ_LAW_follows_437 at h
    refine z_iconst (v := 1) O dL_follows_437 (by decide) ?_
    refine z_iload_n O dL_follows_438 rfl rfl ?_
    refine z_bipush (v := 99) O dL_follows_439 (by decide) ?_
    refine z_irem O dL_follows_441 (by decide) ?_
    refine z_iadd O dL_follows_442 ?_
    refine z_istore (L' := [some (.ref b0), some (.int y1), some (.long y2), none, some (.int y4), none, none, none, none, some (.int (1 + (zrem y1 99))), none, none, none, none, none, none]) O dL_follows_443 (by decide) rfl ?_
    refine z_aload_n O dL_follows_445 rfl rfl ?_
    refine z_iload O dL_follows_446 rfl ?_
    have hk43_ := lk_step 1 415 hk (Nat.le_of_ble_eq_true rfl)
    refine z_callHl (As := [.ref b0, .int (1 + (zrem y1 99))]) (st := []) O (s_LAW_leastRoom hfl g0 h) wh_L_leastRoom wl_RL_159 dL_follows_448 rfl rfl ⟨Nat.le_of_ble_eq_true rfl, Nat.le_of_ble_eq_true rfl⟩ (Nat.le_of_ble_eq_true rfl) ⟨lk_k hk43_, lk_n hk43_⟩ (fun r42_ z44_ G45_ hq46_ => ?_)
    obtain ⟨v47_, k48_, f49_, h⟩ := hq46_
    have F50_ : Fr b0 475 G G45_ := Fr.trans gF f49_
    refine z_l2i O dL_follows_451 ?_
    refine z_istore (L' := [some (.ref b0), some (.int y1), some (.long y2), none, some (.int y4), none, none, none, none, some (.int (1 + (zrem y1 99))), some (.int (Int64.toInt32 r42_)), none, none, none, none, none]) O dL_follows_452 (by decide) rfl ?_
    refine z_aload_n O dL_follows_454 rfl rfl ?_
    refine z_iconst (v := 3) O dL_follows_455 (by decide) ?_
    have hk52_ := lk_step 1 414 hk43_ (Nat.le_of_ble_eq_true rfl)
    refine z_callHl (As := [.ref b0, .int 3]) (st := []) O (s_LAW_setting hfl k48_ h) wh_L_setting wl_RL_119 dL_follows_456 rfl rfl ⟨Nat.le_of_ble_eq_true rfl, Nat.le_of_ble_eq_true rfl⟩ (Nat.le_of_ble_eq_true rfl) ⟨lk_k hk52_, lk_n hk52_⟩ (fun r51_ z53_ G54_ hq55_ => ?_)
    obtain ⟨rfl, h⟩ := hq55_
    refine z_lstore (L' := [some (.ref b0), some (.int y1), some (.long y2), none, some (.int y4), none, none, none, none, some (.int (1 + (zrem y1 99))), some (.int (Int64.toInt32 r42_)), some (.long r51_), none, none, none, none]) O dL_follows_459 (by decide) rfl ?_
    refine z_iload O dL_follows_461 rfl ?_
    refine z_iconst (v := (-1)) O dL_follows_463 (by decide) ?_
    refine z_icmp_eq (tgt := 571) O dL_follows_464 (by decide) (fun c56_ => ?_) (fun c56_ => ?_)
    · have h := h.1 c56_
      exact z_subL (L' := [some (.ref b0), none, some (.long y2), none, some (.int y4), none, none, none, none, none, none, none, none, none, none, none]) (zLe.sub (And.intro rfl (And.intro rfl (And.intro rfl True.intro)))) (HJ571 y2 y4 v47_ G45_ k48_ F50_ _ _ _ (lk_weak hk52_ (c' := 406) (Nat.le_of_ble_eq_true rfl) (Nat.le_refl _)) h)
    · have h := h.2 c56_
      refine z_iload O dL_follows_467 rfl ?_
      refine z_if_eq (tgt := 571) O dL_follows_469 (by decide) (fun c90_ => ?_) (fun c90_ => ?_)
      · have h := h.1 c90_
        exact z_subL (L' := [some (.ref b0), none, some (.long y2), none, some (.int y4), none, none, none, none, none, none, none, none, none, none, none]) (zLe.sub (And.intro rfl (And.intro rfl (And.intro rfl True.intro)))) (HJ571 y2 y4 v47_ G45_ k48_ F50_ _ _ _ (lk_weak hk52_ (c' := 406) (Nat.le_of_ble_eq_true rfl) (Nat.le_refl _)) h)
      · have h := h.2 c90_
        refine z_aload_n O dL_follows_472 rfl rfl ?_
        refine z_iconst (v := 3) O dL_follows_473 (by decide) ?_
        refine z_iload O dL_follows_474 rfl ?_
        have hk92_ := lk_step 1 413 hk52_ (Nat.le_of_ble_eq_true rfl)
        refine z_callHl (As := [.ref b0, .int 3, .int (Int64.toInt32 r42_)]) (st := []) O (s_LAW_set hfl k48_ h) wh_L_set wl_RL_149 dL_follows_476 rfl rfl ⟨Nat.le_of_ble_eq_true rfl, Nat.le_of_ble_eq_true rfl⟩ (Nat.le_of_ble_eq_true rfl) ⟨lk_k hk92_, lk_n hk92_⟩ (fun r91_ z93_ G94_ hq95_ => ?_)
        obtain ⟨v96_, k97_, f98_, h⟩ := hq95_
        have F99_ : Fr b0 475 G G94_ := Fr.trans F50_ f98_
        refine z_lload O dL_follows_479 rfl ?_
        refine z_lcmp O dL_follows_481 ?_
        refine z_if_ne (tgt := 568) O dL_follows_482 (by decide) (fun c100_ => ?_) (fun c100_ => ?_)
        · have h := h.1 c100_
          exact z_subL (L' := [some (.ref b0), none, some (.long y2), none, none, none, none, none, none, none, none, none, none, none, none, none]) (zLe.sub (And.intro rfl (And.intro rfl True.intro))) (HJ568 y2 v96_ G94_ k97_ F99_ _ _ _ (lk_weak hk92_ (c' := 406) (Nat.le_of_ble_eq_true rfl) (Nat.le_refl _)) h)
        · have h := h.2 c100_
          refine z_aload_n O dL_follows_485 rfl rfl ?_
          refine z_iload O dL_follows_486 rfl ?_
          have hk102_ := lk_step 1 412 hk92_ (Nat.le_of_ble_eq_true rfl)
          refine z_callHl (As := [.ref b0, .int (1 + (zrem y1 99))]) (st := []) O (s_LAW_ticks hfl k97_ h) wh_L_ticks wl_RL_155 dL_follows_488 rfl rfl ⟨Nat.le_of_ble_eq_true rfl, Nat.le_of_ble_eq_true rfl⟩ (Nat.le_of_ble_eq_true rfl) ⟨lk_k hk102_, lk_n hk102_⟩ (fun r101_ z103_ G104_ hq105_ => ?_)
          obtain ⟨v106_, k107_, f108_, h⟩ := hq105_
          have F109_ : Fr b0 475 G G104_ := Fr.trans F99_ f108_
          refine z_lconst (v := 0) O dL_follows_491 (by decide) ?_
          refine z_lcmp O dL_follows_492 ?_
          refine z_if_ne (tgt := 568) O dL_follows_493 (by decide) (fun c110_ => ?_) (fun c110_ => ?_)
          · have h := h.1 c110_
            exact z_subL (L' := [some (.ref b0), none, some (.long y2), none, none, none, none, none, none, none, none, none, none, none, none, none]) (zLe.sub (And.intro rfl (And.intro rfl True.intro))) (HJ568 y2 v106_ G104_ k107_ F109_ _ _ _ (lk_weak hk102_ (c' := 406) (Nat.le_of_ble_eq_true rfl) (Nat.le_refl _)) h)
          · have h := h.2 c110_
            refine z_aload_n O dL_follows_496 rfl rfl ?_
            have hk112_ := lk_step 1 411 hk102_ (Nat.le_of_ble_eq_true rfl)
            refine z_callHl (As := [.ref b0]) (st := []) O (s_LAW_undo hfl k107_ h) wh_L_undo wl_RL_187 dL_follows_497 rfl rfl ⟨Nat.le_of_ble_eq_true rfl, Nat.le_of_ble_eq_true rfl⟩ (Nat.le_of_ble_eq_true rfl) ⟨lk_k hk112_, lk_n hk112_⟩ (fun r111_ z113_ G114_ hq115_ => ?_)
            obtain ⟨v116_, k117_, f118_, h⟩ := hq115_
            have F119_ : Fr b0 475 G G114_ := Fr.trans F109_ f118_
            refine z_lconst (v := 0) O dL_follows_500 (by decide) ?_
            refine z_lcmp O dL_follows_501 ?_
            refine z_if_lt (tgt := 568) O dL_follows_502 (by decide) (fun c120_ => ?_) (fun c120_ => ?_)
            · have h := h.1 c120_
              exact z_subL (L' := [some (.ref b0), none, some (.long y2), none, none, none, none, none, none, none, none, none, none, none, none, none]) (zLe.sub (And.intro rfl (And.intro rfl True.intro))) (HJ568 y2 v116_ G114_ k117_ F119_ _ _ _ (lk_weak hk112_ (c' := 406) (Nat.le_of_ble_eq_true rfl) (Nat.le_refl _)) h)
            · have h := h.2 c120_
              refine z_iload O dL_follows_505 rfl ?_
              refine z_if_eq (tgt := 555) O dL_follows_507 (by decide) (fun c121_ => ?_) (fun c121_ => ?_)
              · have h := h.1 c121_
                exact z_subL (L' := [some (.ref b0), none, some (.long y2), none, none, none, none, none, none, none, none, none, none, none, none, none]) (zLe.sub (And.intro rfl (And.intro rfl True.intro))) (HJ555 y2 v116_ G114_ k117_ F119_ _ _ _ (lk_weak hk112_ (c' := 407) (Nat.le_of_ble_eq_true rfl) (Nat.le_refl _)) h)
              · have h := h.2 c121_
                refine z_aload_n O dL_follows_510 rfl rfl ?_
                refine z_iconst (v := 3) O dL_follows_511 (by decide) ?_
                refine z_iload O dL_follows_512 rfl ?_
                refine z_iconst (v := 1) O dL_follows_514 (by decide) ?_
                refine z_isub O dL_follows_515 ?_
                have hk133_ := lk_step 1 410 hk112_ (Nat.le_of_ble_eq_true rfl)
                refine z_callHl (As := [.ref b0, .int 3, .int ((Int64.toInt32 r42_) - 1)]) (st := []) O (s_LAW_set hfl k117_ h) wh_L_set wl_RL_149 dL_follows_516 rfl rfl ⟨Nat.le_of_ble_eq_true rfl, Nat.le_of_ble_eq_true rfl⟩ (Nat.le_of_ble_eq_true rfl) ⟨lk_k hk133_, lk_n hk133_⟩ (fun r132_ z134_ G135_ hq136_ => ?_)
                obtain ⟨v137_, k138_, f139_, h⟩ := hq136_
                have F140_ : Fr b0 475 G G135_ := Fr.trans F119_ f139_
                refine z_iload O dL_follows_519 rfl ?_
                refine z_i2l O dL_follows_521 ?_
                refine z_lcmp O dL_follows_522 ?_
                refine z_if_ne (tgt := 568) O dL_follows_523 (by decide) (fun c141_ => ?_) (fun c141_ => ?_)
                · have h := h.1 c141_
                  exact z_subL (L' := [some (.ref b0), none, some (.long y2), none, none, none, none, none, none, none, none, none, none, none, none, none]) (zLe.sub (And.intro rfl (And.intro rfl True.intro))) (HJ568 y2 v137_ G135_ k138_ F140_ _ _ _ (lk_weak hk133_ (c' := 406) (Nat.le_of_ble_eq_true rfl) (Nat.le_refl _)) h)
                · have h := h.2 c141_
                  refine z_aload_n O dL_follows_526 rfl rfl ?_
                  refine z_iload O dL_follows_527 rfl ?_
                  have hk143_ := lk_step 1 409 hk133_ (Nat.le_of_ble_eq_true rfl)
                  refine z_callHl (As := [.ref b0, .int (1 + (zrem y1 99))]) (st := []) O (s_LAW_ticks hfl k138_ h) wh_L_ticks wl_RL_155 dL_follows_529 rfl rfl ⟨Nat.le_of_ble_eq_true rfl, Nat.le_of_ble_eq_true rfl⟩ (Nat.le_of_ble_eq_true rfl) ⟨lk_k hk143_, lk_n hk143_⟩ (fun r142_ z144_ G145_ hq146_ => ?_)
                  obtain ⟨v147_, k148_, f149_, h⟩ := hq146_
                  have F150_ : Fr b0 475 G G145_ := Fr.trans F140_ f149_
                  refine z_lconst (v := 0) O dL_follows_532 (by decide) ?_
                  refine z_lcmp O dL_follows_533 ?_
                  refine z_if_le (tgt := 568) O dL_follows_534 (by decide) (fun c151_ => ?_) (fun c151_ => ?_)
                  · have h := h.1 c151_
                    exact z_subL (L' := [some (.ref b0), none, some (.long y2), none, none, none, none, none, none, none, none, none, none, none, none, none]) (zLe.sub (And.intro rfl (And.intro rfl True.intro))) (HJ568 y2 v147_ G145_ k148_ F150_ _ _ _ (lk_weak hk143_ (c' := 406) (Nat.le_of_ble_eq_true rfl) (Nat.le_refl _)) h)
                  · have h := h.2 c151_
                    refine z_aload_n O dL_follows_537 rfl rfl ?_
                    have hk153_ := lk_step 1 408 hk143_ (Nat.le_of_ble_eq_true rfl)
                    refine z_callHl (As := [.ref b0]) (st := []) O (s_LAW_undo hfl k148_ h) wh_L_undo wl_RL_187 dL_follows_538 rfl rfl ⟨Nat.le_of_ble_eq_true rfl, Nat.le_of_ble_eq_true rfl⟩ (Nat.le_of_ble_eq_true rfl) ⟨lk_k hk153_, lk_n hk153_⟩ (fun r152_ z154_ G155_ hq156_ => ?_)
                    obtain ⟨v157_, k158_, f159_, h⟩ := hq156_
                    have F160_ : Fr b0 475 G G155_ := Fr.trans F150_ f159_
                    refine z_lconst (v := 0) O dL_follows_541 (by decide) ?_
                    refine z_lcmp O dL_follows_542 ?_
                    refine z_if_lt (tgt := 568) O dL_follows_543 (by decide) (fun c161_ => ?_) (fun c161_ => ?_)
                    · have h := h.1 c161_
                      exact z_subL (L' := [some (.ref b0), none, some (.long y2), none, none, none, none, none, none, none, none, none, none, none, none, none]) (zLe.sub (And.intro rfl (And.intro rfl True.intro))) (HJ568 y2 v157_ G155_ k158_ F160_ _ _ _ (lk_weak hk153_ (c' := 406) (Nat.le_of_ble_eq_true rfl) (Nat.le_refl _)) h)
                    · have h := h.2 c161_
                      refine z_aload_n O dL_follows_546 rfl rfl ?_
                      have hk163_ := lk_step 1 407 hk153_ (Nat.le_of_ble_eq_true rfl)
                      refine z_callHl (As := [.ref b0]) (st := []) O (s_LAW_undo hfl k158_ h) wh_L_undo wl_RL_187 dL_follows_547 rfl rfl ⟨Nat.le_of_ble_eq_true rfl, Nat.le_of_ble_eq_true rfl⟩ (Nat.le_of_ble_eq_true rfl) ⟨lk_k hk163_, lk_n hk163_⟩ (fun r162_ z164_ G165_ hq166_ => ?_)
                      obtain ⟨v167_, k168_, f169_, h⟩ := hq166_
                      have F170_ : Fr b0 475 G G165_ := Fr.trans F160_ f169_
                      refine z_lconst (v := 0) O dL_follows_550 (by decide) ?_
                      refine z_lcmp O dL_follows_551 ?_
                      refine z_if_lt (tgt := 568) O dL_follows_552 (by decide) (fun c171_ => ?_) (fun c171_ => ?_)
                      · have h := h.1 c171_
                        exact z_subL (L' := [some (.ref b0), none, some (.long y2), none, none, none, none, none, none, none, none, none, none, none, none, none]) (zLe.sub (And.intro rfl (And.intro rfl True.intro))) (HJ568 y2 v167_ G165_ k168_ F170_ _ _ _ (lk_weak hk163_ (c' := 406) (Nat.le_of_ble_eq_true rfl) (Nat.le_refl _)) h)
                      · have h := h.2 c171_
                        exact z_subL (L' := [some (.ref b0), none, some (.long y2), none, none, none, none, none, none, none, none, none, none, none, none, none]) (zLe.sub (And.intro rfl (And.intro rfl True.intro))) (HJ555 y2 v167_ G165_ k168_ F170_ _ _ _ (lk_weak hk163_ (c' := 407) (Nat.le_of_ble_eq_true rfl) (Nat.le_refl _)) h)
  have HJ435 : ∀     (y1 : Int32) (y2 : Int64) (u0 : Int32) (v0 : TT) (G9 : zG) (g0 : TA b0 v0 G9) (gF : Fr b0 475 G G9) (z9 k9 m9 : Nat) (hk : k9 + (416 + 0) ≤ 1048 ∧ m9 + 6 * (416 + 0) ≤ 6288) (h : PJ_LAW_follows_435 x1 y1 y2 u0 v0 Q), zT p l e (zrm 9 240 1048 6288) s m args below meth c (zEnd below D B (zRi fun r z' G' => ∃ w, TA b0 w G' ∧ Fr b0 475 G G' ∧ Q r w) args s 1048 6288) D B 16 k9 m9 435 [.int u0] [some (.ref b0), some (.int y1), some (.long y2), none, none, none, none, none, none, none, none, none, none, none, none, none] z9 G9 := by
    intro  y1 y2 u0 v0 G9 g0 gF z9 k9 m9 hk h
    unfold PJ_LAW_follows_435 at h
    refine z_istore (L' := [some (.ref b0), some (.int y1), some (.long y2), none, some (.int u0), none, none, none, none, none, none, none, none, none, none, none]) O dL_follows_435 (by decide) rfl ?_
    exact z_subL (L' := [some (.ref b0), some (.int y1), some (.long y2), none, some (.int u0), none, none, none, none, none, none, none, none, none, none, none]) (zLe.sub (And.intro rfl (And.intro rfl (And.intro rfl (And.intro rfl True.intro))))) (HJ437 y1 y2 u0 v0 G9 g0 gF _ _ _ (lk_weak hk (c' := 416) (Nat.le_of_ble_eq_true rfl) (Nat.le_refl _)) h)
  have HJ434 : ∀     (y1 : Int32) (y2 : Int64) (v0 : TT) (G9 : zG) (g0 : TA b0 v0 G9) (gF : Fr b0 475 G G9) (z9 k9 m9 : Nat) (hk : k9 + (416 + 0) ≤ 1048 ∧ m9 + 6 * (416 + 0) ≤ 6288) (h : PJ_LAW_follows_434 x1 y1 y2 v0 Q), zT p l e (zrm 9 240 1048 6288) s m args below meth c (zEnd below D B (zRi fun r z' G' => ∃ w, TA b0 w G' ∧ Fr b0 475 G G' ∧ Q r w) args s 1048 6288) D B 16 k9 m9 434 [] [some (.ref b0), some (.int y1), some (.long y2), none, none, none, none, none, none, none, none, none, none, none, none, none] z9 G9 := by
    intro  y1 y2 v0 G9 g0 gF z9 k9 m9 hk h
    unfold PJ_LAW_follows_434 at h
    refine z_iconst (v := 0) O dL_follows_434 (by decide) ?_
    exact z_subL (L' := [some (.ref b0), some (.int y1), some (.long y2), none, none, none, none, none, none, none, none, none, none, none, none, none]) (zLe.sub (And.intro rfl (And.intro rfl (And.intro rfl True.intro)))) (HJ435 y1 y2 0 v0 G9 g0 gF _ _ _ (lk_weak hk (c' := 416) (Nat.le_of_ble_eq_true rfl) (Nat.le_refl _)) h)
  have HJ388 : ∀     (y1 : Int32) (y2 : Int64) (y11 : Int64) (u0 : Int64) (u1 : Int64) (v0 : TT) (G9 : zG) (g0 : TA b0 v0 G9) (gF : Fr b0 475 G G9) (z9 k9 m9 : Nat) (hk : k9 + (621 + 0) ≤ 1048 ∧ m9 + 6 * (621 + 0) ≤ 6288) (h : PJ_LAW_follows_388 x1 y1 y2 y11 u0 u1 v0 Q), zT p l e (zrm 9 240 1048 6288) s m args below meth c (zEnd below D B (zRi fun r z' G' => ∃ w, TA b0 w G' ∧ Fr b0 475 G G' ∧ Q r w) args s 1048 6288) D B 16 k9 m9 388 [.long u0, .long u1] [some (.ref b0), some (.int y1), some (.long y2), none, none, none, none, none, none, none, none, some (.long y11), none, none, none, none] z9 G9 := by
    intro  y1 y2 y11 u0 u1 v0 G9 g0 gF z9 k9 m9 hk h
    unfold PJ_LAW_follows_388 at h
    refine z_lcmp O dL_follows_388 ?_
    refine z_if_ne (tgt := 434) O dL_follows_389 (by decide) (fun c219_ => ?_) (fun c219_ => ?_)
    · have h := h.1 c219_
      exact z_subL (L' := [some (.ref b0), some (.int y1), some (.long y2), none, none, none, none, none, none, none, none, none, none, none, none, none]) (zLe.sub (And.intro rfl (And.intro rfl (And.intro rfl True.intro)))) (HJ434 y1 y2 v0 G9 g0 gF _ _ _ (lk_weak hk (c' := 416) (Nat.le_of_ble_eq_true rfl) (Nat.le_refl _)) h)
    · have h := h.2 c219_
      refine z_aload_n O dL_follows_392 rfl rfl ?_
      refine z_iconst (v := 1) O dL_follows_393 (by decide) ?_
      have hk221_ := lk_step 1 620 hk (Nat.le_of_ble_eq_true rfl)
      refine z_callHl (As := [.ref b0, .int 1]) (st := []) O (s_LAW_ticks hfl g0 h) wh_L_ticks wl_RL_155 dL_follows_394 rfl rfl ⟨Nat.le_of_ble_eq_true rfl, Nat.le_of_ble_eq_true rfl⟩ (Nat.le_of_ble_eq_true rfl) ⟨lk_k hk221_, lk_n hk221_⟩ (fun r220_ z222_ G223_ hq224_ => ?_)
      obtain ⟨v225_, k226_, f227_, h⟩ := hq224_
      have F228_ : Fr b0 475 G G223_ := Fr.trans gF f227_
      refine z_lload O dL_follows_397 rfl ?_
      refine z_lcmp O dL_follows_399 ?_
      refine z_if_ne (tgt := 434) O dL_follows_400 (by decide) (fun c229_ => ?_) (fun c229_ => ?_)
      · have h := h.1 c229_
        exact z_subL (L' := [some (.ref b0), some (.int y1), some (.long y2), none, none, none, none, none, none, none, none, none, none, none, none, none]) (zLe.sub (And.intro rfl (And.intro rfl (And.intro rfl True.intro)))) (HJ434 y1 y2 v225_ G223_ k226_ F228_ _ _ _ (lk_weak hk221_ (c' := 416) (Nat.le_of_ble_eq_true rfl) (Nat.le_refl _)) h)
      · have h := h.2 c229_
        refine z_aload_n O dL_follows_403 rfl rfl ?_
        have hk231_ := lk_step 1 619 hk221_ (Nat.le_of_ble_eq_true rfl)
        refine z_callHl (As := [.ref b0]) (st := []) O (s_LAW_undo hfl k226_ h) wh_L_undo wl_RL_187 dL_follows_404 rfl rfl ⟨Nat.le_of_ble_eq_true rfl, Nat.le_of_ble_eq_true rfl⟩ (Nat.le_of_ble_eq_true rfl) ⟨lk_k hk231_, lk_n hk231_⟩ (fun r230_ z232_ G233_ hq234_ => ?_)
        obtain ⟨v235_, k236_, f237_, h⟩ := hq234_
        have F238_ : Fr b0 475 G G233_ := Fr.trans F228_ f237_
        refine z_lconst (v := 0) O dL_follows_407 (by decide) ?_
        refine z_lcmp O dL_follows_408 ?_
        refine z_if_lt (tgt := 434) O dL_follows_409 (by decide) (fun c239_ => ?_) (fun c239_ => ?_)
        · have h := h.1 c239_
          exact z_subL (L' := [some (.ref b0), some (.int y1), some (.long y2), none, none, none, none, none, none, none, none, none, none, none, none, none]) (zLe.sub (And.intro rfl (And.intro rfl (And.intro rfl True.intro)))) (HJ434 y1 y2 v235_ G233_ k236_ F238_ _ _ _ (lk_weak hk231_ (c' := 416) (Nat.le_of_ble_eq_true rfl) (Nat.le_refl _)) h)
        · have h := h.2 c239_
          refine z_aload_n O dL_follows_412 rfl rfl ?_
          have hk241_ := lk_step 1 618 hk231_ (Nat.le_of_ble_eq_true rfl)
          refine z_callHl (As := [.ref b0]) (st := []) O (s_LAW_undo hfl k236_ h) wh_L_undo wl_RL_187 dL_follows_413 rfl rfl ⟨Nat.le_of_ble_eq_true rfl, Nat.le_of_ble_eq_true rfl⟩ (Nat.le_of_ble_eq_true rfl) ⟨lk_k hk241_, lk_n hk241_⟩ (fun r240_ z242_ G243_ hq244_ => ?_)
          obtain ⟨v245_, k246_, f247_, h⟩ := hq244_
          have F248_ : Fr b0 475 G G243_ := Fr.trans F238_ f247_
          refine z_lconst (v := 0) O dL_follows_416 (by decide) ?_
          refine z_lcmp O dL_follows_417 ?_
          refine z_if_lt (tgt := 434) O dL_follows_418 (by decide) (fun c249_ => ?_) (fun c249_ => ?_)
          · have h := h.1 c249_
            exact z_subL (L' := [some (.ref b0), some (.int y1), some (.long y2), none, none, none, none, none, none, none, none, none, none, none, none, none]) (zLe.sub (And.intro rfl (And.intro rfl (And.intro rfl True.intro)))) (HJ434 y1 y2 v245_ G243_ k246_ F248_ _ _ _ (lk_weak hk241_ (c' := 416) (Nat.le_of_ble_eq_true rfl) (Nat.le_refl _)) h)
          · have h := h.2 c249_
            refine z_aload_n O dL_follows_421 rfl rfl ?_
            have hk251_ := lk_step 202 416 hk241_ (Nat.le_of_ble_eq_true rfl)
            refine z_callSl (As := [.ref b0]) (st := []) O (s_LAW_now hfl k246_ h) wy_L_now wl_RL_128 dL_follows_422 rfl rfl ⟨Nat.le_of_ble_eq_true rfl, Nat.le_of_ble_eq_true rfl⟩ (Nat.le_of_ble_eq_true rfl) ⟨lk_k hk251_, lk_n hk251_⟩ (fun r250_ z252_ G253_ hq254_ => ?_)
            obtain ⟨rfl, h⟩ := hq254_
            refine z_lload_n O dL_follows_425 rfl rfl ?_
            refine z_lcmp O dL_follows_426 ?_
            refine z_if_ne (tgt := 434) O dL_follows_427 (by decide) (fun c255_ => ?_) (fun c255_ => ?_)
            · have h := h.1 c255_
              exact z_subL (L' := [some (.ref b0), some (.int y1), some (.long y2), none, none, none, none, none, none, none, none, none, none, none, none, none]) (zLe.sub (And.intro rfl (And.intro rfl (And.intro rfl True.intro)))) (HJ434 y1 y2 v245_ G243_ k246_ F248_ _ _ _ (lk_weak hk251_ (c' := 416) (Nat.le_of_ble_eq_true rfl) (Nat.le_refl _)) h)
            · have h := h.2 c255_
              refine z_iconst (v := 1) O dL_follows_430 (by decide) ?_
              refine z_goto (tgt := 435) O dL_follows_431 (by decide) ?_
              exact z_subL (L' := [some (.ref b0), some (.int y1), some (.long y2), none, none, none, none, none, none, none, none, none, none, none, none, none]) (zLe.sub (And.intro rfl (And.intro rfl (And.intro rfl True.intro)))) (HJ435 y1 y2 1 v245_ G243_ k246_ F248_ _ _ _ (lk_weak hk251_ (c' := 416) (Nat.le_of_ble_eq_true rfl) (Nat.le_refl _)) h)
  have HJ366 : ∀     (y1 : Int32) (y2 : Int64) (y4 : Int32) (y8 : Int32) (y11 : Int64) (y13 : Int32) (v0 : TT) (G9 : zG) (g0 : TA b0 v0 G9) (gF : Fr b0 475 G G9) (z9 k9 m9 : Nat) (hk : k9 + (622 + 0) ≤ 1048 ∧ m9 + 6 * (622 + 0) ≤ 6288) (h : PJ_LAW_follows_366 x1 y1 y2 y4 y8 y11 y13 v0 Q), zT p l e (zrm 9 240 1048 6288) s m args below meth c (zEnd below D B (zRi fun r z' G' => ∃ w, TA b0 w G' ∧ Fr b0 475 G G' ∧ Q r w) args s 1048 6288) D B 16 k9 m9 366 [] [some (.ref b0), some (.int y1), some (.long y2), none, some (.int y4), none, none, none, some (.int y8), none, none, some (.long y11), none, some (.int y13), none, none] z9 G9 := by
    intro  y1 y2 y4 y8 y11 y13 v0 G9 g0 gF z9 k9 m9 hk h
    unfold PJ_LAW_follows_366 at h
    refine z_iload O dL_follows_366 rfl ?_
    refine z_if_eq (tgt := 434) O dL_follows_368 (by decide) (fun c208_ => ?_) (fun c208_ => ?_)
    · have h := h.1 c208_
      exact z_subL (L' := [some (.ref b0), some (.int y1), some (.long y2), none, none, none, none, none, none, none, none, none, none, none, none, none]) (zLe.sub (And.intro rfl (And.intro rfl (And.intro rfl True.intro)))) (HJ434 y1 y2 v0 G9 g0 gF _ _ _ (lk_weak hk (c' := 416) (Nat.le_of_ble_eq_true rfl) (Nat.le_refl _)) h)
    · have h := h.2 c208_
      refine z_aload_n O dL_follows_371 rfl rfl ?_
      refine z_iload O dL_follows_372 rfl ?_
      refine z_iconst (v := 0) O dL_follows_374 (by decide) ?_
      have hk210_ := lk_step 1 621 hk (Nat.le_of_ble_eq_true rfl)
      refine z_callHl (As := [.ref b0, .int y8, .int 0]) (st := []) O (s_LAW_hold hfl g0 h) wh_L_hold wl_RL_146 dL_follows_375 rfl rfl ⟨Nat.le_of_ble_eq_true rfl, Nat.le_of_ble_eq_true rfl⟩ (Nat.le_of_ble_eq_true rfl) ⟨lk_k hk210_, lk_n hk210_⟩ (fun r209_ z211_ G212_ hq213_ => ?_)
      obtain ⟨v214_, k215_, f216_, h⟩ := hq213_
      have F217_ : Fr b0 475 G G212_ := Fr.trans gF f216_
      refine z_iload O dL_follows_378 rfl ?_
      refine z_if_eq (tgt := 387) O dL_follows_380 (by decide) (fun c218_ => ?_) (fun c218_ => ?_)
      · have h := h.1 c218_
        refine z_lconst (v := 0) O dL_follows_387 (by decide) ?_
        exact z_subL (L' := [some (.ref b0), some (.int y1), some (.long y2), none, none, none, none, none, none, none, none, some (.long y11), none, none, none, none]) (zLe.sub (And.intro rfl (And.intro rfl (And.intro rfl (And.intro rfl True.intro))))) (HJ388 y1 y2 y11 0 r209_ v214_ G212_ k215_ F217_ _ _ _ (lk_weak hk210_ (c' := 621) (Nat.le_of_ble_eq_true rfl) (Nat.le_refl _)) h)
      · have h := h.2 c218_
        refine z_lconst (v := 1) O dL_follows_383 (by decide) ?_
        refine z_goto (tgt := 388) O dL_follows_384 (by decide) ?_
        exact z_subL (L' := [some (.ref b0), some (.int y1), some (.long y2), none, none, none, none, none, none, none, none, some (.long y11), none, none, none, none]) (zLe.sub (And.intro rfl (And.intro rfl (And.intro rfl (And.intro rfl True.intro))))) (HJ388 y1 y2 y11 1 r209_ v214_ G212_ k215_ F217_ _ _ _ (lk_weak hk210_ (c' := 621) (Nat.le_of_ble_eq_true rfl) (Nat.le_refl _)) h)
  have HJ364 : ∀     (y1 : Int32) (y2 : Int64) (y8 : Int32) (y11 : Int64) (y13 : Int32) (u0 : Int32) (v0 : TT) (G9 : zG) (g0 : TA b0 v0 G9) (gF : Fr b0 475 G G9) (z9 k9 m9 : Nat) (hk : k9 + (622 + 0) ≤ 1048 ∧ m9 + 6 * (622 + 0) ≤ 6288) (h : PJ_LAW_follows_364 x1 y1 y2 y8 y11 y13 u0 v0 Q), zT p l e (zrm 9 240 1048 6288) s m args below meth c (zEnd below D B (zRi fun r z' G' => ∃ w, TA b0 w G' ∧ Fr b0 475 G G' ∧ Q r w) args s 1048 6288) D B 16 k9 m9 364 [.int u0] [some (.ref b0), some (.int y1), some (.long y2), none, none, none, none, none, some (.int y8), none, none, some (.long y11), none, some (.int y13), none, none] z9 G9 := by
    intro  y1 y2 y8 y11 y13 u0 v0 G9 g0 gF z9 k9 m9 hk h
    unfold PJ_LAW_follows_364 at h
    refine z_istore (L' := [some (.ref b0), some (.int y1), some (.long y2), none, some (.int u0), none, none, none, some (.int y8), none, none, some (.long y11), none, some (.int y13), none, none]) O dL_follows_364 (by decide) rfl ?_
    exact z_subL (L' := [some (.ref b0), some (.int y1), some (.long y2), none, some (.int u0), none, none, none, some (.int y8), none, none, some (.long y11), none, some (.int y13), none, none]) (zLe.sub (And.intro rfl (And.intro rfl (And.intro rfl (And.intro rfl (And.intro rfl (And.intro rfl (And.intro rfl True.intro)))))))) (HJ366 y1 y2 u0 y8 y11 y13 v0 G9 g0 gF _ _ _ (lk_weak hk (c' := 622) (Nat.le_of_ble_eq_true rfl) (Nat.le_refl _)) h)
  have HJ363 : ∀     (y1 : Int32) (y2 : Int64) (y8 : Int32) (y11 : Int64) (y13 : Int32) (v0 : TT) (G9 : zG) (g0 : TA b0 v0 G9) (gF : Fr b0 475 G G9) (z9 k9 m9 : Nat) (hk : k9 + (622 + 0) ≤ 1048 ∧ m9 + 6 * (622 + 0) ≤ 6288) (h : PJ_LAW_follows_363 x1 y1 y2 y8 y11 y13 v0 Q), zT p l e (zrm 9 240 1048 6288) s m args below meth c (zEnd below D B (zRi fun r z' G' => ∃ w, TA b0 w G' ∧ Fr b0 475 G G' ∧ Q r w) args s 1048 6288) D B 16 k9 m9 363 [] [some (.ref b0), some (.int y1), some (.long y2), none, none, none, none, none, some (.int y8), none, none, some (.long y11), none, some (.int y13), none, none] z9 G9 := by
    intro  y1 y2 y8 y11 y13 v0 G9 g0 gF z9 k9 m9 hk h
    unfold PJ_LAW_follows_363 at h
    refine z_iconst (v := 0) O dL_follows_363 (by decide) ?_
    exact z_subL (L' := [some (.ref b0), some (.int y1), some (.long y2), none, none, none, none, none, some (.int y8), none, none, some (.long y11), none, some (.int y13), none, none]) (zLe.sub (And.intro rfl (And.intro rfl (And.intro rfl (And.intro rfl (And.intro rfl (And.intro rfl True.intro))))))) (HJ364 y1 y2 y8 y11 y13 0 v0 G9 g0 gF _ _ _ (lk_weak hk (c' := 622) (Nat.le_of_ble_eq_true rfl) (Nat.le_refl _)) h)
  have HJ254 : ∀     (y1 : Int32) (y2 : Int64) (y4 : Int32) (y8 : Int32) (y9 : Int64) (y11 : Int64) (u0 : Int32) (v0 : TT) (G9 : zG) (g0 : TA b0 v0 G9) (gF : Fr b0 475 G G9) (z9 k9 m9 : Nat) (hk : k9 + (630 + 0) ≤ 1048 ∧ m9 + 6 * (630 + 0) ≤ 6288) (h : PJ_LAW_follows_254 x1 y1 y2 y4 y8 y9 y11 u0 v0 Q), zT p l e (zrm 9 240 1048 6288) s m args below meth c (zEnd below D B (zRi fun r z' G' => ∃ w, TA b0 w G' ∧ Fr b0 475 G G' ∧ Q r w) args s 1048 6288) D B 16 k9 m9 254 [.int u0] [some (.ref b0), some (.int y1), some (.long y2), none, some (.int y4), none, none, none, some (.int y8), some (.long y9), none, some (.long y11), none, none, none, none] z9 G9 := by
    intro  y1 y2 y4 y8 y9 y11 u0 v0 G9 g0 gF z9 k9 m9 hk h
    unfold PJ_LAW_follows_254 at h
    refine z_istore (L' := [some (.ref b0), some (.int y1), some (.long y2), none, some (.int y4), none, none, none, some (.int y8), some (.long y9), none, some (.long y11), none, some (.int u0), none, none]) O dL_follows_254 (by decide) rfl ?_
    refine z_aload_n O dL_follows_256 rfl rfl ?_
    refine z_bipush (v := 9) O dL_follows_257 (by decide) ?_
    have hk198_ := lk_step 1 629 hk (Nat.le_of_ble_eq_true rfl)
    refine z_callHl (As := [.ref b0, .int 9]) (st := []) O (s_LAW_about hfl g0 h) wh_L_about wl_RL_110 dL_follows_259 rfl rfl ⟨Nat.le_of_ble_eq_true rfl, Nat.le_of_ble_eq_true rfl⟩ (Nat.le_of_ble_eq_true rfl) ⟨lk_k hk198_, lk_n hk198_⟩ (fun r197_ z199_ G200_ hq201_ => ?_)
    obtain ⟨rfl, h⟩ := hq201_
    refine z_aload_n O dL_follows_262 rfl rfl ?_
    refine z_bipush (v := 10) O dL_follows_263 (by decide) ?_
    have hk203_ := lk_step 1 628 hk198_ (Nat.le_of_ble_eq_true rfl)
    refine z_callHl (As := [.ref b0, .int 10]) (st := [.long r197_]) O (s_LAW_about hfl g0 h) wh_L_about wl_RL_110 dL_follows_265 rfl rfl ⟨Nat.le_of_ble_eq_true rfl, Nat.le_of_ble_eq_true rfl⟩ (Nat.le_of_ble_eq_true rfl) ⟨lk_k hk203_, lk_n hk203_⟩ (fun r202_ z204_ G205_ hq206_ => ?_)
    obtain ⟨rfl, h⟩ := hq206_
    refine z_ladd O dL_follows_268 ?_
    refine z_lstore (L' := [some (.ref b0), some (.int y1), some (.long y2), none, some (.int y4), none, none, none, some (.int y8), some (.long y9), none, some (.long y11), none, some (.int u0), some (.long (r197_ + r202_)), none]) O dL_follows_269 (by decide) rfl ?_
    refine z_iload O dL_follows_271 rfl ?_
    refine z_if_eq (tgt := 366) O dL_follows_273 (by decide) (fun c207_ => ?_) (fun c207_ => ?_)
    · have h := h.1 c207_
      exact z_subL (L' := [some (.ref b0), some (.int y1), some (.long y2), none, some (.int y4), none, none, none, some (.int y8), none, none, some (.long y11), none, some (.int u0), none, none]) (zLe.sub (And.intro rfl (And.intro rfl (And.intro rfl (And.intro rfl (And.intro rfl (And.intro rfl (And.intro rfl True.intro)))))))) (HJ366 y1 y2 y4 y8 y11 u0 v0 G9 g0 gF _ _ _ (lk_weak hk203_ (c' := 622) (Nat.le_of_ble_eq_true rfl) (Nat.le_refl _)) h)
    · have h := h.2 c207_
      refine z_lload O dL_follows_276 rfl ?_
      refine z_ldc2 (v := (-1)) O wc_RL_189 dL_follows_278 ?_
      refine z_lcmp O dL_follows_281 ?_
      refine z_if_eq (tgt := 366) O dL_follows_282 (by decide) (fun c256_ => ?_) (fun c256_ => ?_)
      · have h := h.1 c256_
        exact z_subL (L' := [some (.ref b0), some (.int y1), some (.long y2), none, some (.int y4), none, none, none, some (.int y8), none, none, some (.long y11), none, some (.int u0), none, none]) (zLe.sub (And.intro rfl (And.intro rfl (And.intro rfl (And.intro rfl (And.intro rfl (And.intro rfl (And.intro rfl True.intro)))))))) (HJ366 y1 y2 y4 y8 y11 u0 v0 G9 g0 gF _ _ _ (lk_weak hk203_ (c' := 622) (Nat.le_of_ble_eq_true rfl) (Nat.le_refl _)) h)
      · have h := h.2 c256_
        refine z_lload O dL_follows_285 rfl ?_
        refine z_ldc2 (v := 100) O wc_RL_191 dL_follows_287 ?_
        refine z_lcmp O dL_follows_290 ?_
        refine z_if_ge (tgt := 366) O dL_follows_291 (by decide) (fun c257_ => ?_) (fun c257_ => ?_)
        · have h := h.1 c257_
          exact z_subL (L' := [some (.ref b0), some (.int y1), some (.long y2), none, some (.int y4), none, none, none, some (.int y8), none, none, some (.long y11), none, some (.int u0), none, none]) (zLe.sub (And.intro rfl (And.intro rfl (And.intro rfl (And.intro rfl (And.intro rfl (And.intro rfl (And.intro rfl True.intro)))))))) (HJ366 y1 y2 y4 y8 y11 u0 v0 G9 g0 gF _ _ _ (lk_weak hk203_ (c' := 622) (Nat.le_of_ble_eq_true rfl) (Nat.le_refl _)) h)
        · have h := h.2 c257_
          refine z_aload_n O dL_follows_294 rfl rfl ?_
          refine z_lload O dL_follows_295 rfl ?_
          refine z_l2i O dL_follows_297 ?_
          have hk259_ := lk_step 1 627 hk203_ (Nat.le_of_ble_eq_true rfl)
          refine z_callHl (As := [.ref b0, .int (Int64.toInt32 y9)]) (st := []) O (s_LAW_ticks hfl g0 h) wh_L_ticks wl_RL_155 dL_follows_298 rfl rfl ⟨Nat.le_of_ble_eq_true rfl, Nat.le_of_ble_eq_true rfl⟩ (Nat.le_of_ble_eq_true rfl) ⟨lk_k hk259_, lk_n hk259_⟩ (fun r258_ z260_ G261_ hq262_ => ?_)
          obtain ⟨v263_, k264_, f265_, h⟩ := hq262_
          have F266_ : Fr b0 475 G G261_ := Fr.trans gF f265_
          refine z_lconst (v := 0) O dL_follows_301 (by decide) ?_
          refine z_lcmp O dL_follows_302 ?_
          refine z_if_lt (tgt := 363) O dL_follows_303 (by decide) (fun c267_ => ?_) (fun c267_ => ?_)
          · have h := h.1 c267_
            exact z_subL (L' := [some (.ref b0), some (.int y1), some (.long y2), none, none, none, none, none, some (.int y8), none, none, some (.long y11), none, some (.int u0), none, none]) (zLe.sub (And.intro rfl (And.intro rfl (And.intro rfl (And.intro rfl (And.intro rfl (And.intro rfl True.intro))))))) (HJ363 y1 y2 y8 y11 u0 v263_ G261_ k264_ F266_ _ _ _ (lk_weak hk259_ (c' := 622) (Nat.le_of_ble_eq_true rfl) (Nat.le_refl _)) h)
          · have h := h.2 c267_
            refine z_aload_n O dL_follows_306 rfl rfl ?_
            refine z_iload O dL_follows_307 rfl ?_
            refine z_iconst (v := 1) O dL_follows_309 (by decide) ?_
            have hk269_ := lk_step 1 626 hk259_ (Nat.le_of_ble_eq_true rfl)
            refine z_callHl (As := [.ref b0, .int y8, .int 1]) (st := []) O (s_LAW_readerOf hfl k264_ h) wh_L_readerOf wl_RL_121 dL_follows_310 rfl rfl ⟨Nat.le_of_ble_eq_true rfl, Nat.le_of_ble_eq_true rfl⟩ (Nat.le_of_ble_eq_true rfl) ⟨lk_k hk269_, lk_n hk269_⟩ (fun r268_ z270_ G271_ hq272_ => ?_)
            obtain ⟨rfl, h⟩ := hq272_
            refine z_lconst (v := 0) O dL_follows_313 (by decide) ?_
            refine z_lcmp O dL_follows_314 ?_
            refine z_if_ne (tgt := 363) O dL_follows_315 (by decide) (fun c273_ => ?_) (fun c273_ => ?_)
            · have h := h.1 c273_
              exact z_subL (L' := [some (.ref b0), some (.int y1), some (.long y2), none, none, none, none, none, some (.int y8), none, none, some (.long y11), none, some (.int u0), none, none]) (zLe.sub (And.intro rfl (And.intro rfl (And.intro rfl (And.intro rfl (And.intro rfl (And.intro rfl True.intro))))))) (HJ363 y1 y2 y8 y11 u0 v263_ G261_ k264_ F266_ _ _ _ (lk_weak hk269_ (c' := 622) (Nat.le_of_ble_eq_true rfl) (Nat.le_refl _)) h)
            · have h := h.2 c273_
              refine z_aload_n O dL_follows_318 rfl rfl ?_
              refine z_iload O dL_follows_319 rfl ?_
              refine z_bipush (v := 8) O dL_follows_321 (by decide) ?_
              have hk275_ := lk_step 1 625 hk269_ (Nat.le_of_ble_eq_true rfl)
              refine z_callHl (As := [.ref b0, .int y8, .int 8]) (st := []) O (s_LAW_readerOf hfl k264_ h) wh_L_readerOf wl_RL_121 dL_follows_323 rfl rfl ⟨Nat.le_of_ble_eq_true rfl, Nat.le_of_ble_eq_true rfl⟩ (Nat.le_of_ble_eq_true rfl) ⟨lk_k hk275_, lk_n hk275_⟩ (fun r274_ z276_ G277_ hq278_ => ?_)
              obtain ⟨rfl, h⟩ := hq278_
              refine z_lconst (v := 0) O dL_follows_326 (by decide) ?_
              refine z_lcmp O dL_follows_327 ?_
              refine z_if_le (tgt := 363) O dL_follows_328 (by decide) (fun c279_ => ?_) (fun c279_ => ?_)
              · have h := h.1 c279_
                exact z_subL (L' := [some (.ref b0), some (.int y1), some (.long y2), none, none, none, none, none, some (.int y8), none, none, some (.long y11), none, some (.int u0), none, none]) (zLe.sub (And.intro rfl (And.intro rfl (And.intro rfl (And.intro rfl (And.intro rfl (And.intro rfl True.intro))))))) (HJ363 y1 y2 y8 y11 u0 v263_ G261_ k264_ F266_ _ _ _ (lk_weak hk275_ (c' := 622) (Nat.le_of_ble_eq_true rfl) (Nat.le_refl _)) h)
              · have h := h.2 c279_
                refine z_aload_n O dL_follows_331 rfl rfl ?_
                refine z_bipush (v := 9) O dL_follows_332 (by decide) ?_
                have hk281_ := lk_step 1 624 hk275_ (Nat.le_of_ble_eq_true rfl)
                refine z_callHl (As := [.ref b0, .int 9]) (st := []) O (s_LAW_about hfl k264_ h) wh_L_about wl_RL_110 dL_follows_334 rfl rfl ⟨Nat.le_of_ble_eq_true rfl, Nat.le_of_ble_eq_true rfl⟩ (Nat.le_of_ble_eq_true rfl) ⟨lk_k hk281_, lk_n hk281_⟩ (fun r280_ z282_ G283_ hq284_ => ?_)
                obtain ⟨rfl, h⟩ := hq284_
                refine z_aload_n O dL_follows_337 rfl rfl ?_
                refine z_bipush (v := 10) O dL_follows_338 (by decide) ?_
                have hk286_ := lk_step 1 623 hk281_ (Nat.le_of_ble_eq_true rfl)
                refine z_callHl (As := [.ref b0, .int 10]) (st := [.long r280_]) O (s_LAW_about hfl k264_ h) wh_L_about wl_RL_110 dL_follows_340 rfl rfl ⟨Nat.le_of_ble_eq_true rfl, Nat.le_of_ble_eq_true rfl⟩ (Nat.le_of_ble_eq_true rfl) ⟨lk_k hk286_, lk_n hk286_⟩ (fun r285_ z287_ G288_ hq289_ => ?_)
                obtain ⟨rfl, h⟩ := hq289_
                refine z_ladd O dL_follows_343 ?_
                refine z_lload O dL_follows_344 rfl ?_
                refine z_lcmp O dL_follows_346 ?_
                refine z_if_le (tgt := 363) O dL_follows_347 (by decide) (fun c290_ => ?_) (fun c290_ => ?_)
                · have h := h.1 c290_
                  exact z_subL (L' := [some (.ref b0), some (.int y1), some (.long y2), none, none, none, none, none, some (.int y8), none, none, some (.long y11), none, some (.int u0), none, none]) (zLe.sub (And.intro rfl (And.intro rfl (And.intro rfl (And.intro rfl (And.intro rfl (And.intro rfl True.intro))))))) (HJ363 y1 y2 y8 y11 u0 v263_ G261_ k264_ F266_ _ _ _ (lk_weak hk286_ (c' := 622) (Nat.le_of_ble_eq_true rfl) (Nat.le_refl _)) h)
                · have h := h.2 c290_
                  refine z_aload_n O dL_follows_350 rfl rfl ?_
                  have hk292_ := lk_step 1 622 hk286_ (Nat.le_of_ble_eq_true rfl)
                  refine z_callHl (As := [.ref b0]) (st := []) O (s_LAW_undo hfl k264_ h) wh_L_undo wl_RL_187 dL_follows_351 rfl rfl ⟨Nat.le_of_ble_eq_true rfl, Nat.le_of_ble_eq_true rfl⟩ (Nat.le_of_ble_eq_true rfl) ⟨lk_k hk292_, lk_n hk292_⟩ (fun r291_ z293_ G294_ hq295_ => ?_)
                  obtain ⟨v296_, k297_, f298_, h⟩ := hq295_
                  have F299_ : Fr b0 475 G G294_ := Fr.trans F266_ f298_
                  refine z_lconst (v := 0) O dL_follows_354 (by decide) ?_
                  refine z_lcmp O dL_follows_355 ?_
                  refine z_if_lt (tgt := 363) O dL_follows_356 (by decide) (fun c300_ => ?_) (fun c300_ => ?_)
                  · have h := h.1 c300_
                    exact z_subL (L' := [some (.ref b0), some (.int y1), some (.long y2), none, none, none, none, none, some (.int y8), none, none, some (.long y11), none, some (.int u0), none, none]) (zLe.sub (And.intro rfl (And.intro rfl (And.intro rfl (And.intro rfl (And.intro rfl (And.intro rfl True.intro))))))) (HJ363 y1 y2 y8 y11 u0 v296_ G294_ k297_ F299_ _ _ _ (lk_weak hk292_ (c' := 622) (Nat.le_of_ble_eq_true rfl) (Nat.le_refl _)) h)
                  · have h := h.2 c300_
                    refine z_iconst (v := 1) O dL_follows_359 (by decide) ?_
                    refine z_goto (tgt := 364) O dL_follows_360 (by decide) ?_
                    exact z_subL (L' := [some (.ref b0), some (.int y1), some (.long y2), none, none, none, none, none, some (.int y8), none, none, some (.long y11), none, some (.int u0), none, none]) (zLe.sub (And.intro rfl (And.intro rfl (And.intro rfl (And.intro rfl (And.intro rfl (And.intro rfl True.intro))))))) (HJ364 y1 y2 y8 y11 u0 1 v296_ G294_ k297_ F299_ _ _ _ (lk_weak hk292_ (c' := 622) (Nat.le_of_ble_eq_true rfl) (Nat.le_refl _)) h)
  have HJ196 : ∀     (y1 : Int32) (y2 : Int64) (y4 : Int32) (v0 : TT) (G9 : zG) (g0 : TA b0 v0 G9) (gF : Fr b0 475 G G9) (z9 k9 m9 : Nat) (hk : k9 + (634 + 0) ≤ 1048 ∧ m9 + 6 * (634 + 0) ≤ 6288) (h : PJ_LAW_follows_196 x1 y1 y2 y4 v0 Q), zT p l e (zrm 9 240 1048 6288) s m args below meth c (zEnd below D B (zRi fun r z' G' => ∃ w, TA b0 w G' ∧ Fr b0 475 G G' ∧ Q r w) args s 1048 6288) D B 16 k9 m9 196 [] [some (.ref b0), some (.int y1), some (.long y2), none, some (.int y4), none, none, none, none, none, none, none, none, none, none, none] z9 G9 := by
    intro  y1 y2 y4 v0 G9 g0 gF z9 k9 m9 hk h
    unfold PJ_LAW_follows_196 at h
    refine z_iload_n O dL_follows_196 rfl rfl ?_
    refine z_bipush (v := 8) O dL_follows_197 (by decide) ?_
    refine z_irem O dL_follows_199 (by decide) ?_
    refine z_istore (L' := [some (.ref b0), some (.int y1), some (.long y2), none, some (.int y4), none, none, none, some (.int (zrem y1 8)), none, none, none, none, none, none, none]) O dL_follows_200 (by decide) rfl ?_
    refine z_aload_n O dL_follows_202 rfl rfl ?_
    refine z_iload O dL_follows_203 rfl ?_
    refine z_iconst (v := 0) O dL_follows_205 (by decide) ?_
    have hk37_ := lk_step 1 633 hk (Nat.le_of_ble_eq_true rfl)
    refine z_callHl (As := [.ref b0, .int (zrem y1 8), .int 0]) (st := []) O (s_LAW_readerOf hfl g0 h) wh_L_readerOf wl_RL_121 dL_follows_206 rfl rfl ⟨Nat.le_of_ble_eq_true rfl, Nat.le_of_ble_eq_true rfl⟩ (Nat.le_of_ble_eq_true rfl) ⟨lk_k hk37_, lk_n hk37_⟩ (fun r36_ z38_ G39_ hq40_ => ?_)
    obtain ⟨rfl, h⟩ := hq40_
    refine z_ldc2 (v := (-9000000000000000001)) O wc_RL_36 dL_follows_209 ?_
    refine z_lcmp O dL_follows_212 ?_
    refine z_if_eq (tgt := 437) O dL_follows_213 (by decide) (fun c41_ => ?_) (fun c41_ => ?_)
    · have h := h.1 c41_
      exact z_subL (L' := [some (.ref b0), some (.int y1), some (.long y2), none, some (.int y4), none, none, none, none, none, none, none, none, none, none, none]) (zLe.sub (And.intro rfl (And.intro rfl (And.intro rfl (And.intro rfl True.intro))))) (HJ437 y1 y2 y4 v0 G9 g0 gF _ _ _ (lk_weak hk37_ (c' := 416) (Nat.le_of_ble_eq_true rfl) (Nat.le_refl _)) h)
    · have h := h.2 c41_
      refine z_iload O dL_follows_216 rfl ?_
      refine z_if_eq (tgt := 437) O dL_follows_218 (by decide) (fun c172_ => ?_) (fun c172_ => ?_)
      · have h := h.1 c172_
        exact z_subL (L' := [some (.ref b0), some (.int y1), some (.long y2), none, some (.int y4), none, none, none, none, none, none, none, none, none, none, none]) (zLe.sub (And.intro rfl (And.intro rfl (And.intro rfl (And.intro rfl True.intro))))) (HJ437 y1 y2 y4 v0 G9 g0 gF _ _ _ (lk_weak hk37_ (c' := 416) (Nat.le_of_ble_eq_true rfl) (Nat.le_refl _)) h)
      · have h := h.2 c172_
        refine z_aload_n O dL_follows_221 rfl rfl ?_
        refine z_iload O dL_follows_222 rfl ?_
        have hk174_ := lk_step 1 632 hk37_ (Nat.le_of_ble_eq_true rfl)
        refine z_callHl (As := [.ref b0, .int (zrem y1 8)]) (st := []) O (s_LAW_lostIn hfl g0 h) wh_L_lostIn wl_RL_151 dL_follows_224 rfl rfl ⟨Nat.le_of_ble_eq_true rfl, Nat.le_of_ble_eq_true rfl⟩ (Nat.le_of_ble_eq_true rfl) ⟨lk_k hk174_, lk_n hk174_⟩ (fun r173_ z175_ G176_ hq177_ => ?_)
        obtain ⟨v178_, k179_, f180_, h⟩ := hq177_
        have F181_ : Fr b0 475 G G176_ := Fr.trans gF f180_
        refine z_lstore (L' := [some (.ref b0), some (.int y1), some (.long y2), none, some (.int y4), none, none, none, some (.int (zrem y1 8)), some (.long r173_), none, none, none, none, none, none]) O dL_follows_227 (by decide) rfl ?_
        refine z_aload_n O dL_follows_229 rfl rfl ?_
        refine z_iload O dL_follows_230 rfl ?_
        have hk183_ := lk_step 1 631 hk174_ (Nat.le_of_ble_eq_true rfl)
        refine z_callHl (As := [.ref b0, .int (zrem y1 8)]) (st := []) O (s_LAW_ifFree hfl k179_ h) wh_L_ifFree wl_RL_153 dL_follows_232 rfl rfl ⟨Nat.le_of_ble_eq_true rfl, Nat.le_of_ble_eq_true rfl⟩ (Nat.le_of_ble_eq_true rfl) ⟨lk_k hk183_, lk_n hk183_⟩ (fun r182_ z184_ G185_ hq186_ => ?_)
        obtain ⟨v187_, k188_, f189_, h⟩ := hq186_
        have F190_ : Fr b0 475 G G185_ := Fr.trans F181_ f189_
        refine z_lstore (L' := [some (.ref b0), some (.int y1), some (.long y2), none, some (.int y4), none, none, none, some (.int (zrem y1 8)), some (.long r173_), none, some (.long r182_), none, none, none, none]) O dL_follows_235 (by decide) rfl ?_
        refine z_aload_n O dL_follows_237 rfl rfl ?_
        refine z_iload O dL_follows_238 rfl ?_
        refine z_iconst (v := 1) O dL_follows_240 (by decide) ?_
        have hk192_ := lk_step 1 630 hk183_ (Nat.le_of_ble_eq_true rfl)
        refine z_callHl (As := [.ref b0, .int (zrem y1 8), .int 1]) (st := []) O (s_LAW_readerOf hfl k188_ h) wh_L_readerOf wl_RL_121 dL_follows_241 rfl rfl ⟨Nat.le_of_ble_eq_true rfl, Nat.le_of_ble_eq_true rfl⟩ (Nat.le_of_ble_eq_true rfl) ⟨lk_k hk192_, lk_n hk192_⟩ (fun r191_ z193_ G194_ hq195_ => ?_)
        obtain ⟨rfl, h⟩ := hq195_
        refine z_lconst (v := 1) O dL_follows_244 (by decide) ?_
        refine z_lcmp O dL_follows_245 ?_
        refine z_if_ne (tgt := 253) O dL_follows_246 (by decide) (fun c196_ => ?_) (fun c196_ => ?_)
        · have h := h.1 c196_
          refine z_iconst (v := 0) O dL_follows_253 (by decide) ?_
          exact z_subL (L' := [some (.ref b0), some (.int y1), some (.long y2), none, some (.int y4), none, none, none, some (.int (zrem y1 8)), some (.long r173_), none, some (.long r182_), none, none, none, none]) (zLe.sub (And.intro rfl (And.intro rfl (And.intro rfl (And.intro rfl (And.intro rfl (And.intro rfl (And.intro rfl True.intro)))))))) (HJ254 y1 y2 y4 (zrem y1 8) r173_ r182_ 0 v187_ G185_ k188_ F190_ _ _ _ (lk_weak hk192_ (c' := 630) (Nat.le_of_ble_eq_true rfl) (Nat.le_refl _)) h)
        · have h := h.2 c196_
          refine z_iconst (v := 1) O dL_follows_249 (by decide) ?_
          refine z_goto (tgt := 254) O dL_follows_250 (by decide) ?_
          exact z_subL (L' := [some (.ref b0), some (.int y1), some (.long y2), none, some (.int y4), none, none, none, some (.int (zrem y1 8)), some (.long r173_), none, some (.long r182_), none, none, none, none]) (zLe.sub (And.intro rfl (And.intro rfl (And.intro rfl (And.intro rfl (And.intro rfl (And.intro rfl (And.intro rfl True.intro)))))))) (HJ254 y1 y2 y4 (zrem y1 8) r173_ r182_ 1 v187_ G185_ k188_ F190_ _ _ _ (lk_weak hk192_ (c' := 630) (Nat.le_of_ble_eq_true rfl) (Nat.le_refl _)) h)
  have HJ194 : ∀     (y1 : Int32) (y2 : Int64) (u0 : Int32) (v0 : TT) (G9 : zG) (g0 : TA b0 v0 G9) (gF : Fr b0 475 G G9) (z9 k9 m9 : Nat) (hk : k9 + (634 + 0) ≤ 1048 ∧ m9 + 6 * (634 + 0) ≤ 6288) (h : PJ_LAW_follows_194 x1 y1 y2 u0 v0 Q), zT p l e (zrm 9 240 1048 6288) s m args below meth c (zEnd below D B (zRi fun r z' G' => ∃ w, TA b0 w G' ∧ Fr b0 475 G G' ∧ Q r w) args s 1048 6288) D B 16 k9 m9 194 [.int u0] [some (.ref b0), some (.int y1), some (.long y2), none, none, none, none, none, none, none, none, none, none, none, none, none] z9 G9 := by
    intro  y1 y2 u0 v0 G9 g0 gF z9 k9 m9 hk h
    unfold PJ_LAW_follows_194 at h
    refine z_istore (L' := [some (.ref b0), some (.int y1), some (.long y2), none, some (.int u0), none, none, none, none, none, none, none, none, none, none, none]) O dL_follows_194 (by decide) rfl ?_
    exact z_subL (L' := [some (.ref b0), some (.int y1), some (.long y2), none, some (.int u0), none, none, none, none, none, none, none, none, none, none, none]) (zLe.sub (And.intro rfl (And.intro rfl (And.intro rfl (And.intro rfl True.intro))))) (HJ196 y1 y2 u0 v0 G9 g0 gF _ _ _ (lk_weak hk (c' := 634) (Nat.le_of_ble_eq_true rfl) (Nat.le_refl _)) h)
  have HJ193 : ∀     (y1 : Int32) (y2 : Int64) (v0 : TT) (G9 : zG) (g0 : TA b0 v0 G9) (gF : Fr b0 475 G G9) (z9 k9 m9 : Nat) (hk : k9 + (634 + 0) ≤ 1048 ∧ m9 + 6 * (634 + 0) ≤ 6288) (h : PJ_LAW_follows_193 x1 y1 y2 v0 Q), zT p l e (zrm 9 240 1048 6288) s m args below meth c (zEnd below D B (zRi fun r z' G' => ∃ w, TA b0 w G' ∧ Fr b0 475 G G' ∧ Q r w) args s 1048 6288) D B 16 k9 m9 193 [] [some (.ref b0), some (.int y1), some (.long y2), none, none, none, none, none, none, none, none, none, none, none, none, none] z9 G9 := by
    intro  y1 y2 v0 G9 g0 gF z9 k9 m9 hk h
    unfold PJ_LAW_follows_193 at h
    refine z_iconst (v := 0) O dL_follows_193 (by decide) ?_
    exact z_subL (L' := [some (.ref b0), some (.int y1), some (.long y2), none, none, none, none, none, none, none, none, none, none, none, none, none]) (zLe.sub (And.intro rfl (And.intro rfl (And.intro rfl True.intro)))) (HJ194 y1 y2 0 v0 G9 g0 gF _ _ _ (lk_weak hk (c' := 634) (Nat.le_of_ble_eq_true rfl) (Nat.le_refl _)) h)
  have HJ158 : ∀     (y1 : Int32) (y2 : Int64) (y4 : Int32) (y5 : Int32) (v0 : TT) (G9 : zG) (g0 : TA b0 v0 G9) (gF : Fr b0 475 G G9) (z9 k9 m9 : Nat) (hk : k9 + (636 + 0) ≤ 1048 ∧ m9 + 6 * (636 + 0) ≤ 6288) (h : PJ_LAW_follows_158 x1 y1 y2 y4 y5 v0 Q), zT p l e (zrm 9 240 1048 6288) s m args below meth c (zEnd below D B (zRi fun r z' G' => ∃ w, TA b0 w G' ∧ Fr b0 475 G G' ∧ Q r w) args s 1048 6288) D B 16 k9 m9 158 [] [some (.ref b0), some (.int y1), some (.long y2), none, some (.int y4), some (.int y5), none, none, none, none, none, none, none, none, none, none] z9 G9 := by
    intro  y1 y2 y4 y5 v0 G9 g0 gF z9 k9 m9 hk h
    unfold PJ_LAW_follows_158 at h
    refine z_iload O dL_follows_158 rfl ?_
    refine z_iconst (v := (-1)) O dL_follows_160 (by decide) ?_
    refine z_icmp_ne (tgt := 196) O dL_follows_161 (by decide) (fun c35_ => ?_) (fun c35_ => ?_)
    · have h := h.1 c35_
      exact z_subL (L' := [some (.ref b0), some (.int y1), some (.long y2), none, some (.int y4), none, none, none, none, none, none, none, none, none, none, none]) (zLe.sub (And.intro rfl (And.intro rfl (And.intro rfl (And.intro rfl True.intro))))) (HJ196 y1 y2 y4 v0 G9 g0 gF _ _ _ (lk_weak hk (c' := 634) (Nat.le_of_ble_eq_true rfl) (Nat.le_refl _)) h)
    · have h := h.2 c35_
      refine z_iload O dL_follows_164 rfl ?_
      refine z_if_eq (tgt := 196) O dL_follows_166 (by decide) (fun c301_ => ?_) (fun c301_ => ?_)
      · have h := h.1 c301_
        exact z_subL (L' := [some (.ref b0), some (.int y1), some (.long y2), none, some (.int y4), none, none, none, none, none, none, none, none, none, none, none]) (zLe.sub (And.intro rfl (And.intro rfl (And.intro rfl (And.intro rfl True.intro))))) (HJ196 y1 y2 y4 v0 G9 g0 gF _ _ _ (lk_weak hk (c' := 634) (Nat.le_of_ble_eq_true rfl) (Nat.le_refl _)) h)
      · have h := h.2 c301_
        refine z_aload_n O dL_follows_169 rfl rfl ?_
        refine z_bipush (v := 99) O dL_follows_170 (by decide) ?_
        have hk303_ := lk_step 1 635 hk (Nat.le_of_ble_eq_true rfl)
        refine z_callHl (As := [.ref b0, .int 99]) (st := []) O (s_LAW_ticks hfl g0 h) wh_L_ticks wl_RL_155 dL_follows_172 rfl rfl ⟨Nat.le_of_ble_eq_true rfl, Nat.le_of_ble_eq_true rfl⟩ (Nat.le_of_ble_eq_true rfl) ⟨lk_k hk303_, lk_n hk303_⟩ (fun r302_ z304_ G305_ hq306_ => ?_)
        obtain ⟨v307_, k308_, f309_, h⟩ := hq306_
        have F310_ : Fr b0 475 G G305_ := Fr.trans gF f309_
        refine z_lconst (v := 0) O dL_follows_175 (by decide) ?_
        refine z_lcmp O dL_follows_176 ?_
        refine z_if_ne (tgt := 193) O dL_follows_177 (by decide) (fun c311_ => ?_) (fun c311_ => ?_)
        · have h := h.1 c311_
          exact z_subL (L' := [some (.ref b0), some (.int y1), some (.long y2), none, none, none, none, none, none, none, none, none, none, none, none, none]) (zLe.sub (And.intro rfl (And.intro rfl (And.intro rfl True.intro)))) (HJ193 y1 y2 v307_ G305_ k308_ F310_ _ _ _ (lk_weak hk303_ (c' := 634) (Nat.le_of_ble_eq_true rfl) (Nat.le_refl _)) h)
        · have h := h.2 c311_
          refine z_aload_n O dL_follows_180 rfl rfl ?_
          have hk313_ := lk_step 1 634 hk303_ (Nat.le_of_ble_eq_true rfl)
          refine z_callHl (As := [.ref b0]) (st := []) O (s_LAW_undo hfl k308_ h) wh_L_undo wl_RL_187 dL_follows_181 rfl rfl ⟨Nat.le_of_ble_eq_true rfl, Nat.le_of_ble_eq_true rfl⟩ (Nat.le_of_ble_eq_true rfl) ⟨lk_k hk313_, lk_n hk313_⟩ (fun r312_ z314_ G315_ hq316_ => ?_)
          obtain ⟨v317_, k318_, f319_, h⟩ := hq316_
          have F320_ : Fr b0 475 G G315_ := Fr.trans F310_ f319_
          refine z_lconst (v := 0) O dL_follows_184 (by decide) ?_
          refine z_lcmp O dL_follows_185 ?_
          refine z_if_lt (tgt := 193) O dL_follows_186 (by decide) (fun c321_ => ?_) (fun c321_ => ?_)
          · have h := h.1 c321_
            exact z_subL (L' := [some (.ref b0), some (.int y1), some (.long y2), none, none, none, none, none, none, none, none, none, none, none, none, none]) (zLe.sub (And.intro rfl (And.intro rfl (And.intro rfl True.intro)))) (HJ193 y1 y2 v317_ G315_ k318_ F320_ _ _ _ (lk_weak hk313_ (c' := 634) (Nat.le_of_ble_eq_true rfl) (Nat.le_refl _)) h)
          · have h := h.2 c321_
            refine z_iconst (v := 1) O dL_follows_189 (by decide) ?_
            refine z_goto (tgt := 194) O dL_follows_190 (by decide) ?_
            exact z_subL (L' := [some (.ref b0), some (.int y1), some (.long y2), none, none, none, none, none, none, none, none, none, none, none, none, none]) (zLe.sub (And.intro rfl (And.intro rfl (And.intro rfl True.intro)))) (HJ194 y1 y2 1 v317_ G315_ k318_ F320_ _ _ _ (lk_weak hk313_ (c' := 634) (Nat.le_of_ble_eq_true rfl) (Nat.le_refl _)) h)
  have HJ153 : ∀     (y1 : Int32) (y2 : Int64) (u0 : Int32) (v0 : TT) (G9 : zG) (g0 : TA b0 v0 G9) (gF : Fr b0 475 G G9) (z9 k9 m9 : Nat) (hk : k9 + (634 + 0) ≤ 1048 ∧ m9 + 6 * (634 + 0) ≤ 6288) (h : PJ_LAW_follows_153 x1 y1 y2 u0 v0 Q), zT p l e (zrm 9 240 1048 6288) s m args below meth c (zEnd below D B (zRi fun r z' G' => ∃ w, TA b0 w G' ∧ Fr b0 475 G G' ∧ Q r w) args s 1048 6288) D B 16 k9 m9 153 [.int u0] [some (.ref b0), some (.int y1), some (.long y2), none, none, none, none, none, none, none, none, none, none, none, none, none] z9 G9 := by
    intro  y1 y2 u0 v0 G9 g0 gF z9 k9 m9 hk h
    unfold PJ_LAW_follows_153 at h
    refine z_istore (L' := [some (.ref b0), some (.int y1), some (.long y2), none, some (.int u0), none, none, none, none, none, none, none, none, none, none, none]) O dL_follows_153 (by decide) rfl ?_
    refine z_goto (tgt := 196) O dL_follows_155 (by decide) ?_
    exact z_subL (L' := [some (.ref b0), some (.int y1), some (.long y2), none, some (.int u0), none, none, none, none, none, none, none, none, none, none, none]) (zLe.sub (And.intro rfl (And.intro rfl (And.intro rfl (And.intro rfl True.intro))))) (HJ196 y1 y2 u0 v0 G9 g0 gF _ _ _ (lk_weak hk (c' := 634) (Nat.le_of_ble_eq_true rfl) (Nat.le_refl _)) h)
  have HJ152 : ∀     (y1 : Int32) (y2 : Int64) (v0 : TT) (G9 : zG) (g0 : TA b0 v0 G9) (gF : Fr b0 475 G G9) (z9 k9 m9 : Nat) (hk : k9 + (634 + 0) ≤ 1048 ∧ m9 + 6 * (634 + 0) ≤ 6288) (h : PJ_LAW_follows_152 x1 y1 y2 v0 Q), zT p l e (zrm 9 240 1048 6288) s m args below meth c (zEnd below D B (zRi fun r z' G' => ∃ w, TA b0 w G' ∧ Fr b0 475 G G' ∧ Q r w) args s 1048 6288) D B 16 k9 m9 152 [] [some (.ref b0), some (.int y1), some (.long y2), none, none, none, none, none, none, none, none, none, none, none, none, none] z9 G9 := by
    intro  y1 y2 v0 G9 g0 gF z9 k9 m9 hk h
    unfold PJ_LAW_follows_152 at h
    refine z_iconst (v := 0) O dL_follows_152 (by decide) ?_
    exact z_subL (L' := [some (.ref b0), some (.int y1), some (.long y2), none, none, none, none, none, none, none, none, none, none, none, none, none]) (zLe.sub (And.intro rfl (And.intro rfl (And.intro rfl True.intro)))) (HJ153 y1 y2 0 v0 G9 g0 gF _ _ _ (lk_weak hk (c' := 634) (Nat.le_of_ble_eq_true rfl) (Nat.le_refl _)) h)
  have HJ148 : ∀     (y1 : Int32) (y2 : Int64) (v0 : TT) (G9 : zG) (g0 : TA b0 v0 G9) (gF : Fr b0 475 G G9) (z9 k9 m9 : Nat) (hk : k9 + (634 + 0) ≤ 1048 ∧ m9 + 6 * (634 + 0) ≤ 6288) (h : PJ_LAW_follows_148 x1 y1 y2 v0 Q), zT p l e (zrm 9 240 1048 6288) s m args below meth c (zEnd below D B (zRi fun r z' G' => ∃ w, TA b0 w G' ∧ Fr b0 475 G G' ∧ Q r w) args s 1048 6288) D B 16 k9 m9 148 [] [some (.ref b0), some (.int y1), some (.long y2), none, none, none, none, none, none, none, none, none, none, none, none, none] z9 G9 := by
    intro  y1 y2 v0 G9 g0 gF z9 k9 m9 hk h
    unfold PJ_LAW_follows_148 at h
    refine z_iconst (v := 1) O dL_follows_148 (by decide) ?_
    refine z_goto (tgt := 153) O dL_follows_149 (by decide) ?_
    exact z_subL (L' := [some (.ref b0), some (.int y1), some (.long y2), none, none, none, none, none, none, none, none, none, none, none, none, none]) (zLe.sub (And.intro rfl (And.intro rfl (And.intro rfl True.intro)))) (HJ153 y1 y2 1 v0 G9 g0 gF _ _ _ (lk_weak hk (c' := 634) (Nat.le_of_ble_eq_true rfl) (Nat.le_refl _)) h)
  have HJ54 : ∀     (y1 : Int32) (y2 : Int64) (u0 : Int32) (v0 : TT) (G9 : zG) (g0 : TA b0 v0 G9) (gF : Fr b0 475 G G9) (z9 k9 m9 : Nat) (hk : k9 + (640 + 0) ≤ 1048 ∧ m9 + 6 * (640 + 0) ≤ 6288) (h : PJ_LAW_follows_54 x1 y1 y2 u0 v0 Q), zT p l e (zrm 9 240 1048 6288) s m args below meth c (zEnd below D B (zRi fun r z' G' => ∃ w, TA b0 w G' ∧ Fr b0 475 G G' ∧ Q r w) args s 1048 6288) D B 16 k9 m9 54 [.int u0] [some (.ref b0), some (.int y1), some (.long y2), none, none, none, none, none, none, none, none, none, none, none, none, none] z9 G9 := by
    intro  y1 y2 u0 v0 G9 g0 gF z9 k9 m9 hk h
    unfold PJ_LAW_follows_54 at h
    refine z_istore (L' := [some (.ref b0), some (.int y1), some (.long y2), none, some (.int u0), none, none, none, none, none, none, none, none, none, none, none]) O dL_follows_54 (by decide) rfl ?_
    refine z_aload_n O dL_follows_56 rfl rfl ?_
    refine z_callVi (As := []) (st := []) O (s_T_droppedIn hfl g0 h) wy_X5_droppedIn wl_RL_184 dL_follows_57 rfl rfl (T_obj g0) ⟨by decide, rfl⟩ ⟨Nat.le_of_ble_eq_true rfl, Nat.le_of_ble_eq_true rfl⟩ (Nat.le_of_ble_eq_true rfl) ⟨lk_k hk, lk_n hk⟩ (fun r21_ z22_ G23_ hq24_ => ?_)
    obtain ⟨rfl, v25_, k26_, f27_, h⟩ := hq24_
    have F28_ : Fr b0 475 G G23_ := Fr.trans gF f27_
    refine z_istore (L' := [some (.ref b0), some (.int y1), some (.long y2), none, some (.int u0), some (.int r21_), none, none, none, none, none, none, none, none, none, none]) O dL_follows_60 (by decide) rfl ?_
    refine z_aload_n O dL_follows_62 rfl rfl ?_
    refine z_bipush (v := 8) O dL_follows_63 (by decide) ?_
    have hk30_ := lk_step 1 639 hk (Nat.le_of_ble_eq_true rfl)
    refine z_callHl (As := [.ref b0, .int 8]) (st := []) O (s_LAW_about hfl k26_ h) wh_L_about wl_RL_110 dL_follows_65 rfl rfl ⟨Nat.le_of_ble_eq_true rfl, Nat.le_of_ble_eq_true rfl⟩ (Nat.le_of_ble_eq_true rfl) ⟨lk_k hk30_, lk_n hk30_⟩ (fun r29_ z31_ G32_ hq33_ => ?_)
    obtain ⟨rfl, h⟩ := hq33_
    refine z_lstore (L' := [some (.ref b0), some (.int y1), some (.long y2), none, some (.int u0), some (.int r21_), some (.long r29_), none, none, none, none, none, none, none, none, none]) O dL_follows_68 (by decide) rfl ?_
    refine z_iload O dL_follows_70 rfl ?_
    refine z_iconst (v := (-1)) O dL_follows_72 (by decide) ?_
    refine z_icmp_eq (tgt := 158) O dL_follows_73 (by decide) (fun c34_ => ?_) (fun c34_ => ?_)
    · have h := h.1 c34_
      exact z_subL (L' := [some (.ref b0), some (.int y1), some (.long y2), none, some (.int u0), some (.int r21_), none, none, none, none, none, none, none, none, none, none]) (zLe.sub (And.intro rfl (And.intro rfl (And.intro rfl (And.intro rfl (And.intro rfl True.intro)))))) (HJ158 y1 y2 u0 r21_ v25_ G23_ k26_ F28_ _ _ _ (lk_weak hk30_ (c' := 636) (Nat.le_of_ble_eq_true rfl) (Nat.le_refl _)) h)
    · have h := h.2 c34_
      refine z_iload O dL_follows_76 rfl ?_
      refine z_bipush (v := 100) O dL_follows_78 (by decide) ?_
      refine z_icmp_ge (tgt := 158) O dL_follows_80 (by decide) (fun c322_ => ?_) (fun c322_ => ?_)
      · have h := h.1 c322_
        exact z_subL (L' := [some (.ref b0), some (.int y1), some (.long y2), none, some (.int u0), some (.int r21_), none, none, none, none, none, none, none, none, none, none]) (zLe.sub (And.intro rfl (And.intro rfl (And.intro rfl (And.intro rfl (And.intro rfl True.intro)))))) (HJ158 y1 y2 u0 r21_ v25_ G23_ k26_ F28_ _ _ _ (lk_weak hk30_ (c' := 636) (Nat.le_of_ble_eq_true rfl) (Nat.le_refl _)) h)
      · have h := h.2 c322_
        refine z_iload O dL_follows_83 rfl ?_
        refine z_if_eq (tgt := 158) O dL_follows_85 (by decide) (fun c323_ => ?_) (fun c323_ => ?_)
        · have h := h.1 c323_
          exact z_subL (L' := [some (.ref b0), some (.int y1), some (.long y2), none, some (.int u0), some (.int r21_), none, none, none, none, none, none, none, none, none, none]) (zLe.sub (And.intro rfl (And.intro rfl (And.intro rfl (And.intro rfl (And.intro rfl True.intro)))))) (HJ158 y1 y2 u0 r21_ v25_ G23_ k26_ F28_ _ _ _ (lk_weak hk30_ (c' := 636) (Nat.le_of_ble_eq_true rfl) (Nat.le_refl _)) h)
        · have h := h.2 c323_
          refine z_aload_n O dL_follows_88 rfl rfl ?_
          refine z_iload O dL_follows_89 rfl ?_
          have hk325_ := lk_step 1 638 hk30_ (Nat.le_of_ble_eq_true rfl)
          refine z_callHl (As := [.ref b0, .int r21_]) (st := []) O (s_LAW_ticks hfl k26_ h) wh_L_ticks wl_RL_155 dL_follows_91 rfl rfl ⟨Nat.le_of_ble_eq_true rfl, Nat.le_of_ble_eq_true rfl⟩ (Nat.le_of_ble_eq_true rfl) ⟨lk_k hk325_, lk_n hk325_⟩ (fun r324_ z326_ G327_ hq328_ => ?_)
          obtain ⟨v329_, k330_, f331_, h⟩ := hq328_
          have F332_ : Fr b0 475 G G327_ := Fr.trans F28_ f331_
          refine z_lconst (v := 0) O dL_follows_94 (by decide) ?_
          refine z_lcmp O dL_follows_95 ?_
          refine z_if_le (tgt := 152) O dL_follows_96 (by decide) (fun c333_ => ?_) (fun c333_ => ?_)
          · have h := h.1 c333_
            exact z_subL (L' := [some (.ref b0), some (.int y1), some (.long y2), none, none, none, none, none, none, none, none, none, none, none, none, none]) (zLe.sub (And.intro rfl (And.intro rfl (And.intro rfl True.intro)))) (HJ152 y1 y2 v329_ G327_ k330_ F332_ _ _ _ (lk_weak hk325_ (c' := 634) (Nat.le_of_ble_eq_true rfl) (Nat.le_refl _)) h)
          · have h := h.2 c333_
            refine z_aload_n O dL_follows_99 rfl rfl ?_
            refine z_bipush (v := 8) O dL_follows_100 (by decide) ?_
            have hk335_ := lk_step 1 637 hk325_ (Nat.le_of_ble_eq_true rfl)
            refine z_callHl (As := [.ref b0, .int 8]) (st := []) O (s_LAW_about hfl k330_ h) wh_L_about wl_RL_110 dL_follows_102 rfl rfl ⟨Nat.le_of_ble_eq_true rfl, Nat.le_of_ble_eq_true rfl⟩ (Nat.le_of_ble_eq_true rfl) ⟨lk_k hk335_, lk_n hk335_⟩ (fun r334_ z336_ G337_ hq338_ => ?_)
            obtain ⟨rfl, h⟩ := hq338_
            refine z_lload O dL_follows_105 rfl ?_
            refine z_lcmp O dL_follows_107 ?_
            refine z_if_le (tgt := 152) O dL_follows_108 (by decide) (fun c339_ => ?_) (fun c339_ => ?_)
            · have h := h.1 c339_
              exact z_subL (L' := [some (.ref b0), some (.int y1), some (.long y2), none, none, none, none, none, none, none, none, none, none, none, none, none]) (zLe.sub (And.intro rfl (And.intro rfl (And.intro rfl True.intro)))) (HJ152 y1 y2 v329_ G327_ k330_ F332_ _ _ _ (lk_weak hk335_ (c' := 634) (Nat.le_of_ble_eq_true rfl) (Nat.le_refl _)) h)
            · have h := h.2 c339_
              refine z_aload_n O dL_follows_111 rfl rfl ?_
              have hk341_ := lk_step 1 636 hk335_ (Nat.le_of_ble_eq_true rfl)
              refine z_callHl (As := [.ref b0]) (st := []) O (s_LAW_undo hfl k330_ h) wh_L_undo wl_RL_187 dL_follows_112 rfl rfl ⟨Nat.le_of_ble_eq_true rfl, Nat.le_of_ble_eq_true rfl⟩ (Nat.le_of_ble_eq_true rfl) ⟨lk_k hk341_, lk_n hk341_⟩ (fun r340_ z342_ G343_ hq344_ => ?_)
              obtain ⟨v345_, k346_, f347_, h⟩ := hq344_
              have F348_ : Fr b0 475 G G343_ := Fr.trans F332_ f347_
              refine z_lconst (v := 0) O dL_follows_115 (by decide) ?_
              refine z_lcmp O dL_follows_116 ?_
              refine z_if_lt (tgt := 152) O dL_follows_117 (by decide) (fun c349_ => ?_) (fun c349_ => ?_)
              · have h := h.1 c349_
                exact z_subL (L' := [some (.ref b0), some (.int y1), some (.long y2), none, none, none, none, none, none, none, none, none, none, none, none, none]) (zLe.sub (And.intro rfl (And.intro rfl (And.intro rfl True.intro)))) (HJ152 y1 y2 v345_ G343_ k346_ F348_ _ _ _ (lk_weak hk341_ (c' := 634) (Nat.le_of_ble_eq_true rfl) (Nat.le_refl _)) h)
              · have h := h.2 c349_
                refine z_iload O dL_follows_120 rfl ?_
                refine z_iconst (v := 1) O dL_follows_122 (by decide) ?_
                refine z_icmp_eq (tgt := 148) O dL_follows_123 (by decide) (fun c350_ => ?_) (fun c350_ => ?_)
                · have h := h.1 c350_
                  exact z_subL (L' := [some (.ref b0), some (.int y1), some (.long y2), none, none, none, none, none, none, none, none, none, none, none, none, none]) (zLe.sub (And.intro rfl (And.intro rfl (And.intro rfl True.intro)))) (HJ148 y1 y2 v345_ G343_ k346_ F348_ _ _ _ (lk_weak hk341_ (c' := 634) (Nat.le_of_ble_eq_true rfl) (Nat.le_refl _)) h)
                · have h := h.2 c350_
                  refine z_aload_n O dL_follows_126 rfl rfl ?_
                  refine z_iload O dL_follows_127 rfl ?_
                  refine z_iconst (v := 1) O dL_follows_129 (by decide) ?_
                  refine z_isub O dL_follows_130 ?_
                  have hk352_ := lk_step 1 635 hk341_ (Nat.le_of_ble_eq_true rfl)
                  refine z_callHl (As := [.ref b0, .int (r21_ - 1)]) (st := []) O (s_LAW_ticks hfl k346_ h) wh_L_ticks wl_RL_155 dL_follows_131 rfl rfl ⟨Nat.le_of_ble_eq_true rfl, Nat.le_of_ble_eq_true rfl⟩ (Nat.le_of_ble_eq_true rfl) ⟨lk_k hk352_, lk_n hk352_⟩ (fun r351_ z353_ G354_ hq355_ => ?_)
                  obtain ⟨v356_, k357_, f358_, h⟩ := hq355_
                  have F359_ : Fr b0 475 G G354_ := Fr.trans F348_ f358_
                  refine z_lconst (v := 0) O dL_follows_134 (by decide) ?_
                  refine z_lcmp O dL_follows_135 ?_
                  refine z_if_ne (tgt := 152) O dL_follows_136 (by decide) (fun c360_ => ?_) (fun c360_ => ?_)
                  · have h := h.1 c360_
                    exact z_subL (L' := [some (.ref b0), some (.int y1), some (.long y2), none, none, none, none, none, none, none, none, none, none, none, none, none]) (zLe.sub (And.intro rfl (And.intro rfl (And.intro rfl True.intro)))) (HJ152 y1 y2 v356_ G354_ k357_ F359_ _ _ _ (lk_weak hk352_ (c' := 634) (Nat.le_of_ble_eq_true rfl) (Nat.le_refl _)) h)
                  · have h := h.2 c360_
                    refine z_aload_n O dL_follows_139 rfl rfl ?_
                    have hk362_ := lk_step 1 634 hk352_ (Nat.le_of_ble_eq_true rfl)
                    refine z_callHl (As := [.ref b0]) (st := []) O (s_LAW_undo hfl k357_ h) wh_L_undo wl_RL_187 dL_follows_140 rfl rfl ⟨Nat.le_of_ble_eq_true rfl, Nat.le_of_ble_eq_true rfl⟩ (Nat.le_of_ble_eq_true rfl) ⟨lk_k hk362_, lk_n hk362_⟩ (fun r361_ z363_ G364_ hq365_ => ?_)
                    obtain ⟨v366_, k367_, f368_, h⟩ := hq365_
                    have F369_ : Fr b0 475 G G364_ := Fr.trans F359_ f368_
                    refine z_lconst (v := 0) O dL_follows_143 (by decide) ?_
                    refine z_lcmp O dL_follows_144 ?_
                    refine z_if_lt (tgt := 152) O dL_follows_145 (by decide) (fun c370_ => ?_) (fun c370_ => ?_)
                    · have h := h.1 c370_
                      exact z_subL (L' := [some (.ref b0), some (.int y1), some (.long y2), none, none, none, none, none, none, none, none, none, none, none, none, none]) (zLe.sub (And.intro rfl (And.intro rfl (And.intro rfl True.intro)))) (HJ152 y1 y2 v366_ G364_ k367_ F369_ _ _ _ (lk_weak hk362_ (c' := 634) (Nat.le_of_ble_eq_true rfl) (Nat.le_refl _)) h)
                    · have h := h.2 c370_
                      exact z_subL (L' := [some (.ref b0), some (.int y1), some (.long y2), none, none, none, none, none, none, none, none, none, none, none, none, none]) (zLe.sub (And.intro rfl (And.intro rfl (And.intro rfl True.intro)))) (HJ148 y1 y2 v366_ G364_ k367_ F369_ _ _ _ (lk_weak hk362_ (c' := 634) (Nat.le_of_ble_eq_true rfl) (Nat.le_refl _)) h)
  have HJ53 : ∀     (y1 : Int32) (y2 : Int64) (v0 : TT) (G9 : zG) (g0 : TA b0 v0 G9) (gF : Fr b0 475 G G9) (z9 k9 m9 : Nat) (hk : k9 + (640 + 0) ≤ 1048 ∧ m9 + 6 * (640 + 0) ≤ 6288) (h : PJ_LAW_follows_53 x1 y1 y2 v0 Q), zT p l e (zrm 9 240 1048 6288) s m args below meth c (zEnd below D B (zRi fun r z' G' => ∃ w, TA b0 w G' ∧ Fr b0 475 G G' ∧ Q r w) args s 1048 6288) D B 16 k9 m9 53 [] [some (.ref b0), some (.int y1), some (.long y2), none, none, none, none, none, none, none, none, none, none, none, none, none] z9 G9 := by
    intro  y1 y2 v0 G9 g0 gF z9 k9 m9 hk h
    unfold PJ_LAW_follows_53 at h
    refine z_iconst (v := 0) O dL_follows_53 (by decide) ?_
    exact z_subL (L' := [some (.ref b0), some (.int y1), some (.long y2), none, none, none, none, none, none, none, none, none, none, none, none, none]) (zLe.sub (And.intro rfl (And.intro rfl (And.intro rfl True.intro)))) (HJ54 y1 y2 0 v0 G9 g0 gF _ _ _ (lk_weak hk (c' := 640) (Nat.le_of_ble_eq_true rfl) (Nat.le_refl _)) h)
  refine z_aload_n O dL_follows_0 rfl rfl ?_
  have hk2_ := lk_step 202 846 hk0 (Nat.le_of_ble_eq_true rfl)
  refine z_callSl (As := [.ref b0]) (st := []) O (s_LAW_now hfl h0 h) wy_L_now wl_RL_128 dL_follows_1 rfl rfl ⟨Nat.le_of_ble_eq_true rfl, Nat.le_of_ble_eq_true rfl⟩ (Nat.le_of_ble_eq_true rfl) ⟨lk_k hk2_, lk_n hk2_⟩ (fun r1_ z3_ G4_ hq5_ => ?_)
  obtain ⟨rfl, h⟩ := hq5_
  refine z_lstore_n (L' := [some (.ref b0), some (.int x1), some (.long r1_), none, none, none, none, none, none, none, none, none, none, none, none, none]) O dL_follows_4 rfl (by decide) rfl ?_
  refine z_aload_n O dL_follows_5 rfl rfl ?_
  refine z_iconst (v := 1) O dL_follows_6 (by decide) ?_
  have hk7_ := lk_step 1 845 hk2_ (Nat.le_of_ble_eq_true rfl)
  refine z_callHl (As := [.ref b0, .int 1]) (st := []) O (s_LAW_save hfl h0 h) wh_L_save wl_RL_170 dL_follows_7 rfl rfl ⟨Nat.le_of_ble_eq_true rfl, Nat.le_of_ble_eq_true rfl⟩ (Nat.le_of_ble_eq_true rfl) ⟨lk_k hk7_, lk_n hk7_⟩ (fun r6_ z8_ G9_ hq10_ => ?_)
  obtain ⟨v11_, k12_, f13_, h⟩ := hq10_
  have F14_ : Fr b0 475 G G9_ := Fr.trans Fr.rf f13_
  refine z_aload_n O dL_follows_10 rfl rfl ?_
  refine z_bipush (v := 7) O dL_follows_11 (by decide) ?_
  have hk16_ := lk_step 1 844 hk7_ (Nat.le_of_ble_eq_true rfl)
  refine z_callHl (As := [.ref b0, .int 7]) (st := [.long r6_]) O (s_LAW_about hfl k12_ h) wh_L_about wl_RL_110 dL_follows_13 rfl rfl ⟨Nat.le_of_ble_eq_true rfl, Nat.le_of_ble_eq_true rfl⟩ (Nat.le_of_ble_eq_true rfl) ⟨lk_k hk16_, lk_n hk16_⟩ (fun r15_ z17_ G18_ hq19_ => ?_)
  obtain ⟨rfl, h⟩ := hq19_
  refine z_lcmp O dL_follows_16 ?_
  refine z_if_ne (tgt := 53) O dL_follows_17 (by decide) (fun c20_ => ?_) (fun c20_ => ?_)
  · have h := h.1 c20_
    exact z_subL (L' := [some (.ref b0), some (.int x1), some (.long r1_), none, none, none, none, none, none, none, none, none, none, none, none, none]) (zLe.sub (And.intro rfl (And.intro rfl (And.intro rfl True.intro)))) (HJ53 x1 r1_ v11_ G9_ k12_ F14_ _ _ _ (lk_weak hk16_ (c' := 640) (Nat.le_of_ble_eq_true rfl) (Nat.le_refl _)) h)
  · have h := h.2 c20_
    refine z_aload_n O dL_follows_20 rfl rfl ?_
    refine z_iload_n O dL_follows_21 rfl rfl ?_
    refine z_i2l O dL_follows_22 ?_
    refine z_bipush (v := 6) O dL_follows_23 (by decide) ?_
    have hk372_ := lk_step 1 843 hk16_ (Nat.le_of_ble_eq_true rfl)
    refine z_callHl (As := [.ref b0, .long (Int32.toInt64 x1), .int 6]) (st := []) O (s_LAW_simulate hfl k12_ h) wh_L_simulate wl_RL_167 dL_follows_25 rfl rfl ⟨Nat.le_of_ble_eq_true rfl, Nat.le_of_ble_eq_true rfl⟩ (Nat.le_of_ble_eq_true rfl) ⟨lk_k hk372_, lk_n hk372_⟩ (fun r371_ z373_ G374_ hq375_ => ?_)
    obtain ⟨v376_, k377_, f378_, h⟩ := hq375_
    have F379_ : Fr b0 475 G G374_ := Fr.trans F14_ f378_
    refine z_aload_n O dL_follows_28 rfl rfl ?_
    refine z_iload_n O dL_follows_29 rfl rfl ?_
    refine z_i2l O dL_follows_30 ?_
    refine z_bipush (v := 6) O dL_follows_31 (by decide) ?_
    have hk381_ := lk_step 1 842 hk372_ (Nat.le_of_ble_eq_true rfl)
    refine z_callHl (As := [.ref b0, .long (Int32.toInt64 x1), .int 6]) (st := [.long r371_]) O (s_LAW_simulate hfl k377_ h) wh_L_simulate wl_RL_167 dL_follows_33 rfl rfl ⟨Nat.le_of_ble_eq_true rfl, Nat.le_of_ble_eq_true rfl⟩ (Nat.le_of_ble_eq_true rfl) ⟨lk_k hk381_, lk_n hk381_⟩ (fun r380_ z382_ G383_ hq384_ => ?_)
    obtain ⟨v385_, k386_, f387_, h⟩ := hq384_
    have F388_ : Fr b0 475 G G383_ := Fr.trans F379_ f387_
    refine z_lcmp O dL_follows_36 ?_
    refine z_if_ne (tgt := 53) O dL_follows_37 (by decide) (fun c389_ => ?_) (fun c389_ => ?_)
    · have h := h.1 c389_
      exact z_subL (L' := [some (.ref b0), some (.int x1), some (.long r1_), none, none, none, none, none, none, none, none, none, none, none, none, none]) (zLe.sub (And.intro rfl (And.intro rfl (And.intro rfl True.intro)))) (HJ53 x1 r1_ v385_ G383_ k386_ F388_ _ _ _ (lk_weak hk381_ (c' := 640) (Nat.le_of_ble_eq_true rfl) (Nat.le_refl _)) h)
    · have h := h.2 c389_
      refine z_aload_n O dL_follows_40 rfl rfl ?_
      have hk391_ := lk_step 202 640 hk381_ (Nat.le_of_ble_eq_true rfl)
      refine z_callSl (As := [.ref b0]) (st := []) O (s_LAW_now hfl k386_ h) wy_L_now wl_RL_128 dL_follows_41 rfl rfl ⟨Nat.le_of_ble_eq_true rfl, Nat.le_of_ble_eq_true rfl⟩ (Nat.le_of_ble_eq_true rfl) ⟨lk_k hk391_, lk_n hk391_⟩ (fun r390_ z392_ G393_ hq394_ => ?_)
      obtain ⟨rfl, h⟩ := hq394_
      refine z_lload_n O dL_follows_44 rfl rfl ?_
      refine z_lcmp O dL_follows_45 ?_
      refine z_if_ne (tgt := 53) O dL_follows_46 (by decide) (fun c395_ => ?_) (fun c395_ => ?_)
      · have h := h.1 c395_
        exact z_subL (L' := [some (.ref b0), some (.int x1), some (.long r1_), none, none, none, none, none, none, none, none, none, none, none, none, none]) (zLe.sub (And.intro rfl (And.intro rfl (And.intro rfl True.intro)))) (HJ53 x1 r1_ v385_ G383_ k386_ F388_ _ _ _ (lk_weak hk391_ (c' := 640) (Nat.le_of_ble_eq_true rfl) (Nat.le_refl _)) h)
      · have h := h.2 c395_
        refine z_iconst (v := 1) O dL_follows_49 (by decide) ?_
        refine z_goto (tgt := 54) O dL_follows_50 (by decide) ?_
        exact z_subL (L' := [some (.ref b0), some (.int x1), some (.long r1_), none, none, none, none, none, none, none, none, none, none, none, none, none]) (zLe.sub (And.intro rfl (And.intro rfl (And.intro rfl True.intro)))) (HJ54 x1 r1_ 1 v385_ G383_ k386_ F388_ _ _ _ (lk_weak hk391_ (c' := 640) (Nat.le_of_ble_eq_true rfl) (Nat.le_refl _)) h)
