theorem dL_kept_0 : decode cL_kept 0 = .ok (.aload_n 0, 1) := by decide +kernel
theorem dL_kept_1 : decode cL_kept 1 = .ok (.iconst 1, 1) := by decide +kernel
theorem dL_kept_2 : decode cL_kept 2 = .ok (.invokestatic 110, 3) := by decide +kernel
theorem dL_kept_5 : decode cL_kept 5 = .ok (.lstore_n 1, 1) := by decide +kernel
theorem dL_kept_6 : decode cL_kept 6 = .ok (.aload_n 0, 1) := by decide +kernel
theorem dL_kept_7 : decode cL_kept 7 = .ok (.iconst 0, 1) := by decide +kernel
theorem dL_kept_8 : decode cL_kept 8 = .ok (.invokestatic 110, 3) := by decide +kernel
theorem dL_kept_11 : decode cL_kept 11 = .ok (.lstore_n 3, 1) := by decide +kernel
theorem dL_kept_12 : decode cL_kept 12 = .ok (.lload_n 1, 1) := by decide +kernel
theorem dL_kept_13 : decode cL_kept 13 = .ok (.lstore 5, 2) := by decide +kernel
theorem dL_kept_15 : decode cL_kept 15 = .ok (.lconst 0, 1) := by decide +kernel
theorem dL_kept_16 : decode cL_kept 16 = .ok (.lstore 7, 2) := by decide +kernel
theorem dL_kept_18 : decode cL_kept 18 = .ok (.aload_n 0, 1) := by decide +kernel
theorem dL_kept_19 : decode cL_kept 19 = .ok (.iconst 2, 1) := by decide +kernel
theorem dL_kept_20 : decode cL_kept 20 = .ok (.invokestatic 110, 3) := by decide +kernel
theorem dL_kept_23 : decode cL_kept 23 = .ok (.l2i, 1) := by decide +kernel
theorem dL_kept_24 : decode cL_kept 24 = .ok (.istore 9, 2) := by decide +kernel
theorem dL_kept_26 : decode cL_kept 26 = .ok (.iconst 1, 1) := by decide +kernel
theorem dL_kept_27 : decode cL_kept 27 = .ok (.istore 10, 2) := by decide +kernel
theorem dL_kept_29 : decode cL_kept 29 = .ok (.iconst 0, 1) := by decide +kernel
theorem dL_kept_30 : decode cL_kept 30 = .ok (.istore 11, 2) := by decide +kernel
theorem dL_kept_32 : decode cL_kept 32 = .ok (.iload 11, 2) := by decide +kernel
theorem dL_kept_34 : decode cL_kept 34 = .ok (.iload 9, 2) := by decide +kernel
theorem dL_kept_36 : decode cL_kept 36 = .ok (.if_icmp .ge 213, 3) := by decide +kernel
theorem dL_kept_39 : decode cL_kept 39 = .ok (.iload 10, 2) := by decide +kernel
theorem dL_kept_41 : decode cL_kept 41 = .ok (.ifCond .eq 208, 3) := by decide +kernel
theorem dL_kept_44 : decode cL_kept 44 = .ok (.aload_n 0, 1) := by decide +kernel
theorem dL_kept_45 : decode cL_kept 45 = .ok (.iload 11, 2) := by decide +kernel
theorem dL_kept_47 : decode cL_kept 47 = .ok (.iconst 1, 1) := by decide +kernel
theorem dL_kept_48 : decode cL_kept 48 = .ok (.invokestatic 134, 3) := by decide +kernel
theorem dL_kept_51 : decode cL_kept 51 = .ok (.lstore 12, 2) := by decide +kernel
theorem dL_kept_53 : decode cL_kept 53 = .ok (.lconst 0, 1) := by decide +kernel
theorem dL_kept_54 : decode cL_kept 54 = .ok (.lstore 14, 2) := by decide +kernel
theorem dL_kept_56 : decode cL_kept 56 = .ok (.lload 5, 2) := by decide +kernel
theorem dL_kept_58 : decode cL_kept 58 = .ok (.l2i, 1) := by decide +kernel
theorem dL_kept_59 : decode cL_kept 59 = .ok (.istore 16, 2) := by decide +kernel
theorem dL_kept_61 : decode cL_kept 61 = .ok (.iload 16, 2) := by decide +kernel
theorem dL_kept_63 : decode cL_kept 63 = .ok (.i2l, 1) := by decide +kernel
theorem dL_kept_64 : decode cL_kept 64 = .ok (.lload 5, 2) := by decide +kernel
theorem dL_kept_66 : decode cL_kept 66 = .ok (.lload 12, 2) := by decide +kernel
theorem dL_kept_68 : decode cL_kept 68 = .ok (.ladd, 1) := by decide +kernel
theorem dL_kept_69 : decode cL_kept 69 = .ok (.lcmp, 1) := by decide +kernel
theorem dL_kept_70 : decode cL_kept 70 = .ok (.ifCond .ge 46, 3) := by decide +kernel
theorem dL_kept_73 : decode cL_kept 73 = .ok (.lload 14, 2) := by decide +kernel
theorem dL_kept_75 : decode cL_kept 75 = .ok (.aload_n 0, 1) := by decide +kernel
theorem dL_kept_76 : decode cL_kept 76 = .ok (.iload 16, 2) := by decide +kernel
theorem dL_kept_78 : decode cL_kept 78 = .ok (.iconst 2, 1) := by decide +kernel
theorem dL_kept_79 : decode cL_kept 79 = .ok (.invokestatic 132, 3) := by decide +kernel
theorem dL_kept_82 : decode cL_kept 82 = .ok (.ladd, 1) := by decide +kernel
theorem dL_kept_83 : decode cL_kept 83 = .ok (.lstore 14, 2) := by decide +kernel
theorem dL_kept_85 : decode cL_kept 85 = .ok (.iload 10, 2) := by decide +kernel
theorem dL_kept_87 : decode cL_kept 87 = .ok (.ifCond .eq 20, 3) := by decide +kernel
theorem dL_kept_90 : decode cL_kept 90 = .ok (.aload_n 0, 1) := by decide +kernel
theorem dL_kept_91 : decode cL_kept 91 = .ok (.iload 16, 2) := by decide +kernel
theorem dL_kept_93 : decode cL_kept 93 = .ok (.iconst 4, 1) := by decide +kernel
theorem dL_kept_94 : decode cL_kept 94 = .ok (.invokestatic 132, 3) := by decide +kernel
theorem dL_kept_97 : decode cL_kept 97 = .ok (.lload 5, 2) := by decide +kernel
theorem dL_kept_99 : decode cL_kept 99 = .ok (.lcmp, 1) := by decide +kernel
theorem dL_kept_100 : decode cL_kept 100 = .ok (.ifCond .ne 7, 3) := by decide +kernel
theorem dL_kept_103 : decode cL_kept 103 = .ok (.iconst 1, 1) := by decide +kernel
theorem dL_kept_104 : decode cL_kept 104 = .ok (.goto 4, 3) := by decide +kernel
theorem dL_kept_107 : decode cL_kept 107 = .ok (.iconst 0, 1) := by decide +kernel
theorem dL_kept_108 : decode cL_kept 108 = .ok (.istore 10, 2) := by decide +kernel
theorem dL_kept_110 : decode cL_kept 110 = .ok (.iinc 16 1, 3) := by decide +kernel
theorem dL_kept_113 : decode cL_kept 113 = .ok (.goto (-52), 3) := by decide +kernel
theorem dL_kept_116 : decode cL_kept 116 = .ok (.iload 10, 2) := by decide +kernel
theorem dL_kept_118 : decode cL_kept 118 = .ok (.ifCond .eq 108, 3) := by decide +kernel
theorem dL_kept_121 : decode cL_kept 121 = .ok (.aload_n 0, 1) := by decide +kernel
theorem dL_kept_122 : decode cL_kept 122 = .ok (.iload 11, 2) := by decide +kernel
theorem dL_kept_124 : decode cL_kept 124 = .ok (.iconst 0, 1) := by decide +kernel
theorem dL_kept_125 : decode cL_kept 125 = .ok (.invokestatic 134, 3) := by decide +kernel
theorem dL_kept_128 : decode cL_kept 128 = .ok (.lload 5, 2) := by decide +kernel
theorem dL_kept_130 : decode cL_kept 130 = .ok (.lcmp, 1) := by decide +kernel
theorem dL_kept_131 : decode cL_kept 131 = .ok (.ifCond .ne 95, 3) := by decide +kernel
theorem dL_kept_134 : decode cL_kept 134 = .ok (.lload 12, 2) := by decide +kernel
theorem dL_kept_136 : decode cL_kept 136 = .ok (.lconst 0, 1) := by decide +kernel
theorem dL_kept_137 : decode cL_kept 137 = .ok (.lcmp, 1) := by decide +kernel
theorem dL_kept_138 : decode cL_kept 138 = .ok (.ifCond .le 88, 3) := by decide +kernel
theorem dL_kept_141 : decode cL_kept 141 = .ok (.aload_n 0, 1) := by decide +kernel
theorem dL_kept_142 : decode cL_kept 142 = .ok (.iload 11, 2) := by decide +kernel
theorem dL_kept_144 : decode cL_kept 144 = .ok (.iconst 2, 1) := by decide +kernel
theorem dL_kept_145 : decode cL_kept 145 = .ok (.invokestatic 134, 3) := by decide +kernel
theorem dL_kept_148 : decode cL_kept 148 = .ok (.lload 14, 2) := by decide +kernel
theorem dL_kept_150 : decode cL_kept 150 = .ok (.lcmp, 1) := by decide +kernel
theorem dL_kept_151 : decode cL_kept 151 = .ok (.ifCond .ne 75, 3) := by decide +kernel
theorem dL_kept_154 : decode cL_kept 154 = .ok (.lload 14, 2) := by decide +kernel
theorem dL_kept_156 : decode cL_kept 156 = .ok (.ldc2_w 176, 3) := by decide +kernel
theorem dL_kept_159 : decode cL_kept 159 = .ok (.lcmp, 1) := by decide +kernel
theorem dL_kept_160 : decode cL_kept 160 = .ok (.ifCond .gt 66, 3) := by decide +kernel
theorem dL_kept_163 : decode cL_kept 163 = .ok (.aload_n 0, 1) := by decide +kernel
theorem dL_kept_164 : decode cL_kept 164 = .ok (.iload 11, 2) := by decide +kernel
theorem dL_kept_166 : decode cL_kept 166 = .ok (.iconst 3, 1) := by decide +kernel
theorem dL_kept_167 : decode cL_kept 167 = .ok (.invokestatic 134, 3) := by decide +kernel
theorem dL_kept_170 : decode cL_kept 170 = .ok (.iload 11, 2) := by decide +kernel
theorem dL_kept_172 : decode cL_kept 172 = .ok (.iconst 1, 1) := by decide +kernel
theorem dL_kept_173 : decode cL_kept 173 = .ok (.iadd, 1) := by decide +kernel
theorem dL_kept_174 : decode cL_kept 174 = .ok (.iload 9, 2) := by decide +kernel
theorem dL_kept_176 : decode cL_kept 176 = .ok (.if_icmp .ge 7, 3) := by decide +kernel
theorem dL_kept_179 : decode cL_kept 179 = .ok (.lconst 1, 1) := by decide +kernel
theorem dL_kept_180 : decode cL_kept 180 = .ok (.goto 4, 3) := by decide +kernel
theorem dL_kept_183 : decode cL_kept 183 = .ok (.lconst 0, 1) := by decide +kernel
theorem dL_kept_184 : decode cL_kept 184 = .ok (.lcmp, 1) := by decide +kernel
theorem dL_kept_185 : decode cL_kept 185 = .ok (.ifCond .ne 41, 3) := by decide +kernel
theorem dL_kept_188 : decode cL_kept 188 = .ok (.aload_n 0, 1) := by decide +kernel
theorem dL_kept_189 : decode cL_kept 189 = .ok (.iload 11, 2) := by decide +kernel
theorem dL_kept_191 : decode cL_kept 191 = .ok (.iconst 5, 1) := by decide +kernel
theorem dL_kept_192 : decode cL_kept 192 = .ok (.invokestatic 134, 3) := by decide +kernel
theorem dL_kept_195 : decode cL_kept 195 = .ok (.aload_n 0, 1) := by decide +kernel
theorem dL_kept_196 : decode cL_kept 196 = .ok (.lload 5, 2) := by decide +kernel
theorem dL_kept_198 : decode cL_kept 198 = .ok (.lload 12, 2) := by decide +kernel
theorem dL_kept_200 : decode cL_kept 200 = .ok (.ladd, 1) := by decide +kernel
theorem dL_kept_201 : decode cL_kept 201 = .ok (.l2i, 1) := by decide +kernel
theorem dL_kept_202 : decode cL_kept 202 = .ok (.iconst 1, 1) := by decide +kernel
theorem dL_kept_203 : decode cL_kept 203 = .ok (.isub, 1) := by decide +kernel
theorem dL_kept_204 : decode cL_kept 204 = .ok (.iconst 5, 1) := by decide +kernel
theorem dL_kept_205 : decode cL_kept 205 = .ok (.invokestatic 132, 3) := by decide +kernel
theorem dL_kept_208 : decode cL_kept 208 = .ok (.lconst 0, 1) := by decide +kernel
theorem dL_kept_209 : decode cL_kept 209 = .ok (.lcmp, 1) := by decide +kernel
theorem dL_kept_210 : decode cL_kept 210 = .ok (.ifCond .le 7, 3) := by decide +kernel
theorem dL_kept_213 : decode cL_kept 213 = .ok (.lconst 1, 1) := by decide +kernel
theorem dL_kept_214 : decode cL_kept 214 = .ok (.goto 4, 3) := by decide +kernel
theorem dL_kept_217 : decode cL_kept 217 = .ok (.lconst 0, 1) := by decide +kernel
theorem dL_kept_218 : decode cL_kept 218 = .ok (.lcmp, 1) := by decide +kernel
theorem dL_kept_219 : decode cL_kept 219 = .ok (.ifCond .ne 7, 3) := by decide +kernel
theorem dL_kept_222 : decode cL_kept 222 = .ok (.iconst 1, 1) := by decide +kernel
theorem dL_kept_223 : decode cL_kept 223 = .ok (.goto 4, 3) := by decide +kernel
theorem dL_kept_226 : decode cL_kept 226 = .ok (.iconst 0, 1) := by decide +kernel
theorem dL_kept_227 : decode cL_kept 227 = .ok (.istore 10, 2) := by decide +kernel
theorem dL_kept_229 : decode cL_kept 229 = .ok (.lload 5, 2) := by decide +kernel
theorem dL_kept_231 : decode cL_kept 231 = .ok (.lload 12, 2) := by decide +kernel
theorem dL_kept_233 : decode cL_kept 233 = .ok (.ladd, 1) := by decide +kernel
theorem dL_kept_234 : decode cL_kept 234 = .ok (.lstore 5, 2) := by decide +kernel
theorem dL_kept_236 : decode cL_kept 236 = .ok (.lload 7, 2) := by decide +kernel
theorem dL_kept_238 : decode cL_kept 238 = .ok (.lload 14, 2) := by decide +kernel
theorem dL_kept_240 : decode cL_kept 240 = .ok (.ladd, 1) := by decide +kernel
theorem dL_kept_241 : decode cL_kept 241 = .ok (.lstore 7, 2) := by decide +kernel
theorem dL_kept_243 : decode cL_kept 243 = .ok (.iinc 11 1, 3) := by decide +kernel
theorem dL_kept_246 : decode cL_kept 246 = .ok (.goto (-214), 3) := by decide +kernel
theorem dL_kept_249 : decode cL_kept 249 = .ok (.iload 10, 2) := by decide +kernel
theorem dL_kept_251 : decode cL_kept 251 = .ok (.ifCond .eq 25, 3) := by decide +kernel
theorem dL_kept_254 : decode cL_kept 254 = .ok (.lload 5, 2) := by decide +kernel
theorem dL_kept_256 : decode cL_kept 256 = .ok (.lload_n 3, 1) := by decide +kernel
theorem dL_kept_257 : decode cL_kept 257 = .ok (.lcmp, 1) := by decide +kernel
theorem dL_kept_258 : decode cL_kept 258 = .ok (.ifCond .ne 18, 3) := by decide +kernel
theorem dL_kept_261 : decode cL_kept 261 = .ok (.aload_n 0, 1) := by decide +kernel
theorem dL_kept_262 : decode cL_kept 262 = .ok (.iconst 3, 1) := by decide +kernel
theorem dL_kept_263 : decode cL_kept 263 = .ok (.invokestatic 110, 3) := by decide +kernel
theorem dL_kept_266 : decode cL_kept 266 = .ok (.lload 7, 2) := by decide +kernel
theorem dL_kept_268 : decode cL_kept 268 = .ok (.lcmp, 1) := by decide +kernel
theorem dL_kept_269 : decode cL_kept 269 = .ok (.ifCond .ne 7, 3) := by decide +kernel
theorem dL_kept_272 : decode cL_kept 272 = .ok (.iconst 1, 1) := by decide +kernel
theorem dL_kept_273 : decode cL_kept 273 = .ok (.goto 4, 3) := by decide +kernel
theorem dL_kept_276 : decode cL_kept 276 = .ok (.iconst 0, 1) := by decide +kernel
theorem dL_kept_277 : decode cL_kept 277 = .ok (.istore 10, 2) := by decide +kernel
theorem dL_kept_279 : decode cL_kept 279 = .ok (.iconst 0, 1) := by decide +kernel
theorem dL_kept_280 : decode cL_kept 280 = .ok (.istore 11, 2) := by decide +kernel
theorem dL_kept_282 : decode cL_kept 282 = .ok (.iload 11, 2) := by decide +kernel
theorem dL_kept_284 : decode cL_kept 284 = .ok (.bipush 8, 2) := by decide +kernel
theorem dL_kept_286 : decode cL_kept 286 = .ok (.if_icmp .ge 62, 3) := by decide +kernel
theorem dL_kept_289 : decode cL_kept 289 = .ok (.iload 10, 2) := by decide +kernel
theorem dL_kept_291 : decode cL_kept 291 = .ok (.ifCond .eq 57, 3) := by decide +kernel
theorem dL_kept_294 : decode cL_kept 294 = .ok (.aload_n 0, 1) := by decide +kernel
theorem dL_kept_295 : decode cL_kept 295 = .ok (.iload 11, 2) := by decide +kernel
theorem dL_kept_297 : decode cL_kept 297 = .ok (.lload_n 1, 1) := by decide +kernel
theorem dL_kept_298 : decode cL_kept 298 = .ok (.l2i, 1) := by decide +kernel
theorem dL_kept_299 : decode cL_kept 299 = .ok (.iconst 0, 1) := by decide +kernel
theorem dL_kept_300 : decode cL_kept 300 = .ok (.invokestatic 157, 3) := by decide +kernel
theorem dL_kept_303 : decode cL_kept 303 = .ok (.aload_n 0, 1) := by decide +kernel
theorem dL_kept_304 : decode cL_kept 304 = .ok (.iload 11, 2) := by decide +kernel
theorem dL_kept_306 : decode cL_kept 306 = .ok (.invokestatic 115, 3) := by decide +kernel
theorem dL_kept_309 : decode cL_kept 309 = .ok (.lcmp, 1) := by decide +kernel
theorem dL_kept_310 : decode cL_kept 310 = .ok (.ifCond .ne 29, 3) := by decide +kernel
theorem dL_kept_313 : decode cL_kept 313 = .ok (.aload_n 0, 1) := by decide +kernel
theorem dL_kept_314 : decode cL_kept 314 = .ok (.iload 11, 2) := by decide +kernel
theorem dL_kept_316 : decode cL_kept 316 = .ok (.lload_n 3, 1) := by decide +kernel
theorem dL_kept_317 : decode cL_kept 317 = .ok (.l2i, 1) := by decide +kernel
theorem dL_kept_318 : decode cL_kept 318 = .ok (.iconst 0, 1) := by decide +kernel
theorem dL_kept_319 : decode cL_kept 319 = .ok (.invokestatic 157, 3) := by decide +kernel
theorem dL_kept_322 : decode cL_kept 322 = .ok (.aload_n 0, 1) := by decide +kernel
theorem dL_kept_323 : decode cL_kept 323 = .ok (.iload 11, 2) := by decide +kernel
theorem dL_kept_325 : decode cL_kept 325 = .ok (.lload_n 3, 1) := by decide +kernel
theorem dL_kept_326 : decode cL_kept 326 = .ok (.l2i, 1) := by decide +kernel
theorem dL_kept_327 : decode cL_kept 327 = .ok (.iconst 1, 1) := by decide +kernel
theorem dL_kept_328 : decode cL_kept 328 = .ok (.invokestatic 157, 3) := by decide +kernel
theorem dL_kept_331 : decode cL_kept 331 = .ok (.lcmp, 1) := by decide +kernel
theorem dL_kept_332 : decode cL_kept 332 = .ok (.ifCond .ne 7, 3) := by decide +kernel
theorem dL_kept_335 : decode cL_kept 335 = .ok (.iconst 1, 1) := by decide +kernel
theorem dL_kept_336 : decode cL_kept 336 = .ok (.goto 4, 3) := by decide +kernel
theorem dL_kept_339 : decode cL_kept 339 = .ok (.iconst 0, 1) := by decide +kernel
theorem dL_kept_340 : decode cL_kept 340 = .ok (.istore 10, 2) := by decide +kernel
theorem dL_kept_342 : decode cL_kept 342 = .ok (.iinc 11 1, 3) := by decide +kernel
theorem dL_kept_345 : decode cL_kept 345 = .ok (.goto (-63), 3) := by decide +kernel
theorem dL_kept_348 : decode cL_kept 348 = .ok (.iconst 0, 1) := by decide +kernel
theorem dL_kept_349 : decode cL_kept 349 = .ok (.istore 11, 2) := by decide +kernel
theorem dL_kept_351 : decode cL_kept 351 = .ok (.iconst 0, 1) := by decide +kernel
theorem dL_kept_352 : decode cL_kept 352 = .ok (.istore 12, 2) := by decide +kernel
theorem dL_kept_354 : decode cL_kept 354 = .ok (.iconst 0, 1) := by decide +kernel
theorem dL_kept_355 : decode cL_kept 355 = .ok (.istore 13, 2) := by decide +kernel
theorem dL_kept_357 : decode cL_kept 357 = .ok (.lload_n 3, 1) := by decide +kernel
theorem dL_kept_358 : decode cL_kept 358 = .ok (.lstore 14, 2) := by decide +kernel
theorem dL_kept_360 : decode cL_kept 360 = .ok (.iconst 0, 1) := by decide +kernel
theorem dL_kept_361 : decode cL_kept 361 = .ok (.istore 16, 2) := by decide +kernel
theorem dL_kept_363 : decode cL_kept 363 = .ok (.iload 16, 2) := by decide +kernel
theorem dL_kept_365 : decode cL_kept 365 = .ok (.bipush 8, 2) := by decide +kernel
theorem dL_kept_367 : decode cL_kept 367 = .ok (.if_icmp .ge 286, 3) := by decide +kernel
theorem dL_kept_370 : decode cL_kept 370 = .ok (.iload 10, 2) := by decide +kernel
theorem dL_kept_372 : decode cL_kept 372 = .ok (.ifCond .eq 281, 3) := by decide +kernel
theorem dL_kept_375 : decode cL_kept 375 = .ok (.aload_n 0, 1) := by decide +kernel
theorem dL_kept_376 : decode cL_kept 376 = .ok (.iload 16, 2) := by decide +kernel
theorem dL_kept_378 : decode cL_kept 378 = .ok (.iconst 0, 1) := by decide +kernel
theorem dL_kept_379 : decode cL_kept 379 = .ok (.invokestatic 121, 3) := by decide +kernel
theorem dL_kept_382 : decode cL_kept 382 = .ok (.lstore 17, 2) := by decide +kernel
theorem dL_kept_384 : decode cL_kept 384 = .ok (.lload 17, 2) := by decide +kernel
theorem dL_kept_386 : decode cL_kept 386 = .ok (.ldc2_w 36, 3) := by decide +kernel
theorem dL_kept_389 : decode cL_kept 389 = .ok (.lcmp, 1) := by decide +kernel
theorem dL_kept_390 : decode cL_kept 390 = .ok (.ifCond .eq 257, 3) := by decide +kernel
theorem dL_kept_393 : decode cL_kept 393 = .ok (.aload_n 0, 1) := by decide +kernel
theorem dL_kept_394 : decode cL_kept 394 = .ok (.iload 16, 2) := by decide +kernel
theorem dL_kept_396 : decode cL_kept 396 = .ok (.iconst 1, 1) := by decide +kernel
theorem dL_kept_397 : decode cL_kept 397 = .ok (.invokestatic 121, 3) := by decide +kernel
theorem dL_kept_400 : decode cL_kept 400 = .ok (.lconst 1, 1) := by decide +kernel
theorem dL_kept_401 : decode cL_kept 401 = .ok (.lcmp, 1) := by decide +kernel
theorem dL_kept_402 : decode cL_kept 402 = .ok (.ifCond .ne 7, 3) := by decide +kernel
theorem dL_kept_405 : decode cL_kept 405 = .ok (.iconst 1, 1) := by decide +kernel
theorem dL_kept_406 : decode cL_kept 406 = .ok (.goto 4, 3) := by decide +kernel
theorem dL_kept_409 : decode cL_kept 409 = .ok (.iconst 0, 1) := by decide +kernel
theorem dL_kept_410 : decode cL_kept 410 = .ok (.istore 19, 2) := by decide +kernel
theorem dL_kept_412 : decode cL_kept 412 = .ok (.lload 17, 2) := by decide +kernel
theorem dL_kept_414 : decode cL_kept 414 = .ok (.lload_n 1, 1) := by decide +kernel
theorem dL_kept_415 : decode cL_kept 415 = .ok (.lcmp, 1) := by decide +kernel
theorem dL_kept_416 : decode cL_kept 416 = .ok (.ifCond .ge 7, 3) := by decide +kernel
theorem dL_kept_419 : decode cL_kept 419 = .ok (.iconst 1, 1) := by decide +kernel
theorem dL_kept_420 : decode cL_kept 420 = .ok (.goto 4, 3) := by decide +kernel
theorem dL_kept_423 : decode cL_kept 423 = .ok (.iconst 0, 1) := by decide +kernel
theorem dL_kept_424 : decode cL_kept 424 = .ok (.istore 20, 2) := by decide +kernel
theorem dL_kept_426 : decode cL_kept 426 = .ok (.iinc 11 1, 3) := by decide +kernel
theorem dL_kept_429 : decode cL_kept 429 = .ok (.iload 12, 2) := by decide +kernel
theorem dL_kept_431 : decode cL_kept 431 = .ok (.iload 19, 2) := by decide +kernel
theorem dL_kept_433 : decode cL_kept 433 = .ok (.ifCond .eq 7, 3) := by decide +kernel
theorem dL_kept_436 : decode cL_kept 436 = .ok (.iconst 1, 1) := by decide +kernel
theorem dL_kept_437 : decode cL_kept 437 = .ok (.goto 4, 3) := by decide +kernel
theorem dL_kept_440 : decode cL_kept 440 = .ok (.iconst 0, 1) := by decide +kernel
theorem dL_kept_441 : decode cL_kept 441 = .ok (.iadd, 1) := by decide +kernel
theorem dL_kept_442 : decode cL_kept 442 = .ok (.istore 12, 2) := by decide +kernel
theorem dL_kept_444 : decode cL_kept 444 = .ok (.iload 13, 2) := by decide +kernel
theorem dL_kept_446 : decode cL_kept 446 = .ok (.iload 20, 2) := by decide +kernel
theorem dL_kept_448 : decode cL_kept 448 = .ok (.ifCond .eq 7, 3) := by decide +kernel
theorem dL_kept_451 : decode cL_kept 451 = .ok (.iconst 1, 1) := by decide +kernel
theorem dL_kept_452 : decode cL_kept 452 = .ok (.goto 4, 3) := by decide +kernel
theorem dL_kept_455 : decode cL_kept 455 = .ok (.iconst 0, 1) := by decide +kernel
theorem dL_kept_456 : decode cL_kept 456 = .ok (.iadd, 1) := by decide +kernel
theorem dL_kept_457 : decode cL_kept 457 = .ok (.istore 13, 2) := by decide +kernel
theorem dL_kept_459 : decode cL_kept 459 = .ok (.iload 19, 2) := by decide +kernel
theorem dL_kept_461 : decode cL_kept 461 = .ok (.ifCond .eq 16, 3) := by decide +kernel
theorem dL_kept_464 : decode cL_kept 464 = .ok (.lload 17, 2) := by decide +kernel
theorem dL_kept_466 : decode cL_kept 466 = .ok (.lload 14, 2) := by decide +kernel
theorem dL_kept_468 : decode cL_kept 468 = .ok (.lcmp, 1) := by decide +kernel
theorem dL_kept_469 : decode cL_kept 469 = .ok (.ifCond .ge 8, 3) := by decide +kernel
theorem dL_kept_472 : decode cL_kept 472 = .ok (.lload 17, 2) := by decide +kernel
theorem dL_kept_474 : decode cL_kept 474 = .ok (.goto 5, 3) := by decide +kernel
theorem dL_kept_477 : decode cL_kept 477 = .ok (.lload 14, 2) := by decide +kernel
theorem dL_kept_479 : decode cL_kept 479 = .ok (.lstore 14, 2) := by decide +kernel
theorem dL_kept_481 : decode cL_kept 481 = .ok (.lload 17, 2) := by decide +kernel
theorem dL_kept_483 : decode cL_kept 483 = .ok (.lload_n 3, 1) := by decide +kernel
theorem dL_kept_484 : decode cL_kept 484 = .ok (.lcmp, 1) := by decide +kernel
theorem dL_kept_485 : decode cL_kept 485 = .ok (.ifCond .gt 101, 3) := by decide +kernel
theorem dL_kept_488 : decode cL_kept 488 = .ok (.iload 19, 2) := by decide +kernel
theorem dL_kept_490 : decode cL_kept 490 = .ok (.ifCond .eq 8, 3) := by decide +kernel
theorem dL_kept_493 : decode cL_kept 493 = .ok (.iload 20, 2) := by decide +kernel
theorem dL_kept_495 : decode cL_kept 495 = .ok (.ifCond .ne 91, 3) := by decide +kernel
theorem dL_kept_498 : decode cL_kept 498 = .ok (.aload_n 0, 1) := by decide +kernel
theorem dL_kept_499 : decode cL_kept 499 = .ok (.iload 16, 2) := by decide +kernel
theorem dL_kept_501 : decode cL_kept 501 = .ok (.bipush 7, 2) := by decide +kernel
theorem dL_kept_503 : decode cL_kept 503 = .ok (.invokestatic 121, 3) := by decide +kernel
theorem dL_kept_506 : decode cL_kept 506 = .ok (.iload 20, 2) := by decide +kernel
theorem dL_kept_508 : decode cL_kept 508 = .ok (.ifCond .eq 10, 3) := by decide +kernel
theorem dL_kept_511 : decode cL_kept 511 = .ok (.lload_n 1, 1) := by decide +kernel
theorem dL_kept_512 : decode cL_kept 512 = .ok (.lload 17, 2) := by decide +kernel
theorem dL_kept_514 : decode cL_kept 514 = .ok (.lsub, 1) := by decide +kernel
theorem dL_kept_515 : decode cL_kept 515 = .ok (.goto 4, 3) := by decide +kernel
theorem dL_kept_518 : decode cL_kept 518 = .ok (.lconst 0, 1) := by decide +kernel
theorem dL_kept_519 : decode cL_kept 519 = .ok (.lcmp, 1) := by decide +kernel
theorem dL_kept_520 : decode cL_kept 520 = .ok (.ifCond .ne 66, 3) := by decide +kernel
theorem dL_kept_523 : decode cL_kept 523 = .ok (.aload_n 0, 1) := by decide +kernel
theorem dL_kept_524 : decode cL_kept 524 = .ok (.iload 16, 2) := by decide +kernel
theorem dL_kept_526 : decode cL_kept 526 = .ok (.iconst 5, 1) := by decide +kernel
theorem dL_kept_527 : decode cL_kept 527 = .ok (.invokestatic 121, 3) := by decide +kernel
theorem dL_kept_530 : decode cL_kept 530 = .ok (.lload_n 3, 1) := by decide +kernel
theorem dL_kept_531 : decode cL_kept 531 = .ok (.iload 20, 2) := by decide +kernel
theorem dL_kept_533 : decode cL_kept 533 = .ok (.ifCond .eq 7, 3) := by decide +kernel
theorem dL_kept_536 : decode cL_kept 536 = .ok (.lload_n 1, 1) := by decide +kernel
theorem dL_kept_537 : decode cL_kept 537 = .ok (.goto 5, 3) := by decide +kernel
theorem dL_kept_540 : decode cL_kept 540 = .ok (.lload 17, 2) := by decide +kernel
theorem dL_kept_542 : decode cL_kept 542 = .ok (.lsub, 1) := by decide +kernel
theorem dL_kept_543 : decode cL_kept 543 = .ok (.lcmp, 1) := by decide +kernel
theorem dL_kept_544 : decode cL_kept 544 = .ok (.ifCond .ne 42, 3) := by decide +kernel
theorem dL_kept_547 : decode cL_kept 547 = .ok (.aload_n 0, 1) := by decide +kernel
theorem dL_kept_548 : decode cL_kept 548 = .ok (.iload 16, 2) := by decide +kernel
theorem dL_kept_550 : decode cL_kept 550 = .ok (.iconst 4, 1) := by decide +kernel
theorem dL_kept_551 : decode cL_kept 551 = .ok (.invokestatic 121, 3) := by decide +kernel
theorem dL_kept_554 : decode cL_kept 554 = .ok (.aload_n 0, 1) := by decide +kernel
theorem dL_kept_555 : decode cL_kept 555 = .ok (.bipush 7, 2) := by decide +kernel
theorem dL_kept_557 : decode cL_kept 557 = .ok (.invokestatic 110, 3) := by decide +kernel
theorem dL_kept_560 : decode cL_kept 560 = .ok (.lcmp, 1) := by decide +kernel
theorem dL_kept_561 : decode cL_kept 561 = .ok (.ifCond .gt 25, 3) := by decide +kernel
theorem dL_kept_564 : decode cL_kept 564 = .ok (.iload 19, 2) := by decide +kernel
theorem dL_kept_566 : decode cL_kept 566 = .ok (.ifCond .eq 16, 3) := by decide +kernel
theorem dL_kept_569 : decode cL_kept 569 = .ok (.aload_n 0, 1) := by decide +kernel
theorem dL_kept_570 : decode cL_kept 570 = .ok (.iload 16, 2) := by decide +kernel
theorem dL_kept_572 : decode cL_kept 572 = .ok (.bipush 8, 2) := by decide +kernel
theorem dL_kept_574 : decode cL_kept 574 = .ok (.invokestatic 121, 3) := by decide +kernel
theorem dL_kept_577 : decode cL_kept 577 = .ok (.lconst 0, 1) := by decide +kernel
theorem dL_kept_578 : decode cL_kept 578 = .ok (.lcmp, 1) := by decide +kernel
theorem dL_kept_579 : decode cL_kept 579 = .ok (.ifCond .ne 7, 3) := by decide +kernel
theorem dL_kept_582 : decode cL_kept 582 = .ok (.iconst 1, 1) := by decide +kernel
theorem dL_kept_583 : decode cL_kept 583 = .ok (.goto 4, 3) := by decide +kernel
theorem dL_kept_586 : decode cL_kept 586 = .ok (.iconst 0, 1) := by decide +kernel
theorem dL_kept_587 : decode cL_kept 587 = .ok (.istore 10, 2) := by decide +kernel
theorem dL_kept_589 : decode cL_kept 589 = .ok (.iconst 0, 1) := by decide +kernel
theorem dL_kept_590 : decode cL_kept 590 = .ok (.istore 21, 2) := by decide +kernel
theorem dL_kept_592 : decode cL_kept 592 = .ok (.iload 21, 2) := by decide +kernel
theorem dL_kept_594 : decode cL_kept 594 = .ok (.bipush 8, 2) := by decide +kernel
theorem dL_kept_596 : decode cL_kept 596 = .ok (.if_icmp .ge 51, 3) := by decide +kernel
theorem dL_kept_599 : decode cL_kept 599 = .ok (.iload 10, 2) := by decide +kernel
theorem dL_kept_601 : decode cL_kept 601 = .ok (.ifCond .eq 46, 3) := by decide +kernel
theorem dL_kept_604 : decode cL_kept 604 = .ok (.iload 20, 2) := by decide +kernel
theorem dL_kept_606 : decode cL_kept 606 = .ok (.ifCond .ne 41, 3) := by decide +kernel
theorem dL_kept_609 : decode cL_kept 609 = .ok (.aload_n 0, 1) := by decide +kernel
theorem dL_kept_610 : decode cL_kept 610 = .ok (.iload 16, 2) := by decide +kernel
theorem dL_kept_612 : decode cL_kept 612 = .ok (.iload 21, 2) := by decide +kernel
theorem dL_kept_614 : decode cL_kept 614 = .ok (.invokestatic 126, 3) := by decide +kernel
theorem dL_kept_617 : decode cL_kept 617 = .ok (.aload_n 0, 1) := by decide +kernel
theorem dL_kept_618 : decode cL_kept 618 = .ok (.iload 21, 2) := by decide +kernel
theorem dL_kept_620 : decode cL_kept 620 = .ok (.lload 17, 2) := by decide +kernel
theorem dL_kept_622 : decode cL_kept 622 = .ok (.l2i, 1) := by decide +kernel
theorem dL_kept_623 : decode cL_kept 623 = .ok (.iload 21, 2) := by decide +kernel
theorem dL_kept_625 : decode cL_kept 625 = .ok (.iconst 2, 1) := by decide +kernel
theorem dL_kept_626 : decode cL_kept 626 = .ok (.irem, 1) := by decide +kernel
theorem dL_kept_627 : decode cL_kept 627 = .ok (.invokestatic 157, 3) := by decide +kernel
theorem dL_kept_630 : decode cL_kept 630 = .ok (.lcmp, 1) := by decide +kernel
theorem dL_kept_631 : decode cL_kept 631 = .ok (.ifCond .ne 7, 3) := by decide +kernel
theorem dL_kept_634 : decode cL_kept 634 = .ok (.iconst 1, 1) := by decide +kernel
theorem dL_kept_635 : decode cL_kept 635 = .ok (.goto 4, 3) := by decide +kernel
theorem dL_kept_638 : decode cL_kept 638 = .ok (.iconst 0, 1) := by decide +kernel
theorem dL_kept_639 : decode cL_kept 639 = .ok (.istore 10, 2) := by decide +kernel
theorem dL_kept_641 : decode cL_kept 641 = .ok (.iinc 21 1, 3) := by decide +kernel
theorem dL_kept_644 : decode cL_kept 644 = .ok (.goto (-52), 3) := by decide +kernel
theorem dL_kept_647 : decode cL_kept 647 = .ok (.iinc 16 1, 3) := by decide +kernel
theorem dL_kept_650 : decode cL_kept 650 = .ok (.goto (-287), 3) := by decide +kernel
theorem dL_kept_653 : decode cL_kept 653 = .ok (.aload_n 0, 1) := by decide +kernel
theorem dL_kept_654 : decode cL_kept 654 = .ok (.invokevirtual 178, 3) := by decide +kernel
theorem dL_kept_657 : decode cL_kept 657 = .ok (.istore 16, 2) := by decide +kernel
theorem dL_kept_659 : decode cL_kept 659 = .ok (.aload_n 0, 1) := by decide +kernel
theorem dL_kept_660 : decode cL_kept 660 = .ok (.invokevirtual 181, 3) := by decide +kernel
theorem dL_kept_663 : decode cL_kept 663 = .ok (.istore 17, 2) := by decide +kernel
theorem dL_kept_665 : decode cL_kept 665 = .ok (.iload 10, 2) := by decide +kernel
theorem dL_kept_667 : decode cL_kept 667 = .ok (.ifCond .eq 136, 3) := by decide +kernel
theorem dL_kept_670 : decode cL_kept 670 = .ok (.aload_n 0, 1) := by decide +kernel
theorem dL_kept_671 : decode cL_kept 671 = .ok (.iconst 4, 1) := by decide +kernel
theorem dL_kept_672 : decode cL_kept 672 = .ok (.invokestatic 110, 3) := by decide +kernel
theorem dL_kept_675 : decode cL_kept 675 = .ok (.iload 11, 2) := by decide +kernel
theorem dL_kept_677 : decode cL_kept 677 = .ok (.i2l, 1) := by decide +kernel
theorem dL_kept_678 : decode cL_kept 678 = .ok (.lcmp, 1) := by decide +kernel
theorem dL_kept_679 : decode cL_kept 679 = .ok (.ifCond .ne 124, 3) := by decide +kernel
theorem dL_kept_682 : decode cL_kept 682 = .ok (.aload_n 0, 1) := by decide +kernel
theorem dL_kept_683 : decode cL_kept 683 = .ok (.iconst 5, 1) := by decide +kernel
theorem dL_kept_684 : decode cL_kept 684 = .ok (.invokestatic 110, 3) := by decide +kernel
theorem dL_kept_687 : decode cL_kept 687 = .ok (.iload 12, 2) := by decide +kernel
theorem dL_kept_689 : decode cL_kept 689 = .ok (.i2l, 1) := by decide +kernel
theorem dL_kept_690 : decode cL_kept 690 = .ok (.lcmp, 1) := by decide +kernel
theorem dL_kept_691 : decode cL_kept 691 = .ok (.ifCond .ne 112, 3) := by decide +kernel
theorem dL_kept_694 : decode cL_kept 694 = .ok (.aload_n 0, 1) := by decide +kernel
theorem dL_kept_695 : decode cL_kept 695 = .ok (.bipush 6, 2) := by decide +kernel
theorem dL_kept_697 : decode cL_kept 697 = .ok (.invokestatic 110, 3) := by decide +kernel
theorem dL_kept_700 : decode cL_kept 700 = .ok (.iload 13, 2) := by decide +kernel
theorem dL_kept_702 : decode cL_kept 702 = .ok (.i2l, 1) := by decide +kernel
theorem dL_kept_703 : decode cL_kept 703 = .ok (.lcmp, 1) := by decide +kernel
theorem dL_kept_704 : decode cL_kept 704 = .ok (.ifCond .ne 99, 3) := by decide +kernel
theorem dL_kept_707 : decode cL_kept 707 = .ok (.iload 12, 2) := by decide +kernel
theorem dL_kept_709 : decode cL_kept 709 = .ok (.ifCond .ne 12, 3) := by decide +kernel
theorem dL_kept_712 : decode cL_kept 712 = .ok (.iload 16, 2) := by decide +kernel
theorem dL_kept_714 : decode cL_kept 714 = .ok (.iconst (-1), 1) := by decide +kernel
theorem dL_kept_715 : decode cL_kept 715 = .ok (.if_icmp .ne 88, 3) := by decide +kernel
theorem dL_kept_718 : decode cL_kept 718 = .ok (.goto 28, 3) := by decide +kernel
theorem dL_kept_721 : decode cL_kept 721 = .ok (.aload_n 0, 1) := by decide +kernel
theorem dL_kept_722 : decode cL_kept 722 = .ok (.iload 16, 2) := by decide +kernel
theorem dL_kept_724 : decode cL_kept 724 = .ok (.iconst 0, 1) := by decide +kernel
theorem dL_kept_725 : decode cL_kept 725 = .ok (.invokestatic 121, 3) := by decide +kernel
theorem dL_kept_728 : decode cL_kept 728 = .ok (.lload 14, 2) := by decide +kernel
theorem dL_kept_730 : decode cL_kept 730 = .ok (.lcmp, 1) := by decide +kernel
theorem dL_kept_731 : decode cL_kept 731 = .ok (.ifCond .ne 72, 3) := by decide +kernel
theorem dL_kept_734 : decode cL_kept 734 = .ok (.aload_n 0, 1) := by decide +kernel
theorem dL_kept_735 : decode cL_kept 735 = .ok (.iload 16, 2) := by decide +kernel
theorem dL_kept_737 : decode cL_kept 737 = .ok (.iconst 1, 1) := by decide +kernel
theorem dL_kept_738 : decode cL_kept 738 = .ok (.invokestatic 121, 3) := by decide +kernel
theorem dL_kept_741 : decode cL_kept 741 = .ok (.lconst 1, 1) := by decide +kernel
theorem dL_kept_742 : decode cL_kept 742 = .ok (.lcmp, 1) := by decide +kernel
theorem dL_kept_743 : decode cL_kept 743 = .ok (.ifCond .ne 60, 3) := by decide +kernel
theorem dL_kept_746 : decode cL_kept 746 = .ok (.iload 9, 2) := by decide +kernel
theorem dL_kept_748 : decode cL_kept 748 = .ok (.iconst 2, 1) := by decide +kernel
theorem dL_kept_749 : decode cL_kept 749 = .ok (.if_icmp .ge 7, 3) := by decide +kernel
theorem dL_kept_752 : decode cL_kept 752 = .ok (.iconst 1, 1) := by decide +kernel
theorem dL_kept_753 : decode cL_kept 753 = .ok (.goto 4, 3) := by decide +kernel
theorem dL_kept_756 : decode cL_kept 756 = .ok (.iconst 0, 1) := by decide +kernel
theorem dL_kept_757 : decode cL_kept 757 = .ok (.iload 17, 2) := by decide +kernel
theorem dL_kept_759 : decode cL_kept 759 = .ok (.iconst 1, 1) := by decide +kernel
theorem dL_kept_760 : decode cL_kept 760 = .ok (.if_icmp .ne 7, 3) := by decide +kernel
theorem dL_kept_763 : decode cL_kept 763 = .ok (.iconst 1, 1) := by decide +kernel
theorem dL_kept_764 : decode cL_kept 764 = .ok (.goto 4, 3) := by decide +kernel
theorem dL_kept_767 : decode cL_kept 767 = .ok (.iconst 0, 1) := by decide +kernel
theorem dL_kept_768 : decode cL_kept 768 = .ok (.if_icmp .ne 35, 3) := by decide +kernel
theorem dL_kept_771 : decode cL_kept 771 = .ok (.iload 17, 2) := by decide +kernel
theorem dL_kept_773 : decode cL_kept 773 = .ok (.iconst 3, 1) := by decide +kernel
theorem dL_kept_774 : decode cL_kept 774 = .ok (.if_icmp .ne 8, 3) := by decide +kernel
theorem dL_kept_777 : decode cL_kept 777 = .ok (.iload 12, 2) := by decide +kernel
theorem dL_kept_779 : decode cL_kept 779 = .ok (.ifCond .le 24, 3) := by decide +kernel
theorem dL_kept_782 : decode cL_kept 782 = .ok (.iload 17, 2) := by decide +kernel
theorem dL_kept_784 : decode cL_kept 784 = .ok (.iconst 2, 1) := by decide +kernel
theorem dL_kept_785 : decode cL_kept 785 = .ok (.if_icmp .ne 14, 3) := by decide +kernel
theorem dL_kept_788 : decode cL_kept 788 = .ok (.aload_n 0, 1) := by decide +kernel
theorem dL_kept_789 : decode cL_kept 789 = .ok (.iconst 0, 1) := by decide +kernel
theorem dL_kept_790 : decode cL_kept 790 = .ok (.iconst 4, 1) := by decide +kernel
theorem dL_kept_791 : decode cL_kept 791 = .ok (.invokestatic 134, 3) := by decide +kernel
theorem dL_kept_794 : decode cL_kept 794 = .ok (.lconst 0, 1) := by decide +kernel
theorem dL_kept_795 : decode cL_kept 795 = .ok (.lcmp, 1) := by decide +kernel
theorem dL_kept_796 : decode cL_kept 796 = .ok (.ifCond .ne 7, 3) := by decide +kernel
theorem dL_kept_799 : decode cL_kept 799 = .ok (.iconst 1, 1) := by decide +kernel
theorem dL_kept_800 : decode cL_kept 800 = .ok (.goto 4, 3) := by decide +kernel
theorem dL_kept_803 : decode cL_kept 803 = .ok (.iconst 0, 1) := by decide +kernel
theorem dL_kept_804 : decode cL_kept 804 = .ok (.ireturn, 1) := by decide +kernel
def PJ_LAW_kept_782 (v0 : TT) (y17 : Int32) (Q : Int32 → Prop) : Prop := ((¬ y17 = 2 → Q 1) ∧ (y17 = 2 → P_LAW_segmentOf 0 4 v0 (fun r65_ => (((¬ (lg_cmp r65_ 0) = 0 → Q 0) ∧ ((lg_cmp r65_ 0) = 0 → Q 1))))))
def PJ_LAW_kept_768 (v0 : TT) (y12 : Int32) (y17 : Int32) (u0 : Int32) (u1 : Int32) (Q : Int32 → Prop) : Prop := ((¬ u1 = u0 → Q 0) ∧ (u1 = u0 → ((¬ y17 = 3 → PJ_LAW_kept_782 v0 y17 Q) ∧ (y17 = 3 → ((y12 ≤ 0 → Q 0) ∧ (¬ y12 ≤ 0 → PJ_LAW_kept_782 v0 y17 Q))))))
def PJ_LAW_kept_757 (v0 : TT) (y12 : Int32) (y17 : Int32) (u0 : Int32) (Q : Int32 → Prop) : Prop := ((¬ y17 = 1 → PJ_LAW_kept_768 v0 y12 y17 0 u0 Q) ∧ (y17 = 1 → PJ_LAW_kept_768 v0 y12 y17 1 u0 Q))
def PJ_LAW_kept_746 (v0 : TT) (y9 : Int32) (y12 : Int32) (y17 : Int32) (Q : Int32 → Prop) : Prop := ((2 ≤ y9 → PJ_LAW_kept_757 v0 y12 y17 0 Q) ∧ (¬ 2 ≤ y9 → PJ_LAW_kept_757 v0 y12 y17 1 Q))
def PJ_LAW_kept_653 (v0 : TT) (y9 : Int32) (y10 : Int32) (y11 : Int32) (y12 : Int32) (y13 : Int32) (y14 : Int64) (Q : Int32 → Prop) : Prop := P_T_slowest v0 (fun r20_ => (P_T_why v0 (fun r24_ => (((y10 = 0 → Q 0) ∧ (¬ y10 = 0 → P_LAW_about 4 v0 (fun r29_ => (((¬ (lg_cmp r29_ (Int32.toInt64 y11)) = 0 → Q 0) ∧ ((lg_cmp r29_ (Int32.toInt64 y11)) = 0 → P_LAW_about 5 v0 (fun r35_ => (((¬ (lg_cmp r35_ (Int32.toInt64 y12)) = 0 → Q 0) ∧ ((lg_cmp r35_ (Int32.toInt64 y12)) = 0 → P_LAW_about 6 v0 (fun r41_ => (((¬ (lg_cmp r41_ (Int32.toInt64 y13)) = 0 → Q 0) ∧ ((lg_cmp r41_ (Int32.toInt64 y13)) = 0 → ((¬ y12 = 0 → P_LAW_readerOf r20_ 0 v0 (fun r48_ => (((¬ (lg_cmp r48_ y14) = 0 → Q 0) ∧ ((lg_cmp r48_ y14) = 0 → P_LAW_readerOf r20_ 1 v0 (fun r54_ => (((¬ (lg_cmp r54_ 1) = 0 → Q 0) ∧ ((lg_cmp r54_ 1) = 0 → PJ_LAW_kept_746 v0 y9 y12 r24_ Q))))))))) ∧ (y12 = 0 → ((¬ r20_ = (-1) → Q 0) ∧ (r20_ = (-1) → PJ_LAW_kept_746 v0 y9 y12 r24_ Q))))))))))))))))))))))
def PL_LAW_kept_592 : Nat → TT → Int64 → Int64 → Int32 → Int32 → Int32 → Int32 → Int32 → Int64 → Int32 → Int64 → Int32 → Int32 → (Int64 → Int64 → Int32 → Int32 → Int32 → Int32 → Int32 → Int64 → Int32 → Prop) → (Int32 → Prop) → Prop
  | 0, _, _, _, _, _, _, _, _, _, _, _, _, _, _, _ => False
  | n + 1, v0, y1, y3, y9, y10, y11, y12, y13, y14, y16, y17, y20, y21, K363, Q => ((8 ≤ y21 → K363 y1 y3 y9 y10 y11 y12 y13 y14 (y16 + 1)) ∧ (¬ 8 ≤ y21 → ((y10 = 0 → K363 y1 y3 y9 y10 y11 y12 y13 y14 (y16 + 1)) ∧ (¬ y10 = 0 → ((¬ y20 = 0 → K363 y1 y3 y9 y10 y11 y12 y13 y14 (y16 + 1)) ∧ (y20 = 0 → P_LAW_table y16 y21 v0 (fun r94_ => (P_LAW_truth y21 (Int64.toInt32 y17) (zrem y21 2) v0 (fun r99_ => (((¬ (lg_cmp r94_ r99_) = 0 → (fun y1 y3 y9 y10 y11 y12 y13 y14 y16 y17 y20 y21 => PL_LAW_kept_592 n v0 y1 y3 y9 y10 y11 y12 y13 y14 y16 y17 y20 y21 K363 Q) y1 y3 y9 0 y11 y12 y13 y14 y16 y17 y20 (y21 + 1)) ∧ ((lg_cmp r94_ r99_) = 0 → (fun y1 y3 y9 y10 y11 y12 y13 y14 y16 y17 y20 y21 => PL_LAW_kept_592 n v0 y1 y3 y9 y10 y11 y12 y13 y14 y16 y17 y20 y21 K363 Q) y1 y3 y9 1 y11 y12 y13 y14 y16 y17 y20 (y21 + 1)))))))))))))
def PJ_LAW_kept_542 (v0 : TT) (y1 : Int64) (y3 : Int64) (y9 : Int32) (y11 : Int32) (y12 : Int32) (y13 : Int32) (y14 : Int64) (y16 : Int32) (y17 : Int64) (y19 : Int32) (y20 : Int32) (u0 : Int64) (u1 : Int64) (u2 : Int64) (K363 : Int64 → Int64 → Int32 → Int32 → Int32 → Int32 → Int32 → Int64 → Int32 → Prop) (Q : Int32 → Prop) : Prop := ((¬ (lg_cmp u2 (u1 - u0)) = 0 → (∃ n122_, n122_ ≤ 9 ∧ PL_LAW_kept_592 n122_ v0 y1 y3 y9 0 y11 y12 y13 y14 y16 y17 y20 0 (fun a0 a1 a2 a3 a4 a5 a6 a7 a8 => K363 a0 a1 a2 a3 a4 a5 a6 a7 a8) Q)) ∧ ((lg_cmp u2 (u1 - u0)) = 0 → P_LAW_readerOf y16 4 v0 (fun r123_ => (P_LAW_about 7 v0 (fun r128_ => (((0 < (lg_cmp r123_ r128_) → (∃ n134_, n134_ ≤ 9 ∧ PL_LAW_kept_592 n134_ v0 y1 y3 y9 0 y11 y12 y13 y14 y16 y17 y20 0 (fun a0 a1 a2 a3 a4 a5 a6 a7 a8 => K363 a0 a1 a2 a3 a4 a5 a6 a7 a8) Q)) ∧ (¬ 0 < (lg_cmp r123_ r128_) → ((y19 = 0 → (∃ n136_, n136_ ≤ 9 ∧ PL_LAW_kept_592 n136_ v0 y1 y3 y9 1 y11 y12 y13 y14 y16 y17 y20 0 (fun a0 a1 a2 a3 a4 a5 a6 a7 a8 => K363 a0 a1 a2 a3 a4 a5 a6 a7 a8) Q)) ∧ (¬ y19 = 0 → P_LAW_readerOf y16 8 v0 (fun r137_ => (((¬ (lg_cmp r137_ 0) = 0 → (∃ n143_, n143_ ≤ 9 ∧ PL_LAW_kept_592 n143_ v0 y1 y3 y9 0 y11 y12 y13 y14 y16 y17 y20 0 (fun a0 a1 a2 a3 a4 a5 a6 a7 a8 => K363 a0 a1 a2 a3 a4 a5 a6 a7 a8) Q)) ∧ ((lg_cmp r137_ 0) = 0 → (∃ n144_, n144_ ≤ 9 ∧ PL_LAW_kept_592 n144_ v0 y1 y3 y9 1 y11 y12 y13 y14 y16 y17 y20 0 (fun a0 a1 a2 a3 a4 a5 a6 a7 a8 => K363 a0 a1 a2 a3 a4 a5 a6 a7 a8) Q)))))))))))))))
def PJ_LAW_kept_519 (v0 : TT) (y1 : Int64) (y3 : Int64) (y9 : Int32) (y11 : Int32) (y12 : Int32) (y13 : Int32) (y14 : Int64) (y16 : Int32) (y17 : Int64) (y19 : Int32) (y20 : Int32) (u0 : Int64) (u1 : Int64) (K363 : Int64 → Int64 → Int32 → Int32 → Int32 → Int32 → Int32 → Int64 → Int32 → Prop) (Q : Int32 → Prop) : Prop := ((¬ (lg_cmp u1 u0) = 0 → (∃ n114_, n114_ ≤ 9 ∧ PL_LAW_kept_592 n114_ v0 y1 y3 y9 0 y11 y12 y13 y14 y16 y17 y20 0 (fun a0 a1 a2 a3 a4 a5 a6 a7 a8 => K363 a0 a1 a2 a3 a4 a5 a6 a7 a8) Q)) ∧ ((lg_cmp u1 u0) = 0 → P_LAW_readerOf y16 5 v0 (fun r115_ => (((y20 = 0 → PJ_LAW_kept_542 v0 y1 y3 y9 y11 y12 y13 y14 y16 y17 y19 y20 y17 y3 r115_ (fun a0 a1 a2 a3 a4 a5 a6 a7 a8 => K363 a0 a1 a2 a3 a4 a5 a6 a7 a8) Q) ∧ (¬ y20 = 0 → PJ_LAW_kept_542 v0 y1 y3 y9 y11 y12 y13 y14 y16 y17 y19 y20 y1 y3 r115_ (fun a0 a1 a2 a3 a4 a5 a6 a7 a8 => K363 a0 a1 a2 a3 a4 a5 a6 a7 a8) Q))))))
def PJ_LAW_kept_498 (v0 : TT) (y1 : Int64) (y3 : Int64) (y9 : Int32) (y11 : Int32) (y12 : Int32) (y13 : Int32) (y14 : Int64) (y16 : Int32) (y17 : Int64) (y19 : Int32) (y20 : Int32) (K363 : Int64 → Int64 → Int32 → Int32 → Int32 → Int32 → Int32 → Int64 → Int32 → Prop) (Q : Int32 → Prop) : Prop := P_LAW_readerOf y16 7 v0 (fun r107_ => (((y20 = 0 → PJ_LAW_kept_519 v0 y1 y3 y9 y11 y12 y13 y14 y16 y17 y19 y20 0 r107_ (fun a0 a1 a2 a3 a4 a5 a6 a7 a8 => K363 a0 a1 a2 a3 a4 a5 a6 a7 a8) Q) ∧ (¬ y20 = 0 → PJ_LAW_kept_519 v0 y1 y3 y9 y11 y12 y13 y14 y16 y17 y19 y20 (y1 - y17) r107_ (fun a0 a1 a2 a3 a4 a5 a6 a7 a8 => K363 a0 a1 a2 a3 a4 a5 a6 a7 a8) Q))))
def PJ_LAW_kept_479 (v0 : TT) (y1 : Int64) (y3 : Int64) (y9 : Int32) (y11 : Int32) (y12 : Int32) (y13 : Int32) (y16 : Int32) (y17 : Int64) (y19 : Int32) (y20 : Int32) (u0 : Int64) (K363 : Int64 → Int64 → Int32 → Int32 → Int32 → Int32 → Int32 → Int64 → Int32 → Prop) (Q : Int32 → Prop) : Prop := ((0 < (lg_cmp y17 y3) → (∃ n105_, n105_ ≤ 9 ∧ PL_LAW_kept_592 n105_ v0 y1 y3 y9 0 y11 y12 y13 u0 y16 y17 y20 0 (fun a0 a1 a2 a3 a4 a5 a6 a7 a8 => K363 a0 a1 a2 a3 a4 a5 a6 a7 a8) Q)) ∧ (¬ 0 < (lg_cmp y17 y3) → ((y19 = 0 → PJ_LAW_kept_498 v0 y1 y3 y9 y11 y12 y13 u0 y16 y17 y19 y20 (fun a0 a1 a2 a3 a4 a5 a6 a7 a8 => K363 a0 a1 a2 a3 a4 a5 a6 a7 a8) Q) ∧ (¬ y19 = 0 → ((¬ y20 = 0 → (∃ n146_, n146_ ≤ 9 ∧ PL_LAW_kept_592 n146_ v0 y1 y3 y9 0 y11 y12 y13 u0 y16 y17 y20 0 (fun a0 a1 a2 a3 a4 a5 a6 a7 a8 => K363 a0 a1 a2 a3 a4 a5 a6 a7 a8) Q)) ∧ (y20 = 0 → PJ_LAW_kept_498 v0 y1 y3 y9 y11 y12 y13 u0 y16 y17 y19 y20 (fun a0 a1 a2 a3 a4 a5 a6 a7 a8 => K363 a0 a1 a2 a3 a4 a5 a6 a7 a8) Q))))))
def PJ_LAW_kept_477 (v0 : TT) (y1 : Int64) (y3 : Int64) (y9 : Int32) (y11 : Int32) (y12 : Int32) (y13 : Int32) (y14 : Int64) (y16 : Int32) (y17 : Int64) (y19 : Int32) (y20 : Int32) (K363 : Int64 → Int64 → Int32 → Int32 → Int32 → Int32 → Int32 → Int64 → Int32 → Prop) (Q : Int32 → Prop) : Prop := PJ_LAW_kept_479 v0 y1 y3 y9 y11 y12 y13 y16 y17 y19 y20 y14 (fun a0 a1 a2 a3 a4 a5 a6 a7 a8 => K363 a0 a1 a2 a3 a4 a5 a6 a7 a8) Q
def PJ_LAW_kept_456 (v0 : TT) (y1 : Int64) (y3 : Int64) (y9 : Int32) (y11 : Int32) (y12 : Int32) (y14 : Int64) (y16 : Int32) (y17 : Int64) (y19 : Int32) (y20 : Int32) (u0 : Int32) (u1 : Int32) (K363 : Int64 → Int64 → Int32 → Int32 → Int32 → Int32 → Int32 → Int64 → Int32 → Prop) (Q : Int32 → Prop) : Prop := ((y19 = 0 → PJ_LAW_kept_477 v0 y1 y3 y9 y11 y12 (u1 + u0) y14 y16 y17 y19 y20 (fun a0 a1 a2 a3 a4 a5 a6 a7 a8 => K363 a0 a1 a2 a3 a4 a5 a6 a7 a8) Q) ∧ (¬ y19 = 0 → ((0 ≤ (lg_cmp y17 y14) → PJ_LAW_kept_477 v0 y1 y3 y9 y11 y12 (u1 + u0) y14 y16 y17 y19 y20 (fun a0 a1 a2 a3 a4 a5 a6 a7 a8 => K363 a0 a1 a2 a3 a4 a5 a6 a7 a8) Q) ∧ (¬ 0 ≤ (lg_cmp y17 y14) → PJ_LAW_kept_479 v0 y1 y3 y9 y11 y12 (u1 + u0) y16 y17 y19 y20 y17 (fun a0 a1 a2 a3 a4 a5 a6 a7 a8 => K363 a0 a1 a2 a3 a4 a5 a6 a7 a8) Q))))
def PJ_LAW_kept_441 (v0 : TT) (y1 : Int64) (y3 : Int64) (y9 : Int32) (y11 : Int32) (y13 : Int32) (y14 : Int64) (y16 : Int32) (y17 : Int64) (y19 : Int32) (y20 : Int32) (u0 : Int32) (u1 : Int32) (K363 : Int64 → Int64 → Int32 → Int32 → Int32 → Int32 → Int32 → Int64 → Int32 → Prop) (Q : Int32 → Prop) : Prop := ((y20 = 0 → PJ_LAW_kept_456 v0 y1 y3 y9 y11 (u1 + u0) y14 y16 y17 y19 y20 0 y13 (fun a0 a1 a2 a3 a4 a5 a6 a7 a8 => K363 a0 a1 a2 a3 a4 a5 a6 a7 a8) Q) ∧ (¬ y20 = 0 → PJ_LAW_kept_456 v0 y1 y3 y9 y11 (u1 + u0) y14 y16 y17 y19 y20 1 y13 (fun a0 a1 a2 a3 a4 a5 a6 a7 a8 => K363 a0 a1 a2 a3 a4 a5 a6 a7 a8) Q))
def PJ_LAW_kept_424 (v0 : TT) (y1 : Int64) (y3 : Int64) (y9 : Int32) (y11 : Int32) (y12 : Int32) (y13 : Int32) (y14 : Int64) (y16 : Int32) (y17 : Int64) (y19 : Int32) (u0 : Int32) (K363 : Int64 → Int64 → Int32 → Int32 → Int32 → Int32 → Int32 → Int64 → Int32 → Prop) (Q : Int32 → Prop) : Prop := ((y19 = 0 → PJ_LAW_kept_441 v0 y1 y3 y9 (y11 + 1) y13 y14 y16 y17 y19 u0 0 y12 (fun a0 a1 a2 a3 a4 a5 a6 a7 a8 => K363 a0 a1 a2 a3 a4 a5 a6 a7 a8) Q) ∧ (¬ y19 = 0 → PJ_LAW_kept_441 v0 y1 y3 y9 (y11 + 1) y13 y14 y16 y17 y19 u0 1 y12 (fun a0 a1 a2 a3 a4 a5 a6 a7 a8 => K363 a0 a1 a2 a3 a4 a5 a6 a7 a8) Q))
def PJ_LAW_kept_410 (v0 : TT) (y1 : Int64) (y3 : Int64) (y9 : Int32) (y11 : Int32) (y12 : Int32) (y13 : Int32) (y14 : Int64) (y16 : Int32) (y17 : Int64) (u0 : Int32) (K363 : Int64 → Int64 → Int32 → Int32 → Int32 → Int32 → Int32 → Int64 → Int32 → Prop) (Q : Int32 → Prop) : Prop := ((0 ≤ (lg_cmp y17 y1) → PJ_LAW_kept_424 v0 y1 y3 y9 y11 y12 y13 y14 y16 y17 u0 0 (fun a0 a1 a2 a3 a4 a5 a6 a7 a8 => K363 a0 a1 a2 a3 a4 a5 a6 a7 a8) Q) ∧ (¬ 0 ≤ (lg_cmp y17 y1) → PJ_LAW_kept_424 v0 y1 y3 y9 y11 y12 y13 y14 y16 y17 u0 1 (fun a0 a1 a2 a3 a4 a5 a6 a7 a8 => K363 a0 a1 a2 a3 a4 a5 a6 a7 a8) Q))
def PL_LAW_kept_363 : Nat → TT → Int64 → Int64 → Int32 → Int32 → Int32 → Int32 → Int32 → Int64 → Int32 → (Int32 → Prop) → Prop
  | 0, _, _, _, _, _, _, _, _, _, _, _ => False
  | n + 1, v0, y1, y3, y9, y10, y11, y12, y13, y14, y16, Q => ((8 ≤ y16 → PJ_LAW_kept_653 v0 y9 y10 y11 y12 y13 y14 Q) ∧ (¬ 8 ≤ y16 → ((y10 = 0 → PJ_LAW_kept_653 v0 y9 y10 y11 y12 y13 y14 Q) ∧ (¬ y10 = 0 → P_LAW_readerOf y16 0 v0 (fun r74_ => ((((lg_cmp r74_ (-9000000000000000001)) = 0 → (fun y1 y3 y9 y10 y11 y12 y13 y14 y16 => PL_LAW_kept_363 n v0 y1 y3 y9 y10 y11 y12 y13 y14 y16  Q) y1 y3 y9 y10 y11 y12 y13 y14 (y16 + 1)) ∧ (¬ (lg_cmp r74_ (-9000000000000000001)) = 0 → P_LAW_readerOf y16 1 v0 (fun r80_ => (((¬ (lg_cmp r80_ 1) = 0 → PJ_LAW_kept_410 v0 y1 y3 y9 y11 y12 y13 y14 y16 r74_ 0 (fun a0 a1 a2 a3 a4 a5 a6 a7 a8 => (fun y1 y3 y9 y10 y11 y12 y13 y14 y16 => PL_LAW_kept_363 n v0 y1 y3 y9 y10 y11 y12 y13 y14 y16  Q) a0 a1 a2 a3 a4 a5 a6 a7 a8) Q) ∧ ((lg_cmp r80_ 1) = 0 → PJ_LAW_kept_410 v0 y1 y3 y9 y11 y12 y13 y14 y16 r74_ 1 (fun a0 a1 a2 a3 a4 a5 a6 a7 a8 => (fun y1 y3 y9 y10 y11 y12 y13 y14 y16 => PL_LAW_kept_363 n v0 y1 y3 y9 y10 y11 y12 y13 y14 y16  Q) a0 a1 a2 a3 a4 a5 a6 a7 a8) Q))))))))))))
def PJ_LAW_kept_348 (v0 : TT) (y1 : Int64) (y3 : Int64) (y9 : Int32) (y10 : Int32) (Q : Int32 → Prop) : Prop := (∃ n148_, n148_ ≤ 9 ∧ PL_LAW_kept_363 n148_ v0 y1 y3 y9 y10 0 0 0 y3 0 Q)
def PL_LAW_kept_282 : Nat → TT → Int64 → Int64 → Int32 → Int32 → Int32 → (Int32 → Prop) → Prop
  | 0, _, _, _, _, _, _, _ => False
  | n + 1, v0, y1, y3, y9, y10, y11, Q => ((8 ≤ y11 → PJ_LAW_kept_348 v0 y1 y3 y9 y10 Q) ∧ (¬ 8 ≤ y11 → ((y10 = 0 → PJ_LAW_kept_348 v0 y1 y3 y9 y10 Q) ∧ (¬ y10 = 0 → P_LAW_truth y11 (Int64.toInt32 y1) 0 v0 (fun r150_ => (P_LAW_base y11 v0 (fun r155_ => (((¬ (lg_cmp r150_ r155_) = 0 → (fun y1 y3 y9 y10 y11 => PL_LAW_kept_282 n v0 y1 y3 y9 y10 y11  Q) y1 y3 y9 0 (y11 + 1)) ∧ ((lg_cmp r150_ r155_) = 0 → P_LAW_truth y11 (Int64.toInt32 y3) 0 v0 (fun r161_ => (P_LAW_truth y11 (Int64.toInt32 y3) 1 v0 (fun r166_ => (((¬ (lg_cmp r161_ r166_) = 0 → (fun y1 y3 y9 y10 y11 => PL_LAW_kept_282 n v0 y1 y3 y9 y10 y11  Q) y1 y3 y9 0 (y11 + 1)) ∧ ((lg_cmp r161_ r166_) = 0 → (fun y1 y3 y9 y10 y11 => PL_LAW_kept_282 n v0 y1 y3 y9 y10 y11  Q) y1 y3 y9 1 (y11 + 1)))))))))))))))))
def PJ_LAW_kept_249 (v0 : TT) (y1 : Int64) (y3 : Int64) (y5 : Int64) (y7 : Int64) (y9 : Int32) (y10 : Int32) (Q : Int32 → Prop) : Prop := ((y10 = 0 → (∃ n172_, n172_ ≤ 9 ∧ PL_LAW_kept_282 n172_ v0 y1 y3 y9 0 0 Q)) ∧ (¬ y10 = 0 → ((¬ (lg_cmp y5 y3) = 0 → (∃ n174_, n174_ ≤ 9 ∧ PL_LAW_kept_282 n174_ v0 y1 y3 y9 0 0 Q)) ∧ ((lg_cmp y5 y3) = 0 → P_LAW_about 3 v0 (fun r175_ => (((¬ (lg_cmp r175_ y7) = 0 → (∃ n181_, n181_ ≤ 9 ∧ PL_LAW_kept_282 n181_ v0 y1 y3 y9 0 0 Q)) ∧ ((lg_cmp r175_ y7) = 0 → (∃ n182_, n182_ ≤ 9 ∧ PL_LAW_kept_282 n182_ v0 y1 y3 y9 1 0 Q)))))))))
def PJ_LAW_kept_227 (v0 : TT) (y1 : Int64) (y3 : Int64) (y5 : Int64) (y7 : Int64) (y9 : Int32) (y11 : Int32) (y12 : Int64) (y14 : Int64) (u0 : Int32) (K32 : Int64 → Int64 → Int64 → Int64 → Int32 → Int32 → Int32 → Prop) (Q : Int32 → Prop) : Prop := K32 y1 y3 (y5 + y12) (y7 + y14) y9 u0 (y11 + 1)
def PJ_LAW_kept_226 (v0 : TT) (y1 : Int64) (y3 : Int64) (y5 : Int64) (y7 : Int64) (y9 : Int32) (y11 : Int32) (y12 : Int64) (y14 : Int64) (K32 : Int64 → Int64 → Int64 → Int64 → Int32 → Int32 → Int32 → Prop) (Q : Int32 → Prop) : Prop := PJ_LAW_kept_227 v0 y1 y3 y5 y7 y9 y11 y12 y14 0 (fun a0 a1 a2 a3 a4 a5 a6 => K32 a0 a1 a2 a3 a4 a5 a6) Q
def PJ_LAW_kept_218 (v0 : TT) (y1 : Int64) (y3 : Int64) (y5 : Int64) (y7 : Int64) (y9 : Int32) (y11 : Int32) (y12 : Int64) (y14 : Int64) (u0 : Int64) (u1 : Int64) (K32 : Int64 → Int64 → Int64 → Int64 → Int32 → Int32 → Int32 → Prop) (Q : Int32 → Prop) : Prop := ((¬ (lg_cmp u1 u0) = 0 → PJ_LAW_kept_226 v0 y1 y3 y5 y7 y9 y11 y12 y14 (fun a0 a1 a2 a3 a4 a5 a6 => K32 a0 a1 a2 a3 a4 a5 a6) Q) ∧ ((lg_cmp u1 u0) = 0 → PJ_LAW_kept_227 v0 y1 y3 y5 y7 y9 y11 y12 y14 1 (fun a0 a1 a2 a3 a4 a5 a6 => K32 a0 a1 a2 a3 a4 a5 a6) Q))
def PJ_LAW_kept_184 (v0 : TT) (y1 : Int64) (y3 : Int64) (y5 : Int64) (y7 : Int64) (y9 : Int32) (y11 : Int32) (y12 : Int64) (y14 : Int64) (u0 : Int64) (u1 : Int64) (K32 : Int64 → Int64 → Int64 → Int64 → Int32 → Int32 → Int32 → Prop) (Q : Int32 → Prop) : Prop := ((¬ (lg_cmp u1 u0) = 0 → PJ_LAW_kept_226 v0 y1 y3 y5 y7 y9 y11 y12 y14 (fun a0 a1 a2 a3 a4 a5 a6 => K32 a0 a1 a2 a3 a4 a5 a6) Q) ∧ ((lg_cmp u1 u0) = 0 → P_LAW_segmentOf y11 5 v0 (fun r212_ => (P_LAW_rowOf ((Int64.toInt32 (y5 + y12)) - 1) 5 v0 (fun r217_ => ((((lg_cmp r217_ 0) ≤ 0 → PJ_LAW_kept_218 v0 y1 y3 y5 y7 y9 y11 y12 y14 0 r212_ (fun a0 a1 a2 a3 a4 a5 a6 => K32 a0 a1 a2 a3 a4 a5 a6) Q) ∧ (¬ (lg_cmp r217_ 0) ≤ 0 → PJ_LAW_kept_218 v0 y1 y3 y5 y7 y9 y11 y12 y14 1 r212_ (fun a0 a1 a2 a3 a4 a5 a6 => K32 a0 a1 a2 a3 a4 a5 a6) Q))))))))
def PL_LAW_kept_61 : Nat → TT → Int64 → Int64 → Int64 → Int64 → Int32 → Int32 → Int32 → Int64 → Int64 → Int32 → (Int64 → Int64 → Int64 → Int64 → Int32 → Int32 → Int32 → Prop) → (Int32 → Prop) → Prop
  | 0, _, _, _, _, _, _, _, _, _, _, _, _, _ => False
  | n + 1, v0, y1, y3, y5, y7, y9, y10, y11, y12, y14, y16, K32, Q => ((0 ≤ (lg_cmp (Int32.toInt64 y16) (y5 + y12)) → ((y10 = 0 → PJ_LAW_kept_226 v0 y1 y3 y5 y7 y9 y11 y12 y14 (fun a0 a1 a2 a3 a4 a5 a6 => K32 a0 a1 a2 a3 a4 a5 a6) Q) ∧ (¬ y10 = 0 → P_LAW_segmentOf y11 0 v0 (fun r191_ => (((¬ (lg_cmp r191_ y5) = 0 → PJ_LAW_kept_226 v0 y1 y3 y5 y7 y9 y11 y12 y14 (fun a0 a1 a2 a3 a4 a5 a6 => K32 a0 a1 a2 a3 a4 a5 a6) Q) ∧ ((lg_cmp r191_ y5) = 0 → (((lg_cmp y12 0) ≤ 0 → PJ_LAW_kept_226 v0 y1 y3 y5 y7 y9 y11 y12 y14 (fun a0 a1 a2 a3 a4 a5 a6 => K32 a0 a1 a2 a3 a4 a5 a6) Q) ∧ (¬ (lg_cmp y12 0) ≤ 0 → P_LAW_segmentOf y11 2 v0 (fun r198_ => (((¬ (lg_cmp r198_ y14) = 0 → PJ_LAW_kept_226 v0 y1 y3 y5 y7 y9 y11 y12 y14 (fun a0 a1 a2 a3 a4 a5 a6 => K32 a0 a1 a2 a3 a4 a5 a6) Q) ∧ ((lg_cmp r198_ y14) = 0 → ((0 < (lg_cmp y14 200) → PJ_LAW_kept_226 v0 y1 y3 y5 y7 y9 y11 y12 y14 (fun a0 a1 a2 a3 a4 a5 a6 => K32 a0 a1 a2 a3 a4 a5 a6) Q) ∧ (¬ 0 < (lg_cmp y14 200) → P_LAW_segmentOf y11 3 v0 (fun r205_ => (((y9 ≤ (y11 + 1) → PJ_LAW_kept_184 v0 y1 y3 y5 y7 y9 y11 y12 y14 0 r205_ (fun a0 a1 a2 a3 a4 a5 a6 => K32 a0 a1 a2 a3 a4 a5 a6) Q) ∧ (¬ y9 ≤ (y11 + 1) → PJ_LAW_kept_184 v0 y1 y3 y5 y7 y9 y11 y12 y14 1 r205_ (fun a0 a1 a2 a3 a4 a5 a6 => K32 a0 a1 a2 a3 a4 a5 a6) Q))))))))))))))))))) ∧ (¬ 0 ≤ (lg_cmp (Int32.toInt64 y16) (y5 + y12)) → P_LAW_rowOf y16 2 v0 (fun r224_ => (((y10 = 0 → (fun y1 y3 y5 y7 y9 y10 y11 y12 y14 y16 => PL_LAW_kept_61 n v0 y1 y3 y5 y7 y9 y10 y11 y12 y14 y16 K32 Q) y1 y3 y5 y7 y9 0 y11 y12 (y14 + r224_) (y16 + 1)) ∧ (¬ y10 = 0 → P_LAW_rowOf y16 4 v0 (fun r230_ => (((¬ (lg_cmp r230_ y5) = 0 → (fun y1 y3 y5 y7 y9 y10 y11 y12 y14 y16 => PL_LAW_kept_61 n v0 y1 y3 y5 y7 y9 y10 y11 y12 y14 y16 K32 Q) y1 y3 y5 y7 y9 0 y11 y12 (y14 + r224_) (y16 + 1)) ∧ ((lg_cmp r230_ y5) = 0 → (fun y1 y3 y5 y7 y9 y10 y11 y12 y14 y16 => PL_LAW_kept_61 n v0 y1 y3 y5 y7 y9 y10 y11 y12 y14 y16 K32 Q) y1 y3 y5 y7 y9 1 y11 y12 (y14 + r224_) (y16 + 1)))))))))))
def PL_LAW_kept_32 : Nat → TT → Int64 → Int64 → Int64 → Int64 → Int32 → Int32 → Int32 → (Int32 → Prop) → Prop
  | 0, _, _, _, _, _, _, _, _, _ => False
  | n + 1, v0, y1, y3, y5, y7, y9, y10, y11, Q => ((y9 ≤ y11 → PJ_LAW_kept_249 v0 y1 y3 y5 y7 y9 y10 Q) ∧ (¬ y9 ≤ y11 → ((y10 = 0 → PJ_LAW_kept_249 v0 y1 y3 y5 y7 y9 y10 Q) ∧ (¬ y10 = 0 → P_LAW_segmentOf y11 1 v0 (fun r184_ => ((∃ n236_, n236_ ≤ 201 ∧ PL_LAW_kept_61 n236_ v0 y1 y3 y5 y7 y9 y10 y11 r184_ 0 (Int64.toInt32 y5) (fun a0 a1 a2 a3 a4 a5 a6 => (fun y1 y3 y5 y7 y9 y10 y11 => PL_LAW_kept_32 n v0 y1 y3 y5 y7 y9 y10 y11  Q) a0 a1 a2 a3 a4 a5 a6) Q)))))))
def P_LAW_kept (v0 : TT) (Q : Int32 → Prop) : Prop := P_LAW_about 1 v0 (fun r1_ => (P_LAW_about 0 v0 (fun r6_ => (P_LAW_about 2 v0 (fun r11_ => ((∃ n237_, n237_ ≤ 201 ∧ PL_LAW_kept_32 n237_ v0 r1_ r6_ r1_ 0 (Int64.toInt32 r11_) 1 0 Q)))))))
set_option maxRecDepth 100000 in
theorem s_LAW_kept {l : Launch} {D : zD} {B : Nat} {sa : Nat → Nat} (hfl : l.stackTraces = false) {z : Nat} {G : zG} {b0 : Nat} {v0 : TT} {Q : Int32 → Prop} (h0 : TA b0 v0 G) (h : P_LAW_kept v0 Q) : zSp l D B sa yL_kept cL_kept 22 (some .boolean) 8 151 82279 493674 [.ref b0] z G (zRi fun r z' G' => G = G' ∧ Q r) := by
  unfold P_LAW_kept at h
  refine z_ofW (by decide +kernel) hfl [some (.ref b0), none, none, none, none, none, none, none, none, none, none, none, none, none, none, none, none, none, none, none, none, none] rfl (Nat.le_of_ble_eq_true rfl) (fun p e s m args below meth c O hret hlk hnm => ?_)
  have O : zO p l s m args c D B sa 22 cL_kept RL := O
  have hk0 : 0 + (82279 + 0) ≤ 82279 ∧ 0 + 6 * (82279 + 0) ≤ 493674 := ⟨Nat.le_of_ble_eq_true rfl, Nat.le_of_ble_eq_true rfl⟩
  have HJ782 : ∀     (y17 : Int32) (z9 k9 m9 : Nat) (hk : k9 + (1 + 0) ≤ 82279 ∧ m9 + 6 * (1 + 0) ≤ 493674) (h : PJ_LAW_kept_782 v0 y17 Q), zT p l e (zrm 8 151 82279 493674) s m args below meth c (zEnd below D B (zRi fun r z' G' => G = G' ∧ Q r) args s 82279 493674) D B 22 k9 m9 782 [] [some (.ref b0), none, none, none, none, none, none, none, none, none, none, none, none, none, none, none, none, some (.int y17), none, none, none, none] z9 G := by
    intro  y17 z9 k9 m9 hk h
    unfold PJ_LAW_kept_782 at h
    refine z_iload O dL_kept_782 rfl ?_
    refine z_iconst (v := 2) O dL_kept_784 (by decide) ?_
    refine z_icmp_ne (tgt := 799) O dL_kept_785 (by decide) (fun c64_ => ?_) (fun c64_ => ?_)
    · have h := h.1 c64_
      refine z_iconst (v := 1) O dL_kept_799 (by decide) ?_
      refine z_goto (tgt := 804) O dL_kept_800 (by decide) ?_
      exact z_zret O hret rfl hlk dL_kept_804 (lk_k hk) (lk_n hk) ⟨_, rfl, rfl, h⟩
    · have h := h.2 c64_
      refine z_aload_n O dL_kept_788 rfl rfl ?_
      refine z_iconst (v := 0) O dL_kept_789 (by decide) ?_
      refine z_iconst (v := 4) O dL_kept_790 (by decide) ?_
      have hk66_ := lk_step 1 0 hk (Nat.le_of_ble_eq_true rfl)
      refine z_callHl (As := [.ref b0, .int 0, .int 4]) (st := []) O (s_LAW_segmentOf hfl h0 h) wh_L_segmentOf wl_RL_134 dL_kept_791 rfl rfl ⟨Nat.le_of_ble_eq_true rfl, Nat.le_of_ble_eq_true rfl⟩ (Nat.le_of_ble_eq_true rfl) ⟨lk_k hk66_, lk_n hk66_⟩ (fun r65_ z67_ G68_ hq69_ => ?_)
      obtain ⟨rfl, h⟩ := hq69_
      refine z_lconst (v := 0) O dL_kept_794 (by decide) ?_
      refine z_lcmp O dL_kept_795 ?_
      refine z_if_ne (tgt := 803) O dL_kept_796 (by decide) (fun c70_ => ?_) (fun c70_ => ?_)
      · have h := h.1 c70_
        refine z_iconst (v := 0) O dL_kept_803 (by decide) ?_
        exact z_zret O hret rfl hlk dL_kept_804 (lk_k hk66_) (lk_n hk66_) ⟨_, rfl, rfl, h⟩
      · have h := h.2 c70_
        refine z_iconst (v := 1) O dL_kept_799 (by decide) ?_
        refine z_goto (tgt := 804) O dL_kept_800 (by decide) ?_
        exact z_zret O hret rfl hlk dL_kept_804 (lk_k hk66_) (lk_n hk66_) ⟨_, rfl, rfl, h⟩
  have HJ768 : ∀     (y12 : Int32) (y17 : Int32) (u0 : Int32) (u1 : Int32) (z9 k9 m9 : Nat) (hk : k9 + (1 + 0) ≤ 82279 ∧ m9 + 6 * (1 + 0) ≤ 493674) (h : PJ_LAW_kept_768 v0 y12 y17 u0 u1 Q), zT p l e (zrm 8 151 82279 493674) s m args below meth c (zEnd below D B (zRi fun r z' G' => G = G' ∧ Q r) args s 82279 493674) D B 22 k9 m9 768 [.int u0, .int u1] [some (.ref b0), none, none, none, none, none, none, none, none, none, none, none, some (.int y12), none, none, none, none, some (.int y17), none, none, none, none] z9 G := by
    intro  y12 y17 u0 u1 z9 k9 m9 hk h
    unfold PJ_LAW_kept_768 at h
    refine z_icmp_ne (tgt := 803) O dL_kept_768 (by decide) (fun c62_ => ?_) (fun c62_ => ?_)
    · have h := h.1 c62_
      refine z_iconst (v := 0) O dL_kept_803 (by decide) ?_
      exact z_zret O hret rfl hlk dL_kept_804 (lk_k hk) (lk_n hk) ⟨_, rfl, rfl, h⟩
    · have h := h.2 c62_
      refine z_iload O dL_kept_771 rfl ?_
      refine z_iconst (v := 3) O dL_kept_773 (by decide) ?_
      refine z_icmp_ne (tgt := 782) O dL_kept_774 (by decide) (fun c63_ => ?_) (fun c63_ => ?_)
      · have h := h.1 c63_
        exact z_subL (L' := [some (.ref b0), none, none, none, none, none, none, none, none, none, none, none, none, none, none, none, none, some (.int y17), none, none, none, none]) (zLe.sub (And.intro rfl (And.intro rfl True.intro))) (HJ782 y17 _ _ _ (lk_weak hk (c' := 1) (Nat.le_of_ble_eq_true rfl) (Nat.le_refl _)) h)
      · have h := h.2 c63_
        refine z_iload O dL_kept_777 rfl ?_
        refine z_if_le (tgt := 803) O dL_kept_779 (by decide) (fun c71_ => ?_) (fun c71_ => ?_)
        · have h := h.1 c71_
          refine z_iconst (v := 0) O dL_kept_803 (by decide) ?_
          exact z_zret O hret rfl hlk dL_kept_804 (lk_k hk) (lk_n hk) ⟨_, rfl, rfl, h⟩
        · have h := h.2 c71_
          exact z_subL (L' := [some (.ref b0), none, none, none, none, none, none, none, none, none, none, none, none, none, none, none, none, some (.int y17), none, none, none, none]) (zLe.sub (And.intro rfl (And.intro rfl True.intro))) (HJ782 y17 _ _ _ (lk_weak hk (c' := 1) (Nat.le_of_ble_eq_true rfl) (Nat.le_refl _)) h)
  have HJ757 : ∀     (y12 : Int32) (y17 : Int32) (u0 : Int32) (z9 k9 m9 : Nat) (hk : k9 + (1 + 0) ≤ 82279 ∧ m9 + 6 * (1 + 0) ≤ 493674) (h : PJ_LAW_kept_757 v0 y12 y17 u0 Q), zT p l e (zrm 8 151 82279 493674) s m args below meth c (zEnd below D B (zRi fun r z' G' => G = G' ∧ Q r) args s 82279 493674) D B 22 k9 m9 757 [.int u0] [some (.ref b0), none, none, none, none, none, none, none, none, none, none, none, some (.int y12), none, none, none, none, some (.int y17), none, none, none, none] z9 G := by
    intro  y12 y17 u0 z9 k9 m9 hk h
    unfold PJ_LAW_kept_757 at h
    refine z_iload O dL_kept_757 rfl ?_
    refine z_iconst (v := 1) O dL_kept_759 (by decide) ?_
    refine z_icmp_ne (tgt := 767) O dL_kept_760 (by decide) (fun c61_ => ?_) (fun c61_ => ?_)
    · have h := h.1 c61_
      refine z_iconst (v := 0) O dL_kept_767 (by decide) ?_
      exact z_subL (L' := [some (.ref b0), none, none, none, none, none, none, none, none, none, none, none, some (.int y12), none, none, none, none, some (.int y17), none, none, none, none]) (zLe.sub (And.intro rfl (And.intro rfl (And.intro rfl True.intro)))) (HJ768 y12 y17 0 u0 _ _ _ (lk_weak hk (c' := 1) (Nat.le_of_ble_eq_true rfl) (Nat.le_refl _)) h)
    · have h := h.2 c61_
      refine z_iconst (v := 1) O dL_kept_763 (by decide) ?_
      refine z_goto (tgt := 768) O dL_kept_764 (by decide) ?_
      exact z_subL (L' := [some (.ref b0), none, none, none, none, none, none, none, none, none, none, none, some (.int y12), none, none, none, none, some (.int y17), none, none, none, none]) (zLe.sub (And.intro rfl (And.intro rfl (And.intro rfl True.intro)))) (HJ768 y12 y17 1 u0 _ _ _ (lk_weak hk (c' := 1) (Nat.le_of_ble_eq_true rfl) (Nat.le_refl _)) h)
  have HJ746 : ∀     (y9 : Int32) (y12 : Int32) (y17 : Int32) (z9 k9 m9 : Nat) (hk : k9 + (1 + 0) ≤ 82279 ∧ m9 + 6 * (1 + 0) ≤ 493674) (h : PJ_LAW_kept_746 v0 y9 y12 y17 Q), zT p l e (zrm 8 151 82279 493674) s m args below meth c (zEnd below D B (zRi fun r z' G' => G = G' ∧ Q r) args s 82279 493674) D B 22 k9 m9 746 [] [some (.ref b0), none, none, none, none, none, none, none, none, some (.int y9), none, none, some (.int y12), none, none, none, none, some (.int y17), none, none, none, none] z9 G := by
    intro  y9 y12 y17 z9 k9 m9 hk h
    unfold PJ_LAW_kept_746 at h
    refine z_iload O dL_kept_746 rfl ?_
    refine z_iconst (v := 2) O dL_kept_748 (by decide) ?_
    refine z_icmp_ge (tgt := 756) O dL_kept_749 (by decide) (fun c60_ => ?_) (fun c60_ => ?_)
    · have h := h.1 c60_
      refine z_iconst (v := 0) O dL_kept_756 (by decide) ?_
      exact z_subL (L' := [some (.ref b0), none, none, none, none, none, none, none, none, none, none, none, some (.int y12), none, none, none, none, some (.int y17), none, none, none, none]) (zLe.sub (And.intro rfl (And.intro rfl (And.intro rfl True.intro)))) (HJ757 y12 y17 0 _ _ _ (lk_weak hk (c' := 1) (Nat.le_of_ble_eq_true rfl) (Nat.le_refl _)) h)
    · have h := h.2 c60_
      refine z_iconst (v := 1) O dL_kept_752 (by decide) ?_
      refine z_goto (tgt := 757) O dL_kept_753 (by decide) ?_
      exact z_subL (L' := [some (.ref b0), none, none, none, none, none, none, none, none, none, none, none, some (.int y12), none, none, none, none, some (.int y17), none, none, none, none]) (zLe.sub (And.intro rfl (And.intro rfl (And.intro rfl True.intro)))) (HJ757 y12 y17 1 _ _ _ (lk_weak hk (c' := 1) (Nat.le_of_ble_eq_true rfl) (Nat.le_refl _)) h)
  have HJ653 : ∀     (y9 : Int32) (y10 : Int32) (y11 : Int32) (y12 : Int32) (y13 : Int32) (y14 : Int64) (z9 k9 m9 : Nat) (hk : k9 + (6 + 0) ≤ 82279 ∧ m9 + 6 * (6 + 0) ≤ 493674) (h : PJ_LAW_kept_653 v0 y9 y10 y11 y12 y13 y14 Q), zT p l e (zrm 8 151 82279 493674) s m args below meth c (zEnd below D B (zRi fun r z' G' => G = G' ∧ Q r) args s 82279 493674) D B 22 k9 m9 653 [] [some (.ref b0), none, none, none, none, none, none, none, none, some (.int y9), some (.int y10), some (.int y11), some (.int y12), some (.int y13), some (.long y14), none, none, none, none, none, none, none] z9 G := by
    intro  y9 y10 y11 y12 y13 y14 z9 k9 m9 hk h
    unfold PJ_LAW_kept_653 at h
    refine z_aload_n O dL_kept_653 rfl rfl ?_
    refine z_callVi (As := []) (st := []) O (s_T_slowest hfl h0 h) wy_X5_slowest wl_RL_178 dL_kept_654 rfl rfl (T_obj h0) ⟨by decide, rfl⟩ ⟨Nat.le_of_ble_eq_true rfl, Nat.le_of_ble_eq_true rfl⟩ (Nat.le_of_ble_eq_true rfl) ⟨lk_k hk, lk_n hk⟩ (fun r20_ z21_ G22_ hq23_ => ?_)
    obtain ⟨rfl, rfl, h⟩ := hq23_
    refine z_istore (L' := [some (.ref b0), none, none, none, none, none, none, none, none, some (.int y9), some (.int y10), some (.int y11), some (.int y12), some (.int y13), some (.long y14), none, some (.int r20_), none, none, none, none, none]) O dL_kept_657 (by decide) rfl ?_
    refine z_aload_n O dL_kept_659 rfl rfl ?_
    refine z_callVi (As := []) (st := []) O (s_T_why hfl h0 h) wy_X5_why wl_RL_181 dL_kept_660 rfl rfl (T_obj h0) ⟨by decide, rfl⟩ ⟨Nat.le_of_ble_eq_true rfl, Nat.le_of_ble_eq_true rfl⟩ (Nat.le_of_ble_eq_true rfl) ⟨lk_k hk, lk_n hk⟩ (fun r24_ z25_ G26_ hq27_ => ?_)
    obtain ⟨rfl, rfl, h⟩ := hq27_
    refine z_istore (L' := [some (.ref b0), none, none, none, none, none, none, none, none, some (.int y9), some (.int y10), some (.int y11), some (.int y12), some (.int y13), some (.long y14), none, some (.int r20_), some (.int r24_), none, none, none, none]) O dL_kept_663 (by decide) rfl ?_
    refine z_iload O dL_kept_665 rfl ?_
    refine z_if_eq (tgt := 803) O dL_kept_667 (by decide) (fun c28_ => ?_) (fun c28_ => ?_)
    · have h := h.1 c28_
      refine z_iconst (v := 0) O dL_kept_803 (by decide) ?_
      exact z_zret O hret rfl hlk dL_kept_804 (lk_k hk) (lk_n hk) ⟨_, rfl, rfl, h⟩
    · have h := h.2 c28_
      refine z_aload_n O dL_kept_670 rfl rfl ?_
      refine z_iconst (v := 4) O dL_kept_671 (by decide) ?_
      have hk30_ := lk_step 1 5 hk (Nat.le_of_ble_eq_true rfl)
      refine z_callHl (As := [.ref b0, .int 4]) (st := []) O (s_LAW_about hfl h0 h) wh_L_about wl_RL_110 dL_kept_672 rfl rfl ⟨Nat.le_of_ble_eq_true rfl, Nat.le_of_ble_eq_true rfl⟩ (Nat.le_of_ble_eq_true rfl) ⟨lk_k hk30_, lk_n hk30_⟩ (fun r29_ z31_ G32_ hq33_ => ?_)
      obtain ⟨rfl, h⟩ := hq33_
      refine z_iload O dL_kept_675 rfl ?_
      refine z_i2l O dL_kept_677 ?_
      refine z_lcmp O dL_kept_678 ?_
      refine z_if_ne (tgt := 803) O dL_kept_679 (by decide) (fun c34_ => ?_) (fun c34_ => ?_)
      · have h := h.1 c34_
        refine z_iconst (v := 0) O dL_kept_803 (by decide) ?_
        exact z_zret O hret rfl hlk dL_kept_804 (lk_k hk30_) (lk_n hk30_) ⟨_, rfl, rfl, h⟩
      · have h := h.2 c34_
        refine z_aload_n O dL_kept_682 rfl rfl ?_
        refine z_iconst (v := 5) O dL_kept_683 (by decide) ?_
        have hk36_ := lk_step 1 4 hk30_ (Nat.le_of_ble_eq_true rfl)
        refine z_callHl (As := [.ref b0, .int 5]) (st := []) O (s_LAW_about hfl h0 h) wh_L_about wl_RL_110 dL_kept_684 rfl rfl ⟨Nat.le_of_ble_eq_true rfl, Nat.le_of_ble_eq_true rfl⟩ (Nat.le_of_ble_eq_true rfl) ⟨lk_k hk36_, lk_n hk36_⟩ (fun r35_ z37_ G38_ hq39_ => ?_)
        obtain ⟨rfl, h⟩ := hq39_
        refine z_iload O dL_kept_687 rfl ?_
        refine z_i2l O dL_kept_689 ?_
        refine z_lcmp O dL_kept_690 ?_
        refine z_if_ne (tgt := 803) O dL_kept_691 (by decide) (fun c40_ => ?_) (fun c40_ => ?_)
        · have h := h.1 c40_
          refine z_iconst (v := 0) O dL_kept_803 (by decide) ?_
          exact z_zret O hret rfl hlk dL_kept_804 (lk_k hk36_) (lk_n hk36_) ⟨_, rfl, rfl, h⟩
        · have h := h.2 c40_
          refine z_aload_n O dL_kept_694 rfl rfl ?_
          refine z_bipush (v := 6) O dL_kept_695 (by decide) ?_
          have hk42_ := lk_step 1 3 hk36_ (Nat.le_of_ble_eq_true rfl)
          refine z_callHl (As := [.ref b0, .int 6]) (st := []) O (s_LAW_about hfl h0 h) wh_L_about wl_RL_110 dL_kept_697 rfl rfl ⟨Nat.le_of_ble_eq_true rfl, Nat.le_of_ble_eq_true rfl⟩ (Nat.le_of_ble_eq_true rfl) ⟨lk_k hk42_, lk_n hk42_⟩ (fun r41_ z43_ G44_ hq45_ => ?_)
          obtain ⟨rfl, h⟩ := hq45_
          refine z_iload O dL_kept_700 rfl ?_
          refine z_i2l O dL_kept_702 ?_
          refine z_lcmp O dL_kept_703 ?_
          refine z_if_ne (tgt := 803) O dL_kept_704 (by decide) (fun c46_ => ?_) (fun c46_ => ?_)
          · have h := h.1 c46_
            refine z_iconst (v := 0) O dL_kept_803 (by decide) ?_
            exact z_zret O hret rfl hlk dL_kept_804 (lk_k hk42_) (lk_n hk42_) ⟨_, rfl, rfl, h⟩
          · have h := h.2 c46_
            refine z_iload O dL_kept_707 rfl ?_
            refine z_if_ne (tgt := 721) O dL_kept_709 (by decide) (fun c47_ => ?_) (fun c47_ => ?_)
            · have h := h.1 c47_
              refine z_aload_n O dL_kept_721 rfl rfl ?_
              refine z_iload O dL_kept_722 rfl ?_
              refine z_iconst (v := 0) O dL_kept_724 (by decide) ?_
              have hk49_ := lk_step 1 2 hk42_ (Nat.le_of_ble_eq_true rfl)
              refine z_callHl (As := [.ref b0, .int r20_, .int 0]) (st := []) O (s_LAW_readerOf hfl h0 h) wh_L_readerOf wl_RL_121 dL_kept_725 rfl rfl ⟨Nat.le_of_ble_eq_true rfl, Nat.le_of_ble_eq_true rfl⟩ (Nat.le_of_ble_eq_true rfl) ⟨lk_k hk49_, lk_n hk49_⟩ (fun r48_ z50_ G51_ hq52_ => ?_)
              obtain ⟨rfl, h⟩ := hq52_
              refine z_lload O dL_kept_728 rfl ?_
              refine z_lcmp O dL_kept_730 ?_
              refine z_if_ne (tgt := 803) O dL_kept_731 (by decide) (fun c53_ => ?_) (fun c53_ => ?_)
              · have h := h.1 c53_
                refine z_iconst (v := 0) O dL_kept_803 (by decide) ?_
                exact z_zret O hret rfl hlk dL_kept_804 (lk_k hk49_) (lk_n hk49_) ⟨_, rfl, rfl, h⟩
              · have h := h.2 c53_
                refine z_aload_n O dL_kept_734 rfl rfl ?_
                refine z_iload O dL_kept_735 rfl ?_
                refine z_iconst (v := 1) O dL_kept_737 (by decide) ?_
                have hk55_ := lk_step 1 1 hk49_ (Nat.le_of_ble_eq_true rfl)
                refine z_callHl (As := [.ref b0, .int r20_, .int 1]) (st := []) O (s_LAW_readerOf hfl h0 h) wh_L_readerOf wl_RL_121 dL_kept_738 rfl rfl ⟨Nat.le_of_ble_eq_true rfl, Nat.le_of_ble_eq_true rfl⟩ (Nat.le_of_ble_eq_true rfl) ⟨lk_k hk55_, lk_n hk55_⟩ (fun r54_ z56_ G57_ hq58_ => ?_)
                obtain ⟨rfl, h⟩ := hq58_
                refine z_lconst (v := 1) O dL_kept_741 (by decide) ?_
                refine z_lcmp O dL_kept_742 ?_
                refine z_if_ne (tgt := 803) O dL_kept_743 (by decide) (fun c59_ => ?_) (fun c59_ => ?_)
                · have h := h.1 c59_
                  refine z_iconst (v := 0) O dL_kept_803 (by decide) ?_
                  exact z_zret O hret rfl hlk dL_kept_804 (lk_k hk55_) (lk_n hk55_) ⟨_, rfl, rfl, h⟩
                · have h := h.2 c59_
                  exact z_subL (L' := [some (.ref b0), none, none, none, none, none, none, none, none, some (.int y9), none, none, some (.int y12), none, none, none, none, some (.int r24_), none, none, none, none]) (zLe.sub (And.intro rfl (And.intro rfl (And.intro rfl (And.intro rfl True.intro))))) (HJ746 y9 y12 r24_ _ _ _ (lk_weak hk55_ (c' := 1) (Nat.le_of_ble_eq_true rfl) (Nat.le_refl _)) h)
            · have h := h.2 c47_
              refine z_iload O dL_kept_712 rfl ?_
              refine z_iconst (v := (-1)) O dL_kept_714 (by decide) ?_
              refine z_icmp_ne (tgt := 803) O dL_kept_715 (by decide) (fun c72_ => ?_) (fun c72_ => ?_)
              · have h := h.1 c72_
                refine z_iconst (v := 0) O dL_kept_803 (by decide) ?_
                exact z_zret O hret rfl hlk dL_kept_804 (lk_k hk42_) (lk_n hk42_) ⟨_, rfl, rfl, h⟩
              · have h := h.2 c72_
                refine z_goto (tgt := 746) O dL_kept_718 (by decide) ?_
                exact z_subL (L' := [some (.ref b0), none, none, none, none, none, none, none, none, some (.int y9), none, none, some (.int y12), none, none, none, none, some (.int r24_), none, none, none, none]) (zLe.sub (And.intro rfl (And.intro rfl (And.intro rfl (And.intro rfl True.intro))))) (HJ746 y9 y12 r24_ _ _ _ (lk_weak hk42_ (c' := 1) (Nat.le_of_ble_eq_true rfl) (Nat.le_refl _)) h)
  have HL592 : ∀ (n9 : Nat)  (K363 : Int64 → Int64 → Int32 → Int32 → Int32 → Int32 → Int32 → Int64 → Int32 → Prop) (Y363 : Nat) (hK363 : ∀ (a0 : Int64) (a1 : Int64) (a2 : Int32) (a3 : Int32) (a4 : Int32) (a5 : Int32) (a6 : Int32) (a7 : Int64) (a8 : Int32) (z9 k9 m9 : Nat) (hk9 : k9 + (6 + Y363) ≤ 82279 ∧ m9 + 6 * (6 + Y363) ≤ 493674), K363 a0 a1 a2 a3 a4 a5 a6 a7 a8 → zT p l e (zrm 8 151 82279 493674) s m args below meth c (zEnd below D B (zRi fun r z' G' => G = G' ∧ Q r) args s 82279 493674) D B 22 k9 m9 363 [] [some (.ref b0), some (.long a0), none, some (.long a1), none, none, none, none, none, some (.int a2), some (.int a3), some (.int a4), some (.int a5), some (.int a6), some (.long a7), none, some (.int a8), none, none, none, none, none] z9 G) (y1 : Int64) (y3 : Int64) (y9 : Int32) (y10 : Int32) (y11 : Int32) (y12 : Int32) (y13 : Int32) (y14 : Int64) (y16 : Int32) (y17 : Int64) (y20 : Int32) (y21 : Int32) (z9 k9 m9 : Nat) (hk : k9 + (6 + (n9 * 2 + Y363)) ≤ 82279 ∧ m9 + 6 * (6 + (n9 * 2 + Y363)) ≤ 493674) (h : PL_LAW_kept_592 n9 v0 y1 y3 y9 y10 y11 y12 y13 y14 y16 y17 y20 y21 K363 Q), zT p l e (zrm 8 151 82279 493674) s m args below meth c (zEnd below D B (zRi fun r z' G' => G = G' ∧ Q r) args s 82279 493674) D B 22 k9 m9 592 [] [some (.ref b0), some (.long y1), none, some (.long y3), none, none, none, none, none, some (.int y9), some (.int y10), some (.int y11), some (.int y12), some (.int y13), some (.long y14), none, some (.int y16), some (.long y17), none, none, some (.int y20), some (.int y21)] z9 G := by
    intro n9 K363 Y363 hK363
    induction n9 with
    | zero =>
      intro _ _ _ _ _ _ _ _ _ _ _ _ _ _ _ _ h
      exact (h : False).elim
    | succ n ih =>
      intro y1 y3 y9 y10 y11 y12 y13 y14 y16 y17 y20 y21 z9 k9 m9 hk h
      rw [PL_LAW_kept_592] at h
      have hk2 := lk_succ hk
      refine z_iload O dL_kept_592 rfl ?_
      refine z_bipush (v := 8) O dL_kept_594 (by decide) ?_
      refine z_icmp_ge (tgt := 647) O dL_kept_596 (by decide) (fun c91_ => ?_) (fun c91_ => ?_)
      · have h := h.1 c91_
        refine z_iinc (v := (y16 + 1)) (L' := [some (.ref b0), some (.long y1), none, some (.long y3), none, none, none, none, none, some (.int y9), some (.int y10), some (.int y11), some (.int y12), some (.int y13), some (.long y14), none, some (.int (y16 + 1)), some (.long y17), none, none, some (.int y20), some (.int y21)]) O dL_kept_647 rfl (by first | rfl | decide) (by decide) rfl ?_
        refine z_goto (tgt := 363) O dL_kept_650 (by decide) ?_
        exact z_subL (L' := [some (.ref b0), some (.long y1), none, some (.long y3), none, none, none, none, none, some (.int y9), some (.int y10), some (.int y11), some (.int y12), some (.int y13), some (.long y14), none, some (.int (y16 + 1)), none, none, none, none, none]) (zLe.sub (And.intro rfl (And.intro rfl (And.intro rfl (And.intro rfl (And.intro rfl (And.intro rfl (And.intro rfl (And.intro rfl (And.intro rfl (And.intro rfl True.intro))))))))))) (hK363 y1 y3 y9 y10 y11 y12 y13 y14 (y16 + 1) _ _ _ (lk_weak hk2 (c' := 6) (Nat.le_of_ble_eq_true rfl) (Nat.le_add_left _ _)) h)
      · have h := h.2 c91_
        refine z_iload O dL_kept_599 rfl ?_
        refine z_if_eq (tgt := 647) O dL_kept_601 (by decide) (fun c92_ => ?_) (fun c92_ => ?_)
        · have h := h.1 c92_
          refine z_iinc (v := (y16 + 1)) (L' := [some (.ref b0), some (.long y1), none, some (.long y3), none, none, none, none, none, some (.int y9), some (.int y10), some (.int y11), some (.int y12), some (.int y13), some (.long y14), none, some (.int (y16 + 1)), some (.long y17), none, none, some (.int y20), some (.int y21)]) O dL_kept_647 rfl (by first | rfl | decide) (by decide) rfl ?_
          refine z_goto (tgt := 363) O dL_kept_650 (by decide) ?_
          exact z_subL (L' := [some (.ref b0), some (.long y1), none, some (.long y3), none, none, none, none, none, some (.int y9), some (.int y10), some (.int y11), some (.int y12), some (.int y13), some (.long y14), none, some (.int (y16 + 1)), none, none, none, none, none]) (zLe.sub (And.intro rfl (And.intro rfl (And.intro rfl (And.intro rfl (And.intro rfl (And.intro rfl (And.intro rfl (And.intro rfl (And.intro rfl (And.intro rfl True.intro))))))))))) (hK363 y1 y3 y9 y10 y11 y12 y13 y14 (y16 + 1) _ _ _ (lk_weak hk2 (c' := 6) (Nat.le_of_ble_eq_true rfl) (Nat.le_add_left _ _)) h)
        · have h := h.2 c92_
          refine z_iload O dL_kept_604 rfl ?_
          refine z_if_ne (tgt := 647) O dL_kept_606 (by decide) (fun c93_ => ?_) (fun c93_ => ?_)
          · have h := h.1 c93_
            refine z_iinc (v := (y16 + 1)) (L' := [some (.ref b0), some (.long y1), none, some (.long y3), none, none, none, none, none, some (.int y9), some (.int y10), some (.int y11), some (.int y12), some (.int y13), some (.long y14), none, some (.int (y16 + 1)), some (.long y17), none, none, some (.int y20), some (.int y21)]) O dL_kept_647 rfl (by first | rfl | decide) (by decide) rfl ?_
            refine z_goto (tgt := 363) O dL_kept_650 (by decide) ?_
            exact z_subL (L' := [some (.ref b0), some (.long y1), none, some (.long y3), none, none, none, none, none, some (.int y9), some (.int y10), some (.int y11), some (.int y12), some (.int y13), some (.long y14), none, some (.int (y16 + 1)), none, none, none, none, none]) (zLe.sub (And.intro rfl (And.intro rfl (And.intro rfl (And.intro rfl (And.intro rfl (And.intro rfl (And.intro rfl (And.intro rfl (And.intro rfl (And.intro rfl True.intro))))))))))) (hK363 y1 y3 y9 y10 y11 y12 y13 y14 (y16 + 1) _ _ _ (lk_weak hk2 (c' := 6) (Nat.le_of_ble_eq_true rfl) (Nat.le_add_left _ _)) h)
          · have h := h.2 c93_
            refine z_aload_n O dL_kept_609 rfl rfl ?_
            refine z_iload O dL_kept_610 rfl ?_
            refine z_iload O dL_kept_612 rfl ?_
            have hk95_ := lk_step 1 7 hk2 (Nat.le_of_ble_eq_true rfl)
            refine z_callHl (As := [.ref b0, .int y16, .int y21]) (st := []) O (s_LAW_table hfl h0 h) wh_L_table wl_RL_126 dL_kept_614 rfl rfl ⟨Nat.le_of_ble_eq_true rfl, Nat.le_of_ble_eq_true rfl⟩ (Nat.le_of_ble_eq_true rfl) ⟨lk_k hk95_, lk_n hk95_⟩ (fun r94_ z96_ G97_ hq98_ => ?_)
            obtain ⟨rfl, h⟩ := hq98_
            refine z_aload_n O dL_kept_617 rfl rfl ?_
            refine z_iload O dL_kept_618 rfl ?_
            refine z_lload O dL_kept_620 rfl ?_
            refine z_l2i O dL_kept_622 ?_
            refine z_iload O dL_kept_623 rfl ?_
            refine z_iconst (v := 2) O dL_kept_625 (by decide) ?_
            refine z_irem O dL_kept_626 (by decide) ?_
            have hk100_ := lk_step 1 6 hk95_ (Nat.le_of_ble_eq_true rfl)
            refine z_callHl (As := [.ref b0, .int y21, .int (Int64.toInt32 y17), .int (zrem y21 2)]) (st := [.long r94_]) O (s_LAW_truth hfl h0 h) wh_L_truth wl_RL_157 dL_kept_627 rfl rfl ⟨Nat.le_of_ble_eq_true rfl, Nat.le_of_ble_eq_true rfl⟩ (Nat.le_of_ble_eq_true rfl) ⟨lk_k hk100_, lk_n hk100_⟩ (fun r99_ z101_ G102_ hq103_ => ?_)
            obtain ⟨rfl, h⟩ := hq103_
            refine z_lcmp O dL_kept_630 ?_
            refine z_if_ne (tgt := 638) O dL_kept_631 (by decide) (fun c104_ => ?_) (fun c104_ => ?_)
            · have h := h.1 c104_
              refine z_iconst (v := 0) O dL_kept_638 (by decide) ?_
              refine z_istore (L' := [some (.ref b0), some (.long y1), none, some (.long y3), none, none, none, none, none, some (.int y9), some (.int 0), some (.int y11), some (.int y12), some (.int y13), some (.long y14), none, some (.int y16), some (.long y17), none, none, some (.int y20), some (.int y21)]) O dL_kept_639 (by decide) rfl ?_
              refine z_iinc (v := (y21 + 1)) (L' := [some (.ref b0), some (.long y1), none, some (.long y3), none, none, none, none, none, some (.int y9), some (.int 0), some (.int y11), some (.int y12), some (.int y13), some (.long y14), none, some (.int y16), some (.long y17), none, none, some (.int y20), some (.int (y21 + 1))]) O dL_kept_641 rfl (by first | rfl | decide) (by decide) rfl ?_
              refine z_goto (tgt := 592) O dL_kept_644 (by decide) ?_
              exact z_subL (L' := [some (.ref b0), some (.long y1), none, some (.long y3), none, none, none, none, none, some (.int y9), some (.int 0), some (.int y11), some (.int y12), some (.int y13), some (.long y14), none, some (.int y16), some (.long y17), none, none, some (.int y20), some (.int (y21 + 1))]) (zLe.sub (And.intro rfl (And.intro rfl (And.intro rfl (And.intro rfl (And.intro rfl (And.intro rfl (And.intro rfl (And.intro rfl (And.intro rfl (And.intro rfl (And.intro rfl (And.intro rfl (And.intro rfl True.intro)))))))))))))) (ih y1 y3 y9 0 y11 y12 y13 y14 y16 y17 y20 (y21 + 1) _ _ _ (lk_weak hk100_ (c' := 6) (Nat.le_of_ble_eq_true rfl) (Nat.le_refl _)) h)
            · have h := h.2 c104_
              refine z_iconst (v := 1) O dL_kept_634 (by decide) ?_
              refine z_goto (tgt := 639) O dL_kept_635 (by decide) ?_
              refine z_istore (L' := [some (.ref b0), some (.long y1), none, some (.long y3), none, none, none, none, none, some (.int y9), some (.int 1), some (.int y11), some (.int y12), some (.int y13), some (.long y14), none, some (.int y16), some (.long y17), none, none, some (.int y20), some (.int y21)]) O dL_kept_639 (by decide) rfl ?_
              refine z_iinc (v := (y21 + 1)) (L' := [some (.ref b0), some (.long y1), none, some (.long y3), none, none, none, none, none, some (.int y9), some (.int 1), some (.int y11), some (.int y12), some (.int y13), some (.long y14), none, some (.int y16), some (.long y17), none, none, some (.int y20), some (.int (y21 + 1))]) O dL_kept_641 rfl (by first | rfl | decide) (by decide) rfl ?_
              refine z_goto (tgt := 592) O dL_kept_644 (by decide) ?_
              exact z_subL (L' := [some (.ref b0), some (.long y1), none, some (.long y3), none, none, none, none, none, some (.int y9), some (.int 1), some (.int y11), some (.int y12), some (.int y13), some (.long y14), none, some (.int y16), some (.long y17), none, none, some (.int y20), some (.int (y21 + 1))]) (zLe.sub (And.intro rfl (And.intro rfl (And.intro rfl (And.intro rfl (And.intro rfl (And.intro rfl (And.intro rfl (And.intro rfl (And.intro rfl (And.intro rfl (And.intro rfl (And.intro rfl (And.intro rfl True.intro)))))))))))))) (ih y1 y3 y9 1 y11 y12 y13 y14 y16 y17 y20 (y21 + 1) _ _ _ (lk_weak hk100_ (c' := 6) (Nat.le_of_ble_eq_true rfl) (Nat.le_refl _)) h)
  have HJ542 : ∀  (K363 : Int64 → Int64 → Int32 → Int32 → Int32 → Int32 → Int32 → Int64 → Int32 → Prop) (Y363 : Nat) (hK363 : ∀ (a0 : Int64) (a1 : Int64) (a2 : Int32) (a3 : Int32) (a4 : Int32) (a5 : Int32) (a6 : Int32) (a7 : Int64) (a8 : Int32) (z9 k9 m9 : Nat) (hk9 : k9 + (6 + Y363) ≤ 82279 ∧ m9 + 6 * (6 + Y363) ≤ 493674), K363 a0 a1 a2 a3 a4 a5 a6 a7 a8 → zT p l e (zrm 8 151 82279 493674) s m args below meth c (zEnd below D B (zRi fun r z' G' => G = G' ∧ Q r) args s 82279 493674) D B 22 k9 m9 363 [] [some (.ref b0), some (.long a0), none, some (.long a1), none, none, none, none, none, some (.int a2), some (.int a3), some (.int a4), some (.int a5), some (.int a6), some (.long a7), none, some (.int a8), none, none, none, none, none] z9 G) (y1 : Int64) (y3 : Int64) (y9 : Int32) (y11 : Int32) (y12 : Int32) (y13 : Int32) (y14 : Int64) (y16 : Int32) (y17 : Int64) (y19 : Int32) (y20 : Int32) (u0 : Int64) (u1 : Int64) (u2 : Int64) (z9 k9 m9 : Nat) (hk : k9 + (27 + Y363) ≤ 82279 ∧ m9 + 6 * (27 + Y363) ≤ 493674) (h : PJ_LAW_kept_542 v0 y1 y3 y9 y11 y12 y13 y14 y16 y17 y19 y20 u0 u1 u2 K363 Q), zT p l e (zrm 8 151 82279 493674) s m args below meth c (zEnd below D B (zRi fun r z' G' => G = G' ∧ Q r) args s 82279 493674) D B 22 k9 m9 542 [.long u0, .long u1, .long u2] [some (.ref b0), some (.long y1), none, some (.long y3), none, none, none, none, none, some (.int y9), none, some (.int y11), some (.int y12), some (.int y13), some (.long y14), none, some (.int y16), some (.long y17), none, some (.int y19), some (.int y20), none] z9 G := by
    intro K363 Y363 hK363 y1 y3 y9 y11 y12 y13 y14 y16 y17 y19 y20 u0 u1 u2 z9 k9 m9 hk h
    unfold PJ_LAW_kept_542 at h
    refine z_lsub O dL_kept_542 ?_
    refine z_lcmp O dL_kept_543 ?_
    refine z_if_ne (tgt := 586) O dL_kept_544 (by decide) (fun c121_ => ?_) (fun c121_ => ?_)
    · have h := h.1 c121_
      refine z_iconst (v := 0) O dL_kept_586 (by decide) ?_
      refine z_istore (L' := [some (.ref b0), some (.long y1), none, some (.long y3), none, none, none, none, none, some (.int y9), some (.int 0), some (.int y11), some (.int y12), some (.int y13), some (.long y14), none, some (.int y16), some (.long y17), none, some (.int y19), some (.int y20), none]) O dL_kept_587 (by decide) rfl ?_
      refine z_iconst (v := 0) O dL_kept_589 (by decide) ?_
      refine z_istore (L' := [some (.ref b0), some (.long y1), none, some (.long y3), none, none, none, none, none, some (.int y9), some (.int 0), some (.int y11), some (.int y12), some (.int y13), some (.long y14), none, some (.int y16), some (.long y17), none, some (.int y19), some (.int y20), some (.int 0)]) O dL_kept_590 (by decide) rfl ?_
      obtain ⟨n122_, hbn122_, h⟩ := h
      exact z_subL (L' := [some (.ref b0), some (.long y1), none, some (.long y3), none, none, none, none, none, some (.int y9), some (.int 0), some (.int y11), some (.int y12), some (.int y13), some (.long y14), none, some (.int y16), some (.long y17), none, none, some (.int y20), some (.int 0)]) (zLe.sub (And.intro rfl (And.intro rfl (And.intro rfl (And.intro rfl (And.intro rfl (And.intro rfl (And.intro rfl (And.intro rfl (And.intro rfl (And.intro rfl (And.intro rfl (And.intro rfl (And.intro rfl True.intro)))))))))))))) (HL592 n122_ _ Y363 hK363 y1 y3 y9 0 y11 y12 y13 y14 y16 y17 y20 0 _ _ _ (lk_loop hk hbn122_ (I := 2) (base := 6) (Nat.le_of_ble_eq_true rfl) (Nat.le_refl _)) h)
    · have h := h.2 c121_
      refine z_aload_n O dL_kept_547 rfl rfl ?_
      refine z_iload O dL_kept_548 rfl ?_
      refine z_iconst (v := 4) O dL_kept_550 (by decide) ?_
      have hk124_ := lk_step 1 26 hk (Nat.le_of_ble_eq_true rfl)
      refine z_callHl (As := [.ref b0, .int y16, .int 4]) (st := []) O (s_LAW_readerOf hfl h0 h) wh_L_readerOf wl_RL_121 dL_kept_551 rfl rfl ⟨Nat.le_of_ble_eq_true rfl, Nat.le_of_ble_eq_true rfl⟩ (Nat.le_of_ble_eq_true rfl) ⟨lk_k hk124_, lk_n hk124_⟩ (fun r123_ z125_ G126_ hq127_ => ?_)
      obtain ⟨rfl, h⟩ := hq127_
      refine z_aload_n O dL_kept_554 rfl rfl ?_
      refine z_bipush (v := 7) O dL_kept_555 (by decide) ?_
      have hk129_ := lk_step 1 25 hk124_ (Nat.le_of_ble_eq_true rfl)
      refine z_callHl (As := [.ref b0, .int 7]) (st := [.long r123_]) O (s_LAW_about hfl h0 h) wh_L_about wl_RL_110 dL_kept_557 rfl rfl ⟨Nat.le_of_ble_eq_true rfl, Nat.le_of_ble_eq_true rfl⟩ (Nat.le_of_ble_eq_true rfl) ⟨lk_k hk129_, lk_n hk129_⟩ (fun r128_ z130_ G131_ hq132_ => ?_)
      obtain ⟨rfl, h⟩ := hq132_
      refine z_lcmp O dL_kept_560 ?_
      refine z_if_gt (tgt := 586) O dL_kept_561 (by decide) (fun c133_ => ?_) (fun c133_ => ?_)
      · have h := h.1 c133_
        refine z_iconst (v := 0) O dL_kept_586 (by decide) ?_
        refine z_istore (L' := [some (.ref b0), some (.long y1), none, some (.long y3), none, none, none, none, none, some (.int y9), some (.int 0), some (.int y11), some (.int y12), some (.int y13), some (.long y14), none, some (.int y16), some (.long y17), none, some (.int y19), some (.int y20), none]) O dL_kept_587 (by decide) rfl ?_
        refine z_iconst (v := 0) O dL_kept_589 (by decide) ?_
        refine z_istore (L' := [some (.ref b0), some (.long y1), none, some (.long y3), none, none, none, none, none, some (.int y9), some (.int 0), some (.int y11), some (.int y12), some (.int y13), some (.long y14), none, some (.int y16), some (.long y17), none, some (.int y19), some (.int y20), some (.int 0)]) O dL_kept_590 (by decide) rfl ?_
        obtain ⟨n134_, hbn134_, h⟩ := h
        exact z_subL (L' := [some (.ref b0), some (.long y1), none, some (.long y3), none, none, none, none, none, some (.int y9), some (.int 0), some (.int y11), some (.int y12), some (.int y13), some (.long y14), none, some (.int y16), some (.long y17), none, none, some (.int y20), some (.int 0)]) (zLe.sub (And.intro rfl (And.intro rfl (And.intro rfl (And.intro rfl (And.intro rfl (And.intro rfl (And.intro rfl (And.intro rfl (And.intro rfl (And.intro rfl (And.intro rfl (And.intro rfl (And.intro rfl True.intro)))))))))))))) (HL592 n134_ _ Y363 hK363 y1 y3 y9 0 y11 y12 y13 y14 y16 y17 y20 0 _ _ _ (lk_loop hk129_ hbn134_ (I := 2) (base := 6) (Nat.le_of_ble_eq_true rfl) (Nat.le_refl _)) h)
      · have h := h.2 c133_
        refine z_iload O dL_kept_564 rfl ?_
        refine z_if_eq (tgt := 582) O dL_kept_566 (by decide) (fun c135_ => ?_) (fun c135_ => ?_)
        · have h := h.1 c135_
          refine z_iconst (v := 1) O dL_kept_582 (by decide) ?_
          refine z_goto (tgt := 587) O dL_kept_583 (by decide) ?_
          refine z_istore (L' := [some (.ref b0), some (.long y1), none, some (.long y3), none, none, none, none, none, some (.int y9), some (.int 1), some (.int y11), some (.int y12), some (.int y13), some (.long y14), none, some (.int y16), some (.long y17), none, some (.int y19), some (.int y20), none]) O dL_kept_587 (by decide) rfl ?_
          refine z_iconst (v := 0) O dL_kept_589 (by decide) ?_
          refine z_istore (L' := [some (.ref b0), some (.long y1), none, some (.long y3), none, none, none, none, none, some (.int y9), some (.int 1), some (.int y11), some (.int y12), some (.int y13), some (.long y14), none, some (.int y16), some (.long y17), none, some (.int y19), some (.int y20), some (.int 0)]) O dL_kept_590 (by decide) rfl ?_
          obtain ⟨n136_, hbn136_, h⟩ := h
          exact z_subL (L' := [some (.ref b0), some (.long y1), none, some (.long y3), none, none, none, none, none, some (.int y9), some (.int 1), some (.int y11), some (.int y12), some (.int y13), some (.long y14), none, some (.int y16), some (.long y17), none, none, some (.int y20), some (.int 0)]) (zLe.sub (And.intro rfl (And.intro rfl (And.intro rfl (And.intro rfl (And.intro rfl (And.intro rfl (And.intro rfl (And.intro rfl (And.intro rfl (And.intro rfl (And.intro rfl (And.intro rfl (And.intro rfl True.intro)))))))))))))) (HL592 n136_ _ Y363 hK363 y1 y3 y9 1 y11 y12 y13 y14 y16 y17 y20 0 _ _ _ (lk_loop hk129_ hbn136_ (I := 2) (base := 6) (Nat.le_of_ble_eq_true rfl) (Nat.le_refl _)) h)
        · have h := h.2 c135_
          refine z_aload_n O dL_kept_569 rfl rfl ?_
          refine z_iload O dL_kept_570 rfl ?_
          refine z_bipush (v := 8) O dL_kept_572 (by decide) ?_
          have hk138_ := lk_step 1 24 hk129_ (Nat.le_of_ble_eq_true rfl)
          refine z_callHl (As := [.ref b0, .int y16, .int 8]) (st := []) O (s_LAW_readerOf hfl h0 h) wh_L_readerOf wl_RL_121 dL_kept_574 rfl rfl ⟨Nat.le_of_ble_eq_true rfl, Nat.le_of_ble_eq_true rfl⟩ (Nat.le_of_ble_eq_true rfl) ⟨lk_k hk138_, lk_n hk138_⟩ (fun r137_ z139_ G140_ hq141_ => ?_)
          obtain ⟨rfl, h⟩ := hq141_
          refine z_lconst (v := 0) O dL_kept_577 (by decide) ?_
          refine z_lcmp O dL_kept_578 ?_
          refine z_if_ne (tgt := 586) O dL_kept_579 (by decide) (fun c142_ => ?_) (fun c142_ => ?_)
          · have h := h.1 c142_
            refine z_iconst (v := 0) O dL_kept_586 (by decide) ?_
            refine z_istore (L' := [some (.ref b0), some (.long y1), none, some (.long y3), none, none, none, none, none, some (.int y9), some (.int 0), some (.int y11), some (.int y12), some (.int y13), some (.long y14), none, some (.int y16), some (.long y17), none, some (.int y19), some (.int y20), none]) O dL_kept_587 (by decide) rfl ?_
            refine z_iconst (v := 0) O dL_kept_589 (by decide) ?_
            refine z_istore (L' := [some (.ref b0), some (.long y1), none, some (.long y3), none, none, none, none, none, some (.int y9), some (.int 0), some (.int y11), some (.int y12), some (.int y13), some (.long y14), none, some (.int y16), some (.long y17), none, some (.int y19), some (.int y20), some (.int 0)]) O dL_kept_590 (by decide) rfl ?_
            obtain ⟨n143_, hbn143_, h⟩ := h
            exact z_subL (L' := [some (.ref b0), some (.long y1), none, some (.long y3), none, none, none, none, none, some (.int y9), some (.int 0), some (.int y11), some (.int y12), some (.int y13), some (.long y14), none, some (.int y16), some (.long y17), none, none, some (.int y20), some (.int 0)]) (zLe.sub (And.intro rfl (And.intro rfl (And.intro rfl (And.intro rfl (And.intro rfl (And.intro rfl (And.intro rfl (And.intro rfl (And.intro rfl (And.intro rfl (And.intro rfl (And.intro rfl (And.intro rfl True.intro)))))))))))))) (HL592 n143_ _ Y363 hK363 y1 y3 y9 0 y11 y12 y13 y14 y16 y17 y20 0 _ _ _ (lk_loop hk138_ hbn143_ (I := 2) (base := 6) (Nat.le_of_ble_eq_true rfl) (Nat.le_refl _)) h)
          · have h := h.2 c142_
            refine z_iconst (v := 1) O dL_kept_582 (by decide) ?_
            refine z_goto (tgt := 587) O dL_kept_583 (by decide) ?_
            refine z_istore (L' := [some (.ref b0), some (.long y1), none, some (.long y3), none, none, none, none, none, some (.int y9), some (.int 1), some (.int y11), some (.int y12), some (.int y13), some (.long y14), none, some (.int y16), some (.long y17), none, some (.int y19), some (.int y20), none]) O dL_kept_587 (by decide) rfl ?_
            refine z_iconst (v := 0) O dL_kept_589 (by decide) ?_
            refine z_istore (L' := [some (.ref b0), some (.long y1), none, some (.long y3), none, none, none, none, none, some (.int y9), some (.int 1), some (.int y11), some (.int y12), some (.int y13), some (.long y14), none, some (.int y16), some (.long y17), none, some (.int y19), some (.int y20), some (.int 0)]) O dL_kept_590 (by decide) rfl ?_
            obtain ⟨n144_, hbn144_, h⟩ := h
            exact z_subL (L' := [some (.ref b0), some (.long y1), none, some (.long y3), none, none, none, none, none, some (.int y9), some (.int 1), some (.int y11), some (.int y12), some (.int y13), some (.long y14), none, some (.int y16), some (.long y17), none, none, some (.int y20), some (.int 0)]) (zLe.sub (And.intro rfl (And.intro rfl (And.intro rfl (And.intro rfl (And.intro rfl (And.intro rfl (And.intro rfl (And.intro rfl (And.intro rfl (And.intro rfl (And.intro rfl (And.intro rfl (And.intro rfl True.intro)))))))))))))) (HL592 n144_ _ Y363 hK363 y1 y3 y9 1 y11 y12 y13 y14 y16 y17 y20 0 _ _ _ (lk_loop hk138_ hbn144_ (I := 2) (base := 6) (Nat.le_of_ble_eq_true rfl) (Nat.le_refl _)) h)
  have HJ519 : ∀  (K363 : Int64 → Int64 → Int32 → Int32 → Int32 → Int32 → Int32 → Int64 → Int32 → Prop) (Y363 : Nat) (hK363 : ∀ (a0 : Int64) (a1 : Int64) (a2 : Int32) (a3 : Int32) (a4 : Int32) (a5 : Int32) (a6 : Int32) (a7 : Int64) (a8 : Int32) (z9 k9 m9 : Nat) (hk9 : k9 + (6 + Y363) ≤ 82279 ∧ m9 + 6 * (6 + Y363) ≤ 493674), K363 a0 a1 a2 a3 a4 a5 a6 a7 a8 → zT p l e (zrm 8 151 82279 493674) s m args below meth c (zEnd below D B (zRi fun r z' G' => G = G' ∧ Q r) args s 82279 493674) D B 22 k9 m9 363 [] [some (.ref b0), some (.long a0), none, some (.long a1), none, none, none, none, none, some (.int a2), some (.int a3), some (.int a4), some (.int a5), some (.int a6), some (.long a7), none, some (.int a8), none, none, none, none, none] z9 G) (y1 : Int64) (y3 : Int64) (y9 : Int32) (y11 : Int32) (y12 : Int32) (y13 : Int32) (y14 : Int64) (y16 : Int32) (y17 : Int64) (y19 : Int32) (y20 : Int32) (u0 : Int64) (u1 : Int64) (z9 k9 m9 : Nat) (hk : k9 + (28 + Y363) ≤ 82279 ∧ m9 + 6 * (28 + Y363) ≤ 493674) (h : PJ_LAW_kept_519 v0 y1 y3 y9 y11 y12 y13 y14 y16 y17 y19 y20 u0 u1 K363 Q), zT p l e (zrm 8 151 82279 493674) s m args below meth c (zEnd below D B (zRi fun r z' G' => G = G' ∧ Q r) args s 82279 493674) D B 22 k9 m9 519 [.long u0, .long u1] [some (.ref b0), some (.long y1), none, some (.long y3), none, none, none, none, none, some (.int y9), none, some (.int y11), some (.int y12), some (.int y13), some (.long y14), none, some (.int y16), some (.long y17), none, some (.int y19), some (.int y20), none] z9 G := by
    intro K363 Y363 hK363 y1 y3 y9 y11 y12 y13 y14 y16 y17 y19 y20 u0 u1 z9 k9 m9 hk h
    unfold PJ_LAW_kept_519 at h
    refine z_lcmp O dL_kept_519 ?_
    refine z_if_ne (tgt := 586) O dL_kept_520 (by decide) (fun c113_ => ?_) (fun c113_ => ?_)
    · have h := h.1 c113_
      refine z_iconst (v := 0) O dL_kept_586 (by decide) ?_
      refine z_istore (L' := [some (.ref b0), some (.long y1), none, some (.long y3), none, none, none, none, none, some (.int y9), some (.int 0), some (.int y11), some (.int y12), some (.int y13), some (.long y14), none, some (.int y16), some (.long y17), none, some (.int y19), some (.int y20), none]) O dL_kept_587 (by decide) rfl ?_
      refine z_iconst (v := 0) O dL_kept_589 (by decide) ?_
      refine z_istore (L' := [some (.ref b0), some (.long y1), none, some (.long y3), none, none, none, none, none, some (.int y9), some (.int 0), some (.int y11), some (.int y12), some (.int y13), some (.long y14), none, some (.int y16), some (.long y17), none, some (.int y19), some (.int y20), some (.int 0)]) O dL_kept_590 (by decide) rfl ?_
      obtain ⟨n114_, hbn114_, h⟩ := h
      exact z_subL (L' := [some (.ref b0), some (.long y1), none, some (.long y3), none, none, none, none, none, some (.int y9), some (.int 0), some (.int y11), some (.int y12), some (.int y13), some (.long y14), none, some (.int y16), some (.long y17), none, none, some (.int y20), some (.int 0)]) (zLe.sub (And.intro rfl (And.intro rfl (And.intro rfl (And.intro rfl (And.intro rfl (And.intro rfl (And.intro rfl (And.intro rfl (And.intro rfl (And.intro rfl (And.intro rfl (And.intro rfl (And.intro rfl True.intro)))))))))))))) (HL592 n114_ _ Y363 hK363 y1 y3 y9 0 y11 y12 y13 y14 y16 y17 y20 0 _ _ _ (lk_loop hk hbn114_ (I := 2) (base := 6) (Nat.le_of_ble_eq_true rfl) (Nat.le_refl _)) h)
    · have h := h.2 c113_
      refine z_aload_n O dL_kept_523 rfl rfl ?_
      refine z_iload O dL_kept_524 rfl ?_
      refine z_iconst (v := 5) O dL_kept_526 (by decide) ?_
      have hk116_ := lk_step 1 27 hk (Nat.le_of_ble_eq_true rfl)
      refine z_callHl (As := [.ref b0, .int y16, .int 5]) (st := []) O (s_LAW_readerOf hfl h0 h) wh_L_readerOf wl_RL_121 dL_kept_527 rfl rfl ⟨Nat.le_of_ble_eq_true rfl, Nat.le_of_ble_eq_true rfl⟩ (Nat.le_of_ble_eq_true rfl) ⟨lk_k hk116_, lk_n hk116_⟩ (fun r115_ z117_ G118_ hq119_ => ?_)
      obtain ⟨rfl, h⟩ := hq119_
      refine z_lload_n O dL_kept_530 rfl rfl ?_
      refine z_iload O dL_kept_531 rfl ?_
      refine z_if_eq (tgt := 540) O dL_kept_533 (by decide) (fun c120_ => ?_) (fun c120_ => ?_)
      · have h := h.1 c120_
        refine z_lload O dL_kept_540 rfl ?_
        exact z_subL (L' := [some (.ref b0), some (.long y1), none, some (.long y3), none, none, none, none, none, some (.int y9), none, some (.int y11), some (.int y12), some (.int y13), some (.long y14), none, some (.int y16), some (.long y17), none, some (.int y19), some (.int y20), none]) (zLe.sub (And.intro rfl (And.intro rfl (And.intro rfl (And.intro rfl (And.intro rfl (And.intro rfl (And.intro rfl (And.intro rfl (And.intro rfl (And.intro rfl (And.intro rfl (And.intro rfl True.intro))))))))))))) (HJ542 _ Y363 hK363 y1 y3 y9 y11 y12 y13 y14 y16 y17 y19 y20 y17 y3 r115_ _ _ _ (lk_weak hk116_ (c' := 27) (Nat.le_of_ble_eq_true rfl) (Nat.le_refl _)) h)
      · have h := h.2 c120_
        refine z_lload_n O dL_kept_536 rfl rfl ?_
        refine z_goto (tgt := 542) O dL_kept_537 (by decide) ?_
        exact z_subL (L' := [some (.ref b0), some (.long y1), none, some (.long y3), none, none, none, none, none, some (.int y9), none, some (.int y11), some (.int y12), some (.int y13), some (.long y14), none, some (.int y16), some (.long y17), none, some (.int y19), some (.int y20), none]) (zLe.sub (And.intro rfl (And.intro rfl (And.intro rfl (And.intro rfl (And.intro rfl (And.intro rfl (And.intro rfl (And.intro rfl (And.intro rfl (And.intro rfl (And.intro rfl (And.intro rfl True.intro))))))))))))) (HJ542 _ Y363 hK363 y1 y3 y9 y11 y12 y13 y14 y16 y17 y19 y20 y1 y3 r115_ _ _ _ (lk_weak hk116_ (c' := 27) (Nat.le_of_ble_eq_true rfl) (Nat.le_refl _)) h)
  have HJ498 : ∀  (K363 : Int64 → Int64 → Int32 → Int32 → Int32 → Int32 → Int32 → Int64 → Int32 → Prop) (Y363 : Nat) (hK363 : ∀ (a0 : Int64) (a1 : Int64) (a2 : Int32) (a3 : Int32) (a4 : Int32) (a5 : Int32) (a6 : Int32) (a7 : Int64) (a8 : Int32) (z9 k9 m9 : Nat) (hk9 : k9 + (6 + Y363) ≤ 82279 ∧ m9 + 6 * (6 + Y363) ≤ 493674), K363 a0 a1 a2 a3 a4 a5 a6 a7 a8 → zT p l e (zrm 8 151 82279 493674) s m args below meth c (zEnd below D B (zRi fun r z' G' => G = G' ∧ Q r) args s 82279 493674) D B 22 k9 m9 363 [] [some (.ref b0), some (.long a0), none, some (.long a1), none, none, none, none, none, some (.int a2), some (.int a3), some (.int a4), some (.int a5), some (.int a6), some (.long a7), none, some (.int a8), none, none, none, none, none] z9 G) (y1 : Int64) (y3 : Int64) (y9 : Int32) (y11 : Int32) (y12 : Int32) (y13 : Int32) (y14 : Int64) (y16 : Int32) (y17 : Int64) (y19 : Int32) (y20 : Int32) (z9 k9 m9 : Nat) (hk : k9 + (29 + Y363) ≤ 82279 ∧ m9 + 6 * (29 + Y363) ≤ 493674) (h : PJ_LAW_kept_498 v0 y1 y3 y9 y11 y12 y13 y14 y16 y17 y19 y20 K363 Q), zT p l e (zrm 8 151 82279 493674) s m args below meth c (zEnd below D B (zRi fun r z' G' => G = G' ∧ Q r) args s 82279 493674) D B 22 k9 m9 498 [] [some (.ref b0), some (.long y1), none, some (.long y3), none, none, none, none, none, some (.int y9), none, some (.int y11), some (.int y12), some (.int y13), some (.long y14), none, some (.int y16), some (.long y17), none, some (.int y19), some (.int y20), none] z9 G := by
    intro K363 Y363 hK363 y1 y3 y9 y11 y12 y13 y14 y16 y17 y19 y20 z9 k9 m9 hk h
    unfold PJ_LAW_kept_498 at h
    refine z_aload_n O dL_kept_498 rfl rfl ?_
    refine z_iload O dL_kept_499 rfl ?_
    refine z_bipush (v := 7) O dL_kept_501 (by decide) ?_
    have hk108_ := lk_step 1 28 hk (Nat.le_of_ble_eq_true rfl)
    refine z_callHl (As := [.ref b0, .int y16, .int 7]) (st := []) O (s_LAW_readerOf hfl h0 h) wh_L_readerOf wl_RL_121 dL_kept_503 rfl rfl ⟨Nat.le_of_ble_eq_true rfl, Nat.le_of_ble_eq_true rfl⟩ (Nat.le_of_ble_eq_true rfl) ⟨lk_k hk108_, lk_n hk108_⟩ (fun r107_ z109_ G110_ hq111_ => ?_)
    obtain ⟨rfl, h⟩ := hq111_
    refine z_iload O dL_kept_506 rfl ?_
    refine z_if_eq (tgt := 518) O dL_kept_508 (by decide) (fun c112_ => ?_) (fun c112_ => ?_)
    · have h := h.1 c112_
      refine z_lconst (v := 0) O dL_kept_518 (by decide) ?_
      exact z_subL (L' := [some (.ref b0), some (.long y1), none, some (.long y3), none, none, none, none, none, some (.int y9), none, some (.int y11), some (.int y12), some (.int y13), some (.long y14), none, some (.int y16), some (.long y17), none, some (.int y19), some (.int y20), none]) (zLe.sub (And.intro rfl (And.intro rfl (And.intro rfl (And.intro rfl (And.intro rfl (And.intro rfl (And.intro rfl (And.intro rfl (And.intro rfl (And.intro rfl (And.intro rfl (And.intro rfl True.intro))))))))))))) (HJ519 _ Y363 hK363 y1 y3 y9 y11 y12 y13 y14 y16 y17 y19 y20 0 r107_ _ _ _ (lk_weak hk108_ (c' := 28) (Nat.le_of_ble_eq_true rfl) (Nat.le_refl _)) h)
    · have h := h.2 c112_
      refine z_lload_n O dL_kept_511 rfl rfl ?_
      refine z_lload O dL_kept_512 rfl ?_
      refine z_lsub O dL_kept_514 ?_
      refine z_goto (tgt := 519) O dL_kept_515 (by decide) ?_
      exact z_subL (L' := [some (.ref b0), some (.long y1), none, some (.long y3), none, none, none, none, none, some (.int y9), none, some (.int y11), some (.int y12), some (.int y13), some (.long y14), none, some (.int y16), some (.long y17), none, some (.int y19), some (.int y20), none]) (zLe.sub (And.intro rfl (And.intro rfl (And.intro rfl (And.intro rfl (And.intro rfl (And.intro rfl (And.intro rfl (And.intro rfl (And.intro rfl (And.intro rfl (And.intro rfl (And.intro rfl True.intro))))))))))))) (HJ519 _ Y363 hK363 y1 y3 y9 y11 y12 y13 y14 y16 y17 y19 y20 (y1 - y17) r107_ _ _ _ (lk_weak hk108_ (c' := 28) (Nat.le_of_ble_eq_true rfl) (Nat.le_refl _)) h)
  have HJ479 : ∀  (K363 : Int64 → Int64 → Int32 → Int32 → Int32 → Int32 → Int32 → Int64 → Int32 → Prop) (Y363 : Nat) (hK363 : ∀ (a0 : Int64) (a1 : Int64) (a2 : Int32) (a3 : Int32) (a4 : Int32) (a5 : Int32) (a6 : Int32) (a7 : Int64) (a8 : Int32) (z9 k9 m9 : Nat) (hk9 : k9 + (6 + Y363) ≤ 82279 ∧ m9 + 6 * (6 + Y363) ≤ 493674), K363 a0 a1 a2 a3 a4 a5 a6 a7 a8 → zT p l e (zrm 8 151 82279 493674) s m args below meth c (zEnd below D B (zRi fun r z' G' => G = G' ∧ Q r) args s 82279 493674) D B 22 k9 m9 363 [] [some (.ref b0), some (.long a0), none, some (.long a1), none, none, none, none, none, some (.int a2), some (.int a3), some (.int a4), some (.int a5), some (.int a6), some (.long a7), none, some (.int a8), none, none, none, none, none] z9 G) (y1 : Int64) (y3 : Int64) (y9 : Int32) (y11 : Int32) (y12 : Int32) (y13 : Int32) (y16 : Int32) (y17 : Int64) (y19 : Int32) (y20 : Int32) (u0 : Int64) (z9 k9 m9 : Nat) (hk : k9 + (29 + Y363) ≤ 82279 ∧ m9 + 6 * (29 + Y363) ≤ 493674) (h : PJ_LAW_kept_479 v0 y1 y3 y9 y11 y12 y13 y16 y17 y19 y20 u0 K363 Q), zT p l e (zrm 8 151 82279 493674) s m args below meth c (zEnd below D B (zRi fun r z' G' => G = G' ∧ Q r) args s 82279 493674) D B 22 k9 m9 479 [.long u0] [some (.ref b0), some (.long y1), none, some (.long y3), none, none, none, none, none, some (.int y9), none, some (.int y11), some (.int y12), some (.int y13), none, none, some (.int y16), some (.long y17), none, some (.int y19), some (.int y20), none] z9 G := by
    intro K363 Y363 hK363 y1 y3 y9 y11 y12 y13 y16 y17 y19 y20 u0 z9 k9 m9 hk h
    unfold PJ_LAW_kept_479 at h
    refine z_lstore (L' := [some (.ref b0), some (.long y1), none, some (.long y3), none, none, none, none, none, some (.int y9), none, some (.int y11), some (.int y12), some (.int y13), some (.long u0), none, some (.int y16), some (.long y17), none, some (.int y19), some (.int y20), none]) O dL_kept_479 (by decide) rfl ?_
    refine z_lload O dL_kept_481 rfl ?_
    refine z_lload_n O dL_kept_483 rfl rfl ?_
    refine z_lcmp O dL_kept_484 ?_
    refine z_if_gt (tgt := 586) O dL_kept_485 (by decide) (fun c90_ => ?_) (fun c90_ => ?_)
    · have h := h.1 c90_
      refine z_iconst (v := 0) O dL_kept_586 (by decide) ?_
      refine z_istore (L' := [some (.ref b0), some (.long y1), none, some (.long y3), none, none, none, none, none, some (.int y9), some (.int 0), some (.int y11), some (.int y12), some (.int y13), some (.long u0), none, some (.int y16), some (.long y17), none, some (.int y19), some (.int y20), none]) O dL_kept_587 (by decide) rfl ?_
      refine z_iconst (v := 0) O dL_kept_589 (by decide) ?_
      refine z_istore (L' := [some (.ref b0), some (.long y1), none, some (.long y3), none, none, none, none, none, some (.int y9), some (.int 0), some (.int y11), some (.int y12), some (.int y13), some (.long u0), none, some (.int y16), some (.long y17), none, some (.int y19), some (.int y20), some (.int 0)]) O dL_kept_590 (by decide) rfl ?_
      obtain ⟨n105_, hbn105_, h⟩ := h
      exact z_subL (L' := [some (.ref b0), some (.long y1), none, some (.long y3), none, none, none, none, none, some (.int y9), some (.int 0), some (.int y11), some (.int y12), some (.int y13), some (.long u0), none, some (.int y16), some (.long y17), none, none, some (.int y20), some (.int 0)]) (zLe.sub (And.intro rfl (And.intro rfl (And.intro rfl (And.intro rfl (And.intro rfl (And.intro rfl (And.intro rfl (And.intro rfl (And.intro rfl (And.intro rfl (And.intro rfl (And.intro rfl (And.intro rfl True.intro)))))))))))))) (HL592 n105_ _ Y363 hK363 y1 y3 y9 0 y11 y12 y13 u0 y16 y17 y20 0 _ _ _ (lk_loop hk hbn105_ (I := 2) (base := 6) (Nat.le_of_ble_eq_true rfl) (Nat.le_refl _)) h)
    · have h := h.2 c90_
      refine z_iload O dL_kept_488 rfl ?_
      refine z_if_eq (tgt := 498) O dL_kept_490 (by decide) (fun c106_ => ?_) (fun c106_ => ?_)
      · have h := h.1 c106_
        exact z_subL (L' := [some (.ref b0), some (.long y1), none, some (.long y3), none, none, none, none, none, some (.int y9), none, some (.int y11), some (.int y12), some (.int y13), some (.long u0), none, some (.int y16), some (.long y17), none, some (.int y19), some (.int y20), none]) (zLe.sub (And.intro rfl (And.intro rfl (And.intro rfl (And.intro rfl (And.intro rfl (And.intro rfl (And.intro rfl (And.intro rfl (And.intro rfl (And.intro rfl (And.intro rfl (And.intro rfl True.intro))))))))))))) (HJ498 _ Y363 hK363 y1 y3 y9 y11 y12 y13 u0 y16 y17 y19 y20 _ _ _ (lk_weak hk (c' := 29) (Nat.le_of_ble_eq_true rfl) (Nat.le_refl _)) h)
      · have h := h.2 c106_
        refine z_iload O dL_kept_493 rfl ?_
        refine z_if_ne (tgt := 586) O dL_kept_495 (by decide) (fun c145_ => ?_) (fun c145_ => ?_)
        · have h := h.1 c145_
          refine z_iconst (v := 0) O dL_kept_586 (by decide) ?_
          refine z_istore (L' := [some (.ref b0), some (.long y1), none, some (.long y3), none, none, none, none, none, some (.int y9), some (.int 0), some (.int y11), some (.int y12), some (.int y13), some (.long u0), none, some (.int y16), some (.long y17), none, some (.int y19), some (.int y20), none]) O dL_kept_587 (by decide) rfl ?_
          refine z_iconst (v := 0) O dL_kept_589 (by decide) ?_
          refine z_istore (L' := [some (.ref b0), some (.long y1), none, some (.long y3), none, none, none, none, none, some (.int y9), some (.int 0), some (.int y11), some (.int y12), some (.int y13), some (.long u0), none, some (.int y16), some (.long y17), none, some (.int y19), some (.int y20), some (.int 0)]) O dL_kept_590 (by decide) rfl ?_
          obtain ⟨n146_, hbn146_, h⟩ := h
          exact z_subL (L' := [some (.ref b0), some (.long y1), none, some (.long y3), none, none, none, none, none, some (.int y9), some (.int 0), some (.int y11), some (.int y12), some (.int y13), some (.long u0), none, some (.int y16), some (.long y17), none, none, some (.int y20), some (.int 0)]) (zLe.sub (And.intro rfl (And.intro rfl (And.intro rfl (And.intro rfl (And.intro rfl (And.intro rfl (And.intro rfl (And.intro rfl (And.intro rfl (And.intro rfl (And.intro rfl (And.intro rfl (And.intro rfl True.intro)))))))))))))) (HL592 n146_ _ Y363 hK363 y1 y3 y9 0 y11 y12 y13 u0 y16 y17 y20 0 _ _ _ (lk_loop hk hbn146_ (I := 2) (base := 6) (Nat.le_of_ble_eq_true rfl) (Nat.le_refl _)) h)
        · have h := h.2 c145_
          exact z_subL (L' := [some (.ref b0), some (.long y1), none, some (.long y3), none, none, none, none, none, some (.int y9), none, some (.int y11), some (.int y12), some (.int y13), some (.long u0), none, some (.int y16), some (.long y17), none, some (.int y19), some (.int y20), none]) (zLe.sub (And.intro rfl (And.intro rfl (And.intro rfl (And.intro rfl (And.intro rfl (And.intro rfl (And.intro rfl (And.intro rfl (And.intro rfl (And.intro rfl (And.intro rfl (And.intro rfl True.intro))))))))))))) (HJ498 _ Y363 hK363 y1 y3 y9 y11 y12 y13 u0 y16 y17 y19 y20 _ _ _ (lk_weak hk (c' := 29) (Nat.le_of_ble_eq_true rfl) (Nat.le_refl _)) h)
  have HJ477 : ∀  (K363 : Int64 → Int64 → Int32 → Int32 → Int32 → Int32 → Int32 → Int64 → Int32 → Prop) (Y363 : Nat) (hK363 : ∀ (a0 : Int64) (a1 : Int64) (a2 : Int32) (a3 : Int32) (a4 : Int32) (a5 : Int32) (a6 : Int32) (a7 : Int64) (a8 : Int32) (z9 k9 m9 : Nat) (hk9 : k9 + (6 + Y363) ≤ 82279 ∧ m9 + 6 * (6 + Y363) ≤ 493674), K363 a0 a1 a2 a3 a4 a5 a6 a7 a8 → zT p l e (zrm 8 151 82279 493674) s m args below meth c (zEnd below D B (zRi fun r z' G' => G = G' ∧ Q r) args s 82279 493674) D B 22 k9 m9 363 [] [some (.ref b0), some (.long a0), none, some (.long a1), none, none, none, none, none, some (.int a2), some (.int a3), some (.int a4), some (.int a5), some (.int a6), some (.long a7), none, some (.int a8), none, none, none, none, none] z9 G) (y1 : Int64) (y3 : Int64) (y9 : Int32) (y11 : Int32) (y12 : Int32) (y13 : Int32) (y14 : Int64) (y16 : Int32) (y17 : Int64) (y19 : Int32) (y20 : Int32) (z9 k9 m9 : Nat) (hk : k9 + (29 + Y363) ≤ 82279 ∧ m9 + 6 * (29 + Y363) ≤ 493674) (h : PJ_LAW_kept_477 v0 y1 y3 y9 y11 y12 y13 y14 y16 y17 y19 y20 K363 Q), zT p l e (zrm 8 151 82279 493674) s m args below meth c (zEnd below D B (zRi fun r z' G' => G = G' ∧ Q r) args s 82279 493674) D B 22 k9 m9 477 [] [some (.ref b0), some (.long y1), none, some (.long y3), none, none, none, none, none, some (.int y9), none, some (.int y11), some (.int y12), some (.int y13), some (.long y14), none, some (.int y16), some (.long y17), none, some (.int y19), some (.int y20), none] z9 G := by
    intro K363 Y363 hK363 y1 y3 y9 y11 y12 y13 y14 y16 y17 y19 y20 z9 k9 m9 hk h
    unfold PJ_LAW_kept_477 at h
    refine z_lload O dL_kept_477 rfl ?_
    exact z_subL (L' := [some (.ref b0), some (.long y1), none, some (.long y3), none, none, none, none, none, some (.int y9), none, some (.int y11), some (.int y12), some (.int y13), none, none, some (.int y16), some (.long y17), none, some (.int y19), some (.int y20), none]) (zLe.sub (And.intro rfl (And.intro rfl (And.intro rfl (And.intro rfl (And.intro rfl (And.intro rfl (And.intro rfl (And.intro rfl (And.intro rfl (And.intro rfl (And.intro rfl True.intro)))))))))))) (HJ479 _ Y363 hK363 y1 y3 y9 y11 y12 y13 y16 y17 y19 y20 y14 _ _ _ (lk_weak hk (c' := 29) (Nat.le_of_ble_eq_true rfl) (Nat.le_refl _)) h)
  have HJ456 : ∀  (K363 : Int64 → Int64 → Int32 → Int32 → Int32 → Int32 → Int32 → Int64 → Int32 → Prop) (Y363 : Nat) (hK363 : ∀ (a0 : Int64) (a1 : Int64) (a2 : Int32) (a3 : Int32) (a4 : Int32) (a5 : Int32) (a6 : Int32) (a7 : Int64) (a8 : Int32) (z9 k9 m9 : Nat) (hk9 : k9 + (6 + Y363) ≤ 82279 ∧ m9 + 6 * (6 + Y363) ≤ 493674), K363 a0 a1 a2 a3 a4 a5 a6 a7 a8 → zT p l e (zrm 8 151 82279 493674) s m args below meth c (zEnd below D B (zRi fun r z' G' => G = G' ∧ Q r) args s 82279 493674) D B 22 k9 m9 363 [] [some (.ref b0), some (.long a0), none, some (.long a1), none, none, none, none, none, some (.int a2), some (.int a3), some (.int a4), some (.int a5), some (.int a6), some (.long a7), none, some (.int a8), none, none, none, none, none] z9 G) (y1 : Int64) (y3 : Int64) (y9 : Int32) (y11 : Int32) (y12 : Int32) (y14 : Int64) (y16 : Int32) (y17 : Int64) (y19 : Int32) (y20 : Int32) (u0 : Int32) (u1 : Int32) (z9 k9 m9 : Nat) (hk : k9 + (29 + Y363) ≤ 82279 ∧ m9 + 6 * (29 + Y363) ≤ 493674) (h : PJ_LAW_kept_456 v0 y1 y3 y9 y11 y12 y14 y16 y17 y19 y20 u0 u1 K363 Q), zT p l e (zrm 8 151 82279 493674) s m args below meth c (zEnd below D B (zRi fun r z' G' => G = G' ∧ Q r) args s 82279 493674) D B 22 k9 m9 456 [.int u0, .int u1] [some (.ref b0), some (.long y1), none, some (.long y3), none, none, none, none, none, some (.int y9), none, some (.int y11), some (.int y12), none, some (.long y14), none, some (.int y16), some (.long y17), none, some (.int y19), some (.int y20), none] z9 G := by
    intro K363 Y363 hK363 y1 y3 y9 y11 y12 y14 y16 y17 y19 y20 u0 u1 z9 k9 m9 hk h
    unfold PJ_LAW_kept_456 at h
    refine z_iadd O dL_kept_456 ?_
    refine z_istore (L' := [some (.ref b0), some (.long y1), none, some (.long y3), none, none, none, none, none, some (.int y9), none, some (.int y11), some (.int y12), some (.int (u1 + u0)), some (.long y14), none, some (.int y16), some (.long y17), none, some (.int y19), some (.int y20), none]) O dL_kept_457 (by decide) rfl ?_
    refine z_iload O dL_kept_459 rfl ?_
    refine z_if_eq (tgt := 477) O dL_kept_461 (by decide) (fun c89_ => ?_) (fun c89_ => ?_)
    · have h := h.1 c89_
      exact z_subL (L' := [some (.ref b0), some (.long y1), none, some (.long y3), none, none, none, none, none, some (.int y9), none, some (.int y11), some (.int y12), some (.int (u1 + u0)), some (.long y14), none, some (.int y16), some (.long y17), none, some (.int y19), some (.int y20), none]) (zLe.sub (And.intro rfl (And.intro rfl (And.intro rfl (And.intro rfl (And.intro rfl (And.intro rfl (And.intro rfl (And.intro rfl (And.intro rfl (And.intro rfl (And.intro rfl (And.intro rfl True.intro))))))))))))) (HJ477 _ Y363 hK363 y1 y3 y9 y11 y12 (u1 + u0) y14 y16 y17 y19 y20 _ _ _ (lk_weak hk (c' := 29) (Nat.le_of_ble_eq_true rfl) (Nat.le_refl _)) h)
    · have h := h.2 c89_
      refine z_lload O dL_kept_464 rfl ?_
      refine z_lload O dL_kept_466 rfl ?_
      refine z_lcmp O dL_kept_468 ?_
      refine z_if_ge (tgt := 477) O dL_kept_469 (by decide) (fun c147_ => ?_) (fun c147_ => ?_)
      · have h := h.1 c147_
        exact z_subL (L' := [some (.ref b0), some (.long y1), none, some (.long y3), none, none, none, none, none, some (.int y9), none, some (.int y11), some (.int y12), some (.int (u1 + u0)), some (.long y14), none, some (.int y16), some (.long y17), none, some (.int y19), some (.int y20), none]) (zLe.sub (And.intro rfl (And.intro rfl (And.intro rfl (And.intro rfl (And.intro rfl (And.intro rfl (And.intro rfl (And.intro rfl (And.intro rfl (And.intro rfl (And.intro rfl (And.intro rfl True.intro))))))))))))) (HJ477 _ Y363 hK363 y1 y3 y9 y11 y12 (u1 + u0) y14 y16 y17 y19 y20 _ _ _ (lk_weak hk (c' := 29) (Nat.le_of_ble_eq_true rfl) (Nat.le_refl _)) h)
      · have h := h.2 c147_
        refine z_lload O dL_kept_472 rfl ?_
        refine z_goto (tgt := 479) O dL_kept_474 (by decide) ?_
        exact z_subL (L' := [some (.ref b0), some (.long y1), none, some (.long y3), none, none, none, none, none, some (.int y9), none, some (.int y11), some (.int y12), some (.int (u1 + u0)), none, none, some (.int y16), some (.long y17), none, some (.int y19), some (.int y20), none]) (zLe.sub (And.intro rfl (And.intro rfl (And.intro rfl (And.intro rfl (And.intro rfl (And.intro rfl (And.intro rfl (And.intro rfl (And.intro rfl (And.intro rfl (And.intro rfl True.intro)))))))))))) (HJ479 _ Y363 hK363 y1 y3 y9 y11 y12 (u1 + u0) y16 y17 y19 y20 y17 _ _ _ (lk_weak hk (c' := 29) (Nat.le_of_ble_eq_true rfl) (Nat.le_refl _)) h)
  have HJ441 : ∀  (K363 : Int64 → Int64 → Int32 → Int32 → Int32 → Int32 → Int32 → Int64 → Int32 → Prop) (Y363 : Nat) (hK363 : ∀ (a0 : Int64) (a1 : Int64) (a2 : Int32) (a3 : Int32) (a4 : Int32) (a5 : Int32) (a6 : Int32) (a7 : Int64) (a8 : Int32) (z9 k9 m9 : Nat) (hk9 : k9 + (6 + Y363) ≤ 82279 ∧ m9 + 6 * (6 + Y363) ≤ 493674), K363 a0 a1 a2 a3 a4 a5 a6 a7 a8 → zT p l e (zrm 8 151 82279 493674) s m args below meth c (zEnd below D B (zRi fun r z' G' => G = G' ∧ Q r) args s 82279 493674) D B 22 k9 m9 363 [] [some (.ref b0), some (.long a0), none, some (.long a1), none, none, none, none, none, some (.int a2), some (.int a3), some (.int a4), some (.int a5), some (.int a6), some (.long a7), none, some (.int a8), none, none, none, none, none] z9 G) (y1 : Int64) (y3 : Int64) (y9 : Int32) (y11 : Int32) (y13 : Int32) (y14 : Int64) (y16 : Int32) (y17 : Int64) (y19 : Int32) (y20 : Int32) (u0 : Int32) (u1 : Int32) (z9 k9 m9 : Nat) (hk : k9 + (29 + Y363) ≤ 82279 ∧ m9 + 6 * (29 + Y363) ≤ 493674) (h : PJ_LAW_kept_441 v0 y1 y3 y9 y11 y13 y14 y16 y17 y19 y20 u0 u1 K363 Q), zT p l e (zrm 8 151 82279 493674) s m args below meth c (zEnd below D B (zRi fun r z' G' => G = G' ∧ Q r) args s 82279 493674) D B 22 k9 m9 441 [.int u0, .int u1] [some (.ref b0), some (.long y1), none, some (.long y3), none, none, none, none, none, some (.int y9), none, some (.int y11), none, some (.int y13), some (.long y14), none, some (.int y16), some (.long y17), none, some (.int y19), some (.int y20), none] z9 G := by
    intro K363 Y363 hK363 y1 y3 y9 y11 y13 y14 y16 y17 y19 y20 u0 u1 z9 k9 m9 hk h
    unfold PJ_LAW_kept_441 at h
    refine z_iadd O dL_kept_441 ?_
    refine z_istore (L' := [some (.ref b0), some (.long y1), none, some (.long y3), none, none, none, none, none, some (.int y9), none, some (.int y11), some (.int (u1 + u0)), some (.int y13), some (.long y14), none, some (.int y16), some (.long y17), none, some (.int y19), some (.int y20), none]) O dL_kept_442 (by decide) rfl ?_
    refine z_iload O dL_kept_444 rfl ?_
    refine z_iload O dL_kept_446 rfl ?_
    refine z_if_eq (tgt := 455) O dL_kept_448 (by decide) (fun c88_ => ?_) (fun c88_ => ?_)
    · have h := h.1 c88_
      refine z_iconst (v := 0) O dL_kept_455 (by decide) ?_
      exact z_subL (L' := [some (.ref b0), some (.long y1), none, some (.long y3), none, none, none, none, none, some (.int y9), none, some (.int y11), some (.int (u1 + u0)), none, some (.long y14), none, some (.int y16), some (.long y17), none, some (.int y19), some (.int y20), none]) (zLe.sub (And.intro rfl (And.intro rfl (And.intro rfl (And.intro rfl (And.intro rfl (And.intro rfl (And.intro rfl (And.intro rfl (And.intro rfl (And.intro rfl (And.intro rfl True.intro)))))))))))) (HJ456 _ Y363 hK363 y1 y3 y9 y11 (u1 + u0) y14 y16 y17 y19 y20 0 y13 _ _ _ (lk_weak hk (c' := 29) (Nat.le_of_ble_eq_true rfl) (Nat.le_refl _)) h)
    · have h := h.2 c88_
      refine z_iconst (v := 1) O dL_kept_451 (by decide) ?_
      refine z_goto (tgt := 456) O dL_kept_452 (by decide) ?_
      exact z_subL (L' := [some (.ref b0), some (.long y1), none, some (.long y3), none, none, none, none, none, some (.int y9), none, some (.int y11), some (.int (u1 + u0)), none, some (.long y14), none, some (.int y16), some (.long y17), none, some (.int y19), some (.int y20), none]) (zLe.sub (And.intro rfl (And.intro rfl (And.intro rfl (And.intro rfl (And.intro rfl (And.intro rfl (And.intro rfl (And.intro rfl (And.intro rfl (And.intro rfl (And.intro rfl True.intro)))))))))))) (HJ456 _ Y363 hK363 y1 y3 y9 y11 (u1 + u0) y14 y16 y17 y19 y20 1 y13 _ _ _ (lk_weak hk (c' := 29) (Nat.le_of_ble_eq_true rfl) (Nat.le_refl _)) h)
  have HJ424 : ∀  (K363 : Int64 → Int64 → Int32 → Int32 → Int32 → Int32 → Int32 → Int64 → Int32 → Prop) (Y363 : Nat) (hK363 : ∀ (a0 : Int64) (a1 : Int64) (a2 : Int32) (a3 : Int32) (a4 : Int32) (a5 : Int32) (a6 : Int32) (a7 : Int64) (a8 : Int32) (z9 k9 m9 : Nat) (hk9 : k9 + (6 + Y363) ≤ 82279 ∧ m9 + 6 * (6 + Y363) ≤ 493674), K363 a0 a1 a2 a3 a4 a5 a6 a7 a8 → zT p l e (zrm 8 151 82279 493674) s m args below meth c (zEnd below D B (zRi fun r z' G' => G = G' ∧ Q r) args s 82279 493674) D B 22 k9 m9 363 [] [some (.ref b0), some (.long a0), none, some (.long a1), none, none, none, none, none, some (.int a2), some (.int a3), some (.int a4), some (.int a5), some (.int a6), some (.long a7), none, some (.int a8), none, none, none, none, none] z9 G) (y1 : Int64) (y3 : Int64) (y9 : Int32) (y11 : Int32) (y12 : Int32) (y13 : Int32) (y14 : Int64) (y16 : Int32) (y17 : Int64) (y19 : Int32) (u0 : Int32) (z9 k9 m9 : Nat) (hk : k9 + (29 + Y363) ≤ 82279 ∧ m9 + 6 * (29 + Y363) ≤ 493674) (h : PJ_LAW_kept_424 v0 y1 y3 y9 y11 y12 y13 y14 y16 y17 y19 u0 K363 Q), zT p l e (zrm 8 151 82279 493674) s m args below meth c (zEnd below D B (zRi fun r z' G' => G = G' ∧ Q r) args s 82279 493674) D B 22 k9 m9 424 [.int u0] [some (.ref b0), some (.long y1), none, some (.long y3), none, none, none, none, none, some (.int y9), none, some (.int y11), some (.int y12), some (.int y13), some (.long y14), none, some (.int y16), some (.long y17), none, some (.int y19), none, none] z9 G := by
    intro K363 Y363 hK363 y1 y3 y9 y11 y12 y13 y14 y16 y17 y19 u0 z9 k9 m9 hk h
    unfold PJ_LAW_kept_424 at h
    refine z_istore (L' := [some (.ref b0), some (.long y1), none, some (.long y3), none, none, none, none, none, some (.int y9), none, some (.int y11), some (.int y12), some (.int y13), some (.long y14), none, some (.int y16), some (.long y17), none, some (.int y19), some (.int u0), none]) O dL_kept_424 (by decide) rfl ?_
    refine z_iinc (v := (y11 + 1)) (L' := [some (.ref b0), some (.long y1), none, some (.long y3), none, none, none, none, none, some (.int y9), none, some (.int (y11 + 1)), some (.int y12), some (.int y13), some (.long y14), none, some (.int y16), some (.long y17), none, some (.int y19), some (.int u0), none]) O dL_kept_426 rfl (by first | rfl | decide) (by decide) rfl ?_
    refine z_iload O dL_kept_429 rfl ?_
    refine z_iload O dL_kept_431 rfl ?_
    refine z_if_eq (tgt := 440) O dL_kept_433 (by decide) (fun c87_ => ?_) (fun c87_ => ?_)
    · have h := h.1 c87_
      refine z_iconst (v := 0) O dL_kept_440 (by decide) ?_
      exact z_subL (L' := [some (.ref b0), some (.long y1), none, some (.long y3), none, none, none, none, none, some (.int y9), none, some (.int (y11 + 1)), none, some (.int y13), some (.long y14), none, some (.int y16), some (.long y17), none, some (.int y19), some (.int u0), none]) (zLe.sub (And.intro rfl (And.intro rfl (And.intro rfl (And.intro rfl (And.intro rfl (And.intro rfl (And.intro rfl (And.intro rfl (And.intro rfl (And.intro rfl (And.intro rfl True.intro)))))))))))) (HJ441 _ Y363 hK363 y1 y3 y9 (y11 + 1) y13 y14 y16 y17 y19 u0 0 y12 _ _ _ (lk_weak hk (c' := 29) (Nat.le_of_ble_eq_true rfl) (Nat.le_refl _)) h)
    · have h := h.2 c87_
      refine z_iconst (v := 1) O dL_kept_436 (by decide) ?_
      refine z_goto (tgt := 441) O dL_kept_437 (by decide) ?_
      exact z_subL (L' := [some (.ref b0), some (.long y1), none, some (.long y3), none, none, none, none, none, some (.int y9), none, some (.int (y11 + 1)), none, some (.int y13), some (.long y14), none, some (.int y16), some (.long y17), none, some (.int y19), some (.int u0), none]) (zLe.sub (And.intro rfl (And.intro rfl (And.intro rfl (And.intro rfl (And.intro rfl (And.intro rfl (And.intro rfl (And.intro rfl (And.intro rfl (And.intro rfl (And.intro rfl True.intro)))))))))))) (HJ441 _ Y363 hK363 y1 y3 y9 (y11 + 1) y13 y14 y16 y17 y19 u0 1 y12 _ _ _ (lk_weak hk (c' := 29) (Nat.le_of_ble_eq_true rfl) (Nat.le_refl _)) h)
  have HJ410 : ∀  (K363 : Int64 → Int64 → Int32 → Int32 → Int32 → Int32 → Int32 → Int64 → Int32 → Prop) (Y363 : Nat) (hK363 : ∀ (a0 : Int64) (a1 : Int64) (a2 : Int32) (a3 : Int32) (a4 : Int32) (a5 : Int32) (a6 : Int32) (a7 : Int64) (a8 : Int32) (z9 k9 m9 : Nat) (hk9 : k9 + (6 + Y363) ≤ 82279 ∧ m9 + 6 * (6 + Y363) ≤ 493674), K363 a0 a1 a2 a3 a4 a5 a6 a7 a8 → zT p l e (zrm 8 151 82279 493674) s m args below meth c (zEnd below D B (zRi fun r z' G' => G = G' ∧ Q r) args s 82279 493674) D B 22 k9 m9 363 [] [some (.ref b0), some (.long a0), none, some (.long a1), none, none, none, none, none, some (.int a2), some (.int a3), some (.int a4), some (.int a5), some (.int a6), some (.long a7), none, some (.int a8), none, none, none, none, none] z9 G) (y1 : Int64) (y3 : Int64) (y9 : Int32) (y11 : Int32) (y12 : Int32) (y13 : Int32) (y14 : Int64) (y16 : Int32) (y17 : Int64) (u0 : Int32) (z9 k9 m9 : Nat) (hk : k9 + (29 + Y363) ≤ 82279 ∧ m9 + 6 * (29 + Y363) ≤ 493674) (h : PJ_LAW_kept_410 v0 y1 y3 y9 y11 y12 y13 y14 y16 y17 u0 K363 Q), zT p l e (zrm 8 151 82279 493674) s m args below meth c (zEnd below D B (zRi fun r z' G' => G = G' ∧ Q r) args s 82279 493674) D B 22 k9 m9 410 [.int u0] [some (.ref b0), some (.long y1), none, some (.long y3), none, none, none, none, none, some (.int y9), none, some (.int y11), some (.int y12), some (.int y13), some (.long y14), none, some (.int y16), some (.long y17), none, none, none, none] z9 G := by
    intro K363 Y363 hK363 y1 y3 y9 y11 y12 y13 y14 y16 y17 u0 z9 k9 m9 hk h
    unfold PJ_LAW_kept_410 at h
    refine z_istore (L' := [some (.ref b0), some (.long y1), none, some (.long y3), none, none, none, none, none, some (.int y9), none, some (.int y11), some (.int y12), some (.int y13), some (.long y14), none, some (.int y16), some (.long y17), none, some (.int u0), none, none]) O dL_kept_410 (by decide) rfl ?_
    refine z_lload O dL_kept_412 rfl ?_
    refine z_lload_n O dL_kept_414 rfl rfl ?_
    refine z_lcmp O dL_kept_415 ?_
    refine z_if_ge (tgt := 423) O dL_kept_416 (by decide) (fun c86_ => ?_) (fun c86_ => ?_)
    · have h := h.1 c86_
      refine z_iconst (v := 0) O dL_kept_423 (by decide) ?_
      exact z_subL (L' := [some (.ref b0), some (.long y1), none, some (.long y3), none, none, none, none, none, some (.int y9), none, some (.int y11), some (.int y12), some (.int y13), some (.long y14), none, some (.int y16), some (.long y17), none, some (.int u0), none, none]) (zLe.sub (And.intro rfl (And.intro rfl (And.intro rfl (And.intro rfl (And.intro rfl (And.intro rfl (And.intro rfl (And.intro rfl (And.intro rfl (And.intro rfl (And.intro rfl True.intro)))))))))))) (HJ424 _ Y363 hK363 y1 y3 y9 y11 y12 y13 y14 y16 y17 u0 0 _ _ _ (lk_weak hk (c' := 29) (Nat.le_of_ble_eq_true rfl) (Nat.le_refl _)) h)
    · have h := h.2 c86_
      refine z_iconst (v := 1) O dL_kept_419 (by decide) ?_
      refine z_goto (tgt := 424) O dL_kept_420 (by decide) ?_
      exact z_subL (L' := [some (.ref b0), some (.long y1), none, some (.long y3), none, none, none, none, none, some (.int y9), none, some (.int y11), some (.int y12), some (.int y13), some (.long y14), none, some (.int y16), some (.long y17), none, some (.int u0), none, none]) (zLe.sub (And.intro rfl (And.intro rfl (And.intro rfl (And.intro rfl (And.intro rfl (And.intro rfl (And.intro rfl (And.intro rfl (And.intro rfl (And.intro rfl (And.intro rfl True.intro)))))))))))) (HJ424 _ Y363 hK363 y1 y3 y9 y11 y12 y13 y14 y16 y17 u0 1 _ _ _ (lk_weak hk (c' := 29) (Nat.le_of_ble_eq_true rfl) (Nat.le_refl _)) h)
  have HL363 : ∀ (n9 : Nat)     (y1 : Int64) (y3 : Int64) (y9 : Int32) (y10 : Int32) (y11 : Int32) (y12 : Int32) (y13 : Int32) (y14 : Int64) (y16 : Int32) (z9 k9 m9 : Nat) (hk : k9 + (6 + (n9 * 25 + 0)) ≤ 82279 ∧ m9 + 6 * (6 + (n9 * 25 + 0)) ≤ 493674) (h : PL_LAW_kept_363 n9 v0 y1 y3 y9 y10 y11 y12 y13 y14 y16 Q), zT p l e (zrm 8 151 82279 493674) s m args below meth c (zEnd below D B (zRi fun r z' G' => G = G' ∧ Q r) args s 82279 493674) D B 22 k9 m9 363 [] [some (.ref b0), some (.long y1), none, some (.long y3), none, none, none, none, none, some (.int y9), some (.int y10), some (.int y11), some (.int y12), some (.int y13), some (.long y14), none, some (.int y16), none, none, none, none, none] z9 G := by
    intro n9 
    induction n9 with
    | zero =>
      intro _ _ _ _ _ _ _ _ _ _ _ _ _ h
      exact (h : False).elim
    | succ n ih =>
      intro y1 y3 y9 y10 y11 y12 y13 y14 y16 z9 k9 m9 hk h
      rw [PL_LAW_kept_363] at h
      have hk2 := lk_succ hk
      refine z_iload O dL_kept_363 rfl ?_
      refine z_bipush (v := 8) O dL_kept_365 (by decide) ?_
      refine z_icmp_ge (tgt := 653) O dL_kept_367 (by decide) (fun c19_ => ?_) (fun c19_ => ?_)
      · have h := h.1 c19_
        exact z_subL (L' := [some (.ref b0), none, none, none, none, none, none, none, none, some (.int y9), some (.int y10), some (.int y11), some (.int y12), some (.int y13), some (.long y14), none, none, none, none, none, none, none]) (zLe.sub (And.intro rfl (And.intro rfl (And.intro rfl (And.intro rfl (And.intro rfl (And.intro rfl (And.intro rfl True.intro)))))))) (HJ653 y9 y10 y11 y12 y13 y14 _ _ _ (lk_weak hk2 (c' := 6) (Nat.le_of_ble_eq_true rfl) (Nat.zero_le _)) h)
      · have h := h.2 c19_
        refine z_iload O dL_kept_370 rfl ?_
        refine z_if_eq (tgt := 653) O dL_kept_372 (by decide) (fun c73_ => ?_) (fun c73_ => ?_)
        · have h := h.1 c73_
          exact z_subL (L' := [some (.ref b0), none, none, none, none, none, none, none, none, some (.int y9), some (.int y10), some (.int y11), some (.int y12), some (.int y13), some (.long y14), none, none, none, none, none, none, none]) (zLe.sub (And.intro rfl (And.intro rfl (And.intro rfl (And.intro rfl (And.intro rfl (And.intro rfl (And.intro rfl True.intro)))))))) (HJ653 y9 y10 y11 y12 y13 y14 _ _ _ (lk_weak hk2 (c' := 6) (Nat.le_of_ble_eq_true rfl) (Nat.zero_le _)) h)
        · have h := h.2 c73_
          refine z_aload_n O dL_kept_375 rfl rfl ?_
          refine z_iload O dL_kept_376 rfl ?_
          refine z_iconst (v := 0) O dL_kept_378 (by decide) ?_
          have hk75_ := lk_step 1 30 hk2 (Nat.le_of_ble_eq_true rfl)
          refine z_callHl (As := [.ref b0, .int y16, .int 0]) (st := []) O (s_LAW_readerOf hfl h0 h) wh_L_readerOf wl_RL_121 dL_kept_379 rfl rfl ⟨Nat.le_of_ble_eq_true rfl, Nat.le_of_ble_eq_true rfl⟩ (Nat.le_of_ble_eq_true rfl) ⟨lk_k hk75_, lk_n hk75_⟩ (fun r74_ z76_ G77_ hq78_ => ?_)
          obtain ⟨rfl, h⟩ := hq78_
          refine z_lstore (L' := [some (.ref b0), some (.long y1), none, some (.long y3), none, none, none, none, none, some (.int y9), some (.int y10), some (.int y11), some (.int y12), some (.int y13), some (.long y14), none, some (.int y16), some (.long r74_), none, none, none, none]) O dL_kept_382 (by decide) rfl ?_
          refine z_lload O dL_kept_384 rfl ?_
          refine z_ldc2 (v := (-9000000000000000001)) O wc_RL_36 dL_kept_386 ?_
          refine z_lcmp O dL_kept_389 ?_
          refine z_if_eq (tgt := 647) O dL_kept_390 (by decide) (fun c79_ => ?_) (fun c79_ => ?_)
          · have h := h.1 c79_
            refine z_iinc (v := (y16 + 1)) (L' := [some (.ref b0), some (.long y1), none, some (.long y3), none, none, none, none, none, some (.int y9), some (.int y10), some (.int y11), some (.int y12), some (.int y13), some (.long y14), none, some (.int (y16 + 1)), some (.long r74_), none, none, none, none]) O dL_kept_647 rfl (by first | rfl | decide) (by decide) rfl ?_
            refine z_goto (tgt := 363) O dL_kept_650 (by decide) ?_
            exact z_subL (L' := [some (.ref b0), some (.long y1), none, some (.long y3), none, none, none, none, none, some (.int y9), some (.int y10), some (.int y11), some (.int y12), some (.int y13), some (.long y14), none, some (.int (y16 + 1)), none, none, none, none, none]) (zLe.sub (And.intro rfl (And.intro rfl (And.intro rfl (And.intro rfl (And.intro rfl (And.intro rfl (And.intro rfl (And.intro rfl (And.intro rfl (And.intro rfl True.intro))))))))))) (ih y1 y3 y9 y10 y11 y12 y13 y14 (y16 + 1) _ _ _ (lk_weak hk75_ (c' := 6) (Nat.le_of_ble_eq_true rfl) (Nat.le_refl _)) h)
          · have h := h.2 c79_
            refine z_aload_n O dL_kept_393 rfl rfl ?_
            refine z_iload O dL_kept_394 rfl ?_
            refine z_iconst (v := 1) O dL_kept_396 (by decide) ?_
            have hk81_ := lk_step 1 29 hk75_ (Nat.le_of_ble_eq_true rfl)
            refine z_callHl (As := [.ref b0, .int y16, .int 1]) (st := []) O (s_LAW_readerOf hfl h0 h) wh_L_readerOf wl_RL_121 dL_kept_397 rfl rfl ⟨Nat.le_of_ble_eq_true rfl, Nat.le_of_ble_eq_true rfl⟩ (Nat.le_of_ble_eq_true rfl) ⟨lk_k hk81_, lk_n hk81_⟩ (fun r80_ z82_ G83_ hq84_ => ?_)
            obtain ⟨rfl, h⟩ := hq84_
            refine z_lconst (v := 1) O dL_kept_400 (by decide) ?_
            refine z_lcmp O dL_kept_401 ?_
            refine z_if_ne (tgt := 409) O dL_kept_402 (by decide) (fun c85_ => ?_) (fun c85_ => ?_)
            · have h := h.1 c85_
              refine z_iconst (v := 0) O dL_kept_409 (by decide) ?_
              exact z_subL (L' := [some (.ref b0), some (.long y1), none, some (.long y3), none, none, none, none, none, some (.int y9), none, some (.int y11), some (.int y12), some (.int y13), some (.long y14), none, some (.int y16), some (.long r74_), none, none, none, none]) (zLe.sub (And.intro rfl (And.intro rfl (And.intro rfl (And.intro rfl (And.intro rfl (And.intro rfl (And.intro rfl (And.intro rfl (And.intro rfl (And.intro rfl True.intro))))))))))) (HJ410 _ (n * 25 + 0) ih y1 y3 y9 y11 y12 y13 y14 y16 r74_ 0 _ _ _ (lk_weak hk81_ (c' := 29) (Nat.le_of_ble_eq_true rfl) (Nat.le_refl _)) h)
            · have h := h.2 c85_
              refine z_iconst (v := 1) O dL_kept_405 (by decide) ?_
              refine z_goto (tgt := 410) O dL_kept_406 (by decide) ?_
              exact z_subL (L' := [some (.ref b0), some (.long y1), none, some (.long y3), none, none, none, none, none, some (.int y9), none, some (.int y11), some (.int y12), some (.int y13), some (.long y14), none, some (.int y16), some (.long r74_), none, none, none, none]) (zLe.sub (And.intro rfl (And.intro rfl (And.intro rfl (And.intro rfl (And.intro rfl (And.intro rfl (And.intro rfl (And.intro rfl (And.intro rfl (And.intro rfl True.intro))))))))))) (HJ410 _ (n * 25 + 0) ih y1 y3 y9 y11 y12 y13 y14 y16 r74_ 1 _ _ _ (lk_weak hk81_ (c' := 29) (Nat.le_of_ble_eq_true rfl) (Nat.le_refl _)) h)
  have HJ348 : ∀     (y1 : Int64) (y3 : Int64) (y9 : Int32) (y10 : Int32) (z9 k9 m9 : Nat) (hk : k9 + (231 + 0) ≤ 82279 ∧ m9 + 6 * (231 + 0) ≤ 493674) (h : PJ_LAW_kept_348 v0 y1 y3 y9 y10 Q), zT p l e (zrm 8 151 82279 493674) s m args below meth c (zEnd below D B (zRi fun r z' G' => G = G' ∧ Q r) args s 82279 493674) D B 22 k9 m9 348 [] [some (.ref b0), some (.long y1), none, some (.long y3), none, none, none, none, none, some (.int y9), some (.int y10), none, none, none, none, none, none, none, none, none, none, none] z9 G := by
    intro  y1 y3 y9 y10 z9 k9 m9 hk h
    unfold PJ_LAW_kept_348 at h
    refine z_iconst (v := 0) O dL_kept_348 (by decide) ?_
    refine z_istore (L' := [some (.ref b0), some (.long y1), none, some (.long y3), none, none, none, none, none, some (.int y9), some (.int y10), some (.int 0), none, none, none, none, none, none, none, none, none, none]) O dL_kept_349 (by decide) rfl ?_
    refine z_iconst (v := 0) O dL_kept_351 (by decide) ?_
    refine z_istore (L' := [some (.ref b0), some (.long y1), none, some (.long y3), none, none, none, none, none, some (.int y9), some (.int y10), some (.int 0), some (.int 0), none, none, none, none, none, none, none, none, none]) O dL_kept_352 (by decide) rfl ?_
    refine z_iconst (v := 0) O dL_kept_354 (by decide) ?_
    refine z_istore (L' := [some (.ref b0), some (.long y1), none, some (.long y3), none, none, none, none, none, some (.int y9), some (.int y10), some (.int 0), some (.int 0), some (.int 0), none, none, none, none, none, none, none, none]) O dL_kept_355 (by decide) rfl ?_
    refine z_lload_n O dL_kept_357 rfl rfl ?_
    refine z_lstore (L' := [some (.ref b0), some (.long y1), none, some (.long y3), none, none, none, none, none, some (.int y9), some (.int y10), some (.int 0), some (.int 0), some (.int 0), some (.long y3), none, none, none, none, none, none, none]) O dL_kept_358 (by decide) rfl ?_
    refine z_iconst (v := 0) O dL_kept_360 (by decide) ?_
    refine z_istore (L' := [some (.ref b0), some (.long y1), none, some (.long y3), none, none, none, none, none, some (.int y9), some (.int y10), some (.int 0), some (.int 0), some (.int 0), some (.long y3), none, some (.int 0), none, none, none, none, none]) O dL_kept_361 (by decide) rfl ?_
    obtain ⟨n148_, hbn148_, h⟩ := h
    exact z_subL (L' := [some (.ref b0), some (.long y1), none, some (.long y3), none, none, none, none, none, some (.int y9), some (.int y10), some (.int 0), some (.int 0), some (.int 0), some (.long y3), none, some (.int 0), none, none, none, none, none]) (zLe.sub (And.intro rfl (And.intro rfl (And.intro rfl (And.intro rfl (And.intro rfl (And.intro rfl (And.intro rfl (And.intro rfl (And.intro rfl (And.intro rfl True.intro))))))))))) (HL363 n148_ y1 y3 y9 y10 0 0 0 y3 0 _ _ _ (lk_loop hk hbn148_ (I := 25) (base := 6) (Nat.le_of_ble_eq_true rfl) (Nat.le_refl _)) h)
  have HL282 : ∀ (n9 : Nat)     (y1 : Int64) (y3 : Int64) (y9 : Int32) (y10 : Int32) (y11 : Int32) (z9 k9 m9 : Nat) (hk : k9 + (231 + (n9 * 4 + 0)) ≤ 82279 ∧ m9 + 6 * (231 + (n9 * 4 + 0)) ≤ 493674) (h : PL_LAW_kept_282 n9 v0 y1 y3 y9 y10 y11 Q), zT p l e (zrm 8 151 82279 493674) s m args below meth c (zEnd below D B (zRi fun r z' G' => G = G' ∧ Q r) args s 82279 493674) D B 22 k9 m9 282 [] [some (.ref b0), some (.long y1), none, some (.long y3), none, none, none, none, none, some (.int y9), some (.int y10), some (.int y11), none, none, none, none, none, none, none, none, none, none] z9 G := by
    intro n9 
    induction n9 with
    | zero =>
      intro _ _ _ _ _ _ _ _ _ h
      exact (h : False).elim
    | succ n ih =>
      intro y1 y3 y9 y10 y11 z9 k9 m9 hk h
      rw [PL_LAW_kept_282] at h
      have hk2 := lk_succ hk
      refine z_iload O dL_kept_282 rfl ?_
      refine z_bipush (v := 8) O dL_kept_284 (by decide) ?_
      refine z_icmp_ge (tgt := 348) O dL_kept_286 (by decide) (fun c18_ => ?_) (fun c18_ => ?_)
      · have h := h.1 c18_
        exact z_subL (L' := [some (.ref b0), some (.long y1), none, some (.long y3), none, none, none, none, none, some (.int y9), some (.int y10), none, none, none, none, none, none, none, none, none, none, none]) (zLe.sub (And.intro rfl (And.intro rfl (And.intro rfl (And.intro rfl (And.intro rfl True.intro)))))) (HJ348 y1 y3 y9 y10 _ _ _ (lk_weak hk2 (c' := 231) (Nat.le_of_ble_eq_true rfl) (Nat.zero_le _)) h)
      · have h := h.2 c18_
        refine z_iload O dL_kept_289 rfl ?_
        refine z_if_eq (tgt := 348) O dL_kept_291 (by decide) (fun c149_ => ?_) (fun c149_ => ?_)
        · have h := h.1 c149_
          exact z_subL (L' := [some (.ref b0), some (.long y1), none, some (.long y3), none, none, none, none, none, some (.int y9), some (.int y10), none, none, none, none, none, none, none, none, none, none, none]) (zLe.sub (And.intro rfl (And.intro rfl (And.intro rfl (And.intro rfl (And.intro rfl True.intro)))))) (HJ348 y1 y3 y9 y10 _ _ _ (lk_weak hk2 (c' := 231) (Nat.le_of_ble_eq_true rfl) (Nat.zero_le _)) h)
        · have h := h.2 c149_
          refine z_aload_n O dL_kept_294 rfl rfl ?_
          refine z_iload O dL_kept_295 rfl ?_
          refine z_lload_n O dL_kept_297 rfl rfl ?_
          refine z_l2i O dL_kept_298 ?_
          refine z_iconst (v := 0) O dL_kept_299 (by decide) ?_
          have hk151_ := lk_step 1 234 hk2 (Nat.le_of_ble_eq_true rfl)
          refine z_callHl (As := [.ref b0, .int y11, .int (Int64.toInt32 y1), .int 0]) (st := []) O (s_LAW_truth hfl h0 h) wh_L_truth wl_RL_157 dL_kept_300 rfl rfl ⟨Nat.le_of_ble_eq_true rfl, Nat.le_of_ble_eq_true rfl⟩ (Nat.le_of_ble_eq_true rfl) ⟨lk_k hk151_, lk_n hk151_⟩ (fun r150_ z152_ G153_ hq154_ => ?_)
          obtain ⟨rfl, h⟩ := hq154_
          refine z_aload_n O dL_kept_303 rfl rfl ?_
          refine z_iload O dL_kept_304 rfl ?_
          have hk156_ := lk_step 1 233 hk151_ (Nat.le_of_ble_eq_true rfl)
          refine z_callHl (As := [.ref b0, .int y11]) (st := [.long r150_]) O (s_LAW_base hfl h0 h) wh_L_base wl_RL_115 dL_kept_306 rfl rfl ⟨Nat.le_of_ble_eq_true rfl, Nat.le_of_ble_eq_true rfl⟩ (Nat.le_of_ble_eq_true rfl) ⟨lk_k hk156_, lk_n hk156_⟩ (fun r155_ z157_ G158_ hq159_ => ?_)
          obtain ⟨rfl, h⟩ := hq159_
          refine z_lcmp O dL_kept_309 ?_
          refine z_if_ne (tgt := 339) O dL_kept_310 (by decide) (fun c160_ => ?_) (fun c160_ => ?_)
          · have h := h.1 c160_
            refine z_iconst (v := 0) O dL_kept_339 (by decide) ?_
            refine z_istore (L' := [some (.ref b0), some (.long y1), none, some (.long y3), none, none, none, none, none, some (.int y9), some (.int 0), some (.int y11), none, none, none, none, none, none, none, none, none, none]) O dL_kept_340 (by decide) rfl ?_
            refine z_iinc (v := (y11 + 1)) (L' := [some (.ref b0), some (.long y1), none, some (.long y3), none, none, none, none, none, some (.int y9), some (.int 0), some (.int (y11 + 1)), none, none, none, none, none, none, none, none, none, none]) O dL_kept_342 rfl (by first | rfl | decide) (by decide) rfl ?_
            refine z_goto (tgt := 282) O dL_kept_345 (by decide) ?_
            exact z_subL (L' := [some (.ref b0), some (.long y1), none, some (.long y3), none, none, none, none, none, some (.int y9), some (.int 0), some (.int (y11 + 1)), none, none, none, none, none, none, none, none, none, none]) (zLe.sub (And.intro rfl (And.intro rfl (And.intro rfl (And.intro rfl (And.intro rfl (And.intro rfl True.intro))))))) (ih y1 y3 y9 0 (y11 + 1) _ _ _ (lk_weak hk156_ (c' := 231) (Nat.le_of_ble_eq_true rfl) (Nat.le_refl _)) h)
          · have h := h.2 c160_
            refine z_aload_n O dL_kept_313 rfl rfl ?_
            refine z_iload O dL_kept_314 rfl ?_
            refine z_lload_n O dL_kept_316 rfl rfl ?_
            refine z_l2i O dL_kept_317 ?_
            refine z_iconst (v := 0) O dL_kept_318 (by decide) ?_
            have hk162_ := lk_step 1 232 hk156_ (Nat.le_of_ble_eq_true rfl)
            refine z_callHl (As := [.ref b0, .int y11, .int (Int64.toInt32 y3), .int 0]) (st := []) O (s_LAW_truth hfl h0 h) wh_L_truth wl_RL_157 dL_kept_319 rfl rfl ⟨Nat.le_of_ble_eq_true rfl, Nat.le_of_ble_eq_true rfl⟩ (Nat.le_of_ble_eq_true rfl) ⟨lk_k hk162_, lk_n hk162_⟩ (fun r161_ z163_ G164_ hq165_ => ?_)
            obtain ⟨rfl, h⟩ := hq165_
            refine z_aload_n O dL_kept_322 rfl rfl ?_
            refine z_iload O dL_kept_323 rfl ?_
            refine z_lload_n O dL_kept_325 rfl rfl ?_
            refine z_l2i O dL_kept_326 ?_
            refine z_iconst (v := 1) O dL_kept_327 (by decide) ?_
            have hk167_ := lk_step 1 231 hk162_ (Nat.le_of_ble_eq_true rfl)
            refine z_callHl (As := [.ref b0, .int y11, .int (Int64.toInt32 y3), .int 1]) (st := [.long r161_]) O (s_LAW_truth hfl h0 h) wh_L_truth wl_RL_157 dL_kept_328 rfl rfl ⟨Nat.le_of_ble_eq_true rfl, Nat.le_of_ble_eq_true rfl⟩ (Nat.le_of_ble_eq_true rfl) ⟨lk_k hk167_, lk_n hk167_⟩ (fun r166_ z168_ G169_ hq170_ => ?_)
            obtain ⟨rfl, h⟩ := hq170_
            refine z_lcmp O dL_kept_331 ?_
            refine z_if_ne (tgt := 339) O dL_kept_332 (by decide) (fun c171_ => ?_) (fun c171_ => ?_)
            · have h := h.1 c171_
              refine z_iconst (v := 0) O dL_kept_339 (by decide) ?_
              refine z_istore (L' := [some (.ref b0), some (.long y1), none, some (.long y3), none, none, none, none, none, some (.int y9), some (.int 0), some (.int y11), none, none, none, none, none, none, none, none, none, none]) O dL_kept_340 (by decide) rfl ?_
              refine z_iinc (v := (y11 + 1)) (L' := [some (.ref b0), some (.long y1), none, some (.long y3), none, none, none, none, none, some (.int y9), some (.int 0), some (.int (y11 + 1)), none, none, none, none, none, none, none, none, none, none]) O dL_kept_342 rfl (by first | rfl | decide) (by decide) rfl ?_
              refine z_goto (tgt := 282) O dL_kept_345 (by decide) ?_
              exact z_subL (L' := [some (.ref b0), some (.long y1), none, some (.long y3), none, none, none, none, none, some (.int y9), some (.int 0), some (.int (y11 + 1)), none, none, none, none, none, none, none, none, none, none]) (zLe.sub (And.intro rfl (And.intro rfl (And.intro rfl (And.intro rfl (And.intro rfl (And.intro rfl True.intro))))))) (ih y1 y3 y9 0 (y11 + 1) _ _ _ (lk_weak hk167_ (c' := 231) (Nat.le_of_ble_eq_true rfl) (Nat.le_refl _)) h)
            · have h := h.2 c171_
              refine z_iconst (v := 1) O dL_kept_335 (by decide) ?_
              refine z_goto (tgt := 340) O dL_kept_336 (by decide) ?_
              refine z_istore (L' := [some (.ref b0), some (.long y1), none, some (.long y3), none, none, none, none, none, some (.int y9), some (.int 1), some (.int y11), none, none, none, none, none, none, none, none, none, none]) O dL_kept_340 (by decide) rfl ?_
              refine z_iinc (v := (y11 + 1)) (L' := [some (.ref b0), some (.long y1), none, some (.long y3), none, none, none, none, none, some (.int y9), some (.int 1), some (.int (y11 + 1)), none, none, none, none, none, none, none, none, none, none]) O dL_kept_342 rfl (by first | rfl | decide) (by decide) rfl ?_
              refine z_goto (tgt := 282) O dL_kept_345 (by decide) ?_
              exact z_subL (L' := [some (.ref b0), some (.long y1), none, some (.long y3), none, none, none, none, none, some (.int y9), some (.int 1), some (.int (y11 + 1)), none, none, none, none, none, none, none, none, none, none]) (zLe.sub (And.intro rfl (And.intro rfl (And.intro rfl (And.intro rfl (And.intro rfl (And.intro rfl True.intro))))))) (ih y1 y3 y9 1 (y11 + 1) _ _ _ (lk_weak hk167_ (c' := 231) (Nat.le_of_ble_eq_true rfl) (Nat.le_refl _)) h)
  have HJ249 : ∀     (y1 : Int64) (y3 : Int64) (y5 : Int64) (y7 : Int64) (y9 : Int32) (y10 : Int32) (z9 k9 m9 : Nat) (hk : k9 + (268 + 0) ≤ 82279 ∧ m9 + 6 * (268 + 0) ≤ 493674) (h : PJ_LAW_kept_249 v0 y1 y3 y5 y7 y9 y10 Q), zT p l e (zrm 8 151 82279 493674) s m args below meth c (zEnd below D B (zRi fun r z' G' => G = G' ∧ Q r) args s 82279 493674) D B 22 k9 m9 249 [] [some (.ref b0), some (.long y1), none, some (.long y3), none, some (.long y5), none, some (.long y7), none, some (.int y9), some (.int y10), none, none, none, none, none, none, none, none, none, none, none] z9 G := by
    intro  y1 y3 y5 y7 y9 y10 z9 k9 m9 hk h
    unfold PJ_LAW_kept_249 at h
    refine z_iload O dL_kept_249 rfl ?_
    refine z_if_eq (tgt := 276) O dL_kept_251 (by decide) (fun c17_ => ?_) (fun c17_ => ?_)
    · have h := h.1 c17_
      refine z_iconst (v := 0) O dL_kept_276 (by decide) ?_
      refine z_istore (L' := [some (.ref b0), some (.long y1), none, some (.long y3), none, some (.long y5), none, some (.long y7), none, some (.int y9), some (.int 0), none, none, none, none, none, none, none, none, none, none, none]) O dL_kept_277 (by decide) rfl ?_
      refine z_iconst (v := 0) O dL_kept_279 (by decide) ?_
      refine z_istore (L' := [some (.ref b0), some (.long y1), none, some (.long y3), none, some (.long y5), none, some (.long y7), none, some (.int y9), some (.int 0), some (.int 0), none, none, none, none, none, none, none, none, none, none]) O dL_kept_280 (by decide) rfl ?_
      obtain ⟨n172_, hbn172_, h⟩ := h
      exact z_subL (L' := [some (.ref b0), some (.long y1), none, some (.long y3), none, none, none, none, none, some (.int y9), some (.int 0), some (.int 0), none, none, none, none, none, none, none, none, none, none]) (zLe.sub (And.intro rfl (And.intro rfl (And.intro rfl (And.intro rfl (And.intro rfl (And.intro rfl True.intro))))))) (HL282 n172_ y1 y3 y9 0 0 _ _ _ (lk_loop hk hbn172_ (I := 4) (base := 231) (Nat.le_of_ble_eq_true rfl) (Nat.le_refl _)) h)
    · have h := h.2 c17_
      refine z_lload O dL_kept_254 rfl ?_
      refine z_lload_n O dL_kept_256 rfl rfl ?_
      refine z_lcmp O dL_kept_257 ?_
      refine z_if_ne (tgt := 276) O dL_kept_258 (by decide) (fun c173_ => ?_) (fun c173_ => ?_)
      · have h := h.1 c173_
        refine z_iconst (v := 0) O dL_kept_276 (by decide) ?_
        refine z_istore (L' := [some (.ref b0), some (.long y1), none, some (.long y3), none, some (.long y5), none, some (.long y7), none, some (.int y9), some (.int 0), none, none, none, none, none, none, none, none, none, none, none]) O dL_kept_277 (by decide) rfl ?_
        refine z_iconst (v := 0) O dL_kept_279 (by decide) ?_
        refine z_istore (L' := [some (.ref b0), some (.long y1), none, some (.long y3), none, some (.long y5), none, some (.long y7), none, some (.int y9), some (.int 0), some (.int 0), none, none, none, none, none, none, none, none, none, none]) O dL_kept_280 (by decide) rfl ?_
        obtain ⟨n174_, hbn174_, h⟩ := h
        exact z_subL (L' := [some (.ref b0), some (.long y1), none, some (.long y3), none, none, none, none, none, some (.int y9), some (.int 0), some (.int 0), none, none, none, none, none, none, none, none, none, none]) (zLe.sub (And.intro rfl (And.intro rfl (And.intro rfl (And.intro rfl (And.intro rfl (And.intro rfl True.intro))))))) (HL282 n174_ y1 y3 y9 0 0 _ _ _ (lk_loop hk hbn174_ (I := 4) (base := 231) (Nat.le_of_ble_eq_true rfl) (Nat.le_refl _)) h)
      · have h := h.2 c173_
        refine z_aload_n O dL_kept_261 rfl rfl ?_
        refine z_iconst (v := 3) O dL_kept_262 (by decide) ?_
        have hk176_ := lk_step 1 267 hk (Nat.le_of_ble_eq_true rfl)
        refine z_callHl (As := [.ref b0, .int 3]) (st := []) O (s_LAW_about hfl h0 h) wh_L_about wl_RL_110 dL_kept_263 rfl rfl ⟨Nat.le_of_ble_eq_true rfl, Nat.le_of_ble_eq_true rfl⟩ (Nat.le_of_ble_eq_true rfl) ⟨lk_k hk176_, lk_n hk176_⟩ (fun r175_ z177_ G178_ hq179_ => ?_)
        obtain ⟨rfl, h⟩ := hq179_
        refine z_lload O dL_kept_266 rfl ?_
        refine z_lcmp O dL_kept_268 ?_
        refine z_if_ne (tgt := 276) O dL_kept_269 (by decide) (fun c180_ => ?_) (fun c180_ => ?_)
        · have h := h.1 c180_
          refine z_iconst (v := 0) O dL_kept_276 (by decide) ?_
          refine z_istore (L' := [some (.ref b0), some (.long y1), none, some (.long y3), none, some (.long y5), none, some (.long y7), none, some (.int y9), some (.int 0), none, none, none, none, none, none, none, none, none, none, none]) O dL_kept_277 (by decide) rfl ?_
          refine z_iconst (v := 0) O dL_kept_279 (by decide) ?_
          refine z_istore (L' := [some (.ref b0), some (.long y1), none, some (.long y3), none, some (.long y5), none, some (.long y7), none, some (.int y9), some (.int 0), some (.int 0), none, none, none, none, none, none, none, none, none, none]) O dL_kept_280 (by decide) rfl ?_
          obtain ⟨n181_, hbn181_, h⟩ := h
          exact z_subL (L' := [some (.ref b0), some (.long y1), none, some (.long y3), none, none, none, none, none, some (.int y9), some (.int 0), some (.int 0), none, none, none, none, none, none, none, none, none, none]) (zLe.sub (And.intro rfl (And.intro rfl (And.intro rfl (And.intro rfl (And.intro rfl (And.intro rfl True.intro))))))) (HL282 n181_ y1 y3 y9 0 0 _ _ _ (lk_loop hk176_ hbn181_ (I := 4) (base := 231) (Nat.le_of_ble_eq_true rfl) (Nat.le_refl _)) h)
        · have h := h.2 c180_
          refine z_iconst (v := 1) O dL_kept_272 (by decide) ?_
          refine z_goto (tgt := 277) O dL_kept_273 (by decide) ?_
          refine z_istore (L' := [some (.ref b0), some (.long y1), none, some (.long y3), none, some (.long y5), none, some (.long y7), none, some (.int y9), some (.int 1), none, none, none, none, none, none, none, none, none, none, none]) O dL_kept_277 (by decide) rfl ?_
          refine z_iconst (v := 0) O dL_kept_279 (by decide) ?_
          refine z_istore (L' := [some (.ref b0), some (.long y1), none, some (.long y3), none, some (.long y5), none, some (.long y7), none, some (.int y9), some (.int 1), some (.int 0), none, none, none, none, none, none, none, none, none, none]) O dL_kept_280 (by decide) rfl ?_
          obtain ⟨n182_, hbn182_, h⟩ := h
          exact z_subL (L' := [some (.ref b0), some (.long y1), none, some (.long y3), none, none, none, none, none, some (.int y9), some (.int 1), some (.int 0), none, none, none, none, none, none, none, none, none, none]) (zLe.sub (And.intro rfl (And.intro rfl (And.intro rfl (And.intro rfl (And.intro rfl (And.intro rfl True.intro))))))) (HL282 n182_ y1 y3 y9 1 0 _ _ _ (lk_loop hk176_ hbn182_ (I := 4) (base := 231) (Nat.le_of_ble_eq_true rfl) (Nat.le_refl _)) h)
  have HJ227 : ∀  (K32 : Int64 → Int64 → Int64 → Int64 → Int32 → Int32 → Int32 → Prop) (Y32 : Nat) (hK32 : ∀ (a0 : Int64) (a1 : Int64) (a2 : Int64) (a3 : Int64) (a4 : Int32) (a5 : Int32) (a6 : Int32) (z9 k9 m9 : Nat) (hk9 : k9 + (268 + Y32) ≤ 82279 ∧ m9 + 6 * (268 + Y32) ≤ 493674), K32 a0 a1 a2 a3 a4 a5 a6 → zT p l e (zrm 8 151 82279 493674) s m args below meth c (zEnd below D B (zRi fun r z' G' => G = G' ∧ Q r) args s 82279 493674) D B 22 k9 m9 32 [] [some (.ref b0), some (.long a0), none, some (.long a1), none, some (.long a2), none, some (.long a3), none, some (.int a4), some (.int a5), some (.int a6), none, none, none, none, none, none, none, none, none, none] z9 G) (y1 : Int64) (y3 : Int64) (y5 : Int64) (y7 : Int64) (y9 : Int32) (y11 : Int32) (y12 : Int64) (y14 : Int64) (u0 : Int32) (z9 k9 m9 : Nat) (hk : k9 + (268 + Y32) ≤ 82279 ∧ m9 + 6 * (268 + Y32) ≤ 493674) (h : PJ_LAW_kept_227 v0 y1 y3 y5 y7 y9 y11 y12 y14 u0 K32 Q), zT p l e (zrm 8 151 82279 493674) s m args below meth c (zEnd below D B (zRi fun r z' G' => G = G' ∧ Q r) args s 82279 493674) D B 22 k9 m9 227 [.int u0] [some (.ref b0), some (.long y1), none, some (.long y3), none, some (.long y5), none, some (.long y7), none, some (.int y9), none, some (.int y11), some (.long y12), none, some (.long y14), none, none, none, none, none, none, none] z9 G := by
    intro K32 Y32 hK32 y1 y3 y5 y7 y9 y11 y12 y14 u0 z9 k9 m9 hk h
    unfold PJ_LAW_kept_227 at h
    refine z_istore (L' := [some (.ref b0), some (.long y1), none, some (.long y3), none, some (.long y5), none, some (.long y7), none, some (.int y9), some (.int u0), some (.int y11), some (.long y12), none, some (.long y14), none, none, none, none, none, none, none]) O dL_kept_227 (by decide) rfl ?_
    refine z_lload O dL_kept_229 rfl ?_
    refine z_lload O dL_kept_231 rfl ?_
    refine z_ladd O dL_kept_233 ?_
    refine z_lstore (L' := [some (.ref b0), some (.long y1), none, some (.long y3), none, some (.long (y5 + y12)), none, some (.long y7), none, some (.int y9), some (.int u0), some (.int y11), some (.long y12), none, some (.long y14), none, none, none, none, none, none, none]) O dL_kept_234 (by decide) rfl ?_
    refine z_lload O dL_kept_236 rfl ?_
    refine z_lload O dL_kept_238 rfl ?_
    refine z_ladd O dL_kept_240 ?_
    refine z_lstore (L' := [some (.ref b0), some (.long y1), none, some (.long y3), none, some (.long (y5 + y12)), none, some (.long (y7 + y14)), none, some (.int y9), some (.int u0), some (.int y11), some (.long y12), none, some (.long y14), none, none, none, none, none, none, none]) O dL_kept_241 (by decide) rfl ?_
    refine z_iinc (v := (y11 + 1)) (L' := [some (.ref b0), some (.long y1), none, some (.long y3), none, some (.long (y5 + y12)), none, some (.long (y7 + y14)), none, some (.int y9), some (.int u0), some (.int (y11 + 1)), some (.long y12), none, some (.long y14), none, none, none, none, none, none, none]) O dL_kept_243 rfl (by first | rfl | decide) (by decide) rfl ?_
    refine z_goto (tgt := 32) O dL_kept_246 (by decide) ?_
    exact z_subL (L' := [some (.ref b0), some (.long y1), none, some (.long y3), none, some (.long (y5 + y12)), none, some (.long (y7 + y14)), none, some (.int y9), some (.int u0), some (.int (y11 + 1)), none, none, none, none, none, none, none, none, none, none]) (zLe.sub (And.intro rfl (And.intro rfl (And.intro rfl (And.intro rfl (And.intro rfl (And.intro rfl (And.intro rfl (And.intro rfl True.intro))))))))) (hK32 y1 y3 (y5 + y12) (y7 + y14) y9 u0 (y11 + 1) _ _ _ (lk_weak hk (c' := 268) (Nat.le_of_ble_eq_true rfl) (Nat.le_refl _)) h)
  have HJ226 : ∀  (K32 : Int64 → Int64 → Int64 → Int64 → Int32 → Int32 → Int32 → Prop) (Y32 : Nat) (hK32 : ∀ (a0 : Int64) (a1 : Int64) (a2 : Int64) (a3 : Int64) (a4 : Int32) (a5 : Int32) (a6 : Int32) (z9 k9 m9 : Nat) (hk9 : k9 + (268 + Y32) ≤ 82279 ∧ m9 + 6 * (268 + Y32) ≤ 493674), K32 a0 a1 a2 a3 a4 a5 a6 → zT p l e (zrm 8 151 82279 493674) s m args below meth c (zEnd below D B (zRi fun r z' G' => G = G' ∧ Q r) args s 82279 493674) D B 22 k9 m9 32 [] [some (.ref b0), some (.long a0), none, some (.long a1), none, some (.long a2), none, some (.long a3), none, some (.int a4), some (.int a5), some (.int a6), none, none, none, none, none, none, none, none, none, none] z9 G) (y1 : Int64) (y3 : Int64) (y5 : Int64) (y7 : Int64) (y9 : Int32) (y11 : Int32) (y12 : Int64) (y14 : Int64) (z9 k9 m9 : Nat) (hk : k9 + (268 + Y32) ≤ 82279 ∧ m9 + 6 * (268 + Y32) ≤ 493674) (h : PJ_LAW_kept_226 v0 y1 y3 y5 y7 y9 y11 y12 y14 K32 Q), zT p l e (zrm 8 151 82279 493674) s m args below meth c (zEnd below D B (zRi fun r z' G' => G = G' ∧ Q r) args s 82279 493674) D B 22 k9 m9 226 [] [some (.ref b0), some (.long y1), none, some (.long y3), none, some (.long y5), none, some (.long y7), none, some (.int y9), none, some (.int y11), some (.long y12), none, some (.long y14), none, none, none, none, none, none, none] z9 G := by
    intro K32 Y32 hK32 y1 y3 y5 y7 y9 y11 y12 y14 z9 k9 m9 hk h
    unfold PJ_LAW_kept_226 at h
    refine z_iconst (v := 0) O dL_kept_226 (by decide) ?_
    exact z_subL (L' := [some (.ref b0), some (.long y1), none, some (.long y3), none, some (.long y5), none, some (.long y7), none, some (.int y9), none, some (.int y11), some (.long y12), none, some (.long y14), none, none, none, none, none, none, none]) (zLe.sub (And.intro rfl (And.intro rfl (And.intro rfl (And.intro rfl (And.intro rfl (And.intro rfl (And.intro rfl (And.intro rfl (And.intro rfl True.intro)))))))))) (HJ227 _ Y32 hK32 y1 y3 y5 y7 y9 y11 y12 y14 0 _ _ _ (lk_weak hk (c' := 268) (Nat.le_of_ble_eq_true rfl) (Nat.le_refl _)) h)
  have HJ218 : ∀  (K32 : Int64 → Int64 → Int64 → Int64 → Int32 → Int32 → Int32 → Prop) (Y32 : Nat) (hK32 : ∀ (a0 : Int64) (a1 : Int64) (a2 : Int64) (a3 : Int64) (a4 : Int32) (a5 : Int32) (a6 : Int32) (z9 k9 m9 : Nat) (hk9 : k9 + (268 + Y32) ≤ 82279 ∧ m9 + 6 * (268 + Y32) ≤ 493674), K32 a0 a1 a2 a3 a4 a5 a6 → zT p l e (zrm 8 151 82279 493674) s m args below meth c (zEnd below D B (zRi fun r z' G' => G = G' ∧ Q r) args s 82279 493674) D B 22 k9 m9 32 [] [some (.ref b0), some (.long a0), none, some (.long a1), none, some (.long a2), none, some (.long a3), none, some (.int a4), some (.int a5), some (.int a6), none, none, none, none, none, none, none, none, none, none] z9 G) (y1 : Int64) (y3 : Int64) (y5 : Int64) (y7 : Int64) (y9 : Int32) (y11 : Int32) (y12 : Int64) (y14 : Int64) (u0 : Int64) (u1 : Int64) (z9 k9 m9 : Nat) (hk : k9 + (268 + Y32) ≤ 82279 ∧ m9 + 6 * (268 + Y32) ≤ 493674) (h : PJ_LAW_kept_218 v0 y1 y3 y5 y7 y9 y11 y12 y14 u0 u1 K32 Q), zT p l e (zrm 8 151 82279 493674) s m args below meth c (zEnd below D B (zRi fun r z' G' => G = G' ∧ Q r) args s 82279 493674) D B 22 k9 m9 218 [.long u0, .long u1] [some (.ref b0), some (.long y1), none, some (.long y3), none, some (.long y5), none, some (.long y7), none, some (.int y9), none, some (.int y11), some (.long y12), none, some (.long y14), none, none, none, none, none, none, none] z9 G := by
    intro K32 Y32 hK32 y1 y3 y5 y7 y9 y11 y12 y14 u0 u1 z9 k9 m9 hk h
    unfold PJ_LAW_kept_218 at h
    refine z_lcmp O dL_kept_218 ?_
    refine z_if_ne (tgt := 226) O dL_kept_219 (by decide) (fun c223_ => ?_) (fun c223_ => ?_)
    · have h := h.1 c223_
      exact z_subL (L' := [some (.ref b0), some (.long y1), none, some (.long y3), none, some (.long y5), none, some (.long y7), none, some (.int y9), none, some (.int y11), some (.long y12), none, some (.long y14), none, none, none, none, none, none, none]) (zLe.sub (And.intro rfl (And.intro rfl (And.intro rfl (And.intro rfl (And.intro rfl (And.intro rfl (And.intro rfl (And.intro rfl (And.intro rfl True.intro)))))))))) (HJ226 _ Y32 hK32 y1 y3 y5 y7 y9 y11 y12 y14 _ _ _ (lk_weak hk (c' := 268) (Nat.le_of_ble_eq_true rfl) (Nat.le_refl _)) h)
    · have h := h.2 c223_
      refine z_iconst (v := 1) O dL_kept_222 (by decide) ?_
      refine z_goto (tgt := 227) O dL_kept_223 (by decide) ?_
      exact z_subL (L' := [some (.ref b0), some (.long y1), none, some (.long y3), none, some (.long y5), none, some (.long y7), none, some (.int y9), none, some (.int y11), some (.long y12), none, some (.long y14), none, none, none, none, none, none, none]) (zLe.sub (And.intro rfl (And.intro rfl (And.intro rfl (And.intro rfl (And.intro rfl (And.intro rfl (And.intro rfl (And.intro rfl (And.intro rfl True.intro)))))))))) (HJ227 _ Y32 hK32 y1 y3 y5 y7 y9 y11 y12 y14 1 _ _ _ (lk_weak hk (c' := 268) (Nat.le_of_ble_eq_true rfl) (Nat.le_refl _)) h)
  have HJ184 : ∀  (K32 : Int64 → Int64 → Int64 → Int64 → Int32 → Int32 → Int32 → Prop) (Y32 : Nat) (hK32 : ∀ (a0 : Int64) (a1 : Int64) (a2 : Int64) (a3 : Int64) (a4 : Int32) (a5 : Int32) (a6 : Int32) (z9 k9 m9 : Nat) (hk9 : k9 + (268 + Y32) ≤ 82279 ∧ m9 + 6 * (268 + Y32) ≤ 493674), K32 a0 a1 a2 a3 a4 a5 a6 → zT p l e (zrm 8 151 82279 493674) s m args below meth c (zEnd below D B (zRi fun r z' G' => G = G' ∧ Q r) args s 82279 493674) D B 22 k9 m9 32 [] [some (.ref b0), some (.long a0), none, some (.long a1), none, some (.long a2), none, some (.long a3), none, some (.int a4), some (.int a5), some (.int a6), none, none, none, none, none, none, none, none, none, none] z9 G) (y1 : Int64) (y3 : Int64) (y5 : Int64) (y7 : Int64) (y9 : Int32) (y11 : Int32) (y12 : Int64) (y14 : Int64) (u0 : Int64) (u1 : Int64) (z9 k9 m9 : Nat) (hk : k9 + (270 + Y32) ≤ 82279 ∧ m9 + 6 * (270 + Y32) ≤ 493674) (h : PJ_LAW_kept_184 v0 y1 y3 y5 y7 y9 y11 y12 y14 u0 u1 K32 Q), zT p l e (zrm 8 151 82279 493674) s m args below meth c (zEnd below D B (zRi fun r z' G' => G = G' ∧ Q r) args s 82279 493674) D B 22 k9 m9 184 [.long u0, .long u1] [some (.ref b0), some (.long y1), none, some (.long y3), none, some (.long y5), none, some (.long y7), none, some (.int y9), none, some (.int y11), some (.long y12), none, some (.long y14), none, none, none, none, none, none, none] z9 G := by
    intro K32 Y32 hK32 y1 y3 y5 y7 y9 y11 y12 y14 u0 u1 z9 k9 m9 hk h
    unfold PJ_LAW_kept_184 at h
    refine z_lcmp O dL_kept_184 ?_
    refine z_if_ne (tgt := 226) O dL_kept_185 (by decide) (fun c211_ => ?_) (fun c211_ => ?_)
    · have h := h.1 c211_
      exact z_subL (L' := [some (.ref b0), some (.long y1), none, some (.long y3), none, some (.long y5), none, some (.long y7), none, some (.int y9), none, some (.int y11), some (.long y12), none, some (.long y14), none, none, none, none, none, none, none]) (zLe.sub (And.intro rfl (And.intro rfl (And.intro rfl (And.intro rfl (And.intro rfl (And.intro rfl (And.intro rfl (And.intro rfl (And.intro rfl True.intro)))))))))) (HJ226 _ Y32 hK32 y1 y3 y5 y7 y9 y11 y12 y14 _ _ _ (lk_weak hk (c' := 268) (Nat.le_of_ble_eq_true rfl) (Nat.le_refl _)) h)
    · have h := h.2 c211_
      refine z_aload_n O dL_kept_188 rfl rfl ?_
      refine z_iload O dL_kept_189 rfl ?_
      refine z_iconst (v := 5) O dL_kept_191 (by decide) ?_
      have hk213_ := lk_step 1 269 hk (Nat.le_of_ble_eq_true rfl)
      refine z_callHl (As := [.ref b0, .int y11, .int 5]) (st := []) O (s_LAW_segmentOf hfl h0 h) wh_L_segmentOf wl_RL_134 dL_kept_192 rfl rfl ⟨Nat.le_of_ble_eq_true rfl, Nat.le_of_ble_eq_true rfl⟩ (Nat.le_of_ble_eq_true rfl) ⟨lk_k hk213_, lk_n hk213_⟩ (fun r212_ z214_ G215_ hq216_ => ?_)
      obtain ⟨rfl, h⟩ := hq216_
      refine z_aload_n O dL_kept_195 rfl rfl ?_
      refine z_lload O dL_kept_196 rfl ?_
      refine z_lload O dL_kept_198 rfl ?_
      refine z_ladd O dL_kept_200 ?_
      refine z_l2i O dL_kept_201 ?_
      refine z_iconst (v := 1) O dL_kept_202 (by decide) ?_
      refine z_isub O dL_kept_203 ?_
      refine z_iconst (v := 5) O dL_kept_204 (by decide) ?_
      have hk218_ := lk_step 1 268 hk213_ (Nat.le_of_ble_eq_true rfl)
      refine z_callHl (As := [.ref b0, .int ((Int64.toInt32 (y5 + y12)) - 1), .int 5]) (st := [.long r212_]) O (s_LAW_rowOf hfl h0 h) wh_L_rowOf wl_RL_132 dL_kept_205 rfl rfl ⟨Nat.le_of_ble_eq_true rfl, Nat.le_of_ble_eq_true rfl⟩ (Nat.le_of_ble_eq_true rfl) ⟨lk_k hk218_, lk_n hk218_⟩ (fun r217_ z219_ G220_ hq221_ => ?_)
      obtain ⟨rfl, h⟩ := hq221_
      refine z_lconst (v := 0) O dL_kept_208 (by decide) ?_
      refine z_lcmp O dL_kept_209 ?_
      refine z_if_le (tgt := 217) O dL_kept_210 (by decide) (fun c222_ => ?_) (fun c222_ => ?_)
      · have h := h.1 c222_
        refine z_lconst (v := 0) O dL_kept_217 (by decide) ?_
        exact z_subL (L' := [some (.ref b0), some (.long y1), none, some (.long y3), none, some (.long y5), none, some (.long y7), none, some (.int y9), none, some (.int y11), some (.long y12), none, some (.long y14), none, none, none, none, none, none, none]) (zLe.sub (And.intro rfl (And.intro rfl (And.intro rfl (And.intro rfl (And.intro rfl (And.intro rfl (And.intro rfl (And.intro rfl (And.intro rfl True.intro)))))))))) (HJ218 _ Y32 hK32 y1 y3 y5 y7 y9 y11 y12 y14 0 r212_ _ _ _ (lk_weak hk218_ (c' := 268) (Nat.le_of_ble_eq_true rfl) (Nat.le_refl _)) h)
      · have h := h.2 c222_
        refine z_lconst (v := 1) O dL_kept_213 (by decide) ?_
        refine z_goto (tgt := 218) O dL_kept_214 (by decide) ?_
        exact z_subL (L' := [some (.ref b0), some (.long y1), none, some (.long y3), none, some (.long y5), none, some (.long y7), none, some (.int y9), none, some (.int y11), some (.long y12), none, some (.long y14), none, none, none, none, none, none, none]) (zLe.sub (And.intro rfl (And.intro rfl (And.intro rfl (And.intro rfl (And.intro rfl (And.intro rfl (And.intro rfl (And.intro rfl (And.intro rfl True.intro)))))))))) (HJ218 _ Y32 hK32 y1 y3 y5 y7 y9 y11 y12 y14 1 r212_ _ _ _ (lk_weak hk218_ (c' := 268) (Nat.le_of_ble_eq_true rfl) (Nat.le_refl _)) h)
  have HL61 : ∀ (n9 : Nat)  (K32 : Int64 → Int64 → Int64 → Int64 → Int32 → Int32 → Int32 → Prop) (Y32 : Nat) (hK32 : ∀ (a0 : Int64) (a1 : Int64) (a2 : Int64) (a3 : Int64) (a4 : Int32) (a5 : Int32) (a6 : Int32) (z9 k9 m9 : Nat) (hk9 : k9 + (268 + Y32) ≤ 82279 ∧ m9 + 6 * (268 + Y32) ≤ 493674), K32 a0 a1 a2 a3 a4 a5 a6 → zT p l e (zrm 8 151 82279 493674) s m args below meth c (zEnd below D B (zRi fun r z' G' => G = G' ∧ Q r) args s 82279 493674) D B 22 k9 m9 32 [] [some (.ref b0), some (.long a0), none, some (.long a1), none, some (.long a2), none, some (.long a3), none, some (.int a4), some (.int a5), some (.int a6), none, none, none, none, none, none, none, none, none, none] z9 G) (y1 : Int64) (y3 : Int64) (y5 : Int64) (y7 : Int64) (y9 : Int32) (y10 : Int32) (y11 : Int32) (y12 : Int64) (y14 : Int64) (y16 : Int32) (z9 k9 m9 : Nat) (hk : k9 + (273 + (n9 * 2 + Y32)) ≤ 82279 ∧ m9 + 6 * (273 + (n9 * 2 + Y32)) ≤ 493674) (h : PL_LAW_kept_61 n9 v0 y1 y3 y5 y7 y9 y10 y11 y12 y14 y16 K32 Q), zT p l e (zrm 8 151 82279 493674) s m args below meth c (zEnd below D B (zRi fun r z' G' => G = G' ∧ Q r) args s 82279 493674) D B 22 k9 m9 61 [] [some (.ref b0), some (.long y1), none, some (.long y3), none, some (.long y5), none, some (.long y7), none, some (.int y9), some (.int y10), some (.int y11), some (.long y12), none, some (.long y14), none, some (.int y16), none, none, none, none, none] z9 G := by
    intro n9 K32 Y32 hK32
    induction n9 with
    | zero =>
      intro _ _ _ _ _ _ _ _ _ _ _ _ _ _ h
      exact (h : False).elim
    | succ n ih =>
      intro y1 y3 y5 y7 y9 y10 y11 y12 y14 y16 z9 k9 m9 hk h
      rw [PL_LAW_kept_61] at h
      have hk2 := lk_succ hk
      refine z_iload O dL_kept_61 rfl ?_
      refine z_i2l O dL_kept_63 ?_
      refine z_lload O dL_kept_64 rfl ?_
      refine z_lload O dL_kept_66 rfl ?_
      refine z_ladd O dL_kept_68 ?_
      refine z_lcmp O dL_kept_69 ?_
      refine z_if_ge (tgt := 116) O dL_kept_70 (by decide) (fun c189_ => ?_) (fun c189_ => ?_)
      · have h := h.1 c189_
        refine z_iload O dL_kept_116 rfl ?_
        refine z_if_eq (tgt := 226) O dL_kept_118 (by decide) (fun c190_ => ?_) (fun c190_ => ?_)
        · have h := h.1 c190_
          exact z_subL (L' := [some (.ref b0), some (.long y1), none, some (.long y3), none, some (.long y5), none, some (.long y7), none, some (.int y9), none, some (.int y11), some (.long y12), none, some (.long y14), none, none, none, none, none, none, none]) (zLe.sub (And.intro rfl (And.intro rfl (And.intro rfl (And.intro rfl (And.intro rfl (And.intro rfl (And.intro rfl (And.intro rfl (And.intro rfl True.intro)))))))))) (HJ226 _ Y32 hK32 y1 y3 y5 y7 y9 y11 y12 y14 _ _ _ (lk_weak hk2 (c' := 268) (Nat.le_of_ble_eq_true rfl) (Nat.le_add_left _ _)) h)
        · have h := h.2 c190_
          refine z_aload_n O dL_kept_121 rfl rfl ?_
          refine z_iload O dL_kept_122 rfl ?_
          refine z_iconst (v := 0) O dL_kept_124 (by decide) ?_
          have hk192_ := lk_step 1 274 hk2 (Nat.le_of_ble_eq_true rfl)
          refine z_callHl (As := [.ref b0, .int y11, .int 0]) (st := []) O (s_LAW_segmentOf hfl h0 h) wh_L_segmentOf wl_RL_134 dL_kept_125 rfl rfl ⟨Nat.le_of_ble_eq_true rfl, Nat.le_of_ble_eq_true rfl⟩ (Nat.le_of_ble_eq_true rfl) ⟨lk_k hk192_, lk_n hk192_⟩ (fun r191_ z193_ G194_ hq195_ => ?_)
          obtain ⟨rfl, h⟩ := hq195_
          refine z_lload O dL_kept_128 rfl ?_
          refine z_lcmp O dL_kept_130 ?_
          refine z_if_ne (tgt := 226) O dL_kept_131 (by decide) (fun c196_ => ?_) (fun c196_ => ?_)
          · have h := h.1 c196_
            exact z_subL (L' := [some (.ref b0), some (.long y1), none, some (.long y3), none, some (.long y5), none, some (.long y7), none, some (.int y9), none, some (.int y11), some (.long y12), none, some (.long y14), none, none, none, none, none, none, none]) (zLe.sub (And.intro rfl (And.intro rfl (And.intro rfl (And.intro rfl (And.intro rfl (And.intro rfl (And.intro rfl (And.intro rfl (And.intro rfl True.intro)))))))))) (HJ226 _ Y32 hK32 y1 y3 y5 y7 y9 y11 y12 y14 _ _ _ (lk_weak hk192_ (c' := 268) (Nat.le_of_ble_eq_true rfl) (Nat.le_add_left _ _)) h)
          · have h := h.2 c196_
            refine z_lload O dL_kept_134 rfl ?_
            refine z_lconst (v := 0) O dL_kept_136 (by decide) ?_
            refine z_lcmp O dL_kept_137 ?_
            refine z_if_le (tgt := 226) O dL_kept_138 (by decide) (fun c197_ => ?_) (fun c197_ => ?_)
            · have h := h.1 c197_
              exact z_subL (L' := [some (.ref b0), some (.long y1), none, some (.long y3), none, some (.long y5), none, some (.long y7), none, some (.int y9), none, some (.int y11), some (.long y12), none, some (.long y14), none, none, none, none, none, none, none]) (zLe.sub (And.intro rfl (And.intro rfl (And.intro rfl (And.intro rfl (And.intro rfl (And.intro rfl (And.intro rfl (And.intro rfl (And.intro rfl True.intro)))))))))) (HJ226 _ Y32 hK32 y1 y3 y5 y7 y9 y11 y12 y14 _ _ _ (lk_weak hk192_ (c' := 268) (Nat.le_of_ble_eq_true rfl) (Nat.le_add_left _ _)) h)
            · have h := h.2 c197_
              refine z_aload_n O dL_kept_141 rfl rfl ?_
              refine z_iload O dL_kept_142 rfl ?_
              refine z_iconst (v := 2) O dL_kept_144 (by decide) ?_
              have hk199_ := lk_step 1 273 hk192_ (Nat.le_of_ble_eq_true rfl)
              refine z_callHl (As := [.ref b0, .int y11, .int 2]) (st := []) O (s_LAW_segmentOf hfl h0 h) wh_L_segmentOf wl_RL_134 dL_kept_145 rfl rfl ⟨Nat.le_of_ble_eq_true rfl, Nat.le_of_ble_eq_true rfl⟩ (Nat.le_of_ble_eq_true rfl) ⟨lk_k hk199_, lk_n hk199_⟩ (fun r198_ z200_ G201_ hq202_ => ?_)
              obtain ⟨rfl, h⟩ := hq202_
              refine z_lload O dL_kept_148 rfl ?_
              refine z_lcmp O dL_kept_150 ?_
              refine z_if_ne (tgt := 226) O dL_kept_151 (by decide) (fun c203_ => ?_) (fun c203_ => ?_)
              · have h := h.1 c203_
                exact z_subL (L' := [some (.ref b0), some (.long y1), none, some (.long y3), none, some (.long y5), none, some (.long y7), none, some (.int y9), none, some (.int y11), some (.long y12), none, some (.long y14), none, none, none, none, none, none, none]) (zLe.sub (And.intro rfl (And.intro rfl (And.intro rfl (And.intro rfl (And.intro rfl (And.intro rfl (And.intro rfl (And.intro rfl (And.intro rfl True.intro)))))))))) (HJ226 _ Y32 hK32 y1 y3 y5 y7 y9 y11 y12 y14 _ _ _ (lk_weak hk199_ (c' := 268) (Nat.le_of_ble_eq_true rfl) (Nat.le_add_left _ _)) h)
              · have h := h.2 c203_
                refine z_lload O dL_kept_154 rfl ?_
                refine z_ldc2 (v := 200) O wc_RL_176 dL_kept_156 ?_
                refine z_lcmp O dL_kept_159 ?_
                refine z_if_gt (tgt := 226) O dL_kept_160 (by decide) (fun c204_ => ?_) (fun c204_ => ?_)
                · have h := h.1 c204_
                  exact z_subL (L' := [some (.ref b0), some (.long y1), none, some (.long y3), none, some (.long y5), none, some (.long y7), none, some (.int y9), none, some (.int y11), some (.long y12), none, some (.long y14), none, none, none, none, none, none, none]) (zLe.sub (And.intro rfl (And.intro rfl (And.intro rfl (And.intro rfl (And.intro rfl (And.intro rfl (And.intro rfl (And.intro rfl (And.intro rfl True.intro)))))))))) (HJ226 _ Y32 hK32 y1 y3 y5 y7 y9 y11 y12 y14 _ _ _ (lk_weak hk199_ (c' := 268) (Nat.le_of_ble_eq_true rfl) (Nat.le_add_left _ _)) h)
                · have h := h.2 c204_
                  refine z_aload_n O dL_kept_163 rfl rfl ?_
                  refine z_iload O dL_kept_164 rfl ?_
                  refine z_iconst (v := 3) O dL_kept_166 (by decide) ?_
                  have hk206_ := lk_step 1 272 hk199_ (Nat.le_of_ble_eq_true rfl)
                  refine z_callHl (As := [.ref b0, .int y11, .int 3]) (st := []) O (s_LAW_segmentOf hfl h0 h) wh_L_segmentOf wl_RL_134 dL_kept_167 rfl rfl ⟨Nat.le_of_ble_eq_true rfl, Nat.le_of_ble_eq_true rfl⟩ (Nat.le_of_ble_eq_true rfl) ⟨lk_k hk206_, lk_n hk206_⟩ (fun r205_ z207_ G208_ hq209_ => ?_)
                  obtain ⟨rfl, h⟩ := hq209_
                  refine z_iload O dL_kept_170 rfl ?_
                  refine z_iconst (v := 1) O dL_kept_172 (by decide) ?_
                  refine z_iadd O dL_kept_173 ?_
                  refine z_iload O dL_kept_174 rfl ?_
                  refine z_icmp_ge (tgt := 183) O dL_kept_176 (by decide) (fun c210_ => ?_) (fun c210_ => ?_)
                  · have h := h.1 c210_
                    refine z_lconst (v := 0) O dL_kept_183 (by decide) ?_
                    exact z_subL (L' := [some (.ref b0), some (.long y1), none, some (.long y3), none, some (.long y5), none, some (.long y7), none, some (.int y9), none, some (.int y11), some (.long y12), none, some (.long y14), none, none, none, none, none, none, none]) (zLe.sub (And.intro rfl (And.intro rfl (And.intro rfl (And.intro rfl (And.intro rfl (And.intro rfl (And.intro rfl (And.intro rfl (And.intro rfl True.intro)))))))))) (HJ184 _ Y32 hK32 y1 y3 y5 y7 y9 y11 y12 y14 0 r205_ _ _ _ (lk_weak hk206_ (c' := 270) (Nat.le_of_ble_eq_true rfl) (Nat.le_add_left _ _)) h)
                  · have h := h.2 c210_
                    refine z_lconst (v := 1) O dL_kept_179 (by decide) ?_
                    refine z_goto (tgt := 184) O dL_kept_180 (by decide) ?_
                    exact z_subL (L' := [some (.ref b0), some (.long y1), none, some (.long y3), none, some (.long y5), none, some (.long y7), none, some (.int y9), none, some (.int y11), some (.long y12), none, some (.long y14), none, none, none, none, none, none, none]) (zLe.sub (And.intro rfl (And.intro rfl (And.intro rfl (And.intro rfl (And.intro rfl (And.intro rfl (And.intro rfl (And.intro rfl (And.intro rfl True.intro)))))))))) (HJ184 _ Y32 hK32 y1 y3 y5 y7 y9 y11 y12 y14 1 r205_ _ _ _ (lk_weak hk206_ (c' := 270) (Nat.le_of_ble_eq_true rfl) (Nat.le_add_left _ _)) h)
      · have h := h.2 c189_
        refine z_lload O dL_kept_73 rfl ?_
        refine z_aload_n O dL_kept_75 rfl rfl ?_
        refine z_iload O dL_kept_76 rfl ?_
        refine z_iconst (v := 2) O dL_kept_78 (by decide) ?_
        have hk225_ := lk_step 1 274 hk2 (Nat.le_of_ble_eq_true rfl)
        refine z_callHl (As := [.ref b0, .int y16, .int 2]) (st := [.long y14]) O (s_LAW_rowOf hfl h0 h) wh_L_rowOf wl_RL_132 dL_kept_79 rfl rfl ⟨Nat.le_of_ble_eq_true rfl, Nat.le_of_ble_eq_true rfl⟩ (Nat.le_of_ble_eq_true rfl) ⟨lk_k hk225_, lk_n hk225_⟩ (fun r224_ z226_ G227_ hq228_ => ?_)
        obtain ⟨rfl, h⟩ := hq228_
        refine z_ladd O dL_kept_82 ?_
        refine z_lstore (L' := [some (.ref b0), some (.long y1), none, some (.long y3), none, some (.long y5), none, some (.long y7), none, some (.int y9), some (.int y10), some (.int y11), some (.long y12), none, some (.long (y14 + r224_)), none, some (.int y16), none, none, none, none, none]) O dL_kept_83 (by decide) rfl ?_
        refine z_iload O dL_kept_85 rfl ?_
        refine z_if_eq (tgt := 107) O dL_kept_87 (by decide) (fun c229_ => ?_) (fun c229_ => ?_)
        · have h := h.1 c229_
          refine z_iconst (v := 0) O dL_kept_107 (by decide) ?_
          refine z_istore (L' := [some (.ref b0), some (.long y1), none, some (.long y3), none, some (.long y5), none, some (.long y7), none, some (.int y9), some (.int 0), some (.int y11), some (.long y12), none, some (.long (y14 + r224_)), none, some (.int y16), none, none, none, none, none]) O dL_kept_108 (by decide) rfl ?_
          refine z_iinc (v := (y16 + 1)) (L' := [some (.ref b0), some (.long y1), none, some (.long y3), none, some (.long y5), none, some (.long y7), none, some (.int y9), some (.int 0), some (.int y11), some (.long y12), none, some (.long (y14 + r224_)), none, some (.int (y16 + 1)), none, none, none, none, none]) O dL_kept_110 rfl (by first | rfl | decide) (by decide) rfl ?_
          refine z_goto (tgt := 61) O dL_kept_113 (by decide) ?_
          exact z_subL (L' := [some (.ref b0), some (.long y1), none, some (.long y3), none, some (.long y5), none, some (.long y7), none, some (.int y9), some (.int 0), some (.int y11), some (.long y12), none, some (.long (y14 + r224_)), none, some (.int (y16 + 1)), none, none, none, none, none]) (zLe.sub (And.intro rfl (And.intro rfl (And.intro rfl (And.intro rfl (And.intro rfl (And.intro rfl (And.intro rfl (And.intro rfl (And.intro rfl (And.intro rfl (And.intro rfl True.intro)))))))))))) (ih y1 y3 y5 y7 y9 0 y11 y12 (y14 + r224_) (y16 + 1) _ _ _ (lk_weak hk225_ (c' := 273) (Nat.le_of_ble_eq_true rfl) (Nat.le_refl _)) h)
        · have h := h.2 c229_
          refine z_aload_n O dL_kept_90 rfl rfl ?_
          refine z_iload O dL_kept_91 rfl ?_
          refine z_iconst (v := 4) O dL_kept_93 (by decide) ?_
          have hk231_ := lk_step 1 273 hk225_ (Nat.le_of_ble_eq_true rfl)
          refine z_callHl (As := [.ref b0, .int y16, .int 4]) (st := []) O (s_LAW_rowOf hfl h0 h) wh_L_rowOf wl_RL_132 dL_kept_94 rfl rfl ⟨Nat.le_of_ble_eq_true rfl, Nat.le_of_ble_eq_true rfl⟩ (Nat.le_of_ble_eq_true rfl) ⟨lk_k hk231_, lk_n hk231_⟩ (fun r230_ z232_ G233_ hq234_ => ?_)
          obtain ⟨rfl, h⟩ := hq234_
          refine z_lload O dL_kept_97 rfl ?_
          refine z_lcmp O dL_kept_99 ?_
          refine z_if_ne (tgt := 107) O dL_kept_100 (by decide) (fun c235_ => ?_) (fun c235_ => ?_)
          · have h := h.1 c235_
            refine z_iconst (v := 0) O dL_kept_107 (by decide) ?_
            refine z_istore (L' := [some (.ref b0), some (.long y1), none, some (.long y3), none, some (.long y5), none, some (.long y7), none, some (.int y9), some (.int 0), some (.int y11), some (.long y12), none, some (.long (y14 + r224_)), none, some (.int y16), none, none, none, none, none]) O dL_kept_108 (by decide) rfl ?_
            refine z_iinc (v := (y16 + 1)) (L' := [some (.ref b0), some (.long y1), none, some (.long y3), none, some (.long y5), none, some (.long y7), none, some (.int y9), some (.int 0), some (.int y11), some (.long y12), none, some (.long (y14 + r224_)), none, some (.int (y16 + 1)), none, none, none, none, none]) O dL_kept_110 rfl (by first | rfl | decide) (by decide) rfl ?_
            refine z_goto (tgt := 61) O dL_kept_113 (by decide) ?_
            exact z_subL (L' := [some (.ref b0), some (.long y1), none, some (.long y3), none, some (.long y5), none, some (.long y7), none, some (.int y9), some (.int 0), some (.int y11), some (.long y12), none, some (.long (y14 + r224_)), none, some (.int (y16 + 1)), none, none, none, none, none]) (zLe.sub (And.intro rfl (And.intro rfl (And.intro rfl (And.intro rfl (And.intro rfl (And.intro rfl (And.intro rfl (And.intro rfl (And.intro rfl (And.intro rfl (And.intro rfl True.intro)))))))))))) (ih y1 y3 y5 y7 y9 0 y11 y12 (y14 + r224_) (y16 + 1) _ _ _ (lk_weak hk231_ (c' := 273) (Nat.le_of_ble_eq_true rfl) (Nat.le_refl _)) h)
          · have h := h.2 c235_
            refine z_iconst (v := 1) O dL_kept_103 (by decide) ?_
            refine z_goto (tgt := 108) O dL_kept_104 (by decide) ?_
            refine z_istore (L' := [some (.ref b0), some (.long y1), none, some (.long y3), none, some (.long y5), none, some (.long y7), none, some (.int y9), some (.int 1), some (.int y11), some (.long y12), none, some (.long (y14 + r224_)), none, some (.int y16), none, none, none, none, none]) O dL_kept_108 (by decide) rfl ?_
            refine z_iinc (v := (y16 + 1)) (L' := [some (.ref b0), some (.long y1), none, some (.long y3), none, some (.long y5), none, some (.long y7), none, some (.int y9), some (.int 1), some (.int y11), some (.long y12), none, some (.long (y14 + r224_)), none, some (.int (y16 + 1)), none, none, none, none, none]) O dL_kept_110 rfl (by first | rfl | decide) (by decide) rfl ?_
            refine z_goto (tgt := 61) O dL_kept_113 (by decide) ?_
            exact z_subL (L' := [some (.ref b0), some (.long y1), none, some (.long y3), none, some (.long y5), none, some (.long y7), none, some (.int y9), some (.int 1), some (.int y11), some (.long y12), none, some (.long (y14 + r224_)), none, some (.int (y16 + 1)), none, none, none, none, none]) (zLe.sub (And.intro rfl (And.intro rfl (And.intro rfl (And.intro rfl (And.intro rfl (And.intro rfl (And.intro rfl (And.intro rfl (And.intro rfl (And.intro rfl (And.intro rfl True.intro)))))))))))) (ih y1 y3 y5 y7 y9 1 y11 y12 (y14 + r224_) (y16 + 1) _ _ _ (lk_weak hk231_ (c' := 273) (Nat.le_of_ble_eq_true rfl) (Nat.le_refl _)) h)
  have HL32 : ∀ (n9 : Nat)     (y1 : Int64) (y3 : Int64) (y5 : Int64) (y7 : Int64) (y9 : Int32) (y10 : Int32) (y11 : Int32) (z9 k9 m9 : Nat) (hk : k9 + (268 + (n9 * 408 + 0)) ≤ 82279 ∧ m9 + 6 * (268 + (n9 * 408 + 0)) ≤ 493674) (h : PL_LAW_kept_32 n9 v0 y1 y3 y5 y7 y9 y10 y11 Q), zT p l e (zrm 8 151 82279 493674) s m args below meth c (zEnd below D B (zRi fun r z' G' => G = G' ∧ Q r) args s 82279 493674) D B 22 k9 m9 32 [] [some (.ref b0), some (.long y1), none, some (.long y3), none, some (.long y5), none, some (.long y7), none, some (.int y9), some (.int y10), some (.int y11), none, none, none, none, none, none, none, none, none, none] z9 G := by
    intro n9 
    induction n9 with
    | zero =>
      intro _ _ _ _ _ _ _ _ _ _ _ h
      exact (h : False).elim
    | succ n ih =>
      intro y1 y3 y5 y7 y9 y10 y11 z9 k9 m9 hk h
      rw [PL_LAW_kept_32] at h
      have hk2 := lk_succ hk
      refine z_iload O dL_kept_32 rfl ?_
      refine z_iload O dL_kept_34 rfl ?_
      refine z_icmp_ge (tgt := 249) O dL_kept_36 (by decide) (fun c16_ => ?_) (fun c16_ => ?_)
      · have h := h.1 c16_
        exact z_subL (L' := [some (.ref b0), some (.long y1), none, some (.long y3), none, some (.long y5), none, some (.long y7), none, some (.int y9), some (.int y10), none, none, none, none, none, none, none, none, none, none, none]) (zLe.sub (And.intro rfl (And.intro rfl (And.intro rfl (And.intro rfl (And.intro rfl (And.intro rfl (And.intro rfl True.intro)))))))) (HJ249 y1 y3 y5 y7 y9 y10 _ _ _ (lk_weak hk2 (c' := 268) (Nat.le_of_ble_eq_true rfl) (Nat.zero_le _)) h)
      · have h := h.2 c16_
        refine z_iload O dL_kept_39 rfl ?_
        refine z_if_eq (tgt := 249) O dL_kept_41 (by decide) (fun c183_ => ?_) (fun c183_ => ?_)
        · have h := h.1 c183_
          exact z_subL (L' := [some (.ref b0), some (.long y1), none, some (.long y3), none, some (.long y5), none, some (.long y7), none, some (.int y9), some (.int y10), none, none, none, none, none, none, none, none, none, none, none]) (zLe.sub (And.intro rfl (And.intro rfl (And.intro rfl (And.intro rfl (And.intro rfl (And.intro rfl (And.intro rfl True.intro)))))))) (HJ249 y1 y3 y5 y7 y9 y10 _ _ _ (lk_weak hk2 (c' := 268) (Nat.le_of_ble_eq_true rfl) (Nat.zero_le _)) h)
        · have h := h.2 c183_
          refine z_aload_n O dL_kept_44 rfl rfl ?_
          refine z_iload O dL_kept_45 rfl ?_
          refine z_iconst (v := 1) O dL_kept_47 (by decide) ?_
          have hk185_ := lk_step 1 675 hk2 (Nat.le_of_ble_eq_true rfl)
          refine z_callHl (As := [.ref b0, .int y11, .int 1]) (st := []) O (s_LAW_segmentOf hfl h0 h) wh_L_segmentOf wl_RL_134 dL_kept_48 rfl rfl ⟨Nat.le_of_ble_eq_true rfl, Nat.le_of_ble_eq_true rfl⟩ (Nat.le_of_ble_eq_true rfl) ⟨lk_k hk185_, lk_n hk185_⟩ (fun r184_ z186_ G187_ hq188_ => ?_)
          obtain ⟨rfl, h⟩ := hq188_
          refine z_lstore (L' := [some (.ref b0), some (.long y1), none, some (.long y3), none, some (.long y5), none, some (.long y7), none, some (.int y9), some (.int y10), some (.int y11), some (.long r184_), none, none, none, none, none, none, none, none, none]) O dL_kept_51 (by decide) rfl ?_
          refine z_lconst (v := 0) O dL_kept_53 (by decide) ?_
          refine z_lstore (L' := [some (.ref b0), some (.long y1), none, some (.long y3), none, some (.long y5), none, some (.long y7), none, some (.int y9), some (.int y10), some (.int y11), some (.long r184_), none, some (.long 0), none, none, none, none, none, none, none]) O dL_kept_54 (by decide) rfl ?_
          refine z_lload O dL_kept_56 rfl ?_
          refine z_l2i O dL_kept_58 ?_
          refine z_istore (L' := [some (.ref b0), some (.long y1), none, some (.long y3), none, some (.long y5), none, some (.long y7), none, some (.int y9), some (.int y10), some (.int y11), some (.long r184_), none, some (.long 0), none, some (.int (Int64.toInt32 y5)), none, none, none, none, none]) O dL_kept_59 (by decide) rfl ?_
          obtain ⟨n236_, hbn236_, h⟩ := h
          exact z_subL (L' := [some (.ref b0), some (.long y1), none, some (.long y3), none, some (.long y5), none, some (.long y7), none, some (.int y9), some (.int y10), some (.int y11), some (.long r184_), none, some (.long 0), none, some (.int (Int64.toInt32 y5)), none, none, none, none, none]) (zLe.sub (And.intro rfl (And.intro rfl (And.intro rfl (And.intro rfl (And.intro rfl (And.intro rfl (And.intro rfl (And.intro rfl (And.intro rfl (And.intro rfl (And.intro rfl True.intro)))))))))))) (HL61 n236_ _ (n * 408 + 0) ih y1 y3 y5 y7 y9 y10 y11 r184_ 0 (Int64.toInt32 y5) _ _ _ (lk_loop hk185_ hbn236_ (I := 2) (base := 273) (Nat.le_of_ble_eq_true rfl) (Nat.le_refl _)) h)
  refine z_aload_n O dL_kept_0 rfl rfl ?_
  refine z_iconst (v := 1) O dL_kept_1 (by decide) ?_
  have hk2_ := lk_step 1 82278 hk0 (Nat.le_of_ble_eq_true rfl)
  refine z_callHl (As := [.ref b0, .int 1]) (st := []) O (s_LAW_about hfl h0 h) wh_L_about wl_RL_110 dL_kept_2 rfl rfl ⟨Nat.le_of_ble_eq_true rfl, Nat.le_of_ble_eq_true rfl⟩ (Nat.le_of_ble_eq_true rfl) ⟨lk_k hk2_, lk_n hk2_⟩ (fun r1_ z3_ G4_ hq5_ => ?_)
  obtain ⟨rfl, h⟩ := hq5_
  refine z_lstore_n (L' := [some (.ref b0), some (.long r1_), none, none, none, none, none, none, none, none, none, none, none, none, none, none, none, none, none, none, none, none]) O dL_kept_5 rfl (by decide) rfl ?_
  refine z_aload_n O dL_kept_6 rfl rfl ?_
  refine z_iconst (v := 0) O dL_kept_7 (by decide) ?_
  have hk7_ := lk_step 1 82277 hk2_ (Nat.le_of_ble_eq_true rfl)
  refine z_callHl (As := [.ref b0, .int 0]) (st := []) O (s_LAW_about hfl h0 h) wh_L_about wl_RL_110 dL_kept_8 rfl rfl ⟨Nat.le_of_ble_eq_true rfl, Nat.le_of_ble_eq_true rfl⟩ (Nat.le_of_ble_eq_true rfl) ⟨lk_k hk7_, lk_n hk7_⟩ (fun r6_ z8_ G9_ hq10_ => ?_)
  obtain ⟨rfl, h⟩ := hq10_
  refine z_lstore_n (L' := [some (.ref b0), some (.long r1_), none, some (.long r6_), none, none, none, none, none, none, none, none, none, none, none, none, none, none, none, none, none, none]) O dL_kept_11 rfl (by decide) rfl ?_
  refine z_lload_n O dL_kept_12 rfl rfl ?_
  refine z_lstore (L' := [some (.ref b0), some (.long r1_), none, some (.long r6_), none, some (.long r1_), none, none, none, none, none, none, none, none, none, none, none, none, none, none, none, none]) O dL_kept_13 (by decide) rfl ?_
  refine z_lconst (v := 0) O dL_kept_15 (by decide) ?_
  refine z_lstore (L' := [some (.ref b0), some (.long r1_), none, some (.long r6_), none, some (.long r1_), none, some (.long 0), none, none, none, none, none, none, none, none, none, none, none, none, none, none]) O dL_kept_16 (by decide) rfl ?_
  refine z_aload_n O dL_kept_18 rfl rfl ?_
  refine z_iconst (v := 2) O dL_kept_19 (by decide) ?_
  have hk12_ := lk_step 1 82276 hk7_ (Nat.le_of_ble_eq_true rfl)
  refine z_callHl (As := [.ref b0, .int 2]) (st := []) O (s_LAW_about hfl h0 h) wh_L_about wl_RL_110 dL_kept_20 rfl rfl ⟨Nat.le_of_ble_eq_true rfl, Nat.le_of_ble_eq_true rfl⟩ (Nat.le_of_ble_eq_true rfl) ⟨lk_k hk12_, lk_n hk12_⟩ (fun r11_ z13_ G14_ hq15_ => ?_)
  obtain ⟨rfl, h⟩ := hq15_
  refine z_l2i O dL_kept_23 ?_
  refine z_istore (L' := [some (.ref b0), some (.long r1_), none, some (.long r6_), none, some (.long r1_), none, some (.long 0), none, some (.int (Int64.toInt32 r11_)), none, none, none, none, none, none, none, none, none, none, none, none]) O dL_kept_24 (by decide) rfl ?_
  refine z_iconst (v := 1) O dL_kept_26 (by decide) ?_
  refine z_istore (L' := [some (.ref b0), some (.long r1_), none, some (.long r6_), none, some (.long r1_), none, some (.long 0), none, some (.int (Int64.toInt32 r11_)), some (.int 1), none, none, none, none, none, none, none, none, none, none, none]) O dL_kept_27 (by decide) rfl ?_
  refine z_iconst (v := 0) O dL_kept_29 (by decide) ?_
  refine z_istore (L' := [some (.ref b0), some (.long r1_), none, some (.long r6_), none, some (.long r1_), none, some (.long 0), none, some (.int (Int64.toInt32 r11_)), some (.int 1), some (.int 0), none, none, none, none, none, none, none, none, none, none]) O dL_kept_30 (by decide) rfl ?_
  obtain ⟨n237_, hbn237_, h⟩ := h
  exact z_subL (L' := [some (.ref b0), some (.long r1_), none, some (.long r6_), none, some (.long r1_), none, some (.long 0), none, some (.int (Int64.toInt32 r11_)), some (.int 1), some (.int 0), none, none, none, none, none, none, none, none, none, none]) (zLe.sub (And.intro rfl (And.intro rfl (And.intro rfl (And.intro rfl (And.intro rfl (And.intro rfl (And.intro rfl (And.intro rfl True.intro))))))))) (HL32 n237_ r1_ r6_ r1_ 0 (Int64.toInt32 r11_) 1 0 _ _ _ (lk_loop hk12_ hbn237_ (I := 408) (base := 268) (Nat.le_of_ble_eq_true rfl) (Nat.le_refl _)) h)
