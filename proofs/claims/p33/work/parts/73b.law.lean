theorem dL_errors_0 : decode cL_errors 0 = .ok (.aload_n 0, 1) := by decide +kernel
theorem dL_errors_1 : decode cL_errors 1 = .ok (.invokestatic 128, 3) := by decide +kernel
theorem dL_errors_4 : decode cL_errors 4 = .ok (.lstore_n 1, 1) := by decide +kernel
theorem dL_errors_5 : decode cL_errors 5 = .ok (.aload_n 0, 1) := by decide +kernel
theorem dL_errors_6 : decode cL_errors 6 = .ok (.iconst 1, 1) := by decide +kernel
theorem dL_errors_7 : decode cL_errors 7 = .ok (.invokestatic 110, 3) := by decide +kernel
theorem dL_errors_10 : decode cL_errors 10 = .ok (.l2i, 1) := by decide +kernel
theorem dL_errors_11 : decode cL_errors 11 = .ok (.istore_n 3, 1) := by decide +kernel
theorem dL_errors_12 : decode cL_errors 12 = .ok (.aload_n 0, 1) := by decide +kernel
theorem dL_errors_13 : decode cL_errors 13 = .ok (.iconst 0, 1) := by decide +kernel
theorem dL_errors_14 : decode cL_errors 14 = .ok (.invokestatic 110, 3) := by decide +kernel
theorem dL_errors_17 : decode cL_errors 17 = .ok (.l2i, 1) := by decide +kernel
theorem dL_errors_18 : decode cL_errors 18 = .ok (.istore 4, 2) := by decide +kernel
theorem dL_errors_20 : decode cL_errors 20 = .ok (.iconst 0, 1) := by decide +kernel
theorem dL_errors_21 : decode cL_errors 21 = .ok (.istore 5, 2) := by decide +kernel
theorem dL_errors_23 : decode cL_errors 23 = .ok (.iload 5, 2) := by decide +kernel
theorem dL_errors_25 : decode cL_errors 25 = .ok (.bipush 7, 2) := by decide +kernel
theorem dL_errors_27 : decode cL_errors 27 = .ok (.if_icmp .ge 23, 3) := by decide +kernel
theorem dL_errors_30 : decode cL_errors 30 = .ok (.aload_n 0, 1) := by decide +kernel
theorem dL_errors_31 : decode cL_errors 31 = .ok (.iload 5, 2) := by decide +kernel
theorem dL_errors_33 : decode cL_errors 33 = .ok (.iconst 0, 1) := by decide +kernel
theorem dL_errors_34 : decode cL_errors 34 = .ok (.invokestatic 121, 3) := by decide +kernel
theorem dL_errors_37 : decode cL_errors 37 = .ok (.ldc2_w 36, 3) := by decide +kernel
theorem dL_errors_40 : decode cL_errors 40 = .ok (.lcmp, 1) := by decide +kernel
theorem dL_errors_41 : decode cL_errors 41 = .ok (.ifCond .eq 9, 3) := by decide +kernel
theorem dL_errors_44 : decode cL_errors 44 = .ok (.iinc 5 1, 3) := by decide +kernel
theorem dL_errors_47 : decode cL_errors 47 = .ok (.goto (-24), 3) := by decide +kernel
theorem dL_errors_50 : decode cL_errors 50 = .ok (.aload_n 0, 1) := by decide +kernel
theorem dL_errors_51 : decode cL_errors 51 = .ok (.iload 5, 2) := by decide +kernel
theorem dL_errors_53 : decode cL_errors 53 = .ok (.iconst 0, 1) := by decide +kernel
theorem dL_errors_54 : decode cL_errors 54 = .ok (.invokestatic 121, 3) := by decide +kernel
theorem dL_errors_57 : decode cL_errors 57 = .ok (.ldc2_w 36, 3) := by decide +kernel
theorem dL_errors_60 : decode cL_errors 60 = .ok (.lcmp, 1) := by decide +kernel
theorem dL_errors_61 : decode cL_errors 61 = .ok (.ifCond .ne 7, 3) := by decide +kernel
theorem dL_errors_64 : decode cL_errors 64 = .ok (.iconst 1, 1) := by decide +kernel
theorem dL_errors_65 : decode cL_errors 65 = .ok (.goto 4, 3) := by decide +kernel
theorem dL_errors_68 : decode cL_errors 68 = .ok (.iconst 0, 1) := by decide +kernel
theorem dL_errors_69 : decode cL_errors 69 = .ok (.istore 6, 2) := by decide +kernel
theorem dL_errors_71 : decode cL_errors 71 = .ok (.aload_n 0, 1) := by decide +kernel
theorem dL_errors_72 : decode cL_errors 72 = .ok (.iconst (-1), 1) := by decide +kernel
theorem dL_errors_73 : decode cL_errors 73 = .ok (.invokestatic 110, 3) := by decide +kernel
theorem dL_errors_76 : decode cL_errors 76 = .ok (.ldc2_w 17, 3) := by decide +kernel
theorem dL_errors_79 : decode cL_errors 79 = .ok (.lcmp, 1) := by decide +kernel
theorem dL_errors_80 : decode cL_errors 80 = .ok (.ifCond .ne 381, 3) := by decide +kernel
theorem dL_errors_83 : decode cL_errors 83 = .ok (.aload_n 0, 1) := by decide +kernel
theorem dL_errors_84 : decode cL_errors 84 = .ok (.bipush 12, 2) := by decide +kernel
theorem dL_errors_86 : decode cL_errors 86 = .ok (.invokestatic 110, 3) := by decide +kernel
theorem dL_errors_89 : decode cL_errors 89 = .ok (.ldc2_w 17, 3) := by decide +kernel
theorem dL_errors_92 : decode cL_errors 92 = .ok (.lcmp, 1) := by decide +kernel
theorem dL_errors_93 : decode cL_errors 93 = .ok (.ifCond .ne 368, 3) := by decide +kernel
theorem dL_errors_96 : decode cL_errors 96 = .ok (.aload_n 0, 1) := by decide +kernel
theorem dL_errors_97 : decode cL_errors 97 = .ok (.iload_n 3, 1) := by decide +kernel
theorem dL_errors_98 : decode cL_errors 98 = .ok (.iconst 1, 1) := by decide +kernel
theorem dL_errors_99 : decode cL_errors 99 = .ok (.isub, 1) := by decide +kernel
theorem dL_errors_100 : decode cL_errors 100 = .ok (.bipush 6, 2) := by decide +kernel
theorem dL_errors_102 : decode cL_errors 102 = .ok (.invokestatic 132, 3) := by decide +kernel
theorem dL_errors_105 : decode cL_errors 105 = .ok (.ldc2_w 36, 3) := by decide +kernel
theorem dL_errors_108 : decode cL_errors 108 = .ok (.lcmp, 1) := by decide +kernel
theorem dL_errors_109 : decode cL_errors 109 = .ok (.ifCond .ne 352, 3) := by decide +kernel
theorem dL_errors_112 : decode cL_errors 112 = .ok (.aload_n 0, 1) := by decide +kernel
theorem dL_errors_113 : decode cL_errors 113 = .ok (.iload 4, 2) := by decide +kernel
theorem dL_errors_115 : decode cL_errors 115 = .ok (.iconst 0, 1) := by decide +kernel
theorem dL_errors_116 : decode cL_errors 116 = .ok (.invokestatic 132, 3) := by decide +kernel
theorem dL_errors_119 : decode cL_errors 119 = .ok (.ldc2_w 36, 3) := by decide +kernel
theorem dL_errors_122 : decode cL_errors 122 = .ok (.lcmp, 1) := by decide +kernel
theorem dL_errors_123 : decode cL_errors 123 = .ok (.ifCond .ne 338, 3) := by decide +kernel
theorem dL_errors_126 : decode cL_errors 126 = .ok (.aload_n 0, 1) := by decide +kernel
theorem dL_errors_127 : decode cL_errors 127 = .ok (.aload_n 0, 1) := by decide +kernel
theorem dL_errors_128 : decode cL_errors 128 = .ok (.iconst 2, 1) := by decide +kernel
theorem dL_errors_129 : decode cL_errors 129 = .ok (.invokestatic 110, 3) := by decide +kernel
theorem dL_errors_132 : decode cL_errors 132 = .ok (.l2i, 1) := by decide +kernel
theorem dL_errors_133 : decode cL_errors 133 = .ok (.bipush 6, 2) := by decide +kernel
theorem dL_errors_135 : decode cL_errors 135 = .ok (.invokestatic 134, 3) := by decide +kernel
theorem dL_errors_138 : decode cL_errors 138 = .ok (.ldc2_w 36, 3) := by decide +kernel
theorem dL_errors_141 : decode cL_errors 141 = .ok (.lcmp, 1) := by decide +kernel
theorem dL_errors_142 : decode cL_errors 142 = .ok (.ifCond .ne 319, 3) := by decide +kernel
theorem dL_errors_145 : decode cL_errors 145 = .ok (.aload_n 0, 1) := by decide +kernel
theorem dL_errors_146 : decode cL_errors 146 = .ok (.iconst (-1), 1) := by decide +kernel
theorem dL_errors_147 : decode cL_errors 147 = .ok (.iconst 0, 1) := by decide +kernel
theorem dL_errors_148 : decode cL_errors 148 = .ok (.invokestatic 134, 3) := by decide +kernel
theorem dL_errors_151 : decode cL_errors 151 = .ok (.ldc2_w 36, 3) := by decide +kernel
theorem dL_errors_154 : decode cL_errors 154 = .ok (.lcmp, 1) := by decide +kernel
theorem dL_errors_155 : decode cL_errors 155 = .ok (.ifCond .ne 306, 3) := by decide +kernel
theorem dL_errors_158 : decode cL_errors 158 = .ok (.iload 4, 2) := by decide +kernel
theorem dL_errors_160 : decode cL_errors 160 = .ok (.iload_n 3, 1) := by decide +kernel
theorem dL_errors_161 : decode cL_errors 161 = .ok (.if_icmp .eq 31, 3) := by decide +kernel
theorem dL_errors_164 : decode cL_errors 164 = .ok (.aload_n 0, 1) := by decide +kernel
theorem dL_errors_165 : decode cL_errors 165 = .ok (.iload_n 3, 1) := by decide +kernel
theorem dL_errors_166 : decode cL_errors 166 = .ok (.bipush 6, 2) := by decide +kernel
theorem dL_errors_168 : decode cL_errors 168 = .ok (.invokestatic 132, 3) := by decide +kernel
theorem dL_errors_171 : decode cL_errors 171 = .ok (.ldc2_w 17, 3) := by decide +kernel
theorem dL_errors_174 : decode cL_errors 174 = .ok (.lcmp, 1) := by decide +kernel
theorem dL_errors_175 : decode cL_errors 175 = .ok (.ifCond .ne 286, 3) := by decide +kernel
theorem dL_errors_178 : decode cL_errors 178 = .ok (.aload_n 0, 1) := by decide +kernel
theorem dL_errors_179 : decode cL_errors 179 = .ok (.iconst 0, 1) := by decide +kernel
theorem dL_errors_180 : decode cL_errors 180 = .ok (.bipush 6, 2) := by decide +kernel
theorem dL_errors_182 : decode cL_errors 182 = .ok (.invokestatic 134, 3) := by decide +kernel
theorem dL_errors_185 : decode cL_errors 185 = .ok (.ldc2_w 17, 3) := by decide +kernel
theorem dL_errors_188 : decode cL_errors 188 = .ok (.lcmp, 1) := by decide +kernel
theorem dL_errors_189 : decode cL_errors 189 = .ok (.ifCond .ne 272, 3) := by decide +kernel
theorem dL_errors_192 : decode cL_errors 192 = .ok (.aload_n 0, 1) := by decide +kernel
theorem dL_errors_193 : decode cL_errors 193 = .ok (.bipush 8, 2) := by decide +kernel
theorem dL_errors_195 : decode cL_errors 195 = .ok (.bipush 9, 2) := by decide +kernel
theorem dL_errors_197 : decode cL_errors 197 = .ok (.invokestatic 121, 3) := by decide +kernel
theorem dL_errors_200 : decode cL_errors 200 = .ok (.ldc2_w 36, 3) := by decide +kernel
theorem dL_errors_203 : decode cL_errors 203 = .ok (.lcmp, 1) := by decide +kernel
theorem dL_errors_204 : decode cL_errors 204 = .ok (.ifCond .ne 257, 3) := by decide +kernel
theorem dL_errors_207 : decode cL_errors 207 = .ok (.aload_n 0, 1) := by decide +kernel
theorem dL_errors_208 : decode cL_errors 208 = .ok (.iconst (-1), 1) := by decide +kernel
theorem dL_errors_209 : decode cL_errors 209 = .ok (.bipush 8, 2) := by decide +kernel
theorem dL_errors_211 : decode cL_errors 211 = .ok (.invokestatic 126, 3) := by decide +kernel
theorem dL_errors_214 : decode cL_errors 214 = .ok (.ldc2_w 36, 3) := by decide +kernel
theorem dL_errors_217 : decode cL_errors 217 = .ok (.lcmp, 1) := by decide +kernel
theorem dL_errors_218 : decode cL_errors 218 = .ok (.ifCond .ne 243, 3) := by decide +kernel
theorem dL_errors_221 : decode cL_errors 221 = .ok (.aload_n 0, 1) := by decide +kernel
theorem dL_errors_222 : decode cL_errors 222 = .ok (.bipush 8, 2) := by decide +kernel
theorem dL_errors_224 : decode cL_errors 224 = .ok (.invokestatic 115, 3) := by decide +kernel
theorem dL_errors_227 : decode cL_errors 227 = .ok (.ldc2_w 17, 3) := by decide +kernel
theorem dL_errors_230 : decode cL_errors 230 = .ok (.lcmp, 1) := by decide +kernel
theorem dL_errors_231 : decode cL_errors 231 = .ok (.ifCond .ne 230, 3) := by decide +kernel
theorem dL_errors_234 : decode cL_errors 234 = .ok (.aload_n 0, 1) := by decide +kernel
theorem dL_errors_235 : decode cL_errors 235 = .ok (.bipush 6, 2) := by decide +kernel
theorem dL_errors_237 : decode cL_errors 237 = .ok (.invokestatic 119, 3) := by decide +kernel
theorem dL_errors_240 : decode cL_errors 240 = .ok (.ldc2_w 17, 3) := by decide +kernel
theorem dL_errors_243 : decode cL_errors 243 = .ok (.lcmp, 1) := by decide +kernel
theorem dL_errors_244 : decode cL_errors 244 = .ok (.ifCond .ne 217, 3) := by decide +kernel
theorem dL_errors_247 : decode cL_errors 247 = .ok (.aload_n 0, 1) := by decide +kernel
theorem dL_errors_248 : decode cL_errors 248 = .ok (.bipush 8, 2) := by decide +kernel
theorem dL_errors_250 : decode cL_errors 250 = .ok (.iconst 0, 1) := by decide +kernel
theorem dL_errors_251 : decode cL_errors 251 = .ok (.iconst 1, 1) := by decide +kernel
theorem dL_errors_252 : decode cL_errors 252 = .ok (.invokestatic 136, 3) := by decide +kernel
theorem dL_errors_255 : decode cL_errors 255 = .ok (.ldc2_w 17, 3) := by decide +kernel
theorem dL_errors_258 : decode cL_errors 258 = .ok (.lcmp, 1) := by decide +kernel
theorem dL_errors_259 : decode cL_errors 259 = .ok (.ifCond .ne 202, 3) := by decide +kernel
theorem dL_errors_262 : decode cL_errors 262 = .ok (.aload_n 0, 1) := by decide +kernel
theorem dL_errors_263 : decode cL_errors 263 = .ok (.iconst 0, 1) := by decide +kernel
theorem dL_errors_264 : decode cL_errors 264 = .ok (.bipush 100, 2) := by decide +kernel
theorem dL_errors_266 : decode cL_errors 266 = .ok (.iconst 1, 1) := by decide +kernel
theorem dL_errors_267 : decode cL_errors 267 = .ok (.invokestatic 136, 3) := by decide +kernel
theorem dL_errors_270 : decode cL_errors 270 = .ok (.ldc2_w 17, 3) := by decide +kernel
theorem dL_errors_273 : decode cL_errors 273 = .ok (.lcmp, 1) := by decide +kernel
theorem dL_errors_274 : decode cL_errors 274 = .ok (.ifCond .ne 187, 3) := by decide +kernel
theorem dL_errors_277 : decode cL_errors 277 = .ok (.aload_n 0, 1) := by decide +kernel
theorem dL_errors_278 : decode cL_errors 278 = .ok (.iconst 0, 1) := by decide +kernel
theorem dL_errors_279 : decode cL_errors 279 = .ok (.iconst 0, 1) := by decide +kernel
theorem dL_errors_280 : decode cL_errors 280 = .ok (.iconst 0, 1) := by decide +kernel
theorem dL_errors_281 : decode cL_errors 281 = .ok (.invokestatic 136, 3) := by decide +kernel
theorem dL_errors_284 : decode cL_errors 284 = .ok (.ldc2_w 17, 3) := by decide +kernel
theorem dL_errors_287 : decode cL_errors 287 = .ok (.lcmp, 1) := by decide +kernel
theorem dL_errors_288 : decode cL_errors 288 = .ok (.ifCond .ne 173, 3) := by decide +kernel
theorem dL_errors_291 : decode cL_errors 291 = .ok (.aload_n 0, 1) := by decide +kernel
theorem dL_errors_292 : decode cL_errors 292 = .ok (.bipush 8, 2) := by decide +kernel
theorem dL_errors_294 : decode cL_errors 294 = .ok (.iconst 0, 1) := by decide +kernel
theorem dL_errors_295 : decode cL_errors 295 = .ok (.iconst 1, 1) := by decide +kernel
theorem dL_errors_296 : decode cL_errors 296 = .ok (.invokestatic 139, 3) := by decide +kernel
theorem dL_errors_299 : decode cL_errors 299 = .ok (.ldc2_w 17, 3) := by decide +kernel
theorem dL_errors_302 : decode cL_errors 302 = .ok (.lcmp, 1) := by decide +kernel
theorem dL_errors_303 : decode cL_errors 303 = .ok (.ifCond .ne 158, 3) := by decide +kernel
theorem dL_errors_306 : decode cL_errors 306 = .ok (.aload_n 0, 1) := by decide +kernel
theorem dL_errors_307 : decode cL_errors 307 = .ok (.iconst 0, 1) := by decide +kernel
theorem dL_errors_308 : decode cL_errors 308 = .ok (.iconst 3, 1) := by decide +kernel
theorem dL_errors_309 : decode cL_errors 309 = .ok (.iconst 1, 1) := by decide +kernel
theorem dL_errors_310 : decode cL_errors 310 = .ok (.invokestatic 139, 3) := by decide +kernel
theorem dL_errors_313 : decode cL_errors 313 = .ok (.ldc2_w 17, 3) := by decide +kernel
theorem dL_errors_316 : decode cL_errors 316 = .ok (.lcmp, 1) := by decide +kernel
theorem dL_errors_317 : decode cL_errors 317 = .ok (.ifCond .ne 144, 3) := by decide +kernel
theorem dL_errors_320 : decode cL_errors 320 = .ok (.aload_n 0, 1) := by decide +kernel
theorem dL_errors_321 : decode cL_errors 321 = .ok (.bipush 8, 2) := by decide +kernel
theorem dL_errors_323 : decode cL_errors 323 = .ok (.iconst 0, 1) := by decide +kernel
theorem dL_errors_324 : decode cL_errors 324 = .ok (.invokestatic 142, 3) := by decide +kernel
theorem dL_errors_327 : decode cL_errors 327 = .ok (.ldc2_w 36, 3) := by decide +kernel
theorem dL_errors_330 : decode cL_errors 330 = .ok (.lcmp, 1) := by decide +kernel
theorem dL_errors_331 : decode cL_errors 331 = .ok (.ifCond .ne 130, 3) := by decide +kernel
theorem dL_errors_334 : decode cL_errors 334 = .ok (.aload_n 0, 1) := by decide +kernel
theorem dL_errors_335 : decode cL_errors 335 = .ok (.iconst (-1), 1) := by decide +kernel
theorem dL_errors_336 : decode cL_errors 336 = .ok (.invokestatic 144, 3) := by decide +kernel
theorem dL_errors_339 : decode cL_errors 339 = .ok (.ldc2_w 36, 3) := by decide +kernel
theorem dL_errors_342 : decode cL_errors 342 = .ok (.lcmp, 1) := by decide +kernel
theorem dL_errors_343 : decode cL_errors 343 = .ok (.ifCond .ne 118, 3) := by decide +kernel
theorem dL_errors_346 : decode cL_errors 346 = .ok (.aload_n 0, 1) := by decide +kernel
theorem dL_errors_347 : decode cL_errors 347 = .ok (.bipush 8, 2) := by decide +kernel
theorem dL_errors_349 : decode cL_errors 349 = .ok (.iconst 1, 1) := by decide +kernel
theorem dL_errors_350 : decode cL_errors 350 = .ok (.invokestatic 146, 3) := by decide +kernel
theorem dL_errors_353 : decode cL_errors 353 = .ok (.ldc2_w 36, 3) := by decide +kernel
theorem dL_errors_356 : decode cL_errors 356 = .ok (.lcmp, 1) := by decide +kernel
theorem dL_errors_357 : decode cL_errors 357 = .ok (.ifCond .ne 104, 3) := by decide +kernel
theorem dL_errors_360 : decode cL_errors 360 = .ok (.aload_n 0, 1) := by decide +kernel
theorem dL_errors_361 : decode cL_errors 361 = .ok (.iconst 0, 1) := by decide +kernel
theorem dL_errors_362 : decode cL_errors 362 = .ok (.iconst 0, 1) := by decide +kernel
theorem dL_errors_363 : decode cL_errors 363 = .ok (.invokestatic 149, 3) := by decide +kernel
theorem dL_errors_366 : decode cL_errors 366 = .ok (.ldc2_w 17, 3) := by decide +kernel
theorem dL_errors_369 : decode cL_errors 369 = .ok (.lcmp, 1) := by decide +kernel
theorem dL_errors_370 : decode cL_errors 370 = .ok (.ifCond .ne 91, 3) := by decide +kernel
theorem dL_errors_373 : decode cL_errors 373 = .ok (.aload_n 0, 1) := by decide +kernel
theorem dL_errors_374 : decode cL_errors 374 = .ok (.iconst 1, 1) := by decide +kernel
theorem dL_errors_375 : decode cL_errors 375 = .ok (.bipush 39, 2) := by decide +kernel
theorem dL_errors_377 : decode cL_errors 377 = .ok (.invokestatic 149, 3) := by decide +kernel
theorem dL_errors_380 : decode cL_errors 380 = .ok (.ldc2_w 17, 3) := by decide +kernel
theorem dL_errors_383 : decode cL_errors 383 = .ok (.lcmp, 1) := by decide +kernel
theorem dL_errors_384 : decode cL_errors 384 = .ok (.ifCond .ne 77, 3) := by decide +kernel
theorem dL_errors_387 : decode cL_errors 387 = .ok (.aload_n 0, 1) := by decide +kernel
theorem dL_errors_388 : decode cL_errors 388 = .ok (.iconst 2, 1) := by decide +kernel
theorem dL_errors_389 : decode cL_errors 389 = .ok (.bipush 100, 2) := by decide +kernel
theorem dL_errors_391 : decode cL_errors 391 = .ok (.invokestatic 149, 3) := by decide +kernel
theorem dL_errors_394 : decode cL_errors 394 = .ok (.ldc2_w 17, 3) := by decide +kernel
theorem dL_errors_397 : decode cL_errors 397 = .ok (.lcmp, 1) := by decide +kernel
theorem dL_errors_398 : decode cL_errors 398 = .ok (.ifCond .ne 63, 3) := by decide +kernel
theorem dL_errors_401 : decode cL_errors 401 = .ok (.aload_n 0, 1) := by decide +kernel
theorem dL_errors_402 : decode cL_errors 402 = .ok (.iconst 3, 1) := by decide +kernel
theorem dL_errors_403 : decode cL_errors 403 = .ok (.sipush 4001, 3) := by decide +kernel
theorem dL_errors_406 : decode cL_errors 406 = .ok (.invokestatic 149, 3) := by decide +kernel
theorem dL_errors_409 : decode cL_errors 409 = .ok (.ldc2_w 17, 3) := by decide +kernel
theorem dL_errors_412 : decode cL_errors 412 = .ok (.lcmp, 1) := by decide +kernel
theorem dL_errors_413 : decode cL_errors 413 = .ok (.ifCond .ne 48, 3) := by decide +kernel
theorem dL_errors_416 : decode cL_errors 416 = .ok (.aload_n 0, 1) := by decide +kernel
theorem dL_errors_417 : decode cL_errors 417 = .ok (.iconst 4, 1) := by decide +kernel
theorem dL_errors_418 : decode cL_errors 418 = .ok (.iconst (-1), 1) := by decide +kernel
theorem dL_errors_419 : decode cL_errors 419 = .ok (.invokestatic 149, 3) := by decide +kernel
theorem dL_errors_422 : decode cL_errors 422 = .ok (.ldc2_w 17, 3) := by decide +kernel
theorem dL_errors_425 : decode cL_errors 425 = .ok (.lcmp, 1) := by decide +kernel
theorem dL_errors_426 : decode cL_errors 426 = .ok (.ifCond .ne 35, 3) := by decide +kernel
theorem dL_errors_429 : decode cL_errors 429 = .ok (.aload_n 0, 1) := by decide +kernel
theorem dL_errors_430 : decode cL_errors 430 = .ok (.iconst 5, 1) := by decide +kernel
theorem dL_errors_431 : decode cL_errors 431 = .ok (.bipush 100, 2) := by decide +kernel
theorem dL_errors_433 : decode cL_errors 433 = .ok (.invokestatic 149, 3) := by decide +kernel
theorem dL_errors_436 : decode cL_errors 436 = .ok (.ldc2_w 17, 3) := by decide +kernel
theorem dL_errors_439 : decode cL_errors 439 = .ok (.lcmp, 1) := by decide +kernel
theorem dL_errors_440 : decode cL_errors 440 = .ok (.ifCond .ne 21, 3) := by decide +kernel
theorem dL_errors_443 : decode cL_errors 443 = .ok (.aload_n 0, 1) := by decide +kernel
theorem dL_errors_444 : decode cL_errors 444 = .ok (.bipush 6, 2) := by decide +kernel
theorem dL_errors_446 : decode cL_errors 446 = .ok (.iconst 0, 1) := by decide +kernel
theorem dL_errors_447 : decode cL_errors 447 = .ok (.invokestatic 149, 3) := by decide +kernel
theorem dL_errors_450 : decode cL_errors 450 = .ok (.ldc2_w 17, 3) := by decide +kernel
theorem dL_errors_453 : decode cL_errors 453 = .ok (.lcmp, 1) := by decide +kernel
theorem dL_errors_454 : decode cL_errors 454 = .ok (.ifCond .ne 7, 3) := by decide +kernel
theorem dL_errors_457 : decode cL_errors 457 = .ok (.iconst 1, 1) := by decide +kernel
theorem dL_errors_458 : decode cL_errors 458 = .ok (.goto 4, 3) := by decide +kernel
theorem dL_errors_461 : decode cL_errors 461 = .ok (.iconst 0, 1) := by decide +kernel
theorem dL_errors_462 : decode cL_errors 462 = .ok (.istore 7, 2) := by decide +kernel
theorem dL_errors_464 : decode cL_errors 464 = .ok (.iload 7, 2) := by decide +kernel
theorem dL_errors_466 : decode cL_errors 466 = .ok (.ifCond .eq 335, 3) := by decide +kernel
theorem dL_errors_469 : decode cL_errors 469 = .ok (.iload 6, 2) := by decide +kernel
theorem dL_errors_471 : decode cL_errors 471 = .ok (.ifCond .eq 74, 3) := by decide +kernel
theorem dL_errors_474 : decode cL_errors 474 = .ok (.aload_n 0, 1) := by decide +kernel
theorem dL_errors_475 : decode cL_errors 475 = .ok (.iload 5, 2) := by decide +kernel
theorem dL_errors_477 : decode cL_errors 477 = .ok (.bipush 9, 2) := by decide +kernel
theorem dL_errors_479 : decode cL_errors 479 = .ok (.invokestatic 121, 3) := by decide +kernel
theorem dL_errors_482 : decode cL_errors 482 = .ok (.ldc2_w 36, 3) := by decide +kernel
theorem dL_errors_485 : decode cL_errors 485 = .ok (.lcmp, 1) := by decide +kernel
theorem dL_errors_486 : decode cL_errors 486 = .ok (.ifCond .ne 315, 3) := by decide +kernel
theorem dL_errors_489 : decode cL_errors 489 = .ok (.aload_n 0, 1) := by decide +kernel
theorem dL_errors_490 : decode cL_errors 490 = .ok (.iload 5, 2) := by decide +kernel
theorem dL_errors_492 : decode cL_errors 492 = .ok (.iconst 1, 1) := by decide +kernel
theorem dL_errors_493 : decode cL_errors 493 = .ok (.invokestatic 142, 3) := by decide +kernel
theorem dL_errors_496 : decode cL_errors 496 = .ok (.ldc2_w 36, 3) := by decide +kernel
theorem dL_errors_499 : decode cL_errors 499 = .ok (.lcmp, 1) := by decide +kernel
theorem dL_errors_500 : decode cL_errors 500 = .ok (.ifCond .ne 301, 3) := by decide +kernel
theorem dL_errors_503 : decode cL_errors 503 = .ok (.aload_n 0, 1) := by decide +kernel
theorem dL_errors_504 : decode cL_errors 504 = .ok (.iload 5, 2) := by decide +kernel
theorem dL_errors_506 : decode cL_errors 506 = .ok (.invokestatic 144, 3) := by decide +kernel
theorem dL_errors_509 : decode cL_errors 509 = .ok (.ldc2_w 36, 3) := by decide +kernel
theorem dL_errors_512 : decode cL_errors 512 = .ok (.lcmp, 1) := by decide +kernel
theorem dL_errors_513 : decode cL_errors 513 = .ok (.ifCond .ne 288, 3) := by decide +kernel
theorem dL_errors_516 : decode cL_errors 516 = .ok (.aload_n 0, 1) := by decide +kernel
theorem dL_errors_517 : decode cL_errors 517 = .ok (.iload 5, 2) := by decide +kernel
theorem dL_errors_519 : decode cL_errors 519 = .ok (.invokestatic 151, 3) := by decide +kernel
theorem dL_errors_522 : decode cL_errors 522 = .ok (.ldc2_w 36, 3) := by decide +kernel
theorem dL_errors_525 : decode cL_errors 525 = .ok (.lcmp, 1) := by decide +kernel
theorem dL_errors_526 : decode cL_errors 526 = .ok (.ifCond .ne 275, 3) := by decide +kernel
theorem dL_errors_529 : decode cL_errors 529 = .ok (.aload_n 0, 1) := by decide +kernel
theorem dL_errors_530 : decode cL_errors 530 = .ok (.iload 5, 2) := by decide +kernel
theorem dL_errors_532 : decode cL_errors 532 = .ok (.invokestatic 153, 3) := by decide +kernel
theorem dL_errors_535 : decode cL_errors 535 = .ok (.ldc2_w 36, 3) := by decide +kernel
theorem dL_errors_538 : decode cL_errors 538 = .ok (.lcmp, 1) := by decide +kernel
theorem dL_errors_539 : decode cL_errors 539 = .ok (.ifCond .ne 262, 3) := by decide +kernel
theorem dL_errors_542 : decode cL_errors 542 = .ok (.goto 63, 3) := by decide +kernel
theorem dL_errors_545 : decode cL_errors 545 = .ok (.aload_n 0, 1) := by decide +kernel
theorem dL_errors_546 : decode cL_errors 546 = .ok (.iload 5, 2) := by decide +kernel
theorem dL_errors_548 : decode cL_errors 548 = .ok (.bipush 9, 2) := by decide +kernel
theorem dL_errors_550 : decode cL_errors 550 = .ok (.invokestatic 121, 3) := by decide +kernel
theorem dL_errors_553 : decode cL_errors 553 = .ok (.ldc2_w 17, 3) := by decide +kernel
theorem dL_errors_556 : decode cL_errors 556 = .ok (.lcmp, 1) := by decide +kernel
theorem dL_errors_557 : decode cL_errors 557 = .ok (.ifCond .ne 244, 3) := by decide +kernel
theorem dL_errors_560 : decode cL_errors 560 = .ok (.aload_n 0, 1) := by decide +kernel
theorem dL_errors_561 : decode cL_errors 561 = .ok (.iload 5, 2) := by decide +kernel
theorem dL_errors_563 : decode cL_errors 563 = .ok (.bipush 8, 2) := by decide +kernel
theorem dL_errors_565 : decode cL_errors 565 = .ok (.invokestatic 126, 3) := by decide +kernel
theorem dL_errors_568 : decode cL_errors 568 = .ok (.ldc2_w 17, 3) := by decide +kernel
theorem dL_errors_571 : decode cL_errors 571 = .ok (.lcmp, 1) := by decide +kernel
theorem dL_errors_572 : decode cL_errors 572 = .ok (.ifCond .ne 229, 3) := by decide +kernel
theorem dL_errors_575 : decode cL_errors 575 = .ok (.aload_n 0, 1) := by decide +kernel
theorem dL_errors_576 : decode cL_errors 576 = .ok (.iload 5, 2) := by decide +kernel
theorem dL_errors_578 : decode cL_errors 578 = .ok (.bipush 51, 2) := by decide +kernel
theorem dL_errors_580 : decode cL_errors 580 = .ok (.invokestatic 142, 3) := by decide +kernel
theorem dL_errors_583 : decode cL_errors 583 = .ok (.ldc2_w 17, 3) := by decide +kernel
theorem dL_errors_586 : decode cL_errors 586 = .ok (.lcmp, 1) := by decide +kernel
theorem dL_errors_587 : decode cL_errors 587 = .ok (.ifCond .ne 214, 3) := by decide +kernel
theorem dL_errors_590 : decode cL_errors 590 = .ok (.aload_n 0, 1) := by decide +kernel
theorem dL_errors_591 : decode cL_errors 591 = .ok (.iload 5, 2) := by decide +kernel
theorem dL_errors_593 : decode cL_errors 593 = .ok (.iconst 0, 1) := by decide +kernel
theorem dL_errors_594 : decode cL_errors 594 = .ok (.iconst 0, 1) := by decide +kernel
theorem dL_errors_595 : decode cL_errors 595 = .ok (.invokestatic 139, 3) := by decide +kernel
theorem dL_errors_598 : decode cL_errors 598 = .ok (.ldc2_w 21, 3) := by decide +kernel
theorem dL_errors_601 : decode cL_errors 601 = .ok (.lcmp, 1) := by decide +kernel
theorem dL_errors_602 : decode cL_errors 602 = .ok (.ifCond .ne 199, 3) := by decide +kernel
theorem dL_errors_605 : decode cL_errors 605 = .ok (.aload_n 0, 1) := by decide +kernel
theorem dL_errors_606 : decode cL_errors 606 = .ok (.iconst 0, 1) := by decide +kernel
theorem dL_errors_607 : decode cL_errors 607 = .ok (.invokestatic 155, 3) := by decide +kernel
theorem dL_errors_610 : decode cL_errors 610 = .ok (.ldc2_w 17, 3) := by decide +kernel
theorem dL_errors_613 : decode cL_errors 613 = .ok (.lcmp, 1) := by decide +kernel
theorem dL_errors_614 : decode cL_errors 614 = .ok (.ifCond .ne 187, 3) := by decide +kernel
theorem dL_errors_617 : decode cL_errors 617 = .ok (.aload_n 0, 1) := by decide +kernel
theorem dL_errors_618 : decode cL_errors 618 = .ok (.bipush 100, 2) := by decide +kernel
theorem dL_errors_620 : decode cL_errors 620 = .ok (.invokestatic 155, 3) := by decide +kernel
theorem dL_errors_623 : decode cL_errors 623 = .ok (.ldc2_w 17, 3) := by decide +kernel
theorem dL_errors_626 : decode cL_errors 626 = .ok (.lcmp, 1) := by decide +kernel
theorem dL_errors_627 : decode cL_errors 627 = .ok (.ifCond .ne 174, 3) := by decide +kernel
theorem dL_errors_630 : decode cL_errors 630 = .ok (.aload_n 0, 1) := by decide +kernel
theorem dL_errors_631 : decode cL_errors 631 = .ok (.iconst 0, 1) := by decide +kernel
theorem dL_errors_632 : decode cL_errors 632 = .ok (.iload 4, 2) := by decide +kernel
theorem dL_errors_634 : decode cL_errors 634 = .ok (.iconst 1, 1) := by decide +kernel
theorem dL_errors_635 : decode cL_errors 635 = .ok (.iadd, 1) := by decide +kernel
theorem dL_errors_636 : decode cL_errors 636 = .ok (.iconst 0, 1) := by decide +kernel
theorem dL_errors_637 : decode cL_errors 637 = .ok (.invokestatic 157, 3) := by decide +kernel
theorem dL_errors_640 : decode cL_errors 640 = .ok (.ldc2_w 36, 3) := by decide +kernel
theorem dL_errors_643 : decode cL_errors 643 = .ok (.lcmp, 1) := by decide +kernel
theorem dL_errors_644 : decode cL_errors 644 = .ok (.ifCond .ne 157, 3) := by decide +kernel
theorem dL_errors_647 : decode cL_errors 647 = .ok (.aload_n 0, 1) := by decide +kernel
theorem dL_errors_648 : decode cL_errors 648 = .ok (.iconst 0, 1) := by decide +kernel
theorem dL_errors_649 : decode cL_errors 649 = .ok (.iload_n 3, 1) := by decide +kernel
theorem dL_errors_650 : decode cL_errors 650 = .ok (.iconst 1, 1) := by decide +kernel
theorem dL_errors_651 : decode cL_errors 651 = .ok (.isub, 1) := by decide +kernel
theorem dL_errors_652 : decode cL_errors 652 = .ok (.iconst 0, 1) := by decide +kernel
theorem dL_errors_653 : decode cL_errors 653 = .ok (.invokestatic 157, 3) := by decide +kernel
theorem dL_errors_656 : decode cL_errors 656 = .ok (.ldc2_w 36, 3) := by decide +kernel
theorem dL_errors_659 : decode cL_errors 659 = .ok (.lcmp, 1) := by decide +kernel
theorem dL_errors_660 : decode cL_errors 660 = .ok (.ifCond .ne 141, 3) := by decide +kernel
theorem dL_errors_663 : decode cL_errors 663 = .ok (.aload_n 0, 1) := by decide +kernel
theorem dL_errors_664 : decode cL_errors 664 = .ok (.bipush 8, 2) := by decide +kernel
theorem dL_errors_666 : decode cL_errors 666 = .ok (.iload_n 3, 1) := by decide +kernel
theorem dL_errors_667 : decode cL_errors 667 = .ok (.iconst 0, 1) := by decide +kernel
theorem dL_errors_668 : decode cL_errors 668 = .ok (.invokestatic 157, 3) := by decide +kernel
theorem dL_errors_671 : decode cL_errors 671 = .ok (.ldc2_w 17, 3) := by decide +kernel
theorem dL_errors_674 : decode cL_errors 674 = .ok (.lcmp, 1) := by decide +kernel
theorem dL_errors_675 : decode cL_errors 675 = .ok (.ifCond .ne 126, 3) := by decide +kernel
theorem dL_errors_678 : decode cL_errors 678 = .ok (.aload_n 0, 1) := by decide +kernel
theorem dL_errors_679 : decode cL_errors 679 = .ok (.iconst 0, 1) := by decide +kernel
theorem dL_errors_680 : decode cL_errors 680 = .ok (.iload_n 3, 1) := by decide +kernel
theorem dL_errors_681 : decode cL_errors 681 = .ok (.iconst 2, 1) := by decide +kernel
theorem dL_errors_682 : decode cL_errors 682 = .ok (.invokestatic 157, 3) := by decide +kernel
theorem dL_errors_685 : decode cL_errors 685 = .ok (.ldc2_w 17, 3) := by decide +kernel
theorem dL_errors_688 : decode cL_errors 688 = .ok (.lcmp, 1) := by decide +kernel
theorem dL_errors_689 : decode cL_errors 689 = .ok (.ifCond .ne 112, 3) := by decide +kernel
theorem dL_errors_692 : decode cL_errors 692 = .ok (.aload_n 0, 1) := by decide +kernel
theorem dL_errors_693 : decode cL_errors 693 = .ok (.iconst 0, 1) := by decide +kernel
theorem dL_errors_694 : decode cL_errors 694 = .ok (.invokestatic 159, 3) := by decide +kernel
theorem dL_errors_697 : decode cL_errors 697 = .ok (.ldc2_w 17, 3) := by decide +kernel
theorem dL_errors_700 : decode cL_errors 700 = .ok (.lcmp, 1) := by decide +kernel
theorem dL_errors_701 : decode cL_errors 701 = .ok (.ifCond .ne 100, 3) := by decide +kernel
theorem dL_errors_704 : decode cL_errors 704 = .ok (.aload_n 0, 1) := by decide +kernel
theorem dL_errors_705 : decode cL_errors 705 = .ok (.sipush 201, 3) := by decide +kernel
theorem dL_errors_708 : decode cL_errors 708 = .ok (.invokestatic 159, 3) := by decide +kernel
theorem dL_errors_711 : decode cL_errors 711 = .ok (.ldc2_w 17, 3) := by decide +kernel
theorem dL_errors_714 : decode cL_errors 714 = .ok (.lcmp, 1) := by decide +kernel
theorem dL_errors_715 : decode cL_errors 715 = .ok (.ifCond .ne 86, 3) := by decide +kernel
theorem dL_errors_718 : decode cL_errors 718 = .ok (.aload_n 0, 1) := by decide +kernel
theorem dL_errors_719 : decode cL_errors 719 = .ok (.iconst 0, 1) := by decide +kernel
theorem dL_errors_720 : decode cL_errors 720 = .ok (.lconst 0, 1) := by decide +kernel
theorem dL_errors_721 : decode cL_errors 721 = .ok (.invokestatic 161, 3) := by decide +kernel
theorem dL_errors_724 : decode cL_errors 724 = .ok (.ldc2_w 17, 3) := by decide +kernel
theorem dL_errors_727 : decode cL_errors 727 = .ok (.lcmp, 1) := by decide +kernel
theorem dL_errors_728 : decode cL_errors 728 = .ok (.ifCond .ne 73, 3) := by decide +kernel
theorem dL_errors_731 : decode cL_errors 731 = .ok (.aload_n 0, 1) := by decide +kernel
theorem dL_errors_732 : decode cL_errors 732 = .ok (.iconst 3, 1) := by decide +kernel
theorem dL_errors_733 : decode cL_errors 733 = .ok (.ldc2_w 165, 3) := by decide +kernel
theorem dL_errors_736 : decode cL_errors 736 = .ok (.invokestatic 161, 3) := by decide +kernel
theorem dL_errors_739 : decode cL_errors 739 = .ok (.ldc2_w 17, 3) := by decide +kernel
theorem dL_errors_742 : decode cL_errors 742 = .ok (.lcmp, 1) := by decide +kernel
theorem dL_errors_743 : decode cL_errors 743 = .ok (.ifCond .ne 58, 3) := by decide +kernel
theorem dL_errors_746 : decode cL_errors 746 = .ok (.aload_n 0, 1) := by decide +kernel
theorem dL_errors_747 : decode cL_errors 747 = .ok (.lconst 1, 1) := by decide +kernel
theorem dL_errors_748 : decode cL_errors 748 = .ok (.iconst 0, 1) := by decide +kernel
theorem dL_errors_749 : decode cL_errors 749 = .ok (.invokestatic 167, 3) := by decide +kernel
theorem dL_errors_752 : decode cL_errors 752 = .ok (.ldc2_w 17, 3) := by decide +kernel
theorem dL_errors_755 : decode cL_errors 755 = .ok (.lcmp, 1) := by decide +kernel
theorem dL_errors_756 : decode cL_errors 756 = .ok (.ifCond .ne 45, 3) := by decide +kernel
theorem dL_errors_759 : decode cL_errors 759 = .ok (.aload_n 0, 1) := by decide +kernel
theorem dL_errors_760 : decode cL_errors 760 = .ok (.iconst 2, 1) := by decide +kernel
theorem dL_errors_761 : decode cL_errors 761 = .ok (.invokestatic 170, 3) := by decide +kernel
theorem dL_errors_764 : decode cL_errors 764 = .ok (.ldc2_w 36, 3) := by decide +kernel
theorem dL_errors_767 : decode cL_errors 767 = .ok (.lcmp, 1) := by decide +kernel
theorem dL_errors_768 : decode cL_errors 768 = .ok (.ifCond .ne 33, 3) := by decide +kernel
theorem dL_errors_771 : decode cL_errors 771 = .ok (.aload_n 0, 1) := by decide +kernel
theorem dL_errors_772 : decode cL_errors 772 = .ok (.iconst 2, 1) := by decide +kernel
theorem dL_errors_773 : decode cL_errors 773 = .ok (.invokestatic 172, 3) := by decide +kernel
theorem dL_errors_776 : decode cL_errors 776 = .ok (.ldc2_w 36, 3) := by decide +kernel
theorem dL_errors_779 : decode cL_errors 779 = .ok (.lcmp, 1) := by decide +kernel
theorem dL_errors_780 : decode cL_errors 780 = .ok (.ifCond .ne 21, 3) := by decide +kernel
theorem dL_errors_783 : decode cL_errors 783 = .ok (.aload_n 0, 1) := by decide +kernel
theorem dL_errors_784 : decode cL_errors 784 = .ok (.sipush 256, 3) := by decide +kernel
theorem dL_errors_787 : decode cL_errors 787 = .ok (.invokestatic 174, 3) := by decide +kernel
theorem dL_errors_790 : decode cL_errors 790 = .ok (.ldc2_w 17, 3) := by decide +kernel
theorem dL_errors_793 : decode cL_errors 793 = .ok (.lcmp, 1) := by decide +kernel
theorem dL_errors_794 : decode cL_errors 794 = .ok (.ifCond .ne 7, 3) := by decide +kernel
theorem dL_errors_797 : decode cL_errors 797 = .ok (.iconst 1, 1) := by decide +kernel
theorem dL_errors_798 : decode cL_errors 798 = .ok (.goto 4, 3) := by decide +kernel
theorem dL_errors_801 : decode cL_errors 801 = .ok (.iconst 0, 1) := by decide +kernel
theorem dL_errors_802 : decode cL_errors 802 = .ok (.istore 7, 2) := by decide +kernel
theorem dL_errors_804 : decode cL_errors 804 = .ok (.iload 7, 2) := by decide +kernel
theorem dL_errors_806 : decode cL_errors 806 = .ok (.ifCond .eq 16, 3) := by decide +kernel
theorem dL_errors_809 : decode cL_errors 809 = .ok (.aload_n 0, 1) := by decide +kernel
theorem dL_errors_810 : decode cL_errors 810 = .ok (.invokestatic 128, 3) := by decide +kernel
theorem dL_errors_813 : decode cL_errors 813 = .ok (.lload_n 1, 1) := by decide +kernel
theorem dL_errors_814 : decode cL_errors 814 = .ok (.lcmp, 1) := by decide +kernel
theorem dL_errors_815 : decode cL_errors 815 = .ok (.ifCond .ne 7, 3) := by decide +kernel
theorem dL_errors_818 : decode cL_errors 818 = .ok (.iconst 1, 1) := by decide +kernel
theorem dL_errors_819 : decode cL_errors 819 = .ok (.goto 4, 3) := by decide +kernel
theorem dL_errors_822 : decode cL_errors 822 = .ok (.iconst 0, 1) := by decide +kernel
theorem dL_errors_823 : decode cL_errors 823 = .ok (.ireturn, 1) := by decide +kernel
def PJ_LAW_errors_802 (y1 : Int64) (u0 : Int32) (v0 : TT) (Q : Int32 → TT → Prop) : Prop := ((u0 = 0 → Q 0 v0) ∧ (¬ u0 = 0 → P_LAW_now v0 (fun r31_ => (((¬ (lg_cmp r31_ y1) = 0 → Q 0 v0) ∧ ((lg_cmp r31_ y1) = 0 → Q 1 v0))))))
def PJ_LAW_errors_801 (y1 : Int64) (v0 : TT) (Q : Int32 → TT → Prop) : Prop := PJ_LAW_errors_802 y1 0 v0 Q
def PJ_LAW_errors_605 (y1 : Int64) (y3 : Int32) (y4 : Int32) (v0 : TT) (Q : Int32 → TT → Prop) : Prop := P_LAW_ticks 0 v0 (fun r70_ v75_ => (((¬ (lg_cmp r70_ (-9000000000000000002)) = 0 → PJ_LAW_errors_801 y1 v75_ Q) ∧ ((lg_cmp r70_ (-9000000000000000002)) = 0 → P_LAW_ticks 100 v75_ (fun r80_ v85_ => (((¬ (lg_cmp r80_ (-9000000000000000002)) = 0 → PJ_LAW_errors_801 y1 v85_ Q) ∧ ((lg_cmp r80_ (-9000000000000000002)) = 0 → P_LAW_truth 0 (y4 + 1) 0 v85_ (fun r90_ => (((¬ (lg_cmp r90_ (-9000000000000000001)) = 0 → PJ_LAW_errors_801 y1 v85_ Q) ∧ ((lg_cmp r90_ (-9000000000000000001)) = 0 → P_LAW_truth 0 (y3 - 1) 0 v85_ (fun r96_ => (((¬ (lg_cmp r96_ (-9000000000000000001)) = 0 → PJ_LAW_errors_801 y1 v85_ Q) ∧ ((lg_cmp r96_ (-9000000000000000001)) = 0 → P_LAW_truth 8 y3 0 v85_ (fun r102_ => (((¬ (lg_cmp r102_ (-9000000000000000002)) = 0 → PJ_LAW_errors_801 y1 v85_ Q) ∧ ((lg_cmp r102_ (-9000000000000000002)) = 0 → P_LAW_truth 0 y3 2 v85_ (fun r108_ => (((¬ (lg_cmp r108_ (-9000000000000000002)) = 0 → PJ_LAW_errors_801 y1 v85_ Q) ∧ ((lg_cmp r108_ (-9000000000000000002)) = 0 → P_LAW_leastRoom 0 v85_ (fun r114_ v119_ => (((¬ (lg_cmp r114_ (-9000000000000000002)) = 0 → PJ_LAW_errors_801 y1 v119_ Q) ∧ ((lg_cmp r114_ (-9000000000000000002)) = 0 → P_LAW_leastRoom 201 v119_ (fun r124_ v129_ => (((¬ (lg_cmp r124_ (-9000000000000000002)) = 0 → PJ_LAW_errors_801 y1 v129_ Q) ∧ ((lg_cmp r124_ (-9000000000000000002)) = 0 → P_LAW_script 0 0 v129_ (fun r134_ v139_ => (((¬ (lg_cmp r134_ (-9000000000000000002)) = 0 → PJ_LAW_errors_801 y1 v139_ Q) ∧ ((lg_cmp r134_ (-9000000000000000002)) = 0 → P_LAW_script 3 1000000000000000000 v139_ (fun r144_ v149_ => (((¬ (lg_cmp r144_ (-9000000000000000002)) = 0 → PJ_LAW_errors_801 y1 v149_ Q) ∧ ((lg_cmp r144_ (-9000000000000000002)) = 0 → P_LAW_simulate 1 0 v149_ (fun r154_ v159_ => (((¬ (lg_cmp r154_ (-9000000000000000002)) = 0 → PJ_LAW_errors_801 y1 v159_ Q) ∧ ((lg_cmp r154_ (-9000000000000000002)) = 0 → P_LAW_save 2 v159_ (fun r164_ v169_ => (((¬ (lg_cmp r164_ (-9000000000000000001)) = 0 → PJ_LAW_errors_801 y1 v169_ Q) ∧ ((lg_cmp r164_ (-9000000000000000001)) = 0 → P_LAW_restore 2 v169_ (fun r174_ v179_ => (((¬ (lg_cmp r174_ (-9000000000000000001)) = 0 → PJ_LAW_errors_801 y1 v179_ Q) ∧ ((lg_cmp r174_ (-9000000000000000001)) = 0 → P_LAW_append 256 v179_ (fun r184_ v189_ => (((¬ (lg_cmp r184_ (-9000000000000000002)) = 0 → PJ_LAW_errors_801 y1 v189_ Q) ∧ ((lg_cmp r184_ (-9000000000000000002)) = 0 → PJ_LAW_errors_802 y1 1 v189_ Q))))))))))))))))))))))))))))))))))))))))))))))))))))))))
def PJ_LAW_errors_462 (y1 : Int64) (y3 : Int32) (y4 : Int32) (y5 : Int32) (y6 : Int32) (u0 : Int32) (v0 : TT) (Q : Int32 → TT → Prop) : Prop := ((u0 = 0 → PJ_LAW_errors_801 y1 v0 Q) ∧ (¬ u0 = 0 → ((y6 = 0 → P_LAW_readerOf y5 9 v0 (fun r38_ => (((¬ (lg_cmp r38_ (-9000000000000000002)) = 0 → PJ_LAW_errors_801 y1 v0 Q) ∧ ((lg_cmp r38_ (-9000000000000000002)) = 0 → P_LAW_table y5 8 v0 (fun r44_ => (((¬ (lg_cmp r44_ (-9000000000000000002)) = 0 → PJ_LAW_errors_801 y1 v0 Q) ∧ ((lg_cmp r44_ (-9000000000000000002)) = 0 → P_LAW_read y5 51 v0 (fun r50_ v55_ => (((¬ (lg_cmp r50_ (-9000000000000000002)) = 0 → PJ_LAW_errors_801 y1 v55_ Q) ∧ ((lg_cmp r50_ (-9000000000000000002)) = 0 → P_LAW_join y5 0 0 v55_ (fun r60_ v65_ => (((¬ (lg_cmp r60_ (-9000000000000000003)) = 0 → PJ_LAW_errors_801 y1 v65_ Q) ∧ ((lg_cmp r60_ (-9000000000000000003)) = 0 → PJ_LAW_errors_605 y1 y3 y4 v65_ Q))))))))))))))))) ∧ (¬ y6 = 0 → P_LAW_readerOf y5 9 v0 (fun r194_ => (((¬ (lg_cmp r194_ (-9000000000000000001)) = 0 → PJ_LAW_errors_801 y1 v0 Q) ∧ ((lg_cmp r194_ (-9000000000000000001)) = 0 → P_LAW_read y5 1 v0 (fun r200_ v205_ => (((¬ (lg_cmp r200_ (-9000000000000000001)) = 0 → PJ_LAW_errors_801 y1 v205_ Q) ∧ ((lg_cmp r200_ (-9000000000000000001)) = 0 → P_LAW_leave y5 v205_ (fun r210_ v215_ => (((¬ (lg_cmp r210_ (-9000000000000000001)) = 0 → PJ_LAW_errors_801 y1 v215_ Q) ∧ ((lg_cmp r210_ (-9000000000000000001)) = 0 → P_LAW_lostIn y5 v215_ (fun r220_ v225_ => (((¬ (lg_cmp r220_ (-9000000000000000001)) = 0 → PJ_LAW_errors_801 y1 v225_ Q) ∧ ((lg_cmp r220_ (-9000000000000000001)) = 0 → P_LAW_ifFree y5 v225_ (fun r230_ v235_ => (((¬ (lg_cmp r230_ (-9000000000000000001)) = 0 → PJ_LAW_errors_801 y1 v235_ Q) ∧ ((lg_cmp r230_ (-9000000000000000001)) = 0 → PJ_LAW_errors_605 y1 y3 y4 v235_ Q))))))))))))))))))))))))
def PJ_LAW_errors_461 (y1 : Int64) (y3 : Int32) (y4 : Int32) (y5 : Int32) (y6 : Int32) (v0 : TT) (Q : Int32 → TT → Prop) : Prop := PJ_LAW_errors_462 y1 y3 y4 y5 y6 0 v0 Q
def PJ_LAW_errors_192 (y1 : Int64) (y3 : Int32) (y4 : Int32) (y5 : Int32) (y6 : Int32) (v0 : TT) (Q : Int32 → TT → Prop) : Prop := P_LAW_readerOf 8 9 v0 (fun r276_ => (((¬ (lg_cmp r276_ (-9000000000000000001)) = 0 → PJ_LAW_errors_461 y1 y3 y4 y5 y6 v0 Q) ∧ ((lg_cmp r276_ (-9000000000000000001)) = 0 → P_LAW_table (-1) 8 v0 (fun r282_ => (((¬ (lg_cmp r282_ (-9000000000000000001)) = 0 → PJ_LAW_errors_461 y1 y3 y4 y5 y6 v0 Q) ∧ ((lg_cmp r282_ (-9000000000000000001)) = 0 → P_LAW_base 8 v0 (fun r288_ => (((¬ (lg_cmp r288_ (-9000000000000000002)) = 0 → PJ_LAW_errors_461 y1 y3 y4 y5 y6 v0 Q) ∧ ((lg_cmp r288_ (-9000000000000000002)) = 0 → P_LAW_setting 6 v0 (fun r294_ => (((¬ (lg_cmp r294_ (-9000000000000000002)) = 0 → PJ_LAW_errors_461 y1 y3 y4 y5 y6 v0 Q) ∧ ((lg_cmp r294_ (-9000000000000000002)) = 0 → P_LAW_write 8 0 1 v0 (fun r300_ v305_ => (((¬ (lg_cmp r300_ (-9000000000000000002)) = 0 → PJ_LAW_errors_461 y1 y3 y4 y5 y6 v305_ Q) ∧ ((lg_cmp r300_ (-9000000000000000002)) = 0 → P_LAW_write 0 100 1 v305_ (fun r310_ v315_ => (((¬ (lg_cmp r310_ (-9000000000000000002)) = 0 → PJ_LAW_errors_461 y1 y3 y4 y5 y6 v315_ Q) ∧ ((lg_cmp r310_ (-9000000000000000002)) = 0 → P_LAW_write 0 0 0 v315_ (fun r320_ v325_ => (((¬ (lg_cmp r320_ (-9000000000000000002)) = 0 → PJ_LAW_errors_461 y1 y3 y4 y5 y6 v325_ Q) ∧ ((lg_cmp r320_ (-9000000000000000002)) = 0 → P_LAW_join 8 0 1 v325_ (fun r330_ v335_ => (((¬ (lg_cmp r330_ (-9000000000000000002)) = 0 → PJ_LAW_errors_461 y1 y3 y4 y5 y6 v335_ Q) ∧ ((lg_cmp r330_ (-9000000000000000002)) = 0 → P_LAW_join 0 3 1 v335_ (fun r340_ v345_ => (((¬ (lg_cmp r340_ (-9000000000000000002)) = 0 → PJ_LAW_errors_461 y1 y3 y4 y5 y6 v345_ Q) ∧ ((lg_cmp r340_ (-9000000000000000002)) = 0 → P_LAW_read 8 0 v345_ (fun r350_ v355_ => (((¬ (lg_cmp r350_ (-9000000000000000001)) = 0 → PJ_LAW_errors_461 y1 y3 y4 y5 y6 v355_ Q) ∧ ((lg_cmp r350_ (-9000000000000000001)) = 0 → P_LAW_leave (-1) v355_ (fun r360_ v365_ => (((¬ (lg_cmp r360_ (-9000000000000000001)) = 0 → PJ_LAW_errors_461 y1 y3 y4 y5 y6 v365_ Q) ∧ ((lg_cmp r360_ (-9000000000000000001)) = 0 → P_LAW_hold 8 1 v365_ (fun r370_ v375_ => (((¬ (lg_cmp r370_ (-9000000000000000001)) = 0 → PJ_LAW_errors_461 y1 y3 y4 y5 y6 v375_ Q) ∧ ((lg_cmp r370_ (-9000000000000000001)) = 0 → P_LAW_set 0 0 v375_ (fun r380_ v385_ => (((¬ (lg_cmp r380_ (-9000000000000000002)) = 0 → PJ_LAW_errors_461 y1 y3 y4 y5 y6 v385_ Q) ∧ ((lg_cmp r380_ (-9000000000000000002)) = 0 → P_LAW_set 1 39 v385_ (fun r390_ v395_ => (((¬ (lg_cmp r390_ (-9000000000000000002)) = 0 → PJ_LAW_errors_461 y1 y3 y4 y5 y6 v395_ Q) ∧ ((lg_cmp r390_ (-9000000000000000002)) = 0 → P_LAW_set 2 100 v395_ (fun r400_ v405_ => (((¬ (lg_cmp r400_ (-9000000000000000002)) = 0 → PJ_LAW_errors_461 y1 y3 y4 y5 y6 v405_ Q) ∧ ((lg_cmp r400_ (-9000000000000000002)) = 0 → P_LAW_set 3 4001 v405_ (fun r410_ v415_ => (((¬ (lg_cmp r410_ (-9000000000000000002)) = 0 → PJ_LAW_errors_461 y1 y3 y4 y5 y6 v415_ Q) ∧ ((lg_cmp r410_ (-9000000000000000002)) = 0 → P_LAW_set 4 (-1) v415_ (fun r420_ v425_ => (((¬ (lg_cmp r420_ (-9000000000000000002)) = 0 → PJ_LAW_errors_461 y1 y3 y4 y5 y6 v425_ Q) ∧ ((lg_cmp r420_ (-9000000000000000002)) = 0 → P_LAW_set 5 100 v425_ (fun r430_ v435_ => (((¬ (lg_cmp r430_ (-9000000000000000002)) = 0 → PJ_LAW_errors_461 y1 y3 y4 y5 y6 v435_ Q) ∧ ((lg_cmp r430_ (-9000000000000000002)) = 0 → P_LAW_set 6 0 v435_ (fun r440_ v445_ => (((¬ (lg_cmp r440_ (-9000000000000000002)) = 0 → PJ_LAW_errors_461 y1 y3 y4 y5 y6 v445_ Q) ∧ ((lg_cmp r440_ (-9000000000000000002)) = 0 → PJ_LAW_errors_462 y1 y3 y4 y5 y6 1 v445_ Q))))))))))))))))))))))))))))))))))))))))))))))))))))))))))))))))))))))))))))
def PJ_LAW_errors_69 (y1 : Int64) (y3 : Int32) (y4 : Int32) (y5 : Int32) (u0 : Int32) (v0 : TT) (Q : Int32 → TT → Prop) : Prop := P_LAW_about (-1) v0 (fun r23_ => (((¬ (lg_cmp r23_ (-9000000000000000002)) = 0 → PJ_LAW_errors_461 y1 y3 y4 y5 u0 v0 Q) ∧ ((lg_cmp r23_ (-9000000000000000002)) = 0 → P_LAW_about 12 v0 (fun r240_ => (((¬ (lg_cmp r240_ (-9000000000000000002)) = 0 → PJ_LAW_errors_461 y1 y3 y4 y5 u0 v0 Q) ∧ ((lg_cmp r240_ (-9000000000000000002)) = 0 → P_LAW_rowOf (y3 - 1) 6 v0 (fun r246_ => (((¬ (lg_cmp r246_ (-9000000000000000001)) = 0 → PJ_LAW_errors_461 y1 y3 y4 y5 u0 v0 Q) ∧ ((lg_cmp r246_ (-9000000000000000001)) = 0 → P_LAW_rowOf y4 0 v0 (fun r252_ => (((¬ (lg_cmp r252_ (-9000000000000000001)) = 0 → PJ_LAW_errors_461 y1 y3 y4 y5 u0 v0 Q) ∧ ((lg_cmp r252_ (-9000000000000000001)) = 0 → P_LAW_about 2 v0 (fun r258_ => (P_LAW_segmentOf (Int64.toInt32 r258_) 6 v0 (fun r263_ => (((¬ (lg_cmp r263_ (-9000000000000000001)) = 0 → PJ_LAW_errors_461 y1 y3 y4 y5 u0 v0 Q) ∧ ((lg_cmp r263_ (-9000000000000000001)) = 0 → P_LAW_segmentOf (-1) 0 v0 (fun r269_ => (((¬ (lg_cmp r269_ (-9000000000000000001)) = 0 → PJ_LAW_errors_461 y1 y3 y4 y5 u0 v0 Q) ∧ ((lg_cmp r269_ (-9000000000000000001)) = 0 → ((y4 = y3 → PJ_LAW_errors_192 y1 y3 y4 y5 u0 v0 Q) ∧ (¬ y4 = y3 → P_LAW_rowOf y3 6 v0 (fun r450_ => (((¬ (lg_cmp r450_ (-9000000000000000002)) = 0 → PJ_LAW_errors_461 y1 y3 y4 y5 u0 v0 Q) ∧ ((lg_cmp r450_ (-9000000000000000002)) = 0 → P_LAW_segmentOf 0 6 v0 (fun r456_ => (((¬ (lg_cmp r456_ (-9000000000000000002)) = 0 → PJ_LAW_errors_461 y1 y3 y4 y5 u0 v0 Q) ∧ ((lg_cmp r456_ (-9000000000000000002)) = 0 → PJ_LAW_errors_192 y1 y3 y4 y5 u0 v0 Q))))))))))))))))))))))))))))))))))))
def PJ_LAW_errors_50 (y1 : Int64) (y3 : Int32) (y4 : Int32) (y5 : Int32) (v0 : TT) (Q : Int32 → TT → Prop) : Prop := P_LAW_readerOf y5 0 v0 (fun r17_ => (((¬ (lg_cmp r17_ (-9000000000000000001)) = 0 → PJ_LAW_errors_69 y1 y3 y4 y5 0 v0 Q) ∧ ((lg_cmp r17_ (-9000000000000000001)) = 0 → PJ_LAW_errors_69 y1 y3 y4 y5 1 v0 Q))))
def PL_LAW_errors_23 : Nat → Int64 → Int32 → Int32 → Int32 → TT → (Int32 → TT → Prop) → Prop
  | 0, _, _, _, _, _, _ => False
  | n + 1, y1, y3, y4, y5, v0, Q => ((7 ≤ y5 → PJ_LAW_errors_50 y1 y3 y4 y5 v0 Q) ∧ (¬ 7 ≤ y5 → P_LAW_readerOf y5 0 v0 (fun r462_ => ((((lg_cmp r462_ (-9000000000000000001)) = 0 → PJ_LAW_errors_50 y1 y3 y4 y5 v0 Q) ∧ (¬ (lg_cmp r462_ (-9000000000000000001)) = 0 → (fun y1 y3 y4 y5 v0 => PL_LAW_errors_23 n  y1 y3 y4 y5 v0  Q) y1 y3 y4 (y5 + 1) v0))))))
def P_LAW_errors (v0 : TT) (Q : Int32 → TT → Prop) : Prop := P_LAW_now v0 (fun r1_ => (P_LAW_about 1 v0 (fun r6_ => (P_LAW_about 0 v0 (fun r11_ => ((∃ n468_, n468_ ≤ 8 ∧ PL_LAW_errors_23 n468_ r1_ (Int64.toInt32 r6_) (Int64.toInt32 r11_) 0 v0 Q)))))))
set_option maxRecDepth 100000 in
theorem s_LAW_errors {l : Launch} {D : zD} {B : Nat} {sa : Nat → Nat} (hfl : l.stackTraces = false) {z : Nat} {G : zG} {b0 : Nat} {v0 : TT} {Q : Int32 → TT → Prop} (h0 : TA b0 v0 G) (h : P_LAW_errors v0 Q) : zSp l D B sa yL_errors cL_errors 8 (some .boolean) 9 241 462 2772 [.ref b0] z G (zRi fun r z' G' => ∃ w, TA b0 w G' ∧ Fr b0 475 G G' ∧ Q r w) := by
  unfold P_LAW_errors at h
  refine z_ofW (by decide +kernel) hfl [some (.ref b0), none, none, none, none, none, none, none] rfl (Nat.le_of_ble_eq_true rfl) (fun p e s m args below meth c O hret hlk hnm => ?_)
  have O : zO p l s m args c D B sa 8 cL_errors RL := O
  have hk0 : 0 + (462 + 0) ≤ 462 ∧ 0 + 6 * (462 + 0) ≤ 2772 := ⟨Nat.le_of_ble_eq_true rfl, Nat.le_of_ble_eq_true rfl⟩
  have HJ802 : ∀     (y1 : Int64) (u0 : Int32) (v0 : TT) (G9 : zG) (g0 : TA b0 v0 G9) (gF : Fr b0 475 G G9) (z9 k9 m9 : Nat) (hk : k9 + (202 + 0) ≤ 462 ∧ m9 + 6 * (202 + 0) ≤ 2772) (h : PJ_LAW_errors_802 y1 u0 v0 Q), zT p l e (zrm 9 241 462 2772) s m args below meth c (zEnd below D B (zRi fun r z' G' => ∃ w, TA b0 w G' ∧ Fr b0 475 G G' ∧ Q r w) args s 462 2772) D B 8 k9 m9 802 [.int u0] [some (.ref b0), some (.long y1), none, none, none, none, none, none] z9 G9 := by
    intro  y1 u0 v0 G9 g0 gF z9 k9 m9 hk h
    unfold PJ_LAW_errors_802 at h
    refine z_istore (L' := [some (.ref b0), some (.long y1), none, none, none, none, none, some (.int u0)]) O dL_errors_802 (by decide) rfl ?_
    refine z_iload O dL_errors_804 rfl ?_
    refine z_if_eq (tgt := 822) O dL_errors_806 (by decide) (fun c30_ => ?_) (fun c30_ => ?_)
    · have h := h.1 c30_
      refine z_iconst (v := 0) O dL_errors_822 (by decide) ?_
      exact z_zret O hret rfl hlk dL_errors_823 (lk_k hk) (lk_n hk) ⟨_, rfl, _, g0, gF, h⟩
    · have h := h.2 c30_
      refine z_aload_n O dL_errors_809 rfl rfl ?_
      have hk32_ := lk_step 202 0 hk (Nat.le_of_ble_eq_true rfl)
      refine z_callSl (As := [.ref b0]) (st := []) O (s_LAW_now hfl g0 h) wy_L_now wl_RL_128 dL_errors_810 rfl rfl ⟨Nat.le_of_ble_eq_true rfl, Nat.le_of_ble_eq_true rfl⟩ (Nat.le_of_ble_eq_true rfl) ⟨lk_k hk32_, lk_n hk32_⟩ (fun r31_ z33_ G34_ hq35_ => ?_)
      obtain ⟨rfl, h⟩ := hq35_
      refine z_lload_n O dL_errors_813 rfl rfl ?_
      refine z_lcmp O dL_errors_814 ?_
      refine z_if_ne (tgt := 822) O dL_errors_815 (by decide) (fun c36_ => ?_) (fun c36_ => ?_)
      · have h := h.1 c36_
        refine z_iconst (v := 0) O dL_errors_822 (by decide) ?_
        exact z_zret O hret rfl hlk dL_errors_823 (lk_k hk32_) (lk_n hk32_) ⟨_, rfl, _, g0, gF, h⟩
      · have h := h.2 c36_
        refine z_iconst (v := 1) O dL_errors_818 (by decide) ?_
        refine z_goto (tgt := 823) O dL_errors_819 (by decide) ?_
        exact z_zret O hret rfl hlk dL_errors_823 (lk_k hk32_) (lk_n hk32_) ⟨_, rfl, _, g0, gF, h⟩
  have HJ801 : ∀     (y1 : Int64) (v0 : TT) (G9 : zG) (g0 : TA b0 v0 G9) (gF : Fr b0 475 G G9) (z9 k9 m9 : Nat) (hk : k9 + (202 + 0) ≤ 462 ∧ m9 + 6 * (202 + 0) ≤ 2772) (h : PJ_LAW_errors_801 y1 v0 Q), zT p l e (zrm 9 241 462 2772) s m args below meth c (zEnd below D B (zRi fun r z' G' => ∃ w, TA b0 w G' ∧ Fr b0 475 G G' ∧ Q r w) args s 462 2772) D B 8 k9 m9 801 [] [some (.ref b0), some (.long y1), none, none, none, none, none, none] z9 G9 := by
    intro  y1 v0 G9 g0 gF z9 k9 m9 hk h
    unfold PJ_LAW_errors_801 at h
    refine z_iconst (v := 0) O dL_errors_801 (by decide) ?_
    exact z_subL (L' := [some (.ref b0), some (.long y1), none, none, none, none, none, none]) (zLe.sub (And.intro rfl (And.intro rfl True.intro))) (HJ802 y1 0 v0 G9 g0 gF _ _ _ (lk_weak hk (c' := 202) (Nat.le_of_ble_eq_true rfl) (Nat.le_refl _)) h)
  have HJ605 : ∀     (y1 : Int64) (y3 : Int32) (y4 : Int32) (v0 : TT) (G9 : zG) (g0 : TA b0 v0 G9) (gF : Fr b0 475 G G9) (z9 k9 m9 : Nat) (hk : k9 + (216 + 0) ≤ 462 ∧ m9 + 6 * (216 + 0) ≤ 2772) (h : PJ_LAW_errors_605 y1 y3 y4 v0 Q), zT p l e (zrm 9 241 462 2772) s m args below meth c (zEnd below D B (zRi fun r z' G' => ∃ w, TA b0 w G' ∧ Fr b0 475 G G' ∧ Q r w) args s 462 2772) D B 8 k9 m9 605 [] [some (.ref b0), some (.long y1), none, some (.int y3), some (.int y4), none, none, none] z9 G9 := by
    intro  y1 y3 y4 v0 G9 g0 gF z9 k9 m9 hk h
    unfold PJ_LAW_errors_605 at h
    refine z_aload_n O dL_errors_605 rfl rfl ?_
    refine z_iconst (v := 0) O dL_errors_606 (by decide) ?_
    have hk71_ := lk_step 1 215 hk (Nat.le_of_ble_eq_true rfl)
    refine z_callHl (As := [.ref b0, .int 0]) (st := []) O (s_LAW_ticks hfl g0 h) wh_L_ticks wl_RL_155 dL_errors_607 rfl rfl ⟨Nat.le_of_ble_eq_true rfl, Nat.le_of_ble_eq_true rfl⟩ (Nat.le_of_ble_eq_true rfl) ⟨lk_k hk71_, lk_n hk71_⟩ (fun r70_ z72_ G73_ hq74_ => ?_)
    obtain ⟨v75_, k76_, f77_, h⟩ := hq74_
    have F78_ : Fr b0 475 G G73_ := Fr.trans gF f77_
    refine z_ldc2 (v := (-9000000000000000002)) O wc_RL_17 dL_errors_610 ?_
    refine z_lcmp O dL_errors_613 ?_
    refine z_if_ne (tgt := 801) O dL_errors_614 (by decide) (fun c79_ => ?_) (fun c79_ => ?_)
    · have h := h.1 c79_
      exact z_subL (L' := [some (.ref b0), some (.long y1), none, none, none, none, none, none]) (zLe.sub (And.intro rfl (And.intro rfl True.intro))) (HJ801 y1 v75_ G73_ k76_ F78_ _ _ _ (lk_weak hk71_ (c' := 202) (Nat.le_of_ble_eq_true rfl) (Nat.le_refl _)) h)
    · have h := h.2 c79_
      refine z_aload_n O dL_errors_617 rfl rfl ?_
      refine z_bipush (v := 100) O dL_errors_618 (by decide) ?_
      have hk81_ := lk_step 1 214 hk71_ (Nat.le_of_ble_eq_true rfl)
      refine z_callHl (As := [.ref b0, .int 100]) (st := []) O (s_LAW_ticks hfl k76_ h) wh_L_ticks wl_RL_155 dL_errors_620 rfl rfl ⟨Nat.le_of_ble_eq_true rfl, Nat.le_of_ble_eq_true rfl⟩ (Nat.le_of_ble_eq_true rfl) ⟨lk_k hk81_, lk_n hk81_⟩ (fun r80_ z82_ G83_ hq84_ => ?_)
      obtain ⟨v85_, k86_, f87_, h⟩ := hq84_
      have F88_ : Fr b0 475 G G83_ := Fr.trans F78_ f87_
      refine z_ldc2 (v := (-9000000000000000002)) O wc_RL_17 dL_errors_623 ?_
      refine z_lcmp O dL_errors_626 ?_
      refine z_if_ne (tgt := 801) O dL_errors_627 (by decide) (fun c89_ => ?_) (fun c89_ => ?_)
      · have h := h.1 c89_
        exact z_subL (L' := [some (.ref b0), some (.long y1), none, none, none, none, none, none]) (zLe.sub (And.intro rfl (And.intro rfl True.intro))) (HJ801 y1 v85_ G83_ k86_ F88_ _ _ _ (lk_weak hk81_ (c' := 202) (Nat.le_of_ble_eq_true rfl) (Nat.le_refl _)) h)
      · have h := h.2 c89_
        refine z_aload_n O dL_errors_630 rfl rfl ?_
        refine z_iconst (v := 0) O dL_errors_631 (by decide) ?_
        refine z_iload O dL_errors_632 rfl ?_
        refine z_iconst (v := 1) O dL_errors_634 (by decide) ?_
        refine z_iadd O dL_errors_635 ?_
        refine z_iconst (v := 0) O dL_errors_636 (by decide) ?_
        have hk91_ := lk_step 1 213 hk81_ (Nat.le_of_ble_eq_true rfl)
        refine z_callHl (As := [.ref b0, .int 0, .int (y4 + 1), .int 0]) (st := []) O (s_LAW_truth hfl k86_ h) wh_L_truth wl_RL_157 dL_errors_637 rfl rfl ⟨Nat.le_of_ble_eq_true rfl, Nat.le_of_ble_eq_true rfl⟩ (Nat.le_of_ble_eq_true rfl) ⟨lk_k hk91_, lk_n hk91_⟩ (fun r90_ z92_ G93_ hq94_ => ?_)
        obtain ⟨rfl, h⟩ := hq94_
        refine z_ldc2 (v := (-9000000000000000001)) O wc_RL_36 dL_errors_640 ?_
        refine z_lcmp O dL_errors_643 ?_
        refine z_if_ne (tgt := 801) O dL_errors_644 (by decide) (fun c95_ => ?_) (fun c95_ => ?_)
        · have h := h.1 c95_
          exact z_subL (L' := [some (.ref b0), some (.long y1), none, none, none, none, none, none]) (zLe.sub (And.intro rfl (And.intro rfl True.intro))) (HJ801 y1 v85_ G83_ k86_ F88_ _ _ _ (lk_weak hk91_ (c' := 202) (Nat.le_of_ble_eq_true rfl) (Nat.le_refl _)) h)
        · have h := h.2 c95_
          refine z_aload_n O dL_errors_647 rfl rfl ?_
          refine z_iconst (v := 0) O dL_errors_648 (by decide) ?_
          refine z_iload_n O dL_errors_649 rfl rfl ?_
          refine z_iconst (v := 1) O dL_errors_650 (by decide) ?_
          refine z_isub O dL_errors_651 ?_
          refine z_iconst (v := 0) O dL_errors_652 (by decide) ?_
          have hk97_ := lk_step 1 212 hk91_ (Nat.le_of_ble_eq_true rfl)
          refine z_callHl (As := [.ref b0, .int 0, .int (y3 - 1), .int 0]) (st := []) O (s_LAW_truth hfl k86_ h) wh_L_truth wl_RL_157 dL_errors_653 rfl rfl ⟨Nat.le_of_ble_eq_true rfl, Nat.le_of_ble_eq_true rfl⟩ (Nat.le_of_ble_eq_true rfl) ⟨lk_k hk97_, lk_n hk97_⟩ (fun r96_ z98_ G99_ hq100_ => ?_)
          obtain ⟨rfl, h⟩ := hq100_
          refine z_ldc2 (v := (-9000000000000000001)) O wc_RL_36 dL_errors_656 ?_
          refine z_lcmp O dL_errors_659 ?_
          refine z_if_ne (tgt := 801) O dL_errors_660 (by decide) (fun c101_ => ?_) (fun c101_ => ?_)
          · have h := h.1 c101_
            exact z_subL (L' := [some (.ref b0), some (.long y1), none, none, none, none, none, none]) (zLe.sub (And.intro rfl (And.intro rfl True.intro))) (HJ801 y1 v85_ G83_ k86_ F88_ _ _ _ (lk_weak hk97_ (c' := 202) (Nat.le_of_ble_eq_true rfl) (Nat.le_refl _)) h)
          · have h := h.2 c101_
            refine z_aload_n O dL_errors_663 rfl rfl ?_
            refine z_bipush (v := 8) O dL_errors_664 (by decide) ?_
            refine z_iload_n O dL_errors_666 rfl rfl ?_
            refine z_iconst (v := 0) O dL_errors_667 (by decide) ?_
            have hk103_ := lk_step 1 211 hk97_ (Nat.le_of_ble_eq_true rfl)
            refine z_callHl (As := [.ref b0, .int 8, .int y3, .int 0]) (st := []) O (s_LAW_truth hfl k86_ h) wh_L_truth wl_RL_157 dL_errors_668 rfl rfl ⟨Nat.le_of_ble_eq_true rfl, Nat.le_of_ble_eq_true rfl⟩ (Nat.le_of_ble_eq_true rfl) ⟨lk_k hk103_, lk_n hk103_⟩ (fun r102_ z104_ G105_ hq106_ => ?_)
            obtain ⟨rfl, h⟩ := hq106_
            refine z_ldc2 (v := (-9000000000000000002)) O wc_RL_17 dL_errors_671 ?_
            refine z_lcmp O dL_errors_674 ?_
            refine z_if_ne (tgt := 801) O dL_errors_675 (by decide) (fun c107_ => ?_) (fun c107_ => ?_)
            · have h := h.1 c107_
              exact z_subL (L' := [some (.ref b0), some (.long y1), none, none, none, none, none, none]) (zLe.sub (And.intro rfl (And.intro rfl True.intro))) (HJ801 y1 v85_ G83_ k86_ F88_ _ _ _ (lk_weak hk103_ (c' := 202) (Nat.le_of_ble_eq_true rfl) (Nat.le_refl _)) h)
            · have h := h.2 c107_
              refine z_aload_n O dL_errors_678 rfl rfl ?_
              refine z_iconst (v := 0) O dL_errors_679 (by decide) ?_
              refine z_iload_n O dL_errors_680 rfl rfl ?_
              refine z_iconst (v := 2) O dL_errors_681 (by decide) ?_
              have hk109_ := lk_step 1 210 hk103_ (Nat.le_of_ble_eq_true rfl)
              refine z_callHl (As := [.ref b0, .int 0, .int y3, .int 2]) (st := []) O (s_LAW_truth hfl k86_ h) wh_L_truth wl_RL_157 dL_errors_682 rfl rfl ⟨Nat.le_of_ble_eq_true rfl, Nat.le_of_ble_eq_true rfl⟩ (Nat.le_of_ble_eq_true rfl) ⟨lk_k hk109_, lk_n hk109_⟩ (fun r108_ z110_ G111_ hq112_ => ?_)
              obtain ⟨rfl, h⟩ := hq112_
              refine z_ldc2 (v := (-9000000000000000002)) O wc_RL_17 dL_errors_685 ?_
              refine z_lcmp O dL_errors_688 ?_
              refine z_if_ne (tgt := 801) O dL_errors_689 (by decide) (fun c113_ => ?_) (fun c113_ => ?_)
              · have h := h.1 c113_
                exact z_subL (L' := [some (.ref b0), some (.long y1), none, none, none, none, none, none]) (zLe.sub (And.intro rfl (And.intro rfl True.intro))) (HJ801 y1 v85_ G83_ k86_ F88_ _ _ _ (lk_weak hk109_ (c' := 202) (Nat.le_of_ble_eq_true rfl) (Nat.le_refl _)) h)
              · have h := h.2 c113_
                refine z_aload_n O dL_errors_692 rfl rfl ?_
                refine z_iconst (v := 0) O dL_errors_693 (by decide) ?_
                have hk115_ := lk_step 1 209 hk109_ (Nat.le_of_ble_eq_true rfl)
                refine z_callHl (As := [.ref b0, .int 0]) (st := []) O (s_LAW_leastRoom hfl k86_ h) wh_L_leastRoom wl_RL_159 dL_errors_694 rfl rfl ⟨Nat.le_of_ble_eq_true rfl, Nat.le_of_ble_eq_true rfl⟩ (Nat.le_of_ble_eq_true rfl) ⟨lk_k hk115_, lk_n hk115_⟩ (fun r114_ z116_ G117_ hq118_ => ?_)
                obtain ⟨v119_, k120_, f121_, h⟩ := hq118_
                have F122_ : Fr b0 475 G G117_ := Fr.trans F88_ f121_
                refine z_ldc2 (v := (-9000000000000000002)) O wc_RL_17 dL_errors_697 ?_
                refine z_lcmp O dL_errors_700 ?_
                refine z_if_ne (tgt := 801) O dL_errors_701 (by decide) (fun c123_ => ?_) (fun c123_ => ?_)
                · have h := h.1 c123_
                  exact z_subL (L' := [some (.ref b0), some (.long y1), none, none, none, none, none, none]) (zLe.sub (And.intro rfl (And.intro rfl True.intro))) (HJ801 y1 v119_ G117_ k120_ F122_ _ _ _ (lk_weak hk115_ (c' := 202) (Nat.le_of_ble_eq_true rfl) (Nat.le_refl _)) h)
                · have h := h.2 c123_
                  refine z_aload_n O dL_errors_704 rfl rfl ?_
                  refine z_sipush (v := 201) O dL_errors_705 (by decide) ?_
                  have hk125_ := lk_step 1 208 hk115_ (Nat.le_of_ble_eq_true rfl)
                  refine z_callHl (As := [.ref b0, .int 201]) (st := []) O (s_LAW_leastRoom hfl k120_ h) wh_L_leastRoom wl_RL_159 dL_errors_708 rfl rfl ⟨Nat.le_of_ble_eq_true rfl, Nat.le_of_ble_eq_true rfl⟩ (Nat.le_of_ble_eq_true rfl) ⟨lk_k hk125_, lk_n hk125_⟩ (fun r124_ z126_ G127_ hq128_ => ?_)
                  obtain ⟨v129_, k130_, f131_, h⟩ := hq128_
                  have F132_ : Fr b0 475 G G127_ := Fr.trans F122_ f131_
                  refine z_ldc2 (v := (-9000000000000000002)) O wc_RL_17 dL_errors_711 ?_
                  refine z_lcmp O dL_errors_714 ?_
                  refine z_if_ne (tgt := 801) O dL_errors_715 (by decide) (fun c133_ => ?_) (fun c133_ => ?_)
                  · have h := h.1 c133_
                    exact z_subL (L' := [some (.ref b0), some (.long y1), none, none, none, none, none, none]) (zLe.sub (And.intro rfl (And.intro rfl True.intro))) (HJ801 y1 v129_ G127_ k130_ F132_ _ _ _ (lk_weak hk125_ (c' := 202) (Nat.le_of_ble_eq_true rfl) (Nat.le_refl _)) h)
                  · have h := h.2 c133_
                    refine z_aload_n O dL_errors_718 rfl rfl ?_
                    refine z_iconst (v := 0) O dL_errors_719 (by decide) ?_
                    refine z_lconst (v := 0) O dL_errors_720 (by decide) ?_
                    have hk135_ := lk_step 1 207 hk125_ (Nat.le_of_ble_eq_true rfl)
                    refine z_callHl (As := [.ref b0, .int 0, .long 0]) (st := []) O (s_LAW_script hfl k130_ h) wh_L_script wl_RL_161 dL_errors_721 rfl rfl ⟨Nat.le_of_ble_eq_true rfl, Nat.le_of_ble_eq_true rfl⟩ (Nat.le_of_ble_eq_true rfl) ⟨lk_k hk135_, lk_n hk135_⟩ (fun r134_ z136_ G137_ hq138_ => ?_)
                    obtain ⟨v139_, k140_, f141_, h⟩ := hq138_
                    have F142_ : Fr b0 475 G G137_ := Fr.trans F132_ f141_
                    refine z_ldc2 (v := (-9000000000000000002)) O wc_RL_17 dL_errors_724 ?_
                    refine z_lcmp O dL_errors_727 ?_
                    refine z_if_ne (tgt := 801) O dL_errors_728 (by decide) (fun c143_ => ?_) (fun c143_ => ?_)
                    · have h := h.1 c143_
                      exact z_subL (L' := [some (.ref b0), some (.long y1), none, none, none, none, none, none]) (zLe.sub (And.intro rfl (And.intro rfl True.intro))) (HJ801 y1 v139_ G137_ k140_ F142_ _ _ _ (lk_weak hk135_ (c' := 202) (Nat.le_of_ble_eq_true rfl) (Nat.le_refl _)) h)
                    · have h := h.2 c143_
                      refine z_aload_n O dL_errors_731 rfl rfl ?_
                      refine z_iconst (v := 3) O dL_errors_732 (by decide) ?_
                      refine z_ldc2 (v := 1000000000000000000) O wc_RL_165 dL_errors_733 ?_
                      have hk145_ := lk_step 1 206 hk135_ (Nat.le_of_ble_eq_true rfl)
                      refine z_callHl (As := [.ref b0, .int 3, .long 1000000000000000000]) (st := []) O (s_LAW_script hfl k140_ h) wh_L_script wl_RL_161 dL_errors_736 rfl rfl ⟨Nat.le_of_ble_eq_true rfl, Nat.le_of_ble_eq_true rfl⟩ (Nat.le_of_ble_eq_true rfl) ⟨lk_k hk145_, lk_n hk145_⟩ (fun r144_ z146_ G147_ hq148_ => ?_)
                      obtain ⟨v149_, k150_, f151_, h⟩ := hq148_
                      have F152_ : Fr b0 475 G G147_ := Fr.trans F142_ f151_
                      refine z_ldc2 (v := (-9000000000000000002)) O wc_RL_17 dL_errors_739 ?_
                      refine z_lcmp O dL_errors_742 ?_
                      refine z_if_ne (tgt := 801) O dL_errors_743 (by decide) (fun c153_ => ?_) (fun c153_ => ?_)
                      · have h := h.1 c153_
                        exact z_subL (L' := [some (.ref b0), some (.long y1), none, none, none, none, none, none]) (zLe.sub (And.intro rfl (And.intro rfl True.intro))) (HJ801 y1 v149_ G147_ k150_ F152_ _ _ _ (lk_weak hk145_ (c' := 202) (Nat.le_of_ble_eq_true rfl) (Nat.le_refl _)) h)
                      · have h := h.2 c153_
                        refine z_aload_n O dL_errors_746 rfl rfl ?_
                        refine z_lconst (v := 1) O dL_errors_747 (by decide) ?_
                        refine z_iconst (v := 0) O dL_errors_748 (by decide) ?_
                        have hk155_ := lk_step 1 205 hk145_ (Nat.le_of_ble_eq_true rfl)
                        refine z_callHl (As := [.ref b0, .long 1, .int 0]) (st := []) O (s_LAW_simulate hfl k150_ h) wh_L_simulate wl_RL_167 dL_errors_749 rfl rfl ⟨Nat.le_of_ble_eq_true rfl, Nat.le_of_ble_eq_true rfl⟩ (Nat.le_of_ble_eq_true rfl) ⟨lk_k hk155_, lk_n hk155_⟩ (fun r154_ z156_ G157_ hq158_ => ?_)
                        obtain ⟨v159_, k160_, f161_, h⟩ := hq158_
                        have F162_ : Fr b0 475 G G157_ := Fr.trans F152_ f161_
                        refine z_ldc2 (v := (-9000000000000000002)) O wc_RL_17 dL_errors_752 ?_
                        refine z_lcmp O dL_errors_755 ?_
                        refine z_if_ne (tgt := 801) O dL_errors_756 (by decide) (fun c163_ => ?_) (fun c163_ => ?_)
                        · have h := h.1 c163_
                          exact z_subL (L' := [some (.ref b0), some (.long y1), none, none, none, none, none, none]) (zLe.sub (And.intro rfl (And.intro rfl True.intro))) (HJ801 y1 v159_ G157_ k160_ F162_ _ _ _ (lk_weak hk155_ (c' := 202) (Nat.le_of_ble_eq_true rfl) (Nat.le_refl _)) h)
                        · have h := h.2 c163_
                          refine z_aload_n O dL_errors_759 rfl rfl ?_
                          refine z_iconst (v := 2) O dL_errors_760 (by decide) ?_
                          have hk165_ := lk_step 1 204 hk155_ (Nat.le_of_ble_eq_true rfl)
                          refine z_callHl (As := [.ref b0, .int 2]) (st := []) O (s_LAW_save hfl k160_ h) wh_L_save wl_RL_170 dL_errors_761 rfl rfl ⟨Nat.le_of_ble_eq_true rfl, Nat.le_of_ble_eq_true rfl⟩ (Nat.le_of_ble_eq_true rfl) ⟨lk_k hk165_, lk_n hk165_⟩ (fun r164_ z166_ G167_ hq168_ => ?_)
                          obtain ⟨v169_, k170_, f171_, h⟩ := hq168_
                          have F172_ : Fr b0 475 G G167_ := Fr.trans F162_ f171_
                          refine z_ldc2 (v := (-9000000000000000001)) O wc_RL_36 dL_errors_764 ?_
                          refine z_lcmp O dL_errors_767 ?_
                          refine z_if_ne (tgt := 801) O dL_errors_768 (by decide) (fun c173_ => ?_) (fun c173_ => ?_)
                          · have h := h.1 c173_
                            exact z_subL (L' := [some (.ref b0), some (.long y1), none, none, none, none, none, none]) (zLe.sub (And.intro rfl (And.intro rfl True.intro))) (HJ801 y1 v169_ G167_ k170_ F172_ _ _ _ (lk_weak hk165_ (c' := 202) (Nat.le_of_ble_eq_true rfl) (Nat.le_refl _)) h)
                          · have h := h.2 c173_
                            refine z_aload_n O dL_errors_771 rfl rfl ?_
                            refine z_iconst (v := 2) O dL_errors_772 (by decide) ?_
                            have hk175_ := lk_step 1 203 hk165_ (Nat.le_of_ble_eq_true rfl)
                            refine z_callHl (As := [.ref b0, .int 2]) (st := []) O (s_LAW_restore hfl k170_ h) wh_L_restore wl_RL_172 dL_errors_773 rfl rfl ⟨Nat.le_of_ble_eq_true rfl, Nat.le_of_ble_eq_true rfl⟩ (Nat.le_of_ble_eq_true rfl) ⟨lk_k hk175_, lk_n hk175_⟩ (fun r174_ z176_ G177_ hq178_ => ?_)
                            obtain ⟨v179_, k180_, f181_, h⟩ := hq178_
                            have F182_ : Fr b0 475 G G177_ := Fr.trans F172_ f181_
                            refine z_ldc2 (v := (-9000000000000000001)) O wc_RL_36 dL_errors_776 ?_
                            refine z_lcmp O dL_errors_779 ?_
                            refine z_if_ne (tgt := 801) O dL_errors_780 (by decide) (fun c183_ => ?_) (fun c183_ => ?_)
                            · have h := h.1 c183_
                              exact z_subL (L' := [some (.ref b0), some (.long y1), none, none, none, none, none, none]) (zLe.sub (And.intro rfl (And.intro rfl True.intro))) (HJ801 y1 v179_ G177_ k180_ F182_ _ _ _ (lk_weak hk175_ (c' := 202) (Nat.le_of_ble_eq_true rfl) (Nat.le_refl _)) h)
                            · have h := h.2 c183_
                              refine z_aload_n O dL_errors_783 rfl rfl ?_
                              refine z_sipush (v := 256) O dL_errors_784 (by decide) ?_
                              have hk185_ := lk_step 1 202 hk175_ (Nat.le_of_ble_eq_true rfl)
                              refine z_callHl (As := [.ref b0, .int 256]) (st := []) O (s_LAW_append hfl k180_ h) wh_L_append wl_RL_174 dL_errors_787 rfl rfl ⟨Nat.le_of_ble_eq_true rfl, Nat.le_of_ble_eq_true rfl⟩ (Nat.le_of_ble_eq_true rfl) ⟨lk_k hk185_, lk_n hk185_⟩ (fun r184_ z186_ G187_ hq188_ => ?_)
                              obtain ⟨v189_, k190_, f191_, h⟩ := hq188_
                              have F192_ : Fr b0 475 G G187_ := Fr.trans F182_ f191_
                              refine z_ldc2 (v := (-9000000000000000002)) O wc_RL_17 dL_errors_790 ?_
                              refine z_lcmp O dL_errors_793 ?_
                              refine z_if_ne (tgt := 801) O dL_errors_794 (by decide) (fun c193_ => ?_) (fun c193_ => ?_)
                              · have h := h.1 c193_
                                exact z_subL (L' := [some (.ref b0), some (.long y1), none, none, none, none, none, none]) (zLe.sub (And.intro rfl (And.intro rfl True.intro))) (HJ801 y1 v189_ G187_ k190_ F192_ _ _ _ (lk_weak hk185_ (c' := 202) (Nat.le_of_ble_eq_true rfl) (Nat.le_refl _)) h)
                              · have h := h.2 c193_
                                refine z_iconst (v := 1) O dL_errors_797 (by decide) ?_
                                refine z_goto (tgt := 802) O dL_errors_798 (by decide) ?_
                                exact z_subL (L' := [some (.ref b0), some (.long y1), none, none, none, none, none, none]) (zLe.sub (And.intro rfl (And.intro rfl True.intro))) (HJ802 y1 1 v189_ G187_ k190_ F192_ _ _ _ (lk_weak hk185_ (c' := 202) (Nat.le_of_ble_eq_true rfl) (Nat.le_refl _)) h)
  have HJ462 : ∀     (y1 : Int64) (y3 : Int32) (y4 : Int32) (y5 : Int32) (y6 : Int32) (u0 : Int32) (v0 : TT) (G9 : zG) (g0 : TA b0 v0 G9) (gF : Fr b0 475 G G9) (z9 k9 m9 : Nat) (hk : k9 + (221 + 0) ≤ 462 ∧ m9 + 6 * (221 + 0) ≤ 2772) (h : PJ_LAW_errors_462 y1 y3 y4 y5 y6 u0 v0 Q), zT p l e (zrm 9 241 462 2772) s m args below meth c (zEnd below D B (zRi fun r z' G' => ∃ w, TA b0 w G' ∧ Fr b0 475 G G' ∧ Q r w) args s 462 2772) D B 8 k9 m9 462 [.int u0] [some (.ref b0), some (.long y1), none, some (.int y3), some (.int y4), some (.int y5), some (.int y6), none] z9 G9 := by
    intro  y1 y3 y4 y5 y6 u0 v0 G9 g0 gF z9 k9 m9 hk h
    unfold PJ_LAW_errors_462 at h
    refine z_istore (L' := [some (.ref b0), some (.long y1), none, some (.int y3), some (.int y4), some (.int y5), some (.int y6), some (.int u0)]) O dL_errors_462 (by decide) rfl ?_
    refine z_iload O dL_errors_464 rfl ?_
    refine z_if_eq (tgt := 801) O dL_errors_466 (by decide) (fun c29_ => ?_) (fun c29_ => ?_)
    · have h := h.1 c29_
      exact z_subL (L' := [some (.ref b0), some (.long y1), none, none, none, none, none, none]) (zLe.sub (And.intro rfl (And.intro rfl True.intro))) (HJ801 y1 v0 G9 g0 gF _ _ _ (lk_weak hk (c' := 202) (Nat.le_of_ble_eq_true rfl) (Nat.le_refl _)) h)
    · have h := h.2 c29_
      refine z_iload O dL_errors_469 rfl ?_
      refine z_if_eq (tgt := 545) O dL_errors_471 (by decide) (fun c37_ => ?_) (fun c37_ => ?_)
      · have h := h.1 c37_
        refine z_aload_n O dL_errors_545 rfl rfl ?_
        refine z_iload O dL_errors_546 rfl ?_
        refine z_bipush (v := 9) O dL_errors_548 (by decide) ?_
        have hk39_ := lk_step 1 220 hk (Nat.le_of_ble_eq_true rfl)
        refine z_callHl (As := [.ref b0, .int y5, .int 9]) (st := []) O (s_LAW_readerOf hfl g0 h) wh_L_readerOf wl_RL_121 dL_errors_550 rfl rfl ⟨Nat.le_of_ble_eq_true rfl, Nat.le_of_ble_eq_true rfl⟩ (Nat.le_of_ble_eq_true rfl) ⟨lk_k hk39_, lk_n hk39_⟩ (fun r38_ z40_ G41_ hq42_ => ?_)
        obtain ⟨rfl, h⟩ := hq42_
        refine z_ldc2 (v := (-9000000000000000002)) O wc_RL_17 dL_errors_553 ?_
        refine z_lcmp O dL_errors_556 ?_
        refine z_if_ne (tgt := 801) O dL_errors_557 (by decide) (fun c43_ => ?_) (fun c43_ => ?_)
        · have h := h.1 c43_
          exact z_subL (L' := [some (.ref b0), some (.long y1), none, none, none, none, none, none]) (zLe.sub (And.intro rfl (And.intro rfl True.intro))) (HJ801 y1 v0 G9 g0 gF _ _ _ (lk_weak hk39_ (c' := 202) (Nat.le_of_ble_eq_true rfl) (Nat.le_refl _)) h)
        · have h := h.2 c43_
          refine z_aload_n O dL_errors_560 rfl rfl ?_
          refine z_iload O dL_errors_561 rfl ?_
          refine z_bipush (v := 8) O dL_errors_563 (by decide) ?_
          have hk45_ := lk_step 1 219 hk39_ (Nat.le_of_ble_eq_true rfl)
          refine z_callHl (As := [.ref b0, .int y5, .int 8]) (st := []) O (s_LAW_table hfl g0 h) wh_L_table wl_RL_126 dL_errors_565 rfl rfl ⟨Nat.le_of_ble_eq_true rfl, Nat.le_of_ble_eq_true rfl⟩ (Nat.le_of_ble_eq_true rfl) ⟨lk_k hk45_, lk_n hk45_⟩ (fun r44_ z46_ G47_ hq48_ => ?_)
          obtain ⟨rfl, h⟩ := hq48_
          refine z_ldc2 (v := (-9000000000000000002)) O wc_RL_17 dL_errors_568 ?_
          refine z_lcmp O dL_errors_571 ?_
          refine z_if_ne (tgt := 801) O dL_errors_572 (by decide) (fun c49_ => ?_) (fun c49_ => ?_)
          · have h := h.1 c49_
            exact z_subL (L' := [some (.ref b0), some (.long y1), none, none, none, none, none, none]) (zLe.sub (And.intro rfl (And.intro rfl True.intro))) (HJ801 y1 v0 G9 g0 gF _ _ _ (lk_weak hk45_ (c' := 202) (Nat.le_of_ble_eq_true rfl) (Nat.le_refl _)) h)
          · have h := h.2 c49_
            refine z_aload_n O dL_errors_575 rfl rfl ?_
            refine z_iload O dL_errors_576 rfl ?_
            refine z_bipush (v := 51) O dL_errors_578 (by decide) ?_
            have hk51_ := lk_step 1 218 hk45_ (Nat.le_of_ble_eq_true rfl)
            refine z_callHl (As := [.ref b0, .int y5, .int 51]) (st := []) O (s_LAW_read hfl g0 h) wh_L_read wl_RL_142 dL_errors_580 rfl rfl ⟨Nat.le_of_ble_eq_true rfl, Nat.le_of_ble_eq_true rfl⟩ (Nat.le_of_ble_eq_true rfl) ⟨lk_k hk51_, lk_n hk51_⟩ (fun r50_ z52_ G53_ hq54_ => ?_)
            obtain ⟨v55_, k56_, f57_, h⟩ := hq54_
            have F58_ : Fr b0 475 G G53_ := Fr.trans gF f57_
            refine z_ldc2 (v := (-9000000000000000002)) O wc_RL_17 dL_errors_583 ?_
            refine z_lcmp O dL_errors_586 ?_
            refine z_if_ne (tgt := 801) O dL_errors_587 (by decide) (fun c59_ => ?_) (fun c59_ => ?_)
            · have h := h.1 c59_
              exact z_subL (L' := [some (.ref b0), some (.long y1), none, none, none, none, none, none]) (zLe.sub (And.intro rfl (And.intro rfl True.intro))) (HJ801 y1 v55_ G53_ k56_ F58_ _ _ _ (lk_weak hk51_ (c' := 202) (Nat.le_of_ble_eq_true rfl) (Nat.le_refl _)) h)
            · have h := h.2 c59_
              refine z_aload_n O dL_errors_590 rfl rfl ?_
              refine z_iload O dL_errors_591 rfl ?_
              refine z_iconst (v := 0) O dL_errors_593 (by decide) ?_
              refine z_iconst (v := 0) O dL_errors_594 (by decide) ?_
              have hk61_ := lk_step 1 217 hk51_ (Nat.le_of_ble_eq_true rfl)
              refine z_callHl (As := [.ref b0, .int y5, .int 0, .int 0]) (st := []) O (s_LAW_join hfl k56_ h) wh_L_join wl_RL_139 dL_errors_595 rfl rfl ⟨Nat.le_of_ble_eq_true rfl, Nat.le_of_ble_eq_true rfl⟩ (Nat.le_of_ble_eq_true rfl) ⟨lk_k hk61_, lk_n hk61_⟩ (fun r60_ z62_ G63_ hq64_ => ?_)
              obtain ⟨v65_, k66_, f67_, h⟩ := hq64_
              have F68_ : Fr b0 475 G G63_ := Fr.trans F58_ f67_
              refine z_ldc2 (v := (-9000000000000000003)) O wc_RL_21 dL_errors_598 ?_
              refine z_lcmp O dL_errors_601 ?_
              refine z_if_ne (tgt := 801) O dL_errors_602 (by decide) (fun c69_ => ?_) (fun c69_ => ?_)
              · have h := h.1 c69_
                exact z_subL (L' := [some (.ref b0), some (.long y1), none, none, none, none, none, none]) (zLe.sub (And.intro rfl (And.intro rfl True.intro))) (HJ801 y1 v65_ G63_ k66_ F68_ _ _ _ (lk_weak hk61_ (c' := 202) (Nat.le_of_ble_eq_true rfl) (Nat.le_refl _)) h)
              · have h := h.2 c69_
                exact z_subL (L' := [some (.ref b0), some (.long y1), none, some (.int y3), some (.int y4), none, none, none]) (zLe.sub (And.intro rfl (And.intro rfl (And.intro rfl (And.intro rfl True.intro))))) (HJ605 y1 y3 y4 v65_ G63_ k66_ F68_ _ _ _ (lk_weak hk61_ (c' := 216) (Nat.le_of_ble_eq_true rfl) (Nat.le_refl _)) h)
      · have h := h.2 c37_
        refine z_aload_n O dL_errors_474 rfl rfl ?_
        refine z_iload O dL_errors_475 rfl ?_
        refine z_bipush (v := 9) O dL_errors_477 (by decide) ?_
        have hk195_ := lk_step 1 220 hk (Nat.le_of_ble_eq_true rfl)
        refine z_callHl (As := [.ref b0, .int y5, .int 9]) (st := []) O (s_LAW_readerOf hfl g0 h) wh_L_readerOf wl_RL_121 dL_errors_479 rfl rfl ⟨Nat.le_of_ble_eq_true rfl, Nat.le_of_ble_eq_true rfl⟩ (Nat.le_of_ble_eq_true rfl) ⟨lk_k hk195_, lk_n hk195_⟩ (fun r194_ z196_ G197_ hq198_ => ?_)
        obtain ⟨rfl, h⟩ := hq198_
        refine z_ldc2 (v := (-9000000000000000001)) O wc_RL_36 dL_errors_482 ?_
        refine z_lcmp O dL_errors_485 ?_
        refine z_if_ne (tgt := 801) O dL_errors_486 (by decide) (fun c199_ => ?_) (fun c199_ => ?_)
        · have h := h.1 c199_
          exact z_subL (L' := [some (.ref b0), some (.long y1), none, none, none, none, none, none]) (zLe.sub (And.intro rfl (And.intro rfl True.intro))) (HJ801 y1 v0 G9 g0 gF _ _ _ (lk_weak hk195_ (c' := 202) (Nat.le_of_ble_eq_true rfl) (Nat.le_refl _)) h)
        · have h := h.2 c199_
          refine z_aload_n O dL_errors_489 rfl rfl ?_
          refine z_iload O dL_errors_490 rfl ?_
          refine z_iconst (v := 1) O dL_errors_492 (by decide) ?_
          have hk201_ := lk_step 1 219 hk195_ (Nat.le_of_ble_eq_true rfl)
          refine z_callHl (As := [.ref b0, .int y5, .int 1]) (st := []) O (s_LAW_read hfl g0 h) wh_L_read wl_RL_142 dL_errors_493 rfl rfl ⟨Nat.le_of_ble_eq_true rfl, Nat.le_of_ble_eq_true rfl⟩ (Nat.le_of_ble_eq_true rfl) ⟨lk_k hk201_, lk_n hk201_⟩ (fun r200_ z202_ G203_ hq204_ => ?_)
          obtain ⟨v205_, k206_, f207_, h⟩ := hq204_
          have F208_ : Fr b0 475 G G203_ := Fr.trans gF f207_
          refine z_ldc2 (v := (-9000000000000000001)) O wc_RL_36 dL_errors_496 ?_
          refine z_lcmp O dL_errors_499 ?_
          refine z_if_ne (tgt := 801) O dL_errors_500 (by decide) (fun c209_ => ?_) (fun c209_ => ?_)
          · have h := h.1 c209_
            exact z_subL (L' := [some (.ref b0), some (.long y1), none, none, none, none, none, none]) (zLe.sub (And.intro rfl (And.intro rfl True.intro))) (HJ801 y1 v205_ G203_ k206_ F208_ _ _ _ (lk_weak hk201_ (c' := 202) (Nat.le_of_ble_eq_true rfl) (Nat.le_refl _)) h)
          · have h := h.2 c209_
            refine z_aload_n O dL_errors_503 rfl rfl ?_
            refine z_iload O dL_errors_504 rfl ?_
            have hk211_ := lk_step 1 218 hk201_ (Nat.le_of_ble_eq_true rfl)
            refine z_callHl (As := [.ref b0, .int y5]) (st := []) O (s_LAW_leave hfl k206_ h) wh_L_leave wl_RL_144 dL_errors_506 rfl rfl ⟨Nat.le_of_ble_eq_true rfl, Nat.le_of_ble_eq_true rfl⟩ (Nat.le_of_ble_eq_true rfl) ⟨lk_k hk211_, lk_n hk211_⟩ (fun r210_ z212_ G213_ hq214_ => ?_)
            obtain ⟨v215_, k216_, f217_, h⟩ := hq214_
            have F218_ : Fr b0 475 G G213_ := Fr.trans F208_ f217_
            refine z_ldc2 (v := (-9000000000000000001)) O wc_RL_36 dL_errors_509 ?_
            refine z_lcmp O dL_errors_512 ?_
            refine z_if_ne (tgt := 801) O dL_errors_513 (by decide) (fun c219_ => ?_) (fun c219_ => ?_)
            · have h := h.1 c219_
              exact z_subL (L' := [some (.ref b0), some (.long y1), none, none, none, none, none, none]) (zLe.sub (And.intro rfl (And.intro rfl True.intro))) (HJ801 y1 v215_ G213_ k216_ F218_ _ _ _ (lk_weak hk211_ (c' := 202) (Nat.le_of_ble_eq_true rfl) (Nat.le_refl _)) h)
            · have h := h.2 c219_
              refine z_aload_n O dL_errors_516 rfl rfl ?_
              refine z_iload O dL_errors_517 rfl ?_
              have hk221_ := lk_step 1 217 hk211_ (Nat.le_of_ble_eq_true rfl)
              refine z_callHl (As := [.ref b0, .int y5]) (st := []) O (s_LAW_lostIn hfl k216_ h) wh_L_lostIn wl_RL_151 dL_errors_519 rfl rfl ⟨Nat.le_of_ble_eq_true rfl, Nat.le_of_ble_eq_true rfl⟩ (Nat.le_of_ble_eq_true rfl) ⟨lk_k hk221_, lk_n hk221_⟩ (fun r220_ z222_ G223_ hq224_ => ?_)
              obtain ⟨v225_, k226_, f227_, h⟩ := hq224_
              have F228_ : Fr b0 475 G G223_ := Fr.trans F218_ f227_
              refine z_ldc2 (v := (-9000000000000000001)) O wc_RL_36 dL_errors_522 ?_
              refine z_lcmp O dL_errors_525 ?_
              refine z_if_ne (tgt := 801) O dL_errors_526 (by decide) (fun c229_ => ?_) (fun c229_ => ?_)
              · have h := h.1 c229_
                exact z_subL (L' := [some (.ref b0), some (.long y1), none, none, none, none, none, none]) (zLe.sub (And.intro rfl (And.intro rfl True.intro))) (HJ801 y1 v225_ G223_ k226_ F228_ _ _ _ (lk_weak hk221_ (c' := 202) (Nat.le_of_ble_eq_true rfl) (Nat.le_refl _)) h)
              · have h := h.2 c229_
                refine z_aload_n O dL_errors_529 rfl rfl ?_
                refine z_iload O dL_errors_530 rfl ?_
                have hk231_ := lk_step 1 216 hk221_ (Nat.le_of_ble_eq_true rfl)
                refine z_callHl (As := [.ref b0, .int y5]) (st := []) O (s_LAW_ifFree hfl k226_ h) wh_L_ifFree wl_RL_153 dL_errors_532 rfl rfl ⟨Nat.le_of_ble_eq_true rfl, Nat.le_of_ble_eq_true rfl⟩ (Nat.le_of_ble_eq_true rfl) ⟨lk_k hk231_, lk_n hk231_⟩ (fun r230_ z232_ G233_ hq234_ => ?_)
                obtain ⟨v235_, k236_, f237_, h⟩ := hq234_
                have F238_ : Fr b0 475 G G233_ := Fr.trans F228_ f237_
                refine z_ldc2 (v := (-9000000000000000001)) O wc_RL_36 dL_errors_535 ?_
                refine z_lcmp O dL_errors_538 ?_
                refine z_if_ne (tgt := 801) O dL_errors_539 (by decide) (fun c239_ => ?_) (fun c239_ => ?_)
                · have h := h.1 c239_
                  exact z_subL (L' := [some (.ref b0), some (.long y1), none, none, none, none, none, none]) (zLe.sub (And.intro rfl (And.intro rfl True.intro))) (HJ801 y1 v235_ G233_ k236_ F238_ _ _ _ (lk_weak hk231_ (c' := 202) (Nat.le_of_ble_eq_true rfl) (Nat.le_refl _)) h)
                · have h := h.2 c239_
                  refine z_goto (tgt := 605) O dL_errors_542 (by decide) ?_
                  exact z_subL (L' := [some (.ref b0), some (.long y1), none, some (.int y3), some (.int y4), none, none, none]) (zLe.sub (And.intro rfl (And.intro rfl (And.intro rfl (And.intro rfl True.intro))))) (HJ605 y1 y3 y4 v235_ G233_ k236_ F238_ _ _ _ (lk_weak hk231_ (c' := 216) (Nat.le_of_ble_eq_true rfl) (Nat.le_refl _)) h)
  have HJ461 : ∀     (y1 : Int64) (y3 : Int32) (y4 : Int32) (y5 : Int32) (y6 : Int32) (v0 : TT) (G9 : zG) (g0 : TA b0 v0 G9) (gF : Fr b0 475 G G9) (z9 k9 m9 : Nat) (hk : k9 + (221 + 0) ≤ 462 ∧ m9 + 6 * (221 + 0) ≤ 2772) (h : PJ_LAW_errors_461 y1 y3 y4 y5 y6 v0 Q), zT p l e (zrm 9 241 462 2772) s m args below meth c (zEnd below D B (zRi fun r z' G' => ∃ w, TA b0 w G' ∧ Fr b0 475 G G' ∧ Q r w) args s 462 2772) D B 8 k9 m9 461 [] [some (.ref b0), some (.long y1), none, some (.int y3), some (.int y4), some (.int y5), some (.int y6), none] z9 G9 := by
    intro  y1 y3 y4 y5 y6 v0 G9 g0 gF z9 k9 m9 hk h
    unfold PJ_LAW_errors_461 at h
    refine z_iconst (v := 0) O dL_errors_461 (by decide) ?_
    exact z_subL (L' := [some (.ref b0), some (.long y1), none, some (.int y3), some (.int y4), some (.int y5), some (.int y6), none]) (zLe.sub (And.intro rfl (And.intro rfl (And.intro rfl (And.intro rfl (And.intro rfl (And.intro rfl True.intro))))))) (HJ462 y1 y3 y4 y5 y6 0 v0 G9 g0 gF _ _ _ (lk_weak hk (c' := 221) (Nat.le_of_ble_eq_true rfl) (Nat.le_refl _)) h)
  have HJ192 : ∀     (y1 : Int64) (y3 : Int32) (y4 : Int32) (y5 : Int32) (y6 : Int32) (v0 : TT) (G9 : zG) (g0 : TA b0 v0 G9) (gF : Fr b0 475 G G9) (z9 k9 m9 : Nat) (hk : k9 + (240 + 0) ≤ 462 ∧ m9 + 6 * (240 + 0) ≤ 2772) (h : PJ_LAW_errors_192 y1 y3 y4 y5 y6 v0 Q), zT p l e (zrm 9 241 462 2772) s m args below meth c (zEnd below D B (zRi fun r z' G' => ∃ w, TA b0 w G' ∧ Fr b0 475 G G' ∧ Q r w) args s 462 2772) D B 8 k9 m9 192 [] [some (.ref b0), some (.long y1), none, some (.int y3), some (.int y4), some (.int y5), some (.int y6), none] z9 G9 := by
    intro  y1 y3 y4 y5 y6 v0 G9 g0 gF z9 k9 m9 hk h
    unfold PJ_LAW_errors_192 at h
    refine z_aload_n O dL_errors_192 rfl rfl ?_
    refine z_bipush (v := 8) O dL_errors_193 (by decide) ?_
    refine z_bipush (v := 9) O dL_errors_195 (by decide) ?_
    have hk277_ := lk_step 1 239 hk (Nat.le_of_ble_eq_true rfl)
    refine z_callHl (As := [.ref b0, .int 8, .int 9]) (st := []) O (s_LAW_readerOf hfl g0 h) wh_L_readerOf wl_RL_121 dL_errors_197 rfl rfl ⟨Nat.le_of_ble_eq_true rfl, Nat.le_of_ble_eq_true rfl⟩ (Nat.le_of_ble_eq_true rfl) ⟨lk_k hk277_, lk_n hk277_⟩ (fun r276_ z278_ G279_ hq280_ => ?_)
    obtain ⟨rfl, h⟩ := hq280_
    refine z_ldc2 (v := (-9000000000000000001)) O wc_RL_36 dL_errors_200 ?_
    refine z_lcmp O dL_errors_203 ?_
    refine z_if_ne (tgt := 461) O dL_errors_204 (by decide) (fun c281_ => ?_) (fun c281_ => ?_)
    · have h := h.1 c281_
      exact z_subL (L' := [some (.ref b0), some (.long y1), none, some (.int y3), some (.int y4), some (.int y5), some (.int y6), none]) (zLe.sub (And.intro rfl (And.intro rfl (And.intro rfl (And.intro rfl (And.intro rfl (And.intro rfl True.intro))))))) (HJ461 y1 y3 y4 y5 y6 v0 G9 g0 gF _ _ _ (lk_weak hk277_ (c' := 221) (Nat.le_of_ble_eq_true rfl) (Nat.le_refl _)) h)
    · have h := h.2 c281_
      refine z_aload_n O dL_errors_207 rfl rfl ?_
      refine z_iconst (v := (-1)) O dL_errors_208 (by decide) ?_
      refine z_bipush (v := 8) O dL_errors_209 (by decide) ?_
      have hk283_ := lk_step 1 238 hk277_ (Nat.le_of_ble_eq_true rfl)
      refine z_callHl (As := [.ref b0, .int (-1), .int 8]) (st := []) O (s_LAW_table hfl g0 h) wh_L_table wl_RL_126 dL_errors_211 rfl rfl ⟨Nat.le_of_ble_eq_true rfl, Nat.le_of_ble_eq_true rfl⟩ (Nat.le_of_ble_eq_true rfl) ⟨lk_k hk283_, lk_n hk283_⟩ (fun r282_ z284_ G285_ hq286_ => ?_)
      obtain ⟨rfl, h⟩ := hq286_
      refine z_ldc2 (v := (-9000000000000000001)) O wc_RL_36 dL_errors_214 ?_
      refine z_lcmp O dL_errors_217 ?_
      refine z_if_ne (tgt := 461) O dL_errors_218 (by decide) (fun c287_ => ?_) (fun c287_ => ?_)
      · have h := h.1 c287_
        exact z_subL (L' := [some (.ref b0), some (.long y1), none, some (.int y3), some (.int y4), some (.int y5), some (.int y6), none]) (zLe.sub (And.intro rfl (And.intro rfl (And.intro rfl (And.intro rfl (And.intro rfl (And.intro rfl True.intro))))))) (HJ461 y1 y3 y4 y5 y6 v0 G9 g0 gF _ _ _ (lk_weak hk283_ (c' := 221) (Nat.le_of_ble_eq_true rfl) (Nat.le_refl _)) h)
      · have h := h.2 c287_
        refine z_aload_n O dL_errors_221 rfl rfl ?_
        refine z_bipush (v := 8) O dL_errors_222 (by decide) ?_
        have hk289_ := lk_step 1 237 hk283_ (Nat.le_of_ble_eq_true rfl)
        refine z_callHl (As := [.ref b0, .int 8]) (st := []) O (s_LAW_base hfl g0 h) wh_L_base wl_RL_115 dL_errors_224 rfl rfl ⟨Nat.le_of_ble_eq_true rfl, Nat.le_of_ble_eq_true rfl⟩ (Nat.le_of_ble_eq_true rfl) ⟨lk_k hk289_, lk_n hk289_⟩ (fun r288_ z290_ G291_ hq292_ => ?_)
        obtain ⟨rfl, h⟩ := hq292_
        refine z_ldc2 (v := (-9000000000000000002)) O wc_RL_17 dL_errors_227 ?_
        refine z_lcmp O dL_errors_230 ?_
        refine z_if_ne (tgt := 461) O dL_errors_231 (by decide) (fun c293_ => ?_) (fun c293_ => ?_)
        · have h := h.1 c293_
          exact z_subL (L' := [some (.ref b0), some (.long y1), none, some (.int y3), some (.int y4), some (.int y5), some (.int y6), none]) (zLe.sub (And.intro rfl (And.intro rfl (And.intro rfl (And.intro rfl (And.intro rfl (And.intro rfl True.intro))))))) (HJ461 y1 y3 y4 y5 y6 v0 G9 g0 gF _ _ _ (lk_weak hk289_ (c' := 221) (Nat.le_of_ble_eq_true rfl) (Nat.le_refl _)) h)
        · have h := h.2 c293_
          refine z_aload_n O dL_errors_234 rfl rfl ?_
          refine z_bipush (v := 6) O dL_errors_235 (by decide) ?_
          have hk295_ := lk_step 1 236 hk289_ (Nat.le_of_ble_eq_true rfl)
          refine z_callHl (As := [.ref b0, .int 6]) (st := []) O (s_LAW_setting hfl g0 h) wh_L_setting wl_RL_119 dL_errors_237 rfl rfl ⟨Nat.le_of_ble_eq_true rfl, Nat.le_of_ble_eq_true rfl⟩ (Nat.le_of_ble_eq_true rfl) ⟨lk_k hk295_, lk_n hk295_⟩ (fun r294_ z296_ G297_ hq298_ => ?_)
          obtain ⟨rfl, h⟩ := hq298_
          refine z_ldc2 (v := (-9000000000000000002)) O wc_RL_17 dL_errors_240 ?_
          refine z_lcmp O dL_errors_243 ?_
          refine z_if_ne (tgt := 461) O dL_errors_244 (by decide) (fun c299_ => ?_) (fun c299_ => ?_)
          · have h := h.1 c299_
            exact z_subL (L' := [some (.ref b0), some (.long y1), none, some (.int y3), some (.int y4), some (.int y5), some (.int y6), none]) (zLe.sub (And.intro rfl (And.intro rfl (And.intro rfl (And.intro rfl (And.intro rfl (And.intro rfl True.intro))))))) (HJ461 y1 y3 y4 y5 y6 v0 G9 g0 gF _ _ _ (lk_weak hk295_ (c' := 221) (Nat.le_of_ble_eq_true rfl) (Nat.le_refl _)) h)
          · have h := h.2 c299_
            refine z_aload_n O dL_errors_247 rfl rfl ?_
            refine z_bipush (v := 8) O dL_errors_248 (by decide) ?_
            refine z_iconst (v := 0) O dL_errors_250 (by decide) ?_
            refine z_iconst (v := 1) O dL_errors_251 (by decide) ?_
            have hk301_ := lk_step 1 235 hk295_ (Nat.le_of_ble_eq_true rfl)
            refine z_callHl (As := [.ref b0, .int 8, .int 0, .int 1]) (st := []) O (s_LAW_write hfl g0 h) wh_L_write wl_RL_136 dL_errors_252 rfl rfl ⟨Nat.le_of_ble_eq_true rfl, Nat.le_of_ble_eq_true rfl⟩ (Nat.le_of_ble_eq_true rfl) ⟨lk_k hk301_, lk_n hk301_⟩ (fun r300_ z302_ G303_ hq304_ => ?_)
            obtain ⟨v305_, k306_, f307_, h⟩ := hq304_
            have F308_ : Fr b0 475 G G303_ := Fr.trans gF f307_
            refine z_ldc2 (v := (-9000000000000000002)) O wc_RL_17 dL_errors_255 ?_
            refine z_lcmp O dL_errors_258 ?_
            refine z_if_ne (tgt := 461) O dL_errors_259 (by decide) (fun c309_ => ?_) (fun c309_ => ?_)
            · have h := h.1 c309_
              exact z_subL (L' := [some (.ref b0), some (.long y1), none, some (.int y3), some (.int y4), some (.int y5), some (.int y6), none]) (zLe.sub (And.intro rfl (And.intro rfl (And.intro rfl (And.intro rfl (And.intro rfl (And.intro rfl True.intro))))))) (HJ461 y1 y3 y4 y5 y6 v305_ G303_ k306_ F308_ _ _ _ (lk_weak hk301_ (c' := 221) (Nat.le_of_ble_eq_true rfl) (Nat.le_refl _)) h)
            · have h := h.2 c309_
              refine z_aload_n O dL_errors_262 rfl rfl ?_
              refine z_iconst (v := 0) O dL_errors_263 (by decide) ?_
              refine z_bipush (v := 100) O dL_errors_264 (by decide) ?_
              refine z_iconst (v := 1) O dL_errors_266 (by decide) ?_
              have hk311_ := lk_step 1 234 hk301_ (Nat.le_of_ble_eq_true rfl)
              refine z_callHl (As := [.ref b0, .int 0, .int 100, .int 1]) (st := []) O (s_LAW_write hfl k306_ h) wh_L_write wl_RL_136 dL_errors_267 rfl rfl ⟨Nat.le_of_ble_eq_true rfl, Nat.le_of_ble_eq_true rfl⟩ (Nat.le_of_ble_eq_true rfl) ⟨lk_k hk311_, lk_n hk311_⟩ (fun r310_ z312_ G313_ hq314_ => ?_)
              obtain ⟨v315_, k316_, f317_, h⟩ := hq314_
              have F318_ : Fr b0 475 G G313_ := Fr.trans F308_ f317_
              refine z_ldc2 (v := (-9000000000000000002)) O wc_RL_17 dL_errors_270 ?_
              refine z_lcmp O dL_errors_273 ?_
              refine z_if_ne (tgt := 461) O dL_errors_274 (by decide) (fun c319_ => ?_) (fun c319_ => ?_)
              · have h := h.1 c319_
                exact z_subL (L' := [some (.ref b0), some (.long y1), none, some (.int y3), some (.int y4), some (.int y5), some (.int y6), none]) (zLe.sub (And.intro rfl (And.intro rfl (And.intro rfl (And.intro rfl (And.intro rfl (And.intro rfl True.intro))))))) (HJ461 y1 y3 y4 y5 y6 v315_ G313_ k316_ F318_ _ _ _ (lk_weak hk311_ (c' := 221) (Nat.le_of_ble_eq_true rfl) (Nat.le_refl _)) h)
              · have h := h.2 c319_
                refine z_aload_n O dL_errors_277 rfl rfl ?_
                refine z_iconst (v := 0) O dL_errors_278 (by decide) ?_
                refine z_iconst (v := 0) O dL_errors_279 (by decide) ?_
                refine z_iconst (v := 0) O dL_errors_280 (by decide) ?_
                have hk321_ := lk_step 1 233 hk311_ (Nat.le_of_ble_eq_true rfl)
                refine z_callHl (As := [.ref b0, .int 0, .int 0, .int 0]) (st := []) O (s_LAW_write hfl k316_ h) wh_L_write wl_RL_136 dL_errors_281 rfl rfl ⟨Nat.le_of_ble_eq_true rfl, Nat.le_of_ble_eq_true rfl⟩ (Nat.le_of_ble_eq_true rfl) ⟨lk_k hk321_, lk_n hk321_⟩ (fun r320_ z322_ G323_ hq324_ => ?_)
                obtain ⟨v325_, k326_, f327_, h⟩ := hq324_
                have F328_ : Fr b0 475 G G323_ := Fr.trans F318_ f327_
                refine z_ldc2 (v := (-9000000000000000002)) O wc_RL_17 dL_errors_284 ?_
                refine z_lcmp O dL_errors_287 ?_
                refine z_if_ne (tgt := 461) O dL_errors_288 (by decide) (fun c329_ => ?_) (fun c329_ => ?_)
                · have h := h.1 c329_
                  exact z_subL (L' := [some (.ref b0), some (.long y1), none, some (.int y3), some (.int y4), some (.int y5), some (.int y6), none]) (zLe.sub (And.intro rfl (And.intro rfl (And.intro rfl (And.intro rfl (And.intro rfl (And.intro rfl True.intro))))))) (HJ461 y1 y3 y4 y5 y6 v325_ G323_ k326_ F328_ _ _ _ (lk_weak hk321_ (c' := 221) (Nat.le_of_ble_eq_true rfl) (Nat.le_refl _)) h)
                · have h := h.2 c329_
                  refine z_aload_n O dL_errors_291 rfl rfl ?_
                  refine z_bipush (v := 8) O dL_errors_292 (by decide) ?_
                  refine z_iconst (v := 0) O dL_errors_294 (by decide) ?_
                  refine z_iconst (v := 1) O dL_errors_295 (by decide) ?_
                  have hk331_ := lk_step 1 232 hk321_ (Nat.le_of_ble_eq_true rfl)
                  refine z_callHl (As := [.ref b0, .int 8, .int 0, .int 1]) (st := []) O (s_LAW_join hfl k326_ h) wh_L_join wl_RL_139 dL_errors_296 rfl rfl ⟨Nat.le_of_ble_eq_true rfl, Nat.le_of_ble_eq_true rfl⟩ (Nat.le_of_ble_eq_true rfl) ⟨lk_k hk331_, lk_n hk331_⟩ (fun r330_ z332_ G333_ hq334_ => ?_)
                  obtain ⟨v335_, k336_, f337_, h⟩ := hq334_
                  have F338_ : Fr b0 475 G G333_ := Fr.trans F328_ f337_
                  refine z_ldc2 (v := (-9000000000000000002)) O wc_RL_17 dL_errors_299 ?_
                  refine z_lcmp O dL_errors_302 ?_
                  refine z_if_ne (tgt := 461) O dL_errors_303 (by decide) (fun c339_ => ?_) (fun c339_ => ?_)
                  · have h := h.1 c339_
                    exact z_subL (L' := [some (.ref b0), some (.long y1), none, some (.int y3), some (.int y4), some (.int y5), some (.int y6), none]) (zLe.sub (And.intro rfl (And.intro rfl (And.intro rfl (And.intro rfl (And.intro rfl (And.intro rfl True.intro))))))) (HJ461 y1 y3 y4 y5 y6 v335_ G333_ k336_ F338_ _ _ _ (lk_weak hk331_ (c' := 221) (Nat.le_of_ble_eq_true rfl) (Nat.le_refl _)) h)
                  · have h := h.2 c339_
                    refine z_aload_n O dL_errors_306 rfl rfl ?_
                    refine z_iconst (v := 0) O dL_errors_307 (by decide) ?_
                    refine z_iconst (v := 3) O dL_errors_308 (by decide) ?_
                    refine z_iconst (v := 1) O dL_errors_309 (by decide) ?_
                    have hk341_ := lk_step 1 231 hk331_ (Nat.le_of_ble_eq_true rfl)
                    refine z_callHl (As := [.ref b0, .int 0, .int 3, .int 1]) (st := []) O (s_LAW_join hfl k336_ h) wh_L_join wl_RL_139 dL_errors_310 rfl rfl ⟨Nat.le_of_ble_eq_true rfl, Nat.le_of_ble_eq_true rfl⟩ (Nat.le_of_ble_eq_true rfl) ⟨lk_k hk341_, lk_n hk341_⟩ (fun r340_ z342_ G343_ hq344_ => ?_)
                    obtain ⟨v345_, k346_, f347_, h⟩ := hq344_
                    have F348_ : Fr b0 475 G G343_ := Fr.trans F338_ f347_
                    refine z_ldc2 (v := (-9000000000000000002)) O wc_RL_17 dL_errors_313 ?_
                    refine z_lcmp O dL_errors_316 ?_
                    refine z_if_ne (tgt := 461) O dL_errors_317 (by decide) (fun c349_ => ?_) (fun c349_ => ?_)
                    · have h := h.1 c349_
                      exact z_subL (L' := [some (.ref b0), some (.long y1), none, some (.int y3), some (.int y4), some (.int y5), some (.int y6), none]) (zLe.sub (And.intro rfl (And.intro rfl (And.intro rfl (And.intro rfl (And.intro rfl (And.intro rfl True.intro))))))) (HJ461 y1 y3 y4 y5 y6 v345_ G343_ k346_ F348_ _ _ _ (lk_weak hk341_ (c' := 221) (Nat.le_of_ble_eq_true rfl) (Nat.le_refl _)) h)
                    · have h := h.2 c349_
                      refine z_aload_n O dL_errors_320 rfl rfl ?_
                      refine z_bipush (v := 8) O dL_errors_321 (by decide) ?_
                      refine z_iconst (v := 0) O dL_errors_323 (by decide) ?_
                      have hk351_ := lk_step 1 230 hk341_ (Nat.le_of_ble_eq_true rfl)
                      refine z_callHl (As := [.ref b0, .int 8, .int 0]) (st := []) O (s_LAW_read hfl k346_ h) wh_L_read wl_RL_142 dL_errors_324 rfl rfl ⟨Nat.le_of_ble_eq_true rfl, Nat.le_of_ble_eq_true rfl⟩ (Nat.le_of_ble_eq_true rfl) ⟨lk_k hk351_, lk_n hk351_⟩ (fun r350_ z352_ G353_ hq354_ => ?_)
                      obtain ⟨v355_, k356_, f357_, h⟩ := hq354_
                      have F358_ : Fr b0 475 G G353_ := Fr.trans F348_ f357_
                      refine z_ldc2 (v := (-9000000000000000001)) O wc_RL_36 dL_errors_327 ?_
                      refine z_lcmp O dL_errors_330 ?_
                      refine z_if_ne (tgt := 461) O dL_errors_331 (by decide) (fun c359_ => ?_) (fun c359_ => ?_)
                      · have h := h.1 c359_
                        exact z_subL (L' := [some (.ref b0), some (.long y1), none, some (.int y3), some (.int y4), some (.int y5), some (.int y6), none]) (zLe.sub (And.intro rfl (And.intro rfl (And.intro rfl (And.intro rfl (And.intro rfl (And.intro rfl True.intro))))))) (HJ461 y1 y3 y4 y5 y6 v355_ G353_ k356_ F358_ _ _ _ (lk_weak hk351_ (c' := 221) (Nat.le_of_ble_eq_true rfl) (Nat.le_refl _)) h)
                      · have h := h.2 c359_
                        refine z_aload_n O dL_errors_334 rfl rfl ?_
                        refine z_iconst (v := (-1)) O dL_errors_335 (by decide) ?_
                        have hk361_ := lk_step 1 229 hk351_ (Nat.le_of_ble_eq_true rfl)
                        refine z_callHl (As := [.ref b0, .int (-1)]) (st := []) O (s_LAW_leave hfl k356_ h) wh_L_leave wl_RL_144 dL_errors_336 rfl rfl ⟨Nat.le_of_ble_eq_true rfl, Nat.le_of_ble_eq_true rfl⟩ (Nat.le_of_ble_eq_true rfl) ⟨lk_k hk361_, lk_n hk361_⟩ (fun r360_ z362_ G363_ hq364_ => ?_)
                        obtain ⟨v365_, k366_, f367_, h⟩ := hq364_
                        have F368_ : Fr b0 475 G G363_ := Fr.trans F358_ f367_
                        refine z_ldc2 (v := (-9000000000000000001)) O wc_RL_36 dL_errors_339 ?_
                        refine z_lcmp O dL_errors_342 ?_
                        refine z_if_ne (tgt := 461) O dL_errors_343 (by decide) (fun c369_ => ?_) (fun c369_ => ?_)
                        · have h := h.1 c369_
                          exact z_subL (L' := [some (.ref b0), some (.long y1), none, some (.int y3), some (.int y4), some (.int y5), some (.int y6), none]) (zLe.sub (And.intro rfl (And.intro rfl (And.intro rfl (And.intro rfl (And.intro rfl (And.intro rfl True.intro))))))) (HJ461 y1 y3 y4 y5 y6 v365_ G363_ k366_ F368_ _ _ _ (lk_weak hk361_ (c' := 221) (Nat.le_of_ble_eq_true rfl) (Nat.le_refl _)) h)
                        · have h := h.2 c369_
                          refine z_aload_n O dL_errors_346 rfl rfl ?_
                          refine z_bipush (v := 8) O dL_errors_347 (by decide) ?_
                          refine z_iconst (v := 1) O dL_errors_349 (by decide) ?_
                          have hk371_ := lk_step 1 228 hk361_ (Nat.le_of_ble_eq_true rfl)
                          refine z_callHl (As := [.ref b0, .int 8, .int 1]) (st := []) O (s_LAW_hold hfl k366_ h) wh_L_hold wl_RL_146 dL_errors_350 rfl rfl ⟨Nat.le_of_ble_eq_true rfl, Nat.le_of_ble_eq_true rfl⟩ (Nat.le_of_ble_eq_true rfl) ⟨lk_k hk371_, lk_n hk371_⟩ (fun r370_ z372_ G373_ hq374_ => ?_)
                          obtain ⟨v375_, k376_, f377_, h⟩ := hq374_
                          have F378_ : Fr b0 475 G G373_ := Fr.trans F368_ f377_
                          refine z_ldc2 (v := (-9000000000000000001)) O wc_RL_36 dL_errors_353 ?_
                          refine z_lcmp O dL_errors_356 ?_
                          refine z_if_ne (tgt := 461) O dL_errors_357 (by decide) (fun c379_ => ?_) (fun c379_ => ?_)
                          · have h := h.1 c379_
                            exact z_subL (L' := [some (.ref b0), some (.long y1), none, some (.int y3), some (.int y4), some (.int y5), some (.int y6), none]) (zLe.sub (And.intro rfl (And.intro rfl (And.intro rfl (And.intro rfl (And.intro rfl (And.intro rfl True.intro))))))) (HJ461 y1 y3 y4 y5 y6 v375_ G373_ k376_ F378_ _ _ _ (lk_weak hk371_ (c' := 221) (Nat.le_of_ble_eq_true rfl) (Nat.le_refl _)) h)
                          · have h := h.2 c379_
                            refine z_aload_n O dL_errors_360 rfl rfl ?_
                            refine z_iconst (v := 0) O dL_errors_361 (by decide) ?_
                            refine z_iconst (v := 0) O dL_errors_362 (by decide) ?_
                            have hk381_ := lk_step 1 227 hk371_ (Nat.le_of_ble_eq_true rfl)
                            refine z_callHl (As := [.ref b0, .int 0, .int 0]) (st := []) O (s_LAW_set hfl k376_ h) wh_L_set wl_RL_149 dL_errors_363 rfl rfl ⟨Nat.le_of_ble_eq_true rfl, Nat.le_of_ble_eq_true rfl⟩ (Nat.le_of_ble_eq_true rfl) ⟨lk_k hk381_, lk_n hk381_⟩ (fun r380_ z382_ G383_ hq384_ => ?_)
                            obtain ⟨v385_, k386_, f387_, h⟩ := hq384_
                            have F388_ : Fr b0 475 G G383_ := Fr.trans F378_ f387_
                            refine z_ldc2 (v := (-9000000000000000002)) O wc_RL_17 dL_errors_366 ?_
                            refine z_lcmp O dL_errors_369 ?_
                            refine z_if_ne (tgt := 461) O dL_errors_370 (by decide) (fun c389_ => ?_) (fun c389_ => ?_)
                            · have h := h.1 c389_
                              exact z_subL (L' := [some (.ref b0), some (.long y1), none, some (.int y3), some (.int y4), some (.int y5), some (.int y6), none]) (zLe.sub (And.intro rfl (And.intro rfl (And.intro rfl (And.intro rfl (And.intro rfl (And.intro rfl True.intro))))))) (HJ461 y1 y3 y4 y5 y6 v385_ G383_ k386_ F388_ _ _ _ (lk_weak hk381_ (c' := 221) (Nat.le_of_ble_eq_true rfl) (Nat.le_refl _)) h)
                            · have h := h.2 c389_
                              refine z_aload_n O dL_errors_373 rfl rfl ?_
                              refine z_iconst (v := 1) O dL_errors_374 (by decide) ?_
                              refine z_bipush (v := 39) O dL_errors_375 (by decide) ?_
                              have hk391_ := lk_step 1 226 hk381_ (Nat.le_of_ble_eq_true rfl)
                              refine z_callHl (As := [.ref b0, .int 1, .int 39]) (st := []) O (s_LAW_set hfl k386_ h) wh_L_set wl_RL_149 dL_errors_377 rfl rfl ⟨Nat.le_of_ble_eq_true rfl, Nat.le_of_ble_eq_true rfl⟩ (Nat.le_of_ble_eq_true rfl) ⟨lk_k hk391_, lk_n hk391_⟩ (fun r390_ z392_ G393_ hq394_ => ?_)
                              obtain ⟨v395_, k396_, f397_, h⟩ := hq394_
                              have F398_ : Fr b0 475 G G393_ := Fr.trans F388_ f397_
                              refine z_ldc2 (v := (-9000000000000000002)) O wc_RL_17 dL_errors_380 ?_
                              refine z_lcmp O dL_errors_383 ?_
                              refine z_if_ne (tgt := 461) O dL_errors_384 (by decide) (fun c399_ => ?_) (fun c399_ => ?_)
                              · have h := h.1 c399_
                                exact z_subL (L' := [some (.ref b0), some (.long y1), none, some (.int y3), some (.int y4), some (.int y5), some (.int y6), none]) (zLe.sub (And.intro rfl (And.intro rfl (And.intro rfl (And.intro rfl (And.intro rfl (And.intro rfl True.intro))))))) (HJ461 y1 y3 y4 y5 y6 v395_ G393_ k396_ F398_ _ _ _ (lk_weak hk391_ (c' := 221) (Nat.le_of_ble_eq_true rfl) (Nat.le_refl _)) h)
                              · have h := h.2 c399_
                                refine z_aload_n O dL_errors_387 rfl rfl ?_
                                refine z_iconst (v := 2) O dL_errors_388 (by decide) ?_
                                refine z_bipush (v := 100) O dL_errors_389 (by decide) ?_
                                have hk401_ := lk_step 1 225 hk391_ (Nat.le_of_ble_eq_true rfl)
                                refine z_callHl (As := [.ref b0, .int 2, .int 100]) (st := []) O (s_LAW_set hfl k396_ h) wh_L_set wl_RL_149 dL_errors_391 rfl rfl ⟨Nat.le_of_ble_eq_true rfl, Nat.le_of_ble_eq_true rfl⟩ (Nat.le_of_ble_eq_true rfl) ⟨lk_k hk401_, lk_n hk401_⟩ (fun r400_ z402_ G403_ hq404_ => ?_)
                                obtain ⟨v405_, k406_, f407_, h⟩ := hq404_
                                have F408_ : Fr b0 475 G G403_ := Fr.trans F398_ f407_
                                refine z_ldc2 (v := (-9000000000000000002)) O wc_RL_17 dL_errors_394 ?_
                                refine z_lcmp O dL_errors_397 ?_
                                refine z_if_ne (tgt := 461) O dL_errors_398 (by decide) (fun c409_ => ?_) (fun c409_ => ?_)
                                · have h := h.1 c409_
                                  exact z_subL (L' := [some (.ref b0), some (.long y1), none, some (.int y3), some (.int y4), some (.int y5), some (.int y6), none]) (zLe.sub (And.intro rfl (And.intro rfl (And.intro rfl (And.intro rfl (And.intro rfl (And.intro rfl True.intro))))))) (HJ461 y1 y3 y4 y5 y6 v405_ G403_ k406_ F408_ _ _ _ (lk_weak hk401_ (c' := 221) (Nat.le_of_ble_eq_true rfl) (Nat.le_refl _)) h)
                                · have h := h.2 c409_
                                  refine z_aload_n O dL_errors_401 rfl rfl ?_
                                  refine z_iconst (v := 3) O dL_errors_402 (by decide) ?_
                                  refine z_sipush (v := 4001) O dL_errors_403 (by decide) ?_
                                  have hk411_ := lk_step 1 224 hk401_ (Nat.le_of_ble_eq_true rfl)
                                  refine z_callHl (As := [.ref b0, .int 3, .int 4001]) (st := []) O (s_LAW_set hfl k406_ h) wh_L_set wl_RL_149 dL_errors_406 rfl rfl ⟨Nat.le_of_ble_eq_true rfl, Nat.le_of_ble_eq_true rfl⟩ (Nat.le_of_ble_eq_true rfl) ⟨lk_k hk411_, lk_n hk411_⟩ (fun r410_ z412_ G413_ hq414_ => ?_)
                                  obtain ⟨v415_, k416_, f417_, h⟩ := hq414_
                                  have F418_ : Fr b0 475 G G413_ := Fr.trans F408_ f417_
                                  refine z_ldc2 (v := (-9000000000000000002)) O wc_RL_17 dL_errors_409 ?_
                                  refine z_lcmp O dL_errors_412 ?_
                                  refine z_if_ne (tgt := 461) O dL_errors_413 (by decide) (fun c419_ => ?_) (fun c419_ => ?_)
                                  · have h := h.1 c419_
                                    exact z_subL (L' := [some (.ref b0), some (.long y1), none, some (.int y3), some (.int y4), some (.int y5), some (.int y6), none]) (zLe.sub (And.intro rfl (And.intro rfl (And.intro rfl (And.intro rfl (And.intro rfl (And.intro rfl True.intro))))))) (HJ461 y1 y3 y4 y5 y6 v415_ G413_ k416_ F418_ _ _ _ (lk_weak hk411_ (c' := 221) (Nat.le_of_ble_eq_true rfl) (Nat.le_refl _)) h)
                                  · have h := h.2 c419_
                                    refine z_aload_n O dL_errors_416 rfl rfl ?_
                                    refine z_iconst (v := 4) O dL_errors_417 (by decide) ?_
                                    refine z_iconst (v := (-1)) O dL_errors_418 (by decide) ?_
                                    have hk421_ := lk_step 1 223 hk411_ (Nat.le_of_ble_eq_true rfl)
                                    refine z_callHl (As := [.ref b0, .int 4, .int (-1)]) (st := []) O (s_LAW_set hfl k416_ h) wh_L_set wl_RL_149 dL_errors_419 rfl rfl ⟨Nat.le_of_ble_eq_true rfl, Nat.le_of_ble_eq_true rfl⟩ (Nat.le_of_ble_eq_true rfl) ⟨lk_k hk421_, lk_n hk421_⟩ (fun r420_ z422_ G423_ hq424_ => ?_)
                                    obtain ⟨v425_, k426_, f427_, h⟩ := hq424_
                                    have F428_ : Fr b0 475 G G423_ := Fr.trans F418_ f427_
                                    refine z_ldc2 (v := (-9000000000000000002)) O wc_RL_17 dL_errors_422 ?_
                                    refine z_lcmp O dL_errors_425 ?_
                                    refine z_if_ne (tgt := 461) O dL_errors_426 (by decide) (fun c429_ => ?_) (fun c429_ => ?_)
                                    · have h := h.1 c429_
                                      exact z_subL (L' := [some (.ref b0), some (.long y1), none, some (.int y3), some (.int y4), some (.int y5), some (.int y6), none]) (zLe.sub (And.intro rfl (And.intro rfl (And.intro rfl (And.intro rfl (And.intro rfl (And.intro rfl True.intro))))))) (HJ461 y1 y3 y4 y5 y6 v425_ G423_ k426_ F428_ _ _ _ (lk_weak hk421_ (c' := 221) (Nat.le_of_ble_eq_true rfl) (Nat.le_refl _)) h)
                                    · have h := h.2 c429_
                                      refine z_aload_n O dL_errors_429 rfl rfl ?_
                                      refine z_iconst (v := 5) O dL_errors_430 (by decide) ?_
                                      refine z_bipush (v := 100) O dL_errors_431 (by decide) ?_
                                      have hk431_ := lk_step 1 222 hk421_ (Nat.le_of_ble_eq_true rfl)
                                      refine z_callHl (As := [.ref b0, .int 5, .int 100]) (st := []) O (s_LAW_set hfl k426_ h) wh_L_set wl_RL_149 dL_errors_433 rfl rfl ⟨Nat.le_of_ble_eq_true rfl, Nat.le_of_ble_eq_true rfl⟩ (Nat.le_of_ble_eq_true rfl) ⟨lk_k hk431_, lk_n hk431_⟩ (fun r430_ z432_ G433_ hq434_ => ?_)
                                      obtain ⟨v435_, k436_, f437_, h⟩ := hq434_
                                      have F438_ : Fr b0 475 G G433_ := Fr.trans F428_ f437_
                                      refine z_ldc2 (v := (-9000000000000000002)) O wc_RL_17 dL_errors_436 ?_
                                      refine z_lcmp O dL_errors_439 ?_
                                      refine z_if_ne (tgt := 461) O dL_errors_440 (by decide) (fun c439_ => ?_) (fun c439_ => ?_)
                                      · have h := h.1 c439_
                                        exact z_subL (L' := [some (.ref b0), some (.long y1), none, some (.int y3), some (.int y4), some (.int y5), some (.int y6), none]) (zLe.sub (And.intro rfl (And.intro rfl (And.intro rfl (And.intro rfl (And.intro rfl (And.intro rfl True.intro))))))) (HJ461 y1 y3 y4 y5 y6 v435_ G433_ k436_ F438_ _ _ _ (lk_weak hk431_ (c' := 221) (Nat.le_of_ble_eq_true rfl) (Nat.le_refl _)) h)
                                      · have h := h.2 c439_
                                        refine z_aload_n O dL_errors_443 rfl rfl ?_
                                        refine z_bipush (v := 6) O dL_errors_444 (by decide) ?_
                                        refine z_iconst (v := 0) O dL_errors_446 (by decide) ?_
                                        have hk441_ := lk_step 1 221 hk431_ (Nat.le_of_ble_eq_true rfl)
                                        refine z_callHl (As := [.ref b0, .int 6, .int 0]) (st := []) O (s_LAW_set hfl k436_ h) wh_L_set wl_RL_149 dL_errors_447 rfl rfl ⟨Nat.le_of_ble_eq_true rfl, Nat.le_of_ble_eq_true rfl⟩ (Nat.le_of_ble_eq_true rfl) ⟨lk_k hk441_, lk_n hk441_⟩ (fun r440_ z442_ G443_ hq444_ => ?_)
                                        obtain ⟨v445_, k446_, f447_, h⟩ := hq444_
                                        have F448_ : Fr b0 475 G G443_ := Fr.trans F438_ f447_
                                        refine z_ldc2 (v := (-9000000000000000002)) O wc_RL_17 dL_errors_450 ?_
                                        refine z_lcmp O dL_errors_453 ?_
                                        refine z_if_ne (tgt := 461) O dL_errors_454 (by decide) (fun c449_ => ?_) (fun c449_ => ?_)
                                        · have h := h.1 c449_
                                          exact z_subL (L' := [some (.ref b0), some (.long y1), none, some (.int y3), some (.int y4), some (.int y5), some (.int y6), none]) (zLe.sub (And.intro rfl (And.intro rfl (And.intro rfl (And.intro rfl (And.intro rfl (And.intro rfl True.intro))))))) (HJ461 y1 y3 y4 y5 y6 v445_ G443_ k446_ F448_ _ _ _ (lk_weak hk441_ (c' := 221) (Nat.le_of_ble_eq_true rfl) (Nat.le_refl _)) h)
                                        · have h := h.2 c449_
                                          refine z_iconst (v := 1) O dL_errors_457 (by decide) ?_
                                          refine z_goto (tgt := 462) O dL_errors_458 (by decide) ?_
                                          exact z_subL (L' := [some (.ref b0), some (.long y1), none, some (.int y3), some (.int y4), some (.int y5), some (.int y6), none]) (zLe.sub (And.intro rfl (And.intro rfl (And.intro rfl (And.intro rfl (And.intro rfl (And.intro rfl True.intro))))))) (HJ462 y1 y3 y4 y5 y6 1 v445_ G443_ k446_ F448_ _ _ _ (lk_weak hk441_ (c' := 221) (Nat.le_of_ble_eq_true rfl) (Nat.le_refl _)) h)
  have HJ69 : ∀     (y1 : Int64) (y3 : Int32) (y4 : Int32) (y5 : Int32) (u0 : Int32) (v0 : TT) (G9 : zG) (g0 : TA b0 v0 G9) (gF : Fr b0 475 G G9) (z9 k9 m9 : Nat) (hk : k9 + (249 + 0) ≤ 462 ∧ m9 + 6 * (249 + 0) ≤ 2772) (h : PJ_LAW_errors_69 y1 y3 y4 y5 u0 v0 Q), zT p l e (zrm 9 241 462 2772) s m args below meth c (zEnd below D B (zRi fun r z' G' => ∃ w, TA b0 w G' ∧ Fr b0 475 G G' ∧ Q r w) args s 462 2772) D B 8 k9 m9 69 [.int u0] [some (.ref b0), some (.long y1), none, some (.int y3), some (.int y4), some (.int y5), none, none] z9 G9 := by
    intro  y1 y3 y4 y5 u0 v0 G9 g0 gF z9 k9 m9 hk h
    unfold PJ_LAW_errors_69 at h
    refine z_istore (L' := [some (.ref b0), some (.long y1), none, some (.int y3), some (.int y4), some (.int y5), some (.int u0), none]) O dL_errors_69 (by decide) rfl ?_
    refine z_aload_n O dL_errors_71 rfl rfl ?_
    refine z_iconst (v := (-1)) O dL_errors_72 (by decide) ?_
    have hk24_ := lk_step 1 248 hk (Nat.le_of_ble_eq_true rfl)
    refine z_callHl (As := [.ref b0, .int (-1)]) (st := []) O (s_LAW_about hfl g0 h) wh_L_about wl_RL_110 dL_errors_73 rfl rfl ⟨Nat.le_of_ble_eq_true rfl, Nat.le_of_ble_eq_true rfl⟩ (Nat.le_of_ble_eq_true rfl) ⟨lk_k hk24_, lk_n hk24_⟩ (fun r23_ z25_ G26_ hq27_ => ?_)
    obtain ⟨rfl, h⟩ := hq27_
    refine z_ldc2 (v := (-9000000000000000002)) O wc_RL_17 dL_errors_76 ?_
    refine z_lcmp O dL_errors_79 ?_
    refine z_if_ne (tgt := 461) O dL_errors_80 (by decide) (fun c28_ => ?_) (fun c28_ => ?_)
    · have h := h.1 c28_
      exact z_subL (L' := [some (.ref b0), some (.long y1), none, some (.int y3), some (.int y4), some (.int y5), some (.int u0), none]) (zLe.sub (And.intro rfl (And.intro rfl (And.intro rfl (And.intro rfl (And.intro rfl (And.intro rfl True.intro))))))) (HJ461 y1 y3 y4 y5 u0 v0 G9 g0 gF _ _ _ (lk_weak hk24_ (c' := 221) (Nat.le_of_ble_eq_true rfl) (Nat.le_refl _)) h)
    · have h := h.2 c28_
      refine z_aload_n O dL_errors_83 rfl rfl ?_
      refine z_bipush (v := 12) O dL_errors_84 (by decide) ?_
      have hk241_ := lk_step 1 247 hk24_ (Nat.le_of_ble_eq_true rfl)
      refine z_callHl (As := [.ref b0, .int 12]) (st := []) O (s_LAW_about hfl g0 h) wh_L_about wl_RL_110 dL_errors_86 rfl rfl ⟨Nat.le_of_ble_eq_true rfl, Nat.le_of_ble_eq_true rfl⟩ (Nat.le_of_ble_eq_true rfl) ⟨lk_k hk241_, lk_n hk241_⟩ (fun r240_ z242_ G243_ hq244_ => ?_)
      obtain ⟨rfl, h⟩ := hq244_
      refine z_ldc2 (v := (-9000000000000000002)) O wc_RL_17 dL_errors_89 ?_
      refine z_lcmp O dL_errors_92 ?_
      refine z_if_ne (tgt := 461) O dL_errors_93 (by decide) (fun c245_ => ?_) (fun c245_ => ?_)
      · have h := h.1 c245_
        exact z_subL (L' := [some (.ref b0), some (.long y1), none, some (.int y3), some (.int y4), some (.int y5), some (.int u0), none]) (zLe.sub (And.intro rfl (And.intro rfl (And.intro rfl (And.intro rfl (And.intro rfl (And.intro rfl True.intro))))))) (HJ461 y1 y3 y4 y5 u0 v0 G9 g0 gF _ _ _ (lk_weak hk241_ (c' := 221) (Nat.le_of_ble_eq_true rfl) (Nat.le_refl _)) h)
      · have h := h.2 c245_
        refine z_aload_n O dL_errors_96 rfl rfl ?_
        refine z_iload_n O dL_errors_97 rfl rfl ?_
        refine z_iconst (v := 1) O dL_errors_98 (by decide) ?_
        refine z_isub O dL_errors_99 ?_
        refine z_bipush (v := 6) O dL_errors_100 (by decide) ?_
        have hk247_ := lk_step 1 246 hk241_ (Nat.le_of_ble_eq_true rfl)
        refine z_callHl (As := [.ref b0, .int (y3 - 1), .int 6]) (st := []) O (s_LAW_rowOf hfl g0 h) wh_L_rowOf wl_RL_132 dL_errors_102 rfl rfl ⟨Nat.le_of_ble_eq_true rfl, Nat.le_of_ble_eq_true rfl⟩ (Nat.le_of_ble_eq_true rfl) ⟨lk_k hk247_, lk_n hk247_⟩ (fun r246_ z248_ G249_ hq250_ => ?_)
        obtain ⟨rfl, h⟩ := hq250_
        refine z_ldc2 (v := (-9000000000000000001)) O wc_RL_36 dL_errors_105 ?_
        refine z_lcmp O dL_errors_108 ?_
        refine z_if_ne (tgt := 461) O dL_errors_109 (by decide) (fun c251_ => ?_) (fun c251_ => ?_)
        · have h := h.1 c251_
          exact z_subL (L' := [some (.ref b0), some (.long y1), none, some (.int y3), some (.int y4), some (.int y5), some (.int u0), none]) (zLe.sub (And.intro rfl (And.intro rfl (And.intro rfl (And.intro rfl (And.intro rfl (And.intro rfl True.intro))))))) (HJ461 y1 y3 y4 y5 u0 v0 G9 g0 gF _ _ _ (lk_weak hk247_ (c' := 221) (Nat.le_of_ble_eq_true rfl) (Nat.le_refl _)) h)
        · have h := h.2 c251_
          refine z_aload_n O dL_errors_112 rfl rfl ?_
          refine z_iload O dL_errors_113 rfl ?_
          refine z_iconst (v := 0) O dL_errors_115 (by decide) ?_
          have hk253_ := lk_step 1 245 hk247_ (Nat.le_of_ble_eq_true rfl)
          refine z_callHl (As := [.ref b0, .int y4, .int 0]) (st := []) O (s_LAW_rowOf hfl g0 h) wh_L_rowOf wl_RL_132 dL_errors_116 rfl rfl ⟨Nat.le_of_ble_eq_true rfl, Nat.le_of_ble_eq_true rfl⟩ (Nat.le_of_ble_eq_true rfl) ⟨lk_k hk253_, lk_n hk253_⟩ (fun r252_ z254_ G255_ hq256_ => ?_)
          obtain ⟨rfl, h⟩ := hq256_
          refine z_ldc2 (v := (-9000000000000000001)) O wc_RL_36 dL_errors_119 ?_
          refine z_lcmp O dL_errors_122 ?_
          refine z_if_ne (tgt := 461) O dL_errors_123 (by decide) (fun c257_ => ?_) (fun c257_ => ?_)
          · have h := h.1 c257_
            exact z_subL (L' := [some (.ref b0), some (.long y1), none, some (.int y3), some (.int y4), some (.int y5), some (.int u0), none]) (zLe.sub (And.intro rfl (And.intro rfl (And.intro rfl (And.intro rfl (And.intro rfl (And.intro rfl True.intro))))))) (HJ461 y1 y3 y4 y5 u0 v0 G9 g0 gF _ _ _ (lk_weak hk253_ (c' := 221) (Nat.le_of_ble_eq_true rfl) (Nat.le_refl _)) h)
          · have h := h.2 c257_
            refine z_aload_n O dL_errors_126 rfl rfl ?_
            refine z_aload_n O dL_errors_127 rfl rfl ?_
            refine z_iconst (v := 2) O dL_errors_128 (by decide) ?_
            have hk259_ := lk_step 1 244 hk253_ (Nat.le_of_ble_eq_true rfl)
            refine z_callHl (As := [.ref b0, .int 2]) (st := [.ref b0]) O (s_LAW_about hfl g0 h) wh_L_about wl_RL_110 dL_errors_129 rfl rfl ⟨Nat.le_of_ble_eq_true rfl, Nat.le_of_ble_eq_true rfl⟩ (Nat.le_of_ble_eq_true rfl) ⟨lk_k hk259_, lk_n hk259_⟩ (fun r258_ z260_ G261_ hq262_ => ?_)
            obtain ⟨rfl, h⟩ := hq262_
            refine z_l2i O dL_errors_132 ?_
            refine z_bipush (v := 6) O dL_errors_133 (by decide) ?_
            have hk264_ := lk_step 1 243 hk259_ (Nat.le_of_ble_eq_true rfl)
            refine z_callHl (As := [.ref b0, .int (Int64.toInt32 r258_), .int 6]) (st := []) O (s_LAW_segmentOf hfl g0 h) wh_L_segmentOf wl_RL_134 dL_errors_135 rfl rfl ⟨Nat.le_of_ble_eq_true rfl, Nat.le_of_ble_eq_true rfl⟩ (Nat.le_of_ble_eq_true rfl) ⟨lk_k hk264_, lk_n hk264_⟩ (fun r263_ z265_ G266_ hq267_ => ?_)
            obtain ⟨rfl, h⟩ := hq267_
            refine z_ldc2 (v := (-9000000000000000001)) O wc_RL_36 dL_errors_138 ?_
            refine z_lcmp O dL_errors_141 ?_
            refine z_if_ne (tgt := 461) O dL_errors_142 (by decide) (fun c268_ => ?_) (fun c268_ => ?_)
            · have h := h.1 c268_
              exact z_subL (L' := [some (.ref b0), some (.long y1), none, some (.int y3), some (.int y4), some (.int y5), some (.int u0), none]) (zLe.sub (And.intro rfl (And.intro rfl (And.intro rfl (And.intro rfl (And.intro rfl (And.intro rfl True.intro))))))) (HJ461 y1 y3 y4 y5 u0 v0 G9 g0 gF _ _ _ (lk_weak hk264_ (c' := 221) (Nat.le_of_ble_eq_true rfl) (Nat.le_refl _)) h)
            · have h := h.2 c268_
              refine z_aload_n O dL_errors_145 rfl rfl ?_
              refine z_iconst (v := (-1)) O dL_errors_146 (by decide) ?_
              refine z_iconst (v := 0) O dL_errors_147 (by decide) ?_
              have hk270_ := lk_step 1 242 hk264_ (Nat.le_of_ble_eq_true rfl)
              refine z_callHl (As := [.ref b0, .int (-1), .int 0]) (st := []) O (s_LAW_segmentOf hfl g0 h) wh_L_segmentOf wl_RL_134 dL_errors_148 rfl rfl ⟨Nat.le_of_ble_eq_true rfl, Nat.le_of_ble_eq_true rfl⟩ (Nat.le_of_ble_eq_true rfl) ⟨lk_k hk270_, lk_n hk270_⟩ (fun r269_ z271_ G272_ hq273_ => ?_)
              obtain ⟨rfl, h⟩ := hq273_
              refine z_ldc2 (v := (-9000000000000000001)) O wc_RL_36 dL_errors_151 ?_
              refine z_lcmp O dL_errors_154 ?_
              refine z_if_ne (tgt := 461) O dL_errors_155 (by decide) (fun c274_ => ?_) (fun c274_ => ?_)
              · have h := h.1 c274_
                exact z_subL (L' := [some (.ref b0), some (.long y1), none, some (.int y3), some (.int y4), some (.int y5), some (.int u0), none]) (zLe.sub (And.intro rfl (And.intro rfl (And.intro rfl (And.intro rfl (And.intro rfl (And.intro rfl True.intro))))))) (HJ461 y1 y3 y4 y5 u0 v0 G9 g0 gF _ _ _ (lk_weak hk270_ (c' := 221) (Nat.le_of_ble_eq_true rfl) (Nat.le_refl _)) h)
              · have h := h.2 c274_
                refine z_iload O dL_errors_158 rfl ?_
                refine z_iload_n O dL_errors_160 rfl rfl ?_
                refine z_icmp_eq (tgt := 192) O dL_errors_161 (by decide) (fun c275_ => ?_) (fun c275_ => ?_)
                · have h := h.1 c275_
                  exact z_subL (L' := [some (.ref b0), some (.long y1), none, some (.int y3), some (.int y4), some (.int y5), some (.int u0), none]) (zLe.sub (And.intro rfl (And.intro rfl (And.intro rfl (And.intro rfl (And.intro rfl (And.intro rfl True.intro))))))) (HJ192 y1 y3 y4 y5 u0 v0 G9 g0 gF _ _ _ (lk_weak hk270_ (c' := 240) (Nat.le_of_ble_eq_true rfl) (Nat.le_refl _)) h)
                · have h := h.2 c275_
                  refine z_aload_n O dL_errors_164 rfl rfl ?_
                  refine z_iload_n O dL_errors_165 rfl rfl ?_
                  refine z_bipush (v := 6) O dL_errors_166 (by decide) ?_
                  have hk451_ := lk_step 1 241 hk270_ (Nat.le_of_ble_eq_true rfl)
                  refine z_callHl (As := [.ref b0, .int y3, .int 6]) (st := []) O (s_LAW_rowOf hfl g0 h) wh_L_rowOf wl_RL_132 dL_errors_168 rfl rfl ⟨Nat.le_of_ble_eq_true rfl, Nat.le_of_ble_eq_true rfl⟩ (Nat.le_of_ble_eq_true rfl) ⟨lk_k hk451_, lk_n hk451_⟩ (fun r450_ z452_ G453_ hq454_ => ?_)
                  obtain ⟨rfl, h⟩ := hq454_
                  refine z_ldc2 (v := (-9000000000000000002)) O wc_RL_17 dL_errors_171 ?_
                  refine z_lcmp O dL_errors_174 ?_
                  refine z_if_ne (tgt := 461) O dL_errors_175 (by decide) (fun c455_ => ?_) (fun c455_ => ?_)
                  · have h := h.1 c455_
                    exact z_subL (L' := [some (.ref b0), some (.long y1), none, some (.int y3), some (.int y4), some (.int y5), some (.int u0), none]) (zLe.sub (And.intro rfl (And.intro rfl (And.intro rfl (And.intro rfl (And.intro rfl (And.intro rfl True.intro))))))) (HJ461 y1 y3 y4 y5 u0 v0 G9 g0 gF _ _ _ (lk_weak hk451_ (c' := 221) (Nat.le_of_ble_eq_true rfl) (Nat.le_refl _)) h)
                  · have h := h.2 c455_
                    refine z_aload_n O dL_errors_178 rfl rfl ?_
                    refine z_iconst (v := 0) O dL_errors_179 (by decide) ?_
                    refine z_bipush (v := 6) O dL_errors_180 (by decide) ?_
                    have hk457_ := lk_step 1 240 hk451_ (Nat.le_of_ble_eq_true rfl)
                    refine z_callHl (As := [.ref b0, .int 0, .int 6]) (st := []) O (s_LAW_segmentOf hfl g0 h) wh_L_segmentOf wl_RL_134 dL_errors_182 rfl rfl ⟨Nat.le_of_ble_eq_true rfl, Nat.le_of_ble_eq_true rfl⟩ (Nat.le_of_ble_eq_true rfl) ⟨lk_k hk457_, lk_n hk457_⟩ (fun r456_ z458_ G459_ hq460_ => ?_)
                    obtain ⟨rfl, h⟩ := hq460_
                    refine z_ldc2 (v := (-9000000000000000002)) O wc_RL_17 dL_errors_185 ?_
                    refine z_lcmp O dL_errors_188 ?_
                    refine z_if_ne (tgt := 461) O dL_errors_189 (by decide) (fun c461_ => ?_) (fun c461_ => ?_)
                    · have h := h.1 c461_
                      exact z_subL (L' := [some (.ref b0), some (.long y1), none, some (.int y3), some (.int y4), some (.int y5), some (.int u0), none]) (zLe.sub (And.intro rfl (And.intro rfl (And.intro rfl (And.intro rfl (And.intro rfl (And.intro rfl True.intro))))))) (HJ461 y1 y3 y4 y5 u0 v0 G9 g0 gF _ _ _ (lk_weak hk457_ (c' := 221) (Nat.le_of_ble_eq_true rfl) (Nat.le_refl _)) h)
                    · have h := h.2 c461_
                      exact z_subL (L' := [some (.ref b0), some (.long y1), none, some (.int y3), some (.int y4), some (.int y5), some (.int u0), none]) (zLe.sub (And.intro rfl (And.intro rfl (And.intro rfl (And.intro rfl (And.intro rfl (And.intro rfl True.intro))))))) (HJ192 y1 y3 y4 y5 u0 v0 G9 g0 gF _ _ _ (lk_weak hk457_ (c' := 240) (Nat.le_of_ble_eq_true rfl) (Nat.le_refl _)) h)
  have HJ50 : ∀     (y1 : Int64) (y3 : Int32) (y4 : Int32) (y5 : Int32) (v0 : TT) (G9 : zG) (g0 : TA b0 v0 G9) (gF : Fr b0 475 G G9) (z9 k9 m9 : Nat) (hk : k9 + (250 + 0) ≤ 462 ∧ m9 + 6 * (250 + 0) ≤ 2772) (h : PJ_LAW_errors_50 y1 y3 y4 y5 v0 Q), zT p l e (zrm 9 241 462 2772) s m args below meth c (zEnd below D B (zRi fun r z' G' => ∃ w, TA b0 w G' ∧ Fr b0 475 G G' ∧ Q r w) args s 462 2772) D B 8 k9 m9 50 [] [some (.ref b0), some (.long y1), none, some (.int y3), some (.int y4), some (.int y5), none, none] z9 G9 := by
    intro  y1 y3 y4 y5 v0 G9 g0 gF z9 k9 m9 hk h
    unfold PJ_LAW_errors_50 at h
    refine z_aload_n O dL_errors_50 rfl rfl ?_
    refine z_iload O dL_errors_51 rfl ?_
    refine z_iconst (v := 0) O dL_errors_53 (by decide) ?_
    have hk18_ := lk_step 1 249 hk (Nat.le_of_ble_eq_true rfl)
    refine z_callHl (As := [.ref b0, .int y5, .int 0]) (st := []) O (s_LAW_readerOf hfl g0 h) wh_L_readerOf wl_RL_121 dL_errors_54 rfl rfl ⟨Nat.le_of_ble_eq_true rfl, Nat.le_of_ble_eq_true rfl⟩ (Nat.le_of_ble_eq_true rfl) ⟨lk_k hk18_, lk_n hk18_⟩ (fun r17_ z19_ G20_ hq21_ => ?_)
    obtain ⟨rfl, h⟩ := hq21_
    refine z_ldc2 (v := (-9000000000000000001)) O wc_RL_36 dL_errors_57 ?_
    refine z_lcmp O dL_errors_60 ?_
    refine z_if_ne (tgt := 68) O dL_errors_61 (by decide) (fun c22_ => ?_) (fun c22_ => ?_)
    · have h := h.1 c22_
      refine z_iconst (v := 0) O dL_errors_68 (by decide) ?_
      exact z_subL (L' := [some (.ref b0), some (.long y1), none, some (.int y3), some (.int y4), some (.int y5), none, none]) (zLe.sub (And.intro rfl (And.intro rfl (And.intro rfl (And.intro rfl (And.intro rfl True.intro)))))) (HJ69 y1 y3 y4 y5 0 v0 G9 g0 gF _ _ _ (lk_weak hk18_ (c' := 249) (Nat.le_of_ble_eq_true rfl) (Nat.le_refl _)) h)
    · have h := h.2 c22_
      refine z_iconst (v := 1) O dL_errors_64 (by decide) ?_
      refine z_goto (tgt := 69) O dL_errors_65 (by decide) ?_
      exact z_subL (L' := [some (.ref b0), some (.long y1), none, some (.int y3), some (.int y4), some (.int y5), none, none]) (zLe.sub (And.intro rfl (And.intro rfl (And.intro rfl (And.intro rfl (And.intro rfl True.intro)))))) (HJ69 y1 y3 y4 y5 1 v0 G9 g0 gF _ _ _ (lk_weak hk18_ (c' := 249) (Nat.le_of_ble_eq_true rfl) (Nat.le_refl _)) h)
  have HL23 : ∀ (n9 : Nat)     (y1 : Int64) (y3 : Int32) (y4 : Int32) (y5 : Int32) (v0 : TT) (G9 : zG) (g0 : TA b0 v0 G9) (gF : Fr b0 475 G G9) (z9 k9 m9 : Nat) (hk : k9 + (250 + (n9 * 1 + 0)) ≤ 462 ∧ m9 + 6 * (250 + (n9 * 1 + 0)) ≤ 2772) (h : PL_LAW_errors_23 n9 y1 y3 y4 y5 v0 Q), zT p l e (zrm 9 241 462 2772) s m args below meth c (zEnd below D B (zRi fun r z' G' => ∃ w, TA b0 w G' ∧ Fr b0 475 G G' ∧ Q r w) args s 462 2772) D B 8 k9 m9 23 [] [some (.ref b0), some (.long y1), none, some (.int y3), some (.int y4), some (.int y5), none, none] z9 G9 := by
    intro n9 
    induction n9 with
    | zero =>
      intro _ _ _ _ _ _ _ _ _ _ _ _ h
      exact (h : False).elim
    | succ n ih =>
      intro y1 y3 y4 y5 v0 G9 g0 gF z9 k9 m9 hk h
      rw [PL_LAW_errors_23] at h
      have hk2 := lk_succ hk
      refine z_iload O dL_errors_23 rfl ?_
      refine z_bipush (v := 7) O dL_errors_25 (by decide) ?_
      refine z_icmp_ge (tgt := 50) O dL_errors_27 (by decide) (fun c16_ => ?_) (fun c16_ => ?_)
      · have h := h.1 c16_
        exact z_subL (L' := [some (.ref b0), some (.long y1), none, some (.int y3), some (.int y4), some (.int y5), none, none]) (zLe.sub (And.intro rfl (And.intro rfl (And.intro rfl (And.intro rfl (And.intro rfl True.intro)))))) (HJ50 y1 y3 y4 y5 v0 G9 g0 gF _ _ _ (lk_weak hk2 (c' := 250) (Nat.le_of_ble_eq_true rfl) (Nat.zero_le _)) h)
      · have h := h.2 c16_
        refine z_aload_n O dL_errors_30 rfl rfl ?_
        refine z_iload O dL_errors_31 rfl ?_
        refine z_iconst (v := 0) O dL_errors_33 (by decide) ?_
        have hk463_ := lk_step 1 250 hk2 (Nat.le_of_ble_eq_true rfl)
        refine z_callHl (As := [.ref b0, .int y5, .int 0]) (st := []) O (s_LAW_readerOf hfl g0 h) wh_L_readerOf wl_RL_121 dL_errors_34 rfl rfl ⟨Nat.le_of_ble_eq_true rfl, Nat.le_of_ble_eq_true rfl⟩ (Nat.le_of_ble_eq_true rfl) ⟨lk_k hk463_, lk_n hk463_⟩ (fun r462_ z464_ G465_ hq466_ => ?_)
        obtain ⟨rfl, h⟩ := hq466_
        refine z_ldc2 (v := (-9000000000000000001)) O wc_RL_36 dL_errors_37 ?_
        refine z_lcmp O dL_errors_40 ?_
        refine z_if_eq (tgt := 50) O dL_errors_41 (by decide) (fun c467_ => ?_) (fun c467_ => ?_)
        · have h := h.1 c467_
          exact z_subL (L' := [some (.ref b0), some (.long y1), none, some (.int y3), some (.int y4), some (.int y5), none, none]) (zLe.sub (And.intro rfl (And.intro rfl (And.intro rfl (And.intro rfl (And.intro rfl True.intro)))))) (HJ50 y1 y3 y4 y5 v0 G9 g0 gF _ _ _ (lk_weak hk463_ (c' := 250) (Nat.le_of_ble_eq_true rfl) (Nat.zero_le _)) h)
        · have h := h.2 c467_
          refine z_iinc (v := (y5 + 1)) (L' := [some (.ref b0), some (.long y1), none, some (.int y3), some (.int y4), some (.int (y5 + 1)), none, none]) O dL_errors_44 rfl (by first | rfl | decide) (by decide) rfl ?_
          refine z_goto (tgt := 23) O dL_errors_47 (by decide) ?_
          exact z_subL (L' := [some (.ref b0), some (.long y1), none, some (.int y3), some (.int y4), some (.int (y5 + 1)), none, none]) (zLe.sub (And.intro rfl (And.intro rfl (And.intro rfl (And.intro rfl (And.intro rfl True.intro)))))) (ih y1 y3 y4 (y5 + 1) v0 G9 g0 gF _ _ _ (lk_weak hk463_ (c' := 250) (Nat.le_of_ble_eq_true rfl) (Nat.le_refl _)) h)
  refine z_aload_n O dL_errors_0 rfl rfl ?_
  have hk2_ := lk_step 202 260 hk0 (Nat.le_of_ble_eq_true rfl)
  refine z_callSl (As := [.ref b0]) (st := []) O (s_LAW_now hfl h0 h) wy_L_now wl_RL_128 dL_errors_1 rfl rfl ⟨Nat.le_of_ble_eq_true rfl, Nat.le_of_ble_eq_true rfl⟩ (Nat.le_of_ble_eq_true rfl) ⟨lk_k hk2_, lk_n hk2_⟩ (fun r1_ z3_ G4_ hq5_ => ?_)
  obtain ⟨rfl, h⟩ := hq5_
  refine z_lstore_n (L' := [some (.ref b0), some (.long r1_), none, none, none, none, none, none]) O dL_errors_4 rfl (by decide) rfl ?_
  refine z_aload_n O dL_errors_5 rfl rfl ?_
  refine z_iconst (v := 1) O dL_errors_6 (by decide) ?_
  have hk7_ := lk_step 1 259 hk2_ (Nat.le_of_ble_eq_true rfl)
  refine z_callHl (As := [.ref b0, .int 1]) (st := []) O (s_LAW_about hfl h0 h) wh_L_about wl_RL_110 dL_errors_7 rfl rfl ⟨Nat.le_of_ble_eq_true rfl, Nat.le_of_ble_eq_true rfl⟩ (Nat.le_of_ble_eq_true rfl) ⟨lk_k hk7_, lk_n hk7_⟩ (fun r6_ z8_ G9_ hq10_ => ?_)
  obtain ⟨rfl, h⟩ := hq10_
  refine z_l2i O dL_errors_10 ?_
  refine z_istore_n (L' := [some (.ref b0), some (.long r1_), none, some (.int (Int64.toInt32 r6_)), none, none, none, none]) O dL_errors_11 rfl (by decide) rfl ?_
  refine z_aload_n O dL_errors_12 rfl rfl ?_
  refine z_iconst (v := 0) O dL_errors_13 (by decide) ?_
  have hk12_ := lk_step 1 258 hk7_ (Nat.le_of_ble_eq_true rfl)
  refine z_callHl (As := [.ref b0, .int 0]) (st := []) O (s_LAW_about hfl h0 h) wh_L_about wl_RL_110 dL_errors_14 rfl rfl ⟨Nat.le_of_ble_eq_true rfl, Nat.le_of_ble_eq_true rfl⟩ (Nat.le_of_ble_eq_true rfl) ⟨lk_k hk12_, lk_n hk12_⟩ (fun r11_ z13_ G14_ hq15_ => ?_)
  obtain ⟨rfl, h⟩ := hq15_
  refine z_l2i O dL_errors_17 ?_
  refine z_istore (L' := [some (.ref b0), some (.long r1_), none, some (.int (Int64.toInt32 r6_)), some (.int (Int64.toInt32 r11_)), none, none, none]) O dL_errors_18 (by decide) rfl ?_
  refine z_iconst (v := 0) O dL_errors_20 (by decide) ?_
  refine z_istore (L' := [some (.ref b0), some (.long r1_), none, some (.int (Int64.toInt32 r6_)), some (.int (Int64.toInt32 r11_)), some (.int 0), none, none]) O dL_errors_21 (by decide) rfl ?_
  obtain ⟨n468_, hbn468_, h⟩ := h
  exact z_subL (L' := [some (.ref b0), some (.long r1_), none, some (.int (Int64.toInt32 r6_)), some (.int (Int64.toInt32 r11_)), some (.int 0), none, none]) (zLe.sub (And.intro rfl (And.intro rfl (And.intro rfl (And.intro rfl (And.intro rfl True.intro)))))) (HL23 n468_ r1_ (Int64.toInt32 r6_) (Int64.toInt32 r11_) 0 v0 G h0 Fr.rf _ _ _ (lk_loop hk12_ hbn468_ (I := 1) (base := 250) (Nat.le_of_ble_eq_true rfl) (Nat.le_refl _)) h)
