theorem dX7_next_0 : decode cX7_next 0 = .ok (.aload_n 0, 1) := by decide +kernel
theorem dX7_next_1 : decode cX7_next 1 = .ok (.getfield 126, 3) := by decide +kernel
theorem dX7_next_4 : decode cX7_next 4 = .ok (.aload_n 0, 1) := by decide +kernel
theorem dX7_next_5 : decode cX7_next 5 = .ok (.getfield 109, 3) := by decide +kernel
theorem dX7_next_8 : decode cX7_next 8 = .ok (.if_icmp .ge 44, 3) := by decide +kernel
theorem dX7_next_11 : decode cX7_next 11 = .ok (.aload_n 0, 1) := by decide +kernel
theorem dX7_next_12 : decode cX7_next 12 = .ok (.getfield 13, 3) := by decide +kernel
theorem dX7_next_15 : decode cX7_next 15 = .ok (.aload_n 0, 1) := by decide +kernel
theorem dX7_next_16 : decode cX7_next 16 = .ok (.getfield 126, 3) := by decide +kernel
theorem dX7_next_19 : decode cX7_next 19 = .ok (.iaload, 1) := by decide +kernel
theorem dX7_next_20 : decode cX7_next 20 = .ok (.bipush 32, 2) := by decide +kernel
theorem dX7_next_22 : decode cX7_next 22 = .ok (.if_icmp .eq 17, 3) := by decide +kernel
theorem dX7_next_25 : decode cX7_next 25 = .ok (.aload_n 0, 1) := by decide +kernel
theorem dX7_next_26 : decode cX7_next 26 = .ok (.getfield 13, 3) := by decide +kernel
theorem dX7_next_29 : decode cX7_next 29 = .ok (.aload_n 0, 1) := by decide +kernel
theorem dX7_next_30 : decode cX7_next 30 = .ok (.getfield 126, 3) := by decide +kernel
theorem dX7_next_33 : decode cX7_next 33 = .ok (.iaload, 1) := by decide +kernel
theorem dX7_next_34 : decode cX7_next 34 = .ok (.bipush 10, 2) := by decide +kernel
theorem dX7_next_36 : decode cX7_next 36 = .ok (.if_icmp .ne 16, 3) := by decide +kernel
theorem dX7_next_39 : decode cX7_next 39 = .ok (.aload_n 0, 1) := by decide +kernel
theorem dX7_next_40 : decode cX7_next 40 = .ok (.dup, 1) := by decide +kernel
theorem dX7_next_41 : decode cX7_next 41 = .ok (.getfield 126, 3) := by decide +kernel
theorem dX7_next_44 : decode cX7_next 44 = .ok (.iconst 1, 1) := by decide +kernel
theorem dX7_next_45 : decode cX7_next 45 = .ok (.iadd, 1) := by decide +kernel
theorem dX7_next_46 : decode cX7_next 46 = .ok (.putfield 126, 3) := by decide +kernel
theorem dX7_next_49 : decode cX7_next 49 = .ok (.goto (-49), 3) := by decide +kernel
theorem dX7_next_52 : decode cX7_next 52 = .ok (.aload_n 0, 1) := by decide +kernel
theorem dX7_next_53 : decode cX7_next 53 = .ok (.aload_n 0, 1) := by decide +kernel
theorem dX7_next_54 : decode cX7_next 54 = .ok (.getfield 126, 3) := by decide +kernel
theorem dX7_next_57 : decode cX7_next 57 = .ok (.putfield 129, 3) := by decide +kernel
theorem dX7_next_60 : decode cX7_next 60 = .ok (.aload_n 0, 1) := by decide +kernel
theorem dX7_next_61 : decode cX7_next 61 = .ok (.lconst 0, 1) := by decide +kernel
theorem dX7_next_62 : decode cX7_next 62 = .ok (.putfield 132, 3) := by decide +kernel
theorem dX7_next_65 : decode cX7_next 65 = .ok (.aload_n 0, 1) := by decide +kernel
theorem dX7_next_66 : decode cX7_next 66 = .ok (.getfield 126, 3) := by decide +kernel
theorem dX7_next_69 : decode cX7_next 69 = .ok (.aload_n 0, 1) := by decide +kernel
theorem dX7_next_70 : decode cX7_next 70 = .ok (.getfield 109, 3) := by decide +kernel
theorem dX7_next_73 : decode cX7_next 73 = .ok (.if_icmp .ne 9, 3) := by decide +kernel
theorem dX7_next_76 : decode cX7_next 76 = .ok (.aload_n 0, 1) := by decide +kernel
theorem dX7_next_77 : decode cX7_next 77 = .ok (.iconst 0, 1) := by decide +kernel
theorem dX7_next_78 : decode cX7_next 78 = .ok (.putfield 136, 3) := by decide +kernel
theorem dX7_next_81 : decode cX7_next 81 = .ok (.return_, 1) := by decide +kernel
theorem dX7_next_82 : decode cX7_next 82 = .ok (.aload_n 0, 1) := by decide +kernel
theorem dX7_next_83 : decode cX7_next 83 = .ok (.invokevirtual 139, 3) := by decide +kernel
theorem dX7_next_86 : decode cX7_next 86 = .ok (.istore_n 1, 1) := by decide +kernel
theorem dX7_next_87 : decode cX7_next 87 = .ok (.iload_n 1, 1) := by decide +kernel
theorem dX7_next_88 : decode cX7_next 88 = .ok (.invokestatic 143, 3) := by decide +kernel
theorem dX7_next_91 : decode cX7_next 91 = .ok (.ifCond .eq 90, 3) := by decide +kernel
theorem dX7_next_94 : decode cX7_next 94 = .ok (.aload_n 0, 1) := by decide +kernel
theorem dX7_next_95 : decode cX7_next 95 = .ok (.getfield 126, 3) := by decide +kernel
theorem dX7_next_98 : decode cX7_next 98 = .ok (.aload_n 0, 1) := by decide +kernel
theorem dX7_next_99 : decode cX7_next 99 = .ok (.getfield 109, 3) := by decide +kernel
theorem dX7_next_102 : decode cX7_next 102 = .ok (.if_icmp .ge 53, 3) := by decide +kernel
theorem dX7_next_105 : decode cX7_next 105 = .ok (.aload_n 0, 1) := by decide +kernel
theorem dX7_next_106 : decode cX7_next 106 = .ok (.invokevirtual 139, 3) := by decide +kernel
theorem dX7_next_109 : decode cX7_next 109 = .ok (.invokestatic 143, 3) := by decide +kernel
theorem dX7_next_112 : decode cX7_next 112 = .ok (.ifCond .ne 13, 3) := by decide +kernel
theorem dX7_next_115 : decode cX7_next 115 = .ok (.aload_n 0, 1) := by decide +kernel
theorem dX7_next_116 : decode cX7_next 116 = .ok (.invokevirtual 139, 3) := by decide +kernel
theorem dX7_next_119 : decode cX7_next 119 = .ok (.invokestatic 147, 3) := by decide +kernel
theorem dX7_next_122 : decode cX7_next 122 = .ok (.ifCond .eq 33, 3) := by decide +kernel
theorem dX7_next_125 : decode cX7_next 125 = .ok (.aload_n 0, 1) := by decide +kernel
theorem dX7_next_126 : decode cX7_next 126 = .ok (.aload_n 0, 1) := by decide +kernel
theorem dX7_next_127 : decode cX7_next 127 = .ok (.getfield 132, 3) := by decide +kernel
theorem dX7_next_130 : decode cX7_next 130 = .ok (.bipush 8, 2) := by decide +kernel
theorem dX7_next_132 : decode cX7_next 132 = .ok (.lshl, 1) := by decide +kernel
theorem dX7_next_133 : decode cX7_next 133 = .ok (.aload_n 0, 1) := by decide +kernel
theorem dX7_next_134 : decode cX7_next 134 = .ok (.invokevirtual 139, 3) := by decide +kernel
theorem dX7_next_137 : decode cX7_next 137 = .ok (.i2l, 1) := by decide +kernel
theorem dX7_next_138 : decode cX7_next 138 = .ok (.lor, 1) := by decide +kernel
theorem dX7_next_139 : decode cX7_next 139 = .ok (.putfield 132, 3) := by decide +kernel
theorem dX7_next_142 : decode cX7_next 142 = .ok (.aload_n 0, 1) := by decide +kernel
theorem dX7_next_143 : decode cX7_next 143 = .ok (.dup, 1) := by decide +kernel
theorem dX7_next_144 : decode cX7_next 144 = .ok (.getfield 126, 3) := by decide +kernel
theorem dX7_next_147 : decode cX7_next 147 = .ok (.iconst 1, 1) := by decide +kernel
theorem dX7_next_148 : decode cX7_next 148 = .ok (.iadd, 1) := by decide +kernel
theorem dX7_next_149 : decode cX7_next 149 = .ok (.putfield 126, 3) := by decide +kernel
theorem dX7_next_152 : decode cX7_next 152 = .ok (.goto (-58), 3) := by decide +kernel
theorem dX7_next_155 : decode cX7_next 155 = .ok (.aload_n 0, 1) := by decide +kernel
theorem dX7_next_156 : decode cX7_next 156 = .ok (.aload_n 0, 1) := by decide +kernel
theorem dX7_next_157 : decode cX7_next 157 = .ok (.getfield 126, 3) := by decide +kernel
theorem dX7_next_160 : decode cX7_next 160 = .ok (.aload_n 0, 1) := by decide +kernel
theorem dX7_next_161 : decode cX7_next 161 = .ok (.getfield 129, 3) := by decide +kernel
theorem dX7_next_164 : decode cX7_next 164 = .ok (.isub, 1) := by decide +kernel
theorem dX7_next_165 : decode cX7_next 165 = .ok (.iconst 4, 1) := by decide +kernel
theorem dX7_next_166 : decode cX7_next 166 = .ok (.if_icmp .le 7, 3) := by decide +kernel
theorem dX7_next_169 : decode cX7_next 169 = .ok (.iconst (-1), 1) := by decide +kernel
theorem dX7_next_170 : decode cX7_next 170 = .ok (.goto 5, 3) := by decide +kernel
theorem dX7_next_173 : decode cX7_next 173 = .ok (.bipush 78, 2) := by decide +kernel
theorem dX7_next_175 : decode cX7_next 175 = .ok (.putfield 136, 3) := by decide +kernel
theorem dX7_next_178 : decode cX7_next 178 = .ok (.goto 272, 3) := by decide +kernel
theorem dX7_next_181 : decode cX7_next 181 = .ok (.iload_n 1, 1) := by decide +kernel
theorem dX7_next_182 : decode cX7_next 182 = .ok (.invokestatic 150, 3) := by decide +kernel
theorem dX7_next_185 : decode cX7_next 185 = .ok (.ifCond .eq 81, 3) := by decide +kernel
theorem dX7_next_188 : decode cX7_next 188 = .ok (.aload_n 0, 1) := by decide +kernel
theorem dX7_next_189 : decode cX7_next 189 = .ok (.getfield 126, 3) := by decide +kernel
theorem dX7_next_192 : decode cX7_next 192 = .ok (.aload_n 0, 1) := by decide +kernel
theorem dX7_next_193 : decode cX7_next 193 = .ok (.getfield 109, 3) := by decide +kernel
theorem dX7_next_196 : decode cX7_next 196 = .ok (.if_icmp .ge 43, 3) := by decide +kernel
theorem dX7_next_199 : decode cX7_next 199 = .ok (.aload_n 0, 1) := by decide +kernel
theorem dX7_next_200 : decode cX7_next 200 = .ok (.invokevirtual 139, 3) := by decide +kernel
theorem dX7_next_203 : decode cX7_next 203 = .ok (.invokestatic 150, 3) := by decide +kernel
theorem dX7_next_206 : decode cX7_next 206 = .ok (.ifCond .eq 33, 3) := by decide +kernel
theorem dX7_next_209 : decode cX7_next 209 = .ok (.aload_n 0, 1) := by decide +kernel
theorem dX7_next_210 : decode cX7_next 210 = .ok (.aload_n 0, 1) := by decide +kernel
theorem dX7_next_211 : decode cX7_next 211 = .ok (.getfield 132, 3) := by decide +kernel
theorem dX7_next_214 : decode cX7_next 214 = .ok (.bipush 8, 2) := by decide +kernel
theorem dX7_next_216 : decode cX7_next 216 = .ok (.lshl, 1) := by decide +kernel
theorem dX7_next_217 : decode cX7_next 217 = .ok (.aload_n 0, 1) := by decide +kernel
theorem dX7_next_218 : decode cX7_next 218 = .ok (.invokevirtual 139, 3) := by decide +kernel
theorem dX7_next_221 : decode cX7_next 221 = .ok (.i2l, 1) := by decide +kernel
theorem dX7_next_222 : decode cX7_next 222 = .ok (.lor, 1) := by decide +kernel
theorem dX7_next_223 : decode cX7_next 223 = .ok (.putfield 132, 3) := by decide +kernel
theorem dX7_next_226 : decode cX7_next 226 = .ok (.aload_n 0, 1) := by decide +kernel
theorem dX7_next_227 : decode cX7_next 227 = .ok (.dup, 1) := by decide +kernel
theorem dX7_next_228 : decode cX7_next 228 = .ok (.getfield 126, 3) := by decide +kernel
theorem dX7_next_231 : decode cX7_next 231 = .ok (.iconst 1, 1) := by decide +kernel
theorem dX7_next_232 : decode cX7_next 232 = .ok (.iadd, 1) := by decide +kernel
theorem dX7_next_233 : decode cX7_next 233 = .ok (.putfield 126, 3) := by decide +kernel
theorem dX7_next_236 : decode cX7_next 236 = .ok (.goto (-48), 3) := by decide +kernel
theorem dX7_next_239 : decode cX7_next 239 = .ok (.aload_n 0, 1) := by decide +kernel
theorem dX7_next_240 : decode cX7_next 240 = .ok (.aload_n 0, 1) := by decide +kernel
theorem dX7_next_241 : decode cX7_next 241 = .ok (.getfield 126, 3) := by decide +kernel
theorem dX7_next_244 : decode cX7_next 244 = .ok (.aload_n 0, 1) := by decide +kernel
theorem dX7_next_245 : decode cX7_next 245 = .ok (.getfield 129, 3) := by decide +kernel
theorem dX7_next_248 : decode cX7_next 248 = .ok (.isub, 1) := by decide +kernel
theorem dX7_next_249 : decode cX7_next 249 = .ok (.bipush 8, 2) := by decide +kernel
theorem dX7_next_251 : decode cX7_next 251 = .ok (.if_icmp .le 7, 3) := by decide +kernel
theorem dX7_next_254 : decode cX7_next 254 = .ok (.iconst (-1), 1) := by decide +kernel
theorem dX7_next_255 : decode cX7_next 255 = .ok (.goto 5, 3) := by decide +kernel
theorem dX7_next_258 : decode cX7_next 258 = .ok (.bipush 87, 2) := by decide +kernel
theorem dX7_next_260 : decode cX7_next 260 = .ok (.putfield 136, 3) := by decide +kernel
theorem dX7_next_263 : decode cX7_next 263 = .ok (.goto 187, 3) := by decide +kernel
theorem dX7_next_266 : decode cX7_next 266 = .ok (.iload_n 1, 1) := by decide +kernel
theorem dX7_next_267 : decode cX7_next 267 = .ok (.invokestatic 147, 3) := by decide +kernel
theorem dX7_next_270 : decode cX7_next 270 = .ok (.ifCond .eq 107, 3) := by decide +kernel
theorem dX7_next_273 : decode cX7_next 273 = .ok (.aload_n 0, 1) := by decide +kernel
theorem dX7_next_274 : decode cX7_next 274 = .ok (.getfield 126, 3) := by decide +kernel
theorem dX7_next_277 : decode cX7_next 277 = .ok (.aload_n 0, 1) := by decide +kernel
theorem dX7_next_278 : decode cX7_next 278 = .ok (.getfield 109, 3) := by decide +kernel
theorem dX7_next_281 : decode cX7_next 281 = .ok (.if_icmp .ge 69, 3) := by decide +kernel
theorem dX7_next_284 : decode cX7_next 284 = .ok (.aload_n 0, 1) := by decide +kernel
theorem dX7_next_285 : decode cX7_next 285 = .ok (.invokevirtual 139, 3) := by decide +kernel
theorem dX7_next_288 : decode cX7_next 288 = .ok (.invokestatic 147, 3) := by decide +kernel
theorem dX7_next_291 : decode cX7_next 291 = .ok (.ifCond .eq 59, 3) := by decide +kernel
theorem dX7_next_294 : decode cX7_next 294 = .ok (.aload_n 0, 1) := by decide +kernel
theorem dX7_next_295 : decode cX7_next 295 = .ok (.aload_n 0, 1) := by decide +kernel
theorem dX7_next_296 : decode cX7_next 296 = .ok (.getfield 126, 3) := by decide +kernel
theorem dX7_next_299 : decode cX7_next 299 = .ok (.aload_n 0, 1) := by decide +kernel
theorem dX7_next_300 : decode cX7_next 300 = .ok (.getfield 129, 3) := by decide +kernel
theorem dX7_next_303 : decode cX7_next 303 = .ok (.isub, 1) := by decide +kernel
theorem dX7_next_304 : decode cX7_next 304 = .ok (.bipush 7, 2) := by decide +kernel
theorem dX7_next_306 : decode cX7_next 306 = .ok (.if_icmp .ge 24, 3) := by decide +kernel
theorem dX7_next_309 : decode cX7_next 309 = .ok (.ldc2_w 153, 3) := by decide +kernel
theorem dX7_next_312 : decode cX7_next 312 = .ok (.aload_n 0, 1) := by decide +kernel
theorem dX7_next_313 : decode cX7_next 313 = .ok (.getfield 132, 3) := by decide +kernel
theorem dX7_next_316 : decode cX7_next 316 = .ok (.lmul, 1) := by decide +kernel
theorem dX7_next_317 : decode cX7_next 317 = .ok (.aload_n 0, 1) := by decide +kernel
theorem dX7_next_318 : decode cX7_next 318 = .ok (.invokevirtual 139, 3) := by decide +kernel
theorem dX7_next_321 : decode cX7_next 321 = .ok (.i2l, 1) := by decide +kernel
theorem dX7_next_322 : decode cX7_next 322 = .ok (.ladd, 1) := by decide +kernel
theorem dX7_next_323 : decode cX7_next 323 = .ok (.ldc2_w 118, 3) := by decide +kernel
theorem dX7_next_326 : decode cX7_next 326 = .ok (.lsub, 1) := by decide +kernel
theorem dX7_next_327 : decode cX7_next 327 = .ok (.goto 7, 3) := by decide +kernel
theorem dX7_next_330 : decode cX7_next 330 = .ok (.aload_n 0, 1) := by decide +kernel
theorem dX7_next_331 : decode cX7_next 331 = .ok (.getfield 132, 3) := by decide +kernel
theorem dX7_next_334 : decode cX7_next 334 = .ok (.putfield 132, 3) := by decide +kernel
theorem dX7_next_337 : decode cX7_next 337 = .ok (.aload_n 0, 1) := by decide +kernel
theorem dX7_next_338 : decode cX7_next 338 = .ok (.dup, 1) := by decide +kernel
theorem dX7_next_339 : decode cX7_next 339 = .ok (.getfield 126, 3) := by decide +kernel
theorem dX7_next_342 : decode cX7_next 342 = .ok (.iconst 1, 1) := by decide +kernel
theorem dX7_next_343 : decode cX7_next 343 = .ok (.iadd, 1) := by decide +kernel
theorem dX7_next_344 : decode cX7_next 344 = .ok (.putfield 126, 3) := by decide +kernel
theorem dX7_next_347 : decode cX7_next 347 = .ok (.goto (-74), 3) := by decide +kernel
theorem dX7_next_350 : decode cX7_next 350 = .ok (.aload_n 0, 1) := by decide +kernel
theorem dX7_next_351 : decode cX7_next 351 = .ok (.aload_n 0, 1) := by decide +kernel
theorem dX7_next_352 : decode cX7_next 352 = .ok (.getfield 126, 3) := by decide +kernel
theorem dX7_next_355 : decode cX7_next 355 = .ok (.aload_n 0, 1) := by decide +kernel
theorem dX7_next_356 : decode cX7_next 356 = .ok (.getfield 129, 3) := by decide +kernel
theorem dX7_next_359 : decode cX7_next 359 = .ok (.isub, 1) := by decide +kernel
theorem dX7_next_360 : decode cX7_next 360 = .ok (.bipush 6, 2) := by decide +kernel
theorem dX7_next_362 : decode cX7_next 362 = .ok (.if_icmp .le 7, 3) := by decide +kernel
theorem dX7_next_365 : decode cX7_next 365 = .ok (.iconst (-1), 1) := by decide +kernel
theorem dX7_next_366 : decode cX7_next 366 = .ok (.goto 5, 3) := by decide +kernel
theorem dX7_next_369 : decode cX7_next 369 = .ok (.bipush 57, 2) := by decide +kernel
theorem dX7_next_371 : decode cX7_next 371 = .ok (.putfield 136, 3) := by decide +kernel
theorem dX7_next_374 : decode cX7_next 374 = .ok (.goto 76, 3) := by decide +kernel
theorem dX7_next_377 : decode cX7_next 377 = .ok (.aload_n 0, 1) := by decide +kernel
theorem dX7_next_378 : decode cX7_next 378 = .ok (.dup, 1) := by decide +kernel
theorem dX7_next_379 : decode cX7_next 379 = .ok (.getfield 126, 3) := by decide +kernel
theorem dX7_next_382 : decode cX7_next 382 = .ok (.iconst 1, 1) := by decide +kernel
theorem dX7_next_383 : decode cX7_next 383 = .ok (.iadd, 1) := by decide +kernel
theorem dX7_next_384 : decode cX7_next 384 = .ok (.putfield 126, 3) := by decide +kernel
theorem dX7_next_387 : decode cX7_next 387 = .ok (.aload_n 0, 1) := by decide +kernel
theorem dX7_next_388 : decode cX7_next 388 = .ok (.iload_n 1, 1) := by decide +kernel
theorem dX7_next_389 : decode cX7_next 389 = .ok (.bipush 123, 2) := by decide +kernel
theorem dX7_next_391 : decode cX7_next 391 = .ok (.if_icmp .eq 51, 3) := by decide +kernel
theorem dX7_next_394 : decode cX7_next 394 = .ok (.iload_n 1, 1) := by decide +kernel
theorem dX7_next_395 : decode cX7_next 395 = .ok (.bipush 125, 2) := by decide +kernel
theorem dX7_next_397 : decode cX7_next 397 = .ok (.if_icmp .eq 45, 3) := by decide +kernel
theorem dX7_next_400 : decode cX7_next 400 = .ok (.iload_n 1, 1) := by decide +kernel
theorem dX7_next_401 : decode cX7_next 401 = .ok (.bipush 40, 2) := by decide +kernel
theorem dX7_next_403 : decode cX7_next 403 = .ok (.if_icmp .eq 39, 3) := by decide +kernel
theorem dX7_next_406 : decode cX7_next 406 = .ok (.iload_n 1, 1) := by decide +kernel
theorem dX7_next_407 : decode cX7_next 407 = .ok (.bipush 41, 2) := by decide +kernel
theorem dX7_next_409 : decode cX7_next 409 = .ok (.if_icmp .eq 33, 3) := by decide +kernel
theorem dX7_next_412 : decode cX7_next 412 = .ok (.iload_n 1, 1) := by decide +kernel
theorem dX7_next_413 : decode cX7_next 413 = .ok (.bipush 59, 2) := by decide +kernel
theorem dX7_next_415 : decode cX7_next 415 = .ok (.if_icmp .eq 27, 3) := by decide +kernel
theorem dX7_next_418 : decode cX7_next 418 = .ok (.iload_n 1, 1) := by decide +kernel
theorem dX7_next_419 : decode cX7_next 419 = .ok (.bipush 44, 2) := by decide +kernel
theorem dX7_next_421 : decode cX7_next 421 = .ok (.if_icmp .eq 21, 3) := by decide +kernel
theorem dX7_next_424 : decode cX7_next 424 = .ok (.iload_n 1, 1) := by decide +kernel
theorem dX7_next_425 : decode cX7_next 425 = .ok (.bipush 58, 2) := by decide +kernel
theorem dX7_next_427 : decode cX7_next 427 = .ok (.if_icmp .eq 15, 3) := by decide +kernel
theorem dX7_next_430 : decode cX7_next 430 = .ok (.iload_n 1, 1) := by decide +kernel
theorem dX7_next_431 : decode cX7_next 431 = .ok (.bipush 61, 2) := by decide +kernel
theorem dX7_next_433 : decode cX7_next 433 = .ok (.if_icmp .eq 9, 3) := by decide +kernel
theorem dX7_next_436 : decode cX7_next 436 = .ok (.iload_n 1, 1) := by decide +kernel
theorem dX7_next_437 : decode cX7_next 437 = .ok (.bipush 60, 2) := by decide +kernel
theorem dX7_next_439 : decode cX7_next 439 = .ok (.if_icmp .ne 7, 3) := by decide +kernel
theorem dX7_next_442 : decode cX7_next 442 = .ok (.iload_n 1, 1) := by decide +kernel
theorem dX7_next_443 : decode cX7_next 443 = .ok (.goto 4, 3) := by decide +kernel
theorem dX7_next_446 : decode cX7_next 446 = .ok (.iconst (-1), 1) := by decide +kernel
theorem dX7_next_447 : decode cX7_next 447 = .ok (.putfield 136, 3) := by decide +kernel
theorem dX7_next_450 : decode cX7_next 450 = .ok (.return_, 1) := by decide +kernel
def zwX7_next : List Cond := .code yX7_next cX7_next 2 none :: ([.fieldLink RX7 126 "LinkModelsModel" "at" "I", .fieldLink RX7 129 "LinkModelsModel" "tokenAt" "I", .fieldLink RX7 136 "LinkModelsModel" "token" "I", .fieldLink RX7 109 "LinkModelsModel" "taped" "I", .fieldLink RX7 132 "LinkModelsModel" "value" "J", .constantLong RX7 153 (10), .constantLong RX7 118 (48), .fieldLink RX7 13 "LinkModelsModel" "tape" "[I", .methodLink RX7 139 yX7_here, .instanceMethod yX7_here, .selects RX7 yX7_here yX7_here, .initialized RX7, .code yX7_here cX7_here 1 (some .int), .methodLink RX7 143 yX7_isBig, .static yX7_isBig, .code yX7_isBig cX7_isBig 1 (some .boolean), .constantLong RX7 114 (65), .constantLong RX7 116 (90), .methodLink RX7 105 yX7_in, .static yX7_in, .code yX7_in cX7_in 6 (some .boolean), .methodLink RX7 147 yX7_isDigit, .static yX7_isDigit, .code yX7_isDigit cX7_isDigit 1 (some .boolean), .constantLong RX7 120 (57), .methodLink RX7 150 yX7_isSmall, .static yX7_isSmall, .code yX7_isSmall cX7_isSmall 1 (some .boolean), .constantLong RX7 122 (97), .constantLong RX7 124 (122)] ++ wsX70)
theorem zgX7_next_X7_here_139 : GoodIn zwX7_next (wsV RX7 139 RX7 yX7_here zwX7_here) := goodIn_app (goodIn_of _ (by decide +kernel)) (goodIn_ca (goodIn_of _ (by decide +kernel)) (zgt zg7))
theorem zgX7_next_X7_isBig_143 : GoodIn zwX7_next (va_wsS RX7 143 yX7_isBig zwX7_isBig) := goodIn_of _ (by decide +kernel)
theorem zgX7_next_X7_isDigit_147 : GoodIn zwX7_next (va_wsS RX7 147 yX7_isDigit zwX7_isDigit) := goodIn_of _ (by decide +kernel)
theorem zgX7_next_X7_isSmall_150 : GoodIn zwX7_next (va_wsS RX7 150 yX7_isSmall zwX7_isSmall) := goodIn_of _ (by decide +kernel)
set_option maxHeartbeats 4000000 in
set_option maxRecDepth 100000 in
theorem kX7_next (l : Launch) (dC : Nat → ClassId) (dI : Nat → Nat → Nat) (h0 : Nat) (r : Nat → Nat) (cI : ClassId) (cJ : ClassId) (cZ : ClassId) (v0 : Int32) (a1 : Nat → Int32) (tp : Nat) (bs : Nat) (cl : Nat → Nat) (a5 : Nat → Int32) (a6 : Nat → Int32) (a7 : Nat → Int32) (fc : Nat → Nat) (a9 : Nat → Int32) (mb : Nat → Nat) (a11 : Nat → Int32) (a12 : Nat → Int32) (a13 : Nat → Int64) (a14 : Nat → Int32) (a15 : Nat → Int32) (a16 : Nat → Int32) (a17 : Nat → Int32) (a18 : Nat → Int32) (a19 : Nat → Int32) (a20 : Nat → Int32) (az : Nat) (v22 : Int32) (v23 : Int32) (v24 : Int64) (v25 : Int32) (v26 : Int32) (bb : Nat) (ct : Nat → Nat) (us : Nat) (a30 : Nat → Int32) (a31 : Nat → Int32) (a32 : Nat → Int32) (a33 : Nat → Int64) (a34 : Nat → Int32) (a35 : Nat → Int32) (a36 : Nat → Int32) (a37 : Nat → Int32) (pil : Nat → Nat) (rwv : Nat → Nat) (rl : Nat) (v41 : Int32) (v42 : Int32) (v43 : Int32) (v44 : Int32) (v45 : Int32) (hI : rWI tp bs cl fc mb az bb ct us pil rwv rl) (hp0 : az ≤ tp) (sz : Nat) : Met l yX7_next zwX7_next ({ frames := 2, cells := 0, slots := 0, locals := 45 }) (zPm dC dI [.ref h0] sz (rW h0 r cI cJ cZ v0 a1 (nI tp) (nI bs) (fun j => nI (cl j)) a5 a6 a7 (fun j => nI (fc j)) a9 (fun j => nI (mb j)) a11 a12 a13 a14 a15 a16 a17 a18 a19 a20 (nI az) v22 v23 v24 v25 v26 (nI bb) (fun j => nI (ct j)) (nI us) a30 a31 a32 a33 a34 a35 a36 a37 (fun j => nI (pil j)) (fun j => nI (rwv j)) (nI rl) v41 v42 v43 v44 v45) [(cI, .int), (cJ, .long), (cZ, .boolean)]) (va_Qv (fun u : Nat × Int32 × Int32 × Int64 => (az ≤ (u.1)) ∧ ((u.1) ≤ tp) ∧ (¬ (u.2.1) = 0 → az < (u.1))) (fun u t => zB dC dI (va_A (rW h0 r cI cJ cZ v0 a1 (nI tp) (nI bs) (fun j => nI (cl j)) a5 a6 a7 (fun j => nI (fc j)) a9 (fun j => nI (mb j)) a11 a12 a13 a14 a15 a16 a17 a18 a19 a20 (nI az) v22 v23 v24 v25 v26 (nI bb) (fun j => nI (ct j)) (nI us) a30 a31 a32 a33 a34 a35 a36 a37 (fun j => nI (pil j)) (fun j => nI (rwv j)) (nI rl) v41 v42 v43 v44 v45) sz) (rW h0 r cI cJ cZ v0 a1 (nI tp) (nI bs) (fun j => nI (cl j)) a5 a6 a7 (fun j => nI (fc j)) a9 (fun j => nI (mb j)) a11 a12 a13 a14 a15 a16 a17 a18 a19 a20 (nI (u.1)) (u.2.1) (u.2.2.1) (u.2.2.2) v25 v26 (nI bb) (fun j => nI (ct j)) (nI us) a30 a31 a32 a33 a34 a35 a36 a37 (fun j => nI (pil j)) (fun j => nI (rwv j)) (nI rl) v41 v42 v43 v44 v45) [(cI, .int), (cJ, .long), (cZ, .boolean)] t) (va_A (rW h0 r cI cJ cZ v0 a1 (nI tp) (nI bs) (fun j => nI (cl j)) a5 a6 a7 (fun j => nI (fc j)) a9 (fun j => nI (mb j)) a11 a12 a13 a14 a15 a16 a17 a18 a19 a20 (nI az) v22 v23 v24 v25 v26 (nI bb) (fun j => nI (ct j)) (nI us) a30 a31 a32 a33 a34 a35 a36 a37 (fun j => nI (pil j)) (fun j => nI (rwv j)) (nI rl) v41 v42 v43 v44 v45) sz)) 0 0 (va_A (rW h0 r cI cJ cZ v0 a1 (nI tp) (nI bs) (fun j => nI (cl j)) a5 a6 a7 (fun j => nI (fc j)) a9 (fun j => nI (mb j)) a11 a12 a13 a14 a15 a16 a17 a18 a19 a20 (nI az) v22 v23 v24 v25 v26 (nI bb) (fun j => nI (ct j)) (nI us) a30 a31 a32 a33 a34 a35 a36 a37 (fun j => nI (pil j)) (fun j => nI (rwv j)) (nI rl) v41 v42 v43 v44 v45) sz) := by
  refine Met.ofW (cc := cX7_next) (maxL := 2) (ret := none) (by decide) rfl ?_
  intro p e s m args below meth c s₁ B hml hv
  obtain ⟨rfl, hsz, hP, hK, hD0, hL0⟩ := hv
  have hx := B.exec
  have hb := B.bytes
  have hr := B.returns
  have hts := atoms_spec (ws := zwX7_next) B.pre
  have hown : s.vm.findClass RX7 = some m.cls := findClass_of_methodNamed B.named
  have hiX7 : ∀ w ∈ wsX70, w ∈ zwX7_next := (fun _ h => List.mem_cons_of_mem _ (List.mem_append_right _ h))
  obtain ⟨htp, hbs, hus, hcl, hfc, hmb, hct, hpil, hrwv⟩ := hI
  subst hsz
  have hD := hD0.self (sz := s.heap.size)
  generalize hAe : va_A (rW h0 r cI cJ cZ v0 a1 (nI tp) (nI bs) (fun j => nI (cl j)) a5 a6 a7 (fun j => nI (fc j)) a9 (fun j => nI (mb j)) a11 a12 a13 a14 a15 a16 a17 a18 a19 a20 (nI az) v22 v23 v24 v25 v26 (nI bb) (fun j => nI (ct j)) (nI us) a30 a31 a32 a33 a34 a35 a36 a37 (fun j => nI (pil j)) (fun j => nI (rwv j)) (nI rl) v41 v42 v43 v44 v45) s.heap.size = A at hD hL0 ⊢
  have hA : ∀ q : Nat, s.heap.size ≤ q → A q := fun q h => by rw [← hAe]; exact Or.inr h
  have hS : va_S A s.heap s.heap [] := va_S.rf
  have hL := hL0
  have hl := lv_entry ([.ref h0]) (n := 2) (Nat.le_of_ble_eq_true rfl)
  rw [lg_entry_eq]
  generalize (lg_sl ([.ref h0]) ++ List.replicate (2 - (lg_sl ([.ref h0])).length) Slot.unset).toArray = ls at hl ⊢
  have hl : lv_has ls 2 [(0, .ref h0)] := hl
  have J155 : ∀ (ch : Int32) (a : Nat) (k : Int32) (q : Int32) (w : Int64) (H : Heap) (locs : List Loc) (ls : Array Slot), (az < a) → (a ≤ tp) → va_P (dC, dI) vwCl (rW h0 r cI cJ cZ v0 a1 (nI tp) (nI bs) (fun j => nI (cl j)) a5 a6 a7 (fun j => nI (fc j)) a9 (fun j => nI (mb j)) a11 a12 a13 a14 a15 a16 a17 a18 a19 a20 (nI a) k q w v25 v26 (nI bb) (fun j => nI (ct j)) (nI us) a30 a31 a32 a33 a34 a35 a36 a37 (fun j => nI (pil j)) (fun j => nI (rwv j)) (nI rl) v41 v42 v43 v44 v45) H → va_D A (rW h0 r cI cJ cZ v0 a1 (nI tp) (nI bs) (fun j => nI (cl j)) a5 a6 a7 (fun j => nI (fc j)) a9 (fun j => nI (mb j)) a11 a12 a13 a14 a15 a16 a17 a18 a19 a20 (nI a) k q w v25 v26 (nI bb) (fun j => nI (ct j)) (nI us) a30 a31 a32 a33 a34 a35 a36 a37 (fun j => nI (pil j)) (fun j => nI (rwv j)) (nI rl) v41 v42 v43 v44 v45) → va_S A s.heap H locs → lv_has ls 2 [(0, .ref h0), (1, .int ch)] → W p l e (headSpec zwX7_next { frames := 2, cells := 0, slots := 0, locals := 45 }).room s m (([.ref h0] : List Value).toArray) below meth c H locs 0 0 (MQ below (va_Qv (fun u : Nat × Int32 × Int32 × Int64 => (az ≤ (u.1)) ∧ ((u.1) ≤ tp) ∧ (¬ (u.2.1) = 0 → az < (u.1))) (fun u t => zB dC dI (A) (rW h0 r cI cJ cZ v0 a1 (nI tp) (nI bs) (fun j => nI (cl j)) a5 a6 a7 (fun j => nI (fc j)) a9 (fun j => nI (mb j)) a11 a12 a13 a14 a15 a16 a17 a18 a19 a20 (nI (u.1)) (u.2.1) (u.2.2.1) (u.2.2.2) v25 v26 (nI bb) (fun j => nI (ct j)) (nI us) a30 a31 a32 a33 a34 a35 a36 a37 (fun j => nI (pil j)) (fun j => nI (rwv j)) (nI rl) v41 v42 v43 v44 v45) [(cI, .int), (cJ, .long), (cZ, .boolean)] t) (A)) (([.ref h0] : List Value).toArray) s 0 0 A) (F0 m 155 ls []) := by
    intro ch a k q w H locs ls i155_0 i155_1 hP hD hS hl
    refine lv_aload_n hx hb dX7_next_155 rfl (lv_at hl 0 rfl) ?_
    refine lv_aload_n hx hb dX7_next_156 rfl (lv_at hl 0 rfl) ?_
    refine va_get (D := (dC, dI)) (ci := 6) (v := .int (nI a)) (C := RX7) (T := TX7) (N := 46) hx hb hts hiX7 hown hK hP 0 rfl rfl 21 (by decide) (hts (.fieldLink RX7 126 "LinkModelsModel" "at" "I") (by decide +kernel)) (fun _ h9 => h9) rfl dX7_next_157 ?_
    refine lv_aload_n hx hb dX7_next_160 rfl (lv_at hl 0 rfl) ?_
    refine va_get (D := (dC, dI)) (ci := 6) (v := .int q) (C := RX7) (T := TX7) (N := 46) hx hb hts hiX7 hown hK hP 0 rfl rfl 23 (by decide) (hts (.fieldLink RX7 129 "LinkModelsModel" "tokenAt" "I") (by decide +kernel)) (fun _ h9 => h9) rfl dX7_next_161 ?_
    refine lv_isub hx hb dX7_next_164 ?_
    refine lv_topi (fun x1 ex1 => ?_)
    refine lv_iconst (v := 4) hx hb dX7_next_165 (by decide) ?_
    refine lv_icmp_le (tgt := 173) hx hb dX7_next_166 (by decide) (fun cp166 => ?_) (fun cp166 => ?_)
    · refine lv_bipush (v := 78) hx hb dX7_next_173 (by decide) ?_
      refine va_put (D := (dC, dI)) (ci := 6) (v := .int 78) (ty := (.int)) (C := RX7) (T := TX7) (N := 46) hx hb hts hiX7 tyX7 tyX7_ok nmX7 hown hK hP hD hS 0 rfl rfl 22 (by decide) (hts (.fieldLink RX7 136 "LinkModelsModel" "token" "I") (by decide +kernel)) (fun _ h9 => h9) rfl (by decide +kernel) rfl rfl (Nat.le_of_ble_eq_true rfl) dX7_next_175 (fun H locs hP hD hS => ?_)
      have hP : va_P (dC, dI) vwCl (rW h0 r cI cJ cZ v0 a1 (nI tp) (nI bs) (fun j => nI (cl j)) a5 a6 a7 (fun j => nI (fc j)) a9 (fun j => nI (mb j)) a11 a12 a13 a14 a15 a16 a17 a18 a19 a20 (nI a) 78 q w v25 v26 (nI bb) (fun j => nI (ct j)) (nI us) a30 a31 a32 a33 a34 a35 a36 a37 (fun j => nI (pil j)) (fun j => nI (rwv j)) (nI rl) v41 v42 v43 v44 v45) H := hP
      have hD : va_D A (rW h0 r cI cJ cZ v0 a1 (nI tp) (nI bs) (fun j => nI (cl j)) a5 a6 a7 (fun j => nI (fc j)) a9 (fun j => nI (mb j)) a11 a12 a13 a14 a15 a16 a17 a18 a19 a20 (nI a) 78 q w v25 v26 (nI bb) (fun j => nI (ct j)) (nI us) a30 a31 a32 a33 a34 a35 a36 a37 (fun j => nI (pil j)) (fun j => nI (rwv j)) (nI rl) v41 v42 v43 v44 v45) := hD
      refine lv_goto (tgt := 450) hx hb dX7_next_178 (by decide) ?_
      have hP9 : va_P (dC, dI) vwCl (rW h0 r cI cJ cZ v0 a1 (nI tp) (nI bs) (fun j => nI (cl j)) a5 a6 a7 (fun j => nI (fc j)) a9 (fun j => nI (mb j)) a11 a12 a13 a14 a15 a16 a17 a18 a19 a20 (nI a) 78 q w v25 v26 (nI bb) (fun j => nI (ct j)) (nI us) a30 a31 a32 a33 a34 a35 a36 a37 (fun j => nI (pil j)) (fun j => nI (rwv j)) (nI rl) v41 v42 v43 v44 v45) H := hP
      have hD9 : va_D A (rW h0 r cI cJ cZ v0 a1 (nI tp) (nI bs) (fun j => nI (cl j)) a5 a6 a7 (fun j => nI (fc j)) a9 (fun j => nI (mb j)) a11 a12 a13 a14 a15 a16 a17 a18 a19 a20 (nI a) 78 q w v25 v26 (nI bb) (fun j => nI (ct j)) (nI us) a30 a31 a32 a33 a34 a35 a36 a37 (fun j => nI (pil j)) (fun j => nI (rwv j)) (nI rl) v41 v42 v43 v44 v45) := hD
      exact W.vret hx hb hr (fun t ht hW => ⟨⟨(a, 78, q, w), rfl, ⟨(by omega), (by omega), (by first | (intro h9; exact absurd rfl h9) | (intro _; omega))⟩, by rw [ht]; exact hP9, va_K.moved hW.alike hK, hD9⟩, hS.F ht⟩) hS.2.2 dX7_next_450
    · refine lv_iconst (v := (-1)) hx hb dX7_next_169 (by decide) ?_
      refine lv_goto (tgt := 175) hx hb dX7_next_170 (by decide) ?_
      refine va_put (D := (dC, dI)) (ci := 6) (v := .int (-1)) (ty := (.int)) (C := RX7) (T := TX7) (N := 46) hx hb hts hiX7 tyX7 tyX7_ok nmX7 hown hK hP hD hS 0 rfl rfl 22 (by decide) (hts (.fieldLink RX7 136 "LinkModelsModel" "token" "I") (by decide +kernel)) (fun _ h9 => h9) rfl (by decide +kernel) rfl rfl (Nat.le_of_ble_eq_true rfl) dX7_next_175 (fun H locs hP hD hS => ?_)
      have hP : va_P (dC, dI) vwCl (rW h0 r cI cJ cZ v0 a1 (nI tp) (nI bs) (fun j => nI (cl j)) a5 a6 a7 (fun j => nI (fc j)) a9 (fun j => nI (mb j)) a11 a12 a13 a14 a15 a16 a17 a18 a19 a20 (nI a) (-1) q w v25 v26 (nI bb) (fun j => nI (ct j)) (nI us) a30 a31 a32 a33 a34 a35 a36 a37 (fun j => nI (pil j)) (fun j => nI (rwv j)) (nI rl) v41 v42 v43 v44 v45) H := hP
      have hD : va_D A (rW h0 r cI cJ cZ v0 a1 (nI tp) (nI bs) (fun j => nI (cl j)) a5 a6 a7 (fun j => nI (fc j)) a9 (fun j => nI (mb j)) a11 a12 a13 a14 a15 a16 a17 a18 a19 a20 (nI a) (-1) q w v25 v26 (nI bb) (fun j => nI (ct j)) (nI us) a30 a31 a32 a33 a34 a35 a36 a37 (fun j => nI (pil j)) (fun j => nI (rwv j)) (nI rl) v41 v42 v43 v44 v45) := hD
      refine lv_goto (tgt := 450) hx hb dX7_next_178 (by decide) ?_
      have hP9 : va_P (dC, dI) vwCl (rW h0 r cI cJ cZ v0 a1 (nI tp) (nI bs) (fun j => nI (cl j)) a5 a6 a7 (fun j => nI (fc j)) a9 (fun j => nI (mb j)) a11 a12 a13 a14 a15 a16 a17 a18 a19 a20 (nI a) (-1) q w v25 v26 (nI bb) (fun j => nI (ct j)) (nI us) a30 a31 a32 a33 a34 a35 a36 a37 (fun j => nI (pil j)) (fun j => nI (rwv j)) (nI rl) v41 v42 v43 v44 v45) H := hP
      have hD9 : va_D A (rW h0 r cI cJ cZ v0 a1 (nI tp) (nI bs) (fun j => nI (cl j)) a5 a6 a7 (fun j => nI (fc j)) a9 (fun j => nI (mb j)) a11 a12 a13 a14 a15 a16 a17 a18 a19 a20 (nI a) (-1) q w v25 v26 (nI bb) (fun j => nI (ct j)) (nI us) a30 a31 a32 a33 a34 a35 a36 a37 (fun j => nI (pil j)) (fun j => nI (rwv j)) (nI rl) v41 v42 v43 v44 v45) := hD
      exact W.vret hx hb hr (fun t ht hW => ⟨⟨(a, (-1), q, w), rfl, ⟨(by omega), (by omega), (by first | (intro h9; exact absurd rfl h9) | (intro _; omega))⟩, by rw [ht]; exact hP9, va_K.moved hW.alike hK, hD9⟩, hS.F ht⟩) hS.2.2 dX7_next_450
  have J239 : ∀ (ch : Int32) (a : Nat) (k : Int32) (q : Int32) (w : Int64) (H : Heap) (locs : List Loc) (ls : Array Slot), (az < a) → (a ≤ tp) → va_P (dC, dI) vwCl (rW h0 r cI cJ cZ v0 a1 (nI tp) (nI bs) (fun j => nI (cl j)) a5 a6 a7 (fun j => nI (fc j)) a9 (fun j => nI (mb j)) a11 a12 a13 a14 a15 a16 a17 a18 a19 a20 (nI a) k q w v25 v26 (nI bb) (fun j => nI (ct j)) (nI us) a30 a31 a32 a33 a34 a35 a36 a37 (fun j => nI (pil j)) (fun j => nI (rwv j)) (nI rl) v41 v42 v43 v44 v45) H → va_D A (rW h0 r cI cJ cZ v0 a1 (nI tp) (nI bs) (fun j => nI (cl j)) a5 a6 a7 (fun j => nI (fc j)) a9 (fun j => nI (mb j)) a11 a12 a13 a14 a15 a16 a17 a18 a19 a20 (nI a) k q w v25 v26 (nI bb) (fun j => nI (ct j)) (nI us) a30 a31 a32 a33 a34 a35 a36 a37 (fun j => nI (pil j)) (fun j => nI (rwv j)) (nI rl) v41 v42 v43 v44 v45) → va_S A s.heap H locs → lv_has ls 2 [(0, .ref h0), (1, .int ch)] → W p l e (headSpec zwX7_next { frames := 2, cells := 0, slots := 0, locals := 45 }).room s m (([.ref h0] : List Value).toArray) below meth c H locs 0 0 (MQ below (va_Qv (fun u : Nat × Int32 × Int32 × Int64 => (az ≤ (u.1)) ∧ ((u.1) ≤ tp) ∧ (¬ (u.2.1) = 0 → az < (u.1))) (fun u t => zB dC dI (A) (rW h0 r cI cJ cZ v0 a1 (nI tp) (nI bs) (fun j => nI (cl j)) a5 a6 a7 (fun j => nI (fc j)) a9 (fun j => nI (mb j)) a11 a12 a13 a14 a15 a16 a17 a18 a19 a20 (nI (u.1)) (u.2.1) (u.2.2.1) (u.2.2.2) v25 v26 (nI bb) (fun j => nI (ct j)) (nI us) a30 a31 a32 a33 a34 a35 a36 a37 (fun j => nI (pil j)) (fun j => nI (rwv j)) (nI rl) v41 v42 v43 v44 v45) [(cI, .int), (cJ, .long), (cZ, .boolean)] t) (A)) (([.ref h0] : List Value).toArray) s 0 0 A) (F0 m 239 ls []) := by
    intro ch a k q w H locs ls i239_0 i239_1 hP hD hS hl
    refine lv_aload_n hx hb dX7_next_239 rfl (lv_at hl 0 rfl) ?_
    refine lv_aload_n hx hb dX7_next_240 rfl (lv_at hl 0 rfl) ?_
    refine va_get (D := (dC, dI)) (ci := 6) (v := .int (nI a)) (C := RX7) (T := TX7) (N := 46) hx hb hts hiX7 hown hK hP 0 rfl rfl 21 (by decide) (hts (.fieldLink RX7 126 "LinkModelsModel" "at" "I") (by decide +kernel)) (fun _ h9 => h9) rfl dX7_next_241 ?_
    refine lv_aload_n hx hb dX7_next_244 rfl (lv_at hl 0 rfl) ?_
    refine va_get (D := (dC, dI)) (ci := 6) (v := .int q) (C := RX7) (T := TX7) (N := 46) hx hb hts hiX7 hown hK hP 0 rfl rfl 23 (by decide) (hts (.fieldLink RX7 129 "LinkModelsModel" "tokenAt" "I") (by decide +kernel)) (fun _ h9 => h9) rfl dX7_next_245 ?_
    refine lv_isub hx hb dX7_next_248 ?_
    refine lv_topi (fun x2 ex2 => ?_)
    refine lv_bipush (v := 8) hx hb dX7_next_249 (by decide) ?_
    refine lv_icmp_le (tgt := 258) hx hb dX7_next_251 (by decide) (fun cp251 => ?_) (fun cp251 => ?_)
    · refine lv_bipush (v := 87) hx hb dX7_next_258 (by decide) ?_
      refine va_put (D := (dC, dI)) (ci := 6) (v := .int 87) (ty := (.int)) (C := RX7) (T := TX7) (N := 46) hx hb hts hiX7 tyX7 tyX7_ok nmX7 hown hK hP hD hS 0 rfl rfl 22 (by decide) (hts (.fieldLink RX7 136 "LinkModelsModel" "token" "I") (by decide +kernel)) (fun _ h9 => h9) rfl (by decide +kernel) rfl rfl (Nat.le_of_ble_eq_true rfl) dX7_next_260 (fun H locs hP hD hS => ?_)
      have hP : va_P (dC, dI) vwCl (rW h0 r cI cJ cZ v0 a1 (nI tp) (nI bs) (fun j => nI (cl j)) a5 a6 a7 (fun j => nI (fc j)) a9 (fun j => nI (mb j)) a11 a12 a13 a14 a15 a16 a17 a18 a19 a20 (nI a) 87 q w v25 v26 (nI bb) (fun j => nI (ct j)) (nI us) a30 a31 a32 a33 a34 a35 a36 a37 (fun j => nI (pil j)) (fun j => nI (rwv j)) (nI rl) v41 v42 v43 v44 v45) H := hP
      have hD : va_D A (rW h0 r cI cJ cZ v0 a1 (nI tp) (nI bs) (fun j => nI (cl j)) a5 a6 a7 (fun j => nI (fc j)) a9 (fun j => nI (mb j)) a11 a12 a13 a14 a15 a16 a17 a18 a19 a20 (nI a) 87 q w v25 v26 (nI bb) (fun j => nI (ct j)) (nI us) a30 a31 a32 a33 a34 a35 a36 a37 (fun j => nI (pil j)) (fun j => nI (rwv j)) (nI rl) v41 v42 v43 v44 v45) := hD
      refine lv_goto (tgt := 450) hx hb dX7_next_263 (by decide) ?_
      have hP9 : va_P (dC, dI) vwCl (rW h0 r cI cJ cZ v0 a1 (nI tp) (nI bs) (fun j => nI (cl j)) a5 a6 a7 (fun j => nI (fc j)) a9 (fun j => nI (mb j)) a11 a12 a13 a14 a15 a16 a17 a18 a19 a20 (nI a) 87 q w v25 v26 (nI bb) (fun j => nI (ct j)) (nI us) a30 a31 a32 a33 a34 a35 a36 a37 (fun j => nI (pil j)) (fun j => nI (rwv j)) (nI rl) v41 v42 v43 v44 v45) H := hP
      have hD9 : va_D A (rW h0 r cI cJ cZ v0 a1 (nI tp) (nI bs) (fun j => nI (cl j)) a5 a6 a7 (fun j => nI (fc j)) a9 (fun j => nI (mb j)) a11 a12 a13 a14 a15 a16 a17 a18 a19 a20 (nI a) 87 q w v25 v26 (nI bb) (fun j => nI (ct j)) (nI us) a30 a31 a32 a33 a34 a35 a36 a37 (fun j => nI (pil j)) (fun j => nI (rwv j)) (nI rl) v41 v42 v43 v44 v45) := hD
      exact W.vret hx hb hr (fun t ht hW => ⟨⟨(a, 87, q, w), rfl, ⟨(by omega), (by omega), (by first | (intro h9; exact absurd rfl h9) | (intro _; omega))⟩, by rw [ht]; exact hP9, va_K.moved hW.alike hK, hD9⟩, hS.F ht⟩) hS.2.2 dX7_next_450
    · refine lv_iconst (v := (-1)) hx hb dX7_next_254 (by decide) ?_
      refine lv_goto (tgt := 260) hx hb dX7_next_255 (by decide) ?_
      refine va_put (D := (dC, dI)) (ci := 6) (v := .int (-1)) (ty := (.int)) (C := RX7) (T := TX7) (N := 46) hx hb hts hiX7 tyX7 tyX7_ok nmX7 hown hK hP hD hS 0 rfl rfl 22 (by decide) (hts (.fieldLink RX7 136 "LinkModelsModel" "token" "I") (by decide +kernel)) (fun _ h9 => h9) rfl (by decide +kernel) rfl rfl (Nat.le_of_ble_eq_true rfl) dX7_next_260 (fun H locs hP hD hS => ?_)
      have hP : va_P (dC, dI) vwCl (rW h0 r cI cJ cZ v0 a1 (nI tp) (nI bs) (fun j => nI (cl j)) a5 a6 a7 (fun j => nI (fc j)) a9 (fun j => nI (mb j)) a11 a12 a13 a14 a15 a16 a17 a18 a19 a20 (nI a) (-1) q w v25 v26 (nI bb) (fun j => nI (ct j)) (nI us) a30 a31 a32 a33 a34 a35 a36 a37 (fun j => nI (pil j)) (fun j => nI (rwv j)) (nI rl) v41 v42 v43 v44 v45) H := hP
      have hD : va_D A (rW h0 r cI cJ cZ v0 a1 (nI tp) (nI bs) (fun j => nI (cl j)) a5 a6 a7 (fun j => nI (fc j)) a9 (fun j => nI (mb j)) a11 a12 a13 a14 a15 a16 a17 a18 a19 a20 (nI a) (-1) q w v25 v26 (nI bb) (fun j => nI (ct j)) (nI us) a30 a31 a32 a33 a34 a35 a36 a37 (fun j => nI (pil j)) (fun j => nI (rwv j)) (nI rl) v41 v42 v43 v44 v45) := hD
      refine lv_goto (tgt := 450) hx hb dX7_next_263 (by decide) ?_
      have hP9 : va_P (dC, dI) vwCl (rW h0 r cI cJ cZ v0 a1 (nI tp) (nI bs) (fun j => nI (cl j)) a5 a6 a7 (fun j => nI (fc j)) a9 (fun j => nI (mb j)) a11 a12 a13 a14 a15 a16 a17 a18 a19 a20 (nI a) (-1) q w v25 v26 (nI bb) (fun j => nI (ct j)) (nI us) a30 a31 a32 a33 a34 a35 a36 a37 (fun j => nI (pil j)) (fun j => nI (rwv j)) (nI rl) v41 v42 v43 v44 v45) H := hP
      have hD9 : va_D A (rW h0 r cI cJ cZ v0 a1 (nI tp) (nI bs) (fun j => nI (cl j)) a5 a6 a7 (fun j => nI (fc j)) a9 (fun j => nI (mb j)) a11 a12 a13 a14 a15 a16 a17 a18 a19 a20 (nI a) (-1) q w v25 v26 (nI bb) (fun j => nI (ct j)) (nI us) a30 a31 a32 a33 a34 a35 a36 a37 (fun j => nI (pil j)) (fun j => nI (rwv j)) (nI rl) v41 v42 v43 v44 v45) := hD
      exact W.vret hx hb hr (fun t ht hW => ⟨⟨(a, (-1), q, w), rfl, ⟨(by omega), (by omega), (by first | (intro h9; exact absurd rfl h9) | (intro _; omega))⟩, by rw [ht]; exact hP9, va_K.moved hW.alike hK, hD9⟩, hS.F ht⟩) hS.2.2 dX7_next_450
  have J350 : ∀ (ch : Int32) (a : Nat) (k : Int32) (q : Int32) (w : Int64) (H : Heap) (locs : List Loc) (ls : Array Slot), (az < a) → (a ≤ tp) → va_P (dC, dI) vwCl (rW h0 r cI cJ cZ v0 a1 (nI tp) (nI bs) (fun j => nI (cl j)) a5 a6 a7 (fun j => nI (fc j)) a9 (fun j => nI (mb j)) a11 a12 a13 a14 a15 a16 a17 a18 a19 a20 (nI a) k q w v25 v26 (nI bb) (fun j => nI (ct j)) (nI us) a30 a31 a32 a33 a34 a35 a36 a37 (fun j => nI (pil j)) (fun j => nI (rwv j)) (nI rl) v41 v42 v43 v44 v45) H → va_D A (rW h0 r cI cJ cZ v0 a1 (nI tp) (nI bs) (fun j => nI (cl j)) a5 a6 a7 (fun j => nI (fc j)) a9 (fun j => nI (mb j)) a11 a12 a13 a14 a15 a16 a17 a18 a19 a20 (nI a) k q w v25 v26 (nI bb) (fun j => nI (ct j)) (nI us) a30 a31 a32 a33 a34 a35 a36 a37 (fun j => nI (pil j)) (fun j => nI (rwv j)) (nI rl) v41 v42 v43 v44 v45) → va_S A s.heap H locs → lv_has ls 2 [(0, .ref h0), (1, .int ch)] → W p l e (headSpec zwX7_next { frames := 2, cells := 0, slots := 0, locals := 45 }).room s m (([.ref h0] : List Value).toArray) below meth c H locs 0 0 (MQ below (va_Qv (fun u : Nat × Int32 × Int32 × Int64 => (az ≤ (u.1)) ∧ ((u.1) ≤ tp) ∧ (¬ (u.2.1) = 0 → az < (u.1))) (fun u t => zB dC dI (A) (rW h0 r cI cJ cZ v0 a1 (nI tp) (nI bs) (fun j => nI (cl j)) a5 a6 a7 (fun j => nI (fc j)) a9 (fun j => nI (mb j)) a11 a12 a13 a14 a15 a16 a17 a18 a19 a20 (nI (u.1)) (u.2.1) (u.2.2.1) (u.2.2.2) v25 v26 (nI bb) (fun j => nI (ct j)) (nI us) a30 a31 a32 a33 a34 a35 a36 a37 (fun j => nI (pil j)) (fun j => nI (rwv j)) (nI rl) v41 v42 v43 v44 v45) [(cI, .int), (cJ, .long), (cZ, .boolean)] t) (A)) (([.ref h0] : List Value).toArray) s 0 0 A) (F0 m 350 ls []) := by
    intro ch a k q w H locs ls i350_0 i350_1 hP hD hS hl
    refine lv_aload_n hx hb dX7_next_350 rfl (lv_at hl 0 rfl) ?_
    refine lv_aload_n hx hb dX7_next_351 rfl (lv_at hl 0 rfl) ?_
    refine va_get (D := (dC, dI)) (ci := 6) (v := .int (nI a)) (C := RX7) (T := TX7) (N := 46) hx hb hts hiX7 hown hK hP 0 rfl rfl 21 (by decide) (hts (.fieldLink RX7 126 "LinkModelsModel" "at" "I") (by decide +kernel)) (fun _ h9 => h9) rfl dX7_next_352 ?_
    refine lv_aload_n hx hb dX7_next_355 rfl (lv_at hl 0 rfl) ?_
    refine va_get (D := (dC, dI)) (ci := 6) (v := .int q) (C := RX7) (T := TX7) (N := 46) hx hb hts hiX7 hown hK hP 0 rfl rfl 23 (by decide) (hts (.fieldLink RX7 129 "LinkModelsModel" "tokenAt" "I") (by decide +kernel)) (fun _ h9 => h9) rfl dX7_next_356 ?_
    refine lv_isub hx hb dX7_next_359 ?_
    refine lv_topi (fun x3 ex3 => ?_)
    refine lv_bipush (v := 6) hx hb dX7_next_360 (by decide) ?_
    refine lv_icmp_le (tgt := 369) hx hb dX7_next_362 (by decide) (fun cp362 => ?_) (fun cp362 => ?_)
    · refine lv_bipush (v := 57) hx hb dX7_next_369 (by decide) ?_
      refine va_put (D := (dC, dI)) (ci := 6) (v := .int 57) (ty := (.int)) (C := RX7) (T := TX7) (N := 46) hx hb hts hiX7 tyX7 tyX7_ok nmX7 hown hK hP hD hS 0 rfl rfl 22 (by decide) (hts (.fieldLink RX7 136 "LinkModelsModel" "token" "I") (by decide +kernel)) (fun _ h9 => h9) rfl (by decide +kernel) rfl rfl (Nat.le_of_ble_eq_true rfl) dX7_next_371 (fun H locs hP hD hS => ?_)
      have hP : va_P (dC, dI) vwCl (rW h0 r cI cJ cZ v0 a1 (nI tp) (nI bs) (fun j => nI (cl j)) a5 a6 a7 (fun j => nI (fc j)) a9 (fun j => nI (mb j)) a11 a12 a13 a14 a15 a16 a17 a18 a19 a20 (nI a) 57 q w v25 v26 (nI bb) (fun j => nI (ct j)) (nI us) a30 a31 a32 a33 a34 a35 a36 a37 (fun j => nI (pil j)) (fun j => nI (rwv j)) (nI rl) v41 v42 v43 v44 v45) H := hP
      have hD : va_D A (rW h0 r cI cJ cZ v0 a1 (nI tp) (nI bs) (fun j => nI (cl j)) a5 a6 a7 (fun j => nI (fc j)) a9 (fun j => nI (mb j)) a11 a12 a13 a14 a15 a16 a17 a18 a19 a20 (nI a) 57 q w v25 v26 (nI bb) (fun j => nI (ct j)) (nI us) a30 a31 a32 a33 a34 a35 a36 a37 (fun j => nI (pil j)) (fun j => nI (rwv j)) (nI rl) v41 v42 v43 v44 v45) := hD
      refine lv_goto (tgt := 450) hx hb dX7_next_374 (by decide) ?_
      have hP9 : va_P (dC, dI) vwCl (rW h0 r cI cJ cZ v0 a1 (nI tp) (nI bs) (fun j => nI (cl j)) a5 a6 a7 (fun j => nI (fc j)) a9 (fun j => nI (mb j)) a11 a12 a13 a14 a15 a16 a17 a18 a19 a20 (nI a) 57 q w v25 v26 (nI bb) (fun j => nI (ct j)) (nI us) a30 a31 a32 a33 a34 a35 a36 a37 (fun j => nI (pil j)) (fun j => nI (rwv j)) (nI rl) v41 v42 v43 v44 v45) H := hP
      have hD9 : va_D A (rW h0 r cI cJ cZ v0 a1 (nI tp) (nI bs) (fun j => nI (cl j)) a5 a6 a7 (fun j => nI (fc j)) a9 (fun j => nI (mb j)) a11 a12 a13 a14 a15 a16 a17 a18 a19 a20 (nI a) 57 q w v25 v26 (nI bb) (fun j => nI (ct j)) (nI us) a30 a31 a32 a33 a34 a35 a36 a37 (fun j => nI (pil j)) (fun j => nI (rwv j)) (nI rl) v41 v42 v43 v44 v45) := hD
      exact W.vret hx hb hr (fun t ht hW => ⟨⟨(a, 57, q, w), rfl, ⟨(by omega), (by omega), (by first | (intro h9; exact absurd rfl h9) | (intro _; omega))⟩, by rw [ht]; exact hP9, va_K.moved hW.alike hK, hD9⟩, hS.F ht⟩) hS.2.2 dX7_next_450
    · refine lv_iconst (v := (-1)) hx hb dX7_next_365 (by decide) ?_
      refine lv_goto (tgt := 371) hx hb dX7_next_366 (by decide) ?_
      refine va_put (D := (dC, dI)) (ci := 6) (v := .int (-1)) (ty := (.int)) (C := RX7) (T := TX7) (N := 46) hx hb hts hiX7 tyX7 tyX7_ok nmX7 hown hK hP hD hS 0 rfl rfl 22 (by decide) (hts (.fieldLink RX7 136 "LinkModelsModel" "token" "I") (by decide +kernel)) (fun _ h9 => h9) rfl (by decide +kernel) rfl rfl (Nat.le_of_ble_eq_true rfl) dX7_next_371 (fun H locs hP hD hS => ?_)
      have hP : va_P (dC, dI) vwCl (rW h0 r cI cJ cZ v0 a1 (nI tp) (nI bs) (fun j => nI (cl j)) a5 a6 a7 (fun j => nI (fc j)) a9 (fun j => nI (mb j)) a11 a12 a13 a14 a15 a16 a17 a18 a19 a20 (nI a) (-1) q w v25 v26 (nI bb) (fun j => nI (ct j)) (nI us) a30 a31 a32 a33 a34 a35 a36 a37 (fun j => nI (pil j)) (fun j => nI (rwv j)) (nI rl) v41 v42 v43 v44 v45) H := hP
      have hD : va_D A (rW h0 r cI cJ cZ v0 a1 (nI tp) (nI bs) (fun j => nI (cl j)) a5 a6 a7 (fun j => nI (fc j)) a9 (fun j => nI (mb j)) a11 a12 a13 a14 a15 a16 a17 a18 a19 a20 (nI a) (-1) q w v25 v26 (nI bb) (fun j => nI (ct j)) (nI us) a30 a31 a32 a33 a34 a35 a36 a37 (fun j => nI (pil j)) (fun j => nI (rwv j)) (nI rl) v41 v42 v43 v44 v45) := hD
      refine lv_goto (tgt := 450) hx hb dX7_next_374 (by decide) ?_
      have hP9 : va_P (dC, dI) vwCl (rW h0 r cI cJ cZ v0 a1 (nI tp) (nI bs) (fun j => nI (cl j)) a5 a6 a7 (fun j => nI (fc j)) a9 (fun j => nI (mb j)) a11 a12 a13 a14 a15 a16 a17 a18 a19 a20 (nI a) (-1) q w v25 v26 (nI bb) (fun j => nI (ct j)) (nI us) a30 a31 a32 a33 a34 a35 a36 a37 (fun j => nI (pil j)) (fun j => nI (rwv j)) (nI rl) v41 v42 v43 v44 v45) H := hP
      have hD9 : va_D A (rW h0 r cI cJ cZ v0 a1 (nI tp) (nI bs) (fun j => nI (cl j)) a5 a6 a7 (fun j => nI (fc j)) a9 (fun j => nI (mb j)) a11 a12 a13 a14 a15 a16 a17 a18 a19 a20 (nI a) (-1) q w v25 v26 (nI bb) (fun j => nI (ct j)) (nI us) a30 a31 a32 a33 a34 a35 a36 a37 (fun j => nI (pil j)) (fun j => nI (rwv j)) (nI rl) v41 v42 v43 v44 v45) := hD
      exact W.vret hx hb hr (fun t ht hW => ⟨⟨(a, (-1), q, w), rfl, ⟨(by omega), (by omega), (by first | (intro h9; exact absurd rfl h9) | (intro _; omega))⟩, by rw [ht]; exact hP9, va_K.moved hW.alike hK, hD9⟩, hS.F ht⟩) hS.2.2 dX7_next_450
  have J94 : ∀ (z94 : Nat) (a0 : Nat) (ch : Int32) (a : Nat) (k : Int32) (q : Int32) (w : Int64) (H : Heap) (locs : List Loc) (ls : Array Slot), tp - a < z94 → (az ≤ a0) → (a0 ≤ a) → (a ≤ tp) → (a0 < tp) → (a = a0 → kIn 65 90 (a1 a0) = 1) → va_P (dC, dI) vwCl (rW h0 r cI cJ cZ v0 a1 (nI tp) (nI bs) (fun j => nI (cl j)) a5 a6 a7 (fun j => nI (fc j)) a9 (fun j => nI (mb j)) a11 a12 a13 a14 a15 a16 a17 a18 a19 a20 (nI a) k q w v25 v26 (nI bb) (fun j => nI (ct j)) (nI us) a30 a31 a32 a33 a34 a35 a36 a37 (fun j => nI (pil j)) (fun j => nI (rwv j)) (nI rl) v41 v42 v43 v44 v45) H → va_D A (rW h0 r cI cJ cZ v0 a1 (nI tp) (nI bs) (fun j => nI (cl j)) a5 a6 a7 (fun j => nI (fc j)) a9 (fun j => nI (mb j)) a11 a12 a13 a14 a15 a16 a17 a18 a19 a20 (nI a) k q w v25 v26 (nI bb) (fun j => nI (ct j)) (nI us) a30 a31 a32 a33 a34 a35 a36 a37 (fun j => nI (pil j)) (fun j => nI (rwv j)) (nI rl) v41 v42 v43 v44 v45) → va_S A s.heap H locs → lv_has ls 2 [(0, .ref h0), (1, .int ch)] → W p l e (headSpec zwX7_next { frames := 2, cells := 0, slots := 0, locals := 45 }).room s m (([.ref h0] : List Value).toArray) below meth c H locs 0 0 (MQ below (va_Qv (fun u : Nat × Int32 × Int32 × Int64 => (az ≤ (u.1)) ∧ ((u.1) ≤ tp) ∧ (¬ (u.2.1) = 0 → az < (u.1))) (fun u t => zB dC dI (A) (rW h0 r cI cJ cZ v0 a1 (nI tp) (nI bs) (fun j => nI (cl j)) a5 a6 a7 (fun j => nI (fc j)) a9 (fun j => nI (mb j)) a11 a12 a13 a14 a15 a16 a17 a18 a19 a20 (nI (u.1)) (u.2.1) (u.2.2.1) (u.2.2.2) v25 v26 (nI bb) (fun j => nI (ct j)) (nI us) a30 a31 a32 a33 a34 a35 a36 a37 (fun j => nI (pil j)) (fun j => nI (rwv j)) (nI rl) v41 v42 v43 v44 v45) [(cI, .int), (cJ, .long), (cZ, .boolean)] t) (A)) (([.ref h0] : List Value).toArray) s 0 0 A) (F0 m 94 ls []) := by
    intro z94
    induction z94 with
    | zero => intro a0 ch a k q w H locs ls h9; exact absurd h9 (Nat.not_lt_zero _)
    | succ z94 ih94 =>
      intro a0 ch a k q w H locs ls hm94 i94_0 i94_1 i94_2 i94_3 i94_4 hP hD hS hl
      refine lv_aload_n hx hb dX7_next_94 rfl (lv_at hl 0 rfl) ?_
      refine va_get (D := (dC, dI)) (ci := 6) (v := .int (nI a)) (C := RX7) (T := TX7) (N := 46) hx hb hts hiX7 hown hK hP 0 rfl rfl 21 (by decide) (hts (.fieldLink RX7 126 "LinkModelsModel" "at" "I") (by decide +kernel)) (fun _ h9 => h9) rfl dX7_next_95 ?_
      refine lv_aload_n hx hb dX7_next_98 rfl (lv_at hl 0 rfl) ?_
      refine va_get (D := (dC, dI)) (ci := 6) (v := .int (nI tp)) (C := RX7) (T := TX7) (N := 46) hx hb hts hiX7 hown hK hP 0 rfl rfl 2 (by decide) (hts (.fieldLink RX7 109 "LinkModelsModel" "taped" "I") (by decide +kernel)) (fun _ h9 => h9) rfl dX7_next_99 ?_
      refine lv_icmp_ge (tgt := 155) hx hb dX7_next_102 (by decide) (fun cp102 => ?_) (fun cp102 => ?_)
      · have qcp102 : tp ≤ a := (nI_leI (a := tp) (b := a) (by omega) (by omega)).mp cp102
        exact J155 ch a k q w _ _ ls  (by omega) (by omega) hP hD hS (lv_sub hl [0, 1] rfl)
      · have qcp102 : ¬ tp ≤ a := fun h9 => cp102 ((nI_leI (a := tp) (b := a) (by omega) (by omega)).mpr h9)
        refine lv_aload_n hx hb dX7_next_105 rfl (lv_at hl 0 rfl) ?_
        have hFc := z_freeW hD hS hA
        refine vp_callSi (W.runV (As := []) (rest := []) ⟨hx, hb, hml, hown, hts⟩ (kX7_here l dC dI h0 r cI cJ cZ v0 a1 tp bs cl a5 a6 a7 fc a9 mb a11 a12 a13 a14 a15 a16 a17 a18 a19 a20 a k q w v25 v26 bb ct us a30 a31 a32 a33 a34 a35 a36 a37 pil rwv rl v41 v42 v43 v44 v45 ⟨by omega, by omega, by omega, hcl, hfc, hmb, hct, hpil, hrwv⟩ (by first | omega | assumption | trivial) H.size) (cwV 0 hts zgX7_next_X7_here_139 rfl rfl rfl (by decide +kernel) ⟨(show 0 + 1 ≤ 2 by omega), (show 8 + (1 + 11) + 0 ≤ 45 by omega)⟩) (zVm (ci := 6) (q0 := 0) (q := (RX7, TX7, 46)) hK hP hD hL hS.2.1 hFc rfl rfl rfl) rfl rfl hl.1 rfl (lv_room (Nat.le_of_ble_eq_true rfl)) dX7_next_106 ⟨(show 0 + 0 ≤ 0 by omega), (show 0 + 0 ≤ 0 by omega)⟩) (fun r4 hw => ?_)
        have hw : (r4 = if a < tp then a1 a else 0) := hw
        have w0r4 := hw
        obtain rfl : r4 = a1 a := by rw [w0r4, if_pos (by omega)]
        refine vp_callSi (W.runS (As := [.int (a1 a)]) (rest := []) ⟨hx, hb, hml, hown, hts⟩ (kX7_isBig l dC dI (a1 a)) (va_cwS 1 hts zgX7_next_X7_isBig_143 rfl rfl rfl (by decide +kernel) ⟨(show 1 + 1 ≤ 2 by omega), (show 8 + (1 + 11) + 25 ≤ 45 by omega)⟩) (zSr (ws := []) (tys := []) (hK.sub (tys' := []) [] rfl) (hP.sub (ws' := []) [] rfl)) rfl rfl hl.1 rfl (lv_room (Nat.le_of_ble_eq_true rfl)) dX7_next_109 ⟨(show 0 + 0 ≤ 0 by omega), (show 0 + 0 ≤ 0 by omega)⟩) (fun r5 hw => ?_)
        have w0r5 : r5 = kIn 65 90 ((a1 a)) := hw
        refine lv_if_ne (tgt := 125) hx hb dX7_next_112 (by decide) (fun b112 => ?_) (fun b112 => ?_)
        · refine lv_aload_n hx hb dX7_next_125 rfl (lv_at hl 0 rfl) ?_
          refine lv_aload_n hx hb dX7_next_126 rfl (lv_at hl 0 rfl) ?_
          refine va_get (D := (dC, dI)) (ci := 6) (v := .long w) (C := RX7) (T := TX7) (N := 46) hx hb hts hiX7 hown hK hP 0 rfl rfl 24 (by decide) (hts (.fieldLink RX7 132 "LinkModelsModel" "value" "J") (by decide +kernel)) (fun _ h9 => h9) rfl dX7_next_127 ?_
          refine lv_bipush (v := 8) hx hb dX7_next_130 (by decide) ?_
          refine lv_lshl hx hb dX7_next_132 rfl ?_
          refine lv_topl (fun x6 ex6 => ?_)
          refine lv_aload_n hx hb dX7_next_133 rfl (lv_at hl 0 rfl) ?_
          have hFc := z_freeW hD hS hA
          refine vp_callSi (W.runV (As := []) (rest := [.long x6, .ref h0]) ⟨hx, hb, hml, hown, hts⟩ (kX7_here l dC dI h0 r cI cJ cZ v0 a1 tp bs cl a5 a6 a7 fc a9 mb a11 a12 a13 a14 a15 a16 a17 a18 a19 a20 a k q w v25 v26 bb ct us a30 a31 a32 a33 a34 a35 a36 a37 pil rwv rl v41 v42 v43 v44 v45 ⟨by omega, by omega, by omega, hcl, hfc, hmb, hct, hpil, hrwv⟩ (by first | omega | assumption | trivial) H.size) (cwV 0 hts zgX7_next_X7_here_139 rfl rfl rfl (by decide +kernel) ⟨(show 0 + 1 ≤ 2 by omega), (show 8 + (1 + 11) + 0 ≤ 45 by omega)⟩) (zVm (ci := 6) (q0 := 0) (q := (RX7, TX7, 46)) hK hP hD hL hS.2.1 hFc rfl rfl rfl) rfl rfl hl.1 rfl (lv_room (Nat.le_of_ble_eq_true rfl)) dX7_next_134 ⟨(show 0 + 0 ≤ 0 by omega), (show 0 + 0 ≤ 0 by omega)⟩) (fun r7 hw => ?_)
          have hw : (r7 = if a < tp then a1 a else 0) := hw
          have w0r7 := hw
          obtain rfl : r7 = a1 a := by rw [w0r7, if_pos (by omega)]
          refine lv_i2l hx hb dX7_next_137 rfl ?_
          refine lv_topl (fun x8 ex8 => ?_)
          refine lv_lor hx hb dX7_next_138 ?_
          refine lv_topl (fun x9 ex9 => ?_)
          refine va_put (D := (dC, dI)) (ci := 6) (v := .long x9) (ty := (.long)) (C := RX7) (T := TX7) (N := 46) hx hb hts hiX7 tyX7 tyX7_ok nmX7 hown hK hP hD hS 0 rfl rfl 24 (by decide) (hts (.fieldLink RX7 132 "LinkModelsModel" "value" "J") (by decide +kernel)) (fun _ h9 => h9) rfl (by decide +kernel) rfl rfl (Nat.le_of_ble_eq_true rfl) dX7_next_139 (fun H locs hP hD hS => ?_)
          have hP : va_P (dC, dI) vwCl (rW h0 r cI cJ cZ v0 a1 (nI tp) (nI bs) (fun j => nI (cl j)) a5 a6 a7 (fun j => nI (fc j)) a9 (fun j => nI (mb j)) a11 a12 a13 a14 a15 a16 a17 a18 a19 a20 (nI a) k q x9 v25 v26 (nI bb) (fun j => nI (ct j)) (nI us) a30 a31 a32 a33 a34 a35 a36 a37 (fun j => nI (pil j)) (fun j => nI (rwv j)) (nI rl) v41 v42 v43 v44 v45) H := hP
          have hD : va_D A (rW h0 r cI cJ cZ v0 a1 (nI tp) (nI bs) (fun j => nI (cl j)) a5 a6 a7 (fun j => nI (fc j)) a9 (fun j => nI (mb j)) a11 a12 a13 a14 a15 a16 a17 a18 a19 a20 (nI a) k q x9 v25 v26 (nI bb) (fun j => nI (ct j)) (nI us) a30 a31 a32 a33 a34 a35 a36 a37 (fun j => nI (pil j)) (fun j => nI (rwv j)) (nI rl) v41 v42 v43 v44 v45) := hD
          refine lv_aload_n hx hb dX7_next_142 rfl (lv_at hl 0 rfl) ?_
          refine lv_dup hx hb dX7_next_143 rfl ?_
          refine va_get (D := (dC, dI)) (ci := 6) (v := .int (nI a)) (C := RX7) (T := TX7) (N := 46) hx hb hts hiX7 hown hK hP 0 rfl rfl 21 (by decide) (hts (.fieldLink RX7 126 "LinkModelsModel" "at" "I") (by decide +kernel)) (fun _ h9 => h9) rfl dX7_next_144 ?_
          refine lv_iconst (v := 1) hx hb dX7_next_147 (by decide) ?_
          refine lv_iadd hx hb dX7_next_148 ?_
          refine lv_topi (fun x10 ex10 => ?_)
          obtain rfl : x10 = nI (a + 1) := by rw [ex10]; exact nI_add (a) (1)
          refine va_put (D := (dC, dI)) (ci := 6) (v := .int (nI (a + 1))) (ty := (.int)) (C := RX7) (T := TX7) (N := 46) hx hb hts hiX7 tyX7 tyX7_ok nmX7 hown hK hP hD hS 0 rfl rfl 21 (by decide) (hts (.fieldLink RX7 126 "LinkModelsModel" "at" "I") (by decide +kernel)) (fun _ h9 => h9) rfl (by decide +kernel) rfl rfl (Nat.le_of_ble_eq_true rfl) dX7_next_149 (fun H locs hP hD hS => ?_)
          have hP : va_P (dC, dI) vwCl (rW h0 r cI cJ cZ v0 a1 (nI tp) (nI bs) (fun j => nI (cl j)) a5 a6 a7 (fun j => nI (fc j)) a9 (fun j => nI (mb j)) a11 a12 a13 a14 a15 a16 a17 a18 a19 a20 (nI (a + 1)) k q x9 v25 v26 (nI bb) (fun j => nI (ct j)) (nI us) a30 a31 a32 a33 a34 a35 a36 a37 (fun j => nI (pil j)) (fun j => nI (rwv j)) (nI rl) v41 v42 v43 v44 v45) H := hP
          have hD : va_D A (rW h0 r cI cJ cZ v0 a1 (nI tp) (nI bs) (fun j => nI (cl j)) a5 a6 a7 (fun j => nI (fc j)) a9 (fun j => nI (mb j)) a11 a12 a13 a14 a15 a16 a17 a18 a19 a20 (nI (a + 1)) k q x9 v25 v26 (nI bb) (fun j => nI (ct j)) (nI us) a30 a31 a32 a33 a34 a35 a36 a37 (fun j => nI (pil j)) (fun j => nI (rwv j)) (nI rl) v41 v42 v43 v44 v45) := hD
          refine lv_goto (tgt := 94) hx hb dX7_next_152 (by decide) ?_
          exact ih94 a0 ch (a + 1) k q x9 _ _ ls (by omega) (by omega) (by omega) (by omega) (by omega) (by first | (intro h9; omega) | (intro _; assumption)) hP hD hS (lv_sub hl [0, 1] rfl)
        · refine lv_aload_n hx hb dX7_next_115 rfl (lv_at hl 0 rfl) ?_
          have hFc := z_freeW hD hS hA
          refine vp_callSi (W.runV (As := []) (rest := []) ⟨hx, hb, hml, hown, hts⟩ (kX7_here l dC dI h0 r cI cJ cZ v0 a1 tp bs cl a5 a6 a7 fc a9 mb a11 a12 a13 a14 a15 a16 a17 a18 a19 a20 a k q w v25 v26 bb ct us a30 a31 a32 a33 a34 a35 a36 a37 pil rwv rl v41 v42 v43 v44 v45 ⟨by omega, by omega, by omega, hcl, hfc, hmb, hct, hpil, hrwv⟩ (by first | omega | assumption | trivial) H.size) (cwV 0 hts zgX7_next_X7_here_139 rfl rfl rfl (by decide +kernel) ⟨(show 0 + 1 ≤ 2 by omega), (show 8 + (1 + 11) + 0 ≤ 45 by omega)⟩) (zVm (ci := 6) (q0 := 0) (q := (RX7, TX7, 46)) hK hP hD hL hS.2.1 hFc rfl rfl rfl) rfl rfl hl.1 rfl (lv_room (Nat.le_of_ble_eq_true rfl)) dX7_next_116 ⟨(show 0 + 0 ≤ 0 by omega), (show 0 + 0 ≤ 0 by omega)⟩) (fun r11 hw => ?_)
          have hw : (r11 = if a < tp then a1 a else 0) := hw
          have w0r11 := hw
          obtain rfl : r11 = a1 a := by rw [w0r11, if_pos (by omega)]
          refine vp_callSi (W.runS (As := [.int (a1 a)]) (rest := []) ⟨hx, hb, hml, hown, hts⟩ (kX7_isDigit l dC dI (a1 a)) (va_cwS 1 hts zgX7_next_X7_isDigit_147 rfl rfl rfl (by decide +kernel) ⟨(show 1 + 1 ≤ 2 by omega), (show 8 + (1 + 11) + 25 ≤ 45 by omega)⟩) (zSr (ws := []) (tys := []) (hK.sub (tys' := []) [] rfl) (hP.sub (ws' := []) [] rfl)) rfl rfl hl.1 rfl (lv_room (Nat.le_of_ble_eq_true rfl)) dX7_next_119 ⟨(show 0 + 0 ≤ 0 by omega), (show 0 + 0 ≤ 0 by omega)⟩) (fun r12 hw => ?_)
          have w0r12 : r12 = kIn 48 57 ((a1 a)) := hw
          refine lv_if_eq (tgt := 155) hx hb dX7_next_122 (by decide) (fun cp122 => ?_) (fun cp122 => ?_)
          · exact J155 ch a k q w _ _ ls  (by first | omega | (rcases Nat.lt_or_ge a0 a with h8 | h8; (omega); exact absurd (show (0 : Int32) = 1 from (w0r5.symm.trans b112).symm.trans (show kIn 65 90 (a1 a) = 1 by rw [show a = a0 by omega]; exact i94_4 (by omega))) (by decide))) (by omega) hP hD hS (lv_sub hl [0, 1] rfl)
          · refine lv_aload_n hx hb dX7_next_125 rfl (lv_at hl 0 rfl) ?_
            refine lv_aload_n hx hb dX7_next_126 rfl (lv_at hl 0 rfl) ?_
            refine va_get (D := (dC, dI)) (ci := 6) (v := .long w) (C := RX7) (T := TX7) (N := 46) hx hb hts hiX7 hown hK hP 0 rfl rfl 24 (by decide) (hts (.fieldLink RX7 132 "LinkModelsModel" "value" "J") (by decide +kernel)) (fun _ h9 => h9) rfl dX7_next_127 ?_
            refine lv_bipush (v := 8) hx hb dX7_next_130 (by decide) ?_
            refine lv_lshl hx hb dX7_next_132 rfl ?_
            refine lv_topl (fun x13 ex13 => ?_)
            refine lv_aload_n hx hb dX7_next_133 rfl (lv_at hl 0 rfl) ?_
            have hFc := z_freeW hD hS hA
            refine vp_callSi (W.runV (As := []) (rest := [.long x13, .ref h0]) ⟨hx, hb, hml, hown, hts⟩ (kX7_here l dC dI h0 r cI cJ cZ v0 a1 tp bs cl a5 a6 a7 fc a9 mb a11 a12 a13 a14 a15 a16 a17 a18 a19 a20 a k q w v25 v26 bb ct us a30 a31 a32 a33 a34 a35 a36 a37 pil rwv rl v41 v42 v43 v44 v45 ⟨by omega, by omega, by omega, hcl, hfc, hmb, hct, hpil, hrwv⟩ (by first | omega | assumption | trivial) H.size) (cwV 0 hts zgX7_next_X7_here_139 rfl rfl rfl (by decide +kernel) ⟨(show 0 + 1 ≤ 2 by omega), (show 8 + (1 + 11) + 0 ≤ 45 by omega)⟩) (zVm (ci := 6) (q0 := 0) (q := (RX7, TX7, 46)) hK hP hD hL hS.2.1 hFc rfl rfl rfl) rfl rfl hl.1 rfl (lv_room (Nat.le_of_ble_eq_true rfl)) dX7_next_134 ⟨(show 0 + 0 ≤ 0 by omega), (show 0 + 0 ≤ 0 by omega)⟩) (fun r14 hw => ?_)
            have hw : (r14 = if a < tp then a1 a else 0) := hw
            have w0r14 := hw
            obtain rfl : r14 = a1 a := by rw [w0r14, if_pos (by omega)]
            refine lv_i2l hx hb dX7_next_137 rfl ?_
            refine lv_topl (fun x15 ex15 => ?_)
            refine lv_lor hx hb dX7_next_138 ?_
            refine lv_topl (fun x16 ex16 => ?_)
            refine va_put (D := (dC, dI)) (ci := 6) (v := .long x16) (ty := (.long)) (C := RX7) (T := TX7) (N := 46) hx hb hts hiX7 tyX7 tyX7_ok nmX7 hown hK hP hD hS 0 rfl rfl 24 (by decide) (hts (.fieldLink RX7 132 "LinkModelsModel" "value" "J") (by decide +kernel)) (fun _ h9 => h9) rfl (by decide +kernel) rfl rfl (Nat.le_of_ble_eq_true rfl) dX7_next_139 (fun H locs hP hD hS => ?_)
            have hP : va_P (dC, dI) vwCl (rW h0 r cI cJ cZ v0 a1 (nI tp) (nI bs) (fun j => nI (cl j)) a5 a6 a7 (fun j => nI (fc j)) a9 (fun j => nI (mb j)) a11 a12 a13 a14 a15 a16 a17 a18 a19 a20 (nI a) k q x16 v25 v26 (nI bb) (fun j => nI (ct j)) (nI us) a30 a31 a32 a33 a34 a35 a36 a37 (fun j => nI (pil j)) (fun j => nI (rwv j)) (nI rl) v41 v42 v43 v44 v45) H := hP
            have hD : va_D A (rW h0 r cI cJ cZ v0 a1 (nI tp) (nI bs) (fun j => nI (cl j)) a5 a6 a7 (fun j => nI (fc j)) a9 (fun j => nI (mb j)) a11 a12 a13 a14 a15 a16 a17 a18 a19 a20 (nI a) k q x16 v25 v26 (nI bb) (fun j => nI (ct j)) (nI us) a30 a31 a32 a33 a34 a35 a36 a37 (fun j => nI (pil j)) (fun j => nI (rwv j)) (nI rl) v41 v42 v43 v44 v45) := hD
            refine lv_aload_n hx hb dX7_next_142 rfl (lv_at hl 0 rfl) ?_
            refine lv_dup hx hb dX7_next_143 rfl ?_
            refine va_get (D := (dC, dI)) (ci := 6) (v := .int (nI a)) (C := RX7) (T := TX7) (N := 46) hx hb hts hiX7 hown hK hP 0 rfl rfl 21 (by decide) (hts (.fieldLink RX7 126 "LinkModelsModel" "at" "I") (by decide +kernel)) (fun _ h9 => h9) rfl dX7_next_144 ?_
            refine lv_iconst (v := 1) hx hb dX7_next_147 (by decide) ?_
            refine lv_iadd hx hb dX7_next_148 ?_
            refine lv_topi (fun x17 ex17 => ?_)
            obtain rfl : x17 = nI (a + 1) := by rw [ex17]; exact nI_add (a) (1)
            refine va_put (D := (dC, dI)) (ci := 6) (v := .int (nI (a + 1))) (ty := (.int)) (C := RX7) (T := TX7) (N := 46) hx hb hts hiX7 tyX7 tyX7_ok nmX7 hown hK hP hD hS 0 rfl rfl 21 (by decide) (hts (.fieldLink RX7 126 "LinkModelsModel" "at" "I") (by decide +kernel)) (fun _ h9 => h9) rfl (by decide +kernel) rfl rfl (Nat.le_of_ble_eq_true rfl) dX7_next_149 (fun H locs hP hD hS => ?_)
            have hP : va_P (dC, dI) vwCl (rW h0 r cI cJ cZ v0 a1 (nI tp) (nI bs) (fun j => nI (cl j)) a5 a6 a7 (fun j => nI (fc j)) a9 (fun j => nI (mb j)) a11 a12 a13 a14 a15 a16 a17 a18 a19 a20 (nI (a + 1)) k q x16 v25 v26 (nI bb) (fun j => nI (ct j)) (nI us) a30 a31 a32 a33 a34 a35 a36 a37 (fun j => nI (pil j)) (fun j => nI (rwv j)) (nI rl) v41 v42 v43 v44 v45) H := hP
            have hD : va_D A (rW h0 r cI cJ cZ v0 a1 (nI tp) (nI bs) (fun j => nI (cl j)) a5 a6 a7 (fun j => nI (fc j)) a9 (fun j => nI (mb j)) a11 a12 a13 a14 a15 a16 a17 a18 a19 a20 (nI (a + 1)) k q x16 v25 v26 (nI bb) (fun j => nI (ct j)) (nI us) a30 a31 a32 a33 a34 a35 a36 a37 (fun j => nI (pil j)) (fun j => nI (rwv j)) (nI rl) v41 v42 v43 v44 v45) := hD
            refine lv_goto (tgt := 94) hx hb dX7_next_152 (by decide) ?_
            exact ih94 a0 ch (a + 1) k q x16 _ _ ls (by omega) (by omega) (by omega) (by omega) (by omega) (by first | (intro h9; omega) | (intro _; assumption)) hP hD hS (lv_sub hl [0, 1] rfl)
  have J188 : ∀ (z188 : Nat) (a0 : Nat) (ch : Int32) (a : Nat) (k : Int32) (q : Int32) (w : Int64) (H : Heap) (locs : List Loc) (ls : Array Slot), tp - a < z188 → (az ≤ a0) → (a0 ≤ a) → (a ≤ tp) → (a0 < tp) → (a = a0 → kIn 97 122 (a1 a0) = 1) → va_P (dC, dI) vwCl (rW h0 r cI cJ cZ v0 a1 (nI tp) (nI bs) (fun j => nI (cl j)) a5 a6 a7 (fun j => nI (fc j)) a9 (fun j => nI (mb j)) a11 a12 a13 a14 a15 a16 a17 a18 a19 a20 (nI a) k q w v25 v26 (nI bb) (fun j => nI (ct j)) (nI us) a30 a31 a32 a33 a34 a35 a36 a37 (fun j => nI (pil j)) (fun j => nI (rwv j)) (nI rl) v41 v42 v43 v44 v45) H → va_D A (rW h0 r cI cJ cZ v0 a1 (nI tp) (nI bs) (fun j => nI (cl j)) a5 a6 a7 (fun j => nI (fc j)) a9 (fun j => nI (mb j)) a11 a12 a13 a14 a15 a16 a17 a18 a19 a20 (nI a) k q w v25 v26 (nI bb) (fun j => nI (ct j)) (nI us) a30 a31 a32 a33 a34 a35 a36 a37 (fun j => nI (pil j)) (fun j => nI (rwv j)) (nI rl) v41 v42 v43 v44 v45) → va_S A s.heap H locs → lv_has ls 2 [(0, .ref h0), (1, .int ch)] → W p l e (headSpec zwX7_next { frames := 2, cells := 0, slots := 0, locals := 45 }).room s m (([.ref h0] : List Value).toArray) below meth c H locs 0 0 (MQ below (va_Qv (fun u : Nat × Int32 × Int32 × Int64 => (az ≤ (u.1)) ∧ ((u.1) ≤ tp) ∧ (¬ (u.2.1) = 0 → az < (u.1))) (fun u t => zB dC dI (A) (rW h0 r cI cJ cZ v0 a1 (nI tp) (nI bs) (fun j => nI (cl j)) a5 a6 a7 (fun j => nI (fc j)) a9 (fun j => nI (mb j)) a11 a12 a13 a14 a15 a16 a17 a18 a19 a20 (nI (u.1)) (u.2.1) (u.2.2.1) (u.2.2.2) v25 v26 (nI bb) (fun j => nI (ct j)) (nI us) a30 a31 a32 a33 a34 a35 a36 a37 (fun j => nI (pil j)) (fun j => nI (rwv j)) (nI rl) v41 v42 v43 v44 v45) [(cI, .int), (cJ, .long), (cZ, .boolean)] t) (A)) (([.ref h0] : List Value).toArray) s 0 0 A) (F0 m 188 ls []) := by
    intro z188
    induction z188 with
    | zero => intro a0 ch a k q w H locs ls h9; exact absurd h9 (Nat.not_lt_zero _)
    | succ z188 ih188 =>
      intro a0 ch a k q w H locs ls hm188 i188_0 i188_1 i188_2 i188_3 i188_4 hP hD hS hl
      refine lv_aload_n hx hb dX7_next_188 rfl (lv_at hl 0 rfl) ?_
      refine va_get (D := (dC, dI)) (ci := 6) (v := .int (nI a)) (C := RX7) (T := TX7) (N := 46) hx hb hts hiX7 hown hK hP 0 rfl rfl 21 (by decide) (hts (.fieldLink RX7 126 "LinkModelsModel" "at" "I") (by decide +kernel)) (fun _ h9 => h9) rfl dX7_next_189 ?_
      refine lv_aload_n hx hb dX7_next_192 rfl (lv_at hl 0 rfl) ?_
      refine va_get (D := (dC, dI)) (ci := 6) (v := .int (nI tp)) (C := RX7) (T := TX7) (N := 46) hx hb hts hiX7 hown hK hP 0 rfl rfl 2 (by decide) (hts (.fieldLink RX7 109 "LinkModelsModel" "taped" "I") (by decide +kernel)) (fun _ h9 => h9) rfl dX7_next_193 ?_
      refine lv_icmp_ge (tgt := 239) hx hb dX7_next_196 (by decide) (fun cp196 => ?_) (fun cp196 => ?_)
      · have qcp196 : tp ≤ a := (nI_leI (a := tp) (b := a) (by omega) (by omega)).mp cp196
        exact J239 ch a k q w _ _ ls  (by omega) (by omega) hP hD hS (lv_sub hl [0, 1] rfl)
      · have qcp196 : ¬ tp ≤ a := fun h9 => cp196 ((nI_leI (a := tp) (b := a) (by omega) (by omega)).mpr h9)
        refine lv_aload_n hx hb dX7_next_199 rfl (lv_at hl 0 rfl) ?_
        have hFc := z_freeW hD hS hA
        refine vp_callSi (W.runV (As := []) (rest := []) ⟨hx, hb, hml, hown, hts⟩ (kX7_here l dC dI h0 r cI cJ cZ v0 a1 tp bs cl a5 a6 a7 fc a9 mb a11 a12 a13 a14 a15 a16 a17 a18 a19 a20 a k q w v25 v26 bb ct us a30 a31 a32 a33 a34 a35 a36 a37 pil rwv rl v41 v42 v43 v44 v45 ⟨by omega, by omega, by omega, hcl, hfc, hmb, hct, hpil, hrwv⟩ (by first | omega | assumption | trivial) H.size) (cwV 0 hts zgX7_next_X7_here_139 rfl rfl rfl (by decide +kernel) ⟨(show 0 + 1 ≤ 2 by omega), (show 8 + (1 + 11) + 0 ≤ 45 by omega)⟩) (zVm (ci := 6) (q0 := 0) (q := (RX7, TX7, 46)) hK hP hD hL hS.2.1 hFc rfl rfl rfl) rfl rfl hl.1 rfl (lv_room (Nat.le_of_ble_eq_true rfl)) dX7_next_200 ⟨(show 0 + 0 ≤ 0 by omega), (show 0 + 0 ≤ 0 by omega)⟩) (fun r18 hw => ?_)
        have hw : (r18 = if a < tp then a1 a else 0) := hw
        have w0r18 := hw
        obtain rfl : r18 = a1 a := by rw [w0r18, if_pos (by omega)]
        refine vp_callSi (W.runS (As := [.int (a1 a)]) (rest := []) ⟨hx, hb, hml, hown, hts⟩ (kX7_isSmall l dC dI (a1 a)) (va_cwS 1 hts zgX7_next_X7_isSmall_150 rfl rfl rfl (by decide +kernel) ⟨(show 1 + 1 ≤ 2 by omega), (show 8 + (1 + 11) + 25 ≤ 45 by omega)⟩) (zSr (ws := []) (tys := []) (hK.sub (tys' := []) [] rfl) (hP.sub (ws' := []) [] rfl)) rfl rfl hl.1 rfl (lv_room (Nat.le_of_ble_eq_true rfl)) dX7_next_203 ⟨(show 0 + 0 ≤ 0 by omega), (show 0 + 0 ≤ 0 by omega)⟩) (fun r19 hw => ?_)
        have w0r19 : r19 = kIn 97 122 ((a1 a)) := hw
        refine lv_if_eq (tgt := 239) hx hb dX7_next_206 (by decide) (fun b206 => ?_) (fun b206 => ?_)
        · exact J239 ch a k q w _ _ ls  (by first | omega | (rcases Nat.lt_or_ge a0 a with h8 | h8; (omega); exact absurd (show (0 : Int32) = 1 from (w0r19.symm.trans b206).symm.trans (show kIn 97 122 (a1 a) = 1 by rw [show a = a0 by omega]; exact i188_4 (by omega))) (by decide))) (by omega) hP hD hS (lv_sub hl [0, 1] rfl)
        · refine lv_aload_n hx hb dX7_next_209 rfl (lv_at hl 0 rfl) ?_
          refine lv_aload_n hx hb dX7_next_210 rfl (lv_at hl 0 rfl) ?_
          refine va_get (D := (dC, dI)) (ci := 6) (v := .long w) (C := RX7) (T := TX7) (N := 46) hx hb hts hiX7 hown hK hP 0 rfl rfl 24 (by decide) (hts (.fieldLink RX7 132 "LinkModelsModel" "value" "J") (by decide +kernel)) (fun _ h9 => h9) rfl dX7_next_211 ?_
          refine lv_bipush (v := 8) hx hb dX7_next_214 (by decide) ?_
          refine lv_lshl hx hb dX7_next_216 rfl ?_
          refine lv_topl (fun x20 ex20 => ?_)
          refine lv_aload_n hx hb dX7_next_217 rfl (lv_at hl 0 rfl) ?_
          have hFc := z_freeW hD hS hA
          refine vp_callSi (W.runV (As := []) (rest := [.long x20, .ref h0]) ⟨hx, hb, hml, hown, hts⟩ (kX7_here l dC dI h0 r cI cJ cZ v0 a1 tp bs cl a5 a6 a7 fc a9 mb a11 a12 a13 a14 a15 a16 a17 a18 a19 a20 a k q w v25 v26 bb ct us a30 a31 a32 a33 a34 a35 a36 a37 pil rwv rl v41 v42 v43 v44 v45 ⟨by omega, by omega, by omega, hcl, hfc, hmb, hct, hpil, hrwv⟩ (by first | omega | assumption | trivial) H.size) (cwV 0 hts zgX7_next_X7_here_139 rfl rfl rfl (by decide +kernel) ⟨(show 0 + 1 ≤ 2 by omega), (show 8 + (1 + 11) + 0 ≤ 45 by omega)⟩) (zVm (ci := 6) (q0 := 0) (q := (RX7, TX7, 46)) hK hP hD hL hS.2.1 hFc rfl rfl rfl) rfl rfl hl.1 rfl (lv_room (Nat.le_of_ble_eq_true rfl)) dX7_next_218 ⟨(show 0 + 0 ≤ 0 by omega), (show 0 + 0 ≤ 0 by omega)⟩) (fun r21 hw => ?_)
          have hw : (r21 = if a < tp then a1 a else 0) := hw
          have w0r21 := hw
          obtain rfl : r21 = a1 a := by rw [w0r21, if_pos (by omega)]
          refine lv_i2l hx hb dX7_next_221 rfl ?_
          refine lv_topl (fun x22 ex22 => ?_)
          refine lv_lor hx hb dX7_next_222 ?_
          refine lv_topl (fun x23 ex23 => ?_)
          refine va_put (D := (dC, dI)) (ci := 6) (v := .long x23) (ty := (.long)) (C := RX7) (T := TX7) (N := 46) hx hb hts hiX7 tyX7 tyX7_ok nmX7 hown hK hP hD hS 0 rfl rfl 24 (by decide) (hts (.fieldLink RX7 132 "LinkModelsModel" "value" "J") (by decide +kernel)) (fun _ h9 => h9) rfl (by decide +kernel) rfl rfl (Nat.le_of_ble_eq_true rfl) dX7_next_223 (fun H locs hP hD hS => ?_)
          have hP : va_P (dC, dI) vwCl (rW h0 r cI cJ cZ v0 a1 (nI tp) (nI bs) (fun j => nI (cl j)) a5 a6 a7 (fun j => nI (fc j)) a9 (fun j => nI (mb j)) a11 a12 a13 a14 a15 a16 a17 a18 a19 a20 (nI a) k q x23 v25 v26 (nI bb) (fun j => nI (ct j)) (nI us) a30 a31 a32 a33 a34 a35 a36 a37 (fun j => nI (pil j)) (fun j => nI (rwv j)) (nI rl) v41 v42 v43 v44 v45) H := hP
          have hD : va_D A (rW h0 r cI cJ cZ v0 a1 (nI tp) (nI bs) (fun j => nI (cl j)) a5 a6 a7 (fun j => nI (fc j)) a9 (fun j => nI (mb j)) a11 a12 a13 a14 a15 a16 a17 a18 a19 a20 (nI a) k q x23 v25 v26 (nI bb) (fun j => nI (ct j)) (nI us) a30 a31 a32 a33 a34 a35 a36 a37 (fun j => nI (pil j)) (fun j => nI (rwv j)) (nI rl) v41 v42 v43 v44 v45) := hD
          refine lv_aload_n hx hb dX7_next_226 rfl (lv_at hl 0 rfl) ?_
          refine lv_dup hx hb dX7_next_227 rfl ?_
          refine va_get (D := (dC, dI)) (ci := 6) (v := .int (nI a)) (C := RX7) (T := TX7) (N := 46) hx hb hts hiX7 hown hK hP 0 rfl rfl 21 (by decide) (hts (.fieldLink RX7 126 "LinkModelsModel" "at" "I") (by decide +kernel)) (fun _ h9 => h9) rfl dX7_next_228 ?_
          refine lv_iconst (v := 1) hx hb dX7_next_231 (by decide) ?_
          refine lv_iadd hx hb dX7_next_232 ?_
          refine lv_topi (fun x24 ex24 => ?_)
          obtain rfl : x24 = nI (a + 1) := by rw [ex24]; exact nI_add (a) (1)
          refine va_put (D := (dC, dI)) (ci := 6) (v := .int (nI (a + 1))) (ty := (.int)) (C := RX7) (T := TX7) (N := 46) hx hb hts hiX7 tyX7 tyX7_ok nmX7 hown hK hP hD hS 0 rfl rfl 21 (by decide) (hts (.fieldLink RX7 126 "LinkModelsModel" "at" "I") (by decide +kernel)) (fun _ h9 => h9) rfl (by decide +kernel) rfl rfl (Nat.le_of_ble_eq_true rfl) dX7_next_233 (fun H locs hP hD hS => ?_)
          have hP : va_P (dC, dI) vwCl (rW h0 r cI cJ cZ v0 a1 (nI tp) (nI bs) (fun j => nI (cl j)) a5 a6 a7 (fun j => nI (fc j)) a9 (fun j => nI (mb j)) a11 a12 a13 a14 a15 a16 a17 a18 a19 a20 (nI (a + 1)) k q x23 v25 v26 (nI bb) (fun j => nI (ct j)) (nI us) a30 a31 a32 a33 a34 a35 a36 a37 (fun j => nI (pil j)) (fun j => nI (rwv j)) (nI rl) v41 v42 v43 v44 v45) H := hP
          have hD : va_D A (rW h0 r cI cJ cZ v0 a1 (nI tp) (nI bs) (fun j => nI (cl j)) a5 a6 a7 (fun j => nI (fc j)) a9 (fun j => nI (mb j)) a11 a12 a13 a14 a15 a16 a17 a18 a19 a20 (nI (a + 1)) k q x23 v25 v26 (nI bb) (fun j => nI (ct j)) (nI us) a30 a31 a32 a33 a34 a35 a36 a37 (fun j => nI (pil j)) (fun j => nI (rwv j)) (nI rl) v41 v42 v43 v44 v45) := hD
          refine lv_goto (tgt := 188) hx hb dX7_next_236 (by decide) ?_
          exact ih188 a0 ch (a + 1) k q x23 _ _ ls (by omega) (by omega) (by omega) (by omega) (by omega) (by first | (intro h9; omega) | (intro _; assumption)) hP hD hS (lv_sub hl [0, 1] rfl)
  have J273 : ∀ (z273 : Nat) (a0 : Nat) (ch : Int32) (a : Nat) (k : Int32) (q : Int32) (w : Int64) (H : Heap) (locs : List Loc) (ls : Array Slot), tp - a < z273 → (az ≤ a0) → (a0 ≤ a) → (a ≤ tp) → (a0 < tp) → (a = a0 → kIn 48 57 (a1 a0) = 1) → va_P (dC, dI) vwCl (rW h0 r cI cJ cZ v0 a1 (nI tp) (nI bs) (fun j => nI (cl j)) a5 a6 a7 (fun j => nI (fc j)) a9 (fun j => nI (mb j)) a11 a12 a13 a14 a15 a16 a17 a18 a19 a20 (nI a) k q w v25 v26 (nI bb) (fun j => nI (ct j)) (nI us) a30 a31 a32 a33 a34 a35 a36 a37 (fun j => nI (pil j)) (fun j => nI (rwv j)) (nI rl) v41 v42 v43 v44 v45) H → va_D A (rW h0 r cI cJ cZ v0 a1 (nI tp) (nI bs) (fun j => nI (cl j)) a5 a6 a7 (fun j => nI (fc j)) a9 (fun j => nI (mb j)) a11 a12 a13 a14 a15 a16 a17 a18 a19 a20 (nI a) k q w v25 v26 (nI bb) (fun j => nI (ct j)) (nI us) a30 a31 a32 a33 a34 a35 a36 a37 (fun j => nI (pil j)) (fun j => nI (rwv j)) (nI rl) v41 v42 v43 v44 v45) → va_S A s.heap H locs → lv_has ls 2 [(0, .ref h0), (1, .int ch)] → W p l e (headSpec zwX7_next { frames := 2, cells := 0, slots := 0, locals := 45 }).room s m (([.ref h0] : List Value).toArray) below meth c H locs 0 0 (MQ below (va_Qv (fun u : Nat × Int32 × Int32 × Int64 => (az ≤ (u.1)) ∧ ((u.1) ≤ tp) ∧ (¬ (u.2.1) = 0 → az < (u.1))) (fun u t => zB dC dI (A) (rW h0 r cI cJ cZ v0 a1 (nI tp) (nI bs) (fun j => nI (cl j)) a5 a6 a7 (fun j => nI (fc j)) a9 (fun j => nI (mb j)) a11 a12 a13 a14 a15 a16 a17 a18 a19 a20 (nI (u.1)) (u.2.1) (u.2.2.1) (u.2.2.2) v25 v26 (nI bb) (fun j => nI (ct j)) (nI us) a30 a31 a32 a33 a34 a35 a36 a37 (fun j => nI (pil j)) (fun j => nI (rwv j)) (nI rl) v41 v42 v43 v44 v45) [(cI, .int), (cJ, .long), (cZ, .boolean)] t) (A)) (([.ref h0] : List Value).toArray) s 0 0 A) (F0 m 273 ls []) := by
    intro z273
    induction z273 with
    | zero => intro a0 ch a k q w H locs ls h9; exact absurd h9 (Nat.not_lt_zero _)
    | succ z273 ih273 =>
      intro a0 ch a k q w H locs ls hm273 i273_0 i273_1 i273_2 i273_3 i273_4 hP hD hS hl
      refine lv_aload_n hx hb dX7_next_273 rfl (lv_at hl 0 rfl) ?_
      refine va_get (D := (dC, dI)) (ci := 6) (v := .int (nI a)) (C := RX7) (T := TX7) (N := 46) hx hb hts hiX7 hown hK hP 0 rfl rfl 21 (by decide) (hts (.fieldLink RX7 126 "LinkModelsModel" "at" "I") (by decide +kernel)) (fun _ h9 => h9) rfl dX7_next_274 ?_
      refine lv_aload_n hx hb dX7_next_277 rfl (lv_at hl 0 rfl) ?_
      refine va_get (D := (dC, dI)) (ci := 6) (v := .int (nI tp)) (C := RX7) (T := TX7) (N := 46) hx hb hts hiX7 hown hK hP 0 rfl rfl 2 (by decide) (hts (.fieldLink RX7 109 "LinkModelsModel" "taped" "I") (by decide +kernel)) (fun _ h9 => h9) rfl dX7_next_278 ?_
      refine lv_icmp_ge (tgt := 350) hx hb dX7_next_281 (by decide) (fun cp281 => ?_) (fun cp281 => ?_)
      · have qcp281 : tp ≤ a := (nI_leI (a := tp) (b := a) (by omega) (by omega)).mp cp281
        exact J350 ch a k q w _ _ ls  (by omega) (by omega) hP hD hS (lv_sub hl [0, 1] rfl)
      · have qcp281 : ¬ tp ≤ a := fun h9 => cp281 ((nI_leI (a := tp) (b := a) (by omega) (by omega)).mpr h9)
        refine lv_aload_n hx hb dX7_next_284 rfl (lv_at hl 0 rfl) ?_
        have hFc := z_freeW hD hS hA
        refine vp_callSi (W.runV (As := []) (rest := []) ⟨hx, hb, hml, hown, hts⟩ (kX7_here l dC dI h0 r cI cJ cZ v0 a1 tp bs cl a5 a6 a7 fc a9 mb a11 a12 a13 a14 a15 a16 a17 a18 a19 a20 a k q w v25 v26 bb ct us a30 a31 a32 a33 a34 a35 a36 a37 pil rwv rl v41 v42 v43 v44 v45 ⟨by omega, by omega, by omega, hcl, hfc, hmb, hct, hpil, hrwv⟩ (by first | omega | assumption | trivial) H.size) (cwV 0 hts zgX7_next_X7_here_139 rfl rfl rfl (by decide +kernel) ⟨(show 0 + 1 ≤ 2 by omega), (show 8 + (1 + 11) + 0 ≤ 45 by omega)⟩) (zVm (ci := 6) (q0 := 0) (q := (RX7, TX7, 46)) hK hP hD hL hS.2.1 hFc rfl rfl rfl) rfl rfl hl.1 rfl (lv_room (Nat.le_of_ble_eq_true rfl)) dX7_next_285 ⟨(show 0 + 0 ≤ 0 by omega), (show 0 + 0 ≤ 0 by omega)⟩) (fun r25 hw => ?_)
        have hw : (r25 = if a < tp then a1 a else 0) := hw
        have w0r25 := hw
        obtain rfl : r25 = a1 a := by rw [w0r25, if_pos (by omega)]
        refine vp_callSi (W.runS (As := [.int (a1 a)]) (rest := []) ⟨hx, hb, hml, hown, hts⟩ (kX7_isDigit l dC dI (a1 a)) (va_cwS 1 hts zgX7_next_X7_isDigit_147 rfl rfl rfl (by decide +kernel) ⟨(show 1 + 1 ≤ 2 by omega), (show 8 + (1 + 11) + 25 ≤ 45 by omega)⟩) (zSr (ws := []) (tys := []) (hK.sub (tys' := []) [] rfl) (hP.sub (ws' := []) [] rfl)) rfl rfl hl.1 rfl (lv_room (Nat.le_of_ble_eq_true rfl)) dX7_next_288 ⟨(show 0 + 0 ≤ 0 by omega), (show 0 + 0 ≤ 0 by omega)⟩) (fun r26 hw => ?_)
        have w0r26 : r26 = kIn 48 57 ((a1 a)) := hw
        refine lv_if_eq (tgt := 350) hx hb dX7_next_291 (by decide) (fun b291 => ?_) (fun b291 => ?_)
        · exact J350 ch a k q w _ _ ls  (by first | omega | (rcases Nat.lt_or_ge a0 a with h8 | h8; (omega); exact absurd (show (0 : Int32) = 1 from (w0r26.symm.trans b291).symm.trans (show kIn 48 57 (a1 a) = 1 by rw [show a = a0 by omega]; exact i273_4 (by omega))) (by decide))) (by omega) hP hD hS (lv_sub hl [0, 1] rfl)
        · refine lv_aload_n hx hb dX7_next_294 rfl (lv_at hl 0 rfl) ?_
          refine lv_aload_n hx hb dX7_next_295 rfl (lv_at hl 0 rfl) ?_
          refine va_get (D := (dC, dI)) (ci := 6) (v := .int (nI a)) (C := RX7) (T := TX7) (N := 46) hx hb hts hiX7 hown hK hP 0 rfl rfl 21 (by decide) (hts (.fieldLink RX7 126 "LinkModelsModel" "at" "I") (by decide +kernel)) (fun _ h9 => h9) rfl dX7_next_296 ?_
          refine lv_aload_n hx hb dX7_next_299 rfl (lv_at hl 0 rfl) ?_
          refine va_get (D := (dC, dI)) (ci := 6) (v := .int q) (C := RX7) (T := TX7) (N := 46) hx hb hts hiX7 hown hK hP 0 rfl rfl 23 (by decide) (hts (.fieldLink RX7 129 "LinkModelsModel" "tokenAt" "I") (by decide +kernel)) (fun _ h9 => h9) rfl dX7_next_300 ?_
          refine lv_isub hx hb dX7_next_303 ?_
          refine lv_topi (fun x27 ex27 => ?_)
          refine lv_bipush (v := 7) hx hb dX7_next_304 (by decide) ?_
          refine lv_icmp_ge (tgt := 330) hx hb dX7_next_306 (by decide) (fun cp306 => ?_) (fun cp306 => ?_)
          · refine lv_aload_n hx hb dX7_next_330 rfl (lv_at hl 0 rfl) ?_
            refine va_get (D := (dC, dI)) (ci := 6) (v := .long w) (C := RX7) (T := TX7) (N := 46) hx hb hts hiX7 hown hK hP 0 rfl rfl 24 (by decide) (hts (.fieldLink RX7 132 "LinkModelsModel" "value" "J") (by decide +kernel)) (fun _ h9 => h9) rfl dX7_next_331 ?_
            refine va_put (D := (dC, dI)) (ci := 6) (v := .long w) (ty := (.long)) (C := RX7) (T := TX7) (N := 46) hx hb hts hiX7 tyX7 tyX7_ok nmX7 hown hK hP hD hS 0 rfl rfl 24 (by decide) (hts (.fieldLink RX7 132 "LinkModelsModel" "value" "J") (by decide +kernel)) (fun _ h9 => h9) rfl (by decide +kernel) rfl rfl (Nat.le_of_ble_eq_true rfl) dX7_next_334 (fun H locs hP hD hS => ?_)
            have hP : va_P (dC, dI) vwCl (rW h0 r cI cJ cZ v0 a1 (nI tp) (nI bs) (fun j => nI (cl j)) a5 a6 a7 (fun j => nI (fc j)) a9 (fun j => nI (mb j)) a11 a12 a13 a14 a15 a16 a17 a18 a19 a20 (nI a) k q w v25 v26 (nI bb) (fun j => nI (ct j)) (nI us) a30 a31 a32 a33 a34 a35 a36 a37 (fun j => nI (pil j)) (fun j => nI (rwv j)) (nI rl) v41 v42 v43 v44 v45) H := hP
            have hD : va_D A (rW h0 r cI cJ cZ v0 a1 (nI tp) (nI bs) (fun j => nI (cl j)) a5 a6 a7 (fun j => nI (fc j)) a9 (fun j => nI (mb j)) a11 a12 a13 a14 a15 a16 a17 a18 a19 a20 (nI a) k q w v25 v26 (nI bb) (fun j => nI (ct j)) (nI us) a30 a31 a32 a33 a34 a35 a36 a37 (fun j => nI (pil j)) (fun j => nI (rwv j)) (nI rl) v41 v42 v43 v44 v45) := hD
            refine lv_aload_n hx hb dX7_next_337 rfl (lv_at hl 0 rfl) ?_
            refine lv_dup hx hb dX7_next_338 rfl ?_
            refine va_get (D := (dC, dI)) (ci := 6) (v := .int (nI a)) (C := RX7) (T := TX7) (N := 46) hx hb hts hiX7 hown hK hP 0 rfl rfl 21 (by decide) (hts (.fieldLink RX7 126 "LinkModelsModel" "at" "I") (by decide +kernel)) (fun _ h9 => h9) rfl dX7_next_339 ?_
            refine lv_iconst (v := 1) hx hb dX7_next_342 (by decide) ?_
            refine lv_iadd hx hb dX7_next_343 ?_
            refine lv_topi (fun x28 ex28 => ?_)
            obtain rfl : x28 = nI (a + 1) := by rw [ex28]; exact nI_add (a) (1)
            refine va_put (D := (dC, dI)) (ci := 6) (v := .int (nI (a + 1))) (ty := (.int)) (C := RX7) (T := TX7) (N := 46) hx hb hts hiX7 tyX7 tyX7_ok nmX7 hown hK hP hD hS 0 rfl rfl 21 (by decide) (hts (.fieldLink RX7 126 "LinkModelsModel" "at" "I") (by decide +kernel)) (fun _ h9 => h9) rfl (by decide +kernel) rfl rfl (Nat.le_of_ble_eq_true rfl) dX7_next_344 (fun H locs hP hD hS => ?_)
            have hP : va_P (dC, dI) vwCl (rW h0 r cI cJ cZ v0 a1 (nI tp) (nI bs) (fun j => nI (cl j)) a5 a6 a7 (fun j => nI (fc j)) a9 (fun j => nI (mb j)) a11 a12 a13 a14 a15 a16 a17 a18 a19 a20 (nI (a + 1)) k q w v25 v26 (nI bb) (fun j => nI (ct j)) (nI us) a30 a31 a32 a33 a34 a35 a36 a37 (fun j => nI (pil j)) (fun j => nI (rwv j)) (nI rl) v41 v42 v43 v44 v45) H := hP
            have hD : va_D A (rW h0 r cI cJ cZ v0 a1 (nI tp) (nI bs) (fun j => nI (cl j)) a5 a6 a7 (fun j => nI (fc j)) a9 (fun j => nI (mb j)) a11 a12 a13 a14 a15 a16 a17 a18 a19 a20 (nI (a + 1)) k q w v25 v26 (nI bb) (fun j => nI (ct j)) (nI us) a30 a31 a32 a33 a34 a35 a36 a37 (fun j => nI (pil j)) (fun j => nI (rwv j)) (nI rl) v41 v42 v43 v44 v45) := hD
            refine lv_goto (tgt := 273) hx hb dX7_next_347 (by decide) ?_
            exact ih273 a0 ch (a + 1) k q w _ _ ls (by omega) (by omega) (by omega) (by omega) (by omega) (by first | (intro h9; omega) | (intro _; assumption)) hP hD hS (lv_sub hl [0, 1] rfl)
          · refine lv_ldc2 (v := 10) hx hb hown (hts (.constantLong RX7 153 (10)) (by decide +kernel)) dX7_next_309 ?_
            refine lv_aload_n hx hb dX7_next_312 rfl (lv_at hl 0 rfl) ?_
            refine va_get (D := (dC, dI)) (ci := 6) (v := .long w) (C := RX7) (T := TX7) (N := 46) hx hb hts hiX7 hown hK hP 0 rfl rfl 24 (by decide) (hts (.fieldLink RX7 132 "LinkModelsModel" "value" "J") (by decide +kernel)) (fun _ h9 => h9) rfl dX7_next_313 ?_
            refine lv_lmul hx hb dX7_next_316 ?_
            refine lv_topl (fun x29 ex29 => ?_)
            refine lv_aload_n hx hb dX7_next_317 rfl (lv_at hl 0 rfl) ?_
            have hFc := z_freeW hD hS hA
            refine vp_callSi (W.runV (As := []) (rest := [.long x29, .ref h0]) ⟨hx, hb, hml, hown, hts⟩ (kX7_here l dC dI h0 r cI cJ cZ v0 a1 tp bs cl a5 a6 a7 fc a9 mb a11 a12 a13 a14 a15 a16 a17 a18 a19 a20 a k q w v25 v26 bb ct us a30 a31 a32 a33 a34 a35 a36 a37 pil rwv rl v41 v42 v43 v44 v45 ⟨by omega, by omega, by omega, hcl, hfc, hmb, hct, hpil, hrwv⟩ (by first | omega | assumption | trivial) H.size) (cwV 0 hts zgX7_next_X7_here_139 rfl rfl rfl (by decide +kernel) ⟨(show 0 + 1 ≤ 2 by omega), (show 8 + (1 + 11) + 0 ≤ 45 by omega)⟩) (zVm (ci := 6) (q0 := 0) (q := (RX7, TX7, 46)) hK hP hD hL hS.2.1 hFc rfl rfl rfl) rfl rfl hl.1 rfl (lv_room (Nat.le_of_ble_eq_true rfl)) dX7_next_318 ⟨(show 0 + 0 ≤ 0 by omega), (show 0 + 0 ≤ 0 by omega)⟩) (fun r30 hw => ?_)
            have hw : (r30 = if a < tp then a1 a else 0) := hw
            have w0r30 := hw
            obtain rfl : r30 = a1 a := by rw [w0r30, if_pos (by omega)]
            refine lv_i2l hx hb dX7_next_321 rfl ?_
            refine lv_topl (fun x31 ex31 => ?_)
            refine lv_ladd hx hb dX7_next_322 ?_
            refine lv_topl (fun x32 ex32 => ?_)
            refine lv_ldc2 (v := 48) hx hb hown (hts (.constantLong RX7 118 (48)) (by decide +kernel)) dX7_next_323 ?_
            refine lv_lsub hx hb dX7_next_326 ?_
            refine lv_topl (fun x33 ex33 => ?_)
            refine lv_goto (tgt := 334) hx hb dX7_next_327 (by decide) ?_
            refine va_put (D := (dC, dI)) (ci := 6) (v := .long x33) (ty := (.long)) (C := RX7) (T := TX7) (N := 46) hx hb hts hiX7 tyX7 tyX7_ok nmX7 hown hK hP hD hS 0 rfl rfl 24 (by decide) (hts (.fieldLink RX7 132 "LinkModelsModel" "value" "J") (by decide +kernel)) (fun _ h9 => h9) rfl (by decide +kernel) rfl rfl (Nat.le_of_ble_eq_true rfl) dX7_next_334 (fun H locs hP hD hS => ?_)
            have hP : va_P (dC, dI) vwCl (rW h0 r cI cJ cZ v0 a1 (nI tp) (nI bs) (fun j => nI (cl j)) a5 a6 a7 (fun j => nI (fc j)) a9 (fun j => nI (mb j)) a11 a12 a13 a14 a15 a16 a17 a18 a19 a20 (nI a) k q x33 v25 v26 (nI bb) (fun j => nI (ct j)) (nI us) a30 a31 a32 a33 a34 a35 a36 a37 (fun j => nI (pil j)) (fun j => nI (rwv j)) (nI rl) v41 v42 v43 v44 v45) H := hP
            have hD : va_D A (rW h0 r cI cJ cZ v0 a1 (nI tp) (nI bs) (fun j => nI (cl j)) a5 a6 a7 (fun j => nI (fc j)) a9 (fun j => nI (mb j)) a11 a12 a13 a14 a15 a16 a17 a18 a19 a20 (nI a) k q x33 v25 v26 (nI bb) (fun j => nI (ct j)) (nI us) a30 a31 a32 a33 a34 a35 a36 a37 (fun j => nI (pil j)) (fun j => nI (rwv j)) (nI rl) v41 v42 v43 v44 v45) := hD
            refine lv_aload_n hx hb dX7_next_337 rfl (lv_at hl 0 rfl) ?_
            refine lv_dup hx hb dX7_next_338 rfl ?_
            refine va_get (D := (dC, dI)) (ci := 6) (v := .int (nI a)) (C := RX7) (T := TX7) (N := 46) hx hb hts hiX7 hown hK hP 0 rfl rfl 21 (by decide) (hts (.fieldLink RX7 126 "LinkModelsModel" "at" "I") (by decide +kernel)) (fun _ h9 => h9) rfl dX7_next_339 ?_
            refine lv_iconst (v := 1) hx hb dX7_next_342 (by decide) ?_
            refine lv_iadd hx hb dX7_next_343 ?_
            refine lv_topi (fun x34 ex34 => ?_)
            obtain rfl : x34 = nI (a + 1) := by rw [ex34]; exact nI_add (a) (1)
            refine va_put (D := (dC, dI)) (ci := 6) (v := .int (nI (a + 1))) (ty := (.int)) (C := RX7) (T := TX7) (N := 46) hx hb hts hiX7 tyX7 tyX7_ok nmX7 hown hK hP hD hS 0 rfl rfl 21 (by decide) (hts (.fieldLink RX7 126 "LinkModelsModel" "at" "I") (by decide +kernel)) (fun _ h9 => h9) rfl (by decide +kernel) rfl rfl (Nat.le_of_ble_eq_true rfl) dX7_next_344 (fun H locs hP hD hS => ?_)
            have hP : va_P (dC, dI) vwCl (rW h0 r cI cJ cZ v0 a1 (nI tp) (nI bs) (fun j => nI (cl j)) a5 a6 a7 (fun j => nI (fc j)) a9 (fun j => nI (mb j)) a11 a12 a13 a14 a15 a16 a17 a18 a19 a20 (nI (a + 1)) k q x33 v25 v26 (nI bb) (fun j => nI (ct j)) (nI us) a30 a31 a32 a33 a34 a35 a36 a37 (fun j => nI (pil j)) (fun j => nI (rwv j)) (nI rl) v41 v42 v43 v44 v45) H := hP
            have hD : va_D A (rW h0 r cI cJ cZ v0 a1 (nI tp) (nI bs) (fun j => nI (cl j)) a5 a6 a7 (fun j => nI (fc j)) a9 (fun j => nI (mb j)) a11 a12 a13 a14 a15 a16 a17 a18 a19 a20 (nI (a + 1)) k q x33 v25 v26 (nI bb) (fun j => nI (ct j)) (nI us) a30 a31 a32 a33 a34 a35 a36 a37 (fun j => nI (pil j)) (fun j => nI (rwv j)) (nI rl) v41 v42 v43 v44 v45) := hD
            refine lv_goto (tgt := 273) hx hb dX7_next_347 (by decide) ?_
            exact ih273 a0 ch (a + 1) k q x33 _ _ ls (by omega) (by omega) (by omega) (by omega) (by omega) (by first | (intro h9; omega) | (intro _; assumption)) hP hD hS (lv_sub hl [0, 1] rfl)
  have J52 : ∀ (a : Nat) (H : Heap) (locs : List Loc) (ls : Array Slot), (az ≤ a) → (a ≤ tp) → va_P (dC, dI) vwCl (rW h0 r cI cJ cZ v0 a1 (nI tp) (nI bs) (fun j => nI (cl j)) a5 a6 a7 (fun j => nI (fc j)) a9 (fun j => nI (mb j)) a11 a12 a13 a14 a15 a16 a17 a18 a19 a20 (nI a) v22 v23 v24 v25 v26 (nI bb) (fun j => nI (ct j)) (nI us) a30 a31 a32 a33 a34 a35 a36 a37 (fun j => nI (pil j)) (fun j => nI (rwv j)) (nI rl) v41 v42 v43 v44 v45) H → va_D A (rW h0 r cI cJ cZ v0 a1 (nI tp) (nI bs) (fun j => nI (cl j)) a5 a6 a7 (fun j => nI (fc j)) a9 (fun j => nI (mb j)) a11 a12 a13 a14 a15 a16 a17 a18 a19 a20 (nI a) v22 v23 v24 v25 v26 (nI bb) (fun j => nI (ct j)) (nI us) a30 a31 a32 a33 a34 a35 a36 a37 (fun j => nI (pil j)) (fun j => nI (rwv j)) (nI rl) v41 v42 v43 v44 v45) → va_S A s.heap H locs → lv_has ls 2 [(0, .ref h0)] → W p l e (headSpec zwX7_next { frames := 2, cells := 0, slots := 0, locals := 45 }).room s m (([.ref h0] : List Value).toArray) below meth c H locs 0 0 (MQ below (va_Qv (fun u : Nat × Int32 × Int32 × Int64 => (az ≤ (u.1)) ∧ ((u.1) ≤ tp) ∧ (¬ (u.2.1) = 0 → az < (u.1))) (fun u t => zB dC dI (A) (rW h0 r cI cJ cZ v0 a1 (nI tp) (nI bs) (fun j => nI (cl j)) a5 a6 a7 (fun j => nI (fc j)) a9 (fun j => nI (mb j)) a11 a12 a13 a14 a15 a16 a17 a18 a19 a20 (nI (u.1)) (u.2.1) (u.2.2.1) (u.2.2.2) v25 v26 (nI bb) (fun j => nI (ct j)) (nI us) a30 a31 a32 a33 a34 a35 a36 a37 (fun j => nI (pil j)) (fun j => nI (rwv j)) (nI rl) v41 v42 v43 v44 v45) [(cI, .int), (cJ, .long), (cZ, .boolean)] t) (A)) (([.ref h0] : List Value).toArray) s 0 0 A) (F0 m 52 ls []) := by
    intro a H locs ls i52_0 i52_1 hP hD hS hl
    refine lv_aload_n hx hb dX7_next_52 rfl (lv_at hl 0 rfl) ?_
    refine lv_aload_n hx hb dX7_next_53 rfl (lv_at hl 0 rfl) ?_
    refine va_get (D := (dC, dI)) (ci := 6) (v := .int (nI a)) (C := RX7) (T := TX7) (N := 46) hx hb hts hiX7 hown hK hP 0 rfl rfl 21 (by decide) (hts (.fieldLink RX7 126 "LinkModelsModel" "at" "I") (by decide +kernel)) (fun _ h9 => h9) rfl dX7_next_54 ?_
    refine va_put (D := (dC, dI)) (ci := 6) (v := .int (nI a)) (ty := (.int)) (C := RX7) (T := TX7) (N := 46) hx hb hts hiX7 tyX7 tyX7_ok nmX7 hown hK hP hD hS 0 rfl rfl 23 (by decide) (hts (.fieldLink RX7 129 "LinkModelsModel" "tokenAt" "I") (by decide +kernel)) (fun _ h9 => h9) rfl (by decide +kernel) rfl rfl (Nat.le_of_ble_eq_true rfl) dX7_next_57 (fun H locs hP hD hS => ?_)
    have hP : va_P (dC, dI) vwCl (rW h0 r cI cJ cZ v0 a1 (nI tp) (nI bs) (fun j => nI (cl j)) a5 a6 a7 (fun j => nI (fc j)) a9 (fun j => nI (mb j)) a11 a12 a13 a14 a15 a16 a17 a18 a19 a20 (nI a) v22 (nI a) v24 v25 v26 (nI bb) (fun j => nI (ct j)) (nI us) a30 a31 a32 a33 a34 a35 a36 a37 (fun j => nI (pil j)) (fun j => nI (rwv j)) (nI rl) v41 v42 v43 v44 v45) H := hP
    have hD : va_D A (rW h0 r cI cJ cZ v0 a1 (nI tp) (nI bs) (fun j => nI (cl j)) a5 a6 a7 (fun j => nI (fc j)) a9 (fun j => nI (mb j)) a11 a12 a13 a14 a15 a16 a17 a18 a19 a20 (nI a) v22 (nI a) v24 v25 v26 (nI bb) (fun j => nI (ct j)) (nI us) a30 a31 a32 a33 a34 a35 a36 a37 (fun j => nI (pil j)) (fun j => nI (rwv j)) (nI rl) v41 v42 v43 v44 v45) := hD
    refine lv_aload_n hx hb dX7_next_60 rfl (lv_at hl 0 rfl) ?_
    refine lv_lconst (v := 0) hx hb dX7_next_61 (by decide) ?_
    refine va_put (D := (dC, dI)) (ci := 6) (v := .long 0) (ty := (.long)) (C := RX7) (T := TX7) (N := 46) hx hb hts hiX7 tyX7 tyX7_ok nmX7 hown hK hP hD hS 0 rfl rfl 24 (by decide) (hts (.fieldLink RX7 132 "LinkModelsModel" "value" "J") (by decide +kernel)) (fun _ h9 => h9) rfl (by decide +kernel) rfl rfl (Nat.le_of_ble_eq_true rfl) dX7_next_62 (fun H locs hP hD hS => ?_)
    have hP : va_P (dC, dI) vwCl (rW h0 r cI cJ cZ v0 a1 (nI tp) (nI bs) (fun j => nI (cl j)) a5 a6 a7 (fun j => nI (fc j)) a9 (fun j => nI (mb j)) a11 a12 a13 a14 a15 a16 a17 a18 a19 a20 (nI a) v22 (nI a) 0 v25 v26 (nI bb) (fun j => nI (ct j)) (nI us) a30 a31 a32 a33 a34 a35 a36 a37 (fun j => nI (pil j)) (fun j => nI (rwv j)) (nI rl) v41 v42 v43 v44 v45) H := hP
    have hD : va_D A (rW h0 r cI cJ cZ v0 a1 (nI tp) (nI bs) (fun j => nI (cl j)) a5 a6 a7 (fun j => nI (fc j)) a9 (fun j => nI (mb j)) a11 a12 a13 a14 a15 a16 a17 a18 a19 a20 (nI a) v22 (nI a) 0 v25 v26 (nI bb) (fun j => nI (ct j)) (nI us) a30 a31 a32 a33 a34 a35 a36 a37 (fun j => nI (pil j)) (fun j => nI (rwv j)) (nI rl) v41 v42 v43 v44 v45) := hD
    refine lv_aload_n hx hb dX7_next_65 rfl (lv_at hl 0 rfl) ?_
    refine va_get (D := (dC, dI)) (ci := 6) (v := .int (nI a)) (C := RX7) (T := TX7) (N := 46) hx hb hts hiX7 hown hK hP 0 rfl rfl 21 (by decide) (hts (.fieldLink RX7 126 "LinkModelsModel" "at" "I") (by decide +kernel)) (fun _ h9 => h9) rfl dX7_next_66 ?_
    refine lv_aload_n hx hb dX7_next_69 rfl (lv_at hl 0 rfl) ?_
    refine va_get (D := (dC, dI)) (ci := 6) (v := .int (nI tp)) (C := RX7) (T := TX7) (N := 46) hx hb hts hiX7 hown hK hP 0 rfl rfl 2 (by decide) (hts (.fieldLink RX7 109 "LinkModelsModel" "taped" "I") (by decide +kernel)) (fun _ h9 => h9) rfl dX7_next_70 ?_
    refine lv_icmp_ne (tgt := 82) hx hb dX7_next_73 (by decide) (fun cp73 => ?_) (fun cp73 => ?_)
    · have qcp73 : ¬ a = tp := fun h9 => cp73 ((nI_eq (a := a) (b := tp) (by omega) (by omega)).mpr h9)
      refine lv_aload_n hx hb dX7_next_82 rfl (lv_at hl 0 rfl) ?_
      have hFc := z_freeW hD hS hA
      refine vp_callSi (W.runV (As := []) (rest := []) ⟨hx, hb, hml, hown, hts⟩ (kX7_here l dC dI h0 r cI cJ cZ v0 a1 tp bs cl a5 a6 a7 fc a9 mb a11 a12 a13 a14 a15 a16 a17 a18 a19 a20 a v22 (nI a) 0 v25 v26 bb ct us a30 a31 a32 a33 a34 a35 a36 a37 pil rwv rl v41 v42 v43 v44 v45 ⟨by omega, by omega, by omega, hcl, hfc, hmb, hct, hpil, hrwv⟩ (by first | omega | assumption | trivial) H.size) (cwV 0 hts zgX7_next_X7_here_139 rfl rfl rfl (by decide +kernel) ⟨(show 0 + 1 ≤ 2 by omega), (show 8 + (1 + 11) + 0 ≤ 45 by omega)⟩) (zVm (ci := 6) (q0 := 0) (q := (RX7, TX7, 46)) hK hP hD hL hS.2.1 hFc rfl rfl rfl) rfl rfl hl.1 rfl (lv_room (Nat.le_of_ble_eq_true rfl)) dX7_next_83 ⟨(show 0 + 0 ≤ 0 by omega), (show 0 + 0 ≤ 0 by omega)⟩) (fun r35 hw => ?_)
      have hw : (r35 = if a < tp then a1 a else 0) := hw
      have w0r35 := hw
      obtain rfl : r35 = a1 a := by rw [w0r35, if_pos (by omega)]
      refine lv_istore_n (lv' := [(1, .int (a1 a)), (0, .ref h0)]) hx hb dX7_next_86 rfl hl (by decide) rfl (fun ls hl => ?_)
      refine lv_iload_n hx hb dX7_next_87 rfl (lv_at hl 0 rfl) ?_
      refine vp_callSi (W.runS (As := [.int (a1 a)]) (rest := []) ⟨hx, hb, hml, hown, hts⟩ (kX7_isBig l dC dI (a1 a)) (va_cwS 1 hts zgX7_next_X7_isBig_143 rfl rfl rfl (by decide +kernel) ⟨(show 1 + 1 ≤ 2 by omega), (show 8 + (1 + 11) + 25 ≤ 45 by omega)⟩) (zSr (ws := []) (tys := []) (hK.sub (tys' := []) [] rfl) (hP.sub (ws' := []) [] rfl)) rfl rfl hl.1 rfl (lv_room (Nat.le_of_ble_eq_true rfl)) dX7_next_88 ⟨(show 0 + 0 ≤ 0 by omega), (show 0 + 0 ≤ 0 by omega)⟩) (fun r36 hw => ?_)
      have w0r36 : r36 = kIn 65 90 ((a1 a)) := hw
      refine lv_if_eq (tgt := 181) hx hb dX7_next_91 (by decide) (fun cc91 => ?_) (fun cc91 => ?_)
      · refine lv_iload_n hx hb dX7_next_181 rfl (lv_at hl 0 rfl) ?_
        refine vp_callSi (W.runS (As := [.int (a1 a)]) (rest := []) ⟨hx, hb, hml, hown, hts⟩ (kX7_isSmall l dC dI (a1 a)) (va_cwS 1 hts zgX7_next_X7_isSmall_150 rfl rfl rfl (by decide +kernel) ⟨(show 1 + 1 ≤ 2 by omega), (show 8 + (1 + 11) + 25 ≤ 45 by omega)⟩) (zSr (ws := []) (tys := []) (hK.sub (tys' := []) [] rfl) (hP.sub (ws' := []) [] rfl)) rfl rfl hl.1 rfl (lv_room (Nat.le_of_ble_eq_true rfl)) dX7_next_182 ⟨(show 0 + 0 ≤ 0 by omega), (show 0 + 0 ≤ 0 by omega)⟩) (fun r37 hw => ?_)
        have w0r37 : r37 = kIn 97 122 ((a1 a)) := hw
        refine lv_if_eq (tgt := 266) hx hb dX7_next_185 (by decide) (fun cc185 => ?_) (fun cc185 => ?_)
        · refine lv_iload_n hx hb dX7_next_266 rfl (lv_at hl 0 rfl) ?_
          refine vp_callSi (W.runS (As := [.int (a1 a)]) (rest := []) ⟨hx, hb, hml, hown, hts⟩ (kX7_isDigit l dC dI (a1 a)) (va_cwS 1 hts zgX7_next_X7_isDigit_147 rfl rfl rfl (by decide +kernel) ⟨(show 1 + 1 ≤ 2 by omega), (show 8 + (1 + 11) + 25 ≤ 45 by omega)⟩) (zSr (ws := []) (tys := []) (hK.sub (tys' := []) [] rfl) (hP.sub (ws' := []) [] rfl)) rfl rfl hl.1 rfl (lv_room (Nat.le_of_ble_eq_true rfl)) dX7_next_267 ⟨(show 0 + 0 ≤ 0 by omega), (show 0 + 0 ≤ 0 by omega)⟩) (fun r38 hw => ?_)
          have w0r38 : r38 = kIn 48 57 ((a1 a)) := hw
          refine lv_if_eq (tgt := 377) hx hb dX7_next_270 (by decide) (fun cc270 => ?_) (fun cc270 => ?_)
          · refine lv_aload_n hx hb dX7_next_377 rfl (lv_at hl 1 rfl) ?_
            refine lv_dup hx hb dX7_next_378 rfl ?_
            refine va_get (D := (dC, dI)) (ci := 6) (v := .int (nI a)) (C := RX7) (T := TX7) (N := 46) hx hb hts hiX7 hown hK hP 0 rfl rfl 21 (by decide) (hts (.fieldLink RX7 126 "LinkModelsModel" "at" "I") (by decide +kernel)) (fun _ h9 => h9) rfl dX7_next_379 ?_
            refine lv_iconst (v := 1) hx hb dX7_next_382 (by decide) ?_
            refine lv_iadd hx hb dX7_next_383 ?_
            refine lv_topi (fun x39 ex39 => ?_)
            obtain rfl : x39 = nI (a + 1) := by rw [ex39]; exact nI_add (a) (1)
            refine va_put (D := (dC, dI)) (ci := 6) (v := .int (nI (a + 1))) (ty := (.int)) (C := RX7) (T := TX7) (N := 46) hx hb hts hiX7 tyX7 tyX7_ok nmX7 hown hK hP hD hS 0 rfl rfl 21 (by decide) (hts (.fieldLink RX7 126 "LinkModelsModel" "at" "I") (by decide +kernel)) (fun _ h9 => h9) rfl (by decide +kernel) rfl rfl (Nat.le_of_ble_eq_true rfl) dX7_next_384 (fun H locs hP hD hS => ?_)
            have hP : va_P (dC, dI) vwCl (rW h0 r cI cJ cZ v0 a1 (nI tp) (nI bs) (fun j => nI (cl j)) a5 a6 a7 (fun j => nI (fc j)) a9 (fun j => nI (mb j)) a11 a12 a13 a14 a15 a16 a17 a18 a19 a20 (nI (a + 1)) v22 (nI a) 0 v25 v26 (nI bb) (fun j => nI (ct j)) (nI us) a30 a31 a32 a33 a34 a35 a36 a37 (fun j => nI (pil j)) (fun j => nI (rwv j)) (nI rl) v41 v42 v43 v44 v45) H := hP
            have hD : va_D A (rW h0 r cI cJ cZ v0 a1 (nI tp) (nI bs) (fun j => nI (cl j)) a5 a6 a7 (fun j => nI (fc j)) a9 (fun j => nI (mb j)) a11 a12 a13 a14 a15 a16 a17 a18 a19 a20 (nI (a + 1)) v22 (nI a) 0 v25 v26 (nI bb) (fun j => nI (ct j)) (nI us) a30 a31 a32 a33 a34 a35 a36 a37 (fun j => nI (pil j)) (fun j => nI (rwv j)) (nI rl) v41 v42 v43 v44 v45) := hD
            refine lv_aload_n hx hb dX7_next_387 rfl (lv_at hl 1 rfl) ?_
            refine lv_iload_n hx hb dX7_next_388 rfl (lv_at hl 0 rfl) ?_
            refine lv_bipush (v := 123) hx hb dX7_next_389 (by decide) ?_
            refine lv_icmp_eq (tgt := 442) hx hb dX7_next_391 (by decide) (fun cp391 => ?_) (fun cp391 => ?_)
            · refine lv_iload_n hx hb dX7_next_442 rfl (lv_at hl 0 rfl) ?_
              refine lv_goto (tgt := 447) hx hb dX7_next_443 (by decide) ?_
              refine va_put (D := (dC, dI)) (ci := 6) (v := .int (a1 a)) (ty := (.int)) (C := RX7) (T := TX7) (N := 46) hx hb hts hiX7 tyX7 tyX7_ok nmX7 hown hK hP hD hS 0 rfl rfl 22 (by decide) (hts (.fieldLink RX7 136 "LinkModelsModel" "token" "I") (by decide +kernel)) (fun _ h9 => h9) rfl (by decide +kernel) rfl rfl (Nat.le_of_ble_eq_true rfl) dX7_next_447 (fun H locs hP hD hS => ?_)
              have hP : va_P (dC, dI) vwCl (rW h0 r cI cJ cZ v0 a1 (nI tp) (nI bs) (fun j => nI (cl j)) a5 a6 a7 (fun j => nI (fc j)) a9 (fun j => nI (mb j)) a11 a12 a13 a14 a15 a16 a17 a18 a19 a20 (nI (a + 1)) (a1 a) (nI a) 0 v25 v26 (nI bb) (fun j => nI (ct j)) (nI us) a30 a31 a32 a33 a34 a35 a36 a37 (fun j => nI (pil j)) (fun j => nI (rwv j)) (nI rl) v41 v42 v43 v44 v45) H := hP
              have hD : va_D A (rW h0 r cI cJ cZ v0 a1 (nI tp) (nI bs) (fun j => nI (cl j)) a5 a6 a7 (fun j => nI (fc j)) a9 (fun j => nI (mb j)) a11 a12 a13 a14 a15 a16 a17 a18 a19 a20 (nI (a + 1)) (a1 a) (nI a) 0 v25 v26 (nI bb) (fun j => nI (ct j)) (nI us) a30 a31 a32 a33 a34 a35 a36 a37 (fun j => nI (pil j)) (fun j => nI (rwv j)) (nI rl) v41 v42 v43 v44 v45) := hD
              have hP9 : va_P (dC, dI) vwCl (rW h0 r cI cJ cZ v0 a1 (nI tp) (nI bs) (fun j => nI (cl j)) a5 a6 a7 (fun j => nI (fc j)) a9 (fun j => nI (mb j)) a11 a12 a13 a14 a15 a16 a17 a18 a19 a20 (nI (a + 1)) (a1 a) (nI a) 0 v25 v26 (nI bb) (fun j => nI (ct j)) (nI us) a30 a31 a32 a33 a34 a35 a36 a37 (fun j => nI (pil j)) (fun j => nI (rwv j)) (nI rl) v41 v42 v43 v44 v45) H := hP
              have hD9 : va_D A (rW h0 r cI cJ cZ v0 a1 (nI tp) (nI bs) (fun j => nI (cl j)) a5 a6 a7 (fun j => nI (fc j)) a9 (fun j => nI (mb j)) a11 a12 a13 a14 a15 a16 a17 a18 a19 a20 (nI (a + 1)) (a1 a) (nI a) 0 v25 v26 (nI bb) (fun j => nI (ct j)) (nI us) a30 a31 a32 a33 a34 a35 a36 a37 (fun j => nI (pil j)) (fun j => nI (rwv j)) (nI rl) v41 v42 v43 v44 v45) := hD
              exact W.vret hx hb hr (fun t ht hW => ⟨⟨((a + 1), (a1 a), (nI a), 0), rfl, ⟨(by omega), (by omega), (by first | (intro h9; exact absurd rfl h9) | (intro _; omega))⟩, by rw [ht]; exact hP9, va_K.moved hW.alike hK, hD9⟩, hS.F ht⟩) hS.2.2 dX7_next_450
            · refine lv_iload_n hx hb dX7_next_394 rfl (lv_at hl 0 rfl) ?_
              refine lv_bipush (v := 125) hx hb dX7_next_395 (by decide) ?_
              refine lv_icmp_eq (tgt := 442) hx hb dX7_next_397 (by decide) (fun cp397 => ?_) (fun cp397 => ?_)
              · refine lv_iload_n hx hb dX7_next_442 rfl (lv_at hl 0 rfl) ?_
                refine lv_goto (tgt := 447) hx hb dX7_next_443 (by decide) ?_
                refine va_put (D := (dC, dI)) (ci := 6) (v := .int (a1 a)) (ty := (.int)) (C := RX7) (T := TX7) (N := 46) hx hb hts hiX7 tyX7 tyX7_ok nmX7 hown hK hP hD hS 0 rfl rfl 22 (by decide) (hts (.fieldLink RX7 136 "LinkModelsModel" "token" "I") (by decide +kernel)) (fun _ h9 => h9) rfl (by decide +kernel) rfl rfl (Nat.le_of_ble_eq_true rfl) dX7_next_447 (fun H locs hP hD hS => ?_)
                have hP : va_P (dC, dI) vwCl (rW h0 r cI cJ cZ v0 a1 (nI tp) (nI bs) (fun j => nI (cl j)) a5 a6 a7 (fun j => nI (fc j)) a9 (fun j => nI (mb j)) a11 a12 a13 a14 a15 a16 a17 a18 a19 a20 (nI (a + 1)) (a1 a) (nI a) 0 v25 v26 (nI bb) (fun j => nI (ct j)) (nI us) a30 a31 a32 a33 a34 a35 a36 a37 (fun j => nI (pil j)) (fun j => nI (rwv j)) (nI rl) v41 v42 v43 v44 v45) H := hP
                have hD : va_D A (rW h0 r cI cJ cZ v0 a1 (nI tp) (nI bs) (fun j => nI (cl j)) a5 a6 a7 (fun j => nI (fc j)) a9 (fun j => nI (mb j)) a11 a12 a13 a14 a15 a16 a17 a18 a19 a20 (nI (a + 1)) (a1 a) (nI a) 0 v25 v26 (nI bb) (fun j => nI (ct j)) (nI us) a30 a31 a32 a33 a34 a35 a36 a37 (fun j => nI (pil j)) (fun j => nI (rwv j)) (nI rl) v41 v42 v43 v44 v45) := hD
                have hP9 : va_P (dC, dI) vwCl (rW h0 r cI cJ cZ v0 a1 (nI tp) (nI bs) (fun j => nI (cl j)) a5 a6 a7 (fun j => nI (fc j)) a9 (fun j => nI (mb j)) a11 a12 a13 a14 a15 a16 a17 a18 a19 a20 (nI (a + 1)) (a1 a) (nI a) 0 v25 v26 (nI bb) (fun j => nI (ct j)) (nI us) a30 a31 a32 a33 a34 a35 a36 a37 (fun j => nI (pil j)) (fun j => nI (rwv j)) (nI rl) v41 v42 v43 v44 v45) H := hP
                have hD9 : va_D A (rW h0 r cI cJ cZ v0 a1 (nI tp) (nI bs) (fun j => nI (cl j)) a5 a6 a7 (fun j => nI (fc j)) a9 (fun j => nI (mb j)) a11 a12 a13 a14 a15 a16 a17 a18 a19 a20 (nI (a + 1)) (a1 a) (nI a) 0 v25 v26 (nI bb) (fun j => nI (ct j)) (nI us) a30 a31 a32 a33 a34 a35 a36 a37 (fun j => nI (pil j)) (fun j => nI (rwv j)) (nI rl) v41 v42 v43 v44 v45) := hD
                exact W.vret hx hb hr (fun t ht hW => ⟨⟨((a + 1), (a1 a), (nI a), 0), rfl, ⟨(by omega), (by omega), (by first | (intro h9; exact absurd rfl h9) | (intro _; omega))⟩, by rw [ht]; exact hP9, va_K.moved hW.alike hK, hD9⟩, hS.F ht⟩) hS.2.2 dX7_next_450
              · refine lv_iload_n hx hb dX7_next_400 rfl (lv_at hl 0 rfl) ?_
                refine lv_bipush (v := 40) hx hb dX7_next_401 (by decide) ?_
                refine lv_icmp_eq (tgt := 442) hx hb dX7_next_403 (by decide) (fun cp403 => ?_) (fun cp403 => ?_)
                · refine lv_iload_n hx hb dX7_next_442 rfl (lv_at hl 0 rfl) ?_
                  refine lv_goto (tgt := 447) hx hb dX7_next_443 (by decide) ?_
                  refine va_put (D := (dC, dI)) (ci := 6) (v := .int (a1 a)) (ty := (.int)) (C := RX7) (T := TX7) (N := 46) hx hb hts hiX7 tyX7 tyX7_ok nmX7 hown hK hP hD hS 0 rfl rfl 22 (by decide) (hts (.fieldLink RX7 136 "LinkModelsModel" "token" "I") (by decide +kernel)) (fun _ h9 => h9) rfl (by decide +kernel) rfl rfl (Nat.le_of_ble_eq_true rfl) dX7_next_447 (fun H locs hP hD hS => ?_)
                  have hP : va_P (dC, dI) vwCl (rW h0 r cI cJ cZ v0 a1 (nI tp) (nI bs) (fun j => nI (cl j)) a5 a6 a7 (fun j => nI (fc j)) a9 (fun j => nI (mb j)) a11 a12 a13 a14 a15 a16 a17 a18 a19 a20 (nI (a + 1)) (a1 a) (nI a) 0 v25 v26 (nI bb) (fun j => nI (ct j)) (nI us) a30 a31 a32 a33 a34 a35 a36 a37 (fun j => nI (pil j)) (fun j => nI (rwv j)) (nI rl) v41 v42 v43 v44 v45) H := hP
                  have hD : va_D A (rW h0 r cI cJ cZ v0 a1 (nI tp) (nI bs) (fun j => nI (cl j)) a5 a6 a7 (fun j => nI (fc j)) a9 (fun j => nI (mb j)) a11 a12 a13 a14 a15 a16 a17 a18 a19 a20 (nI (a + 1)) (a1 a) (nI a) 0 v25 v26 (nI bb) (fun j => nI (ct j)) (nI us) a30 a31 a32 a33 a34 a35 a36 a37 (fun j => nI (pil j)) (fun j => nI (rwv j)) (nI rl) v41 v42 v43 v44 v45) := hD
                  have hP9 : va_P (dC, dI) vwCl (rW h0 r cI cJ cZ v0 a1 (nI tp) (nI bs) (fun j => nI (cl j)) a5 a6 a7 (fun j => nI (fc j)) a9 (fun j => nI (mb j)) a11 a12 a13 a14 a15 a16 a17 a18 a19 a20 (nI (a + 1)) (a1 a) (nI a) 0 v25 v26 (nI bb) (fun j => nI (ct j)) (nI us) a30 a31 a32 a33 a34 a35 a36 a37 (fun j => nI (pil j)) (fun j => nI (rwv j)) (nI rl) v41 v42 v43 v44 v45) H := hP
                  have hD9 : va_D A (rW h0 r cI cJ cZ v0 a1 (nI tp) (nI bs) (fun j => nI (cl j)) a5 a6 a7 (fun j => nI (fc j)) a9 (fun j => nI (mb j)) a11 a12 a13 a14 a15 a16 a17 a18 a19 a20 (nI (a + 1)) (a1 a) (nI a) 0 v25 v26 (nI bb) (fun j => nI (ct j)) (nI us) a30 a31 a32 a33 a34 a35 a36 a37 (fun j => nI (pil j)) (fun j => nI (rwv j)) (nI rl) v41 v42 v43 v44 v45) := hD
                  exact W.vret hx hb hr (fun t ht hW => ⟨⟨((a + 1), (a1 a), (nI a), 0), rfl, ⟨(by omega), (by omega), (by first | (intro h9; exact absurd rfl h9) | (intro _; omega))⟩, by rw [ht]; exact hP9, va_K.moved hW.alike hK, hD9⟩, hS.F ht⟩) hS.2.2 dX7_next_450
                · refine lv_iload_n hx hb dX7_next_406 rfl (lv_at hl 0 rfl) ?_
                  refine lv_bipush (v := 41) hx hb dX7_next_407 (by decide) ?_
                  refine lv_icmp_eq (tgt := 442) hx hb dX7_next_409 (by decide) (fun cp409 => ?_) (fun cp409 => ?_)
                  · refine lv_iload_n hx hb dX7_next_442 rfl (lv_at hl 0 rfl) ?_
                    refine lv_goto (tgt := 447) hx hb dX7_next_443 (by decide) ?_
                    refine va_put (D := (dC, dI)) (ci := 6) (v := .int (a1 a)) (ty := (.int)) (C := RX7) (T := TX7) (N := 46) hx hb hts hiX7 tyX7 tyX7_ok nmX7 hown hK hP hD hS 0 rfl rfl 22 (by decide) (hts (.fieldLink RX7 136 "LinkModelsModel" "token" "I") (by decide +kernel)) (fun _ h9 => h9) rfl (by decide +kernel) rfl rfl (Nat.le_of_ble_eq_true rfl) dX7_next_447 (fun H locs hP hD hS => ?_)
                    have hP : va_P (dC, dI) vwCl (rW h0 r cI cJ cZ v0 a1 (nI tp) (nI bs) (fun j => nI (cl j)) a5 a6 a7 (fun j => nI (fc j)) a9 (fun j => nI (mb j)) a11 a12 a13 a14 a15 a16 a17 a18 a19 a20 (nI (a + 1)) (a1 a) (nI a) 0 v25 v26 (nI bb) (fun j => nI (ct j)) (nI us) a30 a31 a32 a33 a34 a35 a36 a37 (fun j => nI (pil j)) (fun j => nI (rwv j)) (nI rl) v41 v42 v43 v44 v45) H := hP
                    have hD : va_D A (rW h0 r cI cJ cZ v0 a1 (nI tp) (nI bs) (fun j => nI (cl j)) a5 a6 a7 (fun j => nI (fc j)) a9 (fun j => nI (mb j)) a11 a12 a13 a14 a15 a16 a17 a18 a19 a20 (nI (a + 1)) (a1 a) (nI a) 0 v25 v26 (nI bb) (fun j => nI (ct j)) (nI us) a30 a31 a32 a33 a34 a35 a36 a37 (fun j => nI (pil j)) (fun j => nI (rwv j)) (nI rl) v41 v42 v43 v44 v45) := hD
                    have hP9 : va_P (dC, dI) vwCl (rW h0 r cI cJ cZ v0 a1 (nI tp) (nI bs) (fun j => nI (cl j)) a5 a6 a7 (fun j => nI (fc j)) a9 (fun j => nI (mb j)) a11 a12 a13 a14 a15 a16 a17 a18 a19 a20 (nI (a + 1)) (a1 a) (nI a) 0 v25 v26 (nI bb) (fun j => nI (ct j)) (nI us) a30 a31 a32 a33 a34 a35 a36 a37 (fun j => nI (pil j)) (fun j => nI (rwv j)) (nI rl) v41 v42 v43 v44 v45) H := hP
                    have hD9 : va_D A (rW h0 r cI cJ cZ v0 a1 (nI tp) (nI bs) (fun j => nI (cl j)) a5 a6 a7 (fun j => nI (fc j)) a9 (fun j => nI (mb j)) a11 a12 a13 a14 a15 a16 a17 a18 a19 a20 (nI (a + 1)) (a1 a) (nI a) 0 v25 v26 (nI bb) (fun j => nI (ct j)) (nI us) a30 a31 a32 a33 a34 a35 a36 a37 (fun j => nI (pil j)) (fun j => nI (rwv j)) (nI rl) v41 v42 v43 v44 v45) := hD
                    exact W.vret hx hb hr (fun t ht hW => ⟨⟨((a + 1), (a1 a), (nI a), 0), rfl, ⟨(by omega), (by omega), (by first | (intro h9; exact absurd rfl h9) | (intro _; omega))⟩, by rw [ht]; exact hP9, va_K.moved hW.alike hK, hD9⟩, hS.F ht⟩) hS.2.2 dX7_next_450
                  · refine lv_iload_n hx hb dX7_next_412 rfl (lv_at hl 0 rfl) ?_
                    refine lv_bipush (v := 59) hx hb dX7_next_413 (by decide) ?_
                    refine lv_icmp_eq (tgt := 442) hx hb dX7_next_415 (by decide) (fun cp415 => ?_) (fun cp415 => ?_)
                    · refine lv_iload_n hx hb dX7_next_442 rfl (lv_at hl 0 rfl) ?_
                      refine lv_goto (tgt := 447) hx hb dX7_next_443 (by decide) ?_
                      refine va_put (D := (dC, dI)) (ci := 6) (v := .int (a1 a)) (ty := (.int)) (C := RX7) (T := TX7) (N := 46) hx hb hts hiX7 tyX7 tyX7_ok nmX7 hown hK hP hD hS 0 rfl rfl 22 (by decide) (hts (.fieldLink RX7 136 "LinkModelsModel" "token" "I") (by decide +kernel)) (fun _ h9 => h9) rfl (by decide +kernel) rfl rfl (Nat.le_of_ble_eq_true rfl) dX7_next_447 (fun H locs hP hD hS => ?_)
                      have hP : va_P (dC, dI) vwCl (rW h0 r cI cJ cZ v0 a1 (nI tp) (nI bs) (fun j => nI (cl j)) a5 a6 a7 (fun j => nI (fc j)) a9 (fun j => nI (mb j)) a11 a12 a13 a14 a15 a16 a17 a18 a19 a20 (nI (a + 1)) (a1 a) (nI a) 0 v25 v26 (nI bb) (fun j => nI (ct j)) (nI us) a30 a31 a32 a33 a34 a35 a36 a37 (fun j => nI (pil j)) (fun j => nI (rwv j)) (nI rl) v41 v42 v43 v44 v45) H := hP
                      have hD : va_D A (rW h0 r cI cJ cZ v0 a1 (nI tp) (nI bs) (fun j => nI (cl j)) a5 a6 a7 (fun j => nI (fc j)) a9 (fun j => nI (mb j)) a11 a12 a13 a14 a15 a16 a17 a18 a19 a20 (nI (a + 1)) (a1 a) (nI a) 0 v25 v26 (nI bb) (fun j => nI (ct j)) (nI us) a30 a31 a32 a33 a34 a35 a36 a37 (fun j => nI (pil j)) (fun j => nI (rwv j)) (nI rl) v41 v42 v43 v44 v45) := hD
                      have hP9 : va_P (dC, dI) vwCl (rW h0 r cI cJ cZ v0 a1 (nI tp) (nI bs) (fun j => nI (cl j)) a5 a6 a7 (fun j => nI (fc j)) a9 (fun j => nI (mb j)) a11 a12 a13 a14 a15 a16 a17 a18 a19 a20 (nI (a + 1)) (a1 a) (nI a) 0 v25 v26 (nI bb) (fun j => nI (ct j)) (nI us) a30 a31 a32 a33 a34 a35 a36 a37 (fun j => nI (pil j)) (fun j => nI (rwv j)) (nI rl) v41 v42 v43 v44 v45) H := hP
                      have hD9 : va_D A (rW h0 r cI cJ cZ v0 a1 (nI tp) (nI bs) (fun j => nI (cl j)) a5 a6 a7 (fun j => nI (fc j)) a9 (fun j => nI (mb j)) a11 a12 a13 a14 a15 a16 a17 a18 a19 a20 (nI (a + 1)) (a1 a) (nI a) 0 v25 v26 (nI bb) (fun j => nI (ct j)) (nI us) a30 a31 a32 a33 a34 a35 a36 a37 (fun j => nI (pil j)) (fun j => nI (rwv j)) (nI rl) v41 v42 v43 v44 v45) := hD
                      exact W.vret hx hb hr (fun t ht hW => ⟨⟨((a + 1), (a1 a), (nI a), 0), rfl, ⟨(by omega), (by omega), (by first | (intro h9; exact absurd rfl h9) | (intro _; omega))⟩, by rw [ht]; exact hP9, va_K.moved hW.alike hK, hD9⟩, hS.F ht⟩) hS.2.2 dX7_next_450
                    · refine lv_iload_n hx hb dX7_next_418 rfl (lv_at hl 0 rfl) ?_
                      refine lv_bipush (v := 44) hx hb dX7_next_419 (by decide) ?_
                      refine lv_icmp_eq (tgt := 442) hx hb dX7_next_421 (by decide) (fun cp421 => ?_) (fun cp421 => ?_)
                      · refine lv_iload_n hx hb dX7_next_442 rfl (lv_at hl 0 rfl) ?_
                        refine lv_goto (tgt := 447) hx hb dX7_next_443 (by decide) ?_
                        refine va_put (D := (dC, dI)) (ci := 6) (v := .int (a1 a)) (ty := (.int)) (C := RX7) (T := TX7) (N := 46) hx hb hts hiX7 tyX7 tyX7_ok nmX7 hown hK hP hD hS 0 rfl rfl 22 (by decide) (hts (.fieldLink RX7 136 "LinkModelsModel" "token" "I") (by decide +kernel)) (fun _ h9 => h9) rfl (by decide +kernel) rfl rfl (Nat.le_of_ble_eq_true rfl) dX7_next_447 (fun H locs hP hD hS => ?_)
                        have hP : va_P (dC, dI) vwCl (rW h0 r cI cJ cZ v0 a1 (nI tp) (nI bs) (fun j => nI (cl j)) a5 a6 a7 (fun j => nI (fc j)) a9 (fun j => nI (mb j)) a11 a12 a13 a14 a15 a16 a17 a18 a19 a20 (nI (a + 1)) (a1 a) (nI a) 0 v25 v26 (nI bb) (fun j => nI (ct j)) (nI us) a30 a31 a32 a33 a34 a35 a36 a37 (fun j => nI (pil j)) (fun j => nI (rwv j)) (nI rl) v41 v42 v43 v44 v45) H := hP
                        have hD : va_D A (rW h0 r cI cJ cZ v0 a1 (nI tp) (nI bs) (fun j => nI (cl j)) a5 a6 a7 (fun j => nI (fc j)) a9 (fun j => nI (mb j)) a11 a12 a13 a14 a15 a16 a17 a18 a19 a20 (nI (a + 1)) (a1 a) (nI a) 0 v25 v26 (nI bb) (fun j => nI (ct j)) (nI us) a30 a31 a32 a33 a34 a35 a36 a37 (fun j => nI (pil j)) (fun j => nI (rwv j)) (nI rl) v41 v42 v43 v44 v45) := hD
                        have hP9 : va_P (dC, dI) vwCl (rW h0 r cI cJ cZ v0 a1 (nI tp) (nI bs) (fun j => nI (cl j)) a5 a6 a7 (fun j => nI (fc j)) a9 (fun j => nI (mb j)) a11 a12 a13 a14 a15 a16 a17 a18 a19 a20 (nI (a + 1)) (a1 a) (nI a) 0 v25 v26 (nI bb) (fun j => nI (ct j)) (nI us) a30 a31 a32 a33 a34 a35 a36 a37 (fun j => nI (pil j)) (fun j => nI (rwv j)) (nI rl) v41 v42 v43 v44 v45) H := hP
                        have hD9 : va_D A (rW h0 r cI cJ cZ v0 a1 (nI tp) (nI bs) (fun j => nI (cl j)) a5 a6 a7 (fun j => nI (fc j)) a9 (fun j => nI (mb j)) a11 a12 a13 a14 a15 a16 a17 a18 a19 a20 (nI (a + 1)) (a1 a) (nI a) 0 v25 v26 (nI bb) (fun j => nI (ct j)) (nI us) a30 a31 a32 a33 a34 a35 a36 a37 (fun j => nI (pil j)) (fun j => nI (rwv j)) (nI rl) v41 v42 v43 v44 v45) := hD
                        exact W.vret hx hb hr (fun t ht hW => ⟨⟨((a + 1), (a1 a), (nI a), 0), rfl, ⟨(by omega), (by omega), (by first | (intro h9; exact absurd rfl h9) | (intro _; omega))⟩, by rw [ht]; exact hP9, va_K.moved hW.alike hK, hD9⟩, hS.F ht⟩) hS.2.2 dX7_next_450
                      · refine lv_iload_n hx hb dX7_next_424 rfl (lv_at hl 0 rfl) ?_
                        refine lv_bipush (v := 58) hx hb dX7_next_425 (by decide) ?_
                        refine lv_icmp_eq (tgt := 442) hx hb dX7_next_427 (by decide) (fun cp427 => ?_) (fun cp427 => ?_)
                        · refine lv_iload_n hx hb dX7_next_442 rfl (lv_at hl 0 rfl) ?_
                          refine lv_goto (tgt := 447) hx hb dX7_next_443 (by decide) ?_
                          refine va_put (D := (dC, dI)) (ci := 6) (v := .int (a1 a)) (ty := (.int)) (C := RX7) (T := TX7) (N := 46) hx hb hts hiX7 tyX7 tyX7_ok nmX7 hown hK hP hD hS 0 rfl rfl 22 (by decide) (hts (.fieldLink RX7 136 "LinkModelsModel" "token" "I") (by decide +kernel)) (fun _ h9 => h9) rfl (by decide +kernel) rfl rfl (Nat.le_of_ble_eq_true rfl) dX7_next_447 (fun H locs hP hD hS => ?_)
                          have hP : va_P (dC, dI) vwCl (rW h0 r cI cJ cZ v0 a1 (nI tp) (nI bs) (fun j => nI (cl j)) a5 a6 a7 (fun j => nI (fc j)) a9 (fun j => nI (mb j)) a11 a12 a13 a14 a15 a16 a17 a18 a19 a20 (nI (a + 1)) (a1 a) (nI a) 0 v25 v26 (nI bb) (fun j => nI (ct j)) (nI us) a30 a31 a32 a33 a34 a35 a36 a37 (fun j => nI (pil j)) (fun j => nI (rwv j)) (nI rl) v41 v42 v43 v44 v45) H := hP
                          have hD : va_D A (rW h0 r cI cJ cZ v0 a1 (nI tp) (nI bs) (fun j => nI (cl j)) a5 a6 a7 (fun j => nI (fc j)) a9 (fun j => nI (mb j)) a11 a12 a13 a14 a15 a16 a17 a18 a19 a20 (nI (a + 1)) (a1 a) (nI a) 0 v25 v26 (nI bb) (fun j => nI (ct j)) (nI us) a30 a31 a32 a33 a34 a35 a36 a37 (fun j => nI (pil j)) (fun j => nI (rwv j)) (nI rl) v41 v42 v43 v44 v45) := hD
                          have hP9 : va_P (dC, dI) vwCl (rW h0 r cI cJ cZ v0 a1 (nI tp) (nI bs) (fun j => nI (cl j)) a5 a6 a7 (fun j => nI (fc j)) a9 (fun j => nI (mb j)) a11 a12 a13 a14 a15 a16 a17 a18 a19 a20 (nI (a + 1)) (a1 a) (nI a) 0 v25 v26 (nI bb) (fun j => nI (ct j)) (nI us) a30 a31 a32 a33 a34 a35 a36 a37 (fun j => nI (pil j)) (fun j => nI (rwv j)) (nI rl) v41 v42 v43 v44 v45) H := hP
                          have hD9 : va_D A (rW h0 r cI cJ cZ v0 a1 (nI tp) (nI bs) (fun j => nI (cl j)) a5 a6 a7 (fun j => nI (fc j)) a9 (fun j => nI (mb j)) a11 a12 a13 a14 a15 a16 a17 a18 a19 a20 (nI (a + 1)) (a1 a) (nI a) 0 v25 v26 (nI bb) (fun j => nI (ct j)) (nI us) a30 a31 a32 a33 a34 a35 a36 a37 (fun j => nI (pil j)) (fun j => nI (rwv j)) (nI rl) v41 v42 v43 v44 v45) := hD
                          exact W.vret hx hb hr (fun t ht hW => ⟨⟨((a + 1), (a1 a), (nI a), 0), rfl, ⟨(by omega), (by omega), (by first | (intro h9; exact absurd rfl h9) | (intro _; omega))⟩, by rw [ht]; exact hP9, va_K.moved hW.alike hK, hD9⟩, hS.F ht⟩) hS.2.2 dX7_next_450
                        · refine lv_iload_n hx hb dX7_next_430 rfl (lv_at hl 0 rfl) ?_
                          refine lv_bipush (v := 61) hx hb dX7_next_431 (by decide) ?_
                          refine lv_icmp_eq (tgt := 442) hx hb dX7_next_433 (by decide) (fun cp433 => ?_) (fun cp433 => ?_)
                          · refine lv_iload_n hx hb dX7_next_442 rfl (lv_at hl 0 rfl) ?_
                            refine lv_goto (tgt := 447) hx hb dX7_next_443 (by decide) ?_
                            refine va_put (D := (dC, dI)) (ci := 6) (v := .int (a1 a)) (ty := (.int)) (C := RX7) (T := TX7) (N := 46) hx hb hts hiX7 tyX7 tyX7_ok nmX7 hown hK hP hD hS 0 rfl rfl 22 (by decide) (hts (.fieldLink RX7 136 "LinkModelsModel" "token" "I") (by decide +kernel)) (fun _ h9 => h9) rfl (by decide +kernel) rfl rfl (Nat.le_of_ble_eq_true rfl) dX7_next_447 (fun H locs hP hD hS => ?_)
                            have hP : va_P (dC, dI) vwCl (rW h0 r cI cJ cZ v0 a1 (nI tp) (nI bs) (fun j => nI (cl j)) a5 a6 a7 (fun j => nI (fc j)) a9 (fun j => nI (mb j)) a11 a12 a13 a14 a15 a16 a17 a18 a19 a20 (nI (a + 1)) (a1 a) (nI a) 0 v25 v26 (nI bb) (fun j => nI (ct j)) (nI us) a30 a31 a32 a33 a34 a35 a36 a37 (fun j => nI (pil j)) (fun j => nI (rwv j)) (nI rl) v41 v42 v43 v44 v45) H := hP
                            have hD : va_D A (rW h0 r cI cJ cZ v0 a1 (nI tp) (nI bs) (fun j => nI (cl j)) a5 a6 a7 (fun j => nI (fc j)) a9 (fun j => nI (mb j)) a11 a12 a13 a14 a15 a16 a17 a18 a19 a20 (nI (a + 1)) (a1 a) (nI a) 0 v25 v26 (nI bb) (fun j => nI (ct j)) (nI us) a30 a31 a32 a33 a34 a35 a36 a37 (fun j => nI (pil j)) (fun j => nI (rwv j)) (nI rl) v41 v42 v43 v44 v45) := hD
                            have hP9 : va_P (dC, dI) vwCl (rW h0 r cI cJ cZ v0 a1 (nI tp) (nI bs) (fun j => nI (cl j)) a5 a6 a7 (fun j => nI (fc j)) a9 (fun j => nI (mb j)) a11 a12 a13 a14 a15 a16 a17 a18 a19 a20 (nI (a + 1)) (a1 a) (nI a) 0 v25 v26 (nI bb) (fun j => nI (ct j)) (nI us) a30 a31 a32 a33 a34 a35 a36 a37 (fun j => nI (pil j)) (fun j => nI (rwv j)) (nI rl) v41 v42 v43 v44 v45) H := hP
                            have hD9 : va_D A (rW h0 r cI cJ cZ v0 a1 (nI tp) (nI bs) (fun j => nI (cl j)) a5 a6 a7 (fun j => nI (fc j)) a9 (fun j => nI (mb j)) a11 a12 a13 a14 a15 a16 a17 a18 a19 a20 (nI (a + 1)) (a1 a) (nI a) 0 v25 v26 (nI bb) (fun j => nI (ct j)) (nI us) a30 a31 a32 a33 a34 a35 a36 a37 (fun j => nI (pil j)) (fun j => nI (rwv j)) (nI rl) v41 v42 v43 v44 v45) := hD
                            exact W.vret hx hb hr (fun t ht hW => ⟨⟨((a + 1), (a1 a), (nI a), 0), rfl, ⟨(by omega), (by omega), (by first | (intro h9; exact absurd rfl h9) | (intro _; omega))⟩, by rw [ht]; exact hP9, va_K.moved hW.alike hK, hD9⟩, hS.F ht⟩) hS.2.2 dX7_next_450
                          · refine lv_iload_n hx hb dX7_next_436 rfl (lv_at hl 0 rfl) ?_
                            refine lv_bipush (v := 60) hx hb dX7_next_437 (by decide) ?_
                            refine lv_icmp_ne (tgt := 446) hx hb dX7_next_439 (by decide) (fun cp439 => ?_) (fun cp439 => ?_)
                            · refine lv_iconst (v := (-1)) hx hb dX7_next_446 (by decide) ?_
                              refine va_put (D := (dC, dI)) (ci := 6) (v := .int (-1)) (ty := (.int)) (C := RX7) (T := TX7) (N := 46) hx hb hts hiX7 tyX7 tyX7_ok nmX7 hown hK hP hD hS 0 rfl rfl 22 (by decide) (hts (.fieldLink RX7 136 "LinkModelsModel" "token" "I") (by decide +kernel)) (fun _ h9 => h9) rfl (by decide +kernel) rfl rfl (Nat.le_of_ble_eq_true rfl) dX7_next_447 (fun H locs hP hD hS => ?_)
                              have hP : va_P (dC, dI) vwCl (rW h0 r cI cJ cZ v0 a1 (nI tp) (nI bs) (fun j => nI (cl j)) a5 a6 a7 (fun j => nI (fc j)) a9 (fun j => nI (mb j)) a11 a12 a13 a14 a15 a16 a17 a18 a19 a20 (nI (a + 1)) (-1) (nI a) 0 v25 v26 (nI bb) (fun j => nI (ct j)) (nI us) a30 a31 a32 a33 a34 a35 a36 a37 (fun j => nI (pil j)) (fun j => nI (rwv j)) (nI rl) v41 v42 v43 v44 v45) H := hP
                              have hD : va_D A (rW h0 r cI cJ cZ v0 a1 (nI tp) (nI bs) (fun j => nI (cl j)) a5 a6 a7 (fun j => nI (fc j)) a9 (fun j => nI (mb j)) a11 a12 a13 a14 a15 a16 a17 a18 a19 a20 (nI (a + 1)) (-1) (nI a) 0 v25 v26 (nI bb) (fun j => nI (ct j)) (nI us) a30 a31 a32 a33 a34 a35 a36 a37 (fun j => nI (pil j)) (fun j => nI (rwv j)) (nI rl) v41 v42 v43 v44 v45) := hD
                              have hP9 : va_P (dC, dI) vwCl (rW h0 r cI cJ cZ v0 a1 (nI tp) (nI bs) (fun j => nI (cl j)) a5 a6 a7 (fun j => nI (fc j)) a9 (fun j => nI (mb j)) a11 a12 a13 a14 a15 a16 a17 a18 a19 a20 (nI (a + 1)) (-1) (nI a) 0 v25 v26 (nI bb) (fun j => nI (ct j)) (nI us) a30 a31 a32 a33 a34 a35 a36 a37 (fun j => nI (pil j)) (fun j => nI (rwv j)) (nI rl) v41 v42 v43 v44 v45) H := hP
                              have hD9 : va_D A (rW h0 r cI cJ cZ v0 a1 (nI tp) (nI bs) (fun j => nI (cl j)) a5 a6 a7 (fun j => nI (fc j)) a9 (fun j => nI (mb j)) a11 a12 a13 a14 a15 a16 a17 a18 a19 a20 (nI (a + 1)) (-1) (nI a) 0 v25 v26 (nI bb) (fun j => nI (ct j)) (nI us) a30 a31 a32 a33 a34 a35 a36 a37 (fun j => nI (pil j)) (fun j => nI (rwv j)) (nI rl) v41 v42 v43 v44 v45) := hD
                              exact W.vret hx hb hr (fun t ht hW => ⟨⟨((a + 1), (-1), (nI a), 0), rfl, ⟨(by omega), (by omega), (by first | (intro h9; exact absurd rfl h9) | (intro _; omega))⟩, by rw [ht]; exact hP9, va_K.moved hW.alike hK, hD9⟩, hS.F ht⟩) hS.2.2 dX7_next_450
                            · refine lv_iload_n hx hb dX7_next_442 rfl (lv_at hl 0 rfl) ?_
                              refine lv_goto (tgt := 447) hx hb dX7_next_443 (by decide) ?_
                              refine va_put (D := (dC, dI)) (ci := 6) (v := .int (a1 a)) (ty := (.int)) (C := RX7) (T := TX7) (N := 46) hx hb hts hiX7 tyX7 tyX7_ok nmX7 hown hK hP hD hS 0 rfl rfl 22 (by decide) (hts (.fieldLink RX7 136 "LinkModelsModel" "token" "I") (by decide +kernel)) (fun _ h9 => h9) rfl (by decide +kernel) rfl rfl (Nat.le_of_ble_eq_true rfl) dX7_next_447 (fun H locs hP hD hS => ?_)
                              have hP : va_P (dC, dI) vwCl (rW h0 r cI cJ cZ v0 a1 (nI tp) (nI bs) (fun j => nI (cl j)) a5 a6 a7 (fun j => nI (fc j)) a9 (fun j => nI (mb j)) a11 a12 a13 a14 a15 a16 a17 a18 a19 a20 (nI (a + 1)) (a1 a) (nI a) 0 v25 v26 (nI bb) (fun j => nI (ct j)) (nI us) a30 a31 a32 a33 a34 a35 a36 a37 (fun j => nI (pil j)) (fun j => nI (rwv j)) (nI rl) v41 v42 v43 v44 v45) H := hP
                              have hD : va_D A (rW h0 r cI cJ cZ v0 a1 (nI tp) (nI bs) (fun j => nI (cl j)) a5 a6 a7 (fun j => nI (fc j)) a9 (fun j => nI (mb j)) a11 a12 a13 a14 a15 a16 a17 a18 a19 a20 (nI (a + 1)) (a1 a) (nI a) 0 v25 v26 (nI bb) (fun j => nI (ct j)) (nI us) a30 a31 a32 a33 a34 a35 a36 a37 (fun j => nI (pil j)) (fun j => nI (rwv j)) (nI rl) v41 v42 v43 v44 v45) := hD
                              have hP9 : va_P (dC, dI) vwCl (rW h0 r cI cJ cZ v0 a1 (nI tp) (nI bs) (fun j => nI (cl j)) a5 a6 a7 (fun j => nI (fc j)) a9 (fun j => nI (mb j)) a11 a12 a13 a14 a15 a16 a17 a18 a19 a20 (nI (a + 1)) (a1 a) (nI a) 0 v25 v26 (nI bb) (fun j => nI (ct j)) (nI us) a30 a31 a32 a33 a34 a35 a36 a37 (fun j => nI (pil j)) (fun j => nI (rwv j)) (nI rl) v41 v42 v43 v44 v45) H := hP
                              have hD9 : va_D A (rW h0 r cI cJ cZ v0 a1 (nI tp) (nI bs) (fun j => nI (cl j)) a5 a6 a7 (fun j => nI (fc j)) a9 (fun j => nI (mb j)) a11 a12 a13 a14 a15 a16 a17 a18 a19 a20 (nI (a + 1)) (a1 a) (nI a) 0 v25 v26 (nI bb) (fun j => nI (ct j)) (nI us) a30 a31 a32 a33 a34 a35 a36 a37 (fun j => nI (pil j)) (fun j => nI (rwv j)) (nI rl) v41 v42 v43 v44 v45) := hD
                              exact W.vret hx hb hr (fun t ht hW => ⟨⟨((a + 1), (a1 a), (nI a), 0), rfl, ⟨(by omega), (by omega), (by first | (intro h9; exact absurd rfl h9) | (intro _; omega))⟩, by rw [ht]; exact hP9, va_K.moved hW.alike hK, hD9⟩, hS.F ht⟩) hS.2.2 dX7_next_450
          · have hone : kIn 48 57 (a1 a) = 1 := (kIn_01 48 57 (a1 a)).elim (fun h9 => absurd (w0r38.trans h9) cc270) id
            exact J273 _ a (a1 a) a v22 (nI a) 0 _ _ ls (Nat.lt_succ_self _) (by omega) (by omega) (by omega) (by omega) (by first | (intro h9; omega) | (intro _; assumption)) hP hD hS (lv_sub hl [1, 0] rfl)
        · have hone : kIn 97 122 (a1 a) = 1 := (kIn_01 97 122 (a1 a)).elim (fun h9 => absurd (w0r37.trans h9) cc185) id
          exact J188 _ a (a1 a) a v22 (nI a) 0 _ _ ls (Nat.lt_succ_self _) (by omega) (by omega) (by omega) (by omega) (by first | (intro h9; omega) | (intro _; assumption)) hP hD hS (lv_sub hl [1, 0] rfl)
      · have hone : kIn 65 90 (a1 a) = 1 := (kIn_01 65 90 (a1 a)).elim (fun h9 => absurd (w0r36.trans h9) cc91) id
        exact J94 _ a (a1 a) a v22 (nI a) 0 _ _ ls (Nat.lt_succ_self _) (by omega) (by omega) (by omega) (by omega) (by first | (intro h9; omega) | (intro _; assumption)) hP hD hS (lv_sub hl [1, 0] rfl)
    · have qcp73 : a = tp := (nI_eq (a := a) (b := tp) (by omega) (by omega)).mp cp73
      refine lv_aload_n hx hb dX7_next_76 rfl (lv_at hl 0 rfl) ?_
      refine lv_iconst (v := 0) hx hb dX7_next_77 (by decide) ?_
      refine va_put (D := (dC, dI)) (ci := 6) (v := .int 0) (ty := (.int)) (C := RX7) (T := TX7) (N := 46) hx hb hts hiX7 tyX7 tyX7_ok nmX7 hown hK hP hD hS 0 rfl rfl 22 (by decide) (hts (.fieldLink RX7 136 "LinkModelsModel" "token" "I") (by decide +kernel)) (fun _ h9 => h9) rfl (by decide +kernel) rfl rfl (Nat.le_of_ble_eq_true rfl) dX7_next_78 (fun H locs hP hD hS => ?_)
      have hP : va_P (dC, dI) vwCl (rW h0 r cI cJ cZ v0 a1 (nI tp) (nI bs) (fun j => nI (cl j)) a5 a6 a7 (fun j => nI (fc j)) a9 (fun j => nI (mb j)) a11 a12 a13 a14 a15 a16 a17 a18 a19 a20 (nI a) 0 (nI a) 0 v25 v26 (nI bb) (fun j => nI (ct j)) (nI us) a30 a31 a32 a33 a34 a35 a36 a37 (fun j => nI (pil j)) (fun j => nI (rwv j)) (nI rl) v41 v42 v43 v44 v45) H := hP
      have hD : va_D A (rW h0 r cI cJ cZ v0 a1 (nI tp) (nI bs) (fun j => nI (cl j)) a5 a6 a7 (fun j => nI (fc j)) a9 (fun j => nI (mb j)) a11 a12 a13 a14 a15 a16 a17 a18 a19 a20 (nI a) 0 (nI a) 0 v25 v26 (nI bb) (fun j => nI (ct j)) (nI us) a30 a31 a32 a33 a34 a35 a36 a37 (fun j => nI (pil j)) (fun j => nI (rwv j)) (nI rl) v41 v42 v43 v44 v45) := hD
      have hP9 : va_P (dC, dI) vwCl (rW h0 r cI cJ cZ v0 a1 (nI tp) (nI bs) (fun j => nI (cl j)) a5 a6 a7 (fun j => nI (fc j)) a9 (fun j => nI (mb j)) a11 a12 a13 a14 a15 a16 a17 a18 a19 a20 (nI a) 0 (nI a) 0 v25 v26 (nI bb) (fun j => nI (ct j)) (nI us) a30 a31 a32 a33 a34 a35 a36 a37 (fun j => nI (pil j)) (fun j => nI (rwv j)) (nI rl) v41 v42 v43 v44 v45) H := hP
      have hD9 : va_D A (rW h0 r cI cJ cZ v0 a1 (nI tp) (nI bs) (fun j => nI (cl j)) a5 a6 a7 (fun j => nI (fc j)) a9 (fun j => nI (mb j)) a11 a12 a13 a14 a15 a16 a17 a18 a19 a20 (nI a) 0 (nI a) 0 v25 v26 (nI bb) (fun j => nI (ct j)) (nI us) a30 a31 a32 a33 a34 a35 a36 a37 (fun j => nI (pil j)) (fun j => nI (rwv j)) (nI rl) v41 v42 v43 v44 v45) := hD
      exact W.vret hx hb hr (fun t ht hW => ⟨⟨(a, 0, (nI a), 0), rfl, ⟨(by omega), (by omega), (by first | (intro h9; exact absurd rfl h9) | (intro _; omega))⟩, by rw [ht]; exact hP9, va_K.moved hW.alike hK, hD9⟩, hS.F ht⟩) hS.2.2 dX7_next_81
  have J0 : ∀ (z0 : Nat) (a : Nat) (H : Heap) (locs : List Loc) (ls : Array Slot), tp - a < z0 → (az ≤ a) → (a ≤ tp) → va_P (dC, dI) vwCl (rW h0 r cI cJ cZ v0 a1 (nI tp) (nI bs) (fun j => nI (cl j)) a5 a6 a7 (fun j => nI (fc j)) a9 (fun j => nI (mb j)) a11 a12 a13 a14 a15 a16 a17 a18 a19 a20 (nI a) v22 v23 v24 v25 v26 (nI bb) (fun j => nI (ct j)) (nI us) a30 a31 a32 a33 a34 a35 a36 a37 (fun j => nI (pil j)) (fun j => nI (rwv j)) (nI rl) v41 v42 v43 v44 v45) H → va_D A (rW h0 r cI cJ cZ v0 a1 (nI tp) (nI bs) (fun j => nI (cl j)) a5 a6 a7 (fun j => nI (fc j)) a9 (fun j => nI (mb j)) a11 a12 a13 a14 a15 a16 a17 a18 a19 a20 (nI a) v22 v23 v24 v25 v26 (nI bb) (fun j => nI (ct j)) (nI us) a30 a31 a32 a33 a34 a35 a36 a37 (fun j => nI (pil j)) (fun j => nI (rwv j)) (nI rl) v41 v42 v43 v44 v45) → va_S A s.heap H locs → lv_has ls 2 [(0, .ref h0)] → W p l e (headSpec zwX7_next { frames := 2, cells := 0, slots := 0, locals := 45 }).room s m (([.ref h0] : List Value).toArray) below meth c H locs 0 0 (MQ below (va_Qv (fun u : Nat × Int32 × Int32 × Int64 => (az ≤ (u.1)) ∧ ((u.1) ≤ tp) ∧ (¬ (u.2.1) = 0 → az < (u.1))) (fun u t => zB dC dI (A) (rW h0 r cI cJ cZ v0 a1 (nI tp) (nI bs) (fun j => nI (cl j)) a5 a6 a7 (fun j => nI (fc j)) a9 (fun j => nI (mb j)) a11 a12 a13 a14 a15 a16 a17 a18 a19 a20 (nI (u.1)) (u.2.1) (u.2.2.1) (u.2.2.2) v25 v26 (nI bb) (fun j => nI (ct j)) (nI us) a30 a31 a32 a33 a34 a35 a36 a37 (fun j => nI (pil j)) (fun j => nI (rwv j)) (nI rl) v41 v42 v43 v44 v45) [(cI, .int), (cJ, .long), (cZ, .boolean)] t) (A)) (([.ref h0] : List Value).toArray) s 0 0 A) (F0 m 0 ls []) := by
    intro z0
    induction z0 with
    | zero => intro a H locs ls h9; exact absurd h9 (Nat.not_lt_zero _)
    | succ z0 ih0 =>
      intro a H locs ls hm0 i0_0 i0_1 hP hD hS hl
      refine lv_aload_n hx hb dX7_next_0 rfl (lv_at hl 0 rfl) ?_
      refine va_get (D := (dC, dI)) (ci := 6) (v := .int (nI a)) (C := RX7) (T := TX7) (N := 46) hx hb hts hiX7 hown hK hP 0 rfl rfl 21 (by decide) (hts (.fieldLink RX7 126 "LinkModelsModel" "at" "I") (by decide +kernel)) (fun _ h9 => h9) rfl dX7_next_1 ?_
      refine lv_aload_n hx hb dX7_next_4 rfl (lv_at hl 0 rfl) ?_
      refine va_get (D := (dC, dI)) (ci := 6) (v := .int (nI tp)) (C := RX7) (T := TX7) (N := 46) hx hb hts hiX7 hown hK hP 0 rfl rfl 2 (by decide) (hts (.fieldLink RX7 109 "LinkModelsModel" "taped" "I") (by decide +kernel)) (fun _ h9 => h9) rfl dX7_next_5 ?_
      refine lv_icmp_ge (tgt := 52) hx hb dX7_next_8 (by decide) (fun cp8 => ?_) (fun cp8 => ?_)
      · have qcp8 : tp ≤ a := (nI_leI (a := tp) (b := a) (by omega) (by omega)).mp cp8
        exact J52 a _ _ ls  (by first | omega | assumption | trivial) (by first | omega | assumption | trivial) hP hD hS (lv_sub hl [0] rfl)
      · have qcp8 : ¬ tp ≤ a := fun h9 => cp8 ((nI_leI (a := tp) (b := a) (by omega) (by omega)).mpr h9)
        refine lv_aload_n hx hb dX7_next_11 rfl (lv_at hl 0 rfl) ?_
        refine va_get (D := (dC, dI)) (ci := 6) (v := .ref (r 1)) (C := RX7) (T := TX7) (N := 46) hx hb hts hiX7 hown hK hP 0 rfl rfl 1 (by decide) (hts (.fieldLink RX7 13 "LinkModelsModel" "tape" "[I") (by decide +kernel)) (fun _ h9 => h9) rfl dX7_next_12 ?_
        refine lv_aload_n hx hb dX7_next_15 rfl (lv_at hl 0 rfl) ?_
        refine va_get (D := (dC, dI)) (ci := 6) (v := .int (nI a)) (C := RX7) (T := TX7) (N := 46) hx hb hts hiX7 hown hK hP 0 rfl rfl 21 (by decide) (hts (.fieldLink RX7 126 "LinkModelsModel" "at" "I") (by decide +kernel)) (fun _ h9 => h9) rfl dX7_next_16 ?_
        refine va_iald hx hb hK hP 1 0 rfl rfl (vp_in_nI (show a < 800 by omega) (by decide)) dX7_next_19 ?_
        refine lv_topi (fun x40 ex40 => ?_)
        obtain rfl : x40 = a1 a := by rw [ex40, nI_clamp (show a < 2 ^ 31 by omega)]
        refine lv_bipush (v := 32) hx hb dX7_next_20 (by decide) ?_
        refine lv_icmp_eq (tgt := 39) hx hb dX7_next_22 (by decide) (fun cp22 => ?_) (fun cp22 => ?_)
        · refine lv_aload_n hx hb dX7_next_39 rfl (lv_at hl 0 rfl) ?_
          refine lv_dup hx hb dX7_next_40 rfl ?_
          refine va_get (D := (dC, dI)) (ci := 6) (v := .int (nI a)) (C := RX7) (T := TX7) (N := 46) hx hb hts hiX7 hown hK hP 0 rfl rfl 21 (by decide) (hts (.fieldLink RX7 126 "LinkModelsModel" "at" "I") (by decide +kernel)) (fun _ h9 => h9) rfl dX7_next_41 ?_
          refine lv_iconst (v := 1) hx hb dX7_next_44 (by decide) ?_
          refine lv_iadd hx hb dX7_next_45 ?_
          refine lv_topi (fun x41 ex41 => ?_)
          obtain rfl : x41 = nI (a + 1) := by rw [ex41]; exact nI_add (a) (1)
          refine va_put (D := (dC, dI)) (ci := 6) (v := .int (nI (a + 1))) (ty := (.int)) (C := RX7) (T := TX7) (N := 46) hx hb hts hiX7 tyX7 tyX7_ok nmX7 hown hK hP hD hS 0 rfl rfl 21 (by decide) (hts (.fieldLink RX7 126 "LinkModelsModel" "at" "I") (by decide +kernel)) (fun _ h9 => h9) rfl (by decide +kernel) rfl rfl (Nat.le_of_ble_eq_true rfl) dX7_next_46 (fun H locs hP hD hS => ?_)
          have hP : va_P (dC, dI) vwCl (rW h0 r cI cJ cZ v0 a1 (nI tp) (nI bs) (fun j => nI (cl j)) a5 a6 a7 (fun j => nI (fc j)) a9 (fun j => nI (mb j)) a11 a12 a13 a14 a15 a16 a17 a18 a19 a20 (nI (a + 1)) v22 v23 v24 v25 v26 (nI bb) (fun j => nI (ct j)) (nI us) a30 a31 a32 a33 a34 a35 a36 a37 (fun j => nI (pil j)) (fun j => nI (rwv j)) (nI rl) v41 v42 v43 v44 v45) H := hP
          have hD : va_D A (rW h0 r cI cJ cZ v0 a1 (nI tp) (nI bs) (fun j => nI (cl j)) a5 a6 a7 (fun j => nI (fc j)) a9 (fun j => nI (mb j)) a11 a12 a13 a14 a15 a16 a17 a18 a19 a20 (nI (a + 1)) v22 v23 v24 v25 v26 (nI bb) (fun j => nI (ct j)) (nI us) a30 a31 a32 a33 a34 a35 a36 a37 (fun j => nI (pil j)) (fun j => nI (rwv j)) (nI rl) v41 v42 v43 v44 v45) := hD
          refine lv_goto (tgt := 0) hx hb dX7_next_49 (by decide) ?_
          exact ih0 (a + 1) _ _ ls (by omega) (by first | omega | assumption | trivial) (by first | omega | assumption | trivial) hP hD hS (lv_sub hl [0] rfl)
        · refine lv_aload_n hx hb dX7_next_25 rfl (lv_at hl 0 rfl) ?_
          refine va_get (D := (dC, dI)) (ci := 6) (v := .ref (r 1)) (C := RX7) (T := TX7) (N := 46) hx hb hts hiX7 hown hK hP 0 rfl rfl 1 (by decide) (hts (.fieldLink RX7 13 "LinkModelsModel" "tape" "[I") (by decide +kernel)) (fun _ h9 => h9) rfl dX7_next_26 ?_
          refine lv_aload_n hx hb dX7_next_29 rfl (lv_at hl 0 rfl) ?_
          refine va_get (D := (dC, dI)) (ci := 6) (v := .int (nI a)) (C := RX7) (T := TX7) (N := 46) hx hb hts hiX7 hown hK hP 0 rfl rfl 21 (by decide) (hts (.fieldLink RX7 126 "LinkModelsModel" "at" "I") (by decide +kernel)) (fun _ h9 => h9) rfl dX7_next_30 ?_
          refine va_iald hx hb hK hP 1 0 rfl rfl (vp_in_nI (show a < 800 by omega) (by decide)) dX7_next_33 ?_
          refine lv_topi (fun x42 ex42 => ?_)
          obtain rfl : x42 = a1 a := by rw [ex42, nI_clamp (show a < 2 ^ 31 by omega)]
          refine lv_bipush (v := 10) hx hb dX7_next_34 (by decide) ?_
          refine lv_icmp_ne (tgt := 52) hx hb dX7_next_36 (by decide) (fun cp36 => ?_) (fun cp36 => ?_)
          · exact J52 a _ _ ls  (by first | omega | assumption | trivial) (by first | omega | assumption | trivial) hP hD hS (lv_sub hl [0] rfl)
          · refine lv_aload_n hx hb dX7_next_39 rfl (lv_at hl 0 rfl) ?_
            refine lv_dup hx hb dX7_next_40 rfl ?_
            refine va_get (D := (dC, dI)) (ci := 6) (v := .int (nI a)) (C := RX7) (T := TX7) (N := 46) hx hb hts hiX7 hown hK hP 0 rfl rfl 21 (by decide) (hts (.fieldLink RX7 126 "LinkModelsModel" "at" "I") (by decide +kernel)) (fun _ h9 => h9) rfl dX7_next_41 ?_
            refine lv_iconst (v := 1) hx hb dX7_next_44 (by decide) ?_
            refine lv_iadd hx hb dX7_next_45 ?_
            refine lv_topi (fun x43 ex43 => ?_)
            obtain rfl : x43 = nI (a + 1) := by rw [ex43]; exact nI_add (a) (1)
            refine va_put (D := (dC, dI)) (ci := 6) (v := .int (nI (a + 1))) (ty := (.int)) (C := RX7) (T := TX7) (N := 46) hx hb hts hiX7 tyX7 tyX7_ok nmX7 hown hK hP hD hS 0 rfl rfl 21 (by decide) (hts (.fieldLink RX7 126 "LinkModelsModel" "at" "I") (by decide +kernel)) (fun _ h9 => h9) rfl (by decide +kernel) rfl rfl (Nat.le_of_ble_eq_true rfl) dX7_next_46 (fun H locs hP hD hS => ?_)
            have hP : va_P (dC, dI) vwCl (rW h0 r cI cJ cZ v0 a1 (nI tp) (nI bs) (fun j => nI (cl j)) a5 a6 a7 (fun j => nI (fc j)) a9 (fun j => nI (mb j)) a11 a12 a13 a14 a15 a16 a17 a18 a19 a20 (nI (a + 1)) v22 v23 v24 v25 v26 (nI bb) (fun j => nI (ct j)) (nI us) a30 a31 a32 a33 a34 a35 a36 a37 (fun j => nI (pil j)) (fun j => nI (rwv j)) (nI rl) v41 v42 v43 v44 v45) H := hP
            have hD : va_D A (rW h0 r cI cJ cZ v0 a1 (nI tp) (nI bs) (fun j => nI (cl j)) a5 a6 a7 (fun j => nI (fc j)) a9 (fun j => nI (mb j)) a11 a12 a13 a14 a15 a16 a17 a18 a19 a20 (nI (a + 1)) v22 v23 v24 v25 v26 (nI bb) (fun j => nI (ct j)) (nI us) a30 a31 a32 a33 a34 a35 a36 a37 (fun j => nI (pil j)) (fun j => nI (rwv j)) (nI rl) v41 v42 v43 v44 v45) := hD
            refine lv_goto (tgt := 0) hx hb dX7_next_49 (by decide) ?_
            exact ih0 (a + 1) _ _ ls (by omega) (by first | omega | assumption | trivial) (by first | omega | assumption | trivial) hP hD hS (lv_sub hl [0] rfl)
  exact J0 _ az _ _ ls (Nat.lt_succ_self _) (by first | omega | assumption | trivial) (by first | omega | assumption | trivial) hP hD hS (lv_sub hl [0] rfl)
theorem dX7_takes_0 : decode cX7_takes 0 = .ok (.aload_n 0, 1) := by decide +kernel
theorem dX7_takes_1 : decode cX7_takes 1 = .ok (.getfield 136, 3) := by decide +kernel
theorem dX7_takes_4 : decode cX7_takes 4 = .ok (.iload_n 1, 1) := by decide +kernel
theorem dX7_takes_5 : decode cX7_takes 5 = .ok (.if_icmp .eq 9, 3) := by decide +kernel
theorem dX7_takes_8 : decode cX7_takes 8 = .ok (.aload_n 0, 1) := by decide +kernel
theorem dX7_takes_9 : decode cX7_takes 9 = .ok (.iconst 1, 1) := by decide +kernel
theorem dX7_takes_10 : decode cX7_takes 10 = .ok (.invokevirtual 192, 3) := by decide +kernel
theorem dX7_takes_13 : decode cX7_takes 13 = .ok (.ireturn, 1) := by decide +kernel
theorem dX7_takes_14 : decode cX7_takes 14 = .ok (.aload_n 0, 1) := by decide +kernel
theorem dX7_takes_15 : decode cX7_takes 15 = .ok (.invokevirtual 195, 3) := by decide +kernel
theorem dX7_takes_18 : decode cX7_takes 18 = .ok (.iconst 1, 1) := by decide +kernel
theorem dX7_takes_19 : decode cX7_takes 19 = .ok (.ireturn, 1) := by decide +kernel
def zwX7_takes : List Cond := .code yX7_takes cX7_takes 2 (some .boolean) :: ([.fieldLink RX7 136 "LinkModelsModel" "token" "I", .methodLink RX7 195 yX7_next, .instanceMethod yX7_next, .selects RX7 yX7_next yX7_next, .initialized RX7, .code yX7_next cX7_next 2 none, .fieldLink RX7 126 "LinkModelsModel" "at" "I", .fieldLink RX7 129 "LinkModelsModel" "tokenAt" "I", .fieldLink RX7 109 "LinkModelsModel" "taped" "I", .fieldLink RX7 132 "LinkModelsModel" "value" "J", .constantLong RX7 153 (10), .constantLong RX7 118 (48), .fieldLink RX7 13 "LinkModelsModel" "tape" "[I", .methodLink RX7 139 yX7_here, .instanceMethod yX7_here, .selects RX7 yX7_here yX7_here, .code yX7_here cX7_here 1 (some .int), .methodLink RX7 143 yX7_isBig, .static yX7_isBig, .code yX7_isBig cX7_isBig 1 (some .boolean), .constantLong RX7 114 (65), .constantLong RX7 116 (90), .methodLink RX7 105 yX7_in, .static yX7_in, .code yX7_in cX7_in 6 (some .boolean), .methodLink RX7 147 yX7_isDigit, .static yX7_isDigit, .code yX7_isDigit cX7_isDigit 1 (some .boolean), .constantLong RX7 120 (57), .methodLink RX7 150 yX7_isSmall, .static yX7_isSmall, .code yX7_isSmall cX7_isSmall 1 (some .boolean), .constantLong RX7 122 (97), .constantLong RX7 124 (122), .methodLink RX7 192 yX7_fails, .instanceMethod yX7_fails, .selects RX7 yX7_fails yX7_fails, .code yX7_fails cX7_fails 2 (some .boolean), .fieldLink RX7 155 "LinkModelsModel" "fault" "I", .fieldLink RX7 158 "LinkModelsModel" "faultAt" "I"] ++ wsX70)
theorem zgX7_takes_X7_next_195 : GoodIn zwX7_takes (wsV RX7 195 RX7 yX7_next zwX7_next) := goodIn_app (goodIn_of _ (by decide +kernel)) (goodIn_ca (goodIn_of _ (by decide +kernel)) (zgt zg7))
theorem zgX7_takes_X7_fails_192 : GoodIn zwX7_takes (wsV RX7 192 RX7 yX7_fails zwX7_fails) := goodIn_app (goodIn_of _ (by decide +kernel)) (goodIn_ca (goodIn_of _ (by decide +kernel)) (zgt zg7))
set_option maxHeartbeats 4000000 in
set_option maxRecDepth 100000 in
theorem kX7_takes (l : Launch) (dC : Nat → ClassId) (dI : Nat → Nat → Nat) (h0 : Nat) (r : Nat → Nat) (cI : ClassId) (cJ : ClassId) (cZ : ClassId) (v0 : Int32) (a1 : Nat → Int32) (tp : Nat) (bs : Nat) (cl : Nat → Nat) (a5 : Nat → Int32) (a6 : Nat → Int32) (a7 : Nat → Int32) (fc : Nat → Nat) (a9 : Nat → Int32) (mb : Nat → Nat) (a11 : Nat → Int32) (a12 : Nat → Int32) (a13 : Nat → Int64) (a14 : Nat → Int32) (a15 : Nat → Int32) (a16 : Nat → Int32) (a17 : Nat → Int32) (a18 : Nat → Int32) (a19 : Nat → Int32) (a20 : Nat → Int32) (az : Nat) (v22 : Int32) (v23 : Int32) (v24 : Int64) (v25 : Int32) (v26 : Int32) (bb : Nat) (ct : Nat → Nat) (us : Nat) (a30 : Nat → Int32) (a31 : Nat → Int32) (a32 : Nat → Int32) (a33 : Nat → Int64) (a34 : Nat → Int32) (a35 : Nat → Int32) (a36 : Nat → Int32) (a37 : Nat → Int32) (pil : Nat → Nat) (rwv : Nat → Nat) (rl : Nat) (v41 : Int32) (v42 : Int32) (v43 : Int32) (v44 : Int32) (v45 : Int32) (hI : rWI tp bs cl fc mb az bb ct us pil rwv rl) (sg : Int32) (hp0 : az ≤ tp) (sz : Nat) : Met l yX7_takes zwX7_takes ({ frames := 3, cells := 0, slots := 0, locals := 66 }) (zPm dC dI [.ref h0, .int sg] sz (rW h0 r cI cJ cZ v0 a1 (nI tp) (nI bs) (fun j => nI (cl j)) a5 a6 a7 (fun j => nI (fc j)) a9 (fun j => nI (mb j)) a11 a12 a13 a14 a15 a16 a17 a18 a19 a20 (nI az) v22 v23 v24 v25 v26 (nI bb) (fun j => nI (ct j)) (nI us) a30 a31 a32 a33 a34 a35 a36 a37 (fun j => nI (pil j)) (fun j => nI (rwv j)) (nI rl) v41 v42 v43 v44 v45) [(cI, .int), (cJ, .long), (cZ, .boolean)]) (va_Qi (fun (r : Int32) (u : Nat × Int32 × Int32 × Int64 × Int32 × Int32) => (r = 0 ∨ r = 1) ∧ (az ≤ (u.1)) ∧ ((u.1) ≤ tp) ∧ (¬ (u.2.1) = 0 → r = 1 → az < (u.1))) (fun u t => zB dC dI (va_A (rW h0 r cI cJ cZ v0 a1 (nI tp) (nI bs) (fun j => nI (cl j)) a5 a6 a7 (fun j => nI (fc j)) a9 (fun j => nI (mb j)) a11 a12 a13 a14 a15 a16 a17 a18 a19 a20 (nI az) v22 v23 v24 v25 v26 (nI bb) (fun j => nI (ct j)) (nI us) a30 a31 a32 a33 a34 a35 a36 a37 (fun j => nI (pil j)) (fun j => nI (rwv j)) (nI rl) v41 v42 v43 v44 v45) sz) (rW h0 r cI cJ cZ v0 a1 (nI tp) (nI bs) (fun j => nI (cl j)) a5 a6 a7 (fun j => nI (fc j)) a9 (fun j => nI (mb j)) a11 a12 a13 a14 a15 a16 a17 a18 a19 a20 (nI (u.1)) (u.2.1) (u.2.2.1) (u.2.2.2.1) (u.2.2.2.2.1) (u.2.2.2.2.2) (nI bb) (fun j => nI (ct j)) (nI us) a30 a31 a32 a33 a34 a35 a36 a37 (fun j => nI (pil j)) (fun j => nI (rwv j)) (nI rl) v41 v42 v43 v44 v45) [(cI, .int), (cJ, .long), (cZ, .boolean)] t) (va_A (rW h0 r cI cJ cZ v0 a1 (nI tp) (nI bs) (fun j => nI (cl j)) a5 a6 a7 (fun j => nI (fc j)) a9 (fun j => nI (mb j)) a11 a12 a13 a14 a15 a16 a17 a18 a19 a20 (nI az) v22 v23 v24 v25 v26 (nI bb) (fun j => nI (ct j)) (nI us) a30 a31 a32 a33 a34 a35 a36 a37 (fun j => nI (pil j)) (fun j => nI (rwv j)) (nI rl) v41 v42 v43 v44 v45) sz)) 0 0 (va_A (rW h0 r cI cJ cZ v0 a1 (nI tp) (nI bs) (fun j => nI (cl j)) a5 a6 a7 (fun j => nI (fc j)) a9 (fun j => nI (mb j)) a11 a12 a13 a14 a15 a16 a17 a18 a19 a20 (nI az) v22 v23 v24 v25 v26 (nI bb) (fun j => nI (ct j)) (nI us) a30 a31 a32 a33 a34 a35 a36 a37 (fun j => nI (pil j)) (fun j => nI (rwv j)) (nI rl) v41 v42 v43 v44 v45) sz) := by
  refine Met.ofW (cc := cX7_takes) (maxL := 2) (ret := (some .boolean)) (by decide) rfl ?_
  intro p e s m args below meth c s₁ B hml hv
  obtain ⟨rfl, hsz, hP, hK, hD0, hL0⟩ := hv
  have hx := B.exec
  have hb := B.bytes
  have hr := B.returns
  have hts := atoms_spec (ws := zwX7_takes) B.pre
  have hown : s.vm.findClass RX7 = some m.cls := findClass_of_methodNamed B.named
  have hiX7 : ∀ w ∈ wsX70, w ∈ zwX7_takes := (fun _ h => List.mem_cons_of_mem _ (List.mem_append_right _ h))
  obtain ⟨htp, hbs, hus, hcl, hfc, hmb, hct, hpil, hrwv⟩ := hI
  subst hsz
  have hD := hD0.self (sz := s.heap.size)
  generalize hAe : va_A (rW h0 r cI cJ cZ v0 a1 (nI tp) (nI bs) (fun j => nI (cl j)) a5 a6 a7 (fun j => nI (fc j)) a9 (fun j => nI (mb j)) a11 a12 a13 a14 a15 a16 a17 a18 a19 a20 (nI az) v22 v23 v24 v25 v26 (nI bb) (fun j => nI (ct j)) (nI us) a30 a31 a32 a33 a34 a35 a36 a37 (fun j => nI (pil j)) (fun j => nI (rwv j)) (nI rl) v41 v42 v43 v44 v45) s.heap.size = A at hD hL0 ⊢
  have hA : ∀ q : Nat, s.heap.size ≤ q → A q := fun q h => by rw [← hAe]; exact Or.inr h
  have hS : va_S A s.heap s.heap [] := va_S.rf
  have hL := hL0
  have hl := lv_entry ([.ref h0, .int sg]) (n := 2) (Nat.le_of_ble_eq_true rfl)
  rw [lg_entry_eq]
  generalize (lg_sl ([.ref h0, .int sg]) ++ List.replicate (2 - (lg_sl ([.ref h0, .int sg])).length) Slot.unset).toArray = ls at hl ⊢
  have hl : lv_has ls 2 [(0, .ref h0), (1, .int sg)] := hl
  refine lv_aload_n hx hb dX7_takes_0 rfl (lv_at hl 0 rfl) ?_
  refine va_get (D := (dC, dI)) (ci := 6) (v := .int v22) (C := RX7) (T := TX7) (N := 46) hx hb hts hiX7 hown hK hP 0 rfl rfl 22 (by decide) (hts (.fieldLink RX7 136 "LinkModelsModel" "token" "I") (by decide +kernel)) (fun _ h9 => h9) rfl dX7_takes_1 ?_
  refine lv_iload_n hx hb dX7_takes_4 rfl (lv_at hl 1 rfl) ?_
  refine lv_icmp_eq (tgt := 14) hx hb dX7_takes_5 (by decide) (fun cp5 => ?_) (fun cp5 => ?_)
  · refine lv_aload_n hx hb dX7_takes_14 rfl (lv_at hl 0 rfl) ?_
    have hFc := z_freeW hD hS hA
    refine va_callv (va_runV (As := []) (rest := []) ⟨hx, hb, hml, hown, hts⟩ (kX7_next l dC dI h0 r cI cJ cZ v0 a1 tp bs cl a5 a6 a7 fc a9 mb a11 a12 a13 a14 a15 a16 a17 a18 a19 a20 az v22 v23 v24 v25 v26 bb ct us a30 a31 a32 a33 a34 a35 a36 a37 pil rwv rl v41 v42 v43 v44 v45 ⟨by omega, by omega, by omega, hcl, hfc, hmb, hct, hpil, hrwv⟩ (by first | omega | assumption | trivial) s.heap.size) (cwV 0 hts zgX7_takes_X7_next_195 rfl rfl rfl (by decide +kernel) ⟨(show 2 + 1 ≤ 3 by omega), (show 8 + (2 + 11) + 45 ≤ 66 by omega)⟩) (zVm (ci := 6) (q0 := 0) (q := (RX7, TX7, 46)) hK hP hD hL hS.2.1 hFc rfl rfl rfl) rfl rfl hl.1 rfl (lv_room (Nat.le_of_ble_eq_true rfl)) dX7_takes_15 ⟨(show 0 + 0 ≤ 0 by omega), (show 0 + 0 ≤ 0 by omega)⟩) hS (fun q _ h => hFc q h) hFc (fun u6 t H1 locs ht hvm hw hB hz1 hk1 hS => ?_)
    obtain ⟨o2, o3, o4, o5⟩ := u6
    obtain ⟨hP, hK9, hD⟩ := hB
    rw [ht] at hP
    have hD := hD.weaken (fun k q _ h => hFc q.1 h)
    generalize H1 = H at hP hS
    have hP : va_P (dC, dI) vwCl (rW h0 r cI cJ cZ v0 a1 (nI tp) (nI bs) (fun j => nI (cl j)) a5 a6 a7 (fun j => nI (fc j)) a9 (fun j => nI (mb j)) a11 a12 a13 a14 a15 a16 a17 a18 a19 a20 (nI o2) o3 o4 o5 v25 v26 (nI bb) (fun j => nI (ct j)) (nI us) a30 a31 a32 a33 a34 a35 a36 a37 (fun j => nI (pil j)) (fun j => nI (rwv j)) (nI rl) v41 v42 v43 v44 v45) H := hP
    have hD : va_D A (rW h0 r cI cJ cZ v0 a1 (nI tp) (nI bs) (fun j => nI (cl j)) a5 a6 a7 (fun j => nI (fc j)) a9 (fun j => nI (mb j)) a11 a12 a13 a14 a15 a16 a17 a18 a19 a20 (nI o2) o3 o4 o5 v25 v26 (nI bb) (fun j => nI (ct j)) (nI us) a30 a31 a32 a33 a34 a35 a36 a37 (fun j => nI (pil j)) (fun j => nI (rwv j)) (nI rl) v41 v42 v43 v44 v45) := hD
    have hw : (az ≤ o2) ∧ (o2 ≤ tp) ∧ (¬ o3 = 0 → az < o2) := hw
    obtain ⟨w0r1, w1r1, w2r1⟩ := hw
    refine lv_iconst (v := 1) hx hb dX7_takes_18 (by decide) ?_
    have hP9 : va_P (dC, dI) vwCl (rW h0 r cI cJ cZ v0 a1 (nI tp) (nI bs) (fun j => nI (cl j)) a5 a6 a7 (fun j => nI (fc j)) a9 (fun j => nI (mb j)) a11 a12 a13 a14 a15 a16 a17 a18 a19 a20 (nI o2) o3 o4 o5 v25 v26 (nI bb) (fun j => nI (ct j)) (nI us) a30 a31 a32 a33 a34 a35 a36 a37 (fun j => nI (pil j)) (fun j => nI (rwv j)) (nI rl) v41 v42 v43 v44 v45) H := hP
    have hD9 : va_D A (rW h0 r cI cJ cZ v0 a1 (nI tp) (nI bs) (fun j => nI (cl j)) a5 a6 a7 (fun j => nI (fc j)) a9 (fun j => nI (mb j)) a11 a12 a13 a14 a15 a16 a17 a18 a19 a20 (nI o2) o3 o4 o5 v25 v26 (nI bb) (fun j => nI (ct j)) (nI us) a30 a31 a32 a33 a34 a35 a36 a37 (fun j => nI (pil j)) (fun j => nI (rwv j)) (nI rl) v41 v42 v43 v44 v45) := hD
    exact W.zret (v := (1 : Int32)) hx hb hr rfl (fun t ht hW => ⟨⟨(1 : Int32), (o2, o3, o4, o5, v25, v26), rfl, ⟨(Or.inr rfl), (by omega), (by omega), (by first | (intro _ h9; exact absurd h9 (by decide)) | (intro h9 _; exact w2r1 h9))⟩, by rw [ht]; exact hP9, va_K.moved hW.alike hK, hD9⟩, hS.F ht⟩) hS.2.2 dX7_takes_19
  · refine lv_aload_n hx hb dX7_takes_8 rfl (lv_at hl 0 rfl) ?_
    refine lv_iconst (v := 1) hx hb dX7_takes_9 (by decide) ?_
    have hFc := z_freeW hD hS hA
    refine va_calli (va_runV (As := [.int 1]) (rest := []) ⟨hx, hb, hml, hown, hts⟩ (kX7_fails l dC dI h0 r cI cJ cZ v0 a1 tp bs cl a5 a6 a7 fc a9 mb a11 a12 a13 a14 a15 a16 a17 a18 a19 a20 az v22 v23 v24 v25 v26 bb ct us a30 a31 a32 a33 a34 a35 a36 a37 pil rwv rl v41 v42 v43 v44 v45 ⟨by omega, by omega, by omega, hcl, hfc, hmb, hct, hpil, hrwv⟩ (1 : Int32) s.heap.size) (cwV 1 hts zgX7_takes_X7_fails_192 rfl rfl rfl (by decide +kernel) ⟨(show 0 + 1 ≤ 3 by omega), (show 8 + (2 + 11) + 0 ≤ 66 by omega)⟩) (zVm (ci := 6) (q0 := 0) (q := (RX7, TX7, 46)) hK hP hD hL hS.2.1 hFc rfl rfl rfl) rfl rfl hl.1 rfl (lv_room (Nat.le_of_ble_eq_true rfl)) dX7_takes_10 ⟨(show 0 + 0 ≤ 0 by omega), (show 0 + 0 ≤ 0 by omega)⟩) hS (fun q _ h => hFc q h) hFc (fun r7 u10 t H1 locs ht hvm hw hB hz1 hk1 hS => ?_)
    obtain ⟨o8, o9⟩ := u10
    obtain ⟨hP, hK9, hD⟩ := hB
    rw [ht] at hP
    have hD := hD.weaken (fun k q _ h => hFc q.1 h)
    generalize H1 = H at hP hS
    have hP : va_P (dC, dI) vwCl (rW h0 r cI cJ cZ v0 a1 (nI tp) (nI bs) (fun j => nI (cl j)) a5 a6 a7 (fun j => nI (fc j)) a9 (fun j => nI (mb j)) a11 a12 a13 a14 a15 a16 a17 a18 a19 a20 (nI az) v22 v23 v24 o8 o9 (nI bb) (fun j => nI (ct j)) (nI us) a30 a31 a32 a33 a34 a35 a36 a37 (fun j => nI (pil j)) (fun j => nI (rwv j)) (nI rl) v41 v42 v43 v44 v45) H := hP
    have hD : va_D A (rW h0 r cI cJ cZ v0 a1 (nI tp) (nI bs) (fun j => nI (cl j)) a5 a6 a7 (fun j => nI (fc j)) a9 (fun j => nI (mb j)) a11 a12 a13 a14 a15 a16 a17 a18 a19 a20 (nI az) v22 v23 v24 o8 o9 (nI bb) (fun j => nI (ct j)) (nI us) a30 a31 a32 a33 a34 a35 a36 a37 (fun j => nI (pil j)) (fun j => nI (rwv j)) (nI rl) v41 v42 v43 v44 v45) := hD
    have hw : (r7 = 0 ∨ r7 = 1) ∧ (r7 = 0) := hw
    obtain ⟨w0r7, w1r7⟩ := hw
    subst w1r7
    have hP9 : va_P (dC, dI) vwCl (rW h0 r cI cJ cZ v0 a1 (nI tp) (nI bs) (fun j => nI (cl j)) a5 a6 a7 (fun j => nI (fc j)) a9 (fun j => nI (mb j)) a11 a12 a13 a14 a15 a16 a17 a18 a19 a20 (nI az) v22 v23 v24 o8 o9 (nI bb) (fun j => nI (ct j)) (nI us) a30 a31 a32 a33 a34 a35 a36 a37 (fun j => nI (pil j)) (fun j => nI (rwv j)) (nI rl) v41 v42 v43 v44 v45) H := hP
    have hD9 : va_D A (rW h0 r cI cJ cZ v0 a1 (nI tp) (nI bs) (fun j => nI (cl j)) a5 a6 a7 (fun j => nI (fc j)) a9 (fun j => nI (mb j)) a11 a12 a13 a14 a15 a16 a17 a18 a19 a20 (nI az) v22 v23 v24 o8 o9 (nI bb) (fun j => nI (ct j)) (nI us) a30 a31 a32 a33 a34 a35 a36 a37 (fun j => nI (pil j)) (fun j => nI (rwv j)) (nI rl) v41 v42 v43 v44 v45) := hD
    exact W.zret (v := (0 : Int32)) hx hb hr rfl (fun t ht hW => ⟨⟨(0 : Int32), (az, v22, v23, v24, o8, o9), rfl, ⟨(Or.inl rfl), (by omega), (by omega), (by first | (intro _ h9; exact absurd h9 (by decide)) | (intro h9 _; exact id h9))⟩, by rw [ht]; exact hP9, va_K.moved hW.alike hK, hD9⟩, hS.F ht⟩) hS.2.2 dX7_takes_13
