theorem dX7_links_0 : decode cX7_links 0 = .ok (.aload_n 0, 1) := by decide +kernel
theorem dX7_links_1 : decode cX7_links 1 = .ok (.iconst (-1), 1) := by decide +kernel
theorem dX7_links_2 : decode cX7_links 2 = .ok (.putfield 296, 3) := by decide +kernel
theorem dX7_links_5 : decode cX7_links 5 = .ok (.aload_n 0, 1) := by decide +kernel
theorem dX7_links_6 : decode cX7_links 6 = .ok (.iload_n 1, 1) := by decide +kernel
theorem dX7_links_7 : decode cX7_links 7 = .ok (.aload_n 0, 1) := by decide +kernel
theorem dX7_links_8 : decode cX7_links 8 = .ok (.getfield 76, 3) := by decide +kernel
theorem dX7_links_11 : decode cX7_links 11 = .ok (.iload_n 2, 1) := by decide +kernel
theorem dX7_links_12 : decode cX7_links 12 = .ok (.iaload, 1) := by decide +kernel
theorem dX7_links_13 : decode cX7_links 13 = .ok (.invokevirtual 251, 3) := by decide +kernel
theorem dX7_links_16 : decode cX7_links 16 = .ok (.istore_n 3, 1) := by decide +kernel
theorem dX7_links_17 : decode cX7_links 17 = .ok (.iload_n 3, 1) := by decide +kernel
theorem dX7_links_18 : decode cX7_links 18 = .ok (.ifCond .le 5, 3) := by decide +kernel
theorem dX7_links_21 : decode cX7_links 21 = .ok (.iload_n 3, 1) := by decide +kernel
theorem dX7_links_22 : decode cX7_links 22 = .ok (.ireturn, 1) := by decide +kernel
theorem dX7_links_23 : decode cX7_links 23 = .ok (.aload_n 0, 1) := by decide +kernel
theorem dX7_links_24 : decode cX7_links 24 = .ok (.iload_n 1, 1) := by decide +kernel
theorem dX7_links_25 : decode cX7_links 25 = .ok (.aload_n 0, 1) := by decide +kernel
theorem dX7_links_26 : decode cX7_links 26 = .ok (.getfield 79, 3) := by decide +kernel
theorem dX7_links_29 : decode cX7_links 29 = .ok (.iload_n 2, 1) := by decide +kernel
theorem dX7_links_30 : decode cX7_links 30 = .ok (.iaload, 1) := by decide +kernel
theorem dX7_links_31 : decode cX7_links 31 = .ok (.invokevirtual 251, 3) := by decide +kernel
theorem dX7_links_34 : decode cX7_links 34 = .ok (.istore_n 3, 1) := by decide +kernel
theorem dX7_links_35 : decode cX7_links 35 = .ok (.iload_n 3, 1) := by decide +kernel
theorem dX7_links_36 : decode cX7_links 36 = .ok (.ifCond .le 14, 3) := by decide +kernel
theorem dX7_links_39 : decode cX7_links 39 = .ok (.iload_n 3, 1) := by decide +kernel
theorem dX7_links_40 : decode cX7_links 40 = .ok (.iconst 1, 1) := by decide +kernel
theorem dX7_links_41 : decode cX7_links 41 = .ok (.if_icmp .ne 7, 3) := by decide +kernel
theorem dX7_links_44 : decode cX7_links 44 = .ok (.iconst 2, 1) := by decide +kernel
theorem dX7_links_45 : decode cX7_links 45 = .ok (.goto 4, 3) := by decide +kernel
theorem dX7_links_48 : decode cX7_links 48 = .ok (.iload_n 3, 1) := by decide +kernel
theorem dX7_links_49 : decode cX7_links 49 = .ok (.ireturn, 1) := by decide +kernel
theorem dX7_links_50 : decode cX7_links 50 = .ok (.bipush 16, 2) := by decide +kernel
theorem dX7_links_52 : decode cX7_links 52 = .ok (.iload_n 1, 1) := by decide +kernel
theorem dX7_links_53 : decode cX7_links 53 = .ok (.imul, 1) := by decide +kernel
theorem dX7_links_54 : decode cX7_links 54 = .ok (.aload_n 0, 1) := by decide +kernel
theorem dX7_links_55 : decode cX7_links 55 = .ok (.iload_n 1, 1) := by decide +kernel
theorem dX7_links_56 : decode cX7_links 56 = .ok (.aload_n 0, 1) := by decide +kernel
theorem dX7_links_57 : decode cX7_links 57 = .ok (.getfield 79, 3) := by decide +kernel
theorem dX7_links_60 : decode cX7_links 60 = .ok (.iload_n 2, 1) := by decide +kernel
theorem dX7_links_61 : decode cX7_links 61 = .ok (.iaload, 1) := by decide +kernel
theorem dX7_links_62 : decode cX7_links 62 = .ok (.invokevirtual 201, 3) := by decide +kernel
theorem dX7_links_65 : decode cX7_links 65 = .ok (.iadd, 1) := by decide +kernel
theorem dX7_links_66 : decode cX7_links 66 = .ok (.istore 4, 2) := by decide +kernel
theorem dX7_links_68 : decode cX7_links 68 = .ok (.bipush 16, 2) := by decide +kernel
theorem dX7_links_70 : decode cX7_links 70 = .ok (.iload_n 1, 1) := by decide +kernel
theorem dX7_links_71 : decode cX7_links 71 = .ok (.imul, 1) := by decide +kernel
theorem dX7_links_72 : decode cX7_links 72 = .ok (.aload_n 0, 1) := by decide +kernel
theorem dX7_links_73 : decode cX7_links 73 = .ok (.iload_n 1, 1) := by decide +kernel
theorem dX7_links_74 : decode cX7_links 74 = .ok (.aload_n 0, 1) := by decide +kernel
theorem dX7_links_75 : decode cX7_links 75 = .ok (.getfield 76, 3) := by decide +kernel
theorem dX7_links_78 : decode cX7_links 78 = .ok (.iload_n 2, 1) := by decide +kernel
theorem dX7_links_79 : decode cX7_links 79 = .ok (.iaload, 1) := by decide +kernel
theorem dX7_links_80 : decode cX7_links 80 = .ok (.invokevirtual 201, 3) := by decide +kernel
theorem dX7_links_83 : decode cX7_links 83 = .ok (.iadd, 1) := by decide +kernel
theorem dX7_links_84 : decode cX7_links 84 = .ok (.istore 5, 2) := by decide +kernel
theorem dX7_links_86 : decode cX7_links 86 = .ok (.aload_n 0, 1) := by decide +kernel
theorem dX7_links_87 : decode cX7_links 87 = .ok (.getfield 73, 3) := by decide +kernel
theorem dX7_links_90 : decode cX7_links 90 = .ok (.iload_n 2, 1) := by decide +kernel
theorem dX7_links_91 : decode cX7_links 91 = .ok (.iaload, 1) := by decide +kernel
theorem dX7_links_92 : decode cX7_links 92 = .ok (.istore 6, 2) := by decide +kernel
theorem dX7_links_94 : decode cX7_links 94 = .ok (.iload 6, 2) := by decide +kernel
theorem dX7_links_96 : decode cX7_links 96 = .ok (.bipush 7, 2) := by decide +kernel
theorem dX7_links_98 : decode cX7_links 98 = .ok (.if_icmp .le 39, 3) := by decide +kernel
theorem dX7_links_101 : decode cX7_links 101 = .ok (.iload 6, 2) := by decide +kernel
theorem dX7_links_103 : decode cX7_links 103 = .ok (.bipush 8, 2) := by decide +kernel
theorem dX7_links_105 : decode cX7_links 105 = .ok (.if_icmp .ne 30, 3) := by decide +kernel
theorem dX7_links_108 : decode cX7_links 108 = .ok (.aload_n 0, 1) := by decide +kernel
theorem dX7_links_109 : decode cX7_links 109 = .ok (.getfield 23, 3) := by decide +kernel
theorem dX7_links_112 : decode cX7_links 112 = .ok (.iload 4, 2) := by decide +kernel
theorem dX7_links_114 : decode cX7_links 114 = .ok (.iaload, 1) := by decide +kernel
theorem dX7_links_115 : decode cX7_links 115 = .ok (.iconst 1, 1) := by decide +kernel
theorem dX7_links_116 : decode cX7_links 116 = .ok (.if_icmp .eq 14, 3) := by decide +kernel
theorem dX7_links_119 : decode cX7_links 119 = .ok (.aload_n 0, 1) := by decide +kernel
theorem dX7_links_120 : decode cX7_links 120 = .ok (.getfield 23, 3) := by decide +kernel
theorem dX7_links_123 : decode cX7_links 123 = .ok (.iload 4, 2) := by decide +kernel
theorem dX7_links_125 : decode cX7_links 125 = .ok (.iaload, 1) := by decide +kernel
theorem dX7_links_126 : decode cX7_links 126 = .ok (.iconst 2, 1) := by decide +kernel
theorem dX7_links_127 : decode cX7_links 127 = .ok (.if_icmp .ne 8, 3) := by decide +kernel
theorem dX7_links_130 : decode cX7_links 130 = .ok (.bipush 6, 2) := by decide +kernel
theorem dX7_links_132 : decode cX7_links 132 = .ok (.goto 4, 3) := by decide +kernel
theorem dX7_links_135 : decode cX7_links 135 = .ok (.iconst 0, 1) := by decide +kernel
theorem dX7_links_136 : decode cX7_links 136 = .ok (.ireturn, 1) := by decide +kernel
theorem dX7_links_137 : decode cX7_links 137 = .ok (.iload 6, 2) := by decide +kernel
theorem dX7_links_139 : decode cX7_links 139 = .ok (.iconst 4, 1) := by decide +kernel
theorem dX7_links_140 : decode cX7_links 140 = .ok (.if_icmp .ge 139, 3) := by decide +kernel
theorem dX7_links_143 : decode cX7_links 143 = .ok (.aload_n 0, 1) := by decide +kernel
theorem dX7_links_144 : decode cX7_links 144 = .ok (.aload_n 0, 1) := by decide +kernel
theorem dX7_links_145 : decode cX7_links 145 = .ok (.iload_n 1, 1) := by decide +kernel
theorem dX7_links_146 : decode cX7_links 146 = .ok (.iload 4, 2) := by decide +kernel
theorem dX7_links_148 : decode cX7_links 148 = .ok (.iload_n 2, 1) := by decide +kernel
theorem dX7_links_149 : decode cX7_links 149 = .ok (.invokevirtual 299, 3) := by decide +kernel
theorem dX7_links_152 : decode cX7_links 152 = .ok (.putfield 296, 3) := by decide +kernel
theorem dX7_links_155 : decode cX7_links 155 = .ok (.aload_n 0, 1) := by decide +kernel
theorem dX7_links_156 : decode cX7_links 156 = .ok (.getfield 296, 3) := by decide +kernel
theorem dX7_links_159 : decode cX7_links 159 = .ok (.ifCond .ge 6, 3) := by decide +kernel
theorem dX7_links_162 : decode cX7_links 162 = .ok (.bipush 7, 2) := by decide +kernel
theorem dX7_links_164 : decode cX7_links 164 = .ok (.ireturn, 1) := by decide +kernel
theorem dX7_links_165 : decode cX7_links 165 = .ok (.aload_n 0, 1) := by decide +kernel
theorem dX7_links_166 : decode cX7_links 166 = .ok (.getfield 296, 3) := by decide +kernel
theorem dX7_links_169 : decode cX7_links 169 = .ok (.bipush 12, 2) := by decide +kernel
theorem dX7_links_171 : decode cX7_links 171 = .ok (.idiv, 1) := by decide +kernel
theorem dX7_links_172 : decode cX7_links 172 = .ok (.iload 5, 2) := by decide +kernel
theorem dX7_links_174 : decode cX7_links 174 = .ok (.if_icmp .ne 7, 3) := by decide +kernel
theorem dX7_links_177 : decode cX7_links 177 = .ok (.iconst 1, 1) := by decide +kernel
theorem dX7_links_178 : decode cX7_links 178 = .ok (.goto 4, 3) := by decide +kernel
theorem dX7_links_181 : decode cX7_links 181 = .ok (.iconst 0, 1) := by decide +kernel
theorem dX7_links_182 : decode cX7_links 182 = .ok (.istore 7, 2) := by decide +kernel
theorem dX7_links_184 : decode cX7_links 184 = .ok (.aload_n 0, 1) := by decide +kernel
theorem dX7_links_185 : decode cX7_links 185 = .ok (.getfield 48, 3) := by decide +kernel
theorem dX7_links_188 : decode cX7_links 188 = .ok (.aload_n 0, 1) := by decide +kernel
theorem dX7_links_189 : decode cX7_links 189 = .ok (.getfield 296, 3) := by decide +kernel
theorem dX7_links_192 : decode cX7_links 192 = .ok (.iaload, 1) := by decide +kernel
theorem dX7_links_193 : decode cX7_links 193 = .ok (.iconst 1, 1) := by decide +kernel
theorem dX7_links_194 : decode cX7_links 194 = .ok (.iand, 1) := by decide +kernel
theorem dX7_links_195 : decode cX7_links 195 = .ok (.ifCond .eq 7, 3) := by decide +kernel
theorem dX7_links_198 : decode cX7_links 198 = .ok (.iconst 1, 1) := by decide +kernel
theorem dX7_links_199 : decode cX7_links 199 = .ok (.goto 4, 3) := by decide +kernel
theorem dX7_links_202 : decode cX7_links 202 = .ok (.iconst 0, 1) := by decide +kernel
theorem dX7_links_203 : decode cX7_links 203 = .ok (.istore 8, 2) := by decide +kernel
theorem dX7_links_205 : decode cX7_links 205 = .ok (.aload_n 0, 1) := by decide +kernel
theorem dX7_links_206 : decode cX7_links 206 = .ok (.getfield 48, 3) := by decide +kernel
theorem dX7_links_209 : decode cX7_links 209 = .ok (.aload_n 0, 1) := by decide +kernel
theorem dX7_links_210 : decode cX7_links 210 = .ok (.getfield 296, 3) := by decide +kernel
theorem dX7_links_213 : decode cX7_links 213 = .ok (.iaload, 1) := by decide +kernel
theorem dX7_links_214 : decode cX7_links 214 = .ok (.iconst 2, 1) := by decide +kernel
theorem dX7_links_215 : decode cX7_links 215 = .ok (.iand, 1) := by decide +kernel
theorem dX7_links_216 : decode cX7_links 216 = .ok (.ifCond .eq 11, 3) := by decide +kernel
theorem dX7_links_219 : decode cX7_links 219 = .ok (.iload 7, 2) := by decide +kernel
theorem dX7_links_221 : decode cX7_links 221 = .ok (.ifCond .ne 6, 3) := by decide +kernel
theorem dX7_links_224 : decode cX7_links 224 = .ok (.bipush 8, 2) := by decide +kernel
theorem dX7_links_226 : decode cX7_links 226 = .ok (.ireturn, 1) := by decide +kernel
theorem dX7_links_227 : decode cX7_links 227 = .ok (.iload 8, 2) := by decide +kernel
theorem dX7_links_229 : decode cX7_links 229 = .ok (.iload 6, 2) := by decide +kernel
theorem dX7_links_231 : decode cX7_links 231 = .ok (.iconst 1, 1) := by decide +kernel
theorem dX7_links_232 : decode cX7_links 232 = .ok (.if_icmp .le 7, 3) := by decide +kernel
theorem dX7_links_235 : decode cX7_links 235 = .ok (.iconst 1, 1) := by decide +kernel
theorem dX7_links_236 : decode cX7_links 236 = .ok (.goto 4, 3) := by decide +kernel
theorem dX7_links_239 : decode cX7_links 239 = .ok (.iconst 0, 1) := by decide +kernel
theorem dX7_links_240 : decode cX7_links 240 = .ok (.if_icmp .eq 5, 3) := by decide +kernel
theorem dX7_links_243 : decode cX7_links 243 = .ok (.iconst 4, 1) := by decide +kernel
theorem dX7_links_244 : decode cX7_links 244 = .ok (.ireturn, 1) := by decide +kernel
theorem dX7_links_245 : decode cX7_links 245 = .ok (.iload 6, 2) := by decide +kernel
theorem dX7_links_247 : decode cX7_links 247 = .ok (.iconst 1, 1) := by decide +kernel
theorem dX7_links_248 : decode cX7_links 248 = .ok (.iand, 1) := by decide +kernel
theorem dX7_links_249 : decode cX7_links 249 = .ok (.iconst 1, 1) := by decide +kernel
theorem dX7_links_250 : decode cX7_links 250 = .ok (.if_icmp .ne 27, 3) := by decide +kernel
theorem dX7_links_253 : decode cX7_links 253 = .ok (.aload_n 0, 1) := by decide +kernel
theorem dX7_links_254 : decode cX7_links 254 = .ok (.getfield 48, 3) := by decide +kernel
theorem dX7_links_257 : decode cX7_links 257 = .ok (.aload_n 0, 1) := by decide +kernel
theorem dX7_links_258 : decode cX7_links 258 = .ok (.getfield 296, 3) := by decide +kernel
theorem dX7_links_261 : decode cX7_links 261 = .ok (.iaload, 1) := by decide +kernel
theorem dX7_links_262 : decode cX7_links 262 = .ok (.iconst 4, 1) := by decide +kernel
theorem dX7_links_263 : decode cX7_links 263 = .ok (.iand, 1) := by decide +kernel
theorem dX7_links_264 : decode cX7_links 264 = .ok (.ifCond .eq 13, 3) := by decide +kernel
theorem dX7_links_267 : decode cX7_links 267 = .ok (.iload 7, 2) := by decide +kernel
theorem dX7_links_269 : decode cX7_links 269 = .ok (.ifCond .ne 8, 3) := by decide +kernel
theorem dX7_links_272 : decode cX7_links 272 = .ok (.bipush 8, 2) := by decide +kernel
theorem dX7_links_274 : decode cX7_links 274 = .ok (.goto 4, 3) := by decide +kernel
theorem dX7_links_277 : decode cX7_links 277 = .ok (.iconst 0, 1) := by decide +kernel
theorem dX7_links_278 : decode cX7_links 278 = .ok (.ireturn, 1) := by decide +kernel
theorem dX7_links_279 : decode cX7_links 279 = .ok (.aload_n 0, 1) := by decide +kernel
theorem dX7_links_280 : decode cX7_links 280 = .ok (.getfield 23, 3) := by decide +kernel
theorem dX7_links_283 : decode cX7_links 283 = .ok (.iload 4, 2) := by decide +kernel
theorem dX7_links_285 : decode cX7_links 285 = .ok (.iaload, 1) := by decide +kernel
theorem dX7_links_286 : decode cX7_links 286 = .ok (.iconst 1, 1) := by decide +kernel
theorem dX7_links_287 : decode cX7_links 287 = .ok (.if_icmp .ne 12, 3) := by decide +kernel
theorem dX7_links_290 : decode cX7_links 290 = .ok (.iload 6, 2) := by decide +kernel
theorem dX7_links_292 : decode cX7_links 292 = .ok (.iconst 4, 1) := by decide +kernel
theorem dX7_links_293 : decode cX7_links 293 = .ok (.if_icmp .ne 15, 3) := by decide +kernel
theorem dX7_links_296 : decode cX7_links 296 = .ok (.goto 10, 3) := by decide +kernel
theorem dX7_links_299 : decode cX7_links 299 = .ok (.iload 6, 2) := by decide +kernel
theorem dX7_links_301 : decode cX7_links 301 = .ok (.bipush 7, 2) := by decide +kernel
theorem dX7_links_303 : decode cX7_links 303 = .ok (.if_icmp .ne 5, 3) := by decide +kernel
theorem dX7_links_306 : decode cX7_links 306 = .ok (.iconst 4, 1) := by decide +kernel
theorem dX7_links_307 : decode cX7_links 307 = .ok (.ireturn, 1) := by decide +kernel
theorem dX7_links_308 : decode cX7_links 308 = .ok (.aload_n 0, 1) := by decide +kernel
theorem dX7_links_309 : decode cX7_links 309 = .ok (.aload_n 0, 1) := by decide +kernel
theorem dX7_links_310 : decode cX7_links 310 = .ok (.iload_n 1, 1) := by decide +kernel
theorem dX7_links_311 : decode cX7_links 311 = .ok (.iload 4, 2) := by decide +kernel
theorem dX7_links_313 : decode cX7_links 313 = .ok (.iload_n 2, 1) := by decide +kernel
theorem dX7_links_314 : decode cX7_links 314 = .ok (.invokevirtual 303, 3) := by decide +kernel
theorem dX7_links_317 : decode cX7_links 317 = .ok (.putfield 296, 3) := by decide +kernel
theorem dX7_links_320 : decode cX7_links 320 = .ok (.aload_n 0, 1) := by decide +kernel
theorem dX7_links_321 : decode cX7_links 321 = .ok (.getfield 296, 3) := by decide +kernel
theorem dX7_links_324 : decode cX7_links 324 = .ok (.ifCond .ge 6, 3) := by decide +kernel
theorem dX7_links_327 : decode cX7_links 327 = .ok (.bipush 9, 2) := by decide +kernel
theorem dX7_links_329 : decode cX7_links 329 = .ok (.ireturn, 1) := by decide +kernel
theorem dX7_links_330 : decode cX7_links 330 = .ok (.aload_n 0, 1) := by decide +kernel
theorem dX7_links_331 : decode cX7_links 331 = .ok (.getfield 48, 3) := by decide +kernel
theorem dX7_links_334 : decode cX7_links 334 = .ok (.aload_n 0, 1) := by decide +kernel
theorem dX7_links_335 : decode cX7_links 335 = .ok (.getfield 296, 3) := by decide +kernel
theorem dX7_links_338 : decode cX7_links 338 = .ok (.iaload, 1) := by decide +kernel
theorem dX7_links_339 : decode cX7_links 339 = .ok (.iconst 2, 1) := by decide +kernel
theorem dX7_links_340 : decode cX7_links 340 = .ok (.iand, 1) := by decide +kernel
theorem dX7_links_341 : decode cX7_links 341 = .ok (.ifCond .eq 18, 3) := by decide +kernel
theorem dX7_links_344 : decode cX7_links 344 = .ok (.aload_n 0, 1) := by decide +kernel
theorem dX7_links_345 : decode cX7_links 345 = .ok (.getfield 296, 3) := by decide +kernel
theorem dX7_links_348 : decode cX7_links 348 = .ok (.bipush 12, 2) := by decide +kernel
theorem dX7_links_350 : decode cX7_links 350 = .ok (.idiv, 1) := by decide +kernel
theorem dX7_links_351 : decode cX7_links 351 = .ok (.iload 5, 2) := by decide +kernel
theorem dX7_links_353 : decode cX7_links 353 = .ok (.if_icmp .eq 6, 3) := by decide +kernel
theorem dX7_links_356 : decode cX7_links 356 = .ok (.bipush 8, 2) := by decide +kernel
theorem dX7_links_358 : decode cX7_links 358 = .ok (.ireturn, 1) := by decide +kernel
theorem dX7_links_359 : decode cX7_links 359 = .ok (.aload_n 0, 1) := by decide +kernel
theorem dX7_links_360 : decode cX7_links 360 = .ok (.getfield 48, 3) := by decide +kernel
theorem dX7_links_363 : decode cX7_links 363 = .ok (.aload_n 0, 1) := by decide +kernel
theorem dX7_links_364 : decode cX7_links 364 = .ok (.getfield 296, 3) := by decide +kernel
theorem dX7_links_367 : decode cX7_links 367 = .ok (.iaload, 1) := by decide +kernel
theorem dX7_links_368 : decode cX7_links 368 = .ok (.iconst 1, 1) := by decide +kernel
theorem dX7_links_369 : decode cX7_links 369 = .ok (.iand, 1) := by decide +kernel
theorem dX7_links_370 : decode cX7_links 370 = .ok (.ifCond .eq 7, 3) := by decide +kernel
theorem dX7_links_373 : decode cX7_links 373 = .ok (.iconst 1, 1) := by decide +kernel
theorem dX7_links_374 : decode cX7_links 374 = .ok (.goto 4, 3) := by decide +kernel
theorem dX7_links_377 : decode cX7_links 377 = .ok (.iconst 0, 1) := by decide +kernel
theorem dX7_links_378 : decode cX7_links 378 = .ok (.iload 6, 2) := by decide +kernel
theorem dX7_links_380 : decode cX7_links 380 = .ok (.iconst 5, 1) := by decide +kernel
theorem dX7_links_381 : decode cX7_links 381 = .ok (.if_icmp .ne 7, 3) := by decide +kernel
theorem dX7_links_384 : decode cX7_links 384 = .ok (.iconst 1, 1) := by decide +kernel
theorem dX7_links_385 : decode cX7_links 385 = .ok (.goto 4, 3) := by decide +kernel
theorem dX7_links_388 : decode cX7_links 388 = .ok (.iconst 0, 1) := by decide +kernel
theorem dX7_links_389 : decode cX7_links 389 = .ok (.if_icmp .eq 5, 3) := by decide +kernel
theorem dX7_links_392 : decode cX7_links 392 = .ok (.iconst 4, 1) := by decide +kernel
theorem dX7_links_393 : decode cX7_links 393 = .ok (.ireturn, 1) := by decide +kernel
theorem dX7_links_394 : decode cX7_links 394 = .ok (.iload 6, 2) := by decide +kernel
theorem dX7_links_396 : decode cX7_links 396 = .ok (.bipush 6, 2) := by decide +kernel
theorem dX7_links_398 : decode cX7_links 398 = .ok (.if_icmp .ne 23, 3) := by decide +kernel
theorem dX7_links_401 : decode cX7_links 401 = .ok (.aload_n 0, 1) := by decide +kernel
theorem dX7_links_402 : decode cX7_links 402 = .ok (.getfield 48, 3) := by decide +kernel
theorem dX7_links_405 : decode cX7_links 405 = .ok (.aload_n 0, 1) := by decide +kernel
theorem dX7_links_406 : decode cX7_links 406 = .ok (.getfield 296, 3) := by decide +kernel
theorem dX7_links_409 : decode cX7_links 409 = .ok (.iaload, 1) := by decide +kernel
theorem dX7_links_410 : decode cX7_links 410 = .ok (.bipush 8, 2) := by decide +kernel
theorem dX7_links_412 : decode cX7_links 412 = .ok (.iand, 1) := by decide +kernel
theorem dX7_links_413 : decode cX7_links 413 = .ok (.ifCond .eq 8, 3) := by decide +kernel
theorem dX7_links_416 : decode cX7_links 416 = .ok (.bipush 10, 2) := by decide +kernel
theorem dX7_links_418 : decode cX7_links 418 = .ok (.goto 4, 3) := by decide +kernel
theorem dX7_links_421 : decode cX7_links 421 = .ok (.iconst 0, 1) := by decide +kernel
theorem dX7_links_422 : decode cX7_links 422 = .ok (.ireturn, 1) := by decide +kernel
def zwX7_links : List Cond := .code yX7_links cX7_links 9 (some .int) :: ([.fieldLink RX7 296 "LinkModelsModel" "linked" "I", .fieldLink RX7 76 "LinkModelsModel" "caller" "[I", .fieldLink RX7 79 "LinkModelsModel" "owner" "[I", .fieldLink RX7 73 "LinkModelsModel" "useKind" "[I", .fieldLink RX7 23 "LinkModelsModel" "sort" "[I", .fieldLink RX7 48 "LinkModelsModel" "marks" "[I", .methodLink RX7 251 yX7_errorOf, .instanceMethod yX7_errorOf, .selects RX7 yX7_errorOf yX7_errorOf, .initialized RX7, .code yX7_errorOf cX7_errorOf 4 (some .int), .fieldLink RX7 38 "LinkModelsModel" "error" "[I", .methodLink RX7 201 yX7_place, .instanceMethod yX7_place, .selects RX7 yX7_place yX7_place, .code yX7_place cX7_place 4 (some .int), .fieldLink RX7 17 "LinkModelsModel" "classes" "[I", .fieldLink RX7 20 "LinkModelsModel" "className" "[I", .methodLink RX7 303 yX7_findMethod, .instanceMethod yX7_findMethod, .selects RX7 yX7_findMethod yX7_findMethod, .code yX7_findMethod cX7_findMethod 6 (some .int), .fieldLink RX7 279 "LinkModelsModel" "bodies" "I", .fieldLink RX7 285 "LinkModelsModel" "firstOne" "I", .fieldLink RX7 282 "LinkModelsModel" "bodied" "I", .methodLink RX7 292 yX7_findFaces, .instanceMethod yX7_findFaces, .selects RX7 yX7_findFaces yX7_findFaces, .code yX7_findFaces cX7_findFaces 8 none, .fieldLink RX7 266 "LinkModelsModel" "rowLong" "I", .fieldLink RX7 100 "LinkModelsModel" "row" "[I", .methodLink RX7 288 yX7_methodIn, .instanceMethod yX7_methodIn, .selects RX7 yX7_methodIn yX7_methodIn, .code yX7_methodIn cX7_methodIn 6 (some .int), .fieldLink RX7 51 "LinkModelsModel" "isMethod" "[Z", .fieldLink RX7 44 "LinkModelsModel" "word" "[J", .fieldLink RX7 82 "LinkModelsModel" "useWord" "[J", .fieldLink RX7 35 "LinkModelsModel" "members" "[I", .fieldLink RX7 61 "LinkModelsModel" "many" "[I", .fieldLink RX7 85 "LinkModelsModel" "useMany" "[I", .fieldLink RX7 67 "LinkModelsModel" "second" "[I", .fieldLink RX7 91 "LinkModelsModel" "useSecond" "[I", .fieldLink RX7 64 "LinkModelsModel" "first" "[I", .fieldLink RX7 88 "LinkModelsModel" "useFirst" "[I", .methodLink RX7 256 yX7_isOf, .instanceMethod yX7_isOf, .selects RX7 yX7_isOf yX7_isOf, .code yX7_isOf cX7_isOf 4 (some .boolean), .fieldLink RX7 41 "LinkModelsModel" "ofAll" "[I", .methodLink RX7 272 yX7_faceRow, .instanceMethod yX7_faceRow, .selects RX7 yX7_faceRow yX7_faceRow, .code yX7_faceRow cX7_faceRow 8 none, .fieldLink RX7 97 "LinkModelsModel" "pile" "[I", .fieldLink RX7 32 "LinkModelsModel" "face" "[I", .fieldLink RX7 29 "LinkModelsModel" "faces" "[I", .methodLink RX7 276 yX7_aboveOf, .instanceMethod yX7_aboveOf, .selects RX7 yX7_aboveOf yX7_aboveOf, .code yX7_aboveOf cX7_aboveOf 3 (some .int), .fieldLink RX7 26 "LinkModelsModel" "above" "[I", .methodLink RX7 299 yX7_findField, .instanceMethod yX7_findField, .selects RX7 yX7_findField yX7_findField, .code yX7_findField cX7_findField 7 (some .int), .methodLink RX7 269 yX7_fieldIn, .instanceMethod yX7_fieldIn, .selects RX7 yX7_fieldIn yX7_fieldIn, .code yX7_fieldIn cX7_fieldIn 4 (some .int)] ++ wsX70)
theorem zgX7_links_X7_errorOf_251 : GoodIn zwX7_links (wsV RX7 251 RX7 yX7_errorOf zwX7_errorOf) := goodIn_app (goodIn_r _ [7, 8, 9, 10] rfl (by decide +kernel)) (goodIn_ca (goodIn_r _ [11, 12, 13, 14, 15, 10, 16, 17, 18] rfl (by decide +kernel)) (zgt zg7))
theorem zgX7_links_X7_place_201 : GoodIn zwX7_links (wsV RX7 201 RX7 yX7_place zwX7_place) := goodIn_app (goodIn_r _ [13, 14, 15, 10] rfl (by decide +kernel)) (goodIn_ca (goodIn_r _ [16, 17, 18] rfl (by decide +kernel)) (zgt zg7))
theorem zgX7_links_X7_findMethod_303 : GoodIn zwX7_links (wsV RX7 303 RX7 yX7_findMethod zwX7_findMethod) := goodIn_app (goodIn_r _ [19, 20, 21, 10] rfl (by decide +kernel)) (goodIn_ca (goodIn_r _ [22, 23, 24, 25, 5, 26, 27, 28, 10, 29, 30, 6, 31, 32, 33, 34, 35, 36, 37, 38, 39, 40, 41, 42, 43, 44, 45, 46, 47, 48, 49, 50, 51, 52, 53, 54, 55, 56, 57, 13, 14, 15, 16, 17, 18, 58, 59, 60, 61, 62] rfl (by decide +kernel)) (zgt zg7))
theorem zgX7_links_X7_findField_299 : GoodIn zwX7_links (wsV RX7 299 RX7 yX7_findField zwX7_findField) := goodIn_app (goodIn_r _ [63, 64, 65, 10] rfl (by decide +kernel)) (goodIn_ca (goodIn_r _ [66, 30, 31, 58, 59, 60, 10, 61, 62, 13, 14, 15, 16, 17, 18, 67, 68, 69, 70, 39, 36, 37, 38, 51, 52, 53, 54, 55, 56, 57] rfl (by decide +kernel)) (zgt zg7))
set_option maxHeartbeats 4000000 in
set_option maxRecDepth 100000 in
theorem kX7_links (l : Launch) (dC : Nat → ClassId) (dI : Nat → Nat → Nat) (h0 : Nat) (r : Nat → Nat) (cI : ClassId) (cJ : ClassId) (cZ : ClassId) (v0 : Int32) (a1 : Nat → Int32) (tp : Nat) (bs : Nat) (cl : Nat → Nat) (a5 : Nat → Int32) (a6 : Nat → Int32) (a7 : Nat → Int32) (fc : Nat → Nat) (a9 : Nat → Int32) (mb : Nat → Nat) (a11 : Nat → Int32) (a12 : Nat → Int32) (a13 : Nat → Int64) (a14 : Nat → Int32) (a15 : Nat → Int32) (a16 : Nat → Int32) (a17 : Nat → Int32) (a18 : Nat → Int32) (a19 : Nat → Int32) (a20 : Nat → Int32) (az : Nat) (v22 : Int32) (v23 : Int32) (v24 : Int64) (v25 : Int32) (v26 : Int32) (bb : Nat) (ct : Nat → Nat) (us : Nat) (a30 : Nat → Int32) (a31 : Nat → Int32) (a32 : Nat → Int32) (a33 : Nat → Int64) (a34 : Nat → Int32) (a35 : Nat → Int32) (a36 : Nat → Int32) (a37 : Nat → Int32) (pil : Nat → Nat) (rwv : Nat → Nat) (rl : Nat) (v41 : Int32) (v42 : Int32) (v43 : Int32) (v44 : Int32) (v45 : Int32) (hI : rWI tp bs cl fc mb az bb ct us pil rwv rl) (bd : Nat) (uu : Nat) (hp0 : bd < bs) (hp1 : uu < 40) (hp2 : ∀ bd, bd < bs → zOK cl a5 a7 fc a9 a11 bd) (sz : Nat) : Met l yX7_links zwX7_links ({ frames := 4, cells := 0, slots := 0, locals := 102 }) (zPm dC dI [.ref h0, .int (nI bd), .int (nI uu)] sz (rW h0 r cI cJ cZ v0 a1 (nI tp) (nI bs) (fun j => nI (cl j)) a5 a6 a7 (fun j => nI (fc j)) a9 (fun j => nI (mb j)) a11 a12 a13 a14 a15 a16 a17 a18 a19 a20 (nI az) v22 v23 v24 v25 v26 (nI bb) (fun j => nI (ct j)) (nI us) a30 a31 a32 a33 a34 a35 a36 a37 (fun j => nI (pil j)) (fun j => nI (rwv j)) (nI rl) v41 v42 v43 v44 v45) [(cI, .int), (cJ, .long), (cZ, .boolean)]) (va_Qi (fun (r : Int32) (u : Nat × (Nat → Nat) × (Nat → Nat) × Int32 × Int32 × Int32 × Int32) => (zM (u.2.2.2.2.2.2) (fun k => k < 960)) ∧ (0 < r ∨ 7 < a30 uu ∨ ∃ k, k < 960 ∧ (u.2.2.2.2.2.2) = nI k) ∧ (7 < a30 uu → (u.2.2.2.2.2.2) = -1) ∧ (∀ j, (u.2.1) j ≤ 15) ∧ (∀ j, (u.2.2.1) j ≤ 15)) (fun u t => zB dC dI (va_A (rW h0 r cI cJ cZ v0 a1 (nI tp) (nI bs) (fun j => nI (cl j)) a5 a6 a7 (fun j => nI (fc j)) a9 (fun j => nI (mb j)) a11 a12 a13 a14 a15 a16 a17 a18 a19 a20 (nI az) v22 v23 v24 v25 v26 (nI bb) (fun j => nI (ct j)) (nI us) a30 a31 a32 a33 a34 a35 a36 a37 (fun j => nI (pil j)) (fun j => nI (rwv j)) (nI rl) v41 v42 v43 v44 v45) sz) (rW h0 r cI cJ cZ v0 a1 (nI tp) (nI bs) (fun j => nI (cl j)) a5 a6 a7 (fun j => nI (fc j)) a9 (fun j => nI (mb j)) a11 a12 a13 a14 a15 a16 a17 a18 a19 a20 (nI az) v22 v23 v24 v25 v26 (nI bb) (fun j => nI (ct j)) (nI us) a30 a31 a32 a33 a34 a35 a36 a37 (fun j => nI ((u.2.1) j)) (fun j => nI ((u.2.2.1) j)) (nI (u.1)) v41 (u.2.2.2.2.2.2) (u.2.2.2.1) (u.2.2.2.2.1) (u.2.2.2.2.2.1)) [(cI, .int), (cJ, .long), (cZ, .boolean)] t) (va_A (rW h0 r cI cJ cZ v0 a1 (nI tp) (nI bs) (fun j => nI (cl j)) a5 a6 a7 (fun j => nI (fc j)) a9 (fun j => nI (mb j)) a11 a12 a13 a14 a15 a16 a17 a18 a19 a20 (nI az) v22 v23 v24 v25 v26 (nI bb) (fun j => nI (ct j)) (nI us) a30 a31 a32 a33 a34 a35 a36 a37 (fun j => nI (pil j)) (fun j => nI (rwv j)) (nI rl) v41 v42 v43 v44 v45) sz)) 0 0 (va_A (rW h0 r cI cJ cZ v0 a1 (nI tp) (nI bs) (fun j => nI (cl j)) a5 a6 a7 (fun j => nI (fc j)) a9 (fun j => nI (mb j)) a11 a12 a13 a14 a15 a16 a17 a18 a19 a20 (nI az) v22 v23 v24 v25 v26 (nI bb) (fun j => nI (ct j)) (nI us) a30 a31 a32 a33 a34 a35 a36 a37 (fun j => nI (pil j)) (fun j => nI (rwv j)) (nI rl) v41 v42 v43 v44 v45) sz) := by
  refine Met.ofW (cc := cX7_links) (maxL := 9) (ret := (some .int)) (by decide) rfl ?_
  intro p e s m args below meth c s₁ B hml hv
  obtain ⟨rfl, hsz, hP, hK, hD0, hL0⟩ := hv
  have hx := B.exec
  have hb := B.bytes
  have hr := B.returns
  have hts := atoms_spec (ws := zwX7_links) B.pre
  have hown : s.vm.findClass RX7 = some m.cls := findClass_of_methodNamed B.named
  have hiX7 : ∀ w ∈ wsX70, w ∈ zwX7_links := (fun _ h => List.mem_cons_of_mem _ (List.mem_append_right _ h))
  obtain ⟨htp, hbs, hus, hcl, hfc, hmb, hct, hpil, hrwv⟩ := hI
  subst hsz
  have hD := hD0.self (sz := s.heap.size)
  generalize hAe : va_A (rW h0 r cI cJ cZ v0 a1 (nI tp) (nI bs) (fun j => nI (cl j)) a5 a6 a7 (fun j => nI (fc j)) a9 (fun j => nI (mb j)) a11 a12 a13 a14 a15 a16 a17 a18 a19 a20 (nI az) v22 v23 v24 v25 v26 (nI bb) (fun j => nI (ct j)) (nI us) a30 a31 a32 a33 a34 a35 a36 a37 (fun j => nI (pil j)) (fun j => nI (rwv j)) (nI rl) v41 v42 v43 v44 v45) s.heap.size = A at hD hL0 ⊢
  have hA : ∀ q : Nat, s.heap.size ≤ q → A q := fun q h => by rw [← hAe]; exact Or.inr h
  have hS : va_S A s.heap s.heap [] := va_S.rf
  have hL := hL0
  obtain ⟨rk, hrk⟩ := hp2 bd hp0
  have hrk : zOKr cl a5 a7 fc a9 a11 bd rk := hrk
  have hclb := hcl bd
  have hl := lv_entry ([.ref h0, .int (nI bd), .int (nI uu)]) (n := 9) (Nat.le_of_ble_eq_true rfl)
  rw [lg_entry_eq]
  generalize (lg_sl ([.ref h0, .int (nI bd), .int (nI uu)]) ++ List.replicate (9 - (lg_sl ([.ref h0, .int (nI bd), .int (nI uu)])).length) Slot.unset).toArray = ls at hl ⊢
  have hl : lv_has ls 9 [(0, .ref h0), (1, .int (nI bd)), (2, .int (nI uu))] := hl
  refine lv_aload_n hx hb dX7_links_0 rfl (lv_at hl 0 rfl) ?_
  refine lv_iconst (v := (-1)) hx hb dX7_links_1 (by decide) ?_
  refine va_put (D := (dC, dI)) (ci := 6) (v := .int (-1)) (ty := (.int)) (C := RX7) (T := TX7) (N := 46) hx hb hts hiX7 tyX7 tyX7_ok nmX7 hown hK hP hD hS 0 rfl rfl 42 (by decide) (hts (.fieldLink RX7 296 "LinkModelsModel" "linked" "I") (by decide +kernel)) (fun _ h9 => h9) rfl (by decide +kernel) rfl rfl (Nat.le_of_ble_eq_true rfl) dX7_links_2 (fun H locs hP hD hS => ?_)
  have hP : va_P (dC, dI) vwCl (rW h0 r cI cJ cZ v0 a1 (nI tp) (nI bs) (fun j => nI (cl j)) a5 a6 a7 (fun j => nI (fc j)) a9 (fun j => nI (mb j)) a11 a12 a13 a14 a15 a16 a17 a18 a19 a20 (nI az) v22 v23 v24 v25 v26 (nI bb) (fun j => nI (ct j)) (nI us) a30 a31 a32 a33 a34 a35 a36 a37 (fun j => nI (pil j)) (fun j => nI (rwv j)) (nI rl) v41 (-1) v43 v44 v45) H := hP
  have hD : va_D A (rW h0 r cI cJ cZ v0 a1 (nI tp) (nI bs) (fun j => nI (cl j)) a5 a6 a7 (fun j => nI (fc j)) a9 (fun j => nI (mb j)) a11 a12 a13 a14 a15 a16 a17 a18 a19 a20 (nI az) v22 v23 v24 v25 v26 (nI bb) (fun j => nI (ct j)) (nI us) a30 a31 a32 a33 a34 a35 a36 a37 (fun j => nI (pil j)) (fun j => nI (rwv j)) (nI rl) v41 (-1) v43 v44 v45) := hD
  refine lv_aload_n hx hb dX7_links_5 rfl (lv_at hl 0 rfl) ?_
  refine lv_iload_n hx hb dX7_links_6 rfl (lv_at hl 1 rfl) ?_
  refine lv_aload_n hx hb dX7_links_7 rfl (lv_at hl 0 rfl) ?_
  refine va_get (D := (dC, dI)) (ci := 6) (v := .ref (r 31)) (C := RX7) (T := TX7) (N := 46) hx hb hts hiX7 hown hK hP 0 rfl rfl 31 (by decide) (hts (.fieldLink RX7 76 "LinkModelsModel" "caller" "[I") (by decide +kernel)) (fun _ h9 => h9) rfl dX7_links_8 ?_
  refine lv_iload_n hx hb dX7_links_11 rfl (lv_at hl 2 rfl) ?_
  refine va_iald hx hb hK hP 21 0 rfl rfl (vp_in_nI (show uu < 40 by omega) (by decide)) dX7_links_12 ?_
  refine lv_topi (fun x1 ex1 => ?_)
  obtain rfl : x1 = a31 uu := by rw [ex1, nI_clamp (show uu < 2 ^ 31 by omega)]
  have hFc := z_freeW hD hS hA
  refine vp_callSi (W.runV (As := [.int (nI bd), .int (a31 uu)]) (rest := []) ⟨hx, hb, hml, hown, hts⟩ (kX7_errorOf l dC dI h0 r cI cJ cZ v0 a1 tp bs cl a5 a6 a7 fc a9 mb a11 a12 a13 a14 a15 a16 a17 a18 a19 a20 az v22 v23 v24 v25 v26 bb ct us a30 a31 a32 a33 a34 a35 a36 a37 pil rwv rl v41 (-1) v43 v44 v45 ⟨by omega, by omega, by omega, hcl, hfc, hmb, hct, hpil, hrwv⟩ bd (a31 uu) (by first | omega | assumption | trivial) H.size) (cwV 2 hts zgX7_links_X7_errorOf_251 rfl rfl rfl (by decide +kernel) ⟨(show 1 + 1 ≤ 4 by omega), (show 8 + (4 + 11) + 23 ≤ 102 by omega)⟩) (zVm (ci := 6) (q0 := 0) (q := (RX7, TX7, 46)) hK hP hD hL hS.2.1 hFc rfl rfl rfl) rfl rfl hl.1 rfl (lv_room (Nat.le_of_ble_eq_true rfl)) dX7_links_13 ⟨(show 0 + 0 ≤ 0 by omega), (show 0 + 0 ≤ 0 by omega)⟩) (fun r2 hw => ?_)
  have hw : (zEr cl a5 a11 bd ((a31 uu)) r2) := hw
  have w0r2 := hw
  refine lv_istore_n (lv' := [(3, .int r2), (0, .ref h0), (1, .int (nI bd)), (2, .int (nI uu))]) hx hb dX7_links_16 rfl hl (by decide) rfl (fun ls hl => ?_)
  refine lv_iload_n hx hb dX7_links_17 rfl (lv_at hl 0 rfl) ?_
  refine lv_if_le (tgt := 23) hx hb dX7_links_18 (by decide) (fun cp18 => ?_) (fun cp18 => ?_)
  · refine lv_aload_n hx hb dX7_links_23 rfl (lv_at hl 1 rfl) ?_
    refine lv_iload_n hx hb dX7_links_24 rfl (lv_at hl 2 rfl) ?_
    refine lv_aload_n hx hb dX7_links_25 rfl (lv_at hl 1 rfl) ?_
    refine va_get (D := (dC, dI)) (ci := 6) (v := .ref (r 32)) (C := RX7) (T := TX7) (N := 46) hx hb hts hiX7 hown hK hP 0 rfl rfl 32 (by decide) (hts (.fieldLink RX7 79 "LinkModelsModel" "owner" "[I") (by decide +kernel)) (fun _ h9 => h9) rfl dX7_links_26 ?_
    refine lv_iload_n hx hb dX7_links_29 rfl (lv_at hl 3 rfl) ?_
    refine va_iald hx hb hK hP 22 0 rfl rfl (vp_in_nI (show uu < 40 by omega) (by decide)) dX7_links_30 ?_
    refine lv_topi (fun x3 ex3 => ?_)
    obtain rfl : x3 = a32 uu := by rw [ex3, nI_clamp (show uu < 2 ^ 31 by omega)]
    have hFc := z_freeW hD hS hA
    refine vp_callSi (W.runV (As := [.int (nI bd), .int (a32 uu)]) (rest := []) ⟨hx, hb, hml, hown, hts⟩ (kX7_errorOf l dC dI h0 r cI cJ cZ v0 a1 tp bs cl a5 a6 a7 fc a9 mb a11 a12 a13 a14 a15 a16 a17 a18 a19 a20 az v22 v23 v24 v25 v26 bb ct us a30 a31 a32 a33 a34 a35 a36 a37 pil rwv rl v41 (-1) v43 v44 v45 ⟨by omega, by omega, by omega, hcl, hfc, hmb, hct, hpil, hrwv⟩ bd (a32 uu) (by first | omega | assumption | trivial) H.size) (cwV 2 hts zgX7_links_X7_errorOf_251 rfl rfl rfl (by decide +kernel) ⟨(show 1 + 1 ≤ 4 by omega), (show 8 + (4 + 11) + 23 ≤ 102 by omega)⟩) (zVm (ci := 6) (q0 := 0) (q := (RX7, TX7, 46)) hK hP hD hL hS.2.1 hFc rfl rfl rfl) rfl rfl hl.1 rfl (lv_room (Nat.le_of_ble_eq_true rfl)) dX7_links_31 ⟨(show 0 + 0 ≤ 0 by omega), (show 0 + 0 ≤ 0 by omega)⟩) (fun r4 hw => ?_)
    have hw : (zEr cl a5 a11 bd ((a32 uu)) r4) := hw
    have w0r4 := hw
    refine lv_istore_n (lv' := [(3, .int r4), (0, .ref h0), (1, .int (nI bd)), (2, .int (nI uu))]) hx hb dX7_links_34 rfl hl (by decide) rfl (fun ls hl => ?_)
    refine lv_iload_n hx hb dX7_links_35 rfl (lv_at hl 0 rfl) ?_
    refine lv_if_le (tgt := 50) hx hb dX7_links_36 (by decide) (fun cp36 => ?_) (fun cp36 => ?_)
    · obtain ⟨c8, hac8, hbc8, hcc8⟩ := z_er (hp2 bd hp0) w0r4 (Int32.not_lt.mpr cp36)
      obtain ⟨c9, hac9, hbc9, hcc9⟩ := z_er (hp2 bd hp0) w0r2 (Int32.not_lt.mpr cp18)
      refine lv_bipush (v := 16) hx hb dX7_links_50 (by decide) ?_
      refine lv_iload_n hx hb dX7_links_52 rfl (lv_at hl 2 rfl) ?_
      refine lv_imul hx hb dX7_links_53 ?_
      refine lv_topi (fun x5 ex5 => ?_)
      obtain rfl : x5 = nI (16 * bd) := by rw [ex5]; exact pk_mul (16) (bd)
      refine lv_aload_n hx hb dX7_links_54 rfl (lv_at hl 1 rfl) ?_
      refine lv_iload_n hx hb dX7_links_55 rfl (lv_at hl 2 rfl) ?_
      refine lv_aload_n hx hb dX7_links_56 rfl (lv_at hl 1 rfl) ?_
      refine va_get (D := (dC, dI)) (ci := 6) (v := .ref (r 32)) (C := RX7) (T := TX7) (N := 46) hx hb hts hiX7 hown hK hP 0 rfl rfl 32 (by decide) (hts (.fieldLink RX7 79 "LinkModelsModel" "owner" "[I") (by decide +kernel)) (fun _ h9 => h9) rfl dX7_links_57 ?_
      refine lv_iload_n hx hb dX7_links_60 rfl (lv_at hl 3 rfl) ?_
      refine va_iald hx hb hK hP 22 0 rfl rfl (vp_in_nI (show uu < 40 by omega) (by decide)) dX7_links_61 ?_
      refine lv_topi (fun x6 ex6 => ?_)
      obtain rfl : x6 = a32 uu := by rw [ex6, nI_clamp (show uu < 2 ^ 31 by omega)]
      have hFc := z_freeW hD hS hA
      refine vp_callSi (W.runV (As := [.int (nI bd), .int (a32 uu)]) (rest := [.int (nI (16 * bd))]) ⟨hx, hb, hml, hown, hts⟩ (kX7_place l dC dI h0 r cI cJ cZ v0 a1 tp bs cl a5 a6 a7 fc a9 mb a11 a12 a13 a14 a15 a16 a17 a18 a19 a20 az v22 v23 v24 v25 v26 bb ct us a30 a31 a32 a33 a34 a35 a36 a37 pil rwv rl v41 (-1) v43 v44 v45 ⟨by omega, by omega, by omega, hcl, hfc, hmb, hct, hpil, hrwv⟩ bd (a32 uu) (by first | omega | assumption | trivial) H.size) (cwV 2 hts zgX7_links_X7_place_201 rfl rfl rfl (by decide +kernel) ⟨(show 0 + 1 ≤ 4 by omega), (show 8 + (4 + 11) + 0 ≤ 102 by omega)⟩) (zVm (ci := 6) (q0 := 0) (q := (RX7, TX7, 46)) hK hP hD hL hS.2.1 hFc rfl rfl rfl) rfl rfl hl.1 rfl (lv_room (Nat.le_of_ble_eq_true rfl)) dX7_links_62 ⟨(show 0 + 0 ≤ 0 by omega), (show 0 + 0 ≤ 0 by omega)⟩) (fun r7 hw => ?_)
      have hw : (zM r7 (fun k => k < cl bd)) ∧ (zPl a5 (16 * bd) (cl bd) ((a32 uu)) r7) := hw
      obtain ⟨w0r7, w1r7⟩ := hw
      obtain rfl : r7 = nI c8 := w1r7.uniq hbc8
      refine lv_iadd hx hb dX7_links_65 ?_
      refine lv_topi (fun x8 ex8 => ?_)
      obtain rfl : x8 = nI ((16 * bd) + c8) := by rw [ex8]; exact nI_add (16 * bd) (c8)
      refine lv_istore (lv' := [(4, .int (nI ((16 * bd) + c8))), (3, .int r4), (0, .ref h0), (1, .int (nI bd)), (2, .int (nI uu))]) hx hb dX7_links_66 hl (by decide) rfl (fun ls hl => ?_)
      refine lv_bipush (v := 16) hx hb dX7_links_68 (by decide) ?_
      refine lv_iload_n hx hb dX7_links_70 rfl (lv_at hl 3 rfl) ?_
      refine lv_imul hx hb dX7_links_71 ?_
      refine lv_topi (fun x9 ex9 => ?_)
      obtain rfl : x9 = nI (16 * bd) := by rw [ex9]; exact pk_mul (16) (bd)
      refine lv_aload_n hx hb dX7_links_72 rfl (lv_at hl 2 rfl) ?_
      refine lv_iload_n hx hb dX7_links_73 rfl (lv_at hl 3 rfl) ?_
      refine lv_aload_n hx hb dX7_links_74 rfl (lv_at hl 2 rfl) ?_
      refine va_get (D := (dC, dI)) (ci := 6) (v := .ref (r 31)) (C := RX7) (T := TX7) (N := 46) hx hb hts hiX7 hown hK hP 0 rfl rfl 31 (by decide) (hts (.fieldLink RX7 76 "LinkModelsModel" "caller" "[I") (by decide +kernel)) (fun _ h9 => h9) rfl dX7_links_75 ?_
      refine lv_iload_n hx hb dX7_links_78 rfl (lv_at hl 4 rfl) ?_
      refine va_iald hx hb hK hP 21 0 rfl rfl (vp_in_nI (show uu < 40 by omega) (by decide)) dX7_links_79 ?_
      refine lv_topi (fun x10 ex10 => ?_)
      obtain rfl : x10 = a31 uu := by rw [ex10, nI_clamp (show uu < 2 ^ 31 by omega)]
      have hFc := z_freeW hD hS hA
      refine vp_callSi (W.runV (As := [.int (nI bd), .int (a31 uu)]) (rest := [.int (nI (16 * bd))]) ⟨hx, hb, hml, hown, hts⟩ (kX7_place l dC dI h0 r cI cJ cZ v0 a1 tp bs cl a5 a6 a7 fc a9 mb a11 a12 a13 a14 a15 a16 a17 a18 a19 a20 az v22 v23 v24 v25 v26 bb ct us a30 a31 a32 a33 a34 a35 a36 a37 pil rwv rl v41 (-1) v43 v44 v45 ⟨by omega, by omega, by omega, hcl, hfc, hmb, hct, hpil, hrwv⟩ bd (a31 uu) (by first | omega | assumption | trivial) H.size) (cwV 2 hts zgX7_links_X7_place_201 rfl rfl rfl (by decide +kernel) ⟨(show 0 + 1 ≤ 4 by omega), (show 8 + (4 + 11) + 0 ≤ 102 by omega)⟩) (zVm (ci := 6) (q0 := 0) (q := (RX7, TX7, 46)) hK hP hD hL hS.2.1 hFc rfl rfl rfl) rfl rfl hl.1 rfl (lv_room (Nat.le_of_ble_eq_true rfl)) dX7_links_80 ⟨(show 0 + 0 ≤ 0 by omega), (show 0 + 0 ≤ 0 by omega)⟩) (fun r11 hw => ?_)
      have hw : (zM r11 (fun k => k < cl bd)) ∧ (zPl a5 (16 * bd) (cl bd) ((a31 uu)) r11) := hw
      obtain ⟨w0r11, w1r11⟩ := hw
      obtain rfl : r11 = nI c9 := w1r11.uniq hbc9
      refine lv_iadd hx hb dX7_links_83 ?_
      refine lv_topi (fun x12 ex12 => ?_)
      obtain rfl : x12 = nI ((16 * bd) + c9) := by rw [ex12]; exact nI_add (16 * bd) (c9)
      refine lv_istore (lv' := [(5, .int (nI ((16 * bd) + c9))), (4, .int (nI ((16 * bd) + c8))), (3, .int r4), (0, .ref h0), (1, .int (nI bd)), (2, .int (nI uu))]) hx hb dX7_links_84 hl (by decide) rfl (fun ls hl => ?_)
      refine lv_aload_n hx hb dX7_links_86 rfl (lv_at hl 3 rfl) ?_
      refine va_get (D := (dC, dI)) (ci := 6) (v := .ref (r 30)) (C := RX7) (T := TX7) (N := 46) hx hb hts hiX7 hown hK hP 0 rfl rfl 30 (by decide) (hts (.fieldLink RX7 73 "LinkModelsModel" "useKind" "[I") (by decide +kernel)) (fun _ h9 => h9) rfl dX7_links_87 ?_
      refine lv_iload_n hx hb dX7_links_90 rfl (lv_at hl 5 rfl) ?_
      refine va_iald hx hb hK hP 20 0 rfl rfl (vp_in_nI (show uu < 40 by omega) (by decide)) dX7_links_91 ?_
      refine lv_topi (fun x13 ex13 => ?_)
      obtain rfl : x13 = a30 uu := by rw [ex13, nI_clamp (show uu < 2 ^ 31 by omega)]
      refine lv_istore (lv' := [(6, .int (a30 uu)), (5, .int (nI ((16 * bd) + c9))), (4, .int (nI ((16 * bd) + c8))), (3, .int r4), (0, .ref h0), (1, .int (nI bd)), (2, .int (nI uu))]) hx hb dX7_links_92 hl (by decide) rfl (fun ls hl => ?_)
      refine lv_iload hx hb dX7_links_94 (lv_at hl 0 rfl) ?_
      refine lv_bipush (v := 7) hx hb dX7_links_96 (by decide) ?_
      refine lv_icmp_le (tgt := 137) hx hb dX7_links_98 (by decide) (fun cp98 => ?_) (fun cp98 => ?_)
      · refine lv_iload hx hb dX7_links_137 (lv_at hl 0 rfl) ?_
        refine lv_iconst (v := 4) hx hb dX7_links_139 (by decide) ?_
        refine lv_icmp_ge (tgt := 279) hx hb dX7_links_140 (by decide) (fun cp140 => ?_) (fun cp140 => ?_)
        · refine lv_aload_n hx hb dX7_links_279 rfl (lv_at hl 4 rfl) ?_
          refine va_get (D := (dC, dI)) (ci := 6) (v := .ref (r 6)) (C := RX7) (T := TX7) (N := 46) hx hb hts hiX7 hown hK hP 0 rfl rfl 6 (by decide) (hts (.fieldLink RX7 23 "LinkModelsModel" "sort" "[I") (by decide +kernel)) (fun _ h9 => h9) rfl dX7_links_280 ?_
          refine lv_iload hx hb dX7_links_283 (lv_at hl 2 rfl) ?_
          refine va_iald hx hb hK hP 4 0 rfl rfl (vp_in_nI (show (16 * bd) + c8 < 80 by omega) (by decide)) dX7_links_285 ?_
          refine lv_topi (fun x14 ex14 => ?_)
          obtain rfl : x14 = a6 ((16 * bd) + c8) := by rw [ex14, nI_clamp (show (16 * bd) + c8 < 2 ^ 31 by omega)]
          refine lv_iconst (v := 1) hx hb dX7_links_286 (by decide) ?_
          refine lv_icmp_ne (tgt := 299) hx hb dX7_links_287 (by decide) (fun cp287 => ?_) (fun cp287 => ?_)
          · refine lv_iload hx hb dX7_links_299 (lv_at hl 0 rfl) ?_
            refine lv_bipush (v := 7) hx hb dX7_links_301 (by decide) ?_
            refine lv_icmp_ne (tgt := 308) hx hb dX7_links_303 (by decide) (fun cp303 => ?_) (fun cp303 => ?_)
            · refine lv_aload_n hx hb dX7_links_308 rfl (lv_at hl 4 rfl) ?_
              refine lv_aload_n hx hb dX7_links_309 rfl (lv_at hl 4 rfl) ?_
              refine lv_iload_n hx hb dX7_links_310 rfl (lv_at hl 5 rfl) ?_
              refine lv_iload hx hb dX7_links_311 (lv_at hl 2 rfl) ?_
              refine lv_iload_n hx hb dX7_links_313 rfl (lv_at hl 6 rfl) ?_
              have hFc := z_freeW hD hS hA
              refine va_calli (va_runV (As := [.int (nI bd), .int (nI ((16 * bd) + c8)), .int (nI uu)]) (rest := [.ref h0]) ⟨hx, hb, hml, hown, hts⟩ (kX7_findMethod l dC dI h0 r cI cJ cZ v0 a1 tp bs cl a5 a6 a7 fc a9 mb a11 a12 a13 a14 a15 a16 a17 a18 a19 a20 az v22 v23 v24 v25 v26 bb ct us a30 a31 a32 a33 a34 a35 a36 a37 pil rwv rl v41 (-1) v43 v44 v45 ⟨by omega, by omega, by omega, hcl, hfc, hmb, hct, hpil, hrwv⟩ rk bd ((16 * bd) + c8) uu (by first | omega | assumption | trivial) (by first | omega | assumption | trivial) (by exact hrk) (by exact zGd.mk hac8 hcc8) H.size) (cwV 3 hts zgX7_links_X7_findMethod_303 rfl rfl rfl (by decide +kernel) ⟨(show 3 + 1 ≤ 4 by omega), (show 8 + (6 + 11) + 77 ≤ 102 by omega)⟩) (zVm (ci := 6) (q0 := 0) (q := (RX7, TX7, 46)) hK hP hD hL hS.2.1 hFc rfl rfl rfl) rfl rfl hl.1 rfl (lv_room (Nat.le_of_ble_eq_true rfl)) dX7_links_314 ⟨(show 0 + 0 ≤ 0 by omega), (show 0 + 0 ≤ 0 by omega)⟩) hS (fun q _ h => hFc q h) hFc (fun r15 u22 t H1 locs ht hvm hw hB hz1 hk1 hS => ?_)
              obtain ⟨o16, o17, o18, o19, o20, o21⟩ := u22
              obtain ⟨hP, hK9, hD⟩ := hB
              rw [ht] at hP
              have hD := hD.weaken (fun k q _ h => hFc q.1 h)
              generalize H1 = H at hP hS
              have hP : va_P (dC, dI) vwCl (rW h0 r cI cJ cZ v0 a1 (nI tp) (nI bs) (fun j => nI (cl j)) a5 a6 a7 (fun j => nI (fc j)) a9 (fun j => nI (mb j)) a11 a12 a13 a14 a15 a16 a17 a18 a19 a20 (nI az) v22 v23 v24 v25 v26 (nI bb) (fun j => nI (ct j)) (nI us) a30 a31 a32 a33 a34 a35 a36 a37 (fun j => nI (o17 j)) (fun j => nI (o18 j)) (nI o16) v41 (-1) o19 o20 o21) H := hP
              have hD : va_D A (rW h0 r cI cJ cZ v0 a1 (nI tp) (nI bs) (fun j => nI (cl j)) a5 a6 a7 (fun j => nI (fc j)) a9 (fun j => nI (mb j)) a11 a12 a13 a14 a15 a16 a17 a18 a19 a20 (nI az) v22 v23 v24 v25 v26 (nI bb) (fun j => nI (ct j)) (nI us) a30 a31 a32 a33 a34 a35 a36 a37 (fun j => nI (o17 j)) (fun j => nI (o18 j)) (nI o16) v41 (-1) o19 o20 o21) := hD
              have hw : (zM r15 (fun k => k < 960)) ∧ (∀ j, o17 j ≤ 15) ∧ (∀ j, o18 j ≤ 15) := hw
              obtain ⟨w0r15, hbo17, hbo18⟩ := hw
              refine va_put (D := (dC, dI)) (ci := 6) (v := .int r15) (ty := (.int)) (C := RX7) (T := TX7) (N := 46) hx hb hts hiX7 tyX7 tyX7_ok nmX7 hown hK hP hD hS 0 rfl rfl 42 (by decide) (hts (.fieldLink RX7 296 "LinkModelsModel" "linked" "I") (by decide +kernel)) (fun _ h9 => h9) rfl (by decide +kernel) rfl rfl (Nat.le_of_ble_eq_true rfl) dX7_links_317 (fun H locs hP hD hS => ?_)
              have hP : va_P (dC, dI) vwCl (rW h0 r cI cJ cZ v0 a1 (nI tp) (nI bs) (fun j => nI (cl j)) a5 a6 a7 (fun j => nI (fc j)) a9 (fun j => nI (mb j)) a11 a12 a13 a14 a15 a16 a17 a18 a19 a20 (nI az) v22 v23 v24 v25 v26 (nI bb) (fun j => nI (ct j)) (nI us) a30 a31 a32 a33 a34 a35 a36 a37 (fun j => nI (o17 j)) (fun j => nI (o18 j)) (nI o16) v41 r15 o19 o20 o21) H := hP
              have hD : va_D A (rW h0 r cI cJ cZ v0 a1 (nI tp) (nI bs) (fun j => nI (cl j)) a5 a6 a7 (fun j => nI (fc j)) a9 (fun j => nI (mb j)) a11 a12 a13 a14 a15 a16 a17 a18 a19 a20 (nI az) v22 v23 v24 v25 v26 (nI bb) (fun j => nI (ct j)) (nI us) a30 a31 a32 a33 a34 a35 a36 a37 (fun j => nI (o17 j)) (fun j => nI (o18 j)) (nI o16) v41 r15 o19 o20 o21) := hD
              refine lv_aload_n hx hb dX7_links_320 rfl (lv_at hl 4 rfl) ?_
              refine va_get (D := (dC, dI)) (ci := 6) (v := .int r15) (C := RX7) (T := TX7) (N := 46) hx hb hts hiX7 hown hK hP 0 rfl rfl 42 (by decide) (hts (.fieldLink RX7 296 "LinkModelsModel" "linked" "I") (by decide +kernel)) (fun _ h9 => h9) rfl dX7_links_321 ?_
              refine lv_if_ge (tgt := 330) hx hb dX7_links_324 (by decide) (fun cp324 => ?_) (fun cp324 => ?_)
              · obtain ⟨k23, hBk23, hQk23, rfl⟩ := zM.pos' w0r15 cp324
                refine lv_aload_n hx hb dX7_links_330 rfl (lv_at hl 4 rfl) ?_
                refine va_get (D := (dC, dI)) (ci := 6) (v := .ref (r 14)) (C := RX7) (T := TX7) (N := 46) hx hb hts hiX7 hown hK hP 0 rfl rfl 14 (by decide) (hts (.fieldLink RX7 48 "LinkModelsModel" "marks" "[I") (by decide +kernel)) (fun _ h9 => h9) rfl dX7_links_331 ?_
                refine lv_aload_n hx hb dX7_links_334 rfl (lv_at hl 4 rfl) ?_
                refine va_get (D := (dC, dI)) (ci := 6) (v := .int (nI k23)) (C := RX7) (T := TX7) (N := 46) hx hb hts hiX7 hown hK hP 0 rfl rfl 42 (by decide) (hts (.fieldLink RX7 296 "LinkModelsModel" "linked" "I") (by decide +kernel)) (fun _ h9 => h9) rfl dX7_links_335 ?_
                refine va_iald hx hb hK hP 12 0 rfl rfl (vp_in_nI (show k23 < 960 by omega) (by decide)) dX7_links_338 ?_
                refine lv_topi (fun x24 ex24 => ?_)
                obtain rfl : x24 = a14 k23 := by rw [ex24, nI_clamp (show k23 < 2 ^ 31 by omega)]
                refine lv_iconst (v := 2) hx hb dX7_links_339 (by decide) ?_
                refine lv_iand hx hb dX7_links_340 ?_
                refine lv_topi (fun x25 ex25 => ?_)
                refine lv_if_eq (tgt := 359) hx hb dX7_links_341 (by decide) (fun cp341 => ?_) (fun cp341 => ?_)
                · refine lv_aload_n hx hb dX7_links_359 rfl (lv_at hl 4 rfl) ?_
                  refine va_get (D := (dC, dI)) (ci := 6) (v := .ref (r 14)) (C := RX7) (T := TX7) (N := 46) hx hb hts hiX7 hown hK hP 0 rfl rfl 14 (by decide) (hts (.fieldLink RX7 48 "LinkModelsModel" "marks" "[I") (by decide +kernel)) (fun _ h9 => h9) rfl dX7_links_360 ?_
                  refine lv_aload_n hx hb dX7_links_363 rfl (lv_at hl 4 rfl) ?_
                  refine va_get (D := (dC, dI)) (ci := 6) (v := .int (nI k23)) (C := RX7) (T := TX7) (N := 46) hx hb hts hiX7 hown hK hP 0 rfl rfl 42 (by decide) (hts (.fieldLink RX7 296 "LinkModelsModel" "linked" "I") (by decide +kernel)) (fun _ h9 => h9) rfl dX7_links_364 ?_
                  refine va_iald hx hb hK hP 12 0 rfl rfl (vp_in_nI (show k23 < 960 by omega) (by decide)) dX7_links_367 ?_
                  refine lv_topi (fun x26 ex26 => ?_)
                  obtain rfl : x26 = a14 k23 := by rw [ex26, nI_clamp (show k23 < 2 ^ 31 by omega)]
                  refine lv_iconst (v := 1) hx hb dX7_links_368 (by decide) ?_
                  refine lv_iand hx hb dX7_links_369 ?_
                  refine lv_topi (fun x27 ex27 => ?_)
                  refine lv_if_eq (tgt := 377) hx hb dX7_links_370 (by decide) (fun cp370 => ?_) (fun cp370 => ?_)
                  · refine lv_iconst (v := 0) hx hb dX7_links_377 (by decide) ?_
                    refine lv_iload hx hb dX7_links_378 (lv_at hl 0 rfl) ?_
                    refine lv_iconst (v := 5) hx hb dX7_links_380 (by decide) ?_
                    refine lv_icmp_ne (tgt := 388) hx hb dX7_links_381 (by decide) (fun cp381 => ?_) (fun cp381 => ?_)
                    · refine lv_iconst (v := 0) hx hb dX7_links_388 (by decide) ?_
                      refine lv_icmp_eq (tgt := 394) hx hb dX7_links_389 (by decide) (fun _ => ?_) (fun c9 => absurd (by decide) c9)
                      refine lv_iload hx hb dX7_links_394 (lv_at hl 0 rfl) ?_
                      refine lv_bipush (v := 6) hx hb dX7_links_396 (by decide) ?_
                      refine lv_icmp_ne (tgt := 421) hx hb dX7_links_398 (by decide) (fun cp398 => ?_) (fun cp398 => ?_)
                      · refine lv_iconst (v := 0) hx hb dX7_links_421 (by decide) ?_
                        have hP9 : va_P (dC, dI) vwCl (rW h0 r cI cJ cZ v0 a1 (nI tp) (nI bs) (fun j => nI (cl j)) a5 a6 a7 (fun j => nI (fc j)) a9 (fun j => nI (mb j)) a11 a12 a13 a14 a15 a16 a17 a18 a19 a20 (nI az) v22 v23 v24 v25 v26 (nI bb) (fun j => nI (ct j)) (nI us) a30 a31 a32 a33 a34 a35 a36 a37 (fun j => nI (o17 j)) (fun j => nI (o18 j)) (nI o16) v41 (nI k23) o19 o20 o21) H := hP
                        have hD9 : va_D A (rW h0 r cI cJ cZ v0 a1 (nI tp) (nI bs) (fun j => nI (cl j)) a5 a6 a7 (fun j => nI (fc j)) a9 (fun j => nI (mb j)) a11 a12 a13 a14 a15 a16 a17 a18 a19 a20 (nI az) v22 v23 v24 v25 v26 (nI bb) (fun j => nI (ct j)) (nI us) a30 a31 a32 a33 a34 a35 a36 a37 (fun j => nI (o17 j)) (fun j => nI (o18 j)) (nI o16) v41 (nI k23) o19 o20 o21) := hD
                        exact W.iret (v := (0 : Int32)) hx hb hr (fun t ht hW => ⟨⟨(0 : Int32), (o16, o17, o18, o19, o20, o21, (nI k23)), rfl, ⟨(by exact (zM.mk (by omega) (by first | trivial | omega | assumption | (refine ⟨?_, ?_⟩ <;> first | trivial | omega | assumption)))), (by exact Or.inr (Or.inr ⟨k23, by omega, rfl⟩)), (by intro h9; exact absurd h9 (Int32.not_lt.mpr cp98)), hbo17, hbo18⟩, by rw [ht]; exact hP9, va_K.moved hW.alike hK, hD9⟩, hS.F ht⟩) hS.2.2 dX7_links_422
                      · refine lv_aload_n hx hb dX7_links_401 rfl (lv_at hl 4 rfl) ?_
                        refine va_get (D := (dC, dI)) (ci := 6) (v := .ref (r 14)) (C := RX7) (T := TX7) (N := 46) hx hb hts hiX7 hown hK hP 0 rfl rfl 14 (by decide) (hts (.fieldLink RX7 48 "LinkModelsModel" "marks" "[I") (by decide +kernel)) (fun _ h9 => h9) rfl dX7_links_402 ?_
                        refine lv_aload_n hx hb dX7_links_405 rfl (lv_at hl 4 rfl) ?_
                        refine va_get (D := (dC, dI)) (ci := 6) (v := .int (nI k23)) (C := RX7) (T := TX7) (N := 46) hx hb hts hiX7 hown hK hP 0 rfl rfl 42 (by decide) (hts (.fieldLink RX7 296 "LinkModelsModel" "linked" "I") (by decide +kernel)) (fun _ h9 => h9) rfl dX7_links_406 ?_
                        refine va_iald hx hb hK hP 12 0 rfl rfl (vp_in_nI (show k23 < 960 by omega) (by decide)) dX7_links_409 ?_
                        refine lv_topi (fun x28 ex28 => ?_)
                        obtain rfl : x28 = a14 k23 := by rw [ex28, nI_clamp (show k23 < 2 ^ 31 by omega)]
                        refine lv_bipush (v := 8) hx hb dX7_links_410 (by decide) ?_
                        refine lv_iand hx hb dX7_links_412 ?_
                        refine lv_topi (fun x29 ex29 => ?_)
                        refine lv_if_eq (tgt := 421) hx hb dX7_links_413 (by decide) (fun cp413 => ?_) (fun cp413 => ?_)
                        · refine lv_iconst (v := 0) hx hb dX7_links_421 (by decide) ?_
                          have hP9 : va_P (dC, dI) vwCl (rW h0 r cI cJ cZ v0 a1 (nI tp) (nI bs) (fun j => nI (cl j)) a5 a6 a7 (fun j => nI (fc j)) a9 (fun j => nI (mb j)) a11 a12 a13 a14 a15 a16 a17 a18 a19 a20 (nI az) v22 v23 v24 v25 v26 (nI bb) (fun j => nI (ct j)) (nI us) a30 a31 a32 a33 a34 a35 a36 a37 (fun j => nI (o17 j)) (fun j => nI (o18 j)) (nI o16) v41 (nI k23) o19 o20 o21) H := hP
                          have hD9 : va_D A (rW h0 r cI cJ cZ v0 a1 (nI tp) (nI bs) (fun j => nI (cl j)) a5 a6 a7 (fun j => nI (fc j)) a9 (fun j => nI (mb j)) a11 a12 a13 a14 a15 a16 a17 a18 a19 a20 (nI az) v22 v23 v24 v25 v26 (nI bb) (fun j => nI (ct j)) (nI us) a30 a31 a32 a33 a34 a35 a36 a37 (fun j => nI (o17 j)) (fun j => nI (o18 j)) (nI o16) v41 (nI k23) o19 o20 o21) := hD
                          exact W.iret (v := (0 : Int32)) hx hb hr (fun t ht hW => ⟨⟨(0 : Int32), (o16, o17, o18, o19, o20, o21, (nI k23)), rfl, ⟨(by exact (zM.mk (by omega) (by first | trivial | omega | assumption | (refine ⟨?_, ?_⟩ <;> first | trivial | omega | assumption)))), (by exact Or.inr (Or.inr ⟨k23, by omega, rfl⟩)), (by intro h9; exact absurd h9 (Int32.not_lt.mpr cp98)), hbo17, hbo18⟩, by rw [ht]; exact hP9, va_K.moved hW.alike hK, hD9⟩, hS.F ht⟩) hS.2.2 dX7_links_422
                        · refine lv_bipush (v := 10) hx hb dX7_links_416 (by decide) ?_
                          refine lv_goto (tgt := 422) hx hb dX7_links_418 (by decide) ?_
                          have hP9 : va_P (dC, dI) vwCl (rW h0 r cI cJ cZ v0 a1 (nI tp) (nI bs) (fun j => nI (cl j)) a5 a6 a7 (fun j => nI (fc j)) a9 (fun j => nI (mb j)) a11 a12 a13 a14 a15 a16 a17 a18 a19 a20 (nI az) v22 v23 v24 v25 v26 (nI bb) (fun j => nI (ct j)) (nI us) a30 a31 a32 a33 a34 a35 a36 a37 (fun j => nI (o17 j)) (fun j => nI (o18 j)) (nI o16) v41 (nI k23) o19 o20 o21) H := hP
                          have hD9 : va_D A (rW h0 r cI cJ cZ v0 a1 (nI tp) (nI bs) (fun j => nI (cl j)) a5 a6 a7 (fun j => nI (fc j)) a9 (fun j => nI (mb j)) a11 a12 a13 a14 a15 a16 a17 a18 a19 a20 (nI az) v22 v23 v24 v25 v26 (nI bb) (fun j => nI (ct j)) (nI us) a30 a31 a32 a33 a34 a35 a36 a37 (fun j => nI (o17 j)) (fun j => nI (o18 j)) (nI o16) v41 (nI k23) o19 o20 o21) := hD
                          exact W.iret (v := (10 : Int32)) hx hb hr (fun t ht hW => ⟨⟨(10 : Int32), (o16, o17, o18, o19, o20, o21, (nI k23)), rfl, ⟨(by exact (zM.mk (by omega) (by first | trivial | omega | assumption | (refine ⟨?_, ?_⟩ <;> first | trivial | omega | assumption)))), (by exact Or.inl (by decide)), (by first | (intro _; rfl) | (intro h9; exact absurd h9 (Int32.not_lt.mpr cp98))), hbo17, hbo18⟩, by rw [ht]; exact hP9, va_K.moved hW.alike hK, hD9⟩, hS.F ht⟩) hS.2.2 dX7_links_422
                    · refine lv_iconst (v := 1) hx hb dX7_links_384 (by decide) ?_
                      refine lv_goto (tgt := 389) hx hb dX7_links_385 (by decide) ?_
                      refine lv_icmp_eq (tgt := 394) hx hb dX7_links_389 (by decide) (fun c9 => absurd c9 (by decide)) (fun _ => ?_)
                      refine lv_iconst (v := 4) hx hb dX7_links_392 (by decide) ?_
                      have hP9 : va_P (dC, dI) vwCl (rW h0 r cI cJ cZ v0 a1 (nI tp) (nI bs) (fun j => nI (cl j)) a5 a6 a7 (fun j => nI (fc j)) a9 (fun j => nI (mb j)) a11 a12 a13 a14 a15 a16 a17 a18 a19 a20 (nI az) v22 v23 v24 v25 v26 (nI bb) (fun j => nI (ct j)) (nI us) a30 a31 a32 a33 a34 a35 a36 a37 (fun j => nI (o17 j)) (fun j => nI (o18 j)) (nI o16) v41 (nI k23) o19 o20 o21) H := hP
                      have hD9 : va_D A (rW h0 r cI cJ cZ v0 a1 (nI tp) (nI bs) (fun j => nI (cl j)) a5 a6 a7 (fun j => nI (fc j)) a9 (fun j => nI (mb j)) a11 a12 a13 a14 a15 a16 a17 a18 a19 a20 (nI az) v22 v23 v24 v25 v26 (nI bb) (fun j => nI (ct j)) (nI us) a30 a31 a32 a33 a34 a35 a36 a37 (fun j => nI (o17 j)) (fun j => nI (o18 j)) (nI o16) v41 (nI k23) o19 o20 o21) := hD
                      exact W.iret (v := (4 : Int32)) hx hb hr (fun t ht hW => ⟨⟨(4 : Int32), (o16, o17, o18, o19, o20, o21, (nI k23)), rfl, ⟨(by exact (zM.mk (by omega) (by first | trivial | omega | assumption | (refine ⟨?_, ?_⟩ <;> first | trivial | omega | assumption)))), (by exact Or.inl (by decide)), (by first | (intro _; rfl) | (intro h9; exact absurd h9 (Int32.not_lt.mpr cp98))), hbo17, hbo18⟩, by rw [ht]; exact hP9, va_K.moved hW.alike hK, hD9⟩, hS.F ht⟩) hS.2.2 dX7_links_393
                  · refine lv_iconst (v := 1) hx hb dX7_links_373 (by decide) ?_
                    refine lv_goto (tgt := 378) hx hb dX7_links_374 (by decide) ?_
                    refine lv_iload hx hb dX7_links_378 (lv_at hl 0 rfl) ?_
                    refine lv_iconst (v := 5) hx hb dX7_links_380 (by decide) ?_
                    refine lv_icmp_ne (tgt := 388) hx hb dX7_links_381 (by decide) (fun cp381 => ?_) (fun cp381 => ?_)
                    · refine lv_iconst (v := 0) hx hb dX7_links_388 (by decide) ?_
                      refine lv_icmp_eq (tgt := 394) hx hb dX7_links_389 (by decide) (fun c9 => absurd c9 (by decide)) (fun _ => ?_)
                      refine lv_iconst (v := 4) hx hb dX7_links_392 (by decide) ?_
                      have hP9 : va_P (dC, dI) vwCl (rW h0 r cI cJ cZ v0 a1 (nI tp) (nI bs) (fun j => nI (cl j)) a5 a6 a7 (fun j => nI (fc j)) a9 (fun j => nI (mb j)) a11 a12 a13 a14 a15 a16 a17 a18 a19 a20 (nI az) v22 v23 v24 v25 v26 (nI bb) (fun j => nI (ct j)) (nI us) a30 a31 a32 a33 a34 a35 a36 a37 (fun j => nI (o17 j)) (fun j => nI (o18 j)) (nI o16) v41 (nI k23) o19 o20 o21) H := hP
                      have hD9 : va_D A (rW h0 r cI cJ cZ v0 a1 (nI tp) (nI bs) (fun j => nI (cl j)) a5 a6 a7 (fun j => nI (fc j)) a9 (fun j => nI (mb j)) a11 a12 a13 a14 a15 a16 a17 a18 a19 a20 (nI az) v22 v23 v24 v25 v26 (nI bb) (fun j => nI (ct j)) (nI us) a30 a31 a32 a33 a34 a35 a36 a37 (fun j => nI (o17 j)) (fun j => nI (o18 j)) (nI o16) v41 (nI k23) o19 o20 o21) := hD
                      exact W.iret (v := (4 : Int32)) hx hb hr (fun t ht hW => ⟨⟨(4 : Int32), (o16, o17, o18, o19, o20, o21, (nI k23)), rfl, ⟨(by exact (zM.mk (by omega) (by first | trivial | omega | assumption | (refine ⟨?_, ?_⟩ <;> first | trivial | omega | assumption)))), (by exact Or.inl (by decide)), (by first | (intro _; rfl) | (intro h9; exact absurd h9 (Int32.not_lt.mpr cp98))), hbo17, hbo18⟩, by rw [ht]; exact hP9, va_K.moved hW.alike hK, hD9⟩, hS.F ht⟩) hS.2.2 dX7_links_393
                    · refine lv_iconst (v := 1) hx hb dX7_links_384 (by decide) ?_
                      refine lv_goto (tgt := 389) hx hb dX7_links_385 (by decide) ?_
                      refine lv_icmp_eq (tgt := 394) hx hb dX7_links_389 (by decide) (fun _ => ?_) (fun c9 => absurd (by decide) c9)
                      refine lv_iload hx hb dX7_links_394 (lv_at hl 0 rfl) ?_
                      refine lv_bipush (v := 6) hx hb dX7_links_396 (by decide) ?_
                      refine lv_icmp_ne (tgt := 421) hx hb dX7_links_398 (by decide) (fun cp398 => ?_) (fun cp398 => ?_)
                      · refine lv_iconst (v := 0) hx hb dX7_links_421 (by decide) ?_
                        have hP9 : va_P (dC, dI) vwCl (rW h0 r cI cJ cZ v0 a1 (nI tp) (nI bs) (fun j => nI (cl j)) a5 a6 a7 (fun j => nI (fc j)) a9 (fun j => nI (mb j)) a11 a12 a13 a14 a15 a16 a17 a18 a19 a20 (nI az) v22 v23 v24 v25 v26 (nI bb) (fun j => nI (ct j)) (nI us) a30 a31 a32 a33 a34 a35 a36 a37 (fun j => nI (o17 j)) (fun j => nI (o18 j)) (nI o16) v41 (nI k23) o19 o20 o21) H := hP
                        have hD9 : va_D A (rW h0 r cI cJ cZ v0 a1 (nI tp) (nI bs) (fun j => nI (cl j)) a5 a6 a7 (fun j => nI (fc j)) a9 (fun j => nI (mb j)) a11 a12 a13 a14 a15 a16 a17 a18 a19 a20 (nI az) v22 v23 v24 v25 v26 (nI bb) (fun j => nI (ct j)) (nI us) a30 a31 a32 a33 a34 a35 a36 a37 (fun j => nI (o17 j)) (fun j => nI (o18 j)) (nI o16) v41 (nI k23) o19 o20 o21) := hD
                        exact W.iret (v := (0 : Int32)) hx hb hr (fun t ht hW => ⟨⟨(0 : Int32), (o16, o17, o18, o19, o20, o21, (nI k23)), rfl, ⟨(by exact (zM.mk (by omega) (by first | trivial | omega | assumption | (refine ⟨?_, ?_⟩ <;> first | trivial | omega | assumption)))), (by exact Or.inr (Or.inr ⟨k23, by omega, rfl⟩)), (by intro h9; exact absurd h9 (Int32.not_lt.mpr cp98)), hbo17, hbo18⟩, by rw [ht]; exact hP9, va_K.moved hW.alike hK, hD9⟩, hS.F ht⟩) hS.2.2 dX7_links_422
                      · refine lv_aload_n hx hb dX7_links_401 rfl (lv_at hl 4 rfl) ?_
                        refine va_get (D := (dC, dI)) (ci := 6) (v := .ref (r 14)) (C := RX7) (T := TX7) (N := 46) hx hb hts hiX7 hown hK hP 0 rfl rfl 14 (by decide) (hts (.fieldLink RX7 48 "LinkModelsModel" "marks" "[I") (by decide +kernel)) (fun _ h9 => h9) rfl dX7_links_402 ?_
                        refine lv_aload_n hx hb dX7_links_405 rfl (lv_at hl 4 rfl) ?_
                        refine va_get (D := (dC, dI)) (ci := 6) (v := .int (nI k23)) (C := RX7) (T := TX7) (N := 46) hx hb hts hiX7 hown hK hP 0 rfl rfl 42 (by decide) (hts (.fieldLink RX7 296 "LinkModelsModel" "linked" "I") (by decide +kernel)) (fun _ h9 => h9) rfl dX7_links_406 ?_
                        refine va_iald hx hb hK hP 12 0 rfl rfl (vp_in_nI (show k23 < 960 by omega) (by decide)) dX7_links_409 ?_
                        refine lv_topi (fun x30 ex30 => ?_)
                        obtain rfl : x30 = a14 k23 := by rw [ex30, nI_clamp (show k23 < 2 ^ 31 by omega)]
                        refine lv_bipush (v := 8) hx hb dX7_links_410 (by decide) ?_
                        refine lv_iand hx hb dX7_links_412 ?_
                        refine lv_topi (fun x31 ex31 => ?_)
                        refine lv_if_eq (tgt := 421) hx hb dX7_links_413 (by decide) (fun cp413 => ?_) (fun cp413 => ?_)
                        · refine lv_iconst (v := 0) hx hb dX7_links_421 (by decide) ?_
                          have hP9 : va_P (dC, dI) vwCl (rW h0 r cI cJ cZ v0 a1 (nI tp) (nI bs) (fun j => nI (cl j)) a5 a6 a7 (fun j => nI (fc j)) a9 (fun j => nI (mb j)) a11 a12 a13 a14 a15 a16 a17 a18 a19 a20 (nI az) v22 v23 v24 v25 v26 (nI bb) (fun j => nI (ct j)) (nI us) a30 a31 a32 a33 a34 a35 a36 a37 (fun j => nI (o17 j)) (fun j => nI (o18 j)) (nI o16) v41 (nI k23) o19 o20 o21) H := hP
                          have hD9 : va_D A (rW h0 r cI cJ cZ v0 a1 (nI tp) (nI bs) (fun j => nI (cl j)) a5 a6 a7 (fun j => nI (fc j)) a9 (fun j => nI (mb j)) a11 a12 a13 a14 a15 a16 a17 a18 a19 a20 (nI az) v22 v23 v24 v25 v26 (nI bb) (fun j => nI (ct j)) (nI us) a30 a31 a32 a33 a34 a35 a36 a37 (fun j => nI (o17 j)) (fun j => nI (o18 j)) (nI o16) v41 (nI k23) o19 o20 o21) := hD
                          exact W.iret (v := (0 : Int32)) hx hb hr (fun t ht hW => ⟨⟨(0 : Int32), (o16, o17, o18, o19, o20, o21, (nI k23)), rfl, ⟨(by exact (zM.mk (by omega) (by first | trivial | omega | assumption | (refine ⟨?_, ?_⟩ <;> first | trivial | omega | assumption)))), (by exact Or.inr (Or.inr ⟨k23, by omega, rfl⟩)), (by intro h9; exact absurd h9 (Int32.not_lt.mpr cp98)), hbo17, hbo18⟩, by rw [ht]; exact hP9, va_K.moved hW.alike hK, hD9⟩, hS.F ht⟩) hS.2.2 dX7_links_422
                        · refine lv_bipush (v := 10) hx hb dX7_links_416 (by decide) ?_
                          refine lv_goto (tgt := 422) hx hb dX7_links_418 (by decide) ?_
                          have hP9 : va_P (dC, dI) vwCl (rW h0 r cI cJ cZ v0 a1 (nI tp) (nI bs) (fun j => nI (cl j)) a5 a6 a7 (fun j => nI (fc j)) a9 (fun j => nI (mb j)) a11 a12 a13 a14 a15 a16 a17 a18 a19 a20 (nI az) v22 v23 v24 v25 v26 (nI bb) (fun j => nI (ct j)) (nI us) a30 a31 a32 a33 a34 a35 a36 a37 (fun j => nI (o17 j)) (fun j => nI (o18 j)) (nI o16) v41 (nI k23) o19 o20 o21) H := hP
                          have hD9 : va_D A (rW h0 r cI cJ cZ v0 a1 (nI tp) (nI bs) (fun j => nI (cl j)) a5 a6 a7 (fun j => nI (fc j)) a9 (fun j => nI (mb j)) a11 a12 a13 a14 a15 a16 a17 a18 a19 a20 (nI az) v22 v23 v24 v25 v26 (nI bb) (fun j => nI (ct j)) (nI us) a30 a31 a32 a33 a34 a35 a36 a37 (fun j => nI (o17 j)) (fun j => nI (o18 j)) (nI o16) v41 (nI k23) o19 o20 o21) := hD
                          exact W.iret (v := (10 : Int32)) hx hb hr (fun t ht hW => ⟨⟨(10 : Int32), (o16, o17, o18, o19, o20, o21, (nI k23)), rfl, ⟨(by exact (zM.mk (by omega) (by first | trivial | omega | assumption | (refine ⟨?_, ?_⟩ <;> first | trivial | omega | assumption)))), (by exact Or.inl (by decide)), (by first | (intro _; rfl) | (intro h9; exact absurd h9 (Int32.not_lt.mpr cp98))), hbo17, hbo18⟩, by rw [ht]; exact hP9, va_K.moved hW.alike hK, hD9⟩, hS.F ht⟩) hS.2.2 dX7_links_422
                · refine lv_aload_n hx hb dX7_links_344 rfl (lv_at hl 4 rfl) ?_
                  refine va_get (D := (dC, dI)) (ci := 6) (v := .int (nI k23)) (C := RX7) (T := TX7) (N := 46) hx hb hts hiX7 hown hK hP 0 rfl rfl 42 (by decide) (hts (.fieldLink RX7 296 "LinkModelsModel" "linked" "I") (by decide +kernel)) (fun _ h9 => h9) rfl dX7_links_345 ?_
                  refine lv_bipush (v := 12) hx hb dX7_links_348 (by decide) ?_
                  refine lv_idiv (x := nI k23) (y := nI 12) hx hb dX7_links_350 (nI_ne0 (show 0 < 12 by omega) (show 12 < 2 ^ 31 by omega)) ?_
                  refine lv_topi (fun x32 ex32 => ?_)
                  obtain rfl : x32 = nI (k23 / 12) := by rw [ex32]; exact pk_div (show k23 < 2 ^ 31 by omega) (show 0 < 12 by omega) (show 12 < 2 ^ 31 by omega)
                  refine lv_iload hx hb dX7_links_351 (lv_at hl 1 rfl) ?_
                  refine lv_icmp_eq (tgt := 359) hx hb dX7_links_353 (by decide) (fun cp353 => ?_) (fun cp353 => ?_)
                  · have qcp353 : (k23 / 12) = ((16 * bd) + c9) := (nI_eq (a := k23 / 12) (b := (16 * bd) + c9) (by omega) (by omega)).mp cp353
                    refine lv_aload_n hx hb dX7_links_359 rfl (lv_at hl 4 rfl) ?_
                    refine va_get (D := (dC, dI)) (ci := 6) (v := .ref (r 14)) (C := RX7) (T := TX7) (N := 46) hx hb hts hiX7 hown hK hP 0 rfl rfl 14 (by decide) (hts (.fieldLink RX7 48 "LinkModelsModel" "marks" "[I") (by decide +kernel)) (fun _ h9 => h9) rfl dX7_links_360 ?_
                    refine lv_aload_n hx hb dX7_links_363 rfl (lv_at hl 4 rfl) ?_
                    refine va_get (D := (dC, dI)) (ci := 6) (v := .int (nI k23)) (C := RX7) (T := TX7) (N := 46) hx hb hts hiX7 hown hK hP 0 rfl rfl 42 (by decide) (hts (.fieldLink RX7 296 "LinkModelsModel" "linked" "I") (by decide +kernel)) (fun _ h9 => h9) rfl dX7_links_364 ?_
                    refine va_iald hx hb hK hP 12 0 rfl rfl (vp_in_nI (show k23 < 960 by omega) (by decide)) dX7_links_367 ?_
                    refine lv_topi (fun x33 ex33 => ?_)
                    obtain rfl : x33 = a14 k23 := by rw [ex33, nI_clamp (show k23 < 2 ^ 31 by omega)]
                    refine lv_iconst (v := 1) hx hb dX7_links_368 (by decide) ?_
                    refine lv_iand hx hb dX7_links_369 ?_
                    refine lv_topi (fun x34 ex34 => ?_)
                    refine lv_if_eq (tgt := 377) hx hb dX7_links_370 (by decide) (fun cp370 => ?_) (fun cp370 => ?_)
                    · refine lv_iconst (v := 0) hx hb dX7_links_377 (by decide) ?_
                      refine lv_iload hx hb dX7_links_378 (lv_at hl 0 rfl) ?_
                      refine lv_iconst (v := 5) hx hb dX7_links_380 (by decide) ?_
                      refine lv_icmp_ne (tgt := 388) hx hb dX7_links_381 (by decide) (fun cp381 => ?_) (fun cp381 => ?_)
                      · refine lv_iconst (v := 0) hx hb dX7_links_388 (by decide) ?_
                        refine lv_icmp_eq (tgt := 394) hx hb dX7_links_389 (by decide) (fun _ => ?_) (fun c9 => absurd (by decide) c9)
                        refine lv_iload hx hb dX7_links_394 (lv_at hl 0 rfl) ?_
                        refine lv_bipush (v := 6) hx hb dX7_links_396 (by decide) ?_
                        refine lv_icmp_ne (tgt := 421) hx hb dX7_links_398 (by decide) (fun cp398 => ?_) (fun cp398 => ?_)
                        · refine lv_iconst (v := 0) hx hb dX7_links_421 (by decide) ?_
                          have hP9 : va_P (dC, dI) vwCl (rW h0 r cI cJ cZ v0 a1 (nI tp) (nI bs) (fun j => nI (cl j)) a5 a6 a7 (fun j => nI (fc j)) a9 (fun j => nI (mb j)) a11 a12 a13 a14 a15 a16 a17 a18 a19 a20 (nI az) v22 v23 v24 v25 v26 (nI bb) (fun j => nI (ct j)) (nI us) a30 a31 a32 a33 a34 a35 a36 a37 (fun j => nI (o17 j)) (fun j => nI (o18 j)) (nI o16) v41 (nI k23) o19 o20 o21) H := hP
                          have hD9 : va_D A (rW h0 r cI cJ cZ v0 a1 (nI tp) (nI bs) (fun j => nI (cl j)) a5 a6 a7 (fun j => nI (fc j)) a9 (fun j => nI (mb j)) a11 a12 a13 a14 a15 a16 a17 a18 a19 a20 (nI az) v22 v23 v24 v25 v26 (nI bb) (fun j => nI (ct j)) (nI us) a30 a31 a32 a33 a34 a35 a36 a37 (fun j => nI (o17 j)) (fun j => nI (o18 j)) (nI o16) v41 (nI k23) o19 o20 o21) := hD
                          exact W.iret (v := (0 : Int32)) hx hb hr (fun t ht hW => ⟨⟨(0 : Int32), (o16, o17, o18, o19, o20, o21, (nI k23)), rfl, ⟨(by exact (zM.mk (by omega) (by first | trivial | omega | assumption | (refine ⟨?_, ?_⟩ <;> first | trivial | omega | assumption)))), (by exact Or.inr (Or.inr ⟨k23, by omega, rfl⟩)), (by intro h9; exact absurd h9 (Int32.not_lt.mpr cp98)), hbo17, hbo18⟩, by rw [ht]; exact hP9, va_K.moved hW.alike hK, hD9⟩, hS.F ht⟩) hS.2.2 dX7_links_422
                        · refine lv_aload_n hx hb dX7_links_401 rfl (lv_at hl 4 rfl) ?_
                          refine va_get (D := (dC, dI)) (ci := 6) (v := .ref (r 14)) (C := RX7) (T := TX7) (N := 46) hx hb hts hiX7 hown hK hP 0 rfl rfl 14 (by decide) (hts (.fieldLink RX7 48 "LinkModelsModel" "marks" "[I") (by decide +kernel)) (fun _ h9 => h9) rfl dX7_links_402 ?_
                          refine lv_aload_n hx hb dX7_links_405 rfl (lv_at hl 4 rfl) ?_
                          refine va_get (D := (dC, dI)) (ci := 6) (v := .int (nI k23)) (C := RX7) (T := TX7) (N := 46) hx hb hts hiX7 hown hK hP 0 rfl rfl 42 (by decide) (hts (.fieldLink RX7 296 "LinkModelsModel" "linked" "I") (by decide +kernel)) (fun _ h9 => h9) rfl dX7_links_406 ?_
                          refine va_iald hx hb hK hP 12 0 rfl rfl (vp_in_nI (show k23 < 960 by omega) (by decide)) dX7_links_409 ?_
                          refine lv_topi (fun x35 ex35 => ?_)
                          obtain rfl : x35 = a14 k23 := by rw [ex35, nI_clamp (show k23 < 2 ^ 31 by omega)]
                          refine lv_bipush (v := 8) hx hb dX7_links_410 (by decide) ?_
                          refine lv_iand hx hb dX7_links_412 ?_
                          refine lv_topi (fun x36 ex36 => ?_)
                          refine lv_if_eq (tgt := 421) hx hb dX7_links_413 (by decide) (fun cp413 => ?_) (fun cp413 => ?_)
                          · refine lv_iconst (v := 0) hx hb dX7_links_421 (by decide) ?_
                            have hP9 : va_P (dC, dI) vwCl (rW h0 r cI cJ cZ v0 a1 (nI tp) (nI bs) (fun j => nI (cl j)) a5 a6 a7 (fun j => nI (fc j)) a9 (fun j => nI (mb j)) a11 a12 a13 a14 a15 a16 a17 a18 a19 a20 (nI az) v22 v23 v24 v25 v26 (nI bb) (fun j => nI (ct j)) (nI us) a30 a31 a32 a33 a34 a35 a36 a37 (fun j => nI (o17 j)) (fun j => nI (o18 j)) (nI o16) v41 (nI k23) o19 o20 o21) H := hP
                            have hD9 : va_D A (rW h0 r cI cJ cZ v0 a1 (nI tp) (nI bs) (fun j => nI (cl j)) a5 a6 a7 (fun j => nI (fc j)) a9 (fun j => nI (mb j)) a11 a12 a13 a14 a15 a16 a17 a18 a19 a20 (nI az) v22 v23 v24 v25 v26 (nI bb) (fun j => nI (ct j)) (nI us) a30 a31 a32 a33 a34 a35 a36 a37 (fun j => nI (o17 j)) (fun j => nI (o18 j)) (nI o16) v41 (nI k23) o19 o20 o21) := hD
                            exact W.iret (v := (0 : Int32)) hx hb hr (fun t ht hW => ⟨⟨(0 : Int32), (o16, o17, o18, o19, o20, o21, (nI k23)), rfl, ⟨(by exact (zM.mk (by omega) (by first | trivial | omega | assumption | (refine ⟨?_, ?_⟩ <;> first | trivial | omega | assumption)))), (by exact Or.inr (Or.inr ⟨k23, by omega, rfl⟩)), (by intro h9; exact absurd h9 (Int32.not_lt.mpr cp98)), hbo17, hbo18⟩, by rw [ht]; exact hP9, va_K.moved hW.alike hK, hD9⟩, hS.F ht⟩) hS.2.2 dX7_links_422
                          · refine lv_bipush (v := 10) hx hb dX7_links_416 (by decide) ?_
                            refine lv_goto (tgt := 422) hx hb dX7_links_418 (by decide) ?_
                            have hP9 : va_P (dC, dI) vwCl (rW h0 r cI cJ cZ v0 a1 (nI tp) (nI bs) (fun j => nI (cl j)) a5 a6 a7 (fun j => nI (fc j)) a9 (fun j => nI (mb j)) a11 a12 a13 a14 a15 a16 a17 a18 a19 a20 (nI az) v22 v23 v24 v25 v26 (nI bb) (fun j => nI (ct j)) (nI us) a30 a31 a32 a33 a34 a35 a36 a37 (fun j => nI (o17 j)) (fun j => nI (o18 j)) (nI o16) v41 (nI k23) o19 o20 o21) H := hP
                            have hD9 : va_D A (rW h0 r cI cJ cZ v0 a1 (nI tp) (nI bs) (fun j => nI (cl j)) a5 a6 a7 (fun j => nI (fc j)) a9 (fun j => nI (mb j)) a11 a12 a13 a14 a15 a16 a17 a18 a19 a20 (nI az) v22 v23 v24 v25 v26 (nI bb) (fun j => nI (ct j)) (nI us) a30 a31 a32 a33 a34 a35 a36 a37 (fun j => nI (o17 j)) (fun j => nI (o18 j)) (nI o16) v41 (nI k23) o19 o20 o21) := hD
                            exact W.iret (v := (10 : Int32)) hx hb hr (fun t ht hW => ⟨⟨(10 : Int32), (o16, o17, o18, o19, o20, o21, (nI k23)), rfl, ⟨(by exact (zM.mk (by omega) (by first | trivial | omega | assumption | (refine ⟨?_, ?_⟩ <;> first | trivial | omega | assumption)))), (by exact Or.inl (by decide)), (by first | (intro _; rfl) | (intro h9; exact absurd h9 (Int32.not_lt.mpr cp98))), hbo17, hbo18⟩, by rw [ht]; exact hP9, va_K.moved hW.alike hK, hD9⟩, hS.F ht⟩) hS.2.2 dX7_links_422
                      · refine lv_iconst (v := 1) hx hb dX7_links_384 (by decide) ?_
                        refine lv_goto (tgt := 389) hx hb dX7_links_385 (by decide) ?_
                        refine lv_icmp_eq (tgt := 394) hx hb dX7_links_389 (by decide) (fun c9 => absurd c9 (by decide)) (fun _ => ?_)
                        refine lv_iconst (v := 4) hx hb dX7_links_392 (by decide) ?_
                        have hP9 : va_P (dC, dI) vwCl (rW h0 r cI cJ cZ v0 a1 (nI tp) (nI bs) (fun j => nI (cl j)) a5 a6 a7 (fun j => nI (fc j)) a9 (fun j => nI (mb j)) a11 a12 a13 a14 a15 a16 a17 a18 a19 a20 (nI az) v22 v23 v24 v25 v26 (nI bb) (fun j => nI (ct j)) (nI us) a30 a31 a32 a33 a34 a35 a36 a37 (fun j => nI (o17 j)) (fun j => nI (o18 j)) (nI o16) v41 (nI k23) o19 o20 o21) H := hP
                        have hD9 : va_D A (rW h0 r cI cJ cZ v0 a1 (nI tp) (nI bs) (fun j => nI (cl j)) a5 a6 a7 (fun j => nI (fc j)) a9 (fun j => nI (mb j)) a11 a12 a13 a14 a15 a16 a17 a18 a19 a20 (nI az) v22 v23 v24 v25 v26 (nI bb) (fun j => nI (ct j)) (nI us) a30 a31 a32 a33 a34 a35 a36 a37 (fun j => nI (o17 j)) (fun j => nI (o18 j)) (nI o16) v41 (nI k23) o19 o20 o21) := hD
                        exact W.iret (v := (4 : Int32)) hx hb hr (fun t ht hW => ⟨⟨(4 : Int32), (o16, o17, o18, o19, o20, o21, (nI k23)), rfl, ⟨(by exact (zM.mk (by omega) (by first | trivial | omega | assumption | (refine ⟨?_, ?_⟩ <;> first | trivial | omega | assumption)))), (by exact Or.inl (by decide)), (by first | (intro _; rfl) | (intro h9; exact absurd h9 (Int32.not_lt.mpr cp98))), hbo17, hbo18⟩, by rw [ht]; exact hP9, va_K.moved hW.alike hK, hD9⟩, hS.F ht⟩) hS.2.2 dX7_links_393
                    · refine lv_iconst (v := 1) hx hb dX7_links_373 (by decide) ?_
                      refine lv_goto (tgt := 378) hx hb dX7_links_374 (by decide) ?_
                      refine lv_iload hx hb dX7_links_378 (lv_at hl 0 rfl) ?_
                      refine lv_iconst (v := 5) hx hb dX7_links_380 (by decide) ?_
                      refine lv_icmp_ne (tgt := 388) hx hb dX7_links_381 (by decide) (fun cp381 => ?_) (fun cp381 => ?_)
                      · refine lv_iconst (v := 0) hx hb dX7_links_388 (by decide) ?_
                        refine lv_icmp_eq (tgt := 394) hx hb dX7_links_389 (by decide) (fun c9 => absurd c9 (by decide)) (fun _ => ?_)
                        refine lv_iconst (v := 4) hx hb dX7_links_392 (by decide) ?_
                        have hP9 : va_P (dC, dI) vwCl (rW h0 r cI cJ cZ v0 a1 (nI tp) (nI bs) (fun j => nI (cl j)) a5 a6 a7 (fun j => nI (fc j)) a9 (fun j => nI (mb j)) a11 a12 a13 a14 a15 a16 a17 a18 a19 a20 (nI az) v22 v23 v24 v25 v26 (nI bb) (fun j => nI (ct j)) (nI us) a30 a31 a32 a33 a34 a35 a36 a37 (fun j => nI (o17 j)) (fun j => nI (o18 j)) (nI o16) v41 (nI k23) o19 o20 o21) H := hP
                        have hD9 : va_D A (rW h0 r cI cJ cZ v0 a1 (nI tp) (nI bs) (fun j => nI (cl j)) a5 a6 a7 (fun j => nI (fc j)) a9 (fun j => nI (mb j)) a11 a12 a13 a14 a15 a16 a17 a18 a19 a20 (nI az) v22 v23 v24 v25 v26 (nI bb) (fun j => nI (ct j)) (nI us) a30 a31 a32 a33 a34 a35 a36 a37 (fun j => nI (o17 j)) (fun j => nI (o18 j)) (nI o16) v41 (nI k23) o19 o20 o21) := hD
                        exact W.iret (v := (4 : Int32)) hx hb hr (fun t ht hW => ⟨⟨(4 : Int32), (o16, o17, o18, o19, o20, o21, (nI k23)), rfl, ⟨(by exact (zM.mk (by omega) (by first | trivial | omega | assumption | (refine ⟨?_, ?_⟩ <;> first | trivial | omega | assumption)))), (by exact Or.inl (by decide)), (by first | (intro _; rfl) | (intro h9; exact absurd h9 (Int32.not_lt.mpr cp98))), hbo17, hbo18⟩, by rw [ht]; exact hP9, va_K.moved hW.alike hK, hD9⟩, hS.F ht⟩) hS.2.2 dX7_links_393
                      · refine lv_iconst (v := 1) hx hb dX7_links_384 (by decide) ?_
                        refine lv_goto (tgt := 389) hx hb dX7_links_385 (by decide) ?_
                        refine lv_icmp_eq (tgt := 394) hx hb dX7_links_389 (by decide) (fun _ => ?_) (fun c9 => absurd (by decide) c9)
                        refine lv_iload hx hb dX7_links_394 (lv_at hl 0 rfl) ?_
                        refine lv_bipush (v := 6) hx hb dX7_links_396 (by decide) ?_
                        refine lv_icmp_ne (tgt := 421) hx hb dX7_links_398 (by decide) (fun cp398 => ?_) (fun cp398 => ?_)
                        · refine lv_iconst (v := 0) hx hb dX7_links_421 (by decide) ?_
                          have hP9 : va_P (dC, dI) vwCl (rW h0 r cI cJ cZ v0 a1 (nI tp) (nI bs) (fun j => nI (cl j)) a5 a6 a7 (fun j => nI (fc j)) a9 (fun j => nI (mb j)) a11 a12 a13 a14 a15 a16 a17 a18 a19 a20 (nI az) v22 v23 v24 v25 v26 (nI bb) (fun j => nI (ct j)) (nI us) a30 a31 a32 a33 a34 a35 a36 a37 (fun j => nI (o17 j)) (fun j => nI (o18 j)) (nI o16) v41 (nI k23) o19 o20 o21) H := hP
                          have hD9 : va_D A (rW h0 r cI cJ cZ v0 a1 (nI tp) (nI bs) (fun j => nI (cl j)) a5 a6 a7 (fun j => nI (fc j)) a9 (fun j => nI (mb j)) a11 a12 a13 a14 a15 a16 a17 a18 a19 a20 (nI az) v22 v23 v24 v25 v26 (nI bb) (fun j => nI (ct j)) (nI us) a30 a31 a32 a33 a34 a35 a36 a37 (fun j => nI (o17 j)) (fun j => nI (o18 j)) (nI o16) v41 (nI k23) o19 o20 o21) := hD
                          exact W.iret (v := (0 : Int32)) hx hb hr (fun t ht hW => ⟨⟨(0 : Int32), (o16, o17, o18, o19, o20, o21, (nI k23)), rfl, ⟨(by exact (zM.mk (by omega) (by first | trivial | omega | assumption | (refine ⟨?_, ?_⟩ <;> first | trivial | omega | assumption)))), (by exact Or.inr (Or.inr ⟨k23, by omega, rfl⟩)), (by intro h9; exact absurd h9 (Int32.not_lt.mpr cp98)), hbo17, hbo18⟩, by rw [ht]; exact hP9, va_K.moved hW.alike hK, hD9⟩, hS.F ht⟩) hS.2.2 dX7_links_422
                        · refine lv_aload_n hx hb dX7_links_401 rfl (lv_at hl 4 rfl) ?_
                          refine va_get (D := (dC, dI)) (ci := 6) (v := .ref (r 14)) (C := RX7) (T := TX7) (N := 46) hx hb hts hiX7 hown hK hP 0 rfl rfl 14 (by decide) (hts (.fieldLink RX7 48 "LinkModelsModel" "marks" "[I") (by decide +kernel)) (fun _ h9 => h9) rfl dX7_links_402 ?_
                          refine lv_aload_n hx hb dX7_links_405 rfl (lv_at hl 4 rfl) ?_
                          refine va_get (D := (dC, dI)) (ci := 6) (v := .int (nI k23)) (C := RX7) (T := TX7) (N := 46) hx hb hts hiX7 hown hK hP 0 rfl rfl 42 (by decide) (hts (.fieldLink RX7 296 "LinkModelsModel" "linked" "I") (by decide +kernel)) (fun _ h9 => h9) rfl dX7_links_406 ?_
                          refine va_iald hx hb hK hP 12 0 rfl rfl (vp_in_nI (show k23 < 960 by omega) (by decide)) dX7_links_409 ?_
                          refine lv_topi (fun x37 ex37 => ?_)
                          obtain rfl : x37 = a14 k23 := by rw [ex37, nI_clamp (show k23 < 2 ^ 31 by omega)]
                          refine lv_bipush (v := 8) hx hb dX7_links_410 (by decide) ?_
                          refine lv_iand hx hb dX7_links_412 ?_
                          refine lv_topi (fun x38 ex38 => ?_)
                          refine lv_if_eq (tgt := 421) hx hb dX7_links_413 (by decide) (fun cp413 => ?_) (fun cp413 => ?_)
                          · refine lv_iconst (v := 0) hx hb dX7_links_421 (by decide) ?_
                            have hP9 : va_P (dC, dI) vwCl (rW h0 r cI cJ cZ v0 a1 (nI tp) (nI bs) (fun j => nI (cl j)) a5 a6 a7 (fun j => nI (fc j)) a9 (fun j => nI (mb j)) a11 a12 a13 a14 a15 a16 a17 a18 a19 a20 (nI az) v22 v23 v24 v25 v26 (nI bb) (fun j => nI (ct j)) (nI us) a30 a31 a32 a33 a34 a35 a36 a37 (fun j => nI (o17 j)) (fun j => nI (o18 j)) (nI o16) v41 (nI k23) o19 o20 o21) H := hP
                            have hD9 : va_D A (rW h0 r cI cJ cZ v0 a1 (nI tp) (nI bs) (fun j => nI (cl j)) a5 a6 a7 (fun j => nI (fc j)) a9 (fun j => nI (mb j)) a11 a12 a13 a14 a15 a16 a17 a18 a19 a20 (nI az) v22 v23 v24 v25 v26 (nI bb) (fun j => nI (ct j)) (nI us) a30 a31 a32 a33 a34 a35 a36 a37 (fun j => nI (o17 j)) (fun j => nI (o18 j)) (nI o16) v41 (nI k23) o19 o20 o21) := hD
                            exact W.iret (v := (0 : Int32)) hx hb hr (fun t ht hW => ⟨⟨(0 : Int32), (o16, o17, o18, o19, o20, o21, (nI k23)), rfl, ⟨(by exact (zM.mk (by omega) (by first | trivial | omega | assumption | (refine ⟨?_, ?_⟩ <;> first | trivial | omega | assumption)))), (by exact Or.inr (Or.inr ⟨k23, by omega, rfl⟩)), (by intro h9; exact absurd h9 (Int32.not_lt.mpr cp98)), hbo17, hbo18⟩, by rw [ht]; exact hP9, va_K.moved hW.alike hK, hD9⟩, hS.F ht⟩) hS.2.2 dX7_links_422
                          · refine lv_bipush (v := 10) hx hb dX7_links_416 (by decide) ?_
                            refine lv_goto (tgt := 422) hx hb dX7_links_418 (by decide) ?_
                            have hP9 : va_P (dC, dI) vwCl (rW h0 r cI cJ cZ v0 a1 (nI tp) (nI bs) (fun j => nI (cl j)) a5 a6 a7 (fun j => nI (fc j)) a9 (fun j => nI (mb j)) a11 a12 a13 a14 a15 a16 a17 a18 a19 a20 (nI az) v22 v23 v24 v25 v26 (nI bb) (fun j => nI (ct j)) (nI us) a30 a31 a32 a33 a34 a35 a36 a37 (fun j => nI (o17 j)) (fun j => nI (o18 j)) (nI o16) v41 (nI k23) o19 o20 o21) H := hP
                            have hD9 : va_D A (rW h0 r cI cJ cZ v0 a1 (nI tp) (nI bs) (fun j => nI (cl j)) a5 a6 a7 (fun j => nI (fc j)) a9 (fun j => nI (mb j)) a11 a12 a13 a14 a15 a16 a17 a18 a19 a20 (nI az) v22 v23 v24 v25 v26 (nI bb) (fun j => nI (ct j)) (nI us) a30 a31 a32 a33 a34 a35 a36 a37 (fun j => nI (o17 j)) (fun j => nI (o18 j)) (nI o16) v41 (nI k23) o19 o20 o21) := hD
                            exact W.iret (v := (10 : Int32)) hx hb hr (fun t ht hW => ⟨⟨(10 : Int32), (o16, o17, o18, o19, o20, o21, (nI k23)), rfl, ⟨(by exact (zM.mk (by omega) (by first | trivial | omega | assumption | (refine ⟨?_, ?_⟩ <;> first | trivial | omega | assumption)))), (by exact Or.inl (by decide)), (by first | (intro _; rfl) | (intro h9; exact absurd h9 (Int32.not_lt.mpr cp98))), hbo17, hbo18⟩, by rw [ht]; exact hP9, va_K.moved hW.alike hK, hD9⟩, hS.F ht⟩) hS.2.2 dX7_links_422
                  · have qcp353 : ¬ (k23 / 12) = ((16 * bd) + c9) := fun h9 => cp353 ((nI_eq (a := k23 / 12) (b := (16 * bd) + c9) (by omega) (by omega)).mpr h9)
                    refine lv_bipush (v := 8) hx hb dX7_links_356 (by decide) ?_
                    have hP9 : va_P (dC, dI) vwCl (rW h0 r cI cJ cZ v0 a1 (nI tp) (nI bs) (fun j => nI (cl j)) a5 a6 a7 (fun j => nI (fc j)) a9 (fun j => nI (mb j)) a11 a12 a13 a14 a15 a16 a17 a18 a19 a20 (nI az) v22 v23 v24 v25 v26 (nI bb) (fun j => nI (ct j)) (nI us) a30 a31 a32 a33 a34 a35 a36 a37 (fun j => nI (o17 j)) (fun j => nI (o18 j)) (nI o16) v41 (nI k23) o19 o20 o21) H := hP
                    have hD9 : va_D A (rW h0 r cI cJ cZ v0 a1 (nI tp) (nI bs) (fun j => nI (cl j)) a5 a6 a7 (fun j => nI (fc j)) a9 (fun j => nI (mb j)) a11 a12 a13 a14 a15 a16 a17 a18 a19 a20 (nI az) v22 v23 v24 v25 v26 (nI bb) (fun j => nI (ct j)) (nI us) a30 a31 a32 a33 a34 a35 a36 a37 (fun j => nI (o17 j)) (fun j => nI (o18 j)) (nI o16) v41 (nI k23) o19 o20 o21) := hD
                    exact W.iret (v := (8 : Int32)) hx hb hr (fun t ht hW => ⟨⟨(8 : Int32), (o16, o17, o18, o19, o20, o21, (nI k23)), rfl, ⟨(by exact (zM.mk (by omega) (by first | trivial | omega | assumption | (refine ⟨?_, ?_⟩ <;> first | trivial | omega | assumption)))), (by exact Or.inl (by decide)), (by first | (intro _; rfl) | (intro h9; exact absurd h9 (Int32.not_lt.mpr cp98))), hbo17, hbo18⟩, by rw [ht]; exact hP9, va_K.moved hW.alike hK, hD9⟩, hS.F ht⟩) hS.2.2 dX7_links_358
              · obtain rfl : r15 = -1 := zM.neg' w0r15 cp324
                refine lv_bipush (v := 9) hx hb dX7_links_327 (by decide) ?_
                have hP9 : va_P (dC, dI) vwCl (rW h0 r cI cJ cZ v0 a1 (nI tp) (nI bs) (fun j => nI (cl j)) a5 a6 a7 (fun j => nI (fc j)) a9 (fun j => nI (mb j)) a11 a12 a13 a14 a15 a16 a17 a18 a19 a20 (nI az) v22 v23 v24 v25 v26 (nI bb) (fun j => nI (ct j)) (nI us) a30 a31 a32 a33 a34 a35 a36 a37 (fun j => nI (o17 j)) (fun j => nI (o18 j)) (nI o16) v41 (-1) o19 o20 o21) H := hP
                have hD9 : va_D A (rW h0 r cI cJ cZ v0 a1 (nI tp) (nI bs) (fun j => nI (cl j)) a5 a6 a7 (fun j => nI (fc j)) a9 (fun j => nI (mb j)) a11 a12 a13 a14 a15 a16 a17 a18 a19 a20 (nI az) v22 v23 v24 v25 v26 (nI bb) (fun j => nI (ct j)) (nI us) a30 a31 a32 a33 a34 a35 a36 a37 (fun j => nI (o17 j)) (fun j => nI (o18 j)) (nI o16) v41 (-1) o19 o20 o21) := hD
                exact W.iret (v := (9 : Int32)) hx hb hr (fun t ht hW => ⟨⟨(9 : Int32), (o16, o17, o18, o19, o20, o21, (-1)), rfl, ⟨(by exact (Or.inl rfl)), (by exact Or.inl (by decide)), (by first | (intro _; rfl) | (intro h9; exact absurd h9 (Int32.not_lt.mpr cp98))), hbo17, hbo18⟩, by rw [ht]; exact hP9, va_K.moved hW.alike hK, hD9⟩, hS.F ht⟩) hS.2.2 dX7_links_329
            · refine lv_iconst (v := 4) hx hb dX7_links_306 (by decide) ?_
              have hP9 : va_P (dC, dI) vwCl (rW h0 r cI cJ cZ v0 a1 (nI tp) (nI bs) (fun j => nI (cl j)) a5 a6 a7 (fun j => nI (fc j)) a9 (fun j => nI (mb j)) a11 a12 a13 a14 a15 a16 a17 a18 a19 a20 (nI az) v22 v23 v24 v25 v26 (nI bb) (fun j => nI (ct j)) (nI us) a30 a31 a32 a33 a34 a35 a36 a37 (fun j => nI (pil j)) (fun j => nI (rwv j)) (nI rl) v41 (-1) v43 v44 v45) H := hP
              have hD9 : va_D A (rW h0 r cI cJ cZ v0 a1 (nI tp) (nI bs) (fun j => nI (cl j)) a5 a6 a7 (fun j => nI (fc j)) a9 (fun j => nI (mb j)) a11 a12 a13 a14 a15 a16 a17 a18 a19 a20 (nI az) v22 v23 v24 v25 v26 (nI bb) (fun j => nI (ct j)) (nI us) a30 a31 a32 a33 a34 a35 a36 a37 (fun j => nI (pil j)) (fun j => nI (rwv j)) (nI rl) v41 (-1) v43 v44 v45) := hD
              exact W.iret (v := (4 : Int32)) hx hb hr (fun t ht hW => ⟨⟨(4 : Int32), (rl, pil, rwv, v43, v44, v45, (-1)), rfl, ⟨(by exact (Or.inl rfl)), (by exact Or.inl (by decide)), (by first | (intro _; rfl) | (intro h9; exact absurd h9 (Int32.not_lt.mpr cp98))), hpil, hrwv⟩, by rw [ht]; exact hP9, va_K.moved hW.alike hK, hD9⟩, hS.F ht⟩) hS.2.2 dX7_links_307
          · refine lv_iload hx hb dX7_links_290 (lv_at hl 0 rfl) ?_
            refine lv_iconst (v := 4) hx hb dX7_links_292 (by decide) ?_
            refine lv_icmp_ne (tgt := 308) hx hb dX7_links_293 (by decide) (fun cp293 => ?_) (fun cp293 => ?_)
            · refine lv_aload_n hx hb dX7_links_308 rfl (lv_at hl 4 rfl) ?_
              refine lv_aload_n hx hb dX7_links_309 rfl (lv_at hl 4 rfl) ?_
              refine lv_iload_n hx hb dX7_links_310 rfl (lv_at hl 5 rfl) ?_
              refine lv_iload hx hb dX7_links_311 (lv_at hl 2 rfl) ?_
              refine lv_iload_n hx hb dX7_links_313 rfl (lv_at hl 6 rfl) ?_
              have hFc := z_freeW hD hS hA
              refine va_calli (va_runV (As := [.int (nI bd), .int (nI ((16 * bd) + c8)), .int (nI uu)]) (rest := [.ref h0]) ⟨hx, hb, hml, hown, hts⟩ (kX7_findMethod l dC dI h0 r cI cJ cZ v0 a1 tp bs cl a5 a6 a7 fc a9 mb a11 a12 a13 a14 a15 a16 a17 a18 a19 a20 az v22 v23 v24 v25 v26 bb ct us a30 a31 a32 a33 a34 a35 a36 a37 pil rwv rl v41 (-1) v43 v44 v45 ⟨by omega, by omega, by omega, hcl, hfc, hmb, hct, hpil, hrwv⟩ rk bd ((16 * bd) + c8) uu (by first | omega | assumption | trivial) (by first | omega | assumption | trivial) (by exact hrk) (by exact zGd.mk hac8 hcc8) H.size) (cwV 3 hts zgX7_links_X7_findMethod_303 rfl rfl rfl (by decide +kernel) ⟨(show 3 + 1 ≤ 4 by omega), (show 8 + (6 + 11) + 77 ≤ 102 by omega)⟩) (zVm (ci := 6) (q0 := 0) (q := (RX7, TX7, 46)) hK hP hD hL hS.2.1 hFc rfl rfl rfl) rfl rfl hl.1 rfl (lv_room (Nat.le_of_ble_eq_true rfl)) dX7_links_314 ⟨(show 0 + 0 ≤ 0 by omega), (show 0 + 0 ≤ 0 by omega)⟩) hS (fun q _ h => hFc q h) hFc (fun r39 u46 t H1 locs ht hvm hw hB hz1 hk1 hS => ?_)
              obtain ⟨o40, o41, o42, o43, o44, o45⟩ := u46
              obtain ⟨hP, hK9, hD⟩ := hB
              rw [ht] at hP
              have hD := hD.weaken (fun k q _ h => hFc q.1 h)
              generalize H1 = H at hP hS
              have hP : va_P (dC, dI) vwCl (rW h0 r cI cJ cZ v0 a1 (nI tp) (nI bs) (fun j => nI (cl j)) a5 a6 a7 (fun j => nI (fc j)) a9 (fun j => nI (mb j)) a11 a12 a13 a14 a15 a16 a17 a18 a19 a20 (nI az) v22 v23 v24 v25 v26 (nI bb) (fun j => nI (ct j)) (nI us) a30 a31 a32 a33 a34 a35 a36 a37 (fun j => nI (o41 j)) (fun j => nI (o42 j)) (nI o40) v41 (-1) o43 o44 o45) H := hP
              have hD : va_D A (rW h0 r cI cJ cZ v0 a1 (nI tp) (nI bs) (fun j => nI (cl j)) a5 a6 a7 (fun j => nI (fc j)) a9 (fun j => nI (mb j)) a11 a12 a13 a14 a15 a16 a17 a18 a19 a20 (nI az) v22 v23 v24 v25 v26 (nI bb) (fun j => nI (ct j)) (nI us) a30 a31 a32 a33 a34 a35 a36 a37 (fun j => nI (o41 j)) (fun j => nI (o42 j)) (nI o40) v41 (-1) o43 o44 o45) := hD
              have hw : (zM r39 (fun k => k < 960)) ∧ (∀ j, o41 j ≤ 15) ∧ (∀ j, o42 j ≤ 15) := hw
              obtain ⟨w0r39, hbo41, hbo42⟩ := hw
              refine va_put (D := (dC, dI)) (ci := 6) (v := .int r39) (ty := (.int)) (C := RX7) (T := TX7) (N := 46) hx hb hts hiX7 tyX7 tyX7_ok nmX7 hown hK hP hD hS 0 rfl rfl 42 (by decide) (hts (.fieldLink RX7 296 "LinkModelsModel" "linked" "I") (by decide +kernel)) (fun _ h9 => h9) rfl (by decide +kernel) rfl rfl (Nat.le_of_ble_eq_true rfl) dX7_links_317 (fun H locs hP hD hS => ?_)
              have hP : va_P (dC, dI) vwCl (rW h0 r cI cJ cZ v0 a1 (nI tp) (nI bs) (fun j => nI (cl j)) a5 a6 a7 (fun j => nI (fc j)) a9 (fun j => nI (mb j)) a11 a12 a13 a14 a15 a16 a17 a18 a19 a20 (nI az) v22 v23 v24 v25 v26 (nI bb) (fun j => nI (ct j)) (nI us) a30 a31 a32 a33 a34 a35 a36 a37 (fun j => nI (o41 j)) (fun j => nI (o42 j)) (nI o40) v41 r39 o43 o44 o45) H := hP
              have hD : va_D A (rW h0 r cI cJ cZ v0 a1 (nI tp) (nI bs) (fun j => nI (cl j)) a5 a6 a7 (fun j => nI (fc j)) a9 (fun j => nI (mb j)) a11 a12 a13 a14 a15 a16 a17 a18 a19 a20 (nI az) v22 v23 v24 v25 v26 (nI bb) (fun j => nI (ct j)) (nI us) a30 a31 a32 a33 a34 a35 a36 a37 (fun j => nI (o41 j)) (fun j => nI (o42 j)) (nI o40) v41 r39 o43 o44 o45) := hD
              refine lv_aload_n hx hb dX7_links_320 rfl (lv_at hl 4 rfl) ?_
              refine va_get (D := (dC, dI)) (ci := 6) (v := .int r39) (C := RX7) (T := TX7) (N := 46) hx hb hts hiX7 hown hK hP 0 rfl rfl 42 (by decide) (hts (.fieldLink RX7 296 "LinkModelsModel" "linked" "I") (by decide +kernel)) (fun _ h9 => h9) rfl dX7_links_321 ?_
              refine lv_if_ge (tgt := 330) hx hb dX7_links_324 (by decide) (fun cp324 => ?_) (fun cp324 => ?_)
              · obtain ⟨k47, hBk47, hQk47, rfl⟩ := zM.pos' w0r39 cp324
                refine lv_aload_n hx hb dX7_links_330 rfl (lv_at hl 4 rfl) ?_
                refine va_get (D := (dC, dI)) (ci := 6) (v := .ref (r 14)) (C := RX7) (T := TX7) (N := 46) hx hb hts hiX7 hown hK hP 0 rfl rfl 14 (by decide) (hts (.fieldLink RX7 48 "LinkModelsModel" "marks" "[I") (by decide +kernel)) (fun _ h9 => h9) rfl dX7_links_331 ?_
                refine lv_aload_n hx hb dX7_links_334 rfl (lv_at hl 4 rfl) ?_
                refine va_get (D := (dC, dI)) (ci := 6) (v := .int (nI k47)) (C := RX7) (T := TX7) (N := 46) hx hb hts hiX7 hown hK hP 0 rfl rfl 42 (by decide) (hts (.fieldLink RX7 296 "LinkModelsModel" "linked" "I") (by decide +kernel)) (fun _ h9 => h9) rfl dX7_links_335 ?_
                refine va_iald hx hb hK hP 12 0 rfl rfl (vp_in_nI (show k47 < 960 by omega) (by decide)) dX7_links_338 ?_
                refine lv_topi (fun x48 ex48 => ?_)
                obtain rfl : x48 = a14 k47 := by rw [ex48, nI_clamp (show k47 < 2 ^ 31 by omega)]
                refine lv_iconst (v := 2) hx hb dX7_links_339 (by decide) ?_
                refine lv_iand hx hb dX7_links_340 ?_
                refine lv_topi (fun x49 ex49 => ?_)
                refine lv_if_eq (tgt := 359) hx hb dX7_links_341 (by decide) (fun cp341 => ?_) (fun cp341 => ?_)
                · refine lv_aload_n hx hb dX7_links_359 rfl (lv_at hl 4 rfl) ?_
                  refine va_get (D := (dC, dI)) (ci := 6) (v := .ref (r 14)) (C := RX7) (T := TX7) (N := 46) hx hb hts hiX7 hown hK hP 0 rfl rfl 14 (by decide) (hts (.fieldLink RX7 48 "LinkModelsModel" "marks" "[I") (by decide +kernel)) (fun _ h9 => h9) rfl dX7_links_360 ?_
                  refine lv_aload_n hx hb dX7_links_363 rfl (lv_at hl 4 rfl) ?_
                  refine va_get (D := (dC, dI)) (ci := 6) (v := .int (nI k47)) (C := RX7) (T := TX7) (N := 46) hx hb hts hiX7 hown hK hP 0 rfl rfl 42 (by decide) (hts (.fieldLink RX7 296 "LinkModelsModel" "linked" "I") (by decide +kernel)) (fun _ h9 => h9) rfl dX7_links_364 ?_
                  refine va_iald hx hb hK hP 12 0 rfl rfl (vp_in_nI (show k47 < 960 by omega) (by decide)) dX7_links_367 ?_
                  refine lv_topi (fun x50 ex50 => ?_)
                  obtain rfl : x50 = a14 k47 := by rw [ex50, nI_clamp (show k47 < 2 ^ 31 by omega)]
                  refine lv_iconst (v := 1) hx hb dX7_links_368 (by decide) ?_
                  refine lv_iand hx hb dX7_links_369 ?_
                  refine lv_topi (fun x51 ex51 => ?_)
                  refine lv_if_eq (tgt := 377) hx hb dX7_links_370 (by decide) (fun cp370 => ?_) (fun cp370 => ?_)
                  · refine lv_iconst (v := 0) hx hb dX7_links_377 (by decide) ?_
                    refine lv_iload hx hb dX7_links_378 (lv_at hl 0 rfl) ?_
                    refine lv_iconst (v := 5) hx hb dX7_links_380 (by decide) ?_
                    refine lv_icmp_ne (tgt := 388) hx hb dX7_links_381 (by decide) (fun cp381 => ?_) (fun cp381 => ?_)
                    · refine lv_iconst (v := 0) hx hb dX7_links_388 (by decide) ?_
                      refine lv_icmp_eq (tgt := 394) hx hb dX7_links_389 (by decide) (fun _ => ?_) (fun c9 => absurd (by decide) c9)
                      refine lv_iload hx hb dX7_links_394 (lv_at hl 0 rfl) ?_
                      refine lv_bipush (v := 6) hx hb dX7_links_396 (by decide) ?_
                      refine lv_icmp_ne (tgt := 421) hx hb dX7_links_398 (by decide) (fun cp398 => ?_) (fun cp398 => ?_)
                      · refine lv_iconst (v := 0) hx hb dX7_links_421 (by decide) ?_
                        have hP9 : va_P (dC, dI) vwCl (rW h0 r cI cJ cZ v0 a1 (nI tp) (nI bs) (fun j => nI (cl j)) a5 a6 a7 (fun j => nI (fc j)) a9 (fun j => nI (mb j)) a11 a12 a13 a14 a15 a16 a17 a18 a19 a20 (nI az) v22 v23 v24 v25 v26 (nI bb) (fun j => nI (ct j)) (nI us) a30 a31 a32 a33 a34 a35 a36 a37 (fun j => nI (o41 j)) (fun j => nI (o42 j)) (nI o40) v41 (nI k47) o43 o44 o45) H := hP
                        have hD9 : va_D A (rW h0 r cI cJ cZ v0 a1 (nI tp) (nI bs) (fun j => nI (cl j)) a5 a6 a7 (fun j => nI (fc j)) a9 (fun j => nI (mb j)) a11 a12 a13 a14 a15 a16 a17 a18 a19 a20 (nI az) v22 v23 v24 v25 v26 (nI bb) (fun j => nI (ct j)) (nI us) a30 a31 a32 a33 a34 a35 a36 a37 (fun j => nI (o41 j)) (fun j => nI (o42 j)) (nI o40) v41 (nI k47) o43 o44 o45) := hD
                        exact W.iret (v := (0 : Int32)) hx hb hr (fun t ht hW => ⟨⟨(0 : Int32), (o40, o41, o42, o43, o44, o45, (nI k47)), rfl, ⟨(by exact (zM.mk (by omega) (by first | trivial | omega | assumption | (refine ⟨?_, ?_⟩ <;> first | trivial | omega | assumption)))), (by exact Or.inr (Or.inr ⟨k47, by omega, rfl⟩)), (by intro h9; exact absurd h9 (Int32.not_lt.mpr cp98)), hbo41, hbo42⟩, by rw [ht]; exact hP9, va_K.moved hW.alike hK, hD9⟩, hS.F ht⟩) hS.2.2 dX7_links_422
                      · refine lv_aload_n hx hb dX7_links_401 rfl (lv_at hl 4 rfl) ?_
                        refine va_get (D := (dC, dI)) (ci := 6) (v := .ref (r 14)) (C := RX7) (T := TX7) (N := 46) hx hb hts hiX7 hown hK hP 0 rfl rfl 14 (by decide) (hts (.fieldLink RX7 48 "LinkModelsModel" "marks" "[I") (by decide +kernel)) (fun _ h9 => h9) rfl dX7_links_402 ?_
                        refine lv_aload_n hx hb dX7_links_405 rfl (lv_at hl 4 rfl) ?_
                        refine va_get (D := (dC, dI)) (ci := 6) (v := .int (nI k47)) (C := RX7) (T := TX7) (N := 46) hx hb hts hiX7 hown hK hP 0 rfl rfl 42 (by decide) (hts (.fieldLink RX7 296 "LinkModelsModel" "linked" "I") (by decide +kernel)) (fun _ h9 => h9) rfl dX7_links_406 ?_
                        refine va_iald hx hb hK hP 12 0 rfl rfl (vp_in_nI (show k47 < 960 by omega) (by decide)) dX7_links_409 ?_
                        refine lv_topi (fun x52 ex52 => ?_)
                        obtain rfl : x52 = a14 k47 := by rw [ex52, nI_clamp (show k47 < 2 ^ 31 by omega)]
                        refine lv_bipush (v := 8) hx hb dX7_links_410 (by decide) ?_
                        refine lv_iand hx hb dX7_links_412 ?_
                        refine lv_topi (fun x53 ex53 => ?_)
                        refine lv_if_eq (tgt := 421) hx hb dX7_links_413 (by decide) (fun cp413 => ?_) (fun cp413 => ?_)
                        · refine lv_iconst (v := 0) hx hb dX7_links_421 (by decide) ?_
                          have hP9 : va_P (dC, dI) vwCl (rW h0 r cI cJ cZ v0 a1 (nI tp) (nI bs) (fun j => nI (cl j)) a5 a6 a7 (fun j => nI (fc j)) a9 (fun j => nI (mb j)) a11 a12 a13 a14 a15 a16 a17 a18 a19 a20 (nI az) v22 v23 v24 v25 v26 (nI bb) (fun j => nI (ct j)) (nI us) a30 a31 a32 a33 a34 a35 a36 a37 (fun j => nI (o41 j)) (fun j => nI (o42 j)) (nI o40) v41 (nI k47) o43 o44 o45) H := hP
                          have hD9 : va_D A (rW h0 r cI cJ cZ v0 a1 (nI tp) (nI bs) (fun j => nI (cl j)) a5 a6 a7 (fun j => nI (fc j)) a9 (fun j => nI (mb j)) a11 a12 a13 a14 a15 a16 a17 a18 a19 a20 (nI az) v22 v23 v24 v25 v26 (nI bb) (fun j => nI (ct j)) (nI us) a30 a31 a32 a33 a34 a35 a36 a37 (fun j => nI (o41 j)) (fun j => nI (o42 j)) (nI o40) v41 (nI k47) o43 o44 o45) := hD
                          exact W.iret (v := (0 : Int32)) hx hb hr (fun t ht hW => ⟨⟨(0 : Int32), (o40, o41, o42, o43, o44, o45, (nI k47)), rfl, ⟨(by exact (zM.mk (by omega) (by first | trivial | omega | assumption | (refine ⟨?_, ?_⟩ <;> first | trivial | omega | assumption)))), (by exact Or.inr (Or.inr ⟨k47, by omega, rfl⟩)), (by intro h9; exact absurd h9 (Int32.not_lt.mpr cp98)), hbo41, hbo42⟩, by rw [ht]; exact hP9, va_K.moved hW.alike hK, hD9⟩, hS.F ht⟩) hS.2.2 dX7_links_422
                        · refine lv_bipush (v := 10) hx hb dX7_links_416 (by decide) ?_
                          refine lv_goto (tgt := 422) hx hb dX7_links_418 (by decide) ?_
                          have hP9 : va_P (dC, dI) vwCl (rW h0 r cI cJ cZ v0 a1 (nI tp) (nI bs) (fun j => nI (cl j)) a5 a6 a7 (fun j => nI (fc j)) a9 (fun j => nI (mb j)) a11 a12 a13 a14 a15 a16 a17 a18 a19 a20 (nI az) v22 v23 v24 v25 v26 (nI bb) (fun j => nI (ct j)) (nI us) a30 a31 a32 a33 a34 a35 a36 a37 (fun j => nI (o41 j)) (fun j => nI (o42 j)) (nI o40) v41 (nI k47) o43 o44 o45) H := hP
                          have hD9 : va_D A (rW h0 r cI cJ cZ v0 a1 (nI tp) (nI bs) (fun j => nI (cl j)) a5 a6 a7 (fun j => nI (fc j)) a9 (fun j => nI (mb j)) a11 a12 a13 a14 a15 a16 a17 a18 a19 a20 (nI az) v22 v23 v24 v25 v26 (nI bb) (fun j => nI (ct j)) (nI us) a30 a31 a32 a33 a34 a35 a36 a37 (fun j => nI (o41 j)) (fun j => nI (o42 j)) (nI o40) v41 (nI k47) o43 o44 o45) := hD
                          exact W.iret (v := (10 : Int32)) hx hb hr (fun t ht hW => ⟨⟨(10 : Int32), (o40, o41, o42, o43, o44, o45, (nI k47)), rfl, ⟨(by exact (zM.mk (by omega) (by first | trivial | omega | assumption | (refine ⟨?_, ?_⟩ <;> first | trivial | omega | assumption)))), (by exact Or.inl (by decide)), (by first | (intro _; rfl) | (intro h9; exact absurd h9 (Int32.not_lt.mpr cp98))), hbo41, hbo42⟩, by rw [ht]; exact hP9, va_K.moved hW.alike hK, hD9⟩, hS.F ht⟩) hS.2.2 dX7_links_422
                    · refine lv_iconst (v := 1) hx hb dX7_links_384 (by decide) ?_
                      refine lv_goto (tgt := 389) hx hb dX7_links_385 (by decide) ?_
                      refine lv_icmp_eq (tgt := 394) hx hb dX7_links_389 (by decide) (fun c9 => absurd c9 (by decide)) (fun _ => ?_)
                      refine lv_iconst (v := 4) hx hb dX7_links_392 (by decide) ?_
                      have hP9 : va_P (dC, dI) vwCl (rW h0 r cI cJ cZ v0 a1 (nI tp) (nI bs) (fun j => nI (cl j)) a5 a6 a7 (fun j => nI (fc j)) a9 (fun j => nI (mb j)) a11 a12 a13 a14 a15 a16 a17 a18 a19 a20 (nI az) v22 v23 v24 v25 v26 (nI bb) (fun j => nI (ct j)) (nI us) a30 a31 a32 a33 a34 a35 a36 a37 (fun j => nI (o41 j)) (fun j => nI (o42 j)) (nI o40) v41 (nI k47) o43 o44 o45) H := hP
                      have hD9 : va_D A (rW h0 r cI cJ cZ v0 a1 (nI tp) (nI bs) (fun j => nI (cl j)) a5 a6 a7 (fun j => nI (fc j)) a9 (fun j => nI (mb j)) a11 a12 a13 a14 a15 a16 a17 a18 a19 a20 (nI az) v22 v23 v24 v25 v26 (nI bb) (fun j => nI (ct j)) (nI us) a30 a31 a32 a33 a34 a35 a36 a37 (fun j => nI (o41 j)) (fun j => nI (o42 j)) (nI o40) v41 (nI k47) o43 o44 o45) := hD
                      exact W.iret (v := (4 : Int32)) hx hb hr (fun t ht hW => ⟨⟨(4 : Int32), (o40, o41, o42, o43, o44, o45, (nI k47)), rfl, ⟨(by exact (zM.mk (by omega) (by first | trivial | omega | assumption | (refine ⟨?_, ?_⟩ <;> first | trivial | omega | assumption)))), (by exact Or.inl (by decide)), (by first | (intro _; rfl) | (intro h9; exact absurd h9 (Int32.not_lt.mpr cp98))), hbo41, hbo42⟩, by rw [ht]; exact hP9, va_K.moved hW.alike hK, hD9⟩, hS.F ht⟩) hS.2.2 dX7_links_393
                  · refine lv_iconst (v := 1) hx hb dX7_links_373 (by decide) ?_
                    refine lv_goto (tgt := 378) hx hb dX7_links_374 (by decide) ?_
                    refine lv_iload hx hb dX7_links_378 (lv_at hl 0 rfl) ?_
                    refine lv_iconst (v := 5) hx hb dX7_links_380 (by decide) ?_
                    refine lv_icmp_ne (tgt := 388) hx hb dX7_links_381 (by decide) (fun cp381 => ?_) (fun cp381 => ?_)
                    · refine lv_iconst (v := 0) hx hb dX7_links_388 (by decide) ?_
                      refine lv_icmp_eq (tgt := 394) hx hb dX7_links_389 (by decide) (fun c9 => absurd c9 (by decide)) (fun _ => ?_)
                      refine lv_iconst (v := 4) hx hb dX7_links_392 (by decide) ?_
                      have hP9 : va_P (dC, dI) vwCl (rW h0 r cI cJ cZ v0 a1 (nI tp) (nI bs) (fun j => nI (cl j)) a5 a6 a7 (fun j => nI (fc j)) a9 (fun j => nI (mb j)) a11 a12 a13 a14 a15 a16 a17 a18 a19 a20 (nI az) v22 v23 v24 v25 v26 (nI bb) (fun j => nI (ct j)) (nI us) a30 a31 a32 a33 a34 a35 a36 a37 (fun j => nI (o41 j)) (fun j => nI (o42 j)) (nI o40) v41 (nI k47) o43 o44 o45) H := hP
                      have hD9 : va_D A (rW h0 r cI cJ cZ v0 a1 (nI tp) (nI bs) (fun j => nI (cl j)) a5 a6 a7 (fun j => nI (fc j)) a9 (fun j => nI (mb j)) a11 a12 a13 a14 a15 a16 a17 a18 a19 a20 (nI az) v22 v23 v24 v25 v26 (nI bb) (fun j => nI (ct j)) (nI us) a30 a31 a32 a33 a34 a35 a36 a37 (fun j => nI (o41 j)) (fun j => nI (o42 j)) (nI o40) v41 (nI k47) o43 o44 o45) := hD
                      exact W.iret (v := (4 : Int32)) hx hb hr (fun t ht hW => ⟨⟨(4 : Int32), (o40, o41, o42, o43, o44, o45, (nI k47)), rfl, ⟨(by exact (zM.mk (by omega) (by first | trivial | omega | assumption | (refine ⟨?_, ?_⟩ <;> first | trivial | omega | assumption)))), (by exact Or.inl (by decide)), (by first | (intro _; rfl) | (intro h9; exact absurd h9 (Int32.not_lt.mpr cp98))), hbo41, hbo42⟩, by rw [ht]; exact hP9, va_K.moved hW.alike hK, hD9⟩, hS.F ht⟩) hS.2.2 dX7_links_393
                    · refine lv_iconst (v := 1) hx hb dX7_links_384 (by decide) ?_
                      refine lv_goto (tgt := 389) hx hb dX7_links_385 (by decide) ?_
                      refine lv_icmp_eq (tgt := 394) hx hb dX7_links_389 (by decide) (fun _ => ?_) (fun c9 => absurd (by decide) c9)
                      refine lv_iload hx hb dX7_links_394 (lv_at hl 0 rfl) ?_
                      refine lv_bipush (v := 6) hx hb dX7_links_396 (by decide) ?_
                      refine lv_icmp_ne (tgt := 421) hx hb dX7_links_398 (by decide) (fun cp398 => ?_) (fun cp398 => ?_)
                      · refine lv_iconst (v := 0) hx hb dX7_links_421 (by decide) ?_
                        have hP9 : va_P (dC, dI) vwCl (rW h0 r cI cJ cZ v0 a1 (nI tp) (nI bs) (fun j => nI (cl j)) a5 a6 a7 (fun j => nI (fc j)) a9 (fun j => nI (mb j)) a11 a12 a13 a14 a15 a16 a17 a18 a19 a20 (nI az) v22 v23 v24 v25 v26 (nI bb) (fun j => nI (ct j)) (nI us) a30 a31 a32 a33 a34 a35 a36 a37 (fun j => nI (o41 j)) (fun j => nI (o42 j)) (nI o40) v41 (nI k47) o43 o44 o45) H := hP
                        have hD9 : va_D A (rW h0 r cI cJ cZ v0 a1 (nI tp) (nI bs) (fun j => nI (cl j)) a5 a6 a7 (fun j => nI (fc j)) a9 (fun j => nI (mb j)) a11 a12 a13 a14 a15 a16 a17 a18 a19 a20 (nI az) v22 v23 v24 v25 v26 (nI bb) (fun j => nI (ct j)) (nI us) a30 a31 a32 a33 a34 a35 a36 a37 (fun j => nI (o41 j)) (fun j => nI (o42 j)) (nI o40) v41 (nI k47) o43 o44 o45) := hD
                        exact W.iret (v := (0 : Int32)) hx hb hr (fun t ht hW => ⟨⟨(0 : Int32), (o40, o41, o42, o43, o44, o45, (nI k47)), rfl, ⟨(by exact (zM.mk (by omega) (by first | trivial | omega | assumption | (refine ⟨?_, ?_⟩ <;> first | trivial | omega | assumption)))), (by exact Or.inr (Or.inr ⟨k47, by omega, rfl⟩)), (by intro h9; exact absurd h9 (Int32.not_lt.mpr cp98)), hbo41, hbo42⟩, by rw [ht]; exact hP9, va_K.moved hW.alike hK, hD9⟩, hS.F ht⟩) hS.2.2 dX7_links_422
                      · refine lv_aload_n hx hb dX7_links_401 rfl (lv_at hl 4 rfl) ?_
                        refine va_get (D := (dC, dI)) (ci := 6) (v := .ref (r 14)) (C := RX7) (T := TX7) (N := 46) hx hb hts hiX7 hown hK hP 0 rfl rfl 14 (by decide) (hts (.fieldLink RX7 48 "LinkModelsModel" "marks" "[I") (by decide +kernel)) (fun _ h9 => h9) rfl dX7_links_402 ?_
                        refine lv_aload_n hx hb dX7_links_405 rfl (lv_at hl 4 rfl) ?_
                        refine va_get (D := (dC, dI)) (ci := 6) (v := .int (nI k47)) (C := RX7) (T := TX7) (N := 46) hx hb hts hiX7 hown hK hP 0 rfl rfl 42 (by decide) (hts (.fieldLink RX7 296 "LinkModelsModel" "linked" "I") (by decide +kernel)) (fun _ h9 => h9) rfl dX7_links_406 ?_
                        refine va_iald hx hb hK hP 12 0 rfl rfl (vp_in_nI (show k47 < 960 by omega) (by decide)) dX7_links_409 ?_
                        refine lv_topi (fun x54 ex54 => ?_)
                        obtain rfl : x54 = a14 k47 := by rw [ex54, nI_clamp (show k47 < 2 ^ 31 by omega)]
                        refine lv_bipush (v := 8) hx hb dX7_links_410 (by decide) ?_
                        refine lv_iand hx hb dX7_links_412 ?_
                        refine lv_topi (fun x55 ex55 => ?_)
                        refine lv_if_eq (tgt := 421) hx hb dX7_links_413 (by decide) (fun cp413 => ?_) (fun cp413 => ?_)
                        · refine lv_iconst (v := 0) hx hb dX7_links_421 (by decide) ?_
                          have hP9 : va_P (dC, dI) vwCl (rW h0 r cI cJ cZ v0 a1 (nI tp) (nI bs) (fun j => nI (cl j)) a5 a6 a7 (fun j => nI (fc j)) a9 (fun j => nI (mb j)) a11 a12 a13 a14 a15 a16 a17 a18 a19 a20 (nI az) v22 v23 v24 v25 v26 (nI bb) (fun j => nI (ct j)) (nI us) a30 a31 a32 a33 a34 a35 a36 a37 (fun j => nI (o41 j)) (fun j => nI (o42 j)) (nI o40) v41 (nI k47) o43 o44 o45) H := hP
                          have hD9 : va_D A (rW h0 r cI cJ cZ v0 a1 (nI tp) (nI bs) (fun j => nI (cl j)) a5 a6 a7 (fun j => nI (fc j)) a9 (fun j => nI (mb j)) a11 a12 a13 a14 a15 a16 a17 a18 a19 a20 (nI az) v22 v23 v24 v25 v26 (nI bb) (fun j => nI (ct j)) (nI us) a30 a31 a32 a33 a34 a35 a36 a37 (fun j => nI (o41 j)) (fun j => nI (o42 j)) (nI o40) v41 (nI k47) o43 o44 o45) := hD
                          exact W.iret (v := (0 : Int32)) hx hb hr (fun t ht hW => ⟨⟨(0 : Int32), (o40, o41, o42, o43, o44, o45, (nI k47)), rfl, ⟨(by exact (zM.mk (by omega) (by first | trivial | omega | assumption | (refine ⟨?_, ?_⟩ <;> first | trivial | omega | assumption)))), (by exact Or.inr (Or.inr ⟨k47, by omega, rfl⟩)), (by intro h9; exact absurd h9 (Int32.not_lt.mpr cp98)), hbo41, hbo42⟩, by rw [ht]; exact hP9, va_K.moved hW.alike hK, hD9⟩, hS.F ht⟩) hS.2.2 dX7_links_422
                        · refine lv_bipush (v := 10) hx hb dX7_links_416 (by decide) ?_
                          refine lv_goto (tgt := 422) hx hb dX7_links_418 (by decide) ?_
                          have hP9 : va_P (dC, dI) vwCl (rW h0 r cI cJ cZ v0 a1 (nI tp) (nI bs) (fun j => nI (cl j)) a5 a6 a7 (fun j => nI (fc j)) a9 (fun j => nI (mb j)) a11 a12 a13 a14 a15 a16 a17 a18 a19 a20 (nI az) v22 v23 v24 v25 v26 (nI bb) (fun j => nI (ct j)) (nI us) a30 a31 a32 a33 a34 a35 a36 a37 (fun j => nI (o41 j)) (fun j => nI (o42 j)) (nI o40) v41 (nI k47) o43 o44 o45) H := hP
                          have hD9 : va_D A (rW h0 r cI cJ cZ v0 a1 (nI tp) (nI bs) (fun j => nI (cl j)) a5 a6 a7 (fun j => nI (fc j)) a9 (fun j => nI (mb j)) a11 a12 a13 a14 a15 a16 a17 a18 a19 a20 (nI az) v22 v23 v24 v25 v26 (nI bb) (fun j => nI (ct j)) (nI us) a30 a31 a32 a33 a34 a35 a36 a37 (fun j => nI (o41 j)) (fun j => nI (o42 j)) (nI o40) v41 (nI k47) o43 o44 o45) := hD
                          exact W.iret (v := (10 : Int32)) hx hb hr (fun t ht hW => ⟨⟨(10 : Int32), (o40, o41, o42, o43, o44, o45, (nI k47)), rfl, ⟨(by exact (zM.mk (by omega) (by first | trivial | omega | assumption | (refine ⟨?_, ?_⟩ <;> first | trivial | omega | assumption)))), (by exact Or.inl (by decide)), (by first | (intro _; rfl) | (intro h9; exact absurd h9 (Int32.not_lt.mpr cp98))), hbo41, hbo42⟩, by rw [ht]; exact hP9, va_K.moved hW.alike hK, hD9⟩, hS.F ht⟩) hS.2.2 dX7_links_422
                · refine lv_aload_n hx hb dX7_links_344 rfl (lv_at hl 4 rfl) ?_
                  refine va_get (D := (dC, dI)) (ci := 6) (v := .int (nI k47)) (C := RX7) (T := TX7) (N := 46) hx hb hts hiX7 hown hK hP 0 rfl rfl 42 (by decide) (hts (.fieldLink RX7 296 "LinkModelsModel" "linked" "I") (by decide +kernel)) (fun _ h9 => h9) rfl dX7_links_345 ?_
                  refine lv_bipush (v := 12) hx hb dX7_links_348 (by decide) ?_
                  refine lv_idiv (x := nI k47) (y := nI 12) hx hb dX7_links_350 (nI_ne0 (show 0 < 12 by omega) (show 12 < 2 ^ 31 by omega)) ?_
                  refine lv_topi (fun x56 ex56 => ?_)
                  obtain rfl : x56 = nI (k47 / 12) := by rw [ex56]; exact pk_div (show k47 < 2 ^ 31 by omega) (show 0 < 12 by omega) (show 12 < 2 ^ 31 by omega)
                  refine lv_iload hx hb dX7_links_351 (lv_at hl 1 rfl) ?_
                  refine lv_icmp_eq (tgt := 359) hx hb dX7_links_353 (by decide) (fun cp353 => ?_) (fun cp353 => ?_)
                  · have qcp353 : (k47 / 12) = ((16 * bd) + c9) := (nI_eq (a := k47 / 12) (b := (16 * bd) + c9) (by omega) (by omega)).mp cp353
                    refine lv_aload_n hx hb dX7_links_359 rfl (lv_at hl 4 rfl) ?_
                    refine va_get (D := (dC, dI)) (ci := 6) (v := .ref (r 14)) (C := RX7) (T := TX7) (N := 46) hx hb hts hiX7 hown hK hP 0 rfl rfl 14 (by decide) (hts (.fieldLink RX7 48 "LinkModelsModel" "marks" "[I") (by decide +kernel)) (fun _ h9 => h9) rfl dX7_links_360 ?_
                    refine lv_aload_n hx hb dX7_links_363 rfl (lv_at hl 4 rfl) ?_
                    refine va_get (D := (dC, dI)) (ci := 6) (v := .int (nI k47)) (C := RX7) (T := TX7) (N := 46) hx hb hts hiX7 hown hK hP 0 rfl rfl 42 (by decide) (hts (.fieldLink RX7 296 "LinkModelsModel" "linked" "I") (by decide +kernel)) (fun _ h9 => h9) rfl dX7_links_364 ?_
                    refine va_iald hx hb hK hP 12 0 rfl rfl (vp_in_nI (show k47 < 960 by omega) (by decide)) dX7_links_367 ?_
                    refine lv_topi (fun x57 ex57 => ?_)
                    obtain rfl : x57 = a14 k47 := by rw [ex57, nI_clamp (show k47 < 2 ^ 31 by omega)]
                    refine lv_iconst (v := 1) hx hb dX7_links_368 (by decide) ?_
                    refine lv_iand hx hb dX7_links_369 ?_
                    refine lv_topi (fun x58 ex58 => ?_)
                    refine lv_if_eq (tgt := 377) hx hb dX7_links_370 (by decide) (fun cp370 => ?_) (fun cp370 => ?_)
                    · refine lv_iconst (v := 0) hx hb dX7_links_377 (by decide) ?_
                      refine lv_iload hx hb dX7_links_378 (lv_at hl 0 rfl) ?_
                      refine lv_iconst (v := 5) hx hb dX7_links_380 (by decide) ?_
                      refine lv_icmp_ne (tgt := 388) hx hb dX7_links_381 (by decide) (fun cp381 => ?_) (fun cp381 => ?_)
                      · refine lv_iconst (v := 0) hx hb dX7_links_388 (by decide) ?_
                        refine lv_icmp_eq (tgt := 394) hx hb dX7_links_389 (by decide) (fun _ => ?_) (fun c9 => absurd (by decide) c9)
                        refine lv_iload hx hb dX7_links_394 (lv_at hl 0 rfl) ?_
                        refine lv_bipush (v := 6) hx hb dX7_links_396 (by decide) ?_
                        refine lv_icmp_ne (tgt := 421) hx hb dX7_links_398 (by decide) (fun cp398 => ?_) (fun cp398 => ?_)
                        · refine lv_iconst (v := 0) hx hb dX7_links_421 (by decide) ?_
                          have hP9 : va_P (dC, dI) vwCl (rW h0 r cI cJ cZ v0 a1 (nI tp) (nI bs) (fun j => nI (cl j)) a5 a6 a7 (fun j => nI (fc j)) a9 (fun j => nI (mb j)) a11 a12 a13 a14 a15 a16 a17 a18 a19 a20 (nI az) v22 v23 v24 v25 v26 (nI bb) (fun j => nI (ct j)) (nI us) a30 a31 a32 a33 a34 a35 a36 a37 (fun j => nI (o41 j)) (fun j => nI (o42 j)) (nI o40) v41 (nI k47) o43 o44 o45) H := hP
                          have hD9 : va_D A (rW h0 r cI cJ cZ v0 a1 (nI tp) (nI bs) (fun j => nI (cl j)) a5 a6 a7 (fun j => nI (fc j)) a9 (fun j => nI (mb j)) a11 a12 a13 a14 a15 a16 a17 a18 a19 a20 (nI az) v22 v23 v24 v25 v26 (nI bb) (fun j => nI (ct j)) (nI us) a30 a31 a32 a33 a34 a35 a36 a37 (fun j => nI (o41 j)) (fun j => nI (o42 j)) (nI o40) v41 (nI k47) o43 o44 o45) := hD
                          exact W.iret (v := (0 : Int32)) hx hb hr (fun t ht hW => ⟨⟨(0 : Int32), (o40, o41, o42, o43, o44, o45, (nI k47)), rfl, ⟨(by exact (zM.mk (by omega) (by first | trivial | omega | assumption | (refine ⟨?_, ?_⟩ <;> first | trivial | omega | assumption)))), (by exact Or.inr (Or.inr ⟨k47, by omega, rfl⟩)), (by intro h9; exact absurd h9 (Int32.not_lt.mpr cp98)), hbo41, hbo42⟩, by rw [ht]; exact hP9, va_K.moved hW.alike hK, hD9⟩, hS.F ht⟩) hS.2.2 dX7_links_422
                        · refine lv_aload_n hx hb dX7_links_401 rfl (lv_at hl 4 rfl) ?_
                          refine va_get (D := (dC, dI)) (ci := 6) (v := .ref (r 14)) (C := RX7) (T := TX7) (N := 46) hx hb hts hiX7 hown hK hP 0 rfl rfl 14 (by decide) (hts (.fieldLink RX7 48 "LinkModelsModel" "marks" "[I") (by decide +kernel)) (fun _ h9 => h9) rfl dX7_links_402 ?_
                          refine lv_aload_n hx hb dX7_links_405 rfl (lv_at hl 4 rfl) ?_
                          refine va_get (D := (dC, dI)) (ci := 6) (v := .int (nI k47)) (C := RX7) (T := TX7) (N := 46) hx hb hts hiX7 hown hK hP 0 rfl rfl 42 (by decide) (hts (.fieldLink RX7 296 "LinkModelsModel" "linked" "I") (by decide +kernel)) (fun _ h9 => h9) rfl dX7_links_406 ?_
                          refine va_iald hx hb hK hP 12 0 rfl rfl (vp_in_nI (show k47 < 960 by omega) (by decide)) dX7_links_409 ?_
                          refine lv_topi (fun x59 ex59 => ?_)
                          obtain rfl : x59 = a14 k47 := by rw [ex59, nI_clamp (show k47 < 2 ^ 31 by omega)]
                          refine lv_bipush (v := 8) hx hb dX7_links_410 (by decide) ?_
                          refine lv_iand hx hb dX7_links_412 ?_
                          refine lv_topi (fun x60 ex60 => ?_)
                          refine lv_if_eq (tgt := 421) hx hb dX7_links_413 (by decide) (fun cp413 => ?_) (fun cp413 => ?_)
                          · refine lv_iconst (v := 0) hx hb dX7_links_421 (by decide) ?_
                            have hP9 : va_P (dC, dI) vwCl (rW h0 r cI cJ cZ v0 a1 (nI tp) (nI bs) (fun j => nI (cl j)) a5 a6 a7 (fun j => nI (fc j)) a9 (fun j => nI (mb j)) a11 a12 a13 a14 a15 a16 a17 a18 a19 a20 (nI az) v22 v23 v24 v25 v26 (nI bb) (fun j => nI (ct j)) (nI us) a30 a31 a32 a33 a34 a35 a36 a37 (fun j => nI (o41 j)) (fun j => nI (o42 j)) (nI o40) v41 (nI k47) o43 o44 o45) H := hP
                            have hD9 : va_D A (rW h0 r cI cJ cZ v0 a1 (nI tp) (nI bs) (fun j => nI (cl j)) a5 a6 a7 (fun j => nI (fc j)) a9 (fun j => nI (mb j)) a11 a12 a13 a14 a15 a16 a17 a18 a19 a20 (nI az) v22 v23 v24 v25 v26 (nI bb) (fun j => nI (ct j)) (nI us) a30 a31 a32 a33 a34 a35 a36 a37 (fun j => nI (o41 j)) (fun j => nI (o42 j)) (nI o40) v41 (nI k47) o43 o44 o45) := hD
                            exact W.iret (v := (0 : Int32)) hx hb hr (fun t ht hW => ⟨⟨(0 : Int32), (o40, o41, o42, o43, o44, o45, (nI k47)), rfl, ⟨(by exact (zM.mk (by omega) (by first | trivial | omega | assumption | (refine ⟨?_, ?_⟩ <;> first | trivial | omega | assumption)))), (by exact Or.inr (Or.inr ⟨k47, by omega, rfl⟩)), (by intro h9; exact absurd h9 (Int32.not_lt.mpr cp98)), hbo41, hbo42⟩, by rw [ht]; exact hP9, va_K.moved hW.alike hK, hD9⟩, hS.F ht⟩) hS.2.2 dX7_links_422
                          · refine lv_bipush (v := 10) hx hb dX7_links_416 (by decide) ?_
                            refine lv_goto (tgt := 422) hx hb dX7_links_418 (by decide) ?_
                            have hP9 : va_P (dC, dI) vwCl (rW h0 r cI cJ cZ v0 a1 (nI tp) (nI bs) (fun j => nI (cl j)) a5 a6 a7 (fun j => nI (fc j)) a9 (fun j => nI (mb j)) a11 a12 a13 a14 a15 a16 a17 a18 a19 a20 (nI az) v22 v23 v24 v25 v26 (nI bb) (fun j => nI (ct j)) (nI us) a30 a31 a32 a33 a34 a35 a36 a37 (fun j => nI (o41 j)) (fun j => nI (o42 j)) (nI o40) v41 (nI k47) o43 o44 o45) H := hP
                            have hD9 : va_D A (rW h0 r cI cJ cZ v0 a1 (nI tp) (nI bs) (fun j => nI (cl j)) a5 a6 a7 (fun j => nI (fc j)) a9 (fun j => nI (mb j)) a11 a12 a13 a14 a15 a16 a17 a18 a19 a20 (nI az) v22 v23 v24 v25 v26 (nI bb) (fun j => nI (ct j)) (nI us) a30 a31 a32 a33 a34 a35 a36 a37 (fun j => nI (o41 j)) (fun j => nI (o42 j)) (nI o40) v41 (nI k47) o43 o44 o45) := hD
                            exact W.iret (v := (10 : Int32)) hx hb hr (fun t ht hW => ⟨⟨(10 : Int32), (o40, o41, o42, o43, o44, o45, (nI k47)), rfl, ⟨(by exact (zM.mk (by omega) (by first | trivial | omega | assumption | (refine ⟨?_, ?_⟩ <;> first | trivial | omega | assumption)))), (by exact Or.inl (by decide)), (by first | (intro _; rfl) | (intro h9; exact absurd h9 (Int32.not_lt.mpr cp98))), hbo41, hbo42⟩, by rw [ht]; exact hP9, va_K.moved hW.alike hK, hD9⟩, hS.F ht⟩) hS.2.2 dX7_links_422
                      · refine lv_iconst (v := 1) hx hb dX7_links_384 (by decide) ?_
                        refine lv_goto (tgt := 389) hx hb dX7_links_385 (by decide) ?_
                        refine lv_icmp_eq (tgt := 394) hx hb dX7_links_389 (by decide) (fun c9 => absurd c9 (by decide)) (fun _ => ?_)
                        refine lv_iconst (v := 4) hx hb dX7_links_392 (by decide) ?_
                        have hP9 : va_P (dC, dI) vwCl (rW h0 r cI cJ cZ v0 a1 (nI tp) (nI bs) (fun j => nI (cl j)) a5 a6 a7 (fun j => nI (fc j)) a9 (fun j => nI (mb j)) a11 a12 a13 a14 a15 a16 a17 a18 a19 a20 (nI az) v22 v23 v24 v25 v26 (nI bb) (fun j => nI (ct j)) (nI us) a30 a31 a32 a33 a34 a35 a36 a37 (fun j => nI (o41 j)) (fun j => nI (o42 j)) (nI o40) v41 (nI k47) o43 o44 o45) H := hP
                        have hD9 : va_D A (rW h0 r cI cJ cZ v0 a1 (nI tp) (nI bs) (fun j => nI (cl j)) a5 a6 a7 (fun j => nI (fc j)) a9 (fun j => nI (mb j)) a11 a12 a13 a14 a15 a16 a17 a18 a19 a20 (nI az) v22 v23 v24 v25 v26 (nI bb) (fun j => nI (ct j)) (nI us) a30 a31 a32 a33 a34 a35 a36 a37 (fun j => nI (o41 j)) (fun j => nI (o42 j)) (nI o40) v41 (nI k47) o43 o44 o45) := hD
                        exact W.iret (v := (4 : Int32)) hx hb hr (fun t ht hW => ⟨⟨(4 : Int32), (o40, o41, o42, o43, o44, o45, (nI k47)), rfl, ⟨(by exact (zM.mk (by omega) (by first | trivial | omega | assumption | (refine ⟨?_, ?_⟩ <;> first | trivial | omega | assumption)))), (by exact Or.inl (by decide)), (by first | (intro _; rfl) | (intro h9; exact absurd h9 (Int32.not_lt.mpr cp98))), hbo41, hbo42⟩, by rw [ht]; exact hP9, va_K.moved hW.alike hK, hD9⟩, hS.F ht⟩) hS.2.2 dX7_links_393
                    · refine lv_iconst (v := 1) hx hb dX7_links_373 (by decide) ?_
                      refine lv_goto (tgt := 378) hx hb dX7_links_374 (by decide) ?_
                      refine lv_iload hx hb dX7_links_378 (lv_at hl 0 rfl) ?_
                      refine lv_iconst (v := 5) hx hb dX7_links_380 (by decide) ?_
                      refine lv_icmp_ne (tgt := 388) hx hb dX7_links_381 (by decide) (fun cp381 => ?_) (fun cp381 => ?_)
                      · refine lv_iconst (v := 0) hx hb dX7_links_388 (by decide) ?_
                        refine lv_icmp_eq (tgt := 394) hx hb dX7_links_389 (by decide) (fun c9 => absurd c9 (by decide)) (fun _ => ?_)
                        refine lv_iconst (v := 4) hx hb dX7_links_392 (by decide) ?_
                        have hP9 : va_P (dC, dI) vwCl (rW h0 r cI cJ cZ v0 a1 (nI tp) (nI bs) (fun j => nI (cl j)) a5 a6 a7 (fun j => nI (fc j)) a9 (fun j => nI (mb j)) a11 a12 a13 a14 a15 a16 a17 a18 a19 a20 (nI az) v22 v23 v24 v25 v26 (nI bb) (fun j => nI (ct j)) (nI us) a30 a31 a32 a33 a34 a35 a36 a37 (fun j => nI (o41 j)) (fun j => nI (o42 j)) (nI o40) v41 (nI k47) o43 o44 o45) H := hP
                        have hD9 : va_D A (rW h0 r cI cJ cZ v0 a1 (nI tp) (nI bs) (fun j => nI (cl j)) a5 a6 a7 (fun j => nI (fc j)) a9 (fun j => nI (mb j)) a11 a12 a13 a14 a15 a16 a17 a18 a19 a20 (nI az) v22 v23 v24 v25 v26 (nI bb) (fun j => nI (ct j)) (nI us) a30 a31 a32 a33 a34 a35 a36 a37 (fun j => nI (o41 j)) (fun j => nI (o42 j)) (nI o40) v41 (nI k47) o43 o44 o45) := hD
                        exact W.iret (v := (4 : Int32)) hx hb hr (fun t ht hW => ⟨⟨(4 : Int32), (o40, o41, o42, o43, o44, o45, (nI k47)), rfl, ⟨(by exact (zM.mk (by omega) (by first | trivial | omega | assumption | (refine ⟨?_, ?_⟩ <;> first | trivial | omega | assumption)))), (by exact Or.inl (by decide)), (by first | (intro _; rfl) | (intro h9; exact absurd h9 (Int32.not_lt.mpr cp98))), hbo41, hbo42⟩, by rw [ht]; exact hP9, va_K.moved hW.alike hK, hD9⟩, hS.F ht⟩) hS.2.2 dX7_links_393
                      · refine lv_iconst (v := 1) hx hb dX7_links_384 (by decide) ?_
                        refine lv_goto (tgt := 389) hx hb dX7_links_385 (by decide) ?_
                        refine lv_icmp_eq (tgt := 394) hx hb dX7_links_389 (by decide) (fun _ => ?_) (fun c9 => absurd (by decide) c9)
                        refine lv_iload hx hb dX7_links_394 (lv_at hl 0 rfl) ?_
                        refine lv_bipush (v := 6) hx hb dX7_links_396 (by decide) ?_
                        refine lv_icmp_ne (tgt := 421) hx hb dX7_links_398 (by decide) (fun cp398 => ?_) (fun cp398 => ?_)
                        · refine lv_iconst (v := 0) hx hb dX7_links_421 (by decide) ?_
                          have hP9 : va_P (dC, dI) vwCl (rW h0 r cI cJ cZ v0 a1 (nI tp) (nI bs) (fun j => nI (cl j)) a5 a6 a7 (fun j => nI (fc j)) a9 (fun j => nI (mb j)) a11 a12 a13 a14 a15 a16 a17 a18 a19 a20 (nI az) v22 v23 v24 v25 v26 (nI bb) (fun j => nI (ct j)) (nI us) a30 a31 a32 a33 a34 a35 a36 a37 (fun j => nI (o41 j)) (fun j => nI (o42 j)) (nI o40) v41 (nI k47) o43 o44 o45) H := hP
                          have hD9 : va_D A (rW h0 r cI cJ cZ v0 a1 (nI tp) (nI bs) (fun j => nI (cl j)) a5 a6 a7 (fun j => nI (fc j)) a9 (fun j => nI (mb j)) a11 a12 a13 a14 a15 a16 a17 a18 a19 a20 (nI az) v22 v23 v24 v25 v26 (nI bb) (fun j => nI (ct j)) (nI us) a30 a31 a32 a33 a34 a35 a36 a37 (fun j => nI (o41 j)) (fun j => nI (o42 j)) (nI o40) v41 (nI k47) o43 o44 o45) := hD
                          exact W.iret (v := (0 : Int32)) hx hb hr (fun t ht hW => ⟨⟨(0 : Int32), (o40, o41, o42, o43, o44, o45, (nI k47)), rfl, ⟨(by exact (zM.mk (by omega) (by first | trivial | omega | assumption | (refine ⟨?_, ?_⟩ <;> first | trivial | omega | assumption)))), (by exact Or.inr (Or.inr ⟨k47, by omega, rfl⟩)), (by intro h9; exact absurd h9 (Int32.not_lt.mpr cp98)), hbo41, hbo42⟩, by rw [ht]; exact hP9, va_K.moved hW.alike hK, hD9⟩, hS.F ht⟩) hS.2.2 dX7_links_422
                        · refine lv_aload_n hx hb dX7_links_401 rfl (lv_at hl 4 rfl) ?_
                          refine va_get (D := (dC, dI)) (ci := 6) (v := .ref (r 14)) (C := RX7) (T := TX7) (N := 46) hx hb hts hiX7 hown hK hP 0 rfl rfl 14 (by decide) (hts (.fieldLink RX7 48 "LinkModelsModel" "marks" "[I") (by decide +kernel)) (fun _ h9 => h9) rfl dX7_links_402 ?_
                          refine lv_aload_n hx hb dX7_links_405 rfl (lv_at hl 4 rfl) ?_
                          refine va_get (D := (dC, dI)) (ci := 6) (v := .int (nI k47)) (C := RX7) (T := TX7) (N := 46) hx hb hts hiX7 hown hK hP 0 rfl rfl 42 (by decide) (hts (.fieldLink RX7 296 "LinkModelsModel" "linked" "I") (by decide +kernel)) (fun _ h9 => h9) rfl dX7_links_406 ?_
                          refine va_iald hx hb hK hP 12 0 rfl rfl (vp_in_nI (show k47 < 960 by omega) (by decide)) dX7_links_409 ?_
                          refine lv_topi (fun x61 ex61 => ?_)
                          obtain rfl : x61 = a14 k47 := by rw [ex61, nI_clamp (show k47 < 2 ^ 31 by omega)]
                          refine lv_bipush (v := 8) hx hb dX7_links_410 (by decide) ?_
                          refine lv_iand hx hb dX7_links_412 ?_
                          refine lv_topi (fun x62 ex62 => ?_)
                          refine lv_if_eq (tgt := 421) hx hb dX7_links_413 (by decide) (fun cp413 => ?_) (fun cp413 => ?_)
                          · refine lv_iconst (v := 0) hx hb dX7_links_421 (by decide) ?_
                            have hP9 : va_P (dC, dI) vwCl (rW h0 r cI cJ cZ v0 a1 (nI tp) (nI bs) (fun j => nI (cl j)) a5 a6 a7 (fun j => nI (fc j)) a9 (fun j => nI (mb j)) a11 a12 a13 a14 a15 a16 a17 a18 a19 a20 (nI az) v22 v23 v24 v25 v26 (nI bb) (fun j => nI (ct j)) (nI us) a30 a31 a32 a33 a34 a35 a36 a37 (fun j => nI (o41 j)) (fun j => nI (o42 j)) (nI o40) v41 (nI k47) o43 o44 o45) H := hP
                            have hD9 : va_D A (rW h0 r cI cJ cZ v0 a1 (nI tp) (nI bs) (fun j => nI (cl j)) a5 a6 a7 (fun j => nI (fc j)) a9 (fun j => nI (mb j)) a11 a12 a13 a14 a15 a16 a17 a18 a19 a20 (nI az) v22 v23 v24 v25 v26 (nI bb) (fun j => nI (ct j)) (nI us) a30 a31 a32 a33 a34 a35 a36 a37 (fun j => nI (o41 j)) (fun j => nI (o42 j)) (nI o40) v41 (nI k47) o43 o44 o45) := hD
                            exact W.iret (v := (0 : Int32)) hx hb hr (fun t ht hW => ⟨⟨(0 : Int32), (o40, o41, o42, o43, o44, o45, (nI k47)), rfl, ⟨(by exact (zM.mk (by omega) (by first | trivial | omega | assumption | (refine ⟨?_, ?_⟩ <;> first | trivial | omega | assumption)))), (by exact Or.inr (Or.inr ⟨k47, by omega, rfl⟩)), (by intro h9; exact absurd h9 (Int32.not_lt.mpr cp98)), hbo41, hbo42⟩, by rw [ht]; exact hP9, va_K.moved hW.alike hK, hD9⟩, hS.F ht⟩) hS.2.2 dX7_links_422
                          · refine lv_bipush (v := 10) hx hb dX7_links_416 (by decide) ?_
                            refine lv_goto (tgt := 422) hx hb dX7_links_418 (by decide) ?_
                            have hP9 : va_P (dC, dI) vwCl (rW h0 r cI cJ cZ v0 a1 (nI tp) (nI bs) (fun j => nI (cl j)) a5 a6 a7 (fun j => nI (fc j)) a9 (fun j => nI (mb j)) a11 a12 a13 a14 a15 a16 a17 a18 a19 a20 (nI az) v22 v23 v24 v25 v26 (nI bb) (fun j => nI (ct j)) (nI us) a30 a31 a32 a33 a34 a35 a36 a37 (fun j => nI (o41 j)) (fun j => nI (o42 j)) (nI o40) v41 (nI k47) o43 o44 o45) H := hP
                            have hD9 : va_D A (rW h0 r cI cJ cZ v0 a1 (nI tp) (nI bs) (fun j => nI (cl j)) a5 a6 a7 (fun j => nI (fc j)) a9 (fun j => nI (mb j)) a11 a12 a13 a14 a15 a16 a17 a18 a19 a20 (nI az) v22 v23 v24 v25 v26 (nI bb) (fun j => nI (ct j)) (nI us) a30 a31 a32 a33 a34 a35 a36 a37 (fun j => nI (o41 j)) (fun j => nI (o42 j)) (nI o40) v41 (nI k47) o43 o44 o45) := hD
                            exact W.iret (v := (10 : Int32)) hx hb hr (fun t ht hW => ⟨⟨(10 : Int32), (o40, o41, o42, o43, o44, o45, (nI k47)), rfl, ⟨(by exact (zM.mk (by omega) (by first | trivial | omega | assumption | (refine ⟨?_, ?_⟩ <;> first | trivial | omega | assumption)))), (by exact Or.inl (by decide)), (by first | (intro _; rfl) | (intro h9; exact absurd h9 (Int32.not_lt.mpr cp98))), hbo41, hbo42⟩, by rw [ht]; exact hP9, va_K.moved hW.alike hK, hD9⟩, hS.F ht⟩) hS.2.2 dX7_links_422
                  · have qcp353 : ¬ (k47 / 12) = ((16 * bd) + c9) := fun h9 => cp353 ((nI_eq (a := k47 / 12) (b := (16 * bd) + c9) (by omega) (by omega)).mpr h9)
                    refine lv_bipush (v := 8) hx hb dX7_links_356 (by decide) ?_
                    have hP9 : va_P (dC, dI) vwCl (rW h0 r cI cJ cZ v0 a1 (nI tp) (nI bs) (fun j => nI (cl j)) a5 a6 a7 (fun j => nI (fc j)) a9 (fun j => nI (mb j)) a11 a12 a13 a14 a15 a16 a17 a18 a19 a20 (nI az) v22 v23 v24 v25 v26 (nI bb) (fun j => nI (ct j)) (nI us) a30 a31 a32 a33 a34 a35 a36 a37 (fun j => nI (o41 j)) (fun j => nI (o42 j)) (nI o40) v41 (nI k47) o43 o44 o45) H := hP
                    have hD9 : va_D A (rW h0 r cI cJ cZ v0 a1 (nI tp) (nI bs) (fun j => nI (cl j)) a5 a6 a7 (fun j => nI (fc j)) a9 (fun j => nI (mb j)) a11 a12 a13 a14 a15 a16 a17 a18 a19 a20 (nI az) v22 v23 v24 v25 v26 (nI bb) (fun j => nI (ct j)) (nI us) a30 a31 a32 a33 a34 a35 a36 a37 (fun j => nI (o41 j)) (fun j => nI (o42 j)) (nI o40) v41 (nI k47) o43 o44 o45) := hD
                    exact W.iret (v := (8 : Int32)) hx hb hr (fun t ht hW => ⟨⟨(8 : Int32), (o40, o41, o42, o43, o44, o45, (nI k47)), rfl, ⟨(by exact (zM.mk (by omega) (by first | trivial | omega | assumption | (refine ⟨?_, ?_⟩ <;> first | trivial | omega | assumption)))), (by exact Or.inl (by decide)), (by first | (intro _; rfl) | (intro h9; exact absurd h9 (Int32.not_lt.mpr cp98))), hbo41, hbo42⟩, by rw [ht]; exact hP9, va_K.moved hW.alike hK, hD9⟩, hS.F ht⟩) hS.2.2 dX7_links_358
              · obtain rfl : r39 = -1 := zM.neg' w0r39 cp324
                refine lv_bipush (v := 9) hx hb dX7_links_327 (by decide) ?_
                have hP9 : va_P (dC, dI) vwCl (rW h0 r cI cJ cZ v0 a1 (nI tp) (nI bs) (fun j => nI (cl j)) a5 a6 a7 (fun j => nI (fc j)) a9 (fun j => nI (mb j)) a11 a12 a13 a14 a15 a16 a17 a18 a19 a20 (nI az) v22 v23 v24 v25 v26 (nI bb) (fun j => nI (ct j)) (nI us) a30 a31 a32 a33 a34 a35 a36 a37 (fun j => nI (o41 j)) (fun j => nI (o42 j)) (nI o40) v41 (-1) o43 o44 o45) H := hP
                have hD9 : va_D A (rW h0 r cI cJ cZ v0 a1 (nI tp) (nI bs) (fun j => nI (cl j)) a5 a6 a7 (fun j => nI (fc j)) a9 (fun j => nI (mb j)) a11 a12 a13 a14 a15 a16 a17 a18 a19 a20 (nI az) v22 v23 v24 v25 v26 (nI bb) (fun j => nI (ct j)) (nI us) a30 a31 a32 a33 a34 a35 a36 a37 (fun j => nI (o41 j)) (fun j => nI (o42 j)) (nI o40) v41 (-1) o43 o44 o45) := hD
                exact W.iret (v := (9 : Int32)) hx hb hr (fun t ht hW => ⟨⟨(9 : Int32), (o40, o41, o42, o43, o44, o45, (-1)), rfl, ⟨(by exact (Or.inl rfl)), (by exact Or.inl (by decide)), (by first | (intro _; rfl) | (intro h9; exact absurd h9 (Int32.not_lt.mpr cp98))), hbo41, hbo42⟩, by rw [ht]; exact hP9, va_K.moved hW.alike hK, hD9⟩, hS.F ht⟩) hS.2.2 dX7_links_329
            · refine lv_goto (tgt := 306) hx hb dX7_links_296 (by decide) ?_
              refine lv_iconst (v := 4) hx hb dX7_links_306 (by decide) ?_
              have hP9 : va_P (dC, dI) vwCl (rW h0 r cI cJ cZ v0 a1 (nI tp) (nI bs) (fun j => nI (cl j)) a5 a6 a7 (fun j => nI (fc j)) a9 (fun j => nI (mb j)) a11 a12 a13 a14 a15 a16 a17 a18 a19 a20 (nI az) v22 v23 v24 v25 v26 (nI bb) (fun j => nI (ct j)) (nI us) a30 a31 a32 a33 a34 a35 a36 a37 (fun j => nI (pil j)) (fun j => nI (rwv j)) (nI rl) v41 (-1) v43 v44 v45) H := hP
              have hD9 : va_D A (rW h0 r cI cJ cZ v0 a1 (nI tp) (nI bs) (fun j => nI (cl j)) a5 a6 a7 (fun j => nI (fc j)) a9 (fun j => nI (mb j)) a11 a12 a13 a14 a15 a16 a17 a18 a19 a20 (nI az) v22 v23 v24 v25 v26 (nI bb) (fun j => nI (ct j)) (nI us) a30 a31 a32 a33 a34 a35 a36 a37 (fun j => nI (pil j)) (fun j => nI (rwv j)) (nI rl) v41 (-1) v43 v44 v45) := hD
              exact W.iret (v := (4 : Int32)) hx hb hr (fun t ht hW => ⟨⟨(4 : Int32), (rl, pil, rwv, v43, v44, v45, (-1)), rfl, ⟨(by exact (Or.inl rfl)), (by exact Or.inl (by decide)), (by first | (intro _; rfl) | (intro h9; exact absurd h9 (Int32.not_lt.mpr cp98))), hpil, hrwv⟩, by rw [ht]; exact hP9, va_K.moved hW.alike hK, hD9⟩, hS.F ht⟩) hS.2.2 dX7_links_307
        · refine lv_aload_n hx hb dX7_links_143 rfl (lv_at hl 4 rfl) ?_
          refine lv_aload_n hx hb dX7_links_144 rfl (lv_at hl 4 rfl) ?_
          refine lv_iload_n hx hb dX7_links_145 rfl (lv_at hl 5 rfl) ?_
          refine lv_iload hx hb dX7_links_146 (lv_at hl 2 rfl) ?_
          refine lv_iload_n hx hb dX7_links_148 rfl (lv_at hl 6 rfl) ?_
          have hFc := z_freeW hD hS hA
          refine va_calli (va_runV (As := [.int (nI bd), .int (nI ((16 * bd) + c8)), .int (nI uu)]) (rest := [.ref h0]) ⟨hx, hb, hml, hown, hts⟩ (kX7_findField l dC dI h0 r cI cJ cZ v0 a1 tp bs cl a5 a6 a7 fc a9 mb a11 a12 a13 a14 a15 a16 a17 a18 a19 a20 az v22 v23 v24 v25 v26 bb ct us a30 a31 a32 a33 a34 a35 a36 a37 pil rwv rl v41 (-1) v43 v44 v45 ⟨by omega, by omega, by omega, hcl, hfc, hmb, hct, hpil, hrwv⟩ rk bd ((16 * bd) + c8) uu (by first | omega | assumption | trivial) (by first | omega | assumption | trivial) (by exact hrk) (by exact zGd.mk hac8 hcc8) H.size) (cwV 3 hts zgX7_links_X7_findField_299 rfl rfl rfl (by decide +kernel) ⟨(show 2 + 1 ≤ 4 by omega), (show 8 + (7 + 11) + 50 ≤ 102 by omega)⟩) (zVm (ci := 6) (q0 := 0) (q := (RX7, TX7, 46)) hK hP hD hL hS.2.1 hFc rfl rfl rfl) rfl rfl hl.1 rfl (lv_room (Nat.le_of_ble_eq_true rfl)) dX7_links_149 ⟨(show 0 + 0 ≤ 0 by omega), (show 0 + 0 ≤ 0 by omega)⟩) hS (fun q _ h => hFc q h) hFc (fun r63 u67 t H1 locs ht hvm hw hB hz1 hk1 hS => ?_)
          obtain ⟨o64, o65, o66⟩ := u67
          obtain ⟨hP, hK9, hD⟩ := hB
          rw [ht] at hP
          have hD := hD.weaken (fun k q _ h => hFc q.1 h)
          generalize H1 = H at hP hS
          have hP : va_P (dC, dI) vwCl (rW h0 r cI cJ cZ v0 a1 (nI tp) (nI bs) (fun j => nI (cl j)) a5 a6 a7 (fun j => nI (fc j)) a9 (fun j => nI (mb j)) a11 a12 a13 a14 a15 a16 a17 a18 a19 a20 (nI az) v22 v23 v24 v25 v26 (nI bb) (fun j => nI (ct j)) (nI us) a30 a31 a32 a33 a34 a35 a36 a37 (fun j => nI (o65 j)) (fun j => nI (o66 j)) (nI o64) v41 (-1) v43 v44 v45) H := hP
          have hD : va_D A (rW h0 r cI cJ cZ v0 a1 (nI tp) (nI bs) (fun j => nI (cl j)) a5 a6 a7 (fun j => nI (fc j)) a9 (fun j => nI (mb j)) a11 a12 a13 a14 a15 a16 a17 a18 a19 a20 (nI az) v22 v23 v24 v25 v26 (nI bb) (fun j => nI (ct j)) (nI us) a30 a31 a32 a33 a34 a35 a36 a37 (fun j => nI (o65 j)) (fun j => nI (o66 j)) (nI o64) v41 (-1) v43 v44 v45) := hD
          have hw : (zM r63 (fun k => k < 960)) ∧ (∀ j, o65 j ≤ 15) ∧ (∀ j, o66 j ≤ 15) := hw
          obtain ⟨w0r63, hbo65, hbo66⟩ := hw
          refine va_put (D := (dC, dI)) (ci := 6) (v := .int r63) (ty := (.int)) (C := RX7) (T := TX7) (N := 46) hx hb hts hiX7 tyX7 tyX7_ok nmX7 hown hK hP hD hS 0 rfl rfl 42 (by decide) (hts (.fieldLink RX7 296 "LinkModelsModel" "linked" "I") (by decide +kernel)) (fun _ h9 => h9) rfl (by decide +kernel) rfl rfl (Nat.le_of_ble_eq_true rfl) dX7_links_152 (fun H locs hP hD hS => ?_)
          have hP : va_P (dC, dI) vwCl (rW h0 r cI cJ cZ v0 a1 (nI tp) (nI bs) (fun j => nI (cl j)) a5 a6 a7 (fun j => nI (fc j)) a9 (fun j => nI (mb j)) a11 a12 a13 a14 a15 a16 a17 a18 a19 a20 (nI az) v22 v23 v24 v25 v26 (nI bb) (fun j => nI (ct j)) (nI us) a30 a31 a32 a33 a34 a35 a36 a37 (fun j => nI (o65 j)) (fun j => nI (o66 j)) (nI o64) v41 r63 v43 v44 v45) H := hP
          have hD : va_D A (rW h0 r cI cJ cZ v0 a1 (nI tp) (nI bs) (fun j => nI (cl j)) a5 a6 a7 (fun j => nI (fc j)) a9 (fun j => nI (mb j)) a11 a12 a13 a14 a15 a16 a17 a18 a19 a20 (nI az) v22 v23 v24 v25 v26 (nI bb) (fun j => nI (ct j)) (nI us) a30 a31 a32 a33 a34 a35 a36 a37 (fun j => nI (o65 j)) (fun j => nI (o66 j)) (nI o64) v41 r63 v43 v44 v45) := hD
          refine lv_aload_n hx hb dX7_links_155 rfl (lv_at hl 4 rfl) ?_
          refine va_get (D := (dC, dI)) (ci := 6) (v := .int r63) (C := RX7) (T := TX7) (N := 46) hx hb hts hiX7 hown hK hP 0 rfl rfl 42 (by decide) (hts (.fieldLink RX7 296 "LinkModelsModel" "linked" "I") (by decide +kernel)) (fun _ h9 => h9) rfl dX7_links_156 ?_
          refine lv_if_ge (tgt := 165) hx hb dX7_links_159 (by decide) (fun cp159 => ?_) (fun cp159 => ?_)
          · obtain ⟨k68, hBk68, hQk68, rfl⟩ := zM.pos' w0r63 cp159
            refine lv_aload_n hx hb dX7_links_165 rfl (lv_at hl 4 rfl) ?_
            refine va_get (D := (dC, dI)) (ci := 6) (v := .int (nI k68)) (C := RX7) (T := TX7) (N := 46) hx hb hts hiX7 hown hK hP 0 rfl rfl 42 (by decide) (hts (.fieldLink RX7 296 "LinkModelsModel" "linked" "I") (by decide +kernel)) (fun _ h9 => h9) rfl dX7_links_166 ?_
            refine lv_bipush (v := 12) hx hb dX7_links_169 (by decide) ?_
            refine lv_idiv (x := nI k68) (y := nI 12) hx hb dX7_links_171 (nI_ne0 (show 0 < 12 by omega) (show 12 < 2 ^ 31 by omega)) ?_
            refine lv_topi (fun x69 ex69 => ?_)
            obtain rfl : x69 = nI (k68 / 12) := by rw [ex69]; exact pk_div (show k68 < 2 ^ 31 by omega) (show 0 < 12 by omega) (show 12 < 2 ^ 31 by omega)
            refine lv_iload hx hb dX7_links_172 (lv_at hl 1 rfl) ?_
            refine lv_icmp_ne (tgt := 181) hx hb dX7_links_174 (by decide) (fun cp174 => ?_) (fun cp174 => ?_)
            · have qcp174 : ¬ (k68 / 12) = ((16 * bd) + c9) := fun h9 => cp174 ((nI_eq (a := k68 / 12) (b := (16 * bd) + c9) (by omega) (by omega)).mpr h9)
              refine lv_iconst (v := 0) hx hb dX7_links_181 (by decide) ?_
              refine lv_istore (lv' := [(7, .int 0), (6, .int (a30 uu)), (5, .int (nI ((16 * bd) + c9))), (4, .int (nI ((16 * bd) + c8))), (3, .int r4), (0, .ref h0), (1, .int (nI bd)), (2, .int (nI uu))]) hx hb dX7_links_182 hl (by decide) rfl (fun ls hl => ?_)
              refine lv_aload_n hx hb dX7_links_184 rfl (lv_at hl 5 rfl) ?_
              refine va_get (D := (dC, dI)) (ci := 6) (v := .ref (r 14)) (C := RX7) (T := TX7) (N := 46) hx hb hts hiX7 hown hK hP 0 rfl rfl 14 (by decide) (hts (.fieldLink RX7 48 "LinkModelsModel" "marks" "[I") (by decide +kernel)) (fun _ h9 => h9) rfl dX7_links_185 ?_
              refine lv_aload_n hx hb dX7_links_188 rfl (lv_at hl 5 rfl) ?_
              refine va_get (D := (dC, dI)) (ci := 6) (v := .int (nI k68)) (C := RX7) (T := TX7) (N := 46) hx hb hts hiX7 hown hK hP 0 rfl rfl 42 (by decide) (hts (.fieldLink RX7 296 "LinkModelsModel" "linked" "I") (by decide +kernel)) (fun _ h9 => h9) rfl dX7_links_189 ?_
              refine va_iald hx hb hK hP 12 0 rfl rfl (vp_in_nI (show k68 < 960 by omega) (by decide)) dX7_links_192 ?_
              refine lv_topi (fun x70 ex70 => ?_)
              obtain rfl : x70 = a14 k68 := by rw [ex70, nI_clamp (show k68 < 2 ^ 31 by omega)]
              refine lv_iconst (v := 1) hx hb dX7_links_193 (by decide) ?_
              refine lv_iand hx hb dX7_links_194 ?_
              refine lv_topi (fun x71 ex71 => ?_)
              refine lv_if_eq (tgt := 202) hx hb dX7_links_195 (by decide) (fun cp195 => ?_) (fun cp195 => ?_)
              · refine lv_iconst (v := 0) hx hb dX7_links_202 (by decide) ?_
                refine lv_istore (lv' := [(8, .int 0), (7, .int 0), (6, .int (a30 uu)), (5, .int (nI ((16 * bd) + c9))), (4, .int (nI ((16 * bd) + c8))), (3, .int r4), (0, .ref h0), (1, .int (nI bd)), (2, .int (nI uu))]) hx hb dX7_links_203 hl (by decide) rfl (fun ls hl => ?_)
                refine lv_aload_n hx hb dX7_links_205 rfl (lv_at hl 6 rfl) ?_
                refine va_get (D := (dC, dI)) (ci := 6) (v := .ref (r 14)) (C := RX7) (T := TX7) (N := 46) hx hb hts hiX7 hown hK hP 0 rfl rfl 14 (by decide) (hts (.fieldLink RX7 48 "LinkModelsModel" "marks" "[I") (by decide +kernel)) (fun _ h9 => h9) rfl dX7_links_206 ?_
                refine lv_aload_n hx hb dX7_links_209 rfl (lv_at hl 6 rfl) ?_
                refine va_get (D := (dC, dI)) (ci := 6) (v := .int (nI k68)) (C := RX7) (T := TX7) (N := 46) hx hb hts hiX7 hown hK hP 0 rfl rfl 42 (by decide) (hts (.fieldLink RX7 296 "LinkModelsModel" "linked" "I") (by decide +kernel)) (fun _ h9 => h9) rfl dX7_links_210 ?_
                refine va_iald hx hb hK hP 12 0 rfl rfl (vp_in_nI (show k68 < 960 by omega) (by decide)) dX7_links_213 ?_
                refine lv_topi (fun x72 ex72 => ?_)
                obtain rfl : x72 = a14 k68 := by rw [ex72, nI_clamp (show k68 < 2 ^ 31 by omega)]
                refine lv_iconst (v := 2) hx hb dX7_links_214 (by decide) ?_
                refine lv_iand hx hb dX7_links_215 ?_
                refine lv_topi (fun x73 ex73 => ?_)
                refine lv_if_eq (tgt := 227) hx hb dX7_links_216 (by decide) (fun cp216 => ?_) (fun cp216 => ?_)
                · refine lv_iload hx hb dX7_links_227 (lv_at hl 0 rfl) ?_
                  refine lv_iload hx hb dX7_links_229 (lv_at hl 2 rfl) ?_
                  refine lv_iconst (v := 1) hx hb dX7_links_231 (by decide) ?_
                  refine lv_icmp_le (tgt := 239) hx hb dX7_links_232 (by decide) (fun cp232 => ?_) (fun cp232 => ?_)
                  · refine lv_iconst (v := 0) hx hb dX7_links_239 (by decide) ?_
                    refine lv_icmp_eq (tgt := 245) hx hb dX7_links_240 (by decide) (fun _ => ?_) (fun c9 => absurd (by decide) c9)
                    refine lv_iload hx hb dX7_links_245 (lv_at hl 2 rfl) ?_
                    refine lv_iconst (v := 1) hx hb dX7_links_247 (by decide) ?_
                    refine lv_iand hx hb dX7_links_248 ?_
                    refine lv_topi (fun x74 ex74 => ?_)
                    refine lv_iconst (v := 1) hx hb dX7_links_249 (by decide) ?_
                    refine lv_icmp_ne (tgt := 277) hx hb dX7_links_250 (by decide) (fun cp250 => ?_) (fun cp250 => ?_)
                    · refine lv_iconst (v := 0) hx hb dX7_links_277 (by decide) ?_
                      have hP9 : va_P (dC, dI) vwCl (rW h0 r cI cJ cZ v0 a1 (nI tp) (nI bs) (fun j => nI (cl j)) a5 a6 a7 (fun j => nI (fc j)) a9 (fun j => nI (mb j)) a11 a12 a13 a14 a15 a16 a17 a18 a19 a20 (nI az) v22 v23 v24 v25 v26 (nI bb) (fun j => nI (ct j)) (nI us) a30 a31 a32 a33 a34 a35 a36 a37 (fun j => nI (o65 j)) (fun j => nI (o66 j)) (nI o64) v41 (nI k68) v43 v44 v45) H := hP
                      have hD9 : va_D A (rW h0 r cI cJ cZ v0 a1 (nI tp) (nI bs) (fun j => nI (cl j)) a5 a6 a7 (fun j => nI (fc j)) a9 (fun j => nI (mb j)) a11 a12 a13 a14 a15 a16 a17 a18 a19 a20 (nI az) v22 v23 v24 v25 v26 (nI bb) (fun j => nI (ct j)) (nI us) a30 a31 a32 a33 a34 a35 a36 a37 (fun j => nI (o65 j)) (fun j => nI (o66 j)) (nI o64) v41 (nI k68) v43 v44 v45) := hD
                      exact W.iret (v := (0 : Int32)) hx hb hr (fun t ht hW => ⟨⟨(0 : Int32), (o64, o65, o66, v43, v44, v45, (nI k68)), rfl, ⟨(by exact (zM.mk (by omega) (by first | trivial | omega | assumption | (refine ⟨?_, ?_⟩ <;> first | trivial | omega | assumption)))), (by exact Or.inr (Or.inr ⟨k68, by omega, rfl⟩)), (by intro h9; exact absurd h9 (Int32.not_lt.mpr cp98)), hbo65, hbo66⟩, by rw [ht]; exact hP9, va_K.moved hW.alike hK, hD9⟩, hS.F ht⟩) hS.2.2 dX7_links_278
                    · refine lv_aload_n hx hb dX7_links_253 rfl (lv_at hl 6 rfl) ?_
                      refine va_get (D := (dC, dI)) (ci := 6) (v := .ref (r 14)) (C := RX7) (T := TX7) (N := 46) hx hb hts hiX7 hown hK hP 0 rfl rfl 14 (by decide) (hts (.fieldLink RX7 48 "LinkModelsModel" "marks" "[I") (by decide +kernel)) (fun _ h9 => h9) rfl dX7_links_254 ?_
                      refine lv_aload_n hx hb dX7_links_257 rfl (lv_at hl 6 rfl) ?_
                      refine va_get (D := (dC, dI)) (ci := 6) (v := .int (nI k68)) (C := RX7) (T := TX7) (N := 46) hx hb hts hiX7 hown hK hP 0 rfl rfl 42 (by decide) (hts (.fieldLink RX7 296 "LinkModelsModel" "linked" "I") (by decide +kernel)) (fun _ h9 => h9) rfl dX7_links_258 ?_
                      refine va_iald hx hb hK hP 12 0 rfl rfl (vp_in_nI (show k68 < 960 by omega) (by decide)) dX7_links_261 ?_
                      refine lv_topi (fun x75 ex75 => ?_)
                      obtain rfl : x75 = a14 k68 := by rw [ex75, nI_clamp (show k68 < 2 ^ 31 by omega)]
                      refine lv_iconst (v := 4) hx hb dX7_links_262 (by decide) ?_
                      refine lv_iand hx hb dX7_links_263 ?_
                      refine lv_topi (fun x76 ex76 => ?_)
                      refine lv_if_eq (tgt := 277) hx hb dX7_links_264 (by decide) (fun cp264 => ?_) (fun cp264 => ?_)
                      · refine lv_iconst (v := 0) hx hb dX7_links_277 (by decide) ?_
                        have hP9 : va_P (dC, dI) vwCl (rW h0 r cI cJ cZ v0 a1 (nI tp) (nI bs) (fun j => nI (cl j)) a5 a6 a7 (fun j => nI (fc j)) a9 (fun j => nI (mb j)) a11 a12 a13 a14 a15 a16 a17 a18 a19 a20 (nI az) v22 v23 v24 v25 v26 (nI bb) (fun j => nI (ct j)) (nI us) a30 a31 a32 a33 a34 a35 a36 a37 (fun j => nI (o65 j)) (fun j => nI (o66 j)) (nI o64) v41 (nI k68) v43 v44 v45) H := hP
                        have hD9 : va_D A (rW h0 r cI cJ cZ v0 a1 (nI tp) (nI bs) (fun j => nI (cl j)) a5 a6 a7 (fun j => nI (fc j)) a9 (fun j => nI (mb j)) a11 a12 a13 a14 a15 a16 a17 a18 a19 a20 (nI az) v22 v23 v24 v25 v26 (nI bb) (fun j => nI (ct j)) (nI us) a30 a31 a32 a33 a34 a35 a36 a37 (fun j => nI (o65 j)) (fun j => nI (o66 j)) (nI o64) v41 (nI k68) v43 v44 v45) := hD
                        exact W.iret (v := (0 : Int32)) hx hb hr (fun t ht hW => ⟨⟨(0 : Int32), (o64, o65, o66, v43, v44, v45, (nI k68)), rfl, ⟨(by exact (zM.mk (by omega) (by first | trivial | omega | assumption | (refine ⟨?_, ?_⟩ <;> first | trivial | omega | assumption)))), (by exact Or.inr (Or.inr ⟨k68, by omega, rfl⟩)), (by intro h9; exact absurd h9 (Int32.not_lt.mpr cp98)), hbo65, hbo66⟩, by rw [ht]; exact hP9, va_K.moved hW.alike hK, hD9⟩, hS.F ht⟩) hS.2.2 dX7_links_278
                      · refine lv_iload hx hb dX7_links_267 (lv_at hl 1 rfl) ?_
                        refine lv_if_ne (tgt := 277) hx hb dX7_links_269 (by decide) (fun c9 => absurd c9 (by decide)) (fun _ => ?_)
                        refine lv_bipush (v := 8) hx hb dX7_links_272 (by decide) ?_
                        refine lv_goto (tgt := 278) hx hb dX7_links_274 (by decide) ?_
                        have hP9 : va_P (dC, dI) vwCl (rW h0 r cI cJ cZ v0 a1 (nI tp) (nI bs) (fun j => nI (cl j)) a5 a6 a7 (fun j => nI (fc j)) a9 (fun j => nI (mb j)) a11 a12 a13 a14 a15 a16 a17 a18 a19 a20 (nI az) v22 v23 v24 v25 v26 (nI bb) (fun j => nI (ct j)) (nI us) a30 a31 a32 a33 a34 a35 a36 a37 (fun j => nI (o65 j)) (fun j => nI (o66 j)) (nI o64) v41 (nI k68) v43 v44 v45) H := hP
                        have hD9 : va_D A (rW h0 r cI cJ cZ v0 a1 (nI tp) (nI bs) (fun j => nI (cl j)) a5 a6 a7 (fun j => nI (fc j)) a9 (fun j => nI (mb j)) a11 a12 a13 a14 a15 a16 a17 a18 a19 a20 (nI az) v22 v23 v24 v25 v26 (nI bb) (fun j => nI (ct j)) (nI us) a30 a31 a32 a33 a34 a35 a36 a37 (fun j => nI (o65 j)) (fun j => nI (o66 j)) (nI o64) v41 (nI k68) v43 v44 v45) := hD
                        exact W.iret (v := (8 : Int32)) hx hb hr (fun t ht hW => ⟨⟨(8 : Int32), (o64, o65, o66, v43, v44, v45, (nI k68)), rfl, ⟨(by exact (zM.mk (by omega) (by first | trivial | omega | assumption | (refine ⟨?_, ?_⟩ <;> first | trivial | omega | assumption)))), (by exact Or.inl (by decide)), (by first | (intro _; rfl) | (intro h9; exact absurd h9 (Int32.not_lt.mpr cp98))), hbo65, hbo66⟩, by rw [ht]; exact hP9, va_K.moved hW.alike hK, hD9⟩, hS.F ht⟩) hS.2.2 dX7_links_278
                  · refine lv_iconst (v := 1) hx hb dX7_links_235 (by decide) ?_
                    refine lv_goto (tgt := 240) hx hb dX7_links_236 (by decide) ?_
                    refine lv_icmp_eq (tgt := 245) hx hb dX7_links_240 (by decide) (fun c9 => absurd c9 (by decide)) (fun _ => ?_)
                    refine lv_iconst (v := 4) hx hb dX7_links_243 (by decide) ?_
                    have hP9 : va_P (dC, dI) vwCl (rW h0 r cI cJ cZ v0 a1 (nI tp) (nI bs) (fun j => nI (cl j)) a5 a6 a7 (fun j => nI (fc j)) a9 (fun j => nI (mb j)) a11 a12 a13 a14 a15 a16 a17 a18 a19 a20 (nI az) v22 v23 v24 v25 v26 (nI bb) (fun j => nI (ct j)) (nI us) a30 a31 a32 a33 a34 a35 a36 a37 (fun j => nI (o65 j)) (fun j => nI (o66 j)) (nI o64) v41 (nI k68) v43 v44 v45) H := hP
                    have hD9 : va_D A (rW h0 r cI cJ cZ v0 a1 (nI tp) (nI bs) (fun j => nI (cl j)) a5 a6 a7 (fun j => nI (fc j)) a9 (fun j => nI (mb j)) a11 a12 a13 a14 a15 a16 a17 a18 a19 a20 (nI az) v22 v23 v24 v25 v26 (nI bb) (fun j => nI (ct j)) (nI us) a30 a31 a32 a33 a34 a35 a36 a37 (fun j => nI (o65 j)) (fun j => nI (o66 j)) (nI o64) v41 (nI k68) v43 v44 v45) := hD
                    exact W.iret (v := (4 : Int32)) hx hb hr (fun t ht hW => ⟨⟨(4 : Int32), (o64, o65, o66, v43, v44, v45, (nI k68)), rfl, ⟨(by exact (zM.mk (by omega) (by first | trivial | omega | assumption | (refine ⟨?_, ?_⟩ <;> first | trivial | omega | assumption)))), (by exact Or.inl (by decide)), (by first | (intro _; rfl) | (intro h9; exact absurd h9 (Int32.not_lt.mpr cp98))), hbo65, hbo66⟩, by rw [ht]; exact hP9, va_K.moved hW.alike hK, hD9⟩, hS.F ht⟩) hS.2.2 dX7_links_244
                · refine lv_iload hx hb dX7_links_219 (lv_at hl 1 rfl) ?_
                  refine lv_if_ne (tgt := 227) hx hb dX7_links_221 (by decide) (fun c9 => absurd c9 (by decide)) (fun _ => ?_)
                  refine lv_bipush (v := 8) hx hb dX7_links_224 (by decide) ?_
                  have hP9 : va_P (dC, dI) vwCl (rW h0 r cI cJ cZ v0 a1 (nI tp) (nI bs) (fun j => nI (cl j)) a5 a6 a7 (fun j => nI (fc j)) a9 (fun j => nI (mb j)) a11 a12 a13 a14 a15 a16 a17 a18 a19 a20 (nI az) v22 v23 v24 v25 v26 (nI bb) (fun j => nI (ct j)) (nI us) a30 a31 a32 a33 a34 a35 a36 a37 (fun j => nI (o65 j)) (fun j => nI (o66 j)) (nI o64) v41 (nI k68) v43 v44 v45) H := hP
                  have hD9 : va_D A (rW h0 r cI cJ cZ v0 a1 (nI tp) (nI bs) (fun j => nI (cl j)) a5 a6 a7 (fun j => nI (fc j)) a9 (fun j => nI (mb j)) a11 a12 a13 a14 a15 a16 a17 a18 a19 a20 (nI az) v22 v23 v24 v25 v26 (nI bb) (fun j => nI (ct j)) (nI us) a30 a31 a32 a33 a34 a35 a36 a37 (fun j => nI (o65 j)) (fun j => nI (o66 j)) (nI o64) v41 (nI k68) v43 v44 v45) := hD
                  exact W.iret (v := (8 : Int32)) hx hb hr (fun t ht hW => ⟨⟨(8 : Int32), (o64, o65, o66, v43, v44, v45, (nI k68)), rfl, ⟨(by exact (zM.mk (by omega) (by first | trivial | omega | assumption | (refine ⟨?_, ?_⟩ <;> first | trivial | omega | assumption)))), (by exact Or.inl (by decide)), (by first | (intro _; rfl) | (intro h9; exact absurd h9 (Int32.not_lt.mpr cp98))), hbo65, hbo66⟩, by rw [ht]; exact hP9, va_K.moved hW.alike hK, hD9⟩, hS.F ht⟩) hS.2.2 dX7_links_226
              · refine lv_iconst (v := 1) hx hb dX7_links_198 (by decide) ?_
                refine lv_goto (tgt := 203) hx hb dX7_links_199 (by decide) ?_
                refine lv_istore (lv' := [(8, .int 1), (7, .int 0), (6, .int (a30 uu)), (5, .int (nI ((16 * bd) + c9))), (4, .int (nI ((16 * bd) + c8))), (3, .int r4), (0, .ref h0), (1, .int (nI bd)), (2, .int (nI uu))]) hx hb dX7_links_203 hl (by decide) rfl (fun ls hl => ?_)
                refine lv_aload_n hx hb dX7_links_205 rfl (lv_at hl 6 rfl) ?_
                refine va_get (D := (dC, dI)) (ci := 6) (v := .ref (r 14)) (C := RX7) (T := TX7) (N := 46) hx hb hts hiX7 hown hK hP 0 rfl rfl 14 (by decide) (hts (.fieldLink RX7 48 "LinkModelsModel" "marks" "[I") (by decide +kernel)) (fun _ h9 => h9) rfl dX7_links_206 ?_
                refine lv_aload_n hx hb dX7_links_209 rfl (lv_at hl 6 rfl) ?_
                refine va_get (D := (dC, dI)) (ci := 6) (v := .int (nI k68)) (C := RX7) (T := TX7) (N := 46) hx hb hts hiX7 hown hK hP 0 rfl rfl 42 (by decide) (hts (.fieldLink RX7 296 "LinkModelsModel" "linked" "I") (by decide +kernel)) (fun _ h9 => h9) rfl dX7_links_210 ?_
                refine va_iald hx hb hK hP 12 0 rfl rfl (vp_in_nI (show k68 < 960 by omega) (by decide)) dX7_links_213 ?_
                refine lv_topi (fun x77 ex77 => ?_)
                obtain rfl : x77 = a14 k68 := by rw [ex77, nI_clamp (show k68 < 2 ^ 31 by omega)]
                refine lv_iconst (v := 2) hx hb dX7_links_214 (by decide) ?_
                refine lv_iand hx hb dX7_links_215 ?_
                refine lv_topi (fun x78 ex78 => ?_)
                refine lv_if_eq (tgt := 227) hx hb dX7_links_216 (by decide) (fun cp216 => ?_) (fun cp216 => ?_)
                · refine lv_iload hx hb dX7_links_227 (lv_at hl 0 rfl) ?_
                  refine lv_iload hx hb dX7_links_229 (lv_at hl 2 rfl) ?_
                  refine lv_iconst (v := 1) hx hb dX7_links_231 (by decide) ?_
                  refine lv_icmp_le (tgt := 239) hx hb dX7_links_232 (by decide) (fun cp232 => ?_) (fun cp232 => ?_)
                  · refine lv_iconst (v := 0) hx hb dX7_links_239 (by decide) ?_
                    refine lv_icmp_eq (tgt := 245) hx hb dX7_links_240 (by decide) (fun c9 => absurd c9 (by decide)) (fun _ => ?_)
                    refine lv_iconst (v := 4) hx hb dX7_links_243 (by decide) ?_
                    have hP9 : va_P (dC, dI) vwCl (rW h0 r cI cJ cZ v0 a1 (nI tp) (nI bs) (fun j => nI (cl j)) a5 a6 a7 (fun j => nI (fc j)) a9 (fun j => nI (mb j)) a11 a12 a13 a14 a15 a16 a17 a18 a19 a20 (nI az) v22 v23 v24 v25 v26 (nI bb) (fun j => nI (ct j)) (nI us) a30 a31 a32 a33 a34 a35 a36 a37 (fun j => nI (o65 j)) (fun j => nI (o66 j)) (nI o64) v41 (nI k68) v43 v44 v45) H := hP
                    have hD9 : va_D A (rW h0 r cI cJ cZ v0 a1 (nI tp) (nI bs) (fun j => nI (cl j)) a5 a6 a7 (fun j => nI (fc j)) a9 (fun j => nI (mb j)) a11 a12 a13 a14 a15 a16 a17 a18 a19 a20 (nI az) v22 v23 v24 v25 v26 (nI bb) (fun j => nI (ct j)) (nI us) a30 a31 a32 a33 a34 a35 a36 a37 (fun j => nI (o65 j)) (fun j => nI (o66 j)) (nI o64) v41 (nI k68) v43 v44 v45) := hD
                    exact W.iret (v := (4 : Int32)) hx hb hr (fun t ht hW => ⟨⟨(4 : Int32), (o64, o65, o66, v43, v44, v45, (nI k68)), rfl, ⟨(by exact (zM.mk (by omega) (by first | trivial | omega | assumption | (refine ⟨?_, ?_⟩ <;> first | trivial | omega | assumption)))), (by exact Or.inl (by decide)), (by first | (intro _; rfl) | (intro h9; exact absurd h9 (Int32.not_lt.mpr cp98))), hbo65, hbo66⟩, by rw [ht]; exact hP9, va_K.moved hW.alike hK, hD9⟩, hS.F ht⟩) hS.2.2 dX7_links_244
                  · refine lv_iconst (v := 1) hx hb dX7_links_235 (by decide) ?_
                    refine lv_goto (tgt := 240) hx hb dX7_links_236 (by decide) ?_
                    refine lv_icmp_eq (tgt := 245) hx hb dX7_links_240 (by decide) (fun _ => ?_) (fun c9 => absurd (by decide) c9)
                    refine lv_iload hx hb dX7_links_245 (lv_at hl 2 rfl) ?_
                    refine lv_iconst (v := 1) hx hb dX7_links_247 (by decide) ?_
                    refine lv_iand hx hb dX7_links_248 ?_
                    refine lv_topi (fun x79 ex79 => ?_)
                    refine lv_iconst (v := 1) hx hb dX7_links_249 (by decide) ?_
                    refine lv_icmp_ne (tgt := 277) hx hb dX7_links_250 (by decide) (fun cp250 => ?_) (fun cp250 => ?_)
                    · refine lv_iconst (v := 0) hx hb dX7_links_277 (by decide) ?_
                      have hP9 : va_P (dC, dI) vwCl (rW h0 r cI cJ cZ v0 a1 (nI tp) (nI bs) (fun j => nI (cl j)) a5 a6 a7 (fun j => nI (fc j)) a9 (fun j => nI (mb j)) a11 a12 a13 a14 a15 a16 a17 a18 a19 a20 (nI az) v22 v23 v24 v25 v26 (nI bb) (fun j => nI (ct j)) (nI us) a30 a31 a32 a33 a34 a35 a36 a37 (fun j => nI (o65 j)) (fun j => nI (o66 j)) (nI o64) v41 (nI k68) v43 v44 v45) H := hP
                      have hD9 : va_D A (rW h0 r cI cJ cZ v0 a1 (nI tp) (nI bs) (fun j => nI (cl j)) a5 a6 a7 (fun j => nI (fc j)) a9 (fun j => nI (mb j)) a11 a12 a13 a14 a15 a16 a17 a18 a19 a20 (nI az) v22 v23 v24 v25 v26 (nI bb) (fun j => nI (ct j)) (nI us) a30 a31 a32 a33 a34 a35 a36 a37 (fun j => nI (o65 j)) (fun j => nI (o66 j)) (nI o64) v41 (nI k68) v43 v44 v45) := hD
                      exact W.iret (v := (0 : Int32)) hx hb hr (fun t ht hW => ⟨⟨(0 : Int32), (o64, o65, o66, v43, v44, v45, (nI k68)), rfl, ⟨(by exact (zM.mk (by omega) (by first | trivial | omega | assumption | (refine ⟨?_, ?_⟩ <;> first | trivial | omega | assumption)))), (by exact Or.inr (Or.inr ⟨k68, by omega, rfl⟩)), (by intro h9; exact absurd h9 (Int32.not_lt.mpr cp98)), hbo65, hbo66⟩, by rw [ht]; exact hP9, va_K.moved hW.alike hK, hD9⟩, hS.F ht⟩) hS.2.2 dX7_links_278
                    · refine lv_aload_n hx hb dX7_links_253 rfl (lv_at hl 6 rfl) ?_
                      refine va_get (D := (dC, dI)) (ci := 6) (v := .ref (r 14)) (C := RX7) (T := TX7) (N := 46) hx hb hts hiX7 hown hK hP 0 rfl rfl 14 (by decide) (hts (.fieldLink RX7 48 "LinkModelsModel" "marks" "[I") (by decide +kernel)) (fun _ h9 => h9) rfl dX7_links_254 ?_
                      refine lv_aload_n hx hb dX7_links_257 rfl (lv_at hl 6 rfl) ?_
                      refine va_get (D := (dC, dI)) (ci := 6) (v := .int (nI k68)) (C := RX7) (T := TX7) (N := 46) hx hb hts hiX7 hown hK hP 0 rfl rfl 42 (by decide) (hts (.fieldLink RX7 296 "LinkModelsModel" "linked" "I") (by decide +kernel)) (fun _ h9 => h9) rfl dX7_links_258 ?_
                      refine va_iald hx hb hK hP 12 0 rfl rfl (vp_in_nI (show k68 < 960 by omega) (by decide)) dX7_links_261 ?_
                      refine lv_topi (fun x80 ex80 => ?_)
                      obtain rfl : x80 = a14 k68 := by rw [ex80, nI_clamp (show k68 < 2 ^ 31 by omega)]
                      refine lv_iconst (v := 4) hx hb dX7_links_262 (by decide) ?_
                      refine lv_iand hx hb dX7_links_263 ?_
                      refine lv_topi (fun x81 ex81 => ?_)
                      refine lv_if_eq (tgt := 277) hx hb dX7_links_264 (by decide) (fun cp264 => ?_) (fun cp264 => ?_)
                      · refine lv_iconst (v := 0) hx hb dX7_links_277 (by decide) ?_
                        have hP9 : va_P (dC, dI) vwCl (rW h0 r cI cJ cZ v0 a1 (nI tp) (nI bs) (fun j => nI (cl j)) a5 a6 a7 (fun j => nI (fc j)) a9 (fun j => nI (mb j)) a11 a12 a13 a14 a15 a16 a17 a18 a19 a20 (nI az) v22 v23 v24 v25 v26 (nI bb) (fun j => nI (ct j)) (nI us) a30 a31 a32 a33 a34 a35 a36 a37 (fun j => nI (o65 j)) (fun j => nI (o66 j)) (nI o64) v41 (nI k68) v43 v44 v45) H := hP
                        have hD9 : va_D A (rW h0 r cI cJ cZ v0 a1 (nI tp) (nI bs) (fun j => nI (cl j)) a5 a6 a7 (fun j => nI (fc j)) a9 (fun j => nI (mb j)) a11 a12 a13 a14 a15 a16 a17 a18 a19 a20 (nI az) v22 v23 v24 v25 v26 (nI bb) (fun j => nI (ct j)) (nI us) a30 a31 a32 a33 a34 a35 a36 a37 (fun j => nI (o65 j)) (fun j => nI (o66 j)) (nI o64) v41 (nI k68) v43 v44 v45) := hD
                        exact W.iret (v := (0 : Int32)) hx hb hr (fun t ht hW => ⟨⟨(0 : Int32), (o64, o65, o66, v43, v44, v45, (nI k68)), rfl, ⟨(by exact (zM.mk (by omega) (by first | trivial | omega | assumption | (refine ⟨?_, ?_⟩ <;> first | trivial | omega | assumption)))), (by exact Or.inr (Or.inr ⟨k68, by omega, rfl⟩)), (by intro h9; exact absurd h9 (Int32.not_lt.mpr cp98)), hbo65, hbo66⟩, by rw [ht]; exact hP9, va_K.moved hW.alike hK, hD9⟩, hS.F ht⟩) hS.2.2 dX7_links_278
                      · refine lv_iload hx hb dX7_links_267 (lv_at hl 1 rfl) ?_
                        refine lv_if_ne (tgt := 277) hx hb dX7_links_269 (by decide) (fun c9 => absurd c9 (by decide)) (fun _ => ?_)
                        refine lv_bipush (v := 8) hx hb dX7_links_272 (by decide) ?_
                        refine lv_goto (tgt := 278) hx hb dX7_links_274 (by decide) ?_
                        have hP9 : va_P (dC, dI) vwCl (rW h0 r cI cJ cZ v0 a1 (nI tp) (nI bs) (fun j => nI (cl j)) a5 a6 a7 (fun j => nI (fc j)) a9 (fun j => nI (mb j)) a11 a12 a13 a14 a15 a16 a17 a18 a19 a20 (nI az) v22 v23 v24 v25 v26 (nI bb) (fun j => nI (ct j)) (nI us) a30 a31 a32 a33 a34 a35 a36 a37 (fun j => nI (o65 j)) (fun j => nI (o66 j)) (nI o64) v41 (nI k68) v43 v44 v45) H := hP
                        have hD9 : va_D A (rW h0 r cI cJ cZ v0 a1 (nI tp) (nI bs) (fun j => nI (cl j)) a5 a6 a7 (fun j => nI (fc j)) a9 (fun j => nI (mb j)) a11 a12 a13 a14 a15 a16 a17 a18 a19 a20 (nI az) v22 v23 v24 v25 v26 (nI bb) (fun j => nI (ct j)) (nI us) a30 a31 a32 a33 a34 a35 a36 a37 (fun j => nI (o65 j)) (fun j => nI (o66 j)) (nI o64) v41 (nI k68) v43 v44 v45) := hD
                        exact W.iret (v := (8 : Int32)) hx hb hr (fun t ht hW => ⟨⟨(8 : Int32), (o64, o65, o66, v43, v44, v45, (nI k68)), rfl, ⟨(by exact (zM.mk (by omega) (by first | trivial | omega | assumption | (refine ⟨?_, ?_⟩ <;> first | trivial | omega | assumption)))), (by exact Or.inl (by decide)), (by first | (intro _; rfl) | (intro h9; exact absurd h9 (Int32.not_lt.mpr cp98))), hbo65, hbo66⟩, by rw [ht]; exact hP9, va_K.moved hW.alike hK, hD9⟩, hS.F ht⟩) hS.2.2 dX7_links_278
                · refine lv_iload hx hb dX7_links_219 (lv_at hl 1 rfl) ?_
                  refine lv_if_ne (tgt := 227) hx hb dX7_links_221 (by decide) (fun c9 => absurd c9 (by decide)) (fun _ => ?_)
                  refine lv_bipush (v := 8) hx hb dX7_links_224 (by decide) ?_
                  have hP9 : va_P (dC, dI) vwCl (rW h0 r cI cJ cZ v0 a1 (nI tp) (nI bs) (fun j => nI (cl j)) a5 a6 a7 (fun j => nI (fc j)) a9 (fun j => nI (mb j)) a11 a12 a13 a14 a15 a16 a17 a18 a19 a20 (nI az) v22 v23 v24 v25 v26 (nI bb) (fun j => nI (ct j)) (nI us) a30 a31 a32 a33 a34 a35 a36 a37 (fun j => nI (o65 j)) (fun j => nI (o66 j)) (nI o64) v41 (nI k68) v43 v44 v45) H := hP
                  have hD9 : va_D A (rW h0 r cI cJ cZ v0 a1 (nI tp) (nI bs) (fun j => nI (cl j)) a5 a6 a7 (fun j => nI (fc j)) a9 (fun j => nI (mb j)) a11 a12 a13 a14 a15 a16 a17 a18 a19 a20 (nI az) v22 v23 v24 v25 v26 (nI bb) (fun j => nI (ct j)) (nI us) a30 a31 a32 a33 a34 a35 a36 a37 (fun j => nI (o65 j)) (fun j => nI (o66 j)) (nI o64) v41 (nI k68) v43 v44 v45) := hD
                  exact W.iret (v := (8 : Int32)) hx hb hr (fun t ht hW => ⟨⟨(8 : Int32), (o64, o65, o66, v43, v44, v45, (nI k68)), rfl, ⟨(by exact (zM.mk (by omega) (by first | trivial | omega | assumption | (refine ⟨?_, ?_⟩ <;> first | trivial | omega | assumption)))), (by exact Or.inl (by decide)), (by first | (intro _; rfl) | (intro h9; exact absurd h9 (Int32.not_lt.mpr cp98))), hbo65, hbo66⟩, by rw [ht]; exact hP9, va_K.moved hW.alike hK, hD9⟩, hS.F ht⟩) hS.2.2 dX7_links_226
            · have qcp174 : (k68 / 12) = ((16 * bd) + c9) := (nI_eq (a := k68 / 12) (b := (16 * bd) + c9) (by omega) (by omega)).mp cp174
              refine lv_iconst (v := 1) hx hb dX7_links_177 (by decide) ?_
              refine lv_goto (tgt := 182) hx hb dX7_links_178 (by decide) ?_
              refine lv_istore (lv' := [(7, .int 1), (6, .int (a30 uu)), (5, .int (nI ((16 * bd) + c9))), (4, .int (nI ((16 * bd) + c8))), (3, .int r4), (0, .ref h0), (1, .int (nI bd)), (2, .int (nI uu))]) hx hb dX7_links_182 hl (by decide) rfl (fun ls hl => ?_)
              refine lv_aload_n hx hb dX7_links_184 rfl (lv_at hl 5 rfl) ?_
              refine va_get (D := (dC, dI)) (ci := 6) (v := .ref (r 14)) (C := RX7) (T := TX7) (N := 46) hx hb hts hiX7 hown hK hP 0 rfl rfl 14 (by decide) (hts (.fieldLink RX7 48 "LinkModelsModel" "marks" "[I") (by decide +kernel)) (fun _ h9 => h9) rfl dX7_links_185 ?_
              refine lv_aload_n hx hb dX7_links_188 rfl (lv_at hl 5 rfl) ?_
              refine va_get (D := (dC, dI)) (ci := 6) (v := .int (nI k68)) (C := RX7) (T := TX7) (N := 46) hx hb hts hiX7 hown hK hP 0 rfl rfl 42 (by decide) (hts (.fieldLink RX7 296 "LinkModelsModel" "linked" "I") (by decide +kernel)) (fun _ h9 => h9) rfl dX7_links_189 ?_
              refine va_iald hx hb hK hP 12 0 rfl rfl (vp_in_nI (show k68 < 960 by omega) (by decide)) dX7_links_192 ?_
              refine lv_topi (fun x82 ex82 => ?_)
              obtain rfl : x82 = a14 k68 := by rw [ex82, nI_clamp (show k68 < 2 ^ 31 by omega)]
              refine lv_iconst (v := 1) hx hb dX7_links_193 (by decide) ?_
              refine lv_iand hx hb dX7_links_194 ?_
              refine lv_topi (fun x83 ex83 => ?_)
              refine lv_if_eq (tgt := 202) hx hb dX7_links_195 (by decide) (fun cp195 => ?_) (fun cp195 => ?_)
              · refine lv_iconst (v := 0) hx hb dX7_links_202 (by decide) ?_
                refine lv_istore (lv' := [(8, .int 0), (7, .int 1), (6, .int (a30 uu)), (5, .int (nI ((16 * bd) + c9))), (4, .int (nI ((16 * bd) + c8))), (3, .int r4), (0, .ref h0), (1, .int (nI bd)), (2, .int (nI uu))]) hx hb dX7_links_203 hl (by decide) rfl (fun ls hl => ?_)
                refine lv_aload_n hx hb dX7_links_205 rfl (lv_at hl 6 rfl) ?_
                refine va_get (D := (dC, dI)) (ci := 6) (v := .ref (r 14)) (C := RX7) (T := TX7) (N := 46) hx hb hts hiX7 hown hK hP 0 rfl rfl 14 (by decide) (hts (.fieldLink RX7 48 "LinkModelsModel" "marks" "[I") (by decide +kernel)) (fun _ h9 => h9) rfl dX7_links_206 ?_
                refine lv_aload_n hx hb dX7_links_209 rfl (lv_at hl 6 rfl) ?_
                refine va_get (D := (dC, dI)) (ci := 6) (v := .int (nI k68)) (C := RX7) (T := TX7) (N := 46) hx hb hts hiX7 hown hK hP 0 rfl rfl 42 (by decide) (hts (.fieldLink RX7 296 "LinkModelsModel" "linked" "I") (by decide +kernel)) (fun _ h9 => h9) rfl dX7_links_210 ?_
                refine va_iald hx hb hK hP 12 0 rfl rfl (vp_in_nI (show k68 < 960 by omega) (by decide)) dX7_links_213 ?_
                refine lv_topi (fun x84 ex84 => ?_)
                obtain rfl : x84 = a14 k68 := by rw [ex84, nI_clamp (show k68 < 2 ^ 31 by omega)]
                refine lv_iconst (v := 2) hx hb dX7_links_214 (by decide) ?_
                refine lv_iand hx hb dX7_links_215 ?_
                refine lv_topi (fun x85 ex85 => ?_)
                refine lv_if_eq (tgt := 227) hx hb dX7_links_216 (by decide) (fun cp216 => ?_) (fun cp216 => ?_)
                · refine lv_iload hx hb dX7_links_227 (lv_at hl 0 rfl) ?_
                  refine lv_iload hx hb dX7_links_229 (lv_at hl 2 rfl) ?_
                  refine lv_iconst (v := 1) hx hb dX7_links_231 (by decide) ?_
                  refine lv_icmp_le (tgt := 239) hx hb dX7_links_232 (by decide) (fun cp232 => ?_) (fun cp232 => ?_)
                  · refine lv_iconst (v := 0) hx hb dX7_links_239 (by decide) ?_
                    refine lv_icmp_eq (tgt := 245) hx hb dX7_links_240 (by decide) (fun _ => ?_) (fun c9 => absurd (by decide) c9)
                    refine lv_iload hx hb dX7_links_245 (lv_at hl 2 rfl) ?_
                    refine lv_iconst (v := 1) hx hb dX7_links_247 (by decide) ?_
                    refine lv_iand hx hb dX7_links_248 ?_
                    refine lv_topi (fun x86 ex86 => ?_)
                    refine lv_iconst (v := 1) hx hb dX7_links_249 (by decide) ?_
                    refine lv_icmp_ne (tgt := 277) hx hb dX7_links_250 (by decide) (fun cp250 => ?_) (fun cp250 => ?_)
                    · refine lv_iconst (v := 0) hx hb dX7_links_277 (by decide) ?_
                      have hP9 : va_P (dC, dI) vwCl (rW h0 r cI cJ cZ v0 a1 (nI tp) (nI bs) (fun j => nI (cl j)) a5 a6 a7 (fun j => nI (fc j)) a9 (fun j => nI (mb j)) a11 a12 a13 a14 a15 a16 a17 a18 a19 a20 (nI az) v22 v23 v24 v25 v26 (nI bb) (fun j => nI (ct j)) (nI us) a30 a31 a32 a33 a34 a35 a36 a37 (fun j => nI (o65 j)) (fun j => nI (o66 j)) (nI o64) v41 (nI k68) v43 v44 v45) H := hP
                      have hD9 : va_D A (rW h0 r cI cJ cZ v0 a1 (nI tp) (nI bs) (fun j => nI (cl j)) a5 a6 a7 (fun j => nI (fc j)) a9 (fun j => nI (mb j)) a11 a12 a13 a14 a15 a16 a17 a18 a19 a20 (nI az) v22 v23 v24 v25 v26 (nI bb) (fun j => nI (ct j)) (nI us) a30 a31 a32 a33 a34 a35 a36 a37 (fun j => nI (o65 j)) (fun j => nI (o66 j)) (nI o64) v41 (nI k68) v43 v44 v45) := hD
                      exact W.iret (v := (0 : Int32)) hx hb hr (fun t ht hW => ⟨⟨(0 : Int32), (o64, o65, o66, v43, v44, v45, (nI k68)), rfl, ⟨(by exact (zM.mk (by omega) (by first | trivial | omega | assumption | (refine ⟨?_, ?_⟩ <;> first | trivial | omega | assumption)))), (by exact Or.inr (Or.inr ⟨k68, by omega, rfl⟩)), (by intro h9; exact absurd h9 (Int32.not_lt.mpr cp98)), hbo65, hbo66⟩, by rw [ht]; exact hP9, va_K.moved hW.alike hK, hD9⟩, hS.F ht⟩) hS.2.2 dX7_links_278
                    · refine lv_aload_n hx hb dX7_links_253 rfl (lv_at hl 6 rfl) ?_
                      refine va_get (D := (dC, dI)) (ci := 6) (v := .ref (r 14)) (C := RX7) (T := TX7) (N := 46) hx hb hts hiX7 hown hK hP 0 rfl rfl 14 (by decide) (hts (.fieldLink RX7 48 "LinkModelsModel" "marks" "[I") (by decide +kernel)) (fun _ h9 => h9) rfl dX7_links_254 ?_
                      refine lv_aload_n hx hb dX7_links_257 rfl (lv_at hl 6 rfl) ?_
                      refine va_get (D := (dC, dI)) (ci := 6) (v := .int (nI k68)) (C := RX7) (T := TX7) (N := 46) hx hb hts hiX7 hown hK hP 0 rfl rfl 42 (by decide) (hts (.fieldLink RX7 296 "LinkModelsModel" "linked" "I") (by decide +kernel)) (fun _ h9 => h9) rfl dX7_links_258 ?_
                      refine va_iald hx hb hK hP 12 0 rfl rfl (vp_in_nI (show k68 < 960 by omega) (by decide)) dX7_links_261 ?_
                      refine lv_topi (fun x87 ex87 => ?_)
                      obtain rfl : x87 = a14 k68 := by rw [ex87, nI_clamp (show k68 < 2 ^ 31 by omega)]
                      refine lv_iconst (v := 4) hx hb dX7_links_262 (by decide) ?_
                      refine lv_iand hx hb dX7_links_263 ?_
                      refine lv_topi (fun x88 ex88 => ?_)
                      refine lv_if_eq (tgt := 277) hx hb dX7_links_264 (by decide) (fun cp264 => ?_) (fun cp264 => ?_)
                      · refine lv_iconst (v := 0) hx hb dX7_links_277 (by decide) ?_
                        have hP9 : va_P (dC, dI) vwCl (rW h0 r cI cJ cZ v0 a1 (nI tp) (nI bs) (fun j => nI (cl j)) a5 a6 a7 (fun j => nI (fc j)) a9 (fun j => nI (mb j)) a11 a12 a13 a14 a15 a16 a17 a18 a19 a20 (nI az) v22 v23 v24 v25 v26 (nI bb) (fun j => nI (ct j)) (nI us) a30 a31 a32 a33 a34 a35 a36 a37 (fun j => nI (o65 j)) (fun j => nI (o66 j)) (nI o64) v41 (nI k68) v43 v44 v45) H := hP
                        have hD9 : va_D A (rW h0 r cI cJ cZ v0 a1 (nI tp) (nI bs) (fun j => nI (cl j)) a5 a6 a7 (fun j => nI (fc j)) a9 (fun j => nI (mb j)) a11 a12 a13 a14 a15 a16 a17 a18 a19 a20 (nI az) v22 v23 v24 v25 v26 (nI bb) (fun j => nI (ct j)) (nI us) a30 a31 a32 a33 a34 a35 a36 a37 (fun j => nI (o65 j)) (fun j => nI (o66 j)) (nI o64) v41 (nI k68) v43 v44 v45) := hD
                        exact W.iret (v := (0 : Int32)) hx hb hr (fun t ht hW => ⟨⟨(0 : Int32), (o64, o65, o66, v43, v44, v45, (nI k68)), rfl, ⟨(by exact (zM.mk (by omega) (by first | trivial | omega | assumption | (refine ⟨?_, ?_⟩ <;> first | trivial | omega | assumption)))), (by exact Or.inr (Or.inr ⟨k68, by omega, rfl⟩)), (by intro h9; exact absurd h9 (Int32.not_lt.mpr cp98)), hbo65, hbo66⟩, by rw [ht]; exact hP9, va_K.moved hW.alike hK, hD9⟩, hS.F ht⟩) hS.2.2 dX7_links_278
                      · refine lv_iload hx hb dX7_links_267 (lv_at hl 1 rfl) ?_
                        refine lv_if_ne (tgt := 277) hx hb dX7_links_269 (by decide) (fun _ => ?_) (fun c9 => absurd c9 (by decide))
                        refine lv_iconst (v := 0) hx hb dX7_links_277 (by decide) ?_
                        have hP9 : va_P (dC, dI) vwCl (rW h0 r cI cJ cZ v0 a1 (nI tp) (nI bs) (fun j => nI (cl j)) a5 a6 a7 (fun j => nI (fc j)) a9 (fun j => nI (mb j)) a11 a12 a13 a14 a15 a16 a17 a18 a19 a20 (nI az) v22 v23 v24 v25 v26 (nI bb) (fun j => nI (ct j)) (nI us) a30 a31 a32 a33 a34 a35 a36 a37 (fun j => nI (o65 j)) (fun j => nI (o66 j)) (nI o64) v41 (nI k68) v43 v44 v45) H := hP
                        have hD9 : va_D A (rW h0 r cI cJ cZ v0 a1 (nI tp) (nI bs) (fun j => nI (cl j)) a5 a6 a7 (fun j => nI (fc j)) a9 (fun j => nI (mb j)) a11 a12 a13 a14 a15 a16 a17 a18 a19 a20 (nI az) v22 v23 v24 v25 v26 (nI bb) (fun j => nI (ct j)) (nI us) a30 a31 a32 a33 a34 a35 a36 a37 (fun j => nI (o65 j)) (fun j => nI (o66 j)) (nI o64) v41 (nI k68) v43 v44 v45) := hD
                        exact W.iret (v := (0 : Int32)) hx hb hr (fun t ht hW => ⟨⟨(0 : Int32), (o64, o65, o66, v43, v44, v45, (nI k68)), rfl, ⟨(by exact (zM.mk (by omega) (by first | trivial | omega | assumption | (refine ⟨?_, ?_⟩ <;> first | trivial | omega | assumption)))), (by exact Or.inr (Or.inr ⟨k68, by omega, rfl⟩)), (by intro h9; exact absurd h9 (Int32.not_lt.mpr cp98)), hbo65, hbo66⟩, by rw [ht]; exact hP9, va_K.moved hW.alike hK, hD9⟩, hS.F ht⟩) hS.2.2 dX7_links_278
                  · refine lv_iconst (v := 1) hx hb dX7_links_235 (by decide) ?_
                    refine lv_goto (tgt := 240) hx hb dX7_links_236 (by decide) ?_
                    refine lv_icmp_eq (tgt := 245) hx hb dX7_links_240 (by decide) (fun c9 => absurd c9 (by decide)) (fun _ => ?_)
                    refine lv_iconst (v := 4) hx hb dX7_links_243 (by decide) ?_
                    have hP9 : va_P (dC, dI) vwCl (rW h0 r cI cJ cZ v0 a1 (nI tp) (nI bs) (fun j => nI (cl j)) a5 a6 a7 (fun j => nI (fc j)) a9 (fun j => nI (mb j)) a11 a12 a13 a14 a15 a16 a17 a18 a19 a20 (nI az) v22 v23 v24 v25 v26 (nI bb) (fun j => nI (ct j)) (nI us) a30 a31 a32 a33 a34 a35 a36 a37 (fun j => nI (o65 j)) (fun j => nI (o66 j)) (nI o64) v41 (nI k68) v43 v44 v45) H := hP
                    have hD9 : va_D A (rW h0 r cI cJ cZ v0 a1 (nI tp) (nI bs) (fun j => nI (cl j)) a5 a6 a7 (fun j => nI (fc j)) a9 (fun j => nI (mb j)) a11 a12 a13 a14 a15 a16 a17 a18 a19 a20 (nI az) v22 v23 v24 v25 v26 (nI bb) (fun j => nI (ct j)) (nI us) a30 a31 a32 a33 a34 a35 a36 a37 (fun j => nI (o65 j)) (fun j => nI (o66 j)) (nI o64) v41 (nI k68) v43 v44 v45) := hD
                    exact W.iret (v := (4 : Int32)) hx hb hr (fun t ht hW => ⟨⟨(4 : Int32), (o64, o65, o66, v43, v44, v45, (nI k68)), rfl, ⟨(by exact (zM.mk (by omega) (by first | trivial | omega | assumption | (refine ⟨?_, ?_⟩ <;> first | trivial | omega | assumption)))), (by exact Or.inl (by decide)), (by first | (intro _; rfl) | (intro h9; exact absurd h9 (Int32.not_lt.mpr cp98))), hbo65, hbo66⟩, by rw [ht]; exact hP9, va_K.moved hW.alike hK, hD9⟩, hS.F ht⟩) hS.2.2 dX7_links_244
                · refine lv_iload hx hb dX7_links_219 (lv_at hl 1 rfl) ?_
                  refine lv_if_ne (tgt := 227) hx hb dX7_links_221 (by decide) (fun _ => ?_) (fun c9 => absurd c9 (by decide))
                  refine lv_iload hx hb dX7_links_227 (lv_at hl 0 rfl) ?_
                  refine lv_iload hx hb dX7_links_229 (lv_at hl 2 rfl) ?_
                  refine lv_iconst (v := 1) hx hb dX7_links_231 (by decide) ?_
                  refine lv_icmp_le (tgt := 239) hx hb dX7_links_232 (by decide) (fun cp232 => ?_) (fun cp232 => ?_)
                  · refine lv_iconst (v := 0) hx hb dX7_links_239 (by decide) ?_
                    refine lv_icmp_eq (tgt := 245) hx hb dX7_links_240 (by decide) (fun _ => ?_) (fun c9 => absurd (by decide) c9)
                    refine lv_iload hx hb dX7_links_245 (lv_at hl 2 rfl) ?_
                    refine lv_iconst (v := 1) hx hb dX7_links_247 (by decide) ?_
                    refine lv_iand hx hb dX7_links_248 ?_
                    refine lv_topi (fun x89 ex89 => ?_)
                    refine lv_iconst (v := 1) hx hb dX7_links_249 (by decide) ?_
                    refine lv_icmp_ne (tgt := 277) hx hb dX7_links_250 (by decide) (fun cp250 => ?_) (fun cp250 => ?_)
                    · refine lv_iconst (v := 0) hx hb dX7_links_277 (by decide) ?_
                      have hP9 : va_P (dC, dI) vwCl (rW h0 r cI cJ cZ v0 a1 (nI tp) (nI bs) (fun j => nI (cl j)) a5 a6 a7 (fun j => nI (fc j)) a9 (fun j => nI (mb j)) a11 a12 a13 a14 a15 a16 a17 a18 a19 a20 (nI az) v22 v23 v24 v25 v26 (nI bb) (fun j => nI (ct j)) (nI us) a30 a31 a32 a33 a34 a35 a36 a37 (fun j => nI (o65 j)) (fun j => nI (o66 j)) (nI o64) v41 (nI k68) v43 v44 v45) H := hP
                      have hD9 : va_D A (rW h0 r cI cJ cZ v0 a1 (nI tp) (nI bs) (fun j => nI (cl j)) a5 a6 a7 (fun j => nI (fc j)) a9 (fun j => nI (mb j)) a11 a12 a13 a14 a15 a16 a17 a18 a19 a20 (nI az) v22 v23 v24 v25 v26 (nI bb) (fun j => nI (ct j)) (nI us) a30 a31 a32 a33 a34 a35 a36 a37 (fun j => nI (o65 j)) (fun j => nI (o66 j)) (nI o64) v41 (nI k68) v43 v44 v45) := hD
                      exact W.iret (v := (0 : Int32)) hx hb hr (fun t ht hW => ⟨⟨(0 : Int32), (o64, o65, o66, v43, v44, v45, (nI k68)), rfl, ⟨(by exact (zM.mk (by omega) (by first | trivial | omega | assumption | (refine ⟨?_, ?_⟩ <;> first | trivial | omega | assumption)))), (by exact Or.inr (Or.inr ⟨k68, by omega, rfl⟩)), (by intro h9; exact absurd h9 (Int32.not_lt.mpr cp98)), hbo65, hbo66⟩, by rw [ht]; exact hP9, va_K.moved hW.alike hK, hD9⟩, hS.F ht⟩) hS.2.2 dX7_links_278
                    · refine lv_aload_n hx hb dX7_links_253 rfl (lv_at hl 6 rfl) ?_
                      refine va_get (D := (dC, dI)) (ci := 6) (v := .ref (r 14)) (C := RX7) (T := TX7) (N := 46) hx hb hts hiX7 hown hK hP 0 rfl rfl 14 (by decide) (hts (.fieldLink RX7 48 "LinkModelsModel" "marks" "[I") (by decide +kernel)) (fun _ h9 => h9) rfl dX7_links_254 ?_
                      refine lv_aload_n hx hb dX7_links_257 rfl (lv_at hl 6 rfl) ?_
                      refine va_get (D := (dC, dI)) (ci := 6) (v := .int (nI k68)) (C := RX7) (T := TX7) (N := 46) hx hb hts hiX7 hown hK hP 0 rfl rfl 42 (by decide) (hts (.fieldLink RX7 296 "LinkModelsModel" "linked" "I") (by decide +kernel)) (fun _ h9 => h9) rfl dX7_links_258 ?_
                      refine va_iald hx hb hK hP 12 0 rfl rfl (vp_in_nI (show k68 < 960 by omega) (by decide)) dX7_links_261 ?_
                      refine lv_topi (fun x90 ex90 => ?_)
                      obtain rfl : x90 = a14 k68 := by rw [ex90, nI_clamp (show k68 < 2 ^ 31 by omega)]
                      refine lv_iconst (v := 4) hx hb dX7_links_262 (by decide) ?_
                      refine lv_iand hx hb dX7_links_263 ?_
                      refine lv_topi (fun x91 ex91 => ?_)
                      refine lv_if_eq (tgt := 277) hx hb dX7_links_264 (by decide) (fun cp264 => ?_) (fun cp264 => ?_)
                      · refine lv_iconst (v := 0) hx hb dX7_links_277 (by decide) ?_
                        have hP9 : va_P (dC, dI) vwCl (rW h0 r cI cJ cZ v0 a1 (nI tp) (nI bs) (fun j => nI (cl j)) a5 a6 a7 (fun j => nI (fc j)) a9 (fun j => nI (mb j)) a11 a12 a13 a14 a15 a16 a17 a18 a19 a20 (nI az) v22 v23 v24 v25 v26 (nI bb) (fun j => nI (ct j)) (nI us) a30 a31 a32 a33 a34 a35 a36 a37 (fun j => nI (o65 j)) (fun j => nI (o66 j)) (nI o64) v41 (nI k68) v43 v44 v45) H := hP
                        have hD9 : va_D A (rW h0 r cI cJ cZ v0 a1 (nI tp) (nI bs) (fun j => nI (cl j)) a5 a6 a7 (fun j => nI (fc j)) a9 (fun j => nI (mb j)) a11 a12 a13 a14 a15 a16 a17 a18 a19 a20 (nI az) v22 v23 v24 v25 v26 (nI bb) (fun j => nI (ct j)) (nI us) a30 a31 a32 a33 a34 a35 a36 a37 (fun j => nI (o65 j)) (fun j => nI (o66 j)) (nI o64) v41 (nI k68) v43 v44 v45) := hD
                        exact W.iret (v := (0 : Int32)) hx hb hr (fun t ht hW => ⟨⟨(0 : Int32), (o64, o65, o66, v43, v44, v45, (nI k68)), rfl, ⟨(by exact (zM.mk (by omega) (by first | trivial | omega | assumption | (refine ⟨?_, ?_⟩ <;> first | trivial | omega | assumption)))), (by exact Or.inr (Or.inr ⟨k68, by omega, rfl⟩)), (by intro h9; exact absurd h9 (Int32.not_lt.mpr cp98)), hbo65, hbo66⟩, by rw [ht]; exact hP9, va_K.moved hW.alike hK, hD9⟩, hS.F ht⟩) hS.2.2 dX7_links_278
                      · refine lv_iload hx hb dX7_links_267 (lv_at hl 1 rfl) ?_
                        refine lv_if_ne (tgt := 277) hx hb dX7_links_269 (by decide) (fun _ => ?_) (fun c9 => absurd c9 (by decide))
                        refine lv_iconst (v := 0) hx hb dX7_links_277 (by decide) ?_
                        have hP9 : va_P (dC, dI) vwCl (rW h0 r cI cJ cZ v0 a1 (nI tp) (nI bs) (fun j => nI (cl j)) a5 a6 a7 (fun j => nI (fc j)) a9 (fun j => nI (mb j)) a11 a12 a13 a14 a15 a16 a17 a18 a19 a20 (nI az) v22 v23 v24 v25 v26 (nI bb) (fun j => nI (ct j)) (nI us) a30 a31 a32 a33 a34 a35 a36 a37 (fun j => nI (o65 j)) (fun j => nI (o66 j)) (nI o64) v41 (nI k68) v43 v44 v45) H := hP
                        have hD9 : va_D A (rW h0 r cI cJ cZ v0 a1 (nI tp) (nI bs) (fun j => nI (cl j)) a5 a6 a7 (fun j => nI (fc j)) a9 (fun j => nI (mb j)) a11 a12 a13 a14 a15 a16 a17 a18 a19 a20 (nI az) v22 v23 v24 v25 v26 (nI bb) (fun j => nI (ct j)) (nI us) a30 a31 a32 a33 a34 a35 a36 a37 (fun j => nI (o65 j)) (fun j => nI (o66 j)) (nI o64) v41 (nI k68) v43 v44 v45) := hD
                        exact W.iret (v := (0 : Int32)) hx hb hr (fun t ht hW => ⟨⟨(0 : Int32), (o64, o65, o66, v43, v44, v45, (nI k68)), rfl, ⟨(by exact (zM.mk (by omega) (by first | trivial | omega | assumption | (refine ⟨?_, ?_⟩ <;> first | trivial | omega | assumption)))), (by exact Or.inr (Or.inr ⟨k68, by omega, rfl⟩)), (by intro h9; exact absurd h9 (Int32.not_lt.mpr cp98)), hbo65, hbo66⟩, by rw [ht]; exact hP9, va_K.moved hW.alike hK, hD9⟩, hS.F ht⟩) hS.2.2 dX7_links_278
                  · refine lv_iconst (v := 1) hx hb dX7_links_235 (by decide) ?_
                    refine lv_goto (tgt := 240) hx hb dX7_links_236 (by decide) ?_
                    refine lv_icmp_eq (tgt := 245) hx hb dX7_links_240 (by decide) (fun c9 => absurd c9 (by decide)) (fun _ => ?_)
                    refine lv_iconst (v := 4) hx hb dX7_links_243 (by decide) ?_
                    have hP9 : va_P (dC, dI) vwCl (rW h0 r cI cJ cZ v0 a1 (nI tp) (nI bs) (fun j => nI (cl j)) a5 a6 a7 (fun j => nI (fc j)) a9 (fun j => nI (mb j)) a11 a12 a13 a14 a15 a16 a17 a18 a19 a20 (nI az) v22 v23 v24 v25 v26 (nI bb) (fun j => nI (ct j)) (nI us) a30 a31 a32 a33 a34 a35 a36 a37 (fun j => nI (o65 j)) (fun j => nI (o66 j)) (nI o64) v41 (nI k68) v43 v44 v45) H := hP
                    have hD9 : va_D A (rW h0 r cI cJ cZ v0 a1 (nI tp) (nI bs) (fun j => nI (cl j)) a5 a6 a7 (fun j => nI (fc j)) a9 (fun j => nI (mb j)) a11 a12 a13 a14 a15 a16 a17 a18 a19 a20 (nI az) v22 v23 v24 v25 v26 (nI bb) (fun j => nI (ct j)) (nI us) a30 a31 a32 a33 a34 a35 a36 a37 (fun j => nI (o65 j)) (fun j => nI (o66 j)) (nI o64) v41 (nI k68) v43 v44 v45) := hD
                    exact W.iret (v := (4 : Int32)) hx hb hr (fun t ht hW => ⟨⟨(4 : Int32), (o64, o65, o66, v43, v44, v45, (nI k68)), rfl, ⟨(by exact (zM.mk (by omega) (by first | trivial | omega | assumption | (refine ⟨?_, ?_⟩ <;> first | trivial | omega | assumption)))), (by exact Or.inl (by decide)), (by first | (intro _; rfl) | (intro h9; exact absurd h9 (Int32.not_lt.mpr cp98))), hbo65, hbo66⟩, by rw [ht]; exact hP9, va_K.moved hW.alike hK, hD9⟩, hS.F ht⟩) hS.2.2 dX7_links_244
              · refine lv_iconst (v := 1) hx hb dX7_links_198 (by decide) ?_
                refine lv_goto (tgt := 203) hx hb dX7_links_199 (by decide) ?_
                refine lv_istore (lv' := [(8, .int 1), (7, .int 1), (6, .int (a30 uu)), (5, .int (nI ((16 * bd) + c9))), (4, .int (nI ((16 * bd) + c8))), (3, .int r4), (0, .ref h0), (1, .int (nI bd)), (2, .int (nI uu))]) hx hb dX7_links_203 hl (by decide) rfl (fun ls hl => ?_)
                refine lv_aload_n hx hb dX7_links_205 rfl (lv_at hl 6 rfl) ?_
                refine va_get (D := (dC, dI)) (ci := 6) (v := .ref (r 14)) (C := RX7) (T := TX7) (N := 46) hx hb hts hiX7 hown hK hP 0 rfl rfl 14 (by decide) (hts (.fieldLink RX7 48 "LinkModelsModel" "marks" "[I") (by decide +kernel)) (fun _ h9 => h9) rfl dX7_links_206 ?_
                refine lv_aload_n hx hb dX7_links_209 rfl (lv_at hl 6 rfl) ?_
                refine va_get (D := (dC, dI)) (ci := 6) (v := .int (nI k68)) (C := RX7) (T := TX7) (N := 46) hx hb hts hiX7 hown hK hP 0 rfl rfl 42 (by decide) (hts (.fieldLink RX7 296 "LinkModelsModel" "linked" "I") (by decide +kernel)) (fun _ h9 => h9) rfl dX7_links_210 ?_
                refine va_iald hx hb hK hP 12 0 rfl rfl (vp_in_nI (show k68 < 960 by omega) (by decide)) dX7_links_213 ?_
                refine lv_topi (fun x92 ex92 => ?_)
                obtain rfl : x92 = a14 k68 := by rw [ex92, nI_clamp (show k68 < 2 ^ 31 by omega)]
                refine lv_iconst (v := 2) hx hb dX7_links_214 (by decide) ?_
                refine lv_iand hx hb dX7_links_215 ?_
                refine lv_topi (fun x93 ex93 => ?_)
                refine lv_if_eq (tgt := 227) hx hb dX7_links_216 (by decide) (fun cp216 => ?_) (fun cp216 => ?_)
                · refine lv_iload hx hb dX7_links_227 (lv_at hl 0 rfl) ?_
                  refine lv_iload hx hb dX7_links_229 (lv_at hl 2 rfl) ?_
                  refine lv_iconst (v := 1) hx hb dX7_links_231 (by decide) ?_
                  refine lv_icmp_le (tgt := 239) hx hb dX7_links_232 (by decide) (fun cp232 => ?_) (fun cp232 => ?_)
                  · refine lv_iconst (v := 0) hx hb dX7_links_239 (by decide) ?_
                    refine lv_icmp_eq (tgt := 245) hx hb dX7_links_240 (by decide) (fun c9 => absurd c9 (by decide)) (fun _ => ?_)
                    refine lv_iconst (v := 4) hx hb dX7_links_243 (by decide) ?_
                    have hP9 : va_P (dC, dI) vwCl (rW h0 r cI cJ cZ v0 a1 (nI tp) (nI bs) (fun j => nI (cl j)) a5 a6 a7 (fun j => nI (fc j)) a9 (fun j => nI (mb j)) a11 a12 a13 a14 a15 a16 a17 a18 a19 a20 (nI az) v22 v23 v24 v25 v26 (nI bb) (fun j => nI (ct j)) (nI us) a30 a31 a32 a33 a34 a35 a36 a37 (fun j => nI (o65 j)) (fun j => nI (o66 j)) (nI o64) v41 (nI k68) v43 v44 v45) H := hP
                    have hD9 : va_D A (rW h0 r cI cJ cZ v0 a1 (nI tp) (nI bs) (fun j => nI (cl j)) a5 a6 a7 (fun j => nI (fc j)) a9 (fun j => nI (mb j)) a11 a12 a13 a14 a15 a16 a17 a18 a19 a20 (nI az) v22 v23 v24 v25 v26 (nI bb) (fun j => nI (ct j)) (nI us) a30 a31 a32 a33 a34 a35 a36 a37 (fun j => nI (o65 j)) (fun j => nI (o66 j)) (nI o64) v41 (nI k68) v43 v44 v45) := hD
                    exact W.iret (v := (4 : Int32)) hx hb hr (fun t ht hW => ⟨⟨(4 : Int32), (o64, o65, o66, v43, v44, v45, (nI k68)), rfl, ⟨(by exact (zM.mk (by omega) (by first | trivial | omega | assumption | (refine ⟨?_, ?_⟩ <;> first | trivial | omega | assumption)))), (by exact Or.inl (by decide)), (by first | (intro _; rfl) | (intro h9; exact absurd h9 (Int32.not_lt.mpr cp98))), hbo65, hbo66⟩, by rw [ht]; exact hP9, va_K.moved hW.alike hK, hD9⟩, hS.F ht⟩) hS.2.2 dX7_links_244
                  · refine lv_iconst (v := 1) hx hb dX7_links_235 (by decide) ?_
                    refine lv_goto (tgt := 240) hx hb dX7_links_236 (by decide) ?_
                    refine lv_icmp_eq (tgt := 245) hx hb dX7_links_240 (by decide) (fun _ => ?_) (fun c9 => absurd (by decide) c9)
                    refine lv_iload hx hb dX7_links_245 (lv_at hl 2 rfl) ?_
                    refine lv_iconst (v := 1) hx hb dX7_links_247 (by decide) ?_
                    refine lv_iand hx hb dX7_links_248 ?_
                    refine lv_topi (fun x94 ex94 => ?_)
                    refine lv_iconst (v := 1) hx hb dX7_links_249 (by decide) ?_
                    refine lv_icmp_ne (tgt := 277) hx hb dX7_links_250 (by decide) (fun cp250 => ?_) (fun cp250 => ?_)
                    · refine lv_iconst (v := 0) hx hb dX7_links_277 (by decide) ?_
                      have hP9 : va_P (dC, dI) vwCl (rW h0 r cI cJ cZ v0 a1 (nI tp) (nI bs) (fun j => nI (cl j)) a5 a6 a7 (fun j => nI (fc j)) a9 (fun j => nI (mb j)) a11 a12 a13 a14 a15 a16 a17 a18 a19 a20 (nI az) v22 v23 v24 v25 v26 (nI bb) (fun j => nI (ct j)) (nI us) a30 a31 a32 a33 a34 a35 a36 a37 (fun j => nI (o65 j)) (fun j => nI (o66 j)) (nI o64) v41 (nI k68) v43 v44 v45) H := hP
                      have hD9 : va_D A (rW h0 r cI cJ cZ v0 a1 (nI tp) (nI bs) (fun j => nI (cl j)) a5 a6 a7 (fun j => nI (fc j)) a9 (fun j => nI (mb j)) a11 a12 a13 a14 a15 a16 a17 a18 a19 a20 (nI az) v22 v23 v24 v25 v26 (nI bb) (fun j => nI (ct j)) (nI us) a30 a31 a32 a33 a34 a35 a36 a37 (fun j => nI (o65 j)) (fun j => nI (o66 j)) (nI o64) v41 (nI k68) v43 v44 v45) := hD
                      exact W.iret (v := (0 : Int32)) hx hb hr (fun t ht hW => ⟨⟨(0 : Int32), (o64, o65, o66, v43, v44, v45, (nI k68)), rfl, ⟨(by exact (zM.mk (by omega) (by first | trivial | omega | assumption | (refine ⟨?_, ?_⟩ <;> first | trivial | omega | assumption)))), (by exact Or.inr (Or.inr ⟨k68, by omega, rfl⟩)), (by intro h9; exact absurd h9 (Int32.not_lt.mpr cp98)), hbo65, hbo66⟩, by rw [ht]; exact hP9, va_K.moved hW.alike hK, hD9⟩, hS.F ht⟩) hS.2.2 dX7_links_278
                    · refine lv_aload_n hx hb dX7_links_253 rfl (lv_at hl 6 rfl) ?_
                      refine va_get (D := (dC, dI)) (ci := 6) (v := .ref (r 14)) (C := RX7) (T := TX7) (N := 46) hx hb hts hiX7 hown hK hP 0 rfl rfl 14 (by decide) (hts (.fieldLink RX7 48 "LinkModelsModel" "marks" "[I") (by decide +kernel)) (fun _ h9 => h9) rfl dX7_links_254 ?_
                      refine lv_aload_n hx hb dX7_links_257 rfl (lv_at hl 6 rfl) ?_
                      refine va_get (D := (dC, dI)) (ci := 6) (v := .int (nI k68)) (C := RX7) (T := TX7) (N := 46) hx hb hts hiX7 hown hK hP 0 rfl rfl 42 (by decide) (hts (.fieldLink RX7 296 "LinkModelsModel" "linked" "I") (by decide +kernel)) (fun _ h9 => h9) rfl dX7_links_258 ?_
                      refine va_iald hx hb hK hP 12 0 rfl rfl (vp_in_nI (show k68 < 960 by omega) (by decide)) dX7_links_261 ?_
                      refine lv_topi (fun x95 ex95 => ?_)
                      obtain rfl : x95 = a14 k68 := by rw [ex95, nI_clamp (show k68 < 2 ^ 31 by omega)]
                      refine lv_iconst (v := 4) hx hb dX7_links_262 (by decide) ?_
                      refine lv_iand hx hb dX7_links_263 ?_
                      refine lv_topi (fun x96 ex96 => ?_)
                      refine lv_if_eq (tgt := 277) hx hb dX7_links_264 (by decide) (fun cp264 => ?_) (fun cp264 => ?_)
                      · refine lv_iconst (v := 0) hx hb dX7_links_277 (by decide) ?_
                        have hP9 : va_P (dC, dI) vwCl (rW h0 r cI cJ cZ v0 a1 (nI tp) (nI bs) (fun j => nI (cl j)) a5 a6 a7 (fun j => nI (fc j)) a9 (fun j => nI (mb j)) a11 a12 a13 a14 a15 a16 a17 a18 a19 a20 (nI az) v22 v23 v24 v25 v26 (nI bb) (fun j => nI (ct j)) (nI us) a30 a31 a32 a33 a34 a35 a36 a37 (fun j => nI (o65 j)) (fun j => nI (o66 j)) (nI o64) v41 (nI k68) v43 v44 v45) H := hP
                        have hD9 : va_D A (rW h0 r cI cJ cZ v0 a1 (nI tp) (nI bs) (fun j => nI (cl j)) a5 a6 a7 (fun j => nI (fc j)) a9 (fun j => nI (mb j)) a11 a12 a13 a14 a15 a16 a17 a18 a19 a20 (nI az) v22 v23 v24 v25 v26 (nI bb) (fun j => nI (ct j)) (nI us) a30 a31 a32 a33 a34 a35 a36 a37 (fun j => nI (o65 j)) (fun j => nI (o66 j)) (nI o64) v41 (nI k68) v43 v44 v45) := hD
                        exact W.iret (v := (0 : Int32)) hx hb hr (fun t ht hW => ⟨⟨(0 : Int32), (o64, o65, o66, v43, v44, v45, (nI k68)), rfl, ⟨(by exact (zM.mk (by omega) (by first | trivial | omega | assumption | (refine ⟨?_, ?_⟩ <;> first | trivial | omega | assumption)))), (by exact Or.inr (Or.inr ⟨k68, by omega, rfl⟩)), (by intro h9; exact absurd h9 (Int32.not_lt.mpr cp98)), hbo65, hbo66⟩, by rw [ht]; exact hP9, va_K.moved hW.alike hK, hD9⟩, hS.F ht⟩) hS.2.2 dX7_links_278
                      · refine lv_iload hx hb dX7_links_267 (lv_at hl 1 rfl) ?_
                        refine lv_if_ne (tgt := 277) hx hb dX7_links_269 (by decide) (fun _ => ?_) (fun c9 => absurd c9 (by decide))
                        refine lv_iconst (v := 0) hx hb dX7_links_277 (by decide) ?_
                        have hP9 : va_P (dC, dI) vwCl (rW h0 r cI cJ cZ v0 a1 (nI tp) (nI bs) (fun j => nI (cl j)) a5 a6 a7 (fun j => nI (fc j)) a9 (fun j => nI (mb j)) a11 a12 a13 a14 a15 a16 a17 a18 a19 a20 (nI az) v22 v23 v24 v25 v26 (nI bb) (fun j => nI (ct j)) (nI us) a30 a31 a32 a33 a34 a35 a36 a37 (fun j => nI (o65 j)) (fun j => nI (o66 j)) (nI o64) v41 (nI k68) v43 v44 v45) H := hP
                        have hD9 : va_D A (rW h0 r cI cJ cZ v0 a1 (nI tp) (nI bs) (fun j => nI (cl j)) a5 a6 a7 (fun j => nI (fc j)) a9 (fun j => nI (mb j)) a11 a12 a13 a14 a15 a16 a17 a18 a19 a20 (nI az) v22 v23 v24 v25 v26 (nI bb) (fun j => nI (ct j)) (nI us) a30 a31 a32 a33 a34 a35 a36 a37 (fun j => nI (o65 j)) (fun j => nI (o66 j)) (nI o64) v41 (nI k68) v43 v44 v45) := hD
                        exact W.iret (v := (0 : Int32)) hx hb hr (fun t ht hW => ⟨⟨(0 : Int32), (o64, o65, o66, v43, v44, v45, (nI k68)), rfl, ⟨(by exact (zM.mk (by omega) (by first | trivial | omega | assumption | (refine ⟨?_, ?_⟩ <;> first | trivial | omega | assumption)))), (by exact Or.inr (Or.inr ⟨k68, by omega, rfl⟩)), (by intro h9; exact absurd h9 (Int32.not_lt.mpr cp98)), hbo65, hbo66⟩, by rw [ht]; exact hP9, va_K.moved hW.alike hK, hD9⟩, hS.F ht⟩) hS.2.2 dX7_links_278
                · refine lv_iload hx hb dX7_links_219 (lv_at hl 1 rfl) ?_
                  refine lv_if_ne (tgt := 227) hx hb dX7_links_221 (by decide) (fun _ => ?_) (fun c9 => absurd c9 (by decide))
                  refine lv_iload hx hb dX7_links_227 (lv_at hl 0 rfl) ?_
                  refine lv_iload hx hb dX7_links_229 (lv_at hl 2 rfl) ?_
                  refine lv_iconst (v := 1) hx hb dX7_links_231 (by decide) ?_
                  refine lv_icmp_le (tgt := 239) hx hb dX7_links_232 (by decide) (fun cp232 => ?_) (fun cp232 => ?_)
                  · refine lv_iconst (v := 0) hx hb dX7_links_239 (by decide) ?_
                    refine lv_icmp_eq (tgt := 245) hx hb dX7_links_240 (by decide) (fun c9 => absurd c9 (by decide)) (fun _ => ?_)
                    refine lv_iconst (v := 4) hx hb dX7_links_243 (by decide) ?_
                    have hP9 : va_P (dC, dI) vwCl (rW h0 r cI cJ cZ v0 a1 (nI tp) (nI bs) (fun j => nI (cl j)) a5 a6 a7 (fun j => nI (fc j)) a9 (fun j => nI (mb j)) a11 a12 a13 a14 a15 a16 a17 a18 a19 a20 (nI az) v22 v23 v24 v25 v26 (nI bb) (fun j => nI (ct j)) (nI us) a30 a31 a32 a33 a34 a35 a36 a37 (fun j => nI (o65 j)) (fun j => nI (o66 j)) (nI o64) v41 (nI k68) v43 v44 v45) H := hP
                    have hD9 : va_D A (rW h0 r cI cJ cZ v0 a1 (nI tp) (nI bs) (fun j => nI (cl j)) a5 a6 a7 (fun j => nI (fc j)) a9 (fun j => nI (mb j)) a11 a12 a13 a14 a15 a16 a17 a18 a19 a20 (nI az) v22 v23 v24 v25 v26 (nI bb) (fun j => nI (ct j)) (nI us) a30 a31 a32 a33 a34 a35 a36 a37 (fun j => nI (o65 j)) (fun j => nI (o66 j)) (nI o64) v41 (nI k68) v43 v44 v45) := hD
                    exact W.iret (v := (4 : Int32)) hx hb hr (fun t ht hW => ⟨⟨(4 : Int32), (o64, o65, o66, v43, v44, v45, (nI k68)), rfl, ⟨(by exact (zM.mk (by omega) (by first | trivial | omega | assumption | (refine ⟨?_, ?_⟩ <;> first | trivial | omega | assumption)))), (by exact Or.inl (by decide)), (by first | (intro _; rfl) | (intro h9; exact absurd h9 (Int32.not_lt.mpr cp98))), hbo65, hbo66⟩, by rw [ht]; exact hP9, va_K.moved hW.alike hK, hD9⟩, hS.F ht⟩) hS.2.2 dX7_links_244
                  · refine lv_iconst (v := 1) hx hb dX7_links_235 (by decide) ?_
                    refine lv_goto (tgt := 240) hx hb dX7_links_236 (by decide) ?_
                    refine lv_icmp_eq (tgt := 245) hx hb dX7_links_240 (by decide) (fun _ => ?_) (fun c9 => absurd (by decide) c9)
                    refine lv_iload hx hb dX7_links_245 (lv_at hl 2 rfl) ?_
                    refine lv_iconst (v := 1) hx hb dX7_links_247 (by decide) ?_
                    refine lv_iand hx hb dX7_links_248 ?_
                    refine lv_topi (fun x97 ex97 => ?_)
                    refine lv_iconst (v := 1) hx hb dX7_links_249 (by decide) ?_
                    refine lv_icmp_ne (tgt := 277) hx hb dX7_links_250 (by decide) (fun cp250 => ?_) (fun cp250 => ?_)
                    · refine lv_iconst (v := 0) hx hb dX7_links_277 (by decide) ?_
                      have hP9 : va_P (dC, dI) vwCl (rW h0 r cI cJ cZ v0 a1 (nI tp) (nI bs) (fun j => nI (cl j)) a5 a6 a7 (fun j => nI (fc j)) a9 (fun j => nI (mb j)) a11 a12 a13 a14 a15 a16 a17 a18 a19 a20 (nI az) v22 v23 v24 v25 v26 (nI bb) (fun j => nI (ct j)) (nI us) a30 a31 a32 a33 a34 a35 a36 a37 (fun j => nI (o65 j)) (fun j => nI (o66 j)) (nI o64) v41 (nI k68) v43 v44 v45) H := hP
                      have hD9 : va_D A (rW h0 r cI cJ cZ v0 a1 (nI tp) (nI bs) (fun j => nI (cl j)) a5 a6 a7 (fun j => nI (fc j)) a9 (fun j => nI (mb j)) a11 a12 a13 a14 a15 a16 a17 a18 a19 a20 (nI az) v22 v23 v24 v25 v26 (nI bb) (fun j => nI (ct j)) (nI us) a30 a31 a32 a33 a34 a35 a36 a37 (fun j => nI (o65 j)) (fun j => nI (o66 j)) (nI o64) v41 (nI k68) v43 v44 v45) := hD
                      exact W.iret (v := (0 : Int32)) hx hb hr (fun t ht hW => ⟨⟨(0 : Int32), (o64, o65, o66, v43, v44, v45, (nI k68)), rfl, ⟨(by exact (zM.mk (by omega) (by first | trivial | omega | assumption | (refine ⟨?_, ?_⟩ <;> first | trivial | omega | assumption)))), (by exact Or.inr (Or.inr ⟨k68, by omega, rfl⟩)), (by intro h9; exact absurd h9 (Int32.not_lt.mpr cp98)), hbo65, hbo66⟩, by rw [ht]; exact hP9, va_K.moved hW.alike hK, hD9⟩, hS.F ht⟩) hS.2.2 dX7_links_278
                    · refine lv_aload_n hx hb dX7_links_253 rfl (lv_at hl 6 rfl) ?_
                      refine va_get (D := (dC, dI)) (ci := 6) (v := .ref (r 14)) (C := RX7) (T := TX7) (N := 46) hx hb hts hiX7 hown hK hP 0 rfl rfl 14 (by decide) (hts (.fieldLink RX7 48 "LinkModelsModel" "marks" "[I") (by decide +kernel)) (fun _ h9 => h9) rfl dX7_links_254 ?_
                      refine lv_aload_n hx hb dX7_links_257 rfl (lv_at hl 6 rfl) ?_
                      refine va_get (D := (dC, dI)) (ci := 6) (v := .int (nI k68)) (C := RX7) (T := TX7) (N := 46) hx hb hts hiX7 hown hK hP 0 rfl rfl 42 (by decide) (hts (.fieldLink RX7 296 "LinkModelsModel" "linked" "I") (by decide +kernel)) (fun _ h9 => h9) rfl dX7_links_258 ?_
                      refine va_iald hx hb hK hP 12 0 rfl rfl (vp_in_nI (show k68 < 960 by omega) (by decide)) dX7_links_261 ?_
                      refine lv_topi (fun x98 ex98 => ?_)
                      obtain rfl : x98 = a14 k68 := by rw [ex98, nI_clamp (show k68 < 2 ^ 31 by omega)]
                      refine lv_iconst (v := 4) hx hb dX7_links_262 (by decide) ?_
                      refine lv_iand hx hb dX7_links_263 ?_
                      refine lv_topi (fun x99 ex99 => ?_)
                      refine lv_if_eq (tgt := 277) hx hb dX7_links_264 (by decide) (fun cp264 => ?_) (fun cp264 => ?_)
                      · refine lv_iconst (v := 0) hx hb dX7_links_277 (by decide) ?_
                        have hP9 : va_P (dC, dI) vwCl (rW h0 r cI cJ cZ v0 a1 (nI tp) (nI bs) (fun j => nI (cl j)) a5 a6 a7 (fun j => nI (fc j)) a9 (fun j => nI (mb j)) a11 a12 a13 a14 a15 a16 a17 a18 a19 a20 (nI az) v22 v23 v24 v25 v26 (nI bb) (fun j => nI (ct j)) (nI us) a30 a31 a32 a33 a34 a35 a36 a37 (fun j => nI (o65 j)) (fun j => nI (o66 j)) (nI o64) v41 (nI k68) v43 v44 v45) H := hP
                        have hD9 : va_D A (rW h0 r cI cJ cZ v0 a1 (nI tp) (nI bs) (fun j => nI (cl j)) a5 a6 a7 (fun j => nI (fc j)) a9 (fun j => nI (mb j)) a11 a12 a13 a14 a15 a16 a17 a18 a19 a20 (nI az) v22 v23 v24 v25 v26 (nI bb) (fun j => nI (ct j)) (nI us) a30 a31 a32 a33 a34 a35 a36 a37 (fun j => nI (o65 j)) (fun j => nI (o66 j)) (nI o64) v41 (nI k68) v43 v44 v45) := hD
                        exact W.iret (v := (0 : Int32)) hx hb hr (fun t ht hW => ⟨⟨(0 : Int32), (o64, o65, o66, v43, v44, v45, (nI k68)), rfl, ⟨(by exact (zM.mk (by omega) (by first | trivial | omega | assumption | (refine ⟨?_, ?_⟩ <;> first | trivial | omega | assumption)))), (by exact Or.inr (Or.inr ⟨k68, by omega, rfl⟩)), (by intro h9; exact absurd h9 (Int32.not_lt.mpr cp98)), hbo65, hbo66⟩, by rw [ht]; exact hP9, va_K.moved hW.alike hK, hD9⟩, hS.F ht⟩) hS.2.2 dX7_links_278
                      · refine lv_iload hx hb dX7_links_267 (lv_at hl 1 rfl) ?_
                        refine lv_if_ne (tgt := 277) hx hb dX7_links_269 (by decide) (fun _ => ?_) (fun c9 => absurd c9 (by decide))
                        refine lv_iconst (v := 0) hx hb dX7_links_277 (by decide) ?_
                        have hP9 : va_P (dC, dI) vwCl (rW h0 r cI cJ cZ v0 a1 (nI tp) (nI bs) (fun j => nI (cl j)) a5 a6 a7 (fun j => nI (fc j)) a9 (fun j => nI (mb j)) a11 a12 a13 a14 a15 a16 a17 a18 a19 a20 (nI az) v22 v23 v24 v25 v26 (nI bb) (fun j => nI (ct j)) (nI us) a30 a31 a32 a33 a34 a35 a36 a37 (fun j => nI (o65 j)) (fun j => nI (o66 j)) (nI o64) v41 (nI k68) v43 v44 v45) H := hP
                        have hD9 : va_D A (rW h0 r cI cJ cZ v0 a1 (nI tp) (nI bs) (fun j => nI (cl j)) a5 a6 a7 (fun j => nI (fc j)) a9 (fun j => nI (mb j)) a11 a12 a13 a14 a15 a16 a17 a18 a19 a20 (nI az) v22 v23 v24 v25 v26 (nI bb) (fun j => nI (ct j)) (nI us) a30 a31 a32 a33 a34 a35 a36 a37 (fun j => nI (o65 j)) (fun j => nI (o66 j)) (nI o64) v41 (nI k68) v43 v44 v45) := hD
                        exact W.iret (v := (0 : Int32)) hx hb hr (fun t ht hW => ⟨⟨(0 : Int32), (o64, o65, o66, v43, v44, v45, (nI k68)), rfl, ⟨(by exact (zM.mk (by omega) (by first | trivial | omega | assumption | (refine ⟨?_, ?_⟩ <;> first | trivial | omega | assumption)))), (by exact Or.inr (Or.inr ⟨k68, by omega, rfl⟩)), (by intro h9; exact absurd h9 (Int32.not_lt.mpr cp98)), hbo65, hbo66⟩, by rw [ht]; exact hP9, va_K.moved hW.alike hK, hD9⟩, hS.F ht⟩) hS.2.2 dX7_links_278
          · obtain rfl : r63 = -1 := zM.neg' w0r63 cp159
            refine lv_bipush (v := 7) hx hb dX7_links_162 (by decide) ?_
            have hP9 : va_P (dC, dI) vwCl (rW h0 r cI cJ cZ v0 a1 (nI tp) (nI bs) (fun j => nI (cl j)) a5 a6 a7 (fun j => nI (fc j)) a9 (fun j => nI (mb j)) a11 a12 a13 a14 a15 a16 a17 a18 a19 a20 (nI az) v22 v23 v24 v25 v26 (nI bb) (fun j => nI (ct j)) (nI us) a30 a31 a32 a33 a34 a35 a36 a37 (fun j => nI (o65 j)) (fun j => nI (o66 j)) (nI o64) v41 (-1) v43 v44 v45) H := hP
            have hD9 : va_D A (rW h0 r cI cJ cZ v0 a1 (nI tp) (nI bs) (fun j => nI (cl j)) a5 a6 a7 (fun j => nI (fc j)) a9 (fun j => nI (mb j)) a11 a12 a13 a14 a15 a16 a17 a18 a19 a20 (nI az) v22 v23 v24 v25 v26 (nI bb) (fun j => nI (ct j)) (nI us) a30 a31 a32 a33 a34 a35 a36 a37 (fun j => nI (o65 j)) (fun j => nI (o66 j)) (nI o64) v41 (-1) v43 v44 v45) := hD
            exact W.iret (v := (7 : Int32)) hx hb hr (fun t ht hW => ⟨⟨(7 : Int32), (o64, o65, o66, v43, v44, v45, (-1)), rfl, ⟨(by exact (Or.inl rfl)), (by exact Or.inl (by decide)), (by first | (intro _; rfl) | (intro h9; exact absurd h9 (Int32.not_lt.mpr cp98))), hbo65, hbo66⟩, by rw [ht]; exact hP9, va_K.moved hW.alike hK, hD9⟩, hS.F ht⟩) hS.2.2 dX7_links_164
      · refine lv_iload hx hb dX7_links_101 (lv_at hl 0 rfl) ?_
        refine lv_bipush (v := 8) hx hb dX7_links_103 (by decide) ?_
        refine lv_icmp_ne (tgt := 135) hx hb dX7_links_105 (by decide) (fun cp105 => ?_) (fun cp105 => ?_)
        · refine lv_iconst (v := 0) hx hb dX7_links_135 (by decide) ?_
          have hP9 : va_P (dC, dI) vwCl (rW h0 r cI cJ cZ v0 a1 (nI tp) (nI bs) (fun j => nI (cl j)) a5 a6 a7 (fun j => nI (fc j)) a9 (fun j => nI (mb j)) a11 a12 a13 a14 a15 a16 a17 a18 a19 a20 (nI az) v22 v23 v24 v25 v26 (nI bb) (fun j => nI (ct j)) (nI us) a30 a31 a32 a33 a34 a35 a36 a37 (fun j => nI (pil j)) (fun j => nI (rwv j)) (nI rl) v41 (-1) v43 v44 v45) H := hP
          have hD9 : va_D A (rW h0 r cI cJ cZ v0 a1 (nI tp) (nI bs) (fun j => nI (cl j)) a5 a6 a7 (fun j => nI (fc j)) a9 (fun j => nI (mb j)) a11 a12 a13 a14 a15 a16 a17 a18 a19 a20 (nI az) v22 v23 v24 v25 v26 (nI bb) (fun j => nI (ct j)) (nI us) a30 a31 a32 a33 a34 a35 a36 a37 (fun j => nI (pil j)) (fun j => nI (rwv j)) (nI rl) v41 (-1) v43 v44 v45) := hD
          exact W.iret (v := (0 : Int32)) hx hb hr (fun t ht hW => ⟨⟨(0 : Int32), (rl, pil, rwv, v43, v44, v45, (-1)), rfl, ⟨(by exact (Or.inl rfl)), (by exact Or.inr (Or.inl (Int32.not_le.mp cp98))), (by intro _; rfl), hpil, hrwv⟩, by rw [ht]; exact hP9, va_K.moved hW.alike hK, hD9⟩, hS.F ht⟩) hS.2.2 dX7_links_136
        · refine lv_aload_n hx hb dX7_links_108 rfl (lv_at hl 4 rfl) ?_
          refine va_get (D := (dC, dI)) (ci := 6) (v := .ref (r 6)) (C := RX7) (T := TX7) (N := 46) hx hb hts hiX7 hown hK hP 0 rfl rfl 6 (by decide) (hts (.fieldLink RX7 23 "LinkModelsModel" "sort" "[I") (by decide +kernel)) (fun _ h9 => h9) rfl dX7_links_109 ?_
          refine lv_iload hx hb dX7_links_112 (lv_at hl 2 rfl) ?_
          refine va_iald hx hb hK hP 4 0 rfl rfl (vp_in_nI (show (16 * bd) + c8 < 80 by omega) (by decide)) dX7_links_114 ?_
          refine lv_topi (fun x100 ex100 => ?_)
          obtain rfl : x100 = a6 ((16 * bd) + c8) := by rw [ex100, nI_clamp (show (16 * bd) + c8 < 2 ^ 31 by omega)]
          refine lv_iconst (v := 1) hx hb dX7_links_115 (by decide) ?_
          refine lv_icmp_eq (tgt := 130) hx hb dX7_links_116 (by decide) (fun cp116 => ?_) (fun cp116 => ?_)
          · refine lv_bipush (v := 6) hx hb dX7_links_130 (by decide) ?_
            refine lv_goto (tgt := 136) hx hb dX7_links_132 (by decide) ?_
            have hP9 : va_P (dC, dI) vwCl (rW h0 r cI cJ cZ v0 a1 (nI tp) (nI bs) (fun j => nI (cl j)) a5 a6 a7 (fun j => nI (fc j)) a9 (fun j => nI (mb j)) a11 a12 a13 a14 a15 a16 a17 a18 a19 a20 (nI az) v22 v23 v24 v25 v26 (nI bb) (fun j => nI (ct j)) (nI us) a30 a31 a32 a33 a34 a35 a36 a37 (fun j => nI (pil j)) (fun j => nI (rwv j)) (nI rl) v41 (-1) v43 v44 v45) H := hP
            have hD9 : va_D A (rW h0 r cI cJ cZ v0 a1 (nI tp) (nI bs) (fun j => nI (cl j)) a5 a6 a7 (fun j => nI (fc j)) a9 (fun j => nI (mb j)) a11 a12 a13 a14 a15 a16 a17 a18 a19 a20 (nI az) v22 v23 v24 v25 v26 (nI bb) (fun j => nI (ct j)) (nI us) a30 a31 a32 a33 a34 a35 a36 a37 (fun j => nI (pil j)) (fun j => nI (rwv j)) (nI rl) v41 (-1) v43 v44 v45) := hD
            exact W.iret (v := (6 : Int32)) hx hb hr (fun t ht hW => ⟨⟨(6 : Int32), (rl, pil, rwv, v43, v44, v45, (-1)), rfl, ⟨(by exact (Or.inl rfl)), (by exact Or.inl (by decide)), (by first | (intro _; rfl) | (intro h9; exact absurd h9 (Int32.not_lt.mpr cp98))), hpil, hrwv⟩, by rw [ht]; exact hP9, va_K.moved hW.alike hK, hD9⟩, hS.F ht⟩) hS.2.2 dX7_links_136
          · refine lv_aload_n hx hb dX7_links_119 rfl (lv_at hl 4 rfl) ?_
            refine va_get (D := (dC, dI)) (ci := 6) (v := .ref (r 6)) (C := RX7) (T := TX7) (N := 46) hx hb hts hiX7 hown hK hP 0 rfl rfl 6 (by decide) (hts (.fieldLink RX7 23 "LinkModelsModel" "sort" "[I") (by decide +kernel)) (fun _ h9 => h9) rfl dX7_links_120 ?_
            refine lv_iload hx hb dX7_links_123 (lv_at hl 2 rfl) ?_
            refine va_iald hx hb hK hP 4 0 rfl rfl (vp_in_nI (show (16 * bd) + c8 < 80 by omega) (by decide)) dX7_links_125 ?_
            refine lv_topi (fun x101 ex101 => ?_)
            obtain rfl : x101 = a6 ((16 * bd) + c8) := by rw [ex101, nI_clamp (show (16 * bd) + c8 < 2 ^ 31 by omega)]
            refine lv_iconst (v := 2) hx hb dX7_links_126 (by decide) ?_
            refine lv_icmp_ne (tgt := 135) hx hb dX7_links_127 (by decide) (fun cp127 => ?_) (fun cp127 => ?_)
            · refine lv_iconst (v := 0) hx hb dX7_links_135 (by decide) ?_
              have hP9 : va_P (dC, dI) vwCl (rW h0 r cI cJ cZ v0 a1 (nI tp) (nI bs) (fun j => nI (cl j)) a5 a6 a7 (fun j => nI (fc j)) a9 (fun j => nI (mb j)) a11 a12 a13 a14 a15 a16 a17 a18 a19 a20 (nI az) v22 v23 v24 v25 v26 (nI bb) (fun j => nI (ct j)) (nI us) a30 a31 a32 a33 a34 a35 a36 a37 (fun j => nI (pil j)) (fun j => nI (rwv j)) (nI rl) v41 (-1) v43 v44 v45) H := hP
              have hD9 : va_D A (rW h0 r cI cJ cZ v0 a1 (nI tp) (nI bs) (fun j => nI (cl j)) a5 a6 a7 (fun j => nI (fc j)) a9 (fun j => nI (mb j)) a11 a12 a13 a14 a15 a16 a17 a18 a19 a20 (nI az) v22 v23 v24 v25 v26 (nI bb) (fun j => nI (ct j)) (nI us) a30 a31 a32 a33 a34 a35 a36 a37 (fun j => nI (pil j)) (fun j => nI (rwv j)) (nI rl) v41 (-1) v43 v44 v45) := hD
              exact W.iret (v := (0 : Int32)) hx hb hr (fun t ht hW => ⟨⟨(0 : Int32), (rl, pil, rwv, v43, v44, v45, (-1)), rfl, ⟨(by exact (Or.inl rfl)), (by exact Or.inr (Or.inl (Int32.not_le.mp cp98))), (by intro _; rfl), hpil, hrwv⟩, by rw [ht]; exact hP9, va_K.moved hW.alike hK, hD9⟩, hS.F ht⟩) hS.2.2 dX7_links_136
            · refine lv_bipush (v := 6) hx hb dX7_links_130 (by decide) ?_
              refine lv_goto (tgt := 136) hx hb dX7_links_132 (by decide) ?_
              have hP9 : va_P (dC, dI) vwCl (rW h0 r cI cJ cZ v0 a1 (nI tp) (nI bs) (fun j => nI (cl j)) a5 a6 a7 (fun j => nI (fc j)) a9 (fun j => nI (mb j)) a11 a12 a13 a14 a15 a16 a17 a18 a19 a20 (nI az) v22 v23 v24 v25 v26 (nI bb) (fun j => nI (ct j)) (nI us) a30 a31 a32 a33 a34 a35 a36 a37 (fun j => nI (pil j)) (fun j => nI (rwv j)) (nI rl) v41 (-1) v43 v44 v45) H := hP
              have hD9 : va_D A (rW h0 r cI cJ cZ v0 a1 (nI tp) (nI bs) (fun j => nI (cl j)) a5 a6 a7 (fun j => nI (fc j)) a9 (fun j => nI (mb j)) a11 a12 a13 a14 a15 a16 a17 a18 a19 a20 (nI az) v22 v23 v24 v25 v26 (nI bb) (fun j => nI (ct j)) (nI us) a30 a31 a32 a33 a34 a35 a36 a37 (fun j => nI (pil j)) (fun j => nI (rwv j)) (nI rl) v41 (-1) v43 v44 v45) := hD
              exact W.iret (v := (6 : Int32)) hx hb hr (fun t ht hW => ⟨⟨(6 : Int32), (rl, pil, rwv, v43, v44, v45, (-1)), rfl, ⟨(by exact (Or.inl rfl)), (by exact Or.inl (by decide)), (by first | (intro _; rfl) | (intro h9; exact absurd h9 (Int32.not_lt.mpr cp98))), hpil, hrwv⟩, by rw [ht]; exact hP9, va_K.moved hW.alike hK, hD9⟩, hS.F ht⟩) hS.2.2 dX7_links_136
    · refine lv_iload_n hx hb dX7_links_39 rfl (lv_at hl 0 rfl) ?_
      refine lv_iconst (v := 1) hx hb dX7_links_40 (by decide) ?_
      refine lv_icmp_ne (tgt := 48) hx hb dX7_links_41 (by decide) (fun cp41 => ?_) (fun cp41 => ?_)
      · refine lv_iload_n hx hb dX7_links_48 rfl (lv_at hl 0 rfl) ?_
        have hP9 : va_P (dC, dI) vwCl (rW h0 r cI cJ cZ v0 a1 (nI tp) (nI bs) (fun j => nI (cl j)) a5 a6 a7 (fun j => nI (fc j)) a9 (fun j => nI (mb j)) a11 a12 a13 a14 a15 a16 a17 a18 a19 a20 (nI az) v22 v23 v24 v25 v26 (nI bb) (fun j => nI (ct j)) (nI us) a30 a31 a32 a33 a34 a35 a36 a37 (fun j => nI (pil j)) (fun j => nI (rwv j)) (nI rl) v41 (-1) v43 v44 v45) H := hP
        have hD9 : va_D A (rW h0 r cI cJ cZ v0 a1 (nI tp) (nI bs) (fun j => nI (cl j)) a5 a6 a7 (fun j => nI (fc j)) a9 (fun j => nI (mb j)) a11 a12 a13 a14 a15 a16 a17 a18 a19 a20 (nI az) v22 v23 v24 v25 v26 (nI bb) (fun j => nI (ct j)) (nI us) a30 a31 a32 a33 a34 a35 a36 a37 (fun j => nI (pil j)) (fun j => nI (rwv j)) (nI rl) v41 (-1) v43 v44 v45) := hD
        exact W.iret (v := r4) hx hb hr (fun t ht hW => ⟨⟨r4, (rl, pil, rwv, v43, v44, v45, (-1)), rfl, ⟨(by exact (Or.inl rfl)), (by exact Or.inl (Int32.not_le.mp cp36)), (by intro _; rfl), hpil, hrwv⟩, by rw [ht]; exact hP9, va_K.moved hW.alike hK, hD9⟩, hS.F ht⟩) hS.2.2 dX7_links_49
      · refine lv_iconst (v := 2) hx hb dX7_links_44 (by decide) ?_
        refine lv_goto (tgt := 49) hx hb dX7_links_45 (by decide) ?_
        have hP9 : va_P (dC, dI) vwCl (rW h0 r cI cJ cZ v0 a1 (nI tp) (nI bs) (fun j => nI (cl j)) a5 a6 a7 (fun j => nI (fc j)) a9 (fun j => nI (mb j)) a11 a12 a13 a14 a15 a16 a17 a18 a19 a20 (nI az) v22 v23 v24 v25 v26 (nI bb) (fun j => nI (ct j)) (nI us) a30 a31 a32 a33 a34 a35 a36 a37 (fun j => nI (pil j)) (fun j => nI (rwv j)) (nI rl) v41 (-1) v43 v44 v45) H := hP
        have hD9 : va_D A (rW h0 r cI cJ cZ v0 a1 (nI tp) (nI bs) (fun j => nI (cl j)) a5 a6 a7 (fun j => nI (fc j)) a9 (fun j => nI (mb j)) a11 a12 a13 a14 a15 a16 a17 a18 a19 a20 (nI az) v22 v23 v24 v25 v26 (nI bb) (fun j => nI (ct j)) (nI us) a30 a31 a32 a33 a34 a35 a36 a37 (fun j => nI (pil j)) (fun j => nI (rwv j)) (nI rl) v41 (-1) v43 v44 v45) := hD
        exact W.iret (v := (2 : Int32)) hx hb hr (fun t ht hW => ⟨⟨(2 : Int32), (rl, pil, rwv, v43, v44, v45, (-1)), rfl, ⟨(by exact (Or.inl rfl)), (by exact Or.inl (by decide)), (by first | (intro _; rfl) | (intro h9; exact absurd h9 (Int32.not_lt.mpr cp98))), hpil, hrwv⟩, by rw [ht]; exact hP9, va_K.moved hW.alike hK, hD9⟩, hS.F ht⟩) hS.2.2 dX7_links_49
  · refine lv_iload_n hx hb dX7_links_21 rfl (lv_at hl 0 rfl) ?_
    have hP9 : va_P (dC, dI) vwCl (rW h0 r cI cJ cZ v0 a1 (nI tp) (nI bs) (fun j => nI (cl j)) a5 a6 a7 (fun j => nI (fc j)) a9 (fun j => nI (mb j)) a11 a12 a13 a14 a15 a16 a17 a18 a19 a20 (nI az) v22 v23 v24 v25 v26 (nI bb) (fun j => nI (ct j)) (nI us) a30 a31 a32 a33 a34 a35 a36 a37 (fun j => nI (pil j)) (fun j => nI (rwv j)) (nI rl) v41 (-1) v43 v44 v45) H := hP
    have hD9 : va_D A (rW h0 r cI cJ cZ v0 a1 (nI tp) (nI bs) (fun j => nI (cl j)) a5 a6 a7 (fun j => nI (fc j)) a9 (fun j => nI (mb j)) a11 a12 a13 a14 a15 a16 a17 a18 a19 a20 (nI az) v22 v23 v24 v25 v26 (nI bb) (fun j => nI (ct j)) (nI us) a30 a31 a32 a33 a34 a35 a36 a37 (fun j => nI (pil j)) (fun j => nI (rwv j)) (nI rl) v41 (-1) v43 v44 v45) := hD
    exact W.iret (v := r2) hx hb hr (fun t ht hW => ⟨⟨r2, (rl, pil, rwv, v43, v44, v45, (-1)), rfl, ⟨(by exact (Or.inl rfl)), (by exact Or.inl (Int32.not_le.mp cp18)), (by intro _; rfl), hpil, hrwv⟩, by rw [ht]; exact hP9, va_K.moved hW.alike hK, hD9⟩, hS.F ht⟩) hS.2.2 dX7_links_22
