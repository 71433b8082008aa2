theorem dX7_oneClass_0 : decode cX7_oneClass 0 = .ok (.aload_n 0, 1) := by decide +kernel
theorem dX7_oneClass_1 : decode cX7_oneClass 1 = .ok (.getstatic 180, 3) := by decide +kernel
theorem dX7_oneClass_4 : decode cX7_oneClass 4 = .ok (.invokevirtual 164, 3) := by decide +kernel
theorem dX7_oneClass_7 : decode cX7_oneClass 7 = .ok (.ifCond .eq 7, 3) := by decide +kernel
theorem dX7_oneClass_10 : decode cX7_oneClass 10 = .ok (.iconst 1, 1) := by decide +kernel
theorem dX7_oneClass_11 : decode cX7_oneClass 11 = .ok (.goto 32, 3) := by decide +kernel
theorem dX7_oneClass_14 : decode cX7_oneClass 14 = .ok (.aload_n 0, 1) := by decide +kernel
theorem dX7_oneClass_15 : decode cX7_oneClass 15 = .ok (.getstatic 189, 3) := by decide +kernel
theorem dX7_oneClass_18 : decode cX7_oneClass 18 = .ok (.invokevirtual 164, 3) := by decide +kernel
theorem dX7_oneClass_21 : decode cX7_oneClass 21 = .ok (.ifCond .eq 7, 3) := by decide +kernel
theorem dX7_oneClass_24 : decode cX7_oneClass 24 = .ok (.iconst 2, 1) := by decide +kernel
theorem dX7_oneClass_25 : decode cX7_oneClass 25 = .ok (.goto 18, 3) := by decide +kernel
theorem dX7_oneClass_28 : decode cX7_oneClass 28 = .ok (.aload_n 0, 1) := by decide +kernel
theorem dX7_oneClass_29 : decode cX7_oneClass 29 = .ok (.getstatic 168, 3) := by decide +kernel
theorem dX7_oneClass_32 : decode cX7_oneClass 32 = .ok (.invokevirtual 164, 3) := by decide +kernel
theorem dX7_oneClass_35 : decode cX7_oneClass 35 = .ok (.ifCond .eq 7, 3) := by decide +kernel
theorem dX7_oneClass_38 : decode cX7_oneClass 38 = .ok (.iconst 3, 1) := by decide +kernel
theorem dX7_oneClass_39 : decode cX7_oneClass 39 = .ok (.goto 4, 3) := by decide +kernel
theorem dX7_oneClass_42 : decode cX7_oneClass 42 = .ok (.iconst 0, 1) := by decide +kernel
theorem dX7_oneClass_43 : decode cX7_oneClass 43 = .ok (.istore_n 1, 1) := by decide +kernel
theorem dX7_oneClass_44 : decode cX7_oneClass 44 = .ok (.iload_n 1, 1) := by decide +kernel
theorem dX7_oneClass_45 : decode cX7_oneClass 45 = .ok (.ifCond .ne 19, 3) := by decide +kernel
theorem dX7_oneClass_48 : decode cX7_oneClass 48 = .ok (.aload_n 0, 1) := by decide +kernel
theorem dX7_oneClass_49 : decode cX7_oneClass 49 = .ok (.getstatic 161, 3) := by decide +kernel
theorem dX7_oneClass_52 : decode cX7_oneClass 52 = .ok (.invokevirtual 164, 3) := by decide +kernel
theorem dX7_oneClass_55 : decode cX7_oneClass 55 = .ok (.ifCond .ne 9, 3) := by decide +kernel
theorem dX7_oneClass_58 : decode cX7_oneClass 58 = .ok (.aload_n 0, 1) := by decide +kernel
theorem dX7_oneClass_59 : decode cX7_oneClass 59 = .ok (.iconst 1, 1) := by decide +kernel
theorem dX7_oneClass_60 : decode cX7_oneClass 60 = .ok (.invokevirtual 192, 3) := by decide +kernel
theorem dX7_oneClass_63 : decode cX7_oneClass 63 = .ok (.ireturn, 1) := by decide +kernel
theorem dX7_oneClass_64 : decode cX7_oneClass 64 = .ok (.aload_n 0, 1) := by decide +kernel
theorem dX7_oneClass_65 : decode cX7_oneClass 65 = .ok (.getfield 17, 3) := by decide +kernel
theorem dX7_oneClass_68 : decode cX7_oneClass 68 = .ok (.aload_n 0, 1) := by decide +kernel
theorem dX7_oneClass_69 : decode cX7_oneClass 69 = .ok (.getfield 198, 3) := by decide +kernel
theorem dX7_oneClass_72 : decode cX7_oneClass 72 = .ok (.iaload, 1) := by decide +kernel
theorem dX7_oneClass_73 : decode cX7_oneClass 73 = .ok (.bipush 16, 2) := by decide +kernel
theorem dX7_oneClass_75 : decode cX7_oneClass 75 = .ok (.if_icmp .ne 9, 3) := by decide +kernel
theorem dX7_oneClass_78 : decode cX7_oneClass 78 = .ok (.aload_n 0, 1) := by decide +kernel
theorem dX7_oneClass_79 : decode cX7_oneClass 79 = .ok (.iconst 2, 1) := by decide +kernel
theorem dX7_oneClass_80 : decode cX7_oneClass 80 = .ok (.invokevirtual 192, 3) := by decide +kernel
theorem dX7_oneClass_83 : decode cX7_oneClass 83 = .ok (.ireturn, 1) := by decide +kernel
theorem dX7_oneClass_84 : decode cX7_oneClass 84 = .ok (.iload_n 1, 1) := by decide +kernel
theorem dX7_oneClass_85 : decode cX7_oneClass 85 = .ok (.ifCond .le 7, 3) := by decide +kernel
theorem dX7_oneClass_88 : decode cX7_oneClass 88 = .ok (.aload_n 0, 1) := by decide +kernel
theorem dX7_oneClass_89 : decode cX7_oneClass 89 = .ok (.invokevirtual 195, 3) := by decide +kernel
theorem dX7_oneClass_92 : decode cX7_oneClass 92 = .ok (.aload_n 0, 1) := by decide +kernel
theorem dX7_oneClass_93 : decode cX7_oneClass 93 = .ok (.getstatic 161, 3) := by decide +kernel
theorem dX7_oneClass_96 : decode cX7_oneClass 96 = .ok (.invokevirtual 164, 3) := by decide +kernel
theorem dX7_oneClass_99 : decode cX7_oneClass 99 = .ok (.ifCond .ne 9, 3) := by decide +kernel
theorem dX7_oneClass_102 : decode cX7_oneClass 102 = .ok (.aload_n 0, 1) := by decide +kernel
theorem dX7_oneClass_103 : decode cX7_oneClass 103 = .ok (.iconst 1, 1) := by decide +kernel
theorem dX7_oneClass_104 : decode cX7_oneClass 104 = .ok (.invokevirtual 192, 3) := by decide +kernel
theorem dX7_oneClass_107 : decode cX7_oneClass 107 = .ok (.ireturn, 1) := by decide +kernel
theorem dX7_oneClass_108 : decode cX7_oneClass 108 = .ok (.aload_n 0, 1) := by decide +kernel
theorem dX7_oneClass_109 : decode cX7_oneClass 109 = .ok (.invokevirtual 195, 3) := by decide +kernel
theorem dX7_oneClass_112 : decode cX7_oneClass 112 = .ok (.aload_n 0, 1) := by decide +kernel
theorem dX7_oneClass_113 : decode cX7_oneClass 113 = .ok (.getfield 136, 3) := by decide +kernel
theorem dX7_oneClass_116 : decode cX7_oneClass 116 = .ok (.bipush 78, 2) := by decide +kernel
theorem dX7_oneClass_118 : decode cX7_oneClass 118 = .ok (.if_icmp .eq 9, 3) := by decide +kernel
theorem dX7_oneClass_121 : decode cX7_oneClass 121 = .ok (.aload_n 0, 1) := by decide +kernel
theorem dX7_oneClass_122 : decode cX7_oneClass 122 = .ok (.iconst 1, 1) := by decide +kernel
theorem dX7_oneClass_123 : decode cX7_oneClass 123 = .ok (.invokevirtual 192, 3) := by decide +kernel
theorem dX7_oneClass_126 : decode cX7_oneClass 126 = .ok (.ireturn, 1) := by decide +kernel
theorem dX7_oneClass_127 : decode cX7_oneClass 127 = .ok (.aload_n 0, 1) := by decide +kernel
theorem dX7_oneClass_128 : decode cX7_oneClass 128 = .ok (.getfield 132, 3) := by decide +kernel
theorem dX7_oneClass_131 : decode cX7_oneClass 131 = .ok (.l2i, 1) := by decide +kernel
theorem dX7_oneClass_132 : decode cX7_oneClass 132 = .ok (.istore_n 2, 1) := by decide +kernel
theorem dX7_oneClass_133 : decode cX7_oneClass 133 = .ok (.aload_n 0, 1) := by decide +kernel
theorem dX7_oneClass_134 : decode cX7_oneClass 134 = .ok (.aload_n 0, 1) := by decide +kernel
theorem dX7_oneClass_135 : decode cX7_oneClass 135 = .ok (.getfield 198, 3) := by decide +kernel
theorem dX7_oneClass_138 : decode cX7_oneClass 138 = .ok (.iload_n 2, 1) := by decide +kernel
theorem dX7_oneClass_139 : decode cX7_oneClass 139 = .ok (.invokevirtual 201, 3) := by decide +kernel
theorem dX7_oneClass_142 : decode cX7_oneClass 142 = .ok (.ifCond .lt 9, 3) := by decide +kernel
theorem dX7_oneClass_145 : decode cX7_oneClass 145 = .ok (.aload_n 0, 1) := by decide +kernel
theorem dX7_oneClass_146 : decode cX7_oneClass 146 = .ok (.iconst 3, 1) := by decide +kernel
theorem dX7_oneClass_147 : decode cX7_oneClass 147 = .ok (.invokevirtual 192, 3) := by decide +kernel
theorem dX7_oneClass_150 : decode cX7_oneClass 150 = .ok (.ireturn, 1) := by decide +kernel
theorem dX7_oneClass_151 : decode cX7_oneClass 151 = .ok (.bipush 16, 2) := by decide +kernel
theorem dX7_oneClass_153 : decode cX7_oneClass 153 = .ok (.aload_n 0, 1) := by decide +kernel
theorem dX7_oneClass_154 : decode cX7_oneClass 154 = .ok (.getfield 198, 3) := by decide +kernel
theorem dX7_oneClass_157 : decode cX7_oneClass 157 = .ok (.imul, 1) := by decide +kernel
theorem dX7_oneClass_158 : decode cX7_oneClass 158 = .ok (.aload_n 0, 1) := by decide +kernel
theorem dX7_oneClass_159 : decode cX7_oneClass 159 = .ok (.getfield 17, 3) := by decide +kernel
theorem dX7_oneClass_162 : decode cX7_oneClass 162 = .ok (.aload_n 0, 1) := by decide +kernel
theorem dX7_oneClass_163 : decode cX7_oneClass 163 = .ok (.getfield 198, 3) := by decide +kernel
theorem dX7_oneClass_166 : decode cX7_oneClass 166 = .ok (.iaload, 1) := by decide +kernel
theorem dX7_oneClass_167 : decode cX7_oneClass 167 = .ok (.iadd, 1) := by decide +kernel
theorem dX7_oneClass_168 : decode cX7_oneClass 168 = .ok (.istore_n 3, 1) := by decide +kernel
theorem dX7_oneClass_169 : decode cX7_oneClass 169 = .ok (.aload_n 0, 1) := by decide +kernel
theorem dX7_oneClass_170 : decode cX7_oneClass 170 = .ok (.getfield 20, 3) := by decide +kernel
theorem dX7_oneClass_173 : decode cX7_oneClass 173 = .ok (.iload_n 3, 1) := by decide +kernel
theorem dX7_oneClass_174 : decode cX7_oneClass 174 = .ok (.iload_n 2, 1) := by decide +kernel
theorem dX7_oneClass_175 : decode cX7_oneClass 175 = .ok (.iastore, 1) := by decide +kernel
theorem dX7_oneClass_176 : decode cX7_oneClass 176 = .ok (.aload_n 0, 1) := by decide +kernel
theorem dX7_oneClass_177 : decode cX7_oneClass 177 = .ok (.getfield 23, 3) := by decide +kernel
theorem dX7_oneClass_180 : decode cX7_oneClass 180 = .ok (.iload_n 3, 1) := by decide +kernel
theorem dX7_oneClass_181 : decode cX7_oneClass 181 = .ok (.iload_n 1, 1) := by decide +kernel
theorem dX7_oneClass_182 : decode cX7_oneClass 182 = .ok (.iastore, 1) := by decide +kernel
theorem dX7_oneClass_183 : decode cX7_oneClass 183 = .ok (.aload_n 0, 1) := by decide +kernel
theorem dX7_oneClass_184 : decode cX7_oneClass 184 = .ok (.getfield 26, 3) := by decide +kernel
theorem dX7_oneClass_187 : decode cX7_oneClass 187 = .ok (.iload_n 3, 1) := by decide +kernel
theorem dX7_oneClass_188 : decode cX7_oneClass 188 = .ok (.iconst 0, 1) := by decide +kernel
theorem dX7_oneClass_189 : decode cX7_oneClass 189 = .ok (.iastore, 1) := by decide +kernel
theorem dX7_oneClass_190 : decode cX7_oneClass 190 = .ok (.aload_n 0, 1) := by decide +kernel
theorem dX7_oneClass_191 : decode cX7_oneClass 191 = .ok (.getfield 29, 3) := by decide +kernel
theorem dX7_oneClass_194 : decode cX7_oneClass 194 = .ok (.iload_n 3, 1) := by decide +kernel
theorem dX7_oneClass_195 : decode cX7_oneClass 195 = .ok (.iconst 0, 1) := by decide +kernel
theorem dX7_oneClass_196 : decode cX7_oneClass 196 = .ok (.iastore, 1) := by decide +kernel
theorem dX7_oneClass_197 : decode cX7_oneClass 197 = .ok (.aload_n 0, 1) := by decide +kernel
theorem dX7_oneClass_198 : decode cX7_oneClass 198 = .ok (.getfield 35, 3) := by decide +kernel
theorem dX7_oneClass_201 : decode cX7_oneClass 201 = .ok (.iload_n 3, 1) := by decide +kernel
theorem dX7_oneClass_202 : decode cX7_oneClass 202 = .ok (.iconst 0, 1) := by decide +kernel
theorem dX7_oneClass_203 : decode cX7_oneClass 203 = .ok (.iastore, 1) := by decide +kernel
theorem dX7_oneClass_204 : decode cX7_oneClass 204 = .ok (.aload_n 0, 1) := by decide +kernel
theorem dX7_oneClass_205 : decode cX7_oneClass 205 = .ok (.invokevirtual 195, 3) := by decide +kernel
theorem dX7_oneClass_208 : decode cX7_oneClass 208 = .ok (.aload_n 0, 1) := by decide +kernel
theorem dX7_oneClass_209 : decode cX7_oneClass 209 = .ok (.getfield 136, 3) := by decide +kernel
theorem dX7_oneClass_212 : decode cX7_oneClass 212 = .ok (.bipush 60, 2) := by decide +kernel
theorem dX7_oneClass_214 : decode cX7_oneClass 214 = .ok (.if_icmp .ne 37, 3) := by decide +kernel
theorem dX7_oneClass_217 : decode cX7_oneClass 217 = .ok (.aload_n 0, 1) := by decide +kernel
theorem dX7_oneClass_218 : decode cX7_oneClass 218 = .ok (.invokevirtual 195, 3) := by decide +kernel
theorem dX7_oneClass_221 : decode cX7_oneClass 221 = .ok (.aload_n 0, 1) := by decide +kernel
theorem dX7_oneClass_222 : decode cX7_oneClass 222 = .ok (.getfield 136, 3) := by decide +kernel
theorem dX7_oneClass_225 : decode cX7_oneClass 225 = .ok (.bipush 78, 2) := by decide +kernel
theorem dX7_oneClass_227 : decode cX7_oneClass 227 = .ok (.if_icmp .eq 9, 3) := by decide +kernel
theorem dX7_oneClass_230 : decode cX7_oneClass 230 = .ok (.aload_n 0, 1) := by decide +kernel
theorem dX7_oneClass_231 : decode cX7_oneClass 231 = .ok (.iconst 1, 1) := by decide +kernel
theorem dX7_oneClass_232 : decode cX7_oneClass 232 = .ok (.invokevirtual 192, 3) := by decide +kernel
theorem dX7_oneClass_235 : decode cX7_oneClass 235 = .ok (.ireturn, 1) := by decide +kernel
theorem dX7_oneClass_236 : decode cX7_oneClass 236 = .ok (.aload_n 0, 1) := by decide +kernel
theorem dX7_oneClass_237 : decode cX7_oneClass 237 = .ok (.getfield 26, 3) := by decide +kernel
theorem dX7_oneClass_240 : decode cX7_oneClass 240 = .ok (.iload_n 3, 1) := by decide +kernel
theorem dX7_oneClass_241 : decode cX7_oneClass 241 = .ok (.aload_n 0, 1) := by decide +kernel
theorem dX7_oneClass_242 : decode cX7_oneClass 242 = .ok (.getfield 132, 3) := by decide +kernel
theorem dX7_oneClass_245 : decode cX7_oneClass 245 = .ok (.l2i, 1) := by decide +kernel
theorem dX7_oneClass_246 : decode cX7_oneClass 246 = .ok (.iastore, 1) := by decide +kernel
theorem dX7_oneClass_247 : decode cX7_oneClass 247 = .ok (.aload_n 0, 1) := by decide +kernel
theorem dX7_oneClass_248 : decode cX7_oneClass 248 = .ok (.invokevirtual 195, 3) := by decide +kernel
theorem dX7_oneClass_251 : decode cX7_oneClass 251 = .ok (.aload_n 0, 1) := by decide +kernel
theorem dX7_oneClass_252 : decode cX7_oneClass 252 = .ok (.getfield 136, 3) := by decide +kernel
theorem dX7_oneClass_255 : decode cX7_oneClass 255 = .ok (.bipush 58, 2) := by decide +kernel
theorem dX7_oneClass_257 : decode cX7_oneClass 257 = .ok (.if_icmp .ne 7, 3) := by decide +kernel
theorem dX7_oneClass_260 : decode cX7_oneClass 260 = .ok (.iconst 1, 1) := by decide +kernel
theorem dX7_oneClass_261 : decode cX7_oneClass 261 = .ok (.goto 4, 3) := by decide +kernel
theorem dX7_oneClass_264 : decode cX7_oneClass 264 = .ok (.iconst 0, 1) := by decide +kernel
theorem dX7_oneClass_265 : decode cX7_oneClass 265 = .ok (.istore 4, 2) := by decide +kernel
theorem dX7_oneClass_267 : decode cX7_oneClass 267 = .ok (.iload 4, 2) := by decide +kernel
theorem dX7_oneClass_269 : decode cX7_oneClass 269 = .ok (.ifCond .eq 91, 3) := by decide +kernel
theorem dX7_oneClass_272 : decode cX7_oneClass 272 = .ok (.aload_n 0, 1) := by decide +kernel
theorem dX7_oneClass_273 : decode cX7_oneClass 273 = .ok (.invokevirtual 195, 3) := by decide +kernel
theorem dX7_oneClass_276 : decode cX7_oneClass 276 = .ok (.aload_n 0, 1) := by decide +kernel
theorem dX7_oneClass_277 : decode cX7_oneClass 277 = .ok (.getfield 136, 3) := by decide +kernel
theorem dX7_oneClass_280 : decode cX7_oneClass 280 = .ok (.bipush 78, 2) := by decide +kernel
theorem dX7_oneClass_282 : decode cX7_oneClass 282 = .ok (.if_icmp .eq 9, 3) := by decide +kernel
theorem dX7_oneClass_285 : decode cX7_oneClass 285 = .ok (.aload_n 0, 1) := by decide +kernel
theorem dX7_oneClass_286 : decode cX7_oneClass 286 = .ok (.iconst 1, 1) := by decide +kernel
theorem dX7_oneClass_287 : decode cX7_oneClass 287 = .ok (.invokevirtual 192, 3) := by decide +kernel
theorem dX7_oneClass_290 : decode cX7_oneClass 290 = .ok (.ireturn, 1) := by decide +kernel
theorem dX7_oneClass_291 : decode cX7_oneClass 291 = .ok (.aload_n 0, 1) := by decide +kernel
theorem dX7_oneClass_292 : decode cX7_oneClass 292 = .ok (.getfield 29, 3) := by decide +kernel
theorem dX7_oneClass_295 : decode cX7_oneClass 295 = .ok (.iload_n 3, 1) := by decide +kernel
theorem dX7_oneClass_296 : decode cX7_oneClass 296 = .ok (.iaload, 1) := by decide +kernel
theorem dX7_oneClass_297 : decode cX7_oneClass 297 = .ok (.iconst 3, 1) := by decide +kernel
theorem dX7_oneClass_298 : decode cX7_oneClass 298 = .ok (.if_icmp .ne 9, 3) := by decide +kernel
theorem dX7_oneClass_301 : decode cX7_oneClass 301 = .ok (.aload_n 0, 1) := by decide +kernel
theorem dX7_oneClass_302 : decode cX7_oneClass 302 = .ok (.iconst 2, 1) := by decide +kernel
theorem dX7_oneClass_303 : decode cX7_oneClass 303 = .ok (.invokevirtual 192, 3) := by decide +kernel
theorem dX7_oneClass_306 : decode cX7_oneClass 306 = .ok (.ireturn, 1) := by decide +kernel
theorem dX7_oneClass_307 : decode cX7_oneClass 307 = .ok (.aload_n 0, 1) := by decide +kernel
theorem dX7_oneClass_308 : decode cX7_oneClass 308 = .ok (.getfield 32, 3) := by decide +kernel
theorem dX7_oneClass_311 : decode cX7_oneClass 311 = .ok (.iconst 3, 1) := by decide +kernel
theorem dX7_oneClass_312 : decode cX7_oneClass 312 = .ok (.iload_n 3, 1) := by decide +kernel
theorem dX7_oneClass_313 : decode cX7_oneClass 313 = .ok (.imul, 1) := by decide +kernel
theorem dX7_oneClass_314 : decode cX7_oneClass 314 = .ok (.aload_n 0, 1) := by decide +kernel
theorem dX7_oneClass_315 : decode cX7_oneClass 315 = .ok (.getfield 29, 3) := by decide +kernel
theorem dX7_oneClass_318 : decode cX7_oneClass 318 = .ok (.iload_n 3, 1) := by decide +kernel
theorem dX7_oneClass_319 : decode cX7_oneClass 319 = .ok (.iaload, 1) := by decide +kernel
theorem dX7_oneClass_320 : decode cX7_oneClass 320 = .ok (.iadd, 1) := by decide +kernel
theorem dX7_oneClass_321 : decode cX7_oneClass 321 = .ok (.aload_n 0, 1) := by decide +kernel
theorem dX7_oneClass_322 : decode cX7_oneClass 322 = .ok (.getfield 132, 3) := by decide +kernel
theorem dX7_oneClass_325 : decode cX7_oneClass 325 = .ok (.l2i, 1) := by decide +kernel
theorem dX7_oneClass_326 : decode cX7_oneClass 326 = .ok (.iastore, 1) := by decide +kernel
theorem dX7_oneClass_327 : decode cX7_oneClass 327 = .ok (.aload_n 0, 1) := by decide +kernel
theorem dX7_oneClass_328 : decode cX7_oneClass 328 = .ok (.getfield 29, 3) := by decide +kernel
theorem dX7_oneClass_331 : decode cX7_oneClass 331 = .ok (.iload_n 3, 1) := by decide +kernel
theorem dX7_oneClass_332 : decode cX7_oneClass 332 = .ok (.dup2, 1) := by decide +kernel
theorem dX7_oneClass_333 : decode cX7_oneClass 333 = .ok (.iaload, 1) := by decide +kernel
theorem dX7_oneClass_334 : decode cX7_oneClass 334 = .ok (.iconst 1, 1) := by decide +kernel
theorem dX7_oneClass_335 : decode cX7_oneClass 335 = .ok (.iadd, 1) := by decide +kernel
theorem dX7_oneClass_336 : decode cX7_oneClass 336 = .ok (.iastore, 1) := by decide +kernel
theorem dX7_oneClass_337 : decode cX7_oneClass 337 = .ok (.aload_n 0, 1) := by decide +kernel
theorem dX7_oneClass_338 : decode cX7_oneClass 338 = .ok (.invokevirtual 195, 3) := by decide +kernel
theorem dX7_oneClass_341 : decode cX7_oneClass 341 = .ok (.aload_n 0, 1) := by decide +kernel
theorem dX7_oneClass_342 : decode cX7_oneClass 342 = .ok (.getfield 136, 3) := by decide +kernel
theorem dX7_oneClass_345 : decode cX7_oneClass 345 = .ok (.bipush 44, 2) := by decide +kernel
theorem dX7_oneClass_347 : decode cX7_oneClass 347 = .ok (.if_icmp .ne 7, 3) := by decide +kernel
theorem dX7_oneClass_350 : decode cX7_oneClass 350 = .ok (.iconst 1, 1) := by decide +kernel
theorem dX7_oneClass_351 : decode cX7_oneClass 351 = .ok (.goto 4, 3) := by decide +kernel
theorem dX7_oneClass_354 : decode cX7_oneClass 354 = .ok (.iconst 0, 1) := by decide +kernel
theorem dX7_oneClass_355 : decode cX7_oneClass 355 = .ok (.istore 4, 2) := by decide +kernel
theorem dX7_oneClass_357 : decode cX7_oneClass 357 = .ok (.goto (-90), 3) := by decide +kernel
theorem dX7_oneClass_360 : decode cX7_oneClass 360 = .ok (.aload_n 0, 1) := by decide +kernel
theorem dX7_oneClass_361 : decode cX7_oneClass 361 = .ok (.bipush 123, 2) := by decide +kernel
theorem dX7_oneClass_363 : decode cX7_oneClass 363 = .ok (.invokevirtual 205, 3) := by decide +kernel
theorem dX7_oneClass_366 : decode cX7_oneClass 366 = .ok (.ifCond .ne 5, 3) := by decide +kernel
theorem dX7_oneClass_369 : decode cX7_oneClass 369 = .ok (.iconst 0, 1) := by decide +kernel
theorem dX7_oneClass_370 : decode cX7_oneClass 370 = .ok (.ireturn, 1) := by decide +kernel
theorem dX7_oneClass_371 : decode cX7_oneClass 371 = .ok (.aload_n 0, 1) := by decide +kernel
theorem dX7_oneClass_372 : decode cX7_oneClass 372 = .ok (.getfield 136, 3) := by decide +kernel
theorem dX7_oneClass_375 : decode cX7_oneClass 375 = .ok (.bipush 125, 2) := by decide +kernel
theorem dX7_oneClass_377 : decode cX7_oneClass 377 = .ok (.if_icmp .eq 13, 3) := by decide +kernel
theorem dX7_oneClass_380 : decode cX7_oneClass 380 = .ok (.aload_n 0, 1) := by decide +kernel
theorem dX7_oneClass_381 : decode cX7_oneClass 381 = .ok (.iload_n 3, 1) := by decide +kernel
theorem dX7_oneClass_382 : decode cX7_oneClass 382 = .ok (.invokevirtual 208, 3) := by decide +kernel
theorem dX7_oneClass_385 : decode cX7_oneClass 385 = .ok (.ifCond .ne (-14), 3) := by decide +kernel
theorem dX7_oneClass_388 : decode cX7_oneClass 388 = .ok (.iconst 0, 1) := by decide +kernel
theorem dX7_oneClass_389 : decode cX7_oneClass 389 = .ok (.ireturn, 1) := by decide +kernel
theorem dX7_oneClass_390 : decode cX7_oneClass 390 = .ok (.aload_n 0, 1) := by decide +kernel
theorem dX7_oneClass_391 : decode cX7_oneClass 391 = .ok (.invokevirtual 195, 3) := by decide +kernel
theorem dX7_oneClass_394 : decode cX7_oneClass 394 = .ok (.aload_n 0, 1) := by decide +kernel
theorem dX7_oneClass_395 : decode cX7_oneClass 395 = .ok (.getfield 17, 3) := by decide +kernel
theorem dX7_oneClass_398 : decode cX7_oneClass 398 = .ok (.aload_n 0, 1) := by decide +kernel
theorem dX7_oneClass_399 : decode cX7_oneClass 399 = .ok (.getfield 198, 3) := by decide +kernel
theorem dX7_oneClass_402 : decode cX7_oneClass 402 = .ok (.dup2, 1) := by decide +kernel
theorem dX7_oneClass_403 : decode cX7_oneClass 403 = .ok (.iaload, 1) := by decide +kernel
theorem dX7_oneClass_404 : decode cX7_oneClass 404 = .ok (.iconst 1, 1) := by decide +kernel
theorem dX7_oneClass_405 : decode cX7_oneClass 405 = .ok (.iadd, 1) := by decide +kernel
theorem dX7_oneClass_406 : decode cX7_oneClass 406 = .ok (.iastore, 1) := by decide +kernel
theorem dX7_oneClass_407 : decode cX7_oneClass 407 = .ok (.iconst 1, 1) := by decide +kernel
theorem dX7_oneClass_408 : decode cX7_oneClass 408 = .ok (.ireturn, 1) := by decide +kernel
def zwX7_oneClass : List Cond := .code yX7_oneClass cX7_oneClass 5 (some .boolean) :: ([.fieldLink RX7 136 "LinkModelsModel" "token" "I", .fieldLink RX7 17 "LinkModelsModel" "classes" "[I", .fieldLink RX7 198 "LinkModelsModel" "b" "I", .fieldLink RX7 29 "LinkModelsModel" "faces" "[I", .fieldLink RX7 32 "LinkModelsModel" "face" "[I", .fieldLink RX7 132 "LinkModelsModel" "value" "J", .fieldLink RX7 161 "LinkModelsModel" "CLASS" "J", .fieldLink RX7 20 "LinkModelsModel" "className" "[I", .fieldLink RX7 23 "LinkModelsModel" "sort" "[I", .fieldLink RX7 26 "LinkModelsModel" "above" "[I", .fieldLink RX7 35 "LinkModelsModel" "members" "[I", .fieldLink RX7 180 "LinkModelsModel" "FACE_WORD" "J", .fieldLink RX7 189 "LinkModelsModel" "ABSTRACT_WORD" "J", .fieldLink RX7 168 "LinkModelsModel" "FINAL_WORD" "J", .methodLink RX7 195 yX7_next, .instanceMethod yX7_next, .selects RX7 yX7_next yX7_next, .initialized RX7, .code yX7_next cX7_next 2 none, .fieldLink RX7 126 "LinkModelsModel" "at" "I", .fieldLink RX7 129 "LinkModelsModel" "tokenAt" "I", .fieldLink RX7 109 "LinkModelsModel" "taped" "I", .constantLong RX7 153 (10), .constantLong RX7 118 (48), .fieldLink RX7 13 "LinkModelsModel" "tape" "[I", .methodLink RX7 139 yX7_here, .instanceMethod yX7_here, .selects RX7 yX7_here yX7_here, .code yX7_here cX7_here 1 (some .int), .methodLink RX7 143 yX7_isBig, .static yX7_isBig, .code yX7_isBig cX7_isBig 1 (some .boolean), .constantLong RX7 114 (65), .constantLong RX7 116 (90), .methodLink RX7 105 yX7_in, .static yX7_in, .code yX7_in cX7_in 6 (some .boolean), .methodLink RX7 147 yX7_isDigit, .static yX7_isDigit, .code yX7_isDigit cX7_isDigit 1 (some .boolean), .constantLong RX7 120 (57), .methodLink RX7 150 yX7_isSmall, .static yX7_isSmall, .code yX7_isSmall cX7_isSmall 1 (some .boolean), .constantLong RX7 122 (97), .constantLong RX7 124 (122), .methodLink RX7 208 yX7_oneMember, .instanceMethod yX7_oneMember, .selects RX7 yX7_oneMember yX7_oneMember, .code yX7_oneMember cX7_oneMember 8 (some .boolean), .fieldLink RX7 44 "LinkModelsModel" "word" "[J", .fieldLink RX7 48 "LinkModelsModel" "marks" "[I", .fieldLink RX7 51 "LinkModelsModel" "isMethod" "[Z", .fieldLink RX7 55 "LinkModelsModel" "isConstant" "[Z", .fieldLink RX7 61 "LinkModelsModel" "many" "[I", .fieldLink RX7 58 "LinkModelsModel" "number" "[I", .fieldLink RX7 183 "LinkModelsModel" "STATIC_WORD" "J", .fieldLink RX7 186 "LinkModelsModel" "HIDDEN_WORD" "J", .methodLink RX7 205 yX7_takes, .instanceMethod yX7_takes, .selects RX7 yX7_takes yX7_takes, .code yX7_takes cX7_takes 2 (some .boolean), .methodLink RX7 192 yX7_fails, .instanceMethod yX7_fails, .selects RX7 yX7_fails yX7_fails, .code yX7_fails cX7_fails 2 (some .boolean), .fieldLink RX7 155 "LinkModelsModel" "fault" "I", .fieldLink RX7 158 "LinkModelsModel" "faultAt" "I", .methodLink RX7 211 yX7_isType, .instanceMethod yX7_isType, .selects RX7 yX7_isType yX7_isType, .code yX7_isType cX7_isType 1 (some .boolean), .fieldLink RX7 171 "LinkModelsModel" "INT" "J", .fieldLink RX7 174 "LinkModelsModel" "LONG" "J", .fieldLink RX7 177 "LinkModelsModel" "VOID" "J", .methodLink RX7 164 yX7_isWord, .instanceMethod yX7_isWord, .selects RX7 yX7_isWord yX7_isWord, .code yX7_isWord cX7_isWord 3 (some .boolean), .methodLink RX7 215 yX7_typeNow, .instanceMethod yX7_typeNow, .selects RX7 yX7_typeNow yX7_typeNow, .code yX7_typeNow cX7_typeNow 1 (some .int), .methodLink RX7 218 yX7_isKept, .instanceMethod yX7_isKept, .selects RX7 yX7_isKept yX7_isKept, .code yX7_isKept cX7_isKept 1 (some .boolean), .methodLink RX7 225 yX7_field, .instanceMethod yX7_field, .selects RX7 yX7_field yX7_field, .code yX7_field cX7_field 4 (some .boolean), .methodLink RX7 229 yX7_isThere, .instanceMethod yX7_isThere, .selects RX7 yX7_isThere yX7_isThere, .code yX7_isThere cX7_isThere 5 (some .boolean), .fieldLink RX7 67 "LinkModelsModel" "second" "[I", .fieldLink RX7 64 "LinkModelsModel" "first" "[I", .methodLink RX7 221 yX7_method, .instanceMethod yX7_method, .selects RX7 yX7_method yX7_method, .code yX7_method cX7_method 4 (some .boolean), .methodLink RX7 201 yX7_place, .instanceMethod yX7_place, .selects RX7 yX7_place yX7_place, .code yX7_place cX7_place 4 (some .int)] ++ wsX70)
theorem zgX7_oneClass_X7_next_195 : GoodIn zwX7_oneClass (wsV RX7 195 RX7 yX7_next zwX7_next) := goodIn_app (goodIn_r _ [15, 16, 17, 18] rfl (by decide +kernel)) (goodIn_ca (goodIn_r _ [19, 20, 21, 1, 22, 6, 23, 24, 25, 26, 27, 28, 18, 29, 30, 31, 32, 33, 34, 35, 36, 37, 38, 39, 40, 41, 42, 43, 44, 45, 46] rfl (by decide +kernel)) (zgt zg7))
theorem zgX7_oneClass_X7_oneMember_208 : GoodIn zwX7_oneClass (wsV RX7 208 RX7 yX7_oneMember zwX7_oneMember) := goodIn_app (goodIn_r _ [47, 48, 49, 18] rfl (by decide +kernel)) (goodIn_ca (goodIn_r _ [50, 11, 1, 51, 6, 52, 53, 54, 55, 56, 57, 58, 14, 13, 59, 60, 61, 18, 62, 15, 16, 17, 19, 20, 21, 22, 23, 24, 25, 26, 27, 28, 29, 30, 31, 32, 33, 34, 35, 36, 37, 38, 39, 40, 41, 42, 43, 44, 45, 46, 63, 64, 65, 66, 67, 68, 69, 70, 71, 72, 73, 74, 75, 76, 77, 78, 79, 80, 81, 82, 83, 84, 85, 86, 87, 7, 12, 88, 89, 90, 91, 92, 93, 94, 95, 96, 97, 98, 99, 100, 101] rfl (by decide +kernel)) (zgt zg7))
theorem zgX7_oneClass_X7_takes_205 : GoodIn zwX7_oneClass (wsV RX7 205 RX7 yX7_takes zwX7_takes) := goodIn_app (goodIn_r _ [59, 60, 61, 18] rfl (by decide +kernel)) (goodIn_ca (goodIn_r _ [62, 1, 15, 16, 17, 18, 19, 20, 21, 22, 6, 23, 24, 25, 26, 27, 28, 29, 30, 31, 32, 33, 34, 35, 36, 37, 38, 39, 40, 41, 42, 43, 44, 45, 46, 63, 64, 65, 66, 67, 68] rfl (by decide +kernel)) (zgt zg7))
theorem zgX7_oneClass_X7_fails_192 : GoodIn zwX7_oneClass (wsV RX7 192 RX7 yX7_fails zwX7_fails) := goodIn_app (goodIn_r _ [63, 64, 65, 18] rfl (by decide +kernel)) (goodIn_ca (goodIn_r _ [66, 67, 21, 68] rfl (by decide +kernel)) (zgt zg7))
theorem zgX7_oneClass_X7_isWord_164 : GoodIn zwX7_oneClass (wsV RX7 164 RX7 yX7_isWord zwX7_isWord) := goodIn_app (goodIn_r _ [76, 77, 78, 18] rfl (by decide +kernel)) (goodIn_ca (goodIn_r _ [79, 1, 6] rfl (by decide +kernel)) (zgt zg7))
theorem zgX7_oneClass_X7_place_201 : GoodIn zwX7_oneClass (wsV RX7 201 RX7 yX7_place zwX7_place) := goodIn_app (goodIn_r _ [102, 103, 104, 18] rfl (by decide +kernel)) (goodIn_ca (goodIn_r _ [105, 2, 8] rfl (by decide +kernel)) (zgt zg7))
set_option maxHeartbeats 4000000 in
set_option maxRecDepth 100000 in
theorem kX7_oneClass (l : Launch) (dC : Nat → ClassId) (dI : Nat → Nat → Nat) (h0 : Nat) (r : Nat → Nat) (cI : ClassId) (cJ : ClassId) (cZ : ClassId) (v0 : Int32) (a1 : Nat → Int32) (tp : Nat) (bs : Nat) (cl : Nat → Nat) (a5 : Nat → Int32) (a6 : Nat → Int32) (a7 : Nat → Int32) (fc : Nat → Nat) (a9 : Nat → Int32) (mb : Nat → Nat) (a11 : Nat → Int32) (a12 : Nat → Int32) (a13 : Nat → Int64) (a14 : Nat → Int32) (a15 : Nat → Int32) (a16 : Nat → Int32) (a17 : Nat → Int32) (a18 : Nat → Int32) (a19 : Nat → Int32) (a20 : Nat → Int32) (az : Nat) (v22 : Int32) (v23 : Int32) (v24 : Int64) (v25 : Int32) (v26 : Int32) (bb : Nat) (ct : Nat → Nat) (us : Nat) (a30 : Nat → Int32) (a31 : Nat → Int32) (a32 : Nat → Int32) (a33 : Nat → Int64) (a34 : Nat → Int32) (a35 : Nat → Int32) (a36 : Nat → Int32) (a37 : Nat → Int32) (pil : Nat → Nat) (rwv : Nat → Nat) (rl : Nat) (v41 : Int32) (v42 : Int32) (v43 : Int32) (v44 : Int32) (v45 : Int32) (hI : rWI tp bs cl fc mb az bb ct us pil rwv rl) (hp0 : az ≤ tp) (hp1 : bb < 5) (sz : Nat) : Met l yX7_oneClass zwX7_oneClass ({ frames := 5, cells := 0, slots := 0, locals := 116 }) (zPm dC dI [.ref h0] sz (rW h0 r cI cJ cZ v0 a1 (nI tp) (nI bs) (fun j => nI (cl j)) a5 a6 a7 (fun j => nI (fc j)) a9 (fun j => nI (mb j)) a11 a12 a13 a14 a15 a16 a17 a18 a19 a20 (nI az) v22 v23 v24 v25 v26 (nI bb) (fun j => nI (ct j)) (nI us) a30 a31 a32 a33 a34 a35 a36 a37 (fun j => nI (pil j)) (fun j => nI (rwv j)) (nI rl) v41 v42 v43 v44 v45) [(cI, .int), (cJ, .long), (cZ, .boolean)]) (va_Qi (fun (r : Int32) (u : Nat × Int32 × Int32 × Int64 × Int32 × Int32 × (Nat → Int32) × (Nat → Int32) × (Nat → Int32) × (Nat → Nat) × (Nat → Int32) × (Nat → Int64) × (Nat → Int32) × (Nat → Int32) × (Nat → Int32) × (Nat → Int32) × (Nat → Int32) × (Nat → Int32) × (Nat → Int32) × (Nat → Nat) × (Nat → Nat)) => (r = 0 ∨ r = 1) ∧ (az ≤ (u.1)) ∧ ((u.1) ≤ tp) ∧ (r = 1 → az < (u.1)) ∧ (∀ j, j < 16 * bb → (u.2.2.2.2.2.2.1) j = a5 j) ∧ (∀ j, j < 16 * bb → (u.2.2.2.2.2.2.2.2.1) j = a7 j) ∧ (∀ j, (u.2.2.2.2.2.2.2.2.2.1) j ≤ 3) ∧ (∀ j, j < 16 * bb → (u.2.2.2.2.2.2.2.2.2.1) j = fc j) ∧ (∀ j, j < 48 * bb → (u.2.2.2.2.2.2.2.2.2.2.1) j = a9 j) ∧ (∀ j, (u.2.2.2.2.2.2.2.2.2.2.2.2.2.2.2.2.2.2.2.1) j ≤ 12) ∧ (∀ j, (u.2.2.2.2.2.2.2.2.2.2.2.2.2.2.2.2.2.2.2.2) j ≤ 16) ∧ (∀ j, j ≠ bb → (u.2.2.2.2.2.2.2.2.2.2.2.2.2.2.2.2.2.2.2.2) j = cl j)) (fun u t => zB dC dI (va_A (rW h0 r cI cJ cZ v0 a1 (nI tp) (nI bs) (fun j => nI (cl j)) a5 a6 a7 (fun j => nI (fc j)) a9 (fun j => nI (mb j)) a11 a12 a13 a14 a15 a16 a17 a18 a19 a20 (nI az) v22 v23 v24 v25 v26 (nI bb) (fun j => nI (ct j)) (nI us) a30 a31 a32 a33 a34 a35 a36 a37 (fun j => nI (pil j)) (fun j => nI (rwv j)) (nI rl) v41 v42 v43 v44 v45) sz) (rW h0 r cI cJ cZ v0 a1 (nI tp) (nI bs) (fun j => nI ((u.2.2.2.2.2.2.2.2.2.2.2.2.2.2.2.2.2.2.2.2) j)) (u.2.2.2.2.2.2.1) (u.2.2.2.2.2.2.2.1) (u.2.2.2.2.2.2.2.2.1) (fun j => nI ((u.2.2.2.2.2.2.2.2.2.1) j)) (u.2.2.2.2.2.2.2.2.2.2.1) (fun j => nI ((u.2.2.2.2.2.2.2.2.2.2.2.2.2.2.2.2.2.2.2.1) j)) a11 a12 (u.2.2.2.2.2.2.2.2.2.2.2.1) (u.2.2.2.2.2.2.2.2.2.2.2.2.1) (u.2.2.2.2.2.2.2.2.2.2.2.2.2.2.2.1) (u.2.2.2.2.2.2.2.2.2.2.2.2.2.1) (u.2.2.2.2.2.2.2.2.2.2.2.2.2.2.1) (u.2.2.2.2.2.2.2.2.2.2.2.2.2.2.2.2.1) (u.2.2.2.2.2.2.2.2.2.2.2.2.2.2.2.2.2.1) (u.2.2.2.2.2.2.2.2.2.2.2.2.2.2.2.2.2.2.1) (nI (u.1)) (u.2.1) (u.2.2.1) (u.2.2.2.1) (u.2.2.2.2.1) (u.2.2.2.2.2.1) (nI bb) (fun j => nI (ct j)) (nI us) a30 a31 a32 a33 a34 a35 a36 a37 (fun j => nI (pil j)) (fun j => nI (rwv j)) (nI rl) v41 v42 v43 v44 v45) [(cI, .int), (cJ, .long), (cZ, .boolean)] t) (va_A (rW h0 r cI cJ cZ v0 a1 (nI tp) (nI bs) (fun j => nI (cl j)) a5 a6 a7 (fun j => nI (fc j)) a9 (fun j => nI (mb j)) a11 a12 a13 a14 a15 a16 a17 a18 a19 a20 (nI az) v22 v23 v24 v25 v26 (nI bb) (fun j => nI (ct j)) (nI us) a30 a31 a32 a33 a34 a35 a36 a37 (fun j => nI (pil j)) (fun j => nI (rwv j)) (nI rl) v41 v42 v43 v44 v45) sz)) 0 0 (va_A (rW h0 r cI cJ cZ v0 a1 (nI tp) (nI bs) (fun j => nI (cl j)) a5 a6 a7 (fun j => nI (fc j)) a9 (fun j => nI (mb j)) a11 a12 a13 a14 a15 a16 a17 a18 a19 a20 (nI az) v22 v23 v24 v25 v26 (nI bb) (fun j => nI (ct j)) (nI us) a30 a31 a32 a33 a34 a35 a36 a37 (fun j => nI (pil j)) (fun j => nI (rwv j)) (nI rl) v41 v42 v43 v44 v45) sz) := by
  refine Met.ofW (cc := cX7_oneClass) (maxL := 5) (ret := (some .boolean)) (by decide) rfl ?_
  intro p e s m args below meth c s₁ B hml hv
  obtain ⟨rfl, hsz, hP, hK, hD0, hL0⟩ := hv
  have hx := B.exec
  have hb := B.bytes
  have hr := B.returns
  have hts := atoms_spec (ws := zwX7_oneClass) B.pre
  have hown : s.vm.findClass RX7 = some m.cls := findClass_of_methodNamed B.named
  have hiX7 : ∀ w ∈ wsX70, w ∈ zwX7_oneClass := (fun _ h => List.mem_cons_of_mem _ (List.mem_append_right _ h))
  obtain ⟨htp, hbs, hus, hcl, hfc, hmb, hct, hpil, hrwv⟩ := hI
  subst hsz
  have hD := hD0.self (sz := s.heap.size)
  generalize hAe : va_A (rW h0 r cI cJ cZ v0 a1 (nI tp) (nI bs) (fun j => nI (cl j)) a5 a6 a7 (fun j => nI (fc j)) a9 (fun j => nI (mb j)) a11 a12 a13 a14 a15 a16 a17 a18 a19 a20 (nI az) v22 v23 v24 v25 v26 (nI bb) (fun j => nI (ct j)) (nI us) a30 a31 a32 a33 a34 a35 a36 a37 (fun j => nI (pil j)) (fun j => nI (rwv j)) (nI rl) v41 v42 v43 v44 v45) s.heap.size = A at hD hL0 ⊢
  have hA : ∀ q : Nat, s.heap.size ≤ q → A q := fun q h => by rw [← hAe]; exact Or.inr h
  have hS : va_S A s.heap s.heap [] := va_S.rf
  have hL := hL0
  have hl := lv_entry ([.ref h0]) (n := 5) (Nat.le_of_ble_eq_true rfl)
  rw [lg_entry_eq]
  generalize (lg_sl ([.ref h0]) ++ List.replicate (5 - (lg_sl ([.ref h0])).length) Slot.unset).toArray = ls at hl ⊢
  have hl : lv_has ls 5 [(0, .ref h0)] := hl
  have J371 : ∀ (z371 : Nat) (i2 : Nat) (tk : Int32) (ta : Int32) (vl : Int64) (fo : Int32) (fp : Int32) (d1 : Nat → Int32) (d2 : Nat → Int32) (d3 : Nat → Int32) (fc2 : Nat → Nat) (d4 : Nat → Int32) (b7 : Nat → Int64) (b8 : Nat → Int32) (b1 : Nat → Int32) (b2 : Nat → Int32) (b3 : Nat → Int32) (b4 : Nat → Int32) (b5 : Nat → Int32) (b6 : Nat → Int32) (mb2 : Nat → Nat) (H : Heap) (locs : List Loc) (ls : Array Slot), tp - i2 < z371 → (∀ j, j < 16 * bb → d1 j = a5 j) → (∀ j, j < 16 * bb → d3 j = a7 j) → (∀ j, fc2 j ≤ 3) → (∀ j, j < 16 * bb → fc2 j = fc j) → (∀ j, j < 48 * bb → d4 j = a9 j) → (∀ j, mb2 j ≤ 12) → (az < i2) → (i2 ≤ tp) → (cl bb < 16) → va_P (dC, dI) vwCl (rW h0 r cI cJ cZ v0 a1 (nI tp) (nI bs) (fun j => nI (cl j)) d1 d2 d3 (fun j => nI (fc2 j)) d4 (fun j => nI (mb2 j)) a11 a12 b7 b8 b3 b1 b2 b4 b5 b6 (nI i2) tk ta vl fo fp (nI bb) (fun j => nI (ct j)) (nI us) a30 a31 a32 a33 a34 a35 a36 a37 (fun j => nI (pil j)) (fun j => nI (rwv j)) (nI rl) v41 v42 v43 v44 v45) H → va_D A (rW h0 r cI cJ cZ v0 a1 (nI tp) (nI bs) (fun j => nI (cl j)) d1 d2 d3 (fun j => nI (fc2 j)) d4 (fun j => nI (mb2 j)) a11 a12 b7 b8 b3 b1 b2 b4 b5 b6 (nI i2) tk ta vl fo fp (nI bb) (fun j => nI (ct j)) (nI us) a30 a31 a32 a33 a34 a35 a36 a37 (fun j => nI (pil j)) (fun j => nI (rwv j)) (nI rl) v41 v42 v43 v44 v45) → va_S A s.heap H locs → lv_has ls 5 [(0, .ref h0), (3, .int (nI (16 * bb + cl bb)))] → W p l e (headSpec zwX7_oneClass { frames := 5, cells := 0, slots := 0, locals := 116 }).room s m (([.ref h0] : List Value).toArray) below meth c H locs 0 0 (MQ below (va_Qi (fun (r : Int32) (u : Nat × Int32 × Int32 × Int64 × Int32 × Int32 × (Nat → Int32) × (Nat → Int32) × (Nat → Int32) × (Nat → Nat) × (Nat → Int32) × (Nat → Int64) × (Nat → Int32) × (Nat → Int32) × (Nat → Int32) × (Nat → Int32) × (Nat → Int32) × (Nat → Int32) × (Nat → Int32) × (Nat → Nat) × (Nat → Nat)) => (r = 0 ∨ r = 1) ∧ (az ≤ (u.1)) ∧ ((u.1) ≤ tp) ∧ (r = 1 → az < (u.1)) ∧ (∀ j, j < 16 * bb → (u.2.2.2.2.2.2.1) j = a5 j) ∧ (∀ j, j < 16 * bb → (u.2.2.2.2.2.2.2.2.1) j = a7 j) ∧ (∀ j, (u.2.2.2.2.2.2.2.2.2.1) j ≤ 3) ∧ (∀ j, j < 16 * bb → (u.2.2.2.2.2.2.2.2.2.1) j = fc j) ∧ (∀ j, j < 48 * bb → (u.2.2.2.2.2.2.2.2.2.2.1) j = a9 j) ∧ (∀ j, (u.2.2.2.2.2.2.2.2.2.2.2.2.2.2.2.2.2.2.2.1) j ≤ 12) ∧ (∀ j, (u.2.2.2.2.2.2.2.2.2.2.2.2.2.2.2.2.2.2.2.2) j ≤ 16) ∧ (∀ j, j ≠ bb → (u.2.2.2.2.2.2.2.2.2.2.2.2.2.2.2.2.2.2.2.2) j = cl j)) (fun u t => zB dC dI (A) (rW h0 r cI cJ cZ v0 a1 (nI tp) (nI bs) (fun j => nI ((u.2.2.2.2.2.2.2.2.2.2.2.2.2.2.2.2.2.2.2.2) j)) (u.2.2.2.2.2.2.1) (u.2.2.2.2.2.2.2.1) (u.2.2.2.2.2.2.2.2.1) (fun j => nI ((u.2.2.2.2.2.2.2.2.2.1) j)) (u.2.2.2.2.2.2.2.2.2.2.1) (fun j => nI ((u.2.2.2.2.2.2.2.2.2.2.2.2.2.2.2.2.2.2.2.1) j)) a11 a12 (u.2.2.2.2.2.2.2.2.2.2.2.1) (u.2.2.2.2.2.2.2.2.2.2.2.2.1) (u.2.2.2.2.2.2.2.2.2.2.2.2.2.2.2.1) (u.2.2.2.2.2.2.2.2.2.2.2.2.2.1) (u.2.2.2.2.2.2.2.2.2.2.2.2.2.2.1) (u.2.2.2.2.2.2.2.2.2.2.2.2.2.2.2.2.1) (u.2.2.2.2.2.2.2.2.2.2.2.2.2.2.2.2.2.1) (u.2.2.2.2.2.2.2.2.2.2.2.2.2.2.2.2.2.2.1) (nI (u.1)) (u.2.1) (u.2.2.1) (u.2.2.2.1) (u.2.2.2.2.1) (u.2.2.2.2.2.1) (nI bb) (fun j => nI (ct j)) (nI us) a30 a31 a32 a33 a34 a35 a36 a37 (fun j => nI (pil j)) (fun j => nI (rwv j)) (nI rl) v41 v42 v43 v44 v45) [(cI, .int), (cJ, .long), (cZ, .boolean)] t) (A)) (([.ref h0] : List Value).toArray) s 0 0 A) (F0 m 371 ls []) := by
    intro z371
    induction z371 with
    | zero => intro i2 tk ta vl fo fp d1 d2 d3 fc2 d4 b7 b8 b1 b2 b3 b4 b5 b6 mb2 H locs ls h9; exact absurd h9 (Nat.not_lt_zero _)
    | succ z371 ih371 =>
      intro i2 tk ta vl fo fp d1 d2 d3 fc2 d4 b7 b8 b1 b2 b3 b4 b5 b6 mb2 H locs ls hm371 hfrd1 hfrd3 hbfc2 hfrfc2 hfrd4 hbmb2 i371_0 i371_1 i371_2 hP hD hS hl
      refine lv_aload_n hx hb dX7_oneClass_371 rfl (lv_at hl 0 rfl) ?_
      refine va_get (D := (dC, dI)) (ci := 6) (v := .int tk) (C := RX7) (T := TX7) (N := 46) hx hb hts hiX7 hown hK hP 0 rfl rfl 22 (by decide) (hts (.fieldLink RX7 136 "LinkModelsModel" "token" "I") (by decide +kernel)) (fun _ h9 => h9) rfl dX7_oneClass_372 ?_
      refine lv_bipush (v := 125) hx hb dX7_oneClass_375 (by decide) ?_
      refine lv_icmp_eq (tgt := 390) hx hb dX7_oneClass_377 (by decide) (fun cp377 => ?_) (fun cp377 => ?_)
      · refine lv_aload_n hx hb dX7_oneClass_390 rfl (lv_at hl 0 rfl) ?_
        have hFc := z_freeW hD hS hA
        refine va_callv (va_runV (As := []) (rest := []) ⟨hx, hb, hml, hown, hts⟩ (kX7_next l dC dI h0 r cI cJ cZ v0 a1 tp bs cl d1 d2 d3 fc2 d4 mb2 a11 a12 b7 b8 b3 b1 b2 b4 b5 b6 i2 tk ta vl fo fp bb ct us a30 a31 a32 a33 a34 a35 a36 a37 pil rwv rl v41 v42 v43 v44 v45 ⟨by omega, by omega, by omega, hcl, hbfc2, hbmb2, hct, hpil, hrwv⟩ (by first | omega | assumption | trivial) H.size) (cwV 0 hts zgX7_oneClass_X7_next_195 rfl rfl rfl (by decide +kernel) ⟨(show 2 + 1 ≤ 5 by omega), (show 8 + (2 + 11) + 45 ≤ 116 by omega)⟩) (zVm (ci := 6) (q0 := 0) (q := (RX7, TX7, 46)) hK hP hD hL hS.2.1 hFc rfl rfl rfl) rfl rfl hl.1 rfl (lv_room (Nat.le_of_ble_eq_true rfl)) dX7_oneClass_391 ⟨(show 0 + 0 ≤ 0 by omega), (show 0 + 0 ≤ 0 by omega)⟩) hS (fun q _ h => hFc q h) hFc (fun u6 t H1 locs ht hvm hw hB hz1 hk1 hS => ?_)
        obtain ⟨o2, o3, o4, o5⟩ := u6
        obtain ⟨hP, hK9, hD⟩ := hB
        rw [ht] at hP
        have hD := hD.weaken (fun k q _ h => hFc q.1 h)
        generalize H1 = H at hP hS
        have hP : va_P (dC, dI) vwCl (rW h0 r cI cJ cZ v0 a1 (nI tp) (nI bs) (fun j => nI (cl j)) d1 d2 d3 (fun j => nI (fc2 j)) d4 (fun j => nI (mb2 j)) a11 a12 b7 b8 b3 b1 b2 b4 b5 b6 (nI o2) o3 o4 o5 fo fp (nI bb) (fun j => nI (ct j)) (nI us) a30 a31 a32 a33 a34 a35 a36 a37 (fun j => nI (pil j)) (fun j => nI (rwv j)) (nI rl) v41 v42 v43 v44 v45) H := hP
        have hD : va_D A (rW h0 r cI cJ cZ v0 a1 (nI tp) (nI bs) (fun j => nI (cl j)) d1 d2 d3 (fun j => nI (fc2 j)) d4 (fun j => nI (mb2 j)) a11 a12 b7 b8 b3 b1 b2 b4 b5 b6 (nI o2) o3 o4 o5 fo fp (nI bb) (fun j => nI (ct j)) (nI us) a30 a31 a32 a33 a34 a35 a36 a37 (fun j => nI (pil j)) (fun j => nI (rwv j)) (nI rl) v41 v42 v43 v44 v45) := hD
        have hw : (i2 ≤ o2) ∧ (o2 ≤ tp) ∧ (¬ o3 = 0 → i2 < o2) := hw
        obtain ⟨w0r1, w1r1, w2r1⟩ := hw
        refine lv_aload_n hx hb dX7_oneClass_394 rfl (lv_at hl 0 rfl) ?_
        refine va_get (D := (dC, dI)) (ci := 6) (v := .ref (r 4)) (C := RX7) (T := TX7) (N := 46) hx hb hts hiX7 hown hK hP 0 rfl rfl 4 (by decide) (hts (.fieldLink RX7 17 "LinkModelsModel" "classes" "[I") (by decide +kernel)) (fun _ h9 => h9) rfl dX7_oneClass_395 ?_
        refine lv_aload_n hx hb dX7_oneClass_398 rfl (lv_at hl 0 rfl) ?_
        refine va_get (D := (dC, dI)) (ci := 6) (v := .int (nI bb)) (C := RX7) (T := TX7) (N := 46) hx hb hts hiX7 hown hK hP 0 rfl rfl 27 (by decide) (hts (.fieldLink RX7 198 "LinkModelsModel" "b" "I") (by decide +kernel)) (fun _ h9 => h9) rfl dX7_oneClass_399 ?_
        refine lv_dup2_11 hx hb dX7_oneClass_402 rfl rfl ?_
        refine va_iald hx hb hK hP 2 0 rfl rfl (vp_in_nI (show bb < 5 by omega) (by decide)) dX7_oneClass_403 ?_
        refine lv_topi (fun x7 ex7 => ?_)
        obtain rfl : x7 = nI (cl bb) := by rw [ex7, nI_clamp (show bb < 2 ^ 31 by omega)]
        have hqx7 := hcl bb
        refine lv_iconst (v := 1) hx hb dX7_oneClass_404 (by decide) ?_
        refine lv_iadd hx hb dX7_oneClass_405 ?_
        refine lv_topi (fun x8 ex8 => ?_)
        obtain rfl : x8 = nI ((cl bb) + 1) := by rw [ex8]; exact nI_add (cl bb) (1)
        refine va_iast hx hb hK hP hD hS 2 0 rfl rfl (vp_in_nI (show bb < 5 by omega) (by decide)) dX7_oneClass_406 (fun H locs hP hD hS => ?_)
        obtain ⟨f9, ef9⟩ : ∃ g, g = z_up cl bb ((cl bb) + 1) := ⟨_, rfl⟩
        have hP : va_P (dC, dI) vwCl (rW h0 r cI cJ cZ v0 a1 (nI tp) (nI bs) (fun j => nI (f9 j)) d1 d2 d3 (fun j => nI (fc2 j)) d4 (fun j => nI (mb2 j)) a11 a12 b7 b8 b3 b1 b2 b4 b5 b6 (nI o2) o3 o4 o5 fo fp (nI bb) (fun j => nI (ct j)) (nI us) a30 a31 a32 a33 a34 a35 a36 a37 (fun j => nI (pil j)) (fun j => nI (rwv j)) (nI rl) v41 v42 v43 v44 v45) H := by rw [ef9, ← z_upd (show bb < 2 ^ 31 by omega)]; exact hP
        have hD : va_D A (rW h0 r cI cJ cZ v0 a1 (nI tp) (nI bs) (fun j => nI (f9 j)) d1 d2 d3 (fun j => nI (fc2 j)) d4 (fun j => nI (mb2 j)) a11 a12 b7 b8 b3 b1 b2 b4 b5 b6 (nI o2) o3 o4 o5 fo fp (nI bb) (fun j => nI (ct j)) (nI us) a30 a31 a32 a33 a34 a35 a36 a37 (fun j => nI (pil j)) (fun j => nI (rwv j)) (nI rl) v41 v42 v43 v44 v45) := by rw [ef9, ← z_upd (show bb < 2 ^ 31 by omega)]; exact hD
        have hbf9 : ∀ j, f9 j ≤ 16 := by rw [ef9]; exact z_upb hcl (by omega)
        have hfrf9 : ∀ j, j ≠ bb → f9 j = cl j := fun j hj => by rw [ef9, z_upn (by omega)]
        refine lv_iconst (v := 1) hx hb dX7_oneClass_407 (by decide) ?_
        have hP9 : va_P (dC, dI) vwCl (rW h0 r cI cJ cZ v0 a1 (nI tp) (nI bs) (fun j => nI (f9 j)) d1 d2 d3 (fun j => nI (fc2 j)) d4 (fun j => nI (mb2 j)) a11 a12 b7 b8 b3 b1 b2 b4 b5 b6 (nI o2) o3 o4 o5 fo fp (nI bb) (fun j => nI (ct j)) (nI us) a30 a31 a32 a33 a34 a35 a36 a37 (fun j => nI (pil j)) (fun j => nI (rwv j)) (nI rl) v41 v42 v43 v44 v45) H := hP
        have hD9 : va_D A (rW h0 r cI cJ cZ v0 a1 (nI tp) (nI bs) (fun j => nI (f9 j)) d1 d2 d3 (fun j => nI (fc2 j)) d4 (fun j => nI (mb2 j)) a11 a12 b7 b8 b3 b1 b2 b4 b5 b6 (nI o2) o3 o4 o5 fo fp (nI bb) (fun j => nI (ct j)) (nI us) a30 a31 a32 a33 a34 a35 a36 a37 (fun j => nI (pil j)) (fun j => nI (rwv j)) (nI rl) v41 v42 v43 v44 v45) := hD
        exact W.zret (v := (1 : Int32)) hx hb hr rfl (fun t ht hW => ⟨⟨(1 : Int32), (o2, o3, o4, o5, fo, fp, d1, d2, d3, fc2, d4, b7, b8, b1, b2, b3, b4, b5, b6, mb2, f9), rfl, ⟨(Or.inr rfl), (by omega), (by omega), (by first | (intro h9; exact absurd h9 (by decide)) | (intro _; omega)), hfrd1, hfrd3, hbfc2, hfrfc2, hfrd4, hbmb2, hbf9, hfrf9⟩, by rw [ht]; exact hP9, va_K.moved hW.alike hK, hD9⟩, hS.F ht⟩) hS.2.2 dX7_oneClass_408
      · refine lv_aload_n hx hb dX7_oneClass_380 rfl (lv_at hl 0 rfl) ?_
        refine lv_iload_n hx hb dX7_oneClass_381 rfl (lv_at hl 1 rfl) ?_
        have hFc := z_freeW hD hS hA
        refine va_calli (va_runV (As := [.int (nI (16 * bb + cl bb))]) (rest := []) ⟨hx, hb, hml, hown, hts⟩ (kX7_oneMember l dC dI h0 r cI cJ cZ v0 a1 tp bs cl d1 d2 d3 fc2 d4 mb2 a11 a12 b7 b8 b3 b1 b2 b4 b5 b6 i2 tk ta vl fo fp bb ct us a30 a31 a32 a33 a34 a35 a36 a37 pil rwv rl v41 v42 v43 v44 v45 ⟨by omega, by omega, by omega, hcl, hbfc2, hbmb2, hct, hpil, hrwv⟩ (16 * bb + cl bb) (by first | omega | assumption | trivial) (by first | omega | assumption | trivial) H.size) (cwV 1 hts zgX7_oneClass_X7_oneMember_208 rfl rfl rfl (by decide +kernel) ⟨(show 4 + 1 ≤ 5 by omega), (show 8 + (8 + 11) + 89 ≤ 116 by omega)⟩) (zVm (ci := 6) (q0 := 0) (q := (RX7, TX7, 46)) hK hP hD hL hS.2.1 hFc rfl rfl rfl) rfl rfl hl.1 rfl (lv_room (Nat.le_of_ble_eq_true rfl)) dX7_oneClass_382 ⟨(show 0 + 0 ≤ 0 by omega), (show 0 + 0 ≤ 0 by omega)⟩) hS (fun q _ h => hFc q h) hFc (fun r10 u26 t H1 locs ht hvm hw hB hz1 hk1 hS => ?_)
        obtain ⟨o11, o12, o13, o14, o15, o16, o17, o18, o19, o20, o21, o22, o23, o24, o25⟩ := u26
        obtain ⟨hP, hK9, hD⟩ := hB
        rw [ht] at hP
        have hD := hD.weaken (fun k q _ h => hFc q.1 h)
        generalize H1 = H at hP hS
        have hP : va_P (dC, dI) vwCl (rW h0 r cI cJ cZ v0 a1 (nI tp) (nI bs) (fun j => nI (cl j)) d1 d2 d3 (fun j => nI (fc2 j)) d4 (fun j => nI (o25 j)) a11 a12 o17 o18 o21 o19 o20 o22 o23 o24 (nI o11) o12 o13 o14 o15 o16 (nI bb) (fun j => nI (ct j)) (nI us) a30 a31 a32 a33 a34 a35 a36 a37 (fun j => nI (pil j)) (fun j => nI (rwv j)) (nI rl) v41 v42 v43 v44 v45) H := hP
        have hD : va_D A (rW h0 r cI cJ cZ v0 a1 (nI tp) (nI bs) (fun j => nI (cl j)) d1 d2 d3 (fun j => nI (fc2 j)) d4 (fun j => nI (o25 j)) a11 a12 o17 o18 o21 o19 o20 o22 o23 o24 (nI o11) o12 o13 o14 o15 o16 (nI bb) (fun j => nI (ct j)) (nI us) a30 a31 a32 a33 a34 a35 a36 a37 (fun j => nI (pil j)) (fun j => nI (rwv j)) (nI rl) v41 v42 v43 v44 v45) := hD
        have hw : (r10 = 0 ∨ r10 = 1) ∧ (i2 ≤ o11) ∧ (o11 ≤ tp) ∧ (r10 = 1 → i2 < o11) ∧ (∀ j, o25 j ≤ 12) := hw
        obtain ⟨w0r10, w1r10, w2r10, w3r10, hbo25⟩ := hw
        refine lv_if_ne (tgt := 371) hx hb dX7_oneClass_385 (by decide) (fun cp385 => ?_) (fun cp385 => ?_)
        · have ocp385w3r10 := w3r10 (w0r10.resolve_left cp385)
          exact ih371 o11 o12 o13 o14 o15 o16 d1 d2 d3 fc2 d4 o17 o18 o19 o20 o21 o22 o23 o24 o25 _ _ ls (by omega) hfrd1 hfrd3 hbfc2 hfrfc2 hfrd4 hbo25 (by first | omega | assumption | trivial) (by first | omega | assumption | trivial) (by first | omega | assumption | trivial) hP hD hS (lv_sub hl [0, 1] rfl)
        · refine lv_iconst (v := 0) hx hb dX7_oneClass_388 (by decide) ?_
          have hP9 : va_P (dC, dI) vwCl (rW h0 r cI cJ cZ v0 a1 (nI tp) (nI bs) (fun j => nI (cl j)) d1 d2 d3 (fun j => nI (fc2 j)) d4 (fun j => nI (o25 j)) a11 a12 o17 o18 o21 o19 o20 o22 o23 o24 (nI o11) o12 o13 o14 o15 o16 (nI bb) (fun j => nI (ct j)) (nI us) a30 a31 a32 a33 a34 a35 a36 a37 (fun j => nI (pil j)) (fun j => nI (rwv j)) (nI rl) v41 v42 v43 v44 v45) H := hP
          have hD9 : va_D A (rW h0 r cI cJ cZ v0 a1 (nI tp) (nI bs) (fun j => nI (cl j)) d1 d2 d3 (fun j => nI (fc2 j)) d4 (fun j => nI (o25 j)) a11 a12 o17 o18 o21 o19 o20 o22 o23 o24 (nI o11) o12 o13 o14 o15 o16 (nI bb) (fun j => nI (ct j)) (nI us) a30 a31 a32 a33 a34 a35 a36 a37 (fun j => nI (pil j)) (fun j => nI (rwv j)) (nI rl) v41 v42 v43 v44 v45) := hD
          exact W.zret (v := (0 : Int32)) hx hb hr rfl (fun t ht hW => ⟨⟨(0 : Int32), (o11, o12, o13, o14, o15, o16, d1, d2, d3, fc2, d4, o17, o18, o19, o20, o21, o22, o23, o24, o25, cl), rfl, ⟨(Or.inl rfl), (by omega), (by omega), (by first | (intro h9; exact absurd h9 (by decide)) | (intro _; omega)), hfrd1, hfrd3, hbfc2, hfrfc2, hfrd4, hbo25, hcl, (fun _ _ => rfl)⟩, by rw [ht]; exact hP9, va_K.moved hW.alike hK, hD9⟩, hS.F ht⟩) hS.2.2 dX7_oneClass_389
  have J267 : ∀ (z267 : Nat) (mo : Nat) (i2 : Nat) (tk : Int32) (ta : Int32) (vl : Int64) (d1 : Nat → Int32) (d2 : Nat → Int32) (d3 : Nat → Int32) (fc2 : Nat → Nat) (mb2 : Nat → Nat) (d4 : Nat → Int32) (H : Heap) (locs : List Loc) (ls : Array Slot), 2 * (tp - i2) + mo < z267 → (∀ j, j < 16 * bb → d1 j = a5 j) → (∀ j, j < 16 * bb → d3 j = a7 j) → (∀ j, fc2 j ≤ 3) → (∀ j, j < 16 * bb → fc2 j = fc j) → (∀ j, mb2 j ≤ 12) → (∀ j, j < 48 * bb → d4 j = a9 j) → (az < i2) → (i2 ≤ tp) → (cl bb < 16) → (mo ≤ 1) → va_P (dC, dI) vwCl (rW h0 r cI cJ cZ v0 a1 (nI tp) (nI bs) (fun j => nI (cl j)) d1 d2 d3 (fun j => nI (fc2 j)) d4 (fun j => nI (mb2 j)) a11 a12 a13 a14 a15 a16 a17 a18 a19 a20 (nI i2) tk ta vl v25 v26 (nI bb) (fun j => nI (ct j)) (nI us) a30 a31 a32 a33 a34 a35 a36 a37 (fun j => nI (pil j)) (fun j => nI (rwv j)) (nI rl) v41 v42 v43 v44 v45) H → va_D A (rW h0 r cI cJ cZ v0 a1 (nI tp) (nI bs) (fun j => nI (cl j)) d1 d2 d3 (fun j => nI (fc2 j)) d4 (fun j => nI (mb2 j)) a11 a12 a13 a14 a15 a16 a17 a18 a19 a20 (nI i2) tk ta vl v25 v26 (nI bb) (fun j => nI (ct j)) (nI us) a30 a31 a32 a33 a34 a35 a36 a37 (fun j => nI (pil j)) (fun j => nI (rwv j)) (nI rl) v41 v42 v43 v44 v45) → va_S A s.heap H locs → lv_has ls 5 [(0, .ref h0), (3, .int (nI (16 * bb + cl bb))), (4, .int (nI mo))] → W p l e (headSpec zwX7_oneClass { frames := 5, cells := 0, slots := 0, locals := 116 }).room s m (([.ref h0] : List Value).toArray) below meth c H locs 0 0 (MQ below (va_Qi (fun (r : Int32) (u : Nat × Int32 × Int32 × Int64 × Int32 × Int32 × (Nat → Int32) × (Nat → Int32) × (Nat → Int32) × (Nat → Nat) × (Nat → Int32) × (Nat → Int64) × (Nat → Int32) × (Nat → Int32) × (Nat → Int32) × (Nat → Int32) × (Nat → Int32) × (Nat → Int32) × (Nat → Int32) × (Nat → Nat) × (Nat → Nat)) => (r = 0 ∨ r = 1) ∧ (az ≤ (u.1)) ∧ ((u.1) ≤ tp) ∧ (r = 1 → az < (u.1)) ∧ (∀ j, j < 16 * bb → (u.2.2.2.2.2.2.1) j = a5 j) ∧ (∀ j, j < 16 * bb → (u.2.2.2.2.2.2.2.2.1) j = a7 j) ∧ (∀ j, (u.2.2.2.2.2.2.2.2.2.1) j ≤ 3) ∧ (∀ j, j < 16 * bb → (u.2.2.2.2.2.2.2.2.2.1) j = fc j) ∧ (∀ j, j < 48 * bb → (u.2.2.2.2.2.2.2.2.2.2.1) j = a9 j) ∧ (∀ j, (u.2.2.2.2.2.2.2.2.2.2.2.2.2.2.2.2.2.2.2.1) j ≤ 12) ∧ (∀ j, (u.2.2.2.2.2.2.2.2.2.2.2.2.2.2.2.2.2.2.2.2) j ≤ 16) ∧ (∀ j, j ≠ bb → (u.2.2.2.2.2.2.2.2.2.2.2.2.2.2.2.2.2.2.2.2) j = cl j)) (fun u t => zB dC dI (A) (rW h0 r cI cJ cZ v0 a1 (nI tp) (nI bs) (fun j => nI ((u.2.2.2.2.2.2.2.2.2.2.2.2.2.2.2.2.2.2.2.2) j)) (u.2.2.2.2.2.2.1) (u.2.2.2.2.2.2.2.1) (u.2.2.2.2.2.2.2.2.1) (fun j => nI ((u.2.2.2.2.2.2.2.2.2.1) j)) (u.2.2.2.2.2.2.2.2.2.2.1) (fun j => nI ((u.2.2.2.2.2.2.2.2.2.2.2.2.2.2.2.2.2.2.2.1) j)) a11 a12 (u.2.2.2.2.2.2.2.2.2.2.2.1) (u.2.2.2.2.2.2.2.2.2.2.2.2.1) (u.2.2.2.2.2.2.2.2.2.2.2.2.2.2.2.1) (u.2.2.2.2.2.2.2.2.2.2.2.2.2.1) (u.2.2.2.2.2.2.2.2.2.2.2.2.2.2.1) (u.2.2.2.2.2.2.2.2.2.2.2.2.2.2.2.2.1) (u.2.2.2.2.2.2.2.2.2.2.2.2.2.2.2.2.2.1) (u.2.2.2.2.2.2.2.2.2.2.2.2.2.2.2.2.2.2.1) (nI (u.1)) (u.2.1) (u.2.2.1) (u.2.2.2.1) (u.2.2.2.2.1) (u.2.2.2.2.2.1) (nI bb) (fun j => nI (ct j)) (nI us) a30 a31 a32 a33 a34 a35 a36 a37 (fun j => nI (pil j)) (fun j => nI (rwv j)) (nI rl) v41 v42 v43 v44 v45) [(cI, .int), (cJ, .long), (cZ, .boolean)] t) (A)) (([.ref h0] : List Value).toArray) s 0 0 A) (F0 m 267 ls []) := by
    intro z267
    induction z267 with
    | zero => intro mo i2 tk ta vl d1 d2 d3 fc2 mb2 d4 H locs ls h9; exact absurd h9 (Nat.not_lt_zero _)
    | succ z267 ih267 =>
      intro mo i2 tk ta vl d1 d2 d3 fc2 mb2 d4 H locs ls hm267 hfrd1 hfrd3 hbfc2 hfrfc2 hbmb2 hfrd4 i267_0 i267_1 i267_2 i267_3 hP hD hS hl
      refine lv_iload hx hb dX7_oneClass_267 (lv_at hl 2 rfl) ?_
      refine lv_if_eq (tgt := 360) hx hb dX7_oneClass_269 (by decide) (fun cp269 => ?_) (fun cp269 => ?_)
      · have qcp269 : mo = 0 := (nI_eq (a := mo) (b := 0) (by omega) (by omega)).mp cp269
        refine lv_aload_n hx hb dX7_oneClass_360 rfl (lv_at hl 0 rfl) ?_
        refine lv_bipush (v := 123) hx hb dX7_oneClass_361 (by decide) ?_
        have hFc := z_freeW hD hS hA
        refine va_calli (va_runV (As := [.int 123]) (rest := []) ⟨hx, hb, hml, hown, hts⟩ (kX7_takes l dC dI h0 r cI cJ cZ v0 a1 tp bs cl d1 d2 d3 fc2 d4 mb2 a11 a12 a13 a14 a15 a16 a17 a18 a19 a20 i2 tk ta vl v25 v26 bb ct us a30 a31 a32 a33 a34 a35 a36 a37 pil rwv rl v41 v42 v43 v44 v45 ⟨by omega, by omega, by omega, hcl, hbfc2, hbmb2, hct, hpil, hrwv⟩ (123 : Int32) (by first | omega | assumption | trivial) H.size) (cwV 1 hts zgX7_oneClass_X7_takes_205 rfl rfl rfl (by decide +kernel) ⟨(show 3 + 1 ≤ 5 by omega), (show 8 + (2 + 11) + 66 ≤ 116 by omega)⟩) (zVm (ci := 6) (q0 := 0) (q := (RX7, TX7, 46)) hK hP hD hL hS.2.1 hFc rfl rfl rfl) rfl rfl hl.1 rfl (lv_room (Nat.le_of_ble_eq_true rfl)) dX7_oneClass_363 ⟨(show 0 + 0 ≤ 0 by omega), (show 0 + 0 ≤ 0 by omega)⟩) hS (fun q _ h => hFc q h) hFc (fun r27 u34 t H1 locs ht hvm hw hB hz1 hk1 hS => ?_)
        obtain ⟨o28, o29, o30, o31, o32, o33⟩ := u34
        obtain ⟨hP, hK9, hD⟩ := hB
        rw [ht] at hP
        have hD := hD.weaken (fun k q _ h => hFc q.1 h)
        generalize H1 = H at hP hS
        have hP : va_P (dC, dI) vwCl (rW h0 r cI cJ cZ v0 a1 (nI tp) (nI bs) (fun j => nI (cl j)) d1 d2 d3 (fun j => nI (fc2 j)) d4 (fun j => nI (mb2 j)) a11 a12 a13 a14 a15 a16 a17 a18 a19 a20 (nI o28) o29 o30 o31 o32 o33 (nI bb) (fun j => nI (ct j)) (nI us) a30 a31 a32 a33 a34 a35 a36 a37 (fun j => nI (pil j)) (fun j => nI (rwv j)) (nI rl) v41 v42 v43 v44 v45) H := hP
        have hD : va_D A (rW h0 r cI cJ cZ v0 a1 (nI tp) (nI bs) (fun j => nI (cl j)) d1 d2 d3 (fun j => nI (fc2 j)) d4 (fun j => nI (mb2 j)) a11 a12 a13 a14 a15 a16 a17 a18 a19 a20 (nI o28) o29 o30 o31 o32 o33 (nI bb) (fun j => nI (ct j)) (nI us) a30 a31 a32 a33 a34 a35 a36 a37 (fun j => nI (pil j)) (fun j => nI (rwv j)) (nI rl) v41 v42 v43 v44 v45) := hD
        have hw : (r27 = 0 ∨ r27 = 1) ∧ (i2 ≤ o28) ∧ (o28 ≤ tp) ∧ (¬ o29 = 0 → r27 = 1 → i2 < o28) := hw
        obtain ⟨w0r27, w1r27, w2r27, w3r27⟩ := hw
        refine lv_if_ne (tgt := 371) hx hb dX7_oneClass_366 (by decide) (fun cp366 => ?_) (fun cp366 => ?_)
        · exact J371 _ o28 o29 o30 o31 o32 o33 d1 d2 d3 fc2 d4 a13 a14 a16 a17 a15 a18 a19 a20 mb2 _ _ ls (Nat.lt_succ_self _) hfrd1 hfrd3 hbfc2 hfrfc2 hfrd4 hbmb2 (by first | omega | assumption | trivial) (by first | omega | assumption | trivial) (by first | omega | assumption | trivial) hP hD hS (lv_sub hl [0, 1] rfl)
        · refine lv_iconst (v := 0) hx hb dX7_oneClass_369 (by decide) ?_
          have hP9 : va_P (dC, dI) vwCl (rW h0 r cI cJ cZ v0 a1 (nI tp) (nI bs) (fun j => nI (cl j)) d1 d2 d3 (fun j => nI (fc2 j)) d4 (fun j => nI (mb2 j)) a11 a12 a13 a14 a15 a16 a17 a18 a19 a20 (nI o28) o29 o30 o31 o32 o33 (nI bb) (fun j => nI (ct j)) (nI us) a30 a31 a32 a33 a34 a35 a36 a37 (fun j => nI (pil j)) (fun j => nI (rwv j)) (nI rl) v41 v42 v43 v44 v45) H := hP
          have hD9 : va_D A (rW h0 r cI cJ cZ v0 a1 (nI tp) (nI bs) (fun j => nI (cl j)) d1 d2 d3 (fun j => nI (fc2 j)) d4 (fun j => nI (mb2 j)) a11 a12 a13 a14 a15 a16 a17 a18 a19 a20 (nI o28) o29 o30 o31 o32 o33 (nI bb) (fun j => nI (ct j)) (nI us) a30 a31 a32 a33 a34 a35 a36 a37 (fun j => nI (pil j)) (fun j => nI (rwv j)) (nI rl) v41 v42 v43 v44 v45) := hD
          exact W.zret (v := (0 : Int32)) hx hb hr rfl (fun t ht hW => ⟨⟨(0 : Int32), (o28, o29, o30, o31, o32, o33, d1, d2, d3, fc2, d4, a13, a14, a16, a17, a15, a18, a19, a20, mb2, cl), rfl, ⟨(Or.inl rfl), (by omega), (by omega), (by first | (intro h9; exact absurd h9 (by decide)) | (intro _; omega)), hfrd1, hfrd3, hbfc2, hfrfc2, hfrd4, hbmb2, hcl, (fun _ _ => rfl)⟩, by rw [ht]; exact hP9, va_K.moved hW.alike hK, hD9⟩, hS.F ht⟩) hS.2.2 dX7_oneClass_370
      · have qcp269 : ¬ mo = 0 := fun h9 => cp269 ((nI_eq (a := mo) (b := 0) (by omega) (by omega)).mpr h9)
        refine lv_aload_n hx hb dX7_oneClass_272 rfl (lv_at hl 0 rfl) ?_
        have hFc := z_freeW hD hS hA
        refine va_callv (va_runV (As := []) (rest := []) ⟨hx, hb, hml, hown, hts⟩ (kX7_next l dC dI h0 r cI cJ cZ v0 a1 tp bs cl d1 d2 d3 fc2 d4 mb2 a11 a12 a13 a14 a15 a16 a17 a18 a19 a20 i2 tk ta vl v25 v26 bb ct us a30 a31 a32 a33 a34 a35 a36 a37 pil rwv rl v41 v42 v43 v44 v45 ⟨by omega, by omega, by omega, hcl, hbfc2, hbmb2, hct, hpil, hrwv⟩ (by first | omega | assumption | trivial) H.size) (cwV 0 hts zgX7_oneClass_X7_next_195 rfl rfl rfl (by decide +kernel) ⟨(show 2 + 1 ≤ 5 by omega), (show 8 + (2 + 11) + 45 ≤ 116 by omega)⟩) (zVm (ci := 6) (q0 := 0) (q := (RX7, TX7, 46)) hK hP hD hL hS.2.1 hFc rfl rfl rfl) rfl rfl hl.1 rfl (lv_room (Nat.le_of_ble_eq_true rfl)) dX7_oneClass_273 ⟨(show 0 + 0 ≤ 0 by omega), (show 0 + 0 ≤ 0 by omega)⟩) hS (fun q _ h => hFc q h) hFc (fun u40 t H1 locs ht hvm hw hB hz1 hk1 hS => ?_)
        obtain ⟨o36, o37, o38, o39⟩ := u40
        obtain ⟨hP, hK9, hD⟩ := hB
        rw [ht] at hP
        have hD := hD.weaken (fun k q _ h => hFc q.1 h)
        generalize H1 = H at hP hS
        have hP : va_P (dC, dI) vwCl (rW h0 r cI cJ cZ v0 a1 (nI tp) (nI bs) (fun j => nI (cl j)) d1 d2 d3 (fun j => nI (fc2 j)) d4 (fun j => nI (mb2 j)) a11 a12 a13 a14 a15 a16 a17 a18 a19 a20 (nI o36) o37 o38 o39 v25 v26 (nI bb) (fun j => nI (ct j)) (nI us) a30 a31 a32 a33 a34 a35 a36 a37 (fun j => nI (pil j)) (fun j => nI (rwv j)) (nI rl) v41 v42 v43 v44 v45) H := hP
        have hD : va_D A (rW h0 r cI cJ cZ v0 a1 (nI tp) (nI bs) (fun j => nI (cl j)) d1 d2 d3 (fun j => nI (fc2 j)) d4 (fun j => nI (mb2 j)) a11 a12 a13 a14 a15 a16 a17 a18 a19 a20 (nI o36) o37 o38 o39 v25 v26 (nI bb) (fun j => nI (ct j)) (nI us) a30 a31 a32 a33 a34 a35 a36 a37 (fun j => nI (pil j)) (fun j => nI (rwv j)) (nI rl) v41 v42 v43 v44 v45) := hD
        have hw : (i2 ≤ o36) ∧ (o36 ≤ tp) ∧ (¬ o37 = 0 → i2 < o36) := hw
        obtain ⟨w0r35, w1r35, w2r35⟩ := hw
        refine lv_aload_n hx hb dX7_oneClass_276 rfl (lv_at hl 0 rfl) ?_
        refine va_get (D := (dC, dI)) (ci := 6) (v := .int o37) (C := RX7) (T := TX7) (N := 46) hx hb hts hiX7 hown hK hP 0 rfl rfl 22 (by decide) (hts (.fieldLink RX7 136 "LinkModelsModel" "token" "I") (by decide +kernel)) (fun _ h9 => h9) rfl dX7_oneClass_277 ?_
        refine lv_bipush (v := 78) hx hb dX7_oneClass_280 (by decide) ?_
        refine lv_icmp_eq (tgt := 291) hx hb dX7_oneClass_282 (by decide) (fun cp282 => ?_) (fun cp282 => ?_)
        · have zcp282 := w2r35 (by rw [cp282]; decide)
          refine lv_aload_n hx hb dX7_oneClass_291 rfl (lv_at hl 0 rfl) ?_
          refine va_get (D := (dC, dI)) (ci := 6) (v := .ref (r 8)) (C := RX7) (T := TX7) (N := 46) hx hb hts hiX7 hown hK hP 0 rfl rfl 8 (by decide) (hts (.fieldLink RX7 29 "LinkModelsModel" "faces" "[I") (by decide +kernel)) (fun _ h9 => h9) rfl dX7_oneClass_292 ?_
          refine lv_iload_n hx hb dX7_oneClass_295 rfl (lv_at hl 1 rfl) ?_
          refine va_iald hx hb hK hP 6 0 rfl rfl (vp_in_nI (show 16 * bb + cl bb < 80 by omega) (by decide)) dX7_oneClass_296 ?_
          refine lv_topi (fun x41 ex41 => ?_)
          obtain rfl : x41 = nI (fc2 (16 * bb + cl bb)) := by rw [ex41, nI_clamp (show 16 * bb + cl bb < 2 ^ 31 by omega)]
          have hqx41 := hbfc2 (16 * bb + cl bb)
          refine lv_iconst (v := 3) hx hb dX7_oneClass_297 (by decide) ?_
          refine lv_icmp_ne (tgt := 307) hx hb dX7_oneClass_298 (by decide) (fun cp298 => ?_) (fun cp298 => ?_)
          · have qcp298 : ¬ (fc2 (16 * bb + cl bb)) = 3 := fun h9 => cp298 ((nI_eq (a := fc2 (16 * bb + cl bb)) (b := 3) (by omega) (by omega)).mpr h9)
            refine lv_aload_n hx hb dX7_oneClass_307 rfl (lv_at hl 0 rfl) ?_
            refine va_get (D := (dC, dI)) (ci := 6) (v := .ref (r 9)) (C := RX7) (T := TX7) (N := 46) hx hb hts hiX7 hown hK hP 0 rfl rfl 9 (by decide) (hts (.fieldLink RX7 32 "LinkModelsModel" "face" "[I") (by decide +kernel)) (fun _ h9 => h9) rfl dX7_oneClass_308 ?_
            refine lv_iconst (v := 3) hx hb dX7_oneClass_311 (by decide) ?_
            refine lv_iload_n hx hb dX7_oneClass_312 rfl (lv_at hl 1 rfl) ?_
            refine lv_imul hx hb dX7_oneClass_313 ?_
            refine lv_topi (fun x42 ex42 => ?_)
            obtain rfl : x42 = nI (3 * (16 * bb + cl bb)) := by rw [ex42]; exact pk_mul (3) (16 * bb + cl bb)
            refine lv_aload_n hx hb dX7_oneClass_314 rfl (lv_at hl 0 rfl) ?_
            refine va_get (D := (dC, dI)) (ci := 6) (v := .ref (r 8)) (C := RX7) (T := TX7) (N := 46) hx hb hts hiX7 hown hK hP 0 rfl rfl 8 (by decide) (hts (.fieldLink RX7 29 "LinkModelsModel" "faces" "[I") (by decide +kernel)) (fun _ h9 => h9) rfl dX7_oneClass_315 ?_
            refine lv_iload_n hx hb dX7_oneClass_318 rfl (lv_at hl 1 rfl) ?_
            refine va_iald hx hb hK hP 6 0 rfl rfl (vp_in_nI (show 16 * bb + cl bb < 80 by omega) (by decide)) dX7_oneClass_319 ?_
            refine lv_topi (fun x43 ex43 => ?_)
            obtain rfl : x43 = nI (fc2 (16 * bb + cl bb)) := by rw [ex43, nI_clamp (show 16 * bb + cl bb < 2 ^ 31 by omega)]
            have hqx43 := hbfc2 (16 * bb + cl bb)
            refine lv_iadd hx hb dX7_oneClass_320 ?_
            refine lv_topi (fun x44 ex44 => ?_)
            obtain rfl : x44 = nI ((3 * (16 * bb + cl bb)) + (fc2 (16 * bb + cl bb))) := by rw [ex44]; exact nI_add (3 * (16 * bb + cl bb)) (fc2 (16 * bb + cl bb))
            refine lv_aload_n hx hb dX7_oneClass_321 rfl (lv_at hl 0 rfl) ?_
            refine va_get (D := (dC, dI)) (ci := 6) (v := .long o39) (C := RX7) (T := TX7) (N := 46) hx hb hts hiX7 hown hK hP 0 rfl rfl 24 (by decide) (hts (.fieldLink RX7 132 "LinkModelsModel" "value" "J") (by decide +kernel)) (fun _ h9 => h9) rfl dX7_oneClass_322 ?_
            refine lv_l2i hx hb dX7_oneClass_325 rfl ?_
            refine lv_topi (fun x45 ex45 => ?_)
            refine va_iast hx hb hK hP hD hS 7 0 rfl rfl (vp_in_nI (show (3 * (16 * bb + cl bb)) + (fc2 (16 * bb + cl bb)) < 240 by omega) (by decide)) dX7_oneClass_326 (fun H locs hP hD hS => ?_)
            obtain ⟨f46, ef46, hP, hD⟩ : ∃ g : Nat → Int32, g = upd d4 ((3 * (16 * bb + cl bb)) + (fc2 (16 * bb + cl bb))) x45 ∧ va_P (dC, dI) vwCl (rW h0 r cI cJ cZ v0 a1 (nI tp) (nI bs) (fun j => nI (cl j)) d1 d2 d3 (fun j => nI (fc2 j)) g (fun j => nI (mb2 j)) a11 a12 a13 a14 a15 a16 a17 a18 a19 a20 (nI o36) o37 o38 o39 v25 v26 (nI bb) (fun j => nI (ct j)) (nI us) a30 a31 a32 a33 a34 a35 a36 a37 (fun j => nI (pil j)) (fun j => nI (rwv j)) (nI rl) v41 v42 v43 v44 v45) H ∧ va_D A (rW h0 r cI cJ cZ v0 a1 (nI tp) (nI bs) (fun j => nI (cl j)) d1 d2 d3 (fun j => nI (fc2 j)) g (fun j => nI (mb2 j)) a11 a12 a13 a14 a15 a16 a17 a18 a19 a20 (nI o36) o37 o38 o39 v25 v26 (nI bb) (fun j => nI (ct j)) (nI us) a30 a31 a32 a33 a34 a35 a36 a37 (fun j => nI (pil j)) (fun j => nI (rwv j)) (nI rl) v41 v42 v43 v44 v45) := ⟨_, rfl, (by rw [← nI_clamp (show (3 * (16 * bb + cl bb)) + (fc2 (16 * bb + cl bb)) < 2 ^ 31 by omega)]; exact hP), (by rw [← nI_clamp (show (3 * (16 * bb + cl bb)) + (fc2 (16 * bb + cl bb)) < 2 ^ 31 by omega)]; exact hD)⟩
            have hfrf46 : ∀ j, j < 48 * bb → f46 j = a9 j := fun j hj => by rw [ef46, pk_un (by omega)]; exact hfrd4 j hj
            refine lv_aload_n hx hb dX7_oneClass_327 rfl (lv_at hl 0 rfl) ?_
            refine va_get (D := (dC, dI)) (ci := 6) (v := .ref (r 8)) (C := RX7) (T := TX7) (N := 46) hx hb hts hiX7 hown hK hP 0 rfl rfl 8 (by decide) (hts (.fieldLink RX7 29 "LinkModelsModel" "faces" "[I") (by decide +kernel)) (fun _ h9 => h9) rfl dX7_oneClass_328 ?_
            refine lv_iload_n hx hb dX7_oneClass_331 rfl (lv_at hl 1 rfl) ?_
            refine lv_dup2_11 hx hb dX7_oneClass_332 rfl rfl ?_
            refine va_iald hx hb hK hP 6 0 rfl rfl (vp_in_nI (show 16 * bb + cl bb < 80 by omega) (by decide)) dX7_oneClass_333 ?_
            refine lv_topi (fun x47 ex47 => ?_)
            obtain rfl : x47 = nI (fc2 (16 * bb + cl bb)) := by rw [ex47, nI_clamp (show 16 * bb + cl bb < 2 ^ 31 by omega)]
            have hqx47 := hbfc2 (16 * bb + cl bb)
            refine lv_iconst (v := 1) hx hb dX7_oneClass_334 (by decide) ?_
            refine lv_iadd hx hb dX7_oneClass_335 ?_
            refine lv_topi (fun x48 ex48 => ?_)
            obtain rfl : x48 = nI ((fc2 (16 * bb + cl bb)) + 1) := by rw [ex48]; exact nI_add (fc2 (16 * bb + cl bb)) (1)
            refine va_iast hx hb hK hP hD hS 6 0 rfl rfl (vp_in_nI (show 16 * bb + cl bb < 80 by omega) (by decide)) dX7_oneClass_336 (fun H locs hP hD hS => ?_)
            obtain ⟨f49, ef49⟩ : ∃ g, g = z_up fc2 (16 * bb + cl bb) ((fc2 (16 * bb + cl bb)) + 1) := ⟨_, rfl⟩
            have hP : va_P (dC, dI) vwCl (rW h0 r cI cJ cZ v0 a1 (nI tp) (nI bs) (fun j => nI (cl j)) d1 d2 d3 (fun j => nI (f49 j)) f46 (fun j => nI (mb2 j)) a11 a12 a13 a14 a15 a16 a17 a18 a19 a20 (nI o36) o37 o38 o39 v25 v26 (nI bb) (fun j => nI (ct j)) (nI us) a30 a31 a32 a33 a34 a35 a36 a37 (fun j => nI (pil j)) (fun j => nI (rwv j)) (nI rl) v41 v42 v43 v44 v45) H := by rw [ef49, ← z_upd (show 16 * bb + cl bb < 2 ^ 31 by omega)]; exact hP
            have hD : va_D A (rW h0 r cI cJ cZ v0 a1 (nI tp) (nI bs) (fun j => nI (cl j)) d1 d2 d3 (fun j => nI (f49 j)) f46 (fun j => nI (mb2 j)) a11 a12 a13 a14 a15 a16 a17 a18 a19 a20 (nI o36) o37 o38 o39 v25 v26 (nI bb) (fun j => nI (ct j)) (nI us) a30 a31 a32 a33 a34 a35 a36 a37 (fun j => nI (pil j)) (fun j => nI (rwv j)) (nI rl) v41 v42 v43 v44 v45) := by rw [ef49, ← z_upd (show 16 * bb + cl bb < 2 ^ 31 by omega)]; exact hD
            have hbf49 : ∀ j, f49 j ≤ 3 := by rw [ef49]; exact z_upb hbfc2 (by omega)
            have hfrf49 : ∀ j, j < 16 * bb → f49 j = fc j := fun j hj => by rw [ef49, z_upn (by omega)]; exact hfrfc2 j hj
            refine lv_aload_n hx hb dX7_oneClass_337 rfl (lv_at hl 0 rfl) ?_
            have hFc := z_freeW hD hS hA
            refine va_callv (va_runV (As := []) (rest := []) ⟨hx, hb, hml, hown, hts⟩ (kX7_next l dC dI h0 r cI cJ cZ v0 a1 tp bs cl d1 d2 d3 f49 f46 mb2 a11 a12 a13 a14 a15 a16 a17 a18 a19 a20 o36 o37 o38 o39 v25 v26 bb ct us a30 a31 a32 a33 a34 a35 a36 a37 pil rwv rl v41 v42 v43 v44 v45 ⟨by omega, by omega, by omega, hcl, hbf49, hbmb2, hct, hpil, hrwv⟩ (by first | omega | assumption | trivial) H.size) (cwV 0 hts zgX7_oneClass_X7_next_195 rfl rfl rfl (by decide +kernel) ⟨(show 2 + 1 ≤ 5 by omega), (show 8 + (2 + 11) + 45 ≤ 116 by omega)⟩) (zVm (ci := 6) (q0 := 0) (q := (RX7, TX7, 46)) hK hP hD hL hS.2.1 hFc rfl rfl rfl) rfl rfl hl.1 rfl (lv_room (Nat.le_of_ble_eq_true rfl)) dX7_oneClass_338 ⟨(show 0 + 0 ≤ 0 by omega), (show 0 + 0 ≤ 0 by omega)⟩) hS (fun q _ h => hFc q h) hFc (fun u55 t H1 locs ht hvm hw hB hz1 hk1 hS => ?_)
            obtain ⟨o51, o52, o53, o54⟩ := u55
            obtain ⟨hP, hK9, hD⟩ := hB
            rw [ht] at hP
            have hD := hD.weaken (fun k q _ h => hFc q.1 h)
            generalize H1 = H at hP hS
            have hP : va_P (dC, dI) vwCl (rW h0 r cI cJ cZ v0 a1 (nI tp) (nI bs) (fun j => nI (cl j)) d1 d2 d3 (fun j => nI (f49 j)) f46 (fun j => nI (mb2 j)) a11 a12 a13 a14 a15 a16 a17 a18 a19 a20 (nI o51) o52 o53 o54 v25 v26 (nI bb) (fun j => nI (ct j)) (nI us) a30 a31 a32 a33 a34 a35 a36 a37 (fun j => nI (pil j)) (fun j => nI (rwv j)) (nI rl) v41 v42 v43 v44 v45) H := hP
            have hD : va_D A (rW h0 r cI cJ cZ v0 a1 (nI tp) (nI bs) (fun j => nI (cl j)) d1 d2 d3 (fun j => nI (f49 j)) f46 (fun j => nI (mb2 j)) a11 a12 a13 a14 a15 a16 a17 a18 a19 a20 (nI o51) o52 o53 o54 v25 v26 (nI bb) (fun j => nI (ct j)) (nI us) a30 a31 a32 a33 a34 a35 a36 a37 (fun j => nI (pil j)) (fun j => nI (rwv j)) (nI rl) v41 v42 v43 v44 v45) := hD
            have hw : (o36 ≤ o51) ∧ (o51 ≤ tp) ∧ (¬ o52 = 0 → o36 < o51) := hw
            obtain ⟨w0r50, w1r50, w2r50⟩ := hw
            refine lv_aload_n hx hb dX7_oneClass_341 rfl (lv_at hl 0 rfl) ?_
            refine va_get (D := (dC, dI)) (ci := 6) (v := .int o52) (C := RX7) (T := TX7) (N := 46) hx hb hts hiX7 hown hK hP 0 rfl rfl 22 (by decide) (hts (.fieldLink RX7 136 "LinkModelsModel" "token" "I") (by decide +kernel)) (fun _ h9 => h9) rfl dX7_oneClass_342 ?_
            refine lv_bipush (v := 44) hx hb dX7_oneClass_345 (by decide) ?_
            refine lv_icmp_ne (tgt := 354) hx hb dX7_oneClass_347 (by decide) (fun cp347 => ?_) (fun cp347 => ?_)
            · refine lv_iconst (v := 0) hx hb dX7_oneClass_354 (by decide) ?_
              refine lv_istore (lv' := [(4, .int 0), (0, .ref h0), (3, .int (nI (16 * bb + cl bb)))]) hx hb dX7_oneClass_355 hl (by decide) rfl (fun ls hl => ?_)
              refine lv_goto (tgt := 267) hx hb dX7_oneClass_357 (by decide) ?_
              exact ih267 0 o51 o52 o53 o54 d1 d2 d3 f49 mb2 f46 _ _ ls (by omega) hfrd1 hfrd3 hbf49 hfrf49 hbmb2 hfrf46 (by first | omega | assumption | trivial) (by first | omega | assumption | trivial) (by first | omega | assumption | trivial) (by first | omega | assumption | trivial) hP hD hS (lv_sub hl [1, 2, 0] rfl)
            · have zcp347 := w2r50 (by rw [cp347]; decide)
              refine lv_iconst (v := 1) hx hb dX7_oneClass_350 (by decide) ?_
              refine lv_goto (tgt := 355) hx hb dX7_oneClass_351 (by decide) ?_
              refine lv_istore (lv' := [(4, .int 1), (0, .ref h0), (3, .int (nI (16 * bb + cl bb)))]) hx hb dX7_oneClass_355 hl (by decide) rfl (fun ls hl => ?_)
              refine lv_goto (tgt := 267) hx hb dX7_oneClass_357 (by decide) ?_
              exact ih267 1 o51 o52 o53 o54 d1 d2 d3 f49 mb2 f46 _ _ ls (by omega) hfrd1 hfrd3 hbf49 hfrf49 hbmb2 hfrf46 (by first | omega | assumption | trivial) (by first | omega | assumption | trivial) (by first | omega | assumption | trivial) (by first | omega | assumption | trivial) hP hD hS (lv_sub hl [1, 2, 0] rfl)
          · have qcp298 : (fc2 (16 * bb + cl bb)) = 3 := (nI_eq (a := fc2 (16 * bb + cl bb)) (b := 3) (by omega) (by omega)).mp cp298
            refine lv_aload_n hx hb dX7_oneClass_301 rfl (lv_at hl 0 rfl) ?_
            refine lv_iconst (v := 2) hx hb dX7_oneClass_302 (by decide) ?_
            have hFc := z_freeW hD hS hA
            refine va_calli (va_runV (As := [.int 2]) (rest := []) ⟨hx, hb, hml, hown, hts⟩ (kX7_fails l dC dI h0 r cI cJ cZ v0 a1 tp bs cl d1 d2 d3 fc2 d4 mb2 a11 a12 a13 a14 a15 a16 a17 a18 a19 a20 o36 o37 o38 o39 v25 v26 bb ct us a30 a31 a32 a33 a34 a35 a36 a37 pil rwv rl v41 v42 v43 v44 v45 ⟨by omega, by omega, by omega, hcl, hbfc2, hbmb2, hct, hpil, hrwv⟩ (2 : Int32) H.size) (cwV 1 hts zgX7_oneClass_X7_fails_192 rfl rfl rfl (by decide +kernel) ⟨(show 0 + 1 ≤ 5 by omega), (show 8 + (2 + 11) + 0 ≤ 116 by omega)⟩) (zVm (ci := 6) (q0 := 0) (q := (RX7, TX7, 46)) hK hP hD hL hS.2.1 hFc rfl rfl rfl) rfl rfl hl.1 rfl (lv_room (Nat.le_of_ble_eq_true rfl)) dX7_oneClass_303 ⟨(show 0 + 0 ≤ 0 by omega), (show 0 + 0 ≤ 0 by omega)⟩) hS (fun q _ h => hFc q h) hFc (fun r56 u59 t H1 locs ht hvm hw hB hz1 hk1 hS => ?_)
            obtain ⟨o57, o58⟩ := u59
            obtain ⟨hP, hK9, hD⟩ := hB
            rw [ht] at hP
            have hD := hD.weaken (fun k q _ h => hFc q.1 h)
            generalize H1 = H at hP hS
            have hP : va_P (dC, dI) vwCl (rW h0 r cI cJ cZ v0 a1 (nI tp) (nI bs) (fun j => nI (cl j)) d1 d2 d3 (fun j => nI (fc2 j)) d4 (fun j => nI (mb2 j)) a11 a12 a13 a14 a15 a16 a17 a18 a19 a20 (nI o36) o37 o38 o39 o57 o58 (nI bb) (fun j => nI (ct j)) (nI us) a30 a31 a32 a33 a34 a35 a36 a37 (fun j => nI (pil j)) (fun j => nI (rwv j)) (nI rl) v41 v42 v43 v44 v45) H := hP
            have hD : va_D A (rW h0 r cI cJ cZ v0 a1 (nI tp) (nI bs) (fun j => nI (cl j)) d1 d2 d3 (fun j => nI (fc2 j)) d4 (fun j => nI (mb2 j)) a11 a12 a13 a14 a15 a16 a17 a18 a19 a20 (nI o36) o37 o38 o39 o57 o58 (nI bb) (fun j => nI (ct j)) (nI us) a30 a31 a32 a33 a34 a35 a36 a37 (fun j => nI (pil j)) (fun j => nI (rwv j)) (nI rl) v41 v42 v43 v44 v45) := hD
            have hw : (r56 = 0 ∨ r56 = 1) ∧ (r56 = 0) := hw
            obtain ⟨w0r56, w1r56⟩ := hw
            subst w1r56
            have hP9 : va_P (dC, dI) vwCl (rW h0 r cI cJ cZ v0 a1 (nI tp) (nI bs) (fun j => nI (cl j)) d1 d2 d3 (fun j => nI (fc2 j)) d4 (fun j => nI (mb2 j)) a11 a12 a13 a14 a15 a16 a17 a18 a19 a20 (nI o36) o37 o38 o39 o57 o58 (nI bb) (fun j => nI (ct j)) (nI us) a30 a31 a32 a33 a34 a35 a36 a37 (fun j => nI (pil j)) (fun j => nI (rwv j)) (nI rl) v41 v42 v43 v44 v45) H := hP
            have hD9 : va_D A (rW h0 r cI cJ cZ v0 a1 (nI tp) (nI bs) (fun j => nI (cl j)) d1 d2 d3 (fun j => nI (fc2 j)) d4 (fun j => nI (mb2 j)) a11 a12 a13 a14 a15 a16 a17 a18 a19 a20 (nI o36) o37 o38 o39 o57 o58 (nI bb) (fun j => nI (ct j)) (nI us) a30 a31 a32 a33 a34 a35 a36 a37 (fun j => nI (pil j)) (fun j => nI (rwv j)) (nI rl) v41 v42 v43 v44 v45) := hD
            exact W.zret (v := (0 : Int32)) hx hb hr rfl (fun t ht hW => ⟨⟨(0 : Int32), (o36, o37, o38, o39, o57, o58, d1, d2, d3, fc2, d4, a13, a14, a16, a17, a15, a18, a19, a20, mb2, cl), rfl, ⟨(Or.inl rfl), (by omega), (by omega), (by first | (intro h9; exact absurd h9 (by decide)) | (intro _; omega)), hfrd1, hfrd3, hbfc2, hfrfc2, hfrd4, hbmb2, hcl, (fun _ _ => rfl)⟩, by rw [ht]; exact hP9, va_K.moved hW.alike hK, hD9⟩, hS.F ht⟩) hS.2.2 dX7_oneClass_306
        · refine lv_aload_n hx hb dX7_oneClass_285 rfl (lv_at hl 0 rfl) ?_
          refine lv_iconst (v := 1) hx hb dX7_oneClass_286 (by decide) ?_
          have hFc := z_freeW hD hS hA
          refine va_calli (va_runV (As := [.int 1]) (rest := []) ⟨hx, hb, hml, hown, hts⟩ (kX7_fails l dC dI h0 r cI cJ cZ v0 a1 tp bs cl d1 d2 d3 fc2 d4 mb2 a11 a12 a13 a14 a15 a16 a17 a18 a19 a20 o36 o37 o38 o39 v25 v26 bb ct us a30 a31 a32 a33 a34 a35 a36 a37 pil rwv rl v41 v42 v43 v44 v45 ⟨by omega, by omega, by omega, hcl, hbfc2, hbmb2, hct, hpil, hrwv⟩ (1 : Int32) H.size) (cwV 1 hts zgX7_oneClass_X7_fails_192 rfl rfl rfl (by decide +kernel) ⟨(show 0 + 1 ≤ 5 by omega), (show 8 + (2 + 11) + 0 ≤ 116 by omega)⟩) (zVm (ci := 6) (q0 := 0) (q := (RX7, TX7, 46)) hK hP hD hL hS.2.1 hFc rfl rfl rfl) rfl rfl hl.1 rfl (lv_room (Nat.le_of_ble_eq_true rfl)) dX7_oneClass_287 ⟨(show 0 + 0 ≤ 0 by omega), (show 0 + 0 ≤ 0 by omega)⟩) hS (fun q _ h => hFc q h) hFc (fun r60 u63 t H1 locs ht hvm hw hB hz1 hk1 hS => ?_)
          obtain ⟨o61, o62⟩ := u63
          obtain ⟨hP, hK9, hD⟩ := hB
          rw [ht] at hP
          have hD := hD.weaken (fun k q _ h => hFc q.1 h)
          generalize H1 = H at hP hS
          have hP : va_P (dC, dI) vwCl (rW h0 r cI cJ cZ v0 a1 (nI tp) (nI bs) (fun j => nI (cl j)) d1 d2 d3 (fun j => nI (fc2 j)) d4 (fun j => nI (mb2 j)) a11 a12 a13 a14 a15 a16 a17 a18 a19 a20 (nI o36) o37 o38 o39 o61 o62 (nI bb) (fun j => nI (ct j)) (nI us) a30 a31 a32 a33 a34 a35 a36 a37 (fun j => nI (pil j)) (fun j => nI (rwv j)) (nI rl) v41 v42 v43 v44 v45) H := hP
          have hD : va_D A (rW h0 r cI cJ cZ v0 a1 (nI tp) (nI bs) (fun j => nI (cl j)) d1 d2 d3 (fun j => nI (fc2 j)) d4 (fun j => nI (mb2 j)) a11 a12 a13 a14 a15 a16 a17 a18 a19 a20 (nI o36) o37 o38 o39 o61 o62 (nI bb) (fun j => nI (ct j)) (nI us) a30 a31 a32 a33 a34 a35 a36 a37 (fun j => nI (pil j)) (fun j => nI (rwv j)) (nI rl) v41 v42 v43 v44 v45) := hD
          have hw : (r60 = 0 ∨ r60 = 1) ∧ (r60 = 0) := hw
          obtain ⟨w0r60, w1r60⟩ := hw
          subst w1r60
          have hP9 : va_P (dC, dI) vwCl (rW h0 r cI cJ cZ v0 a1 (nI tp) (nI bs) (fun j => nI (cl j)) d1 d2 d3 (fun j => nI (fc2 j)) d4 (fun j => nI (mb2 j)) a11 a12 a13 a14 a15 a16 a17 a18 a19 a20 (nI o36) o37 o38 o39 o61 o62 (nI bb) (fun j => nI (ct j)) (nI us) a30 a31 a32 a33 a34 a35 a36 a37 (fun j => nI (pil j)) (fun j => nI (rwv j)) (nI rl) v41 v42 v43 v44 v45) H := hP
          have hD9 : va_D A (rW h0 r cI cJ cZ v0 a1 (nI tp) (nI bs) (fun j => nI (cl j)) d1 d2 d3 (fun j => nI (fc2 j)) d4 (fun j => nI (mb2 j)) a11 a12 a13 a14 a15 a16 a17 a18 a19 a20 (nI o36) o37 o38 o39 o61 o62 (nI bb) (fun j => nI (ct j)) (nI us) a30 a31 a32 a33 a34 a35 a36 a37 (fun j => nI (pil j)) (fun j => nI (rwv j)) (nI rl) v41 v42 v43 v44 v45) := hD
          exact W.zret (v := (0 : Int32)) hx hb hr rfl (fun t ht hW => ⟨⟨(0 : Int32), (o36, o37, o38, o39, o61, o62, d1, d2, d3, fc2, d4, a13, a14, a16, a17, a15, a18, a19, a20, mb2, cl), rfl, ⟨(Or.inl rfl), (by omega), (by omega), (by first | (intro h9; exact absurd h9 (by decide)) | (intro _; omega)), hfrd1, hfrd3, hbfc2, hfrfc2, hfrd4, hbmb2, hcl, (fun _ _ => rfl)⟩, by rw [ht]; exact hP9, va_K.moved hW.alike hK, hD9⟩, hS.F ht⟩) hS.2.2 dX7_oneClass_290
  have J251 : ∀ (i2 : Nat) (tk : Int32) (ta : Int32) (vl : Int64) (d1 : Nat → Int32) (d2 : Nat → Int32) (d3 : Nat → Int32) (fc2 : Nat → Nat) (mb2 : Nat → Nat) (H : Heap) (locs : List Loc) (ls : Array Slot), (∀ j, j < 16 * bb → d1 j = a5 j) → (∀ j, j < 16 * bb → d3 j = a7 j) → (∀ j, fc2 j ≤ 3) → (∀ j, j < 16 * bb → fc2 j = fc j) → (∀ j, mb2 j ≤ 12) → (az < i2) → (i2 ≤ tp) → (cl bb < 16) → va_P (dC, dI) vwCl (rW h0 r cI cJ cZ v0 a1 (nI tp) (nI bs) (fun j => nI (cl j)) d1 d2 d3 (fun j => nI (fc2 j)) a9 (fun j => nI (mb2 j)) a11 a12 a13 a14 a15 a16 a17 a18 a19 a20 (nI i2) tk ta vl v25 v26 (nI bb) (fun j => nI (ct j)) (nI us) a30 a31 a32 a33 a34 a35 a36 a37 (fun j => nI (pil j)) (fun j => nI (rwv j)) (nI rl) v41 v42 v43 v44 v45) H → va_D A (rW h0 r cI cJ cZ v0 a1 (nI tp) (nI bs) (fun j => nI (cl j)) d1 d2 d3 (fun j => nI (fc2 j)) a9 (fun j => nI (mb2 j)) a11 a12 a13 a14 a15 a16 a17 a18 a19 a20 (nI i2) tk ta vl v25 v26 (nI bb) (fun j => nI (ct j)) (nI us) a30 a31 a32 a33 a34 a35 a36 a37 (fun j => nI (pil j)) (fun j => nI (rwv j)) (nI rl) v41 v42 v43 v44 v45) → va_S A s.heap H locs → lv_has ls 5 [(0, .ref h0), (3, .int (nI (16 * bb + cl bb)))] → W p l e (headSpec zwX7_oneClass { frames := 5, cells := 0, slots := 0, locals := 116 }).room s m (([.ref h0] : List Value).toArray) below meth c H locs 0 0 (MQ below (va_Qi (fun (r : Int32) (u : Nat × Int32 × Int32 × Int64 × Int32 × Int32 × (Nat → Int32) × (Nat → Int32) × (Nat → Int32) × (Nat → Nat) × (Nat → Int32) × (Nat → Int64) × (Nat → Int32) × (Nat → Int32) × (Nat → Int32) × (Nat → Int32) × (Nat → Int32) × (Nat → Int32) × (Nat → Int32) × (Nat → Nat) × (Nat → Nat)) => (r = 0 ∨ r = 1) ∧ (az ≤ (u.1)) ∧ ((u.1) ≤ tp) ∧ (r = 1 → az < (u.1)) ∧ (∀ j, j < 16 * bb → (u.2.2.2.2.2.2.1) j = a5 j) ∧ (∀ j, j < 16 * bb → (u.2.2.2.2.2.2.2.2.1) j = a7 j) ∧ (∀ j, (u.2.2.2.2.2.2.2.2.2.1) j ≤ 3) ∧ (∀ j, j < 16 * bb → (u.2.2.2.2.2.2.2.2.2.1) j = fc j) ∧ (∀ j, j < 48 * bb → (u.2.2.2.2.2.2.2.2.2.2.1) j = a9 j) ∧ (∀ j, (u.2.2.2.2.2.2.2.2.2.2.2.2.2.2.2.2.2.2.2.1) j ≤ 12) ∧ (∀ j, (u.2.2.2.2.2.2.2.2.2.2.2.2.2.2.2.2.2.2.2.2) j ≤ 16) ∧ (∀ j, j ≠ bb → (u.2.2.2.2.2.2.2.2.2.2.2.2.2.2.2.2.2.2.2.2) j = cl j)) (fun u t => zB dC dI (A) (rW h0 r cI cJ cZ v0 a1 (nI tp) (nI bs) (fun j => nI ((u.2.2.2.2.2.2.2.2.2.2.2.2.2.2.2.2.2.2.2.2) j)) (u.2.2.2.2.2.2.1) (u.2.2.2.2.2.2.2.1) (u.2.2.2.2.2.2.2.2.1) (fun j => nI ((u.2.2.2.2.2.2.2.2.2.1) j)) (u.2.2.2.2.2.2.2.2.2.2.1) (fun j => nI ((u.2.2.2.2.2.2.2.2.2.2.2.2.2.2.2.2.2.2.2.1) j)) a11 a12 (u.2.2.2.2.2.2.2.2.2.2.2.1) (u.2.2.2.2.2.2.2.2.2.2.2.2.1) (u.2.2.2.2.2.2.2.2.2.2.2.2.2.2.2.1) (u.2.2.2.2.2.2.2.2.2.2.2.2.2.1) (u.2.2.2.2.2.2.2.2.2.2.2.2.2.2.1) (u.2.2.2.2.2.2.2.2.2.2.2.2.2.2.2.2.1) (u.2.2.2.2.2.2.2.2.2.2.2.2.2.2.2.2.2.1) (u.2.2.2.2.2.2.2.2.2.2.2.2.2.2.2.2.2.2.1) (nI (u.1)) (u.2.1) (u.2.2.1) (u.2.2.2.1) (u.2.2.2.2.1) (u.2.2.2.2.2.1) (nI bb) (fun j => nI (ct j)) (nI us) a30 a31 a32 a33 a34 a35 a36 a37 (fun j => nI (pil j)) (fun j => nI (rwv j)) (nI rl) v41 v42 v43 v44 v45) [(cI, .int), (cJ, .long), (cZ, .boolean)] t) (A)) (([.ref h0] : List Value).toArray) s 0 0 A) (F0 m 251 ls []) := by
    intro i2 tk ta vl d1 d2 d3 fc2 mb2 H locs ls hfrd1 hfrd3 hbfc2 hfrfc2 hbmb2 i251_0 i251_1 i251_2 hP hD hS hl
    refine lv_aload_n hx hb dX7_oneClass_251 rfl (lv_at hl 0 rfl) ?_
    refine va_get (D := (dC, dI)) (ci := 6) (v := .int tk) (C := RX7) (T := TX7) (N := 46) hx hb hts hiX7 hown hK hP 0 rfl rfl 22 (by decide) (hts (.fieldLink RX7 136 "LinkModelsModel" "token" "I") (by decide +kernel)) (fun _ h9 => h9) rfl dX7_oneClass_252 ?_
    refine lv_bipush (v := 58) hx hb dX7_oneClass_255 (by decide) ?_
    refine lv_icmp_ne (tgt := 264) hx hb dX7_oneClass_257 (by decide) (fun cp257 => ?_) (fun cp257 => ?_)
    · refine lv_iconst (v := 0) hx hb dX7_oneClass_264 (by decide) ?_
      refine lv_istore (lv' := [(4, .int 0), (0, .ref h0), (3, .int (nI (16 * bb + cl bb)))]) hx hb dX7_oneClass_265 hl (by decide) rfl (fun ls hl => ?_)
      exact J267 _ 0 i2 tk ta vl d1 d2 d3 fc2 mb2 a9 _ _ ls (Nat.lt_succ_self _) hfrd1 hfrd3 hbfc2 hfrfc2 hbmb2 (fun _ _ => rfl) (by first | omega | assumption | trivial) (by first | omega | assumption | trivial) (by first | omega | assumption | trivial) (by first | omega | assumption | trivial) hP hD hS (lv_sub hl [1, 2, 0] rfl)
    · refine lv_iconst (v := 1) hx hb dX7_oneClass_260 (by decide) ?_
      refine lv_goto (tgt := 265) hx hb dX7_oneClass_261 (by decide) ?_
      refine lv_istore (lv' := [(4, .int 1), (0, .ref h0), (3, .int (nI (16 * bb + cl bb)))]) hx hb dX7_oneClass_265 hl (by decide) rfl (fun ls hl => ?_)
      exact J267 _ 1 i2 tk ta vl d1 d2 d3 fc2 mb2 a9 _ _ ls (Nat.lt_succ_self _) hfrd1 hfrd3 hbfc2 hfrfc2 hbmb2 (fun _ _ => rfl) (by first | omega | assumption | trivial) (by first | omega | assumption | trivial) (by first | omega | assumption | trivial) (by first | omega | assumption | trivial) hP hD hS (lv_sub hl [1, 2, 0] rfl)
  have J92 : ∀ (sx : Int32) (i2 : Nat) (tk : Int32) (ta : Int32) (vl : Int64) (H : Heap) (locs : List Loc) (ls : Array Slot), (az ≤ i2) → (i2 ≤ tp) → (cl bb < 16) → va_P (dC, dI) vwCl (rW h0 r cI cJ cZ v0 a1 (nI tp) (nI bs) (fun j => nI (cl j)) a5 a6 a7 (fun j => nI (fc j)) a9 (fun j => nI (mb j)) a11 a12 a13 a14 a15 a16 a17 a18 a19 a20 (nI i2) tk ta vl v25 v26 (nI bb) (fun j => nI (ct j)) (nI us) a30 a31 a32 a33 a34 a35 a36 a37 (fun j => nI (pil j)) (fun j => nI (rwv j)) (nI rl) v41 v42 v43 v44 v45) H → va_D A (rW h0 r cI cJ cZ v0 a1 (nI tp) (nI bs) (fun j => nI (cl j)) a5 a6 a7 (fun j => nI (fc j)) a9 (fun j => nI (mb j)) a11 a12 a13 a14 a15 a16 a17 a18 a19 a20 (nI i2) tk ta vl v25 v26 (nI bb) (fun j => nI (ct j)) (nI us) a30 a31 a32 a33 a34 a35 a36 a37 (fun j => nI (pil j)) (fun j => nI (rwv j)) (nI rl) v41 v42 v43 v44 v45) → va_S A s.heap H locs → lv_has ls 5 [(0, .ref h0), (1, .int sx)] → W p l e (headSpec zwX7_oneClass { frames := 5, cells := 0, slots := 0, locals := 116 }).room s m (([.ref h0] : List Value).toArray) below meth c H locs 0 0 (MQ below (va_Qi (fun (r : Int32) (u : Nat × Int32 × Int32 × Int64 × Int32 × Int32 × (Nat → Int32) × (Nat → Int32) × (Nat → Int32) × (Nat → Nat) × (Nat → Int32) × (Nat → Int64) × (Nat → Int32) × (Nat → Int32) × (Nat → Int32) × (Nat → Int32) × (Nat → Int32) × (Nat → Int32) × (Nat → Int32) × (Nat → Nat) × (Nat → Nat)) => (r = 0 ∨ r = 1) ∧ (az ≤ (u.1)) ∧ ((u.1) ≤ tp) ∧ (r = 1 → az < (u.1)) ∧ (∀ j, j < 16 * bb → (u.2.2.2.2.2.2.1) j = a5 j) ∧ (∀ j, j < 16 * bb → (u.2.2.2.2.2.2.2.2.1) j = a7 j) ∧ (∀ j, (u.2.2.2.2.2.2.2.2.2.1) j ≤ 3) ∧ (∀ j, j < 16 * bb → (u.2.2.2.2.2.2.2.2.2.1) j = fc j) ∧ (∀ j, j < 48 * bb → (u.2.2.2.2.2.2.2.2.2.2.1) j = a9 j) ∧ (∀ j, (u.2.2.2.2.2.2.2.2.2.2.2.2.2.2.2.2.2.2.2.1) j ≤ 12) ∧ (∀ j, (u.2.2.2.2.2.2.2.2.2.2.2.2.2.2.2.2.2.2.2.2) j ≤ 16) ∧ (∀ j, j ≠ bb → (u.2.2.2.2.2.2.2.2.2.2.2.2.2.2.2.2.2.2.2.2) j = cl j)) (fun u t => zB dC dI (A) (rW h0 r cI cJ cZ v0 a1 (nI tp) (nI bs) (fun j => nI ((u.2.2.2.2.2.2.2.2.2.2.2.2.2.2.2.2.2.2.2.2) j)) (u.2.2.2.2.2.2.1) (u.2.2.2.2.2.2.2.1) (u.2.2.2.2.2.2.2.2.1) (fun j => nI ((u.2.2.2.2.2.2.2.2.2.1) j)) (u.2.2.2.2.2.2.2.2.2.2.1) (fun j => nI ((u.2.2.2.2.2.2.2.2.2.2.2.2.2.2.2.2.2.2.2.1) j)) a11 a12 (u.2.2.2.2.2.2.2.2.2.2.2.1) (u.2.2.2.2.2.2.2.2.2.2.2.2.1) (u.2.2.2.2.2.2.2.2.2.2.2.2.2.2.2.1) (u.2.2.2.2.2.2.2.2.2.2.2.2.2.1) (u.2.2.2.2.2.2.2.2.2.2.2.2.2.2.1) (u.2.2.2.2.2.2.2.2.2.2.2.2.2.2.2.2.1) (u.2.2.2.2.2.2.2.2.2.2.2.2.2.2.2.2.2.1) (u.2.2.2.2.2.2.2.2.2.2.2.2.2.2.2.2.2.2.1) (nI (u.1)) (u.2.1) (u.2.2.1) (u.2.2.2.1) (u.2.2.2.2.1) (u.2.2.2.2.2.1) (nI bb) (fun j => nI (ct j)) (nI us) a30 a31 a32 a33 a34 a35 a36 a37 (fun j => nI (pil j)) (fun j => nI (rwv j)) (nI rl) v41 v42 v43 v44 v45) [(cI, .int), (cJ, .long), (cZ, .boolean)] t) (A)) (([.ref h0] : List Value).toArray) s 0 0 A) (F0 m 92 ls []) := by
    intro sx i2 tk ta vl H locs ls i92_0 i92_1 i92_2 hP hD hS hl
    refine lv_aload_n hx hb dX7_oneClass_92 rfl (lv_at hl 0 rfl) ?_
    obtain ⟨x64, hZ9⟩ := zL_0 hL
    refine va_gets hx hb hZ9 hS hown (hts (.fieldLink RX7 161 "LinkModelsModel" "CLASS" "J") (by decide +kernel)) (fun _ h9 => h9) dX7_oneClass_93 ?_
    have hFc := z_freeW hD hS hA
    refine vp_callSi (W.runV (As := [.long x64]) (rest := []) ⟨hx, hb, hml, hown, hts⟩ (kX7_isWord l dC dI h0 r cI cJ cZ v0 a1 tp bs cl a5 a6 a7 fc a9 mb a11 a12 a13 a14 a15 a16 a17 a18 a19 a20 i2 tk ta vl v25 v26 bb ct us a30 a31 a32 a33 a34 a35 a36 a37 pil rwv rl v41 v42 v43 v44 v45 ⟨by omega, by omega, by omega, hcl, hfc, hmb, hct, hpil, hrwv⟩ x64 H.size) (cwV 1 hts zgX7_oneClass_X7_isWord_164 rfl rfl rfl (by decide +kernel) ⟨(show 0 + 1 ≤ 5 by omega), (show 8 + (3 + 11) + 0 ≤ 116 by omega)⟩) (zVm (ci := 6) (q0 := 0) (q := (RX7, TX7, 46)) hK hP hD hL hS.2.1 hFc rfl rfl rfl) rfl rfl hl.1 rfl (lv_room (Nat.le_of_ble_eq_true rfl)) dX7_oneClass_96 ⟨(show 0 + 0 ≤ 0 by omega), (show 0 + 0 ≤ 0 by omega)⟩) (fun r65 hw => ?_)
    have hw : (r65 = 0 ∨ r65 = 1) ∧ (r65 = 1 → tk = 87) := hw
    obtain ⟨w0r65, w1r65⟩ := hw
    refine lv_if_ne (tgt := 108) hx hb dX7_oneClass_99 (by decide) (fun cp99 => ?_) (fun cp99 => ?_)
    · refine lv_aload_n hx hb dX7_oneClass_108 rfl (lv_at hl 0 rfl) ?_
      have hFc := z_freeW hD hS hA
      refine va_callv (va_runV (As := []) (rest := []) ⟨hx, hb, hml, hown, hts⟩ (kX7_next l dC dI h0 r cI cJ cZ v0 a1 tp bs cl a5 a6 a7 fc a9 mb a11 a12 a13 a14 a15 a16 a17 a18 a19 a20 i2 tk ta vl v25 v26 bb ct us a30 a31 a32 a33 a34 a35 a36 a37 pil rwv rl v41 v42 v43 v44 v45 ⟨by omega, by omega, by omega, hcl, hfc, hmb, hct, hpil, hrwv⟩ (by first | omega | assumption | trivial) H.size) (cwV 0 hts zgX7_oneClass_X7_next_195 rfl rfl rfl (by decide +kernel) ⟨(show 2 + 1 ≤ 5 by omega), (show 8 + (2 + 11) + 45 ≤ 116 by omega)⟩) (zVm (ci := 6) (q0 := 0) (q := (RX7, TX7, 46)) hK hP hD hL hS.2.1 hFc rfl rfl rfl) rfl rfl hl.1 rfl (lv_room (Nat.le_of_ble_eq_true rfl)) dX7_oneClass_109 ⟨(show 0 + 0 ≤ 0 by omega), (show 0 + 0 ≤ 0 by omega)⟩) hS (fun q _ h => hFc q h) hFc (fun u71 t H1 locs ht hvm hw hB hz1 hk1 hS => ?_)
      obtain ⟨o67, o68, o69, o70⟩ := u71
      obtain ⟨hP, hK9, hD⟩ := hB
      rw [ht] at hP
      have hD := hD.weaken (fun k q _ h => hFc q.1 h)
      generalize H1 = H at hP hS
      have hP : va_P (dC, dI) vwCl (rW h0 r cI cJ cZ v0 a1 (nI tp) (nI bs) (fun j => nI (cl j)) a5 a6 a7 (fun j => nI (fc j)) a9 (fun j => nI (mb j)) a11 a12 a13 a14 a15 a16 a17 a18 a19 a20 (nI o67) o68 o69 o70 v25 v26 (nI bb) (fun j => nI (ct j)) (nI us) a30 a31 a32 a33 a34 a35 a36 a37 (fun j => nI (pil j)) (fun j => nI (rwv j)) (nI rl) v41 v42 v43 v44 v45) H := hP
      have hD : va_D A (rW h0 r cI cJ cZ v0 a1 (nI tp) (nI bs) (fun j => nI (cl j)) a5 a6 a7 (fun j => nI (fc j)) a9 (fun j => nI (mb j)) a11 a12 a13 a14 a15 a16 a17 a18 a19 a20 (nI o67) o68 o69 o70 v25 v26 (nI bb) (fun j => nI (ct j)) (nI us) a30 a31 a32 a33 a34 a35 a36 a37 (fun j => nI (pil j)) (fun j => nI (rwv j)) (nI rl) v41 v42 v43 v44 v45) := hD
      have hw : (i2 ≤ o67) ∧ (o67 ≤ tp) ∧ (¬ o68 = 0 → i2 < o67) := hw
      obtain ⟨w0r66, w1r66, w2r66⟩ := hw
      refine lv_aload_n hx hb dX7_oneClass_112 rfl (lv_at hl 0 rfl) ?_
      refine va_get (D := (dC, dI)) (ci := 6) (v := .int o68) (C := RX7) (T := TX7) (N := 46) hx hb hts hiX7 hown hK hP 0 rfl rfl 22 (by decide) (hts (.fieldLink RX7 136 "LinkModelsModel" "token" "I") (by decide +kernel)) (fun _ h9 => h9) rfl dX7_oneClass_113 ?_
      refine lv_bipush (v := 78) hx hb dX7_oneClass_116 (by decide) ?_
      refine lv_icmp_eq (tgt := 127) hx hb dX7_oneClass_118 (by decide) (fun cp118 => ?_) (fun cp118 => ?_)
      · have zcp118 := w2r66 (by rw [cp118]; decide)
        refine lv_aload_n hx hb dX7_oneClass_127 rfl (lv_at hl 0 rfl) ?_
        refine va_get (D := (dC, dI)) (ci := 6) (v := .long o70) (C := RX7) (T := TX7) (N := 46) hx hb hts hiX7 hown hK hP 0 rfl rfl 24 (by decide) (hts (.fieldLink RX7 132 "LinkModelsModel" "value" "J") (by decide +kernel)) (fun _ h9 => h9) rfl dX7_oneClass_128 ?_
        refine lv_l2i hx hb dX7_oneClass_131 rfl ?_
        refine lv_topi (fun x72 ex72 => ?_)
        refine lv_istore_n (lv' := [(2, .int x72), (0, .ref h0), (1, .int sx)]) hx hb dX7_oneClass_132 rfl hl (by decide) rfl (fun ls hl => ?_)
        refine lv_aload_n hx hb dX7_oneClass_133 rfl (lv_at hl 1 rfl) ?_
        refine lv_aload_n hx hb dX7_oneClass_134 rfl (lv_at hl 1 rfl) ?_
        refine va_get (D := (dC, dI)) (ci := 6) (v := .int (nI bb)) (C := RX7) (T := TX7) (N := 46) hx hb hts hiX7 hown hK hP 0 rfl rfl 27 (by decide) (hts (.fieldLink RX7 198 "LinkModelsModel" "b" "I") (by decide +kernel)) (fun _ h9 => h9) rfl dX7_oneClass_135 ?_
        refine lv_iload_n hx hb dX7_oneClass_138 rfl (lv_at hl 0 rfl) ?_
        have hFc := z_freeW hD hS hA
        refine vp_callSi (W.runV (As := [.int (nI bb), .int x72]) (rest := []) ⟨hx, hb, hml, hown, hts⟩ (kX7_place l dC dI h0 r cI cJ cZ v0 a1 tp bs cl a5 a6 a7 fc a9 mb a11 a12 a13 a14 a15 a16 a17 a18 a19 a20 o67 o68 o69 o70 v25 v26 bb ct us a30 a31 a32 a33 a34 a35 a36 a37 pil rwv rl v41 v42 v43 v44 v45 ⟨by omega, by omega, by omega, hcl, hfc, hmb, hct, hpil, hrwv⟩ bb x72 (by first | omega | assumption | trivial) H.size) (cwV 2 hts zgX7_oneClass_X7_place_201 rfl rfl rfl (by decide +kernel) ⟨(show 0 + 1 ≤ 5 by omega), (show 8 + (4 + 11) + 0 ≤ 116 by omega)⟩) (zVm (ci := 6) (q0 := 0) (q := (RX7, TX7, 46)) hK hP hD hL hS.2.1 hFc rfl rfl rfl) rfl rfl hl.1 rfl (lv_room (Nat.le_of_ble_eq_true rfl)) dX7_oneClass_139 ⟨(show 0 + 0 ≤ 0 by omega), (show 0 + 0 ≤ 0 by omega)⟩) (fun r73 hw => ?_)
        have hw : (zM r73 (fun k => k < cl bb)) ∧ (zPl a5 (16 * bb) (cl bb) x72 r73) := hw
        obtain ⟨w0r73, w1r73⟩ := hw
        refine lv_if_lt (tgt := 151) hx hb dX7_oneClass_142 (by decide) (fun cp142 => ?_) (fun cp142 => ?_)
        · obtain rfl : r73 = -1 := zM.neg w0r73 cp142
          refine lv_bipush (v := 16) hx hb dX7_oneClass_151 (by decide) ?_
          refine lv_aload_n hx hb dX7_oneClass_153 rfl (lv_at hl 1 rfl) ?_
          refine va_get (D := (dC, dI)) (ci := 6) (v := .int (nI bb)) (C := RX7) (T := TX7) (N := 46) hx hb hts hiX7 hown hK hP 0 rfl rfl 27 (by decide) (hts (.fieldLink RX7 198 "LinkModelsModel" "b" "I") (by decide +kernel)) (fun _ h9 => h9) rfl dX7_oneClass_154 ?_
          refine lv_imul hx hb dX7_oneClass_157 ?_
          refine lv_topi (fun x74 ex74 => ?_)
          obtain rfl : x74 = nI (16 * bb) := by rw [ex74]; exact pk_mul (16) (bb)
          refine lv_aload_n hx hb dX7_oneClass_158 rfl (lv_at hl 1 rfl) ?_
          refine va_get (D := (dC, dI)) (ci := 6) (v := .ref (r 4)) (C := RX7) (T := TX7) (N := 46) hx hb hts hiX7 hown hK hP 0 rfl rfl 4 (by decide) (hts (.fieldLink RX7 17 "LinkModelsModel" "classes" "[I") (by decide +kernel)) (fun _ h9 => h9) rfl dX7_oneClass_159 ?_
          refine lv_aload_n hx hb dX7_oneClass_162 rfl (lv_at hl 1 rfl) ?_
          refine va_get (D := (dC, dI)) (ci := 6) (v := .int (nI bb)) (C := RX7) (T := TX7) (N := 46) hx hb hts hiX7 hown hK hP 0 rfl rfl 27 (by decide) (hts (.fieldLink RX7 198 "LinkModelsModel" "b" "I") (by decide +kernel)) (fun _ h9 => h9) rfl dX7_oneClass_163 ?_
          refine va_iald hx hb hK hP 2 0 rfl rfl (vp_in_nI (show bb < 5 by omega) (by decide)) dX7_oneClass_166 ?_
          refine lv_topi (fun x75 ex75 => ?_)
          obtain rfl : x75 = nI (cl bb) := by rw [ex75, nI_clamp (show bb < 2 ^ 31 by omega)]
          have hqx75 := hcl bb
          refine lv_iadd hx hb dX7_oneClass_167 ?_
          refine lv_topi (fun x76 ex76 => ?_)
          obtain rfl : x76 = nI ((16 * bb) + (cl bb)) := by rw [ex76]; exact nI_add (16 * bb) (cl bb)
          refine lv_istore_n (lv' := [(3, .int (nI ((16 * bb) + (cl bb)))), (2, .int x72), (0, .ref h0), (1, .int sx)]) hx hb dX7_oneClass_168 rfl hl (by decide) rfl (fun ls hl => ?_)
          refine lv_aload_n hx hb dX7_oneClass_169 rfl (lv_at hl 2 rfl) ?_
          refine va_get (D := (dC, dI)) (ci := 6) (v := .ref (r 5)) (C := RX7) (T := TX7) (N := 46) hx hb hts hiX7 hown hK hP 0 rfl rfl 5 (by decide) (hts (.fieldLink RX7 20 "LinkModelsModel" "className" "[I") (by decide +kernel)) (fun _ h9 => h9) rfl dX7_oneClass_170 ?_
          refine lv_iload_n hx hb dX7_oneClass_173 rfl (lv_at hl 0 rfl) ?_
          refine lv_iload_n hx hb dX7_oneClass_174 rfl (lv_at hl 1 rfl) ?_
          refine va_iast hx hb hK hP hD hS 3 0 rfl rfl (vp_in_nI (show (16 * bb) + (cl bb) < 80 by omega) (by decide)) dX7_oneClass_175 (fun H locs hP hD hS => ?_)
          obtain ⟨f77, ef77, hP, hD⟩ : ∃ g : Nat → Int32, g = upd a5 ((16 * bb) + (cl bb)) x72 ∧ va_P (dC, dI) vwCl (rW h0 r cI cJ cZ v0 a1 (nI tp) (nI bs) (fun j => nI (cl j)) g a6 a7 (fun j => nI (fc j)) a9 (fun j => nI (mb j)) a11 a12 a13 a14 a15 a16 a17 a18 a19 a20 (nI o67) o68 o69 o70 v25 v26 (nI bb) (fun j => nI (ct j)) (nI us) a30 a31 a32 a33 a34 a35 a36 a37 (fun j => nI (pil j)) (fun j => nI (rwv j)) (nI rl) v41 v42 v43 v44 v45) H ∧ va_D A (rW h0 r cI cJ cZ v0 a1 (nI tp) (nI bs) (fun j => nI (cl j)) g a6 a7 (fun j => nI (fc j)) a9 (fun j => nI (mb j)) a11 a12 a13 a14 a15 a16 a17 a18 a19 a20 (nI o67) o68 o69 o70 v25 v26 (nI bb) (fun j => nI (ct j)) (nI us) a30 a31 a32 a33 a34 a35 a36 a37 (fun j => nI (pil j)) (fun j => nI (rwv j)) (nI rl) v41 v42 v43 v44 v45) := ⟨_, rfl, (by rw [← nI_clamp (show (16 * bb) + (cl bb) < 2 ^ 31 by omega)]; exact hP), (by rw [← nI_clamp (show (16 * bb) + (cl bb) < 2 ^ 31 by omega)]; exact hD)⟩
          have hfrf77 : ∀ j, j < 16 * bb → f77 j = a5 j := fun j hj => by rw [ef77, pk_un (by omega)]
          refine lv_aload_n hx hb dX7_oneClass_176 rfl (lv_at hl 2 rfl) ?_
          refine va_get (D := (dC, dI)) (ci := 6) (v := .ref (r 6)) (C := RX7) (T := TX7) (N := 46) hx hb hts hiX7 hown hK hP 0 rfl rfl 6 (by decide) (hts (.fieldLink RX7 23 "LinkModelsModel" "sort" "[I") (by decide +kernel)) (fun _ h9 => h9) rfl dX7_oneClass_177 ?_
          refine lv_iload_n hx hb dX7_oneClass_180 rfl (lv_at hl 0 rfl) ?_
          refine lv_iload_n hx hb dX7_oneClass_181 rfl (lv_at hl 3 rfl) ?_
          refine va_iast hx hb hK hP hD hS 4 0 rfl rfl (vp_in_nI (show (16 * bb) + (cl bb) < 80 by omega) (by decide)) dX7_oneClass_182 (fun H locs hP hD hS => ?_)
          obtain ⟨f78, hP, hD⟩ : ∃ g : Nat → Int32, va_P (dC, dI) vwCl (rW h0 r cI cJ cZ v0 a1 (nI tp) (nI bs) (fun j => nI (cl j)) f77 g a7 (fun j => nI (fc j)) a9 (fun j => nI (mb j)) a11 a12 a13 a14 a15 a16 a17 a18 a19 a20 (nI o67) o68 o69 o70 v25 v26 (nI bb) (fun j => nI (ct j)) (nI us) a30 a31 a32 a33 a34 a35 a36 a37 (fun j => nI (pil j)) (fun j => nI (rwv j)) (nI rl) v41 v42 v43 v44 v45) H ∧ va_D A (rW h0 r cI cJ cZ v0 a1 (nI tp) (nI bs) (fun j => nI (cl j)) f77 g a7 (fun j => nI (fc j)) a9 (fun j => nI (mb j)) a11 a12 a13 a14 a15 a16 a17 a18 a19 a20 (nI o67) o68 o69 o70 v25 v26 (nI bb) (fun j => nI (ct j)) (nI us) a30 a31 a32 a33 a34 a35 a36 a37 (fun j => nI (pil j)) (fun j => nI (rwv j)) (nI rl) v41 v42 v43 v44 v45) := ⟨_, hP, hD⟩
          refine lv_aload_n hx hb dX7_oneClass_183 rfl (lv_at hl 2 rfl) ?_
          refine va_get (D := (dC, dI)) (ci := 6) (v := .ref (r 7)) (C := RX7) (T := TX7) (N := 46) hx hb hts hiX7 hown hK hP 0 rfl rfl 7 (by decide) (hts (.fieldLink RX7 26 "LinkModelsModel" "above" "[I") (by decide +kernel)) (fun _ h9 => h9) rfl dX7_oneClass_184 ?_
          refine lv_iload_n hx hb dX7_oneClass_187 rfl (lv_at hl 0 rfl) ?_
          refine lv_iconst (v := 0) hx hb dX7_oneClass_188 (by decide) ?_
          refine va_iast hx hb hK hP hD hS 5 0 rfl rfl (vp_in_nI (show (16 * bb) + (cl bb) < 80 by omega) (by decide)) dX7_oneClass_189 (fun H locs hP hD hS => ?_)
          obtain ⟨f79, ef79, hP, hD⟩ : ∃ g : Nat → Int32, g = upd a7 ((16 * bb) + (cl bb)) (0 : Int32) ∧ va_P (dC, dI) vwCl (rW h0 r cI cJ cZ v0 a1 (nI tp) (nI bs) (fun j => nI (cl j)) f77 f78 g (fun j => nI (fc j)) a9 (fun j => nI (mb j)) a11 a12 a13 a14 a15 a16 a17 a18 a19 a20 (nI o67) o68 o69 o70 v25 v26 (nI bb) (fun j => nI (ct j)) (nI us) a30 a31 a32 a33 a34 a35 a36 a37 (fun j => nI (pil j)) (fun j => nI (rwv j)) (nI rl) v41 v42 v43 v44 v45) H ∧ va_D A (rW h0 r cI cJ cZ v0 a1 (nI tp) (nI bs) (fun j => nI (cl j)) f77 f78 g (fun j => nI (fc j)) a9 (fun j => nI (mb j)) a11 a12 a13 a14 a15 a16 a17 a18 a19 a20 (nI o67) o68 o69 o70 v25 v26 (nI bb) (fun j => nI (ct j)) (nI us) a30 a31 a32 a33 a34 a35 a36 a37 (fun j => nI (pil j)) (fun j => nI (rwv j)) (nI rl) v41 v42 v43 v44 v45) := ⟨_, rfl, (by rw [← nI_clamp (show (16 * bb) + (cl bb) < 2 ^ 31 by omega)]; exact hP), (by rw [← nI_clamp (show (16 * bb) + (cl bb) < 2 ^ 31 by omega)]; exact hD)⟩
          have hfrf79 : ∀ j, j < 16 * bb → f79 j = a7 j := fun j hj => by rw [ef79, pk_un (by omega)]
          refine lv_aload_n hx hb dX7_oneClass_190 rfl (lv_at hl 2 rfl) ?_
          refine va_get (D := (dC, dI)) (ci := 6) (v := .ref (r 8)) (C := RX7) (T := TX7) (N := 46) hx hb hts hiX7 hown hK hP 0 rfl rfl 8 (by decide) (hts (.fieldLink RX7 29 "LinkModelsModel" "faces" "[I") (by decide +kernel)) (fun _ h9 => h9) rfl dX7_oneClass_191 ?_
          refine lv_iload_n hx hb dX7_oneClass_194 rfl (lv_at hl 0 rfl) ?_
          refine lv_iconst (v := 0) hx hb dX7_oneClass_195 (by decide) ?_
          refine va_iast hx hb hK hP hD hS 6 0 rfl rfl (vp_in_nI (show (16 * bb) + (cl bb) < 80 by omega) (by decide)) dX7_oneClass_196 (fun H locs hP hD hS => ?_)
          obtain ⟨f80, ef80⟩ : ∃ g, g = z_up fc ((16 * bb) + (cl bb)) 0 := ⟨_, rfl⟩
          have hP : va_P (dC, dI) vwCl (rW h0 r cI cJ cZ v0 a1 (nI tp) (nI bs) (fun j => nI (cl j)) f77 f78 f79 (fun j => nI (f80 j)) a9 (fun j => nI (mb j)) a11 a12 a13 a14 a15 a16 a17 a18 a19 a20 (nI o67) o68 o69 o70 v25 v26 (nI bb) (fun j => nI (ct j)) (nI us) a30 a31 a32 a33 a34 a35 a36 a37 (fun j => nI (pil j)) (fun j => nI (rwv j)) (nI rl) v41 v42 v43 v44 v45) H := by rw [ef80, ← z_upd (show (16 * bb) + (cl bb) < 2 ^ 31 by omega)]; exact hP
          have hD : va_D A (rW h0 r cI cJ cZ v0 a1 (nI tp) (nI bs) (fun j => nI (cl j)) f77 f78 f79 (fun j => nI (f80 j)) a9 (fun j => nI (mb j)) a11 a12 a13 a14 a15 a16 a17 a18 a19 a20 (nI o67) o68 o69 o70 v25 v26 (nI bb) (fun j => nI (ct j)) (nI us) a30 a31 a32 a33 a34 a35 a36 a37 (fun j => nI (pil j)) (fun j => nI (rwv j)) (nI rl) v41 v42 v43 v44 v45) := by rw [ef80, ← z_upd (show (16 * bb) + (cl bb) < 2 ^ 31 by omega)]; exact hD
          have hbf80 : ∀ j, f80 j ≤ 3 := by rw [ef80]; exact z_upb hfc (by omega)
          have hfrf80 : ∀ j, j < 16 * bb → f80 j = fc j := fun j hj => by rw [ef80, z_upn (by omega)]
          refine lv_aload_n hx hb dX7_oneClass_197 rfl (lv_at hl 2 rfl) ?_
          refine va_get (D := (dC, dI)) (ci := 6) (v := .ref (r 10)) (C := RX7) (T := TX7) (N := 46) hx hb hts hiX7 hown hK hP 0 rfl rfl 10 (by decide) (hts (.fieldLink RX7 35 "LinkModelsModel" "members" "[I") (by decide +kernel)) (fun _ h9 => h9) rfl dX7_oneClass_198 ?_
          refine lv_iload_n hx hb dX7_oneClass_201 rfl (lv_at hl 0 rfl) ?_
          refine lv_iconst (v := 0) hx hb dX7_oneClass_202 (by decide) ?_
          refine va_iast hx hb hK hP hD hS 8 0 rfl rfl (vp_in_nI (show (16 * bb) + (cl bb) < 80 by omega) (by decide)) dX7_oneClass_203 (fun H locs hP hD hS => ?_)
          obtain ⟨f81, ef81⟩ : ∃ g, g = z_up mb ((16 * bb) + (cl bb)) 0 := ⟨_, rfl⟩
          have hP : va_P (dC, dI) vwCl (rW h0 r cI cJ cZ v0 a1 (nI tp) (nI bs) (fun j => nI (cl j)) f77 f78 f79 (fun j => nI (f80 j)) a9 (fun j => nI (f81 j)) a11 a12 a13 a14 a15 a16 a17 a18 a19 a20 (nI o67) o68 o69 o70 v25 v26 (nI bb) (fun j => nI (ct j)) (nI us) a30 a31 a32 a33 a34 a35 a36 a37 (fun j => nI (pil j)) (fun j => nI (rwv j)) (nI rl) v41 v42 v43 v44 v45) H := by rw [ef81, ← z_upd (show (16 * bb) + (cl bb) < 2 ^ 31 by omega)]; exact hP
          have hD : va_D A (rW h0 r cI cJ cZ v0 a1 (nI tp) (nI bs) (fun j => nI (cl j)) f77 f78 f79 (fun j => nI (f80 j)) a9 (fun j => nI (f81 j)) a11 a12 a13 a14 a15 a16 a17 a18 a19 a20 (nI o67) o68 o69 o70 v25 v26 (nI bb) (fun j => nI (ct j)) (nI us) a30 a31 a32 a33 a34 a35 a36 a37 (fun j => nI (pil j)) (fun j => nI (rwv j)) (nI rl) v41 v42 v43 v44 v45) := by rw [ef81, ← z_upd (show (16 * bb) + (cl bb) < 2 ^ 31 by omega)]; exact hD
          have hbf81 : ∀ j, f81 j ≤ 12 := by rw [ef81]; exact z_upb hmb (by omega)
          refine lv_aload_n hx hb dX7_oneClass_204 rfl (lv_at hl 2 rfl) ?_
          have hFc := z_freeW hD hS hA
          refine va_callv (va_runV (As := []) (rest := []) ⟨hx, hb, hml, hown, hts⟩ (kX7_next l dC dI h0 r cI cJ cZ v0 a1 tp bs cl f77 f78 f79 f80 a9 f81 a11 a12 a13 a14 a15 a16 a17 a18 a19 a20 o67 o68 o69 o70 v25 v26 bb ct us a30 a31 a32 a33 a34 a35 a36 a37 pil rwv rl v41 v42 v43 v44 v45 ⟨by omega, by omega, by omega, hcl, hbf80, hbf81, hct, hpil, hrwv⟩ (by first | omega | assumption | trivial) H.size) (cwV 0 hts zgX7_oneClass_X7_next_195 rfl rfl rfl (by decide +kernel) ⟨(show 2 + 1 ≤ 5 by omega), (show 8 + (2 + 11) + 45 ≤ 116 by omega)⟩) (zVm (ci := 6) (q0 := 0) (q := (RX7, TX7, 46)) hK hP hD hL hS.2.1 hFc rfl rfl rfl) rfl rfl hl.1 rfl (lv_room (Nat.le_of_ble_eq_true rfl)) dX7_oneClass_205 ⟨(show 0 + 0 ≤ 0 by omega), (show 0 + 0 ≤ 0 by omega)⟩) hS (fun q _ h => hFc q h) hFc (fun u87 t H1 locs ht hvm hw hB hz1 hk1 hS => ?_)
          obtain ⟨o83, o84, o85, o86⟩ := u87
          obtain ⟨hP, hK9, hD⟩ := hB
          rw [ht] at hP
          have hD := hD.weaken (fun k q _ h => hFc q.1 h)
          generalize H1 = H at hP hS
          have hP : va_P (dC, dI) vwCl (rW h0 r cI cJ cZ v0 a1 (nI tp) (nI bs) (fun j => nI (cl j)) f77 f78 f79 (fun j => nI (f80 j)) a9 (fun j => nI (f81 j)) a11 a12 a13 a14 a15 a16 a17 a18 a19 a20 (nI o83) o84 o85 o86 v25 v26 (nI bb) (fun j => nI (ct j)) (nI us) a30 a31 a32 a33 a34 a35 a36 a37 (fun j => nI (pil j)) (fun j => nI (rwv j)) (nI rl) v41 v42 v43 v44 v45) H := hP
          have hD : va_D A (rW h0 r cI cJ cZ v0 a1 (nI tp) (nI bs) (fun j => nI (cl j)) f77 f78 f79 (fun j => nI (f80 j)) a9 (fun j => nI (f81 j)) a11 a12 a13 a14 a15 a16 a17 a18 a19 a20 (nI o83) o84 o85 o86 v25 v26 (nI bb) (fun j => nI (ct j)) (nI us) a30 a31 a32 a33 a34 a35 a36 a37 (fun j => nI (pil j)) (fun j => nI (rwv j)) (nI rl) v41 v42 v43 v44 v45) := hD
          have hw : (o67 ≤ o83) ∧ (o83 ≤ tp) ∧ (¬ o84 = 0 → o67 < o83) := hw
          obtain ⟨w0r82, w1r82, w2r82⟩ := hw
          refine lv_aload_n hx hb dX7_oneClass_208 rfl (lv_at hl 2 rfl) ?_
          refine va_get (D := (dC, dI)) (ci := 6) (v := .int o84) (C := RX7) (T := TX7) (N := 46) hx hb hts hiX7 hown hK hP 0 rfl rfl 22 (by decide) (hts (.fieldLink RX7 136 "LinkModelsModel" "token" "I") (by decide +kernel)) (fun _ h9 => h9) rfl dX7_oneClass_209 ?_
          refine lv_bipush (v := 60) hx hb dX7_oneClass_212 (by decide) ?_
          refine lv_icmp_ne (tgt := 251) hx hb dX7_oneClass_214 (by decide) (fun cp214 => ?_) (fun cp214 => ?_)
          · exact J251 o83 o84 o85 o86 f77 f78 f79 f80 f81 _ _ ls  hfrf77 hfrf79 hbf80 hfrf80 hbf81 (by first | omega | assumption | trivial) (by first | omega | assumption | trivial) (by first | omega | assumption | trivial) hP hD hS (lv_sub hl [2, 0] rfl)
          · have zcp214 := w2r82 (by rw [cp214]; decide)
            refine lv_aload_n hx hb dX7_oneClass_217 rfl (lv_at hl 2 rfl) ?_
            have hFc := z_freeW hD hS hA
            refine va_callv (va_runV (As := []) (rest := []) ⟨hx, hb, hml, hown, hts⟩ (kX7_next l dC dI h0 r cI cJ cZ v0 a1 tp bs cl f77 f78 f79 f80 a9 f81 a11 a12 a13 a14 a15 a16 a17 a18 a19 a20 o83 o84 o85 o86 v25 v26 bb ct us a30 a31 a32 a33 a34 a35 a36 a37 pil rwv rl v41 v42 v43 v44 v45 ⟨by omega, by omega, by omega, hcl, hbf80, hbf81, hct, hpil, hrwv⟩ (by first | omega | assumption | trivial) H.size) (cwV 0 hts zgX7_oneClass_X7_next_195 rfl rfl rfl (by decide +kernel) ⟨(show 2 + 1 ≤ 5 by omega), (show 8 + (2 + 11) + 45 ≤ 116 by omega)⟩) (zVm (ci := 6) (q0 := 0) (q := (RX7, TX7, 46)) hK hP hD hL hS.2.1 hFc rfl rfl rfl) rfl rfl hl.1 rfl (lv_room (Nat.le_of_ble_eq_true rfl)) dX7_oneClass_218 ⟨(show 0 + 0 ≤ 0 by omega), (show 0 + 0 ≤ 0 by omega)⟩) hS (fun q _ h => hFc q h) hFc (fun u93 t H1 locs ht hvm hw hB hz1 hk1 hS => ?_)
            obtain ⟨o89, o90, o91, o92⟩ := u93
            obtain ⟨hP, hK9, hD⟩ := hB
            rw [ht] at hP
            have hD := hD.weaken (fun k q _ h => hFc q.1 h)
            generalize H1 = H at hP hS
            have hP : va_P (dC, dI) vwCl (rW h0 r cI cJ cZ v0 a1 (nI tp) (nI bs) (fun j => nI (cl j)) f77 f78 f79 (fun j => nI (f80 j)) a9 (fun j => nI (f81 j)) a11 a12 a13 a14 a15 a16 a17 a18 a19 a20 (nI o89) o90 o91 o92 v25 v26 (nI bb) (fun j => nI (ct j)) (nI us) a30 a31 a32 a33 a34 a35 a36 a37 (fun j => nI (pil j)) (fun j => nI (rwv j)) (nI rl) v41 v42 v43 v44 v45) H := hP
            have hD : va_D A (rW h0 r cI cJ cZ v0 a1 (nI tp) (nI bs) (fun j => nI (cl j)) f77 f78 f79 (fun j => nI (f80 j)) a9 (fun j => nI (f81 j)) a11 a12 a13 a14 a15 a16 a17 a18 a19 a20 (nI o89) o90 o91 o92 v25 v26 (nI bb) (fun j => nI (ct j)) (nI us) a30 a31 a32 a33 a34 a35 a36 a37 (fun j => nI (pil j)) (fun j => nI (rwv j)) (nI rl) v41 v42 v43 v44 v45) := hD
            have hw : (o83 ≤ o89) ∧ (o89 ≤ tp) ∧ (¬ o90 = 0 → o83 < o89) := hw
            obtain ⟨w0r88, w1r88, w2r88⟩ := hw
            refine lv_aload_n hx hb dX7_oneClass_221 rfl (lv_at hl 2 rfl) ?_
            refine va_get (D := (dC, dI)) (ci := 6) (v := .int o90) (C := RX7) (T := TX7) (N := 46) hx hb hts hiX7 hown hK hP 0 rfl rfl 22 (by decide) (hts (.fieldLink RX7 136 "LinkModelsModel" "token" "I") (by decide +kernel)) (fun _ h9 => h9) rfl dX7_oneClass_222 ?_
            refine lv_bipush (v := 78) hx hb dX7_oneClass_225 (by decide) ?_
            refine lv_icmp_eq (tgt := 236) hx hb dX7_oneClass_227 (by decide) (fun cp227 => ?_) (fun cp227 => ?_)
            · have zcp227 := w2r88 (by rw [cp227]; decide)
              refine lv_aload_n hx hb dX7_oneClass_236 rfl (lv_at hl 2 rfl) ?_
              refine va_get (D := (dC, dI)) (ci := 6) (v := .ref (r 7)) (C := RX7) (T := TX7) (N := 46) hx hb hts hiX7 hown hK hP 0 rfl rfl 7 (by decide) (hts (.fieldLink RX7 26 "LinkModelsModel" "above" "[I") (by decide +kernel)) (fun _ h9 => h9) rfl dX7_oneClass_237 ?_
              refine lv_iload_n hx hb dX7_oneClass_240 rfl (lv_at hl 0 rfl) ?_
              refine lv_aload_n hx hb dX7_oneClass_241 rfl (lv_at hl 2 rfl) ?_
              refine va_get (D := (dC, dI)) (ci := 6) (v := .long o92) (C := RX7) (T := TX7) (N := 46) hx hb hts hiX7 hown hK hP 0 rfl rfl 24 (by decide) (hts (.fieldLink RX7 132 "LinkModelsModel" "value" "J") (by decide +kernel)) (fun _ h9 => h9) rfl dX7_oneClass_242 ?_
              refine lv_l2i hx hb dX7_oneClass_245 rfl ?_
              refine lv_topi (fun x94 ex94 => ?_)
              refine va_iast hx hb hK hP hD hS 5 0 rfl rfl (vp_in_nI (show (16 * bb) + (cl bb) < 80 by omega) (by decide)) dX7_oneClass_246 (fun H locs hP hD hS => ?_)
              obtain ⟨f95, ef95, hP, hD⟩ : ∃ g : Nat → Int32, g = upd f79 ((16 * bb) + (cl bb)) x94 ∧ va_P (dC, dI) vwCl (rW h0 r cI cJ cZ v0 a1 (nI tp) (nI bs) (fun j => nI (cl j)) f77 f78 g (fun j => nI (f80 j)) a9 (fun j => nI (f81 j)) a11 a12 a13 a14 a15 a16 a17 a18 a19 a20 (nI o89) o90 o91 o92 v25 v26 (nI bb) (fun j => nI (ct j)) (nI us) a30 a31 a32 a33 a34 a35 a36 a37 (fun j => nI (pil j)) (fun j => nI (rwv j)) (nI rl) v41 v42 v43 v44 v45) H ∧ va_D A (rW h0 r cI cJ cZ v0 a1 (nI tp) (nI bs) (fun j => nI (cl j)) f77 f78 g (fun j => nI (f80 j)) a9 (fun j => nI (f81 j)) a11 a12 a13 a14 a15 a16 a17 a18 a19 a20 (nI o89) o90 o91 o92 v25 v26 (nI bb) (fun j => nI (ct j)) (nI us) a30 a31 a32 a33 a34 a35 a36 a37 (fun j => nI (pil j)) (fun j => nI (rwv j)) (nI rl) v41 v42 v43 v44 v45) := ⟨_, rfl, (by rw [← nI_clamp (show (16 * bb) + (cl bb) < 2 ^ 31 by omega)]; exact hP), (by rw [← nI_clamp (show (16 * bb) + (cl bb) < 2 ^ 31 by omega)]; exact hD)⟩
              have hfrf95 : ∀ j, j < 16 * bb → f95 j = a7 j := fun j hj => by rw [ef95, pk_un (by omega)]; exact hfrf79 j hj
              refine lv_aload_n hx hb dX7_oneClass_247 rfl (lv_at hl 2 rfl) ?_
              have hFc := z_freeW hD hS hA
              refine va_callv (va_runV (As := []) (rest := []) ⟨hx, hb, hml, hown, hts⟩ (kX7_next l dC dI h0 r cI cJ cZ v0 a1 tp bs cl f77 f78 f95 f80 a9 f81 a11 a12 a13 a14 a15 a16 a17 a18 a19 a20 o89 o90 o91 o92 v25 v26 bb ct us a30 a31 a32 a33 a34 a35 a36 a37 pil rwv rl v41 v42 v43 v44 v45 ⟨by omega, by omega, by omega, hcl, hbf80, hbf81, hct, hpil, hrwv⟩ (by first | omega | assumption | trivial) H.size) (cwV 0 hts zgX7_oneClass_X7_next_195 rfl rfl rfl (by decide +kernel) ⟨(show 2 + 1 ≤ 5 by omega), (show 8 + (2 + 11) + 45 ≤ 116 by omega)⟩) (zVm (ci := 6) (q0 := 0) (q := (RX7, TX7, 46)) hK hP hD hL hS.2.1 hFc rfl rfl rfl) rfl rfl hl.1 rfl (lv_room (Nat.le_of_ble_eq_true rfl)) dX7_oneClass_248 ⟨(show 0 + 0 ≤ 0 by omega), (show 0 + 0 ≤ 0 by omega)⟩) hS (fun q _ h => hFc q h) hFc (fun u101 t H1 locs ht hvm hw hB hz1 hk1 hS => ?_)
              obtain ⟨o97, o98, o99, o100⟩ := u101
              obtain ⟨hP, hK9, hD⟩ := hB
              rw [ht] at hP
              have hD := hD.weaken (fun k q _ h => hFc q.1 h)
              generalize H1 = H at hP hS
              have hP : va_P (dC, dI) vwCl (rW h0 r cI cJ cZ v0 a1 (nI tp) (nI bs) (fun j => nI (cl j)) f77 f78 f95 (fun j => nI (f80 j)) a9 (fun j => nI (f81 j)) a11 a12 a13 a14 a15 a16 a17 a18 a19 a20 (nI o97) o98 o99 o100 v25 v26 (nI bb) (fun j => nI (ct j)) (nI us) a30 a31 a32 a33 a34 a35 a36 a37 (fun j => nI (pil j)) (fun j => nI (rwv j)) (nI rl) v41 v42 v43 v44 v45) H := hP
              have hD : va_D A (rW h0 r cI cJ cZ v0 a1 (nI tp) (nI bs) (fun j => nI (cl j)) f77 f78 f95 (fun j => nI (f80 j)) a9 (fun j => nI (f81 j)) a11 a12 a13 a14 a15 a16 a17 a18 a19 a20 (nI o97) o98 o99 o100 v25 v26 (nI bb) (fun j => nI (ct j)) (nI us) a30 a31 a32 a33 a34 a35 a36 a37 (fun j => nI (pil j)) (fun j => nI (rwv j)) (nI rl) v41 v42 v43 v44 v45) := hD
              have hw : (o89 ≤ o97) ∧ (o97 ≤ tp) ∧ (¬ o98 = 0 → o89 < o97) := hw
              obtain ⟨w0r96, w1r96, w2r96⟩ := hw
              exact J251 o97 o98 o99 o100 f77 f78 f95 f80 f81 _ _ ls  hfrf77 hfrf95 hbf80 hfrf80 hbf81 (by first | omega | assumption | trivial) (by first | omega | assumption | trivial) (by first | omega | assumption | trivial) hP hD hS (lv_sub hl [2, 0] rfl)
            · refine lv_aload_n hx hb dX7_oneClass_230 rfl (lv_at hl 2 rfl) ?_
              refine lv_iconst (v := 1) hx hb dX7_oneClass_231 (by decide) ?_
              have hFc := z_freeW hD hS hA
              refine va_calli (va_runV (As := [.int 1]) (rest := []) ⟨hx, hb, hml, hown, hts⟩ (kX7_fails l dC dI h0 r cI cJ cZ v0 a1 tp bs cl f77 f78 f79 f80 a9 f81 a11 a12 a13 a14 a15 a16 a17 a18 a19 a20 o89 o90 o91 o92 v25 v26 bb ct us a30 a31 a32 a33 a34 a35 a36 a37 pil rwv rl v41 v42 v43 v44 v45 ⟨by omega, by omega, by omega, hcl, hbf80, hbf81, hct, hpil, hrwv⟩ (1 : Int32) H.size) (cwV 1 hts zgX7_oneClass_X7_fails_192 rfl rfl rfl (by decide +kernel) ⟨(show 0 + 1 ≤ 5 by omega), (show 8 + (2 + 11) + 0 ≤ 116 by omega)⟩) (zVm (ci := 6) (q0 := 0) (q := (RX7, TX7, 46)) hK hP hD hL hS.2.1 hFc rfl rfl rfl) rfl rfl hl.1 rfl (lv_room (Nat.le_of_ble_eq_true rfl)) dX7_oneClass_232 ⟨(show 0 + 0 ≤ 0 by omega), (show 0 + 0 ≤ 0 by omega)⟩) hS (fun q _ h => hFc q h) hFc (fun r102 u105 t H1 locs ht hvm hw hB hz1 hk1 hS => ?_)
              obtain ⟨o103, o104⟩ := u105
              obtain ⟨hP, hK9, hD⟩ := hB
              rw [ht] at hP
              have hD := hD.weaken (fun k q _ h => hFc q.1 h)
              generalize H1 = H at hP hS
              have hP : va_P (dC, dI) vwCl (rW h0 r cI cJ cZ v0 a1 (nI tp) (nI bs) (fun j => nI (cl j)) f77 f78 f79 (fun j => nI (f80 j)) a9 (fun j => nI (f81 j)) a11 a12 a13 a14 a15 a16 a17 a18 a19 a20 (nI o89) o90 o91 o92 o103 o104 (nI bb) (fun j => nI (ct j)) (nI us) a30 a31 a32 a33 a34 a35 a36 a37 (fun j => nI (pil j)) (fun j => nI (rwv j)) (nI rl) v41 v42 v43 v44 v45) H := hP
              have hD : va_D A (rW h0 r cI cJ cZ v0 a1 (nI tp) (nI bs) (fun j => nI (cl j)) f77 f78 f79 (fun j => nI (f80 j)) a9 (fun j => nI (f81 j)) a11 a12 a13 a14 a15 a16 a17 a18 a19 a20 (nI o89) o90 o91 o92 o103 o104 (nI bb) (fun j => nI (ct j)) (nI us) a30 a31 a32 a33 a34 a35 a36 a37 (fun j => nI (pil j)) (fun j => nI (rwv j)) (nI rl) v41 v42 v43 v44 v45) := hD
              have hw : (r102 = 0 ∨ r102 = 1) ∧ (r102 = 0) := hw
              obtain ⟨w0r102, w1r102⟩ := hw
              subst w1r102
              have hP9 : va_P (dC, dI) vwCl (rW h0 r cI cJ cZ v0 a1 (nI tp) (nI bs) (fun j => nI (cl j)) f77 f78 f79 (fun j => nI (f80 j)) a9 (fun j => nI (f81 j)) a11 a12 a13 a14 a15 a16 a17 a18 a19 a20 (nI o89) o90 o91 o92 o103 o104 (nI bb) (fun j => nI (ct j)) (nI us) a30 a31 a32 a33 a34 a35 a36 a37 (fun j => nI (pil j)) (fun j => nI (rwv j)) (nI rl) v41 v42 v43 v44 v45) H := hP
              have hD9 : va_D A (rW h0 r cI cJ cZ v0 a1 (nI tp) (nI bs) (fun j => nI (cl j)) f77 f78 f79 (fun j => nI (f80 j)) a9 (fun j => nI (f81 j)) a11 a12 a13 a14 a15 a16 a17 a18 a19 a20 (nI o89) o90 o91 o92 o103 o104 (nI bb) (fun j => nI (ct j)) (nI us) a30 a31 a32 a33 a34 a35 a36 a37 (fun j => nI (pil j)) (fun j => nI (rwv j)) (nI rl) v41 v42 v43 v44 v45) := hD
              exact W.zret (v := (0 : Int32)) hx hb hr rfl (fun t ht hW => ⟨⟨(0 : Int32), (o89, o90, o91, o92, o103, o104, f77, f78, f79, f80, a9, a13, a14, a16, a17, a15, a18, a19, a20, f81, cl), rfl, ⟨(Or.inl rfl), (by omega), (by omega), (by first | (intro h9; exact absurd h9 (by decide)) | (intro _; omega)), hfrf77, hfrf79, hbf80, hfrf80, (fun _ _ => rfl), hbf81, hcl, (fun _ _ => rfl)⟩, by rw [ht]; exact hP9, va_K.moved hW.alike hK, hD9⟩, hS.F ht⟩) hS.2.2 dX7_oneClass_235
        · obtain ⟨k106, hBk106, hQk106, rfl⟩ := zM.pos w0r73 cp142
          refine lv_aload_n hx hb dX7_oneClass_145 rfl (lv_at hl 1 rfl) ?_
          refine lv_iconst (v := 3) hx hb dX7_oneClass_146 (by decide) ?_
          have hFc := z_freeW hD hS hA
          refine va_calli (va_runV (As := [.int 3]) (rest := []) ⟨hx, hb, hml, hown, hts⟩ (kX7_fails l dC dI h0 r cI cJ cZ v0 a1 tp bs cl a5 a6 a7 fc a9 mb a11 a12 a13 a14 a15 a16 a17 a18 a19 a20 o67 o68 o69 o70 v25 v26 bb ct us a30 a31 a32 a33 a34 a35 a36 a37 pil rwv rl v41 v42 v43 v44 v45 ⟨by omega, by omega, by omega, hcl, hfc, hmb, hct, hpil, hrwv⟩ (3 : Int32) H.size) (cwV 1 hts zgX7_oneClass_X7_fails_192 rfl rfl rfl (by decide +kernel) ⟨(show 0 + 1 ≤ 5 by omega), (show 8 + (2 + 11) + 0 ≤ 116 by omega)⟩) (zVm (ci := 6) (q0 := 0) (q := (RX7, TX7, 46)) hK hP hD hL hS.2.1 hFc rfl rfl rfl) rfl rfl hl.1 rfl (lv_room (Nat.le_of_ble_eq_true rfl)) dX7_oneClass_147 ⟨(show 0 + 0 ≤ 0 by omega), (show 0 + 0 ≤ 0 by omega)⟩) hS (fun q _ h => hFc q h) hFc (fun r107 u110 t H1 locs ht hvm hw hB hz1 hk1 hS => ?_)
          obtain ⟨o108, o109⟩ := u110
          obtain ⟨hP, hK9, hD⟩ := hB
          rw [ht] at hP
          have hD := hD.weaken (fun k q _ h => hFc q.1 h)
          generalize H1 = H at hP hS
          have hP : va_P (dC, dI) vwCl (rW h0 r cI cJ cZ v0 a1 (nI tp) (nI bs) (fun j => nI (cl j)) a5 a6 a7 (fun j => nI (fc j)) a9 (fun j => nI (mb j)) a11 a12 a13 a14 a15 a16 a17 a18 a19 a20 (nI o67) o68 o69 o70 o108 o109 (nI bb) (fun j => nI (ct j)) (nI us) a30 a31 a32 a33 a34 a35 a36 a37 (fun j => nI (pil j)) (fun j => nI (rwv j)) (nI rl) v41 v42 v43 v44 v45) H := hP
          have hD : va_D A (rW h0 r cI cJ cZ v0 a1 (nI tp) (nI bs) (fun j => nI (cl j)) a5 a6 a7 (fun j => nI (fc j)) a9 (fun j => nI (mb j)) a11 a12 a13 a14 a15 a16 a17 a18 a19 a20 (nI o67) o68 o69 o70 o108 o109 (nI bb) (fun j => nI (ct j)) (nI us) a30 a31 a32 a33 a34 a35 a36 a37 (fun j => nI (pil j)) (fun j => nI (rwv j)) (nI rl) v41 v42 v43 v44 v45) := hD
          have hw : (r107 = 0 ∨ r107 = 1) ∧ (r107 = 0) := hw
          obtain ⟨w0r107, w1r107⟩ := hw
          subst w1r107
          have hP9 : va_P (dC, dI) vwCl (rW h0 r cI cJ cZ v0 a1 (nI tp) (nI bs) (fun j => nI (cl j)) a5 a6 a7 (fun j => nI (fc j)) a9 (fun j => nI (mb j)) a11 a12 a13 a14 a15 a16 a17 a18 a19 a20 (nI o67) o68 o69 o70 o108 o109 (nI bb) (fun j => nI (ct j)) (nI us) a30 a31 a32 a33 a34 a35 a36 a37 (fun j => nI (pil j)) (fun j => nI (rwv j)) (nI rl) v41 v42 v43 v44 v45) H := hP
          have hD9 : va_D A (rW h0 r cI cJ cZ v0 a1 (nI tp) (nI bs) (fun j => nI (cl j)) a5 a6 a7 (fun j => nI (fc j)) a9 (fun j => nI (mb j)) a11 a12 a13 a14 a15 a16 a17 a18 a19 a20 (nI o67) o68 o69 o70 o108 o109 (nI bb) (fun j => nI (ct j)) (nI us) a30 a31 a32 a33 a34 a35 a36 a37 (fun j => nI (pil j)) (fun j => nI (rwv j)) (nI rl) v41 v42 v43 v44 v45) := hD
          exact W.zret (v := (0 : Int32)) hx hb hr rfl (fun t ht hW => ⟨⟨(0 : Int32), (o67, o68, o69, o70, o108, o109, a5, a6, a7, fc, a9, a13, a14, a16, a17, a15, a18, a19, a20, mb, cl), rfl, ⟨(Or.inl rfl), (by omega), (by omega), (by first | (intro h9; exact absurd h9 (by decide)) | (intro _; omega)), (fun _ _ => rfl), (fun _ _ => rfl), hfc, (fun _ _ => rfl), (fun _ _ => rfl), hmb, hcl, (fun _ _ => rfl)⟩, by rw [ht]; exact hP9, va_K.moved hW.alike hK, hD9⟩, hS.F ht⟩) hS.2.2 dX7_oneClass_150
      · refine lv_aload_n hx hb dX7_oneClass_121 rfl (lv_at hl 0 rfl) ?_
        refine lv_iconst (v := 1) hx hb dX7_oneClass_122 (by decide) ?_
        have hFc := z_freeW hD hS hA
        refine va_calli (va_runV (As := [.int 1]) (rest := []) ⟨hx, hb, hml, hown, hts⟩ (kX7_fails l dC dI h0 r cI cJ cZ v0 a1 tp bs cl a5 a6 a7 fc a9 mb a11 a12 a13 a14 a15 a16 a17 a18 a19 a20 o67 o68 o69 o70 v25 v26 bb ct us a30 a31 a32 a33 a34 a35 a36 a37 pil rwv rl v41 v42 v43 v44 v45 ⟨by omega, by omega, by omega, hcl, hfc, hmb, hct, hpil, hrwv⟩ (1 : Int32) H.size) (cwV 1 hts zgX7_oneClass_X7_fails_192 rfl rfl rfl (by decide +kernel) ⟨(show 0 + 1 ≤ 5 by omega), (show 8 + (2 + 11) + 0 ≤ 116 by omega)⟩) (zVm (ci := 6) (q0 := 0) (q := (RX7, TX7, 46)) hK hP hD hL hS.2.1 hFc rfl rfl rfl) rfl rfl hl.1 rfl (lv_room (Nat.le_of_ble_eq_true rfl)) dX7_oneClass_123 ⟨(show 0 + 0 ≤ 0 by omega), (show 0 + 0 ≤ 0 by omega)⟩) hS (fun q _ h => hFc q h) hFc (fun r111 u114 t H1 locs ht hvm hw hB hz1 hk1 hS => ?_)
        obtain ⟨o112, o113⟩ := u114
        obtain ⟨hP, hK9, hD⟩ := hB
        rw [ht] at hP
        have hD := hD.weaken (fun k q _ h => hFc q.1 h)
        generalize H1 = H at hP hS
        have hP : va_P (dC, dI) vwCl (rW h0 r cI cJ cZ v0 a1 (nI tp) (nI bs) (fun j => nI (cl j)) a5 a6 a7 (fun j => nI (fc j)) a9 (fun j => nI (mb j)) a11 a12 a13 a14 a15 a16 a17 a18 a19 a20 (nI o67) o68 o69 o70 o112 o113 (nI bb) (fun j => nI (ct j)) (nI us) a30 a31 a32 a33 a34 a35 a36 a37 (fun j => nI (pil j)) (fun j => nI (rwv j)) (nI rl) v41 v42 v43 v44 v45) H := hP
        have hD : va_D A (rW h0 r cI cJ cZ v0 a1 (nI tp) (nI bs) (fun j => nI (cl j)) a5 a6 a7 (fun j => nI (fc j)) a9 (fun j => nI (mb j)) a11 a12 a13 a14 a15 a16 a17 a18 a19 a20 (nI o67) o68 o69 o70 o112 o113 (nI bb) (fun j => nI (ct j)) (nI us) a30 a31 a32 a33 a34 a35 a36 a37 (fun j => nI (pil j)) (fun j => nI (rwv j)) (nI rl) v41 v42 v43 v44 v45) := hD
        have hw : (r111 = 0 ∨ r111 = 1) ∧ (r111 = 0) := hw
        obtain ⟨w0r111, w1r111⟩ := hw
        subst w1r111
        have hP9 : va_P (dC, dI) vwCl (rW h0 r cI cJ cZ v0 a1 (nI tp) (nI bs) (fun j => nI (cl j)) a5 a6 a7 (fun j => nI (fc j)) a9 (fun j => nI (mb j)) a11 a12 a13 a14 a15 a16 a17 a18 a19 a20 (nI o67) o68 o69 o70 o112 o113 (nI bb) (fun j => nI (ct j)) (nI us) a30 a31 a32 a33 a34 a35 a36 a37 (fun j => nI (pil j)) (fun j => nI (rwv j)) (nI rl) v41 v42 v43 v44 v45) H := hP
        have hD9 : va_D A (rW h0 r cI cJ cZ v0 a1 (nI tp) (nI bs) (fun j => nI (cl j)) a5 a6 a7 (fun j => nI (fc j)) a9 (fun j => nI (mb j)) a11 a12 a13 a14 a15 a16 a17 a18 a19 a20 (nI o67) o68 o69 o70 o112 o113 (nI bb) (fun j => nI (ct j)) (nI us) a30 a31 a32 a33 a34 a35 a36 a37 (fun j => nI (pil j)) (fun j => nI (rwv j)) (nI rl) v41 v42 v43 v44 v45) := hD
        exact W.zret (v := (0 : Int32)) hx hb hr rfl (fun t ht hW => ⟨⟨(0 : Int32), (o67, o68, o69, o70, o112, o113, a5, a6, a7, fc, a9, a13, a14, a16, a17, a15, a18, a19, a20, mb, cl), rfl, ⟨(Or.inl rfl), (by omega), (by omega), (by first | (intro h9; exact absurd h9 (by decide)) | (intro _; omega)), (fun _ _ => rfl), (fun _ _ => rfl), hfc, (fun _ _ => rfl), (fun _ _ => rfl), hmb, hcl, (fun _ _ => rfl)⟩, by rw [ht]; exact hP9, va_K.moved hW.alike hK, hD9⟩, hS.F ht⟩) hS.2.2 dX7_oneClass_126
    · refine lv_aload_n hx hb dX7_oneClass_102 rfl (lv_at hl 0 rfl) ?_
      refine lv_iconst (v := 1) hx hb dX7_oneClass_103 (by decide) ?_
      have hFc := z_freeW hD hS hA
      refine va_calli (va_runV (As := [.int 1]) (rest := []) ⟨hx, hb, hml, hown, hts⟩ (kX7_fails l dC dI h0 r cI cJ cZ v0 a1 tp bs cl a5 a6 a7 fc a9 mb a11 a12 a13 a14 a15 a16 a17 a18 a19 a20 i2 tk ta vl v25 v26 bb ct us a30 a31 a32 a33 a34 a35 a36 a37 pil rwv rl v41 v42 v43 v44 v45 ⟨by omega, by omega, by omega, hcl, hfc, hmb, hct, hpil, hrwv⟩ (1 : Int32) H.size) (cwV 1 hts zgX7_oneClass_X7_fails_192 rfl rfl rfl (by decide +kernel) ⟨(show 0 + 1 ≤ 5 by omega), (show 8 + (2 + 11) + 0 ≤ 116 by omega)⟩) (zVm (ci := 6) (q0 := 0) (q := (RX7, TX7, 46)) hK hP hD hL hS.2.1 hFc rfl rfl rfl) rfl rfl hl.1 rfl (lv_room (Nat.le_of_ble_eq_true rfl)) dX7_oneClass_104 ⟨(show 0 + 0 ≤ 0 by omega), (show 0 + 0 ≤ 0 by omega)⟩) hS (fun q _ h => hFc q h) hFc (fun r115 u118 t H1 locs ht hvm hw hB hz1 hk1 hS => ?_)
      obtain ⟨o116, o117⟩ := u118
      obtain ⟨hP, hK9, hD⟩ := hB
      rw [ht] at hP
      have hD := hD.weaken (fun k q _ h => hFc q.1 h)
      generalize H1 = H at hP hS
      have hP : va_P (dC, dI) vwCl (rW h0 r cI cJ cZ v0 a1 (nI tp) (nI bs) (fun j => nI (cl j)) a5 a6 a7 (fun j => nI (fc j)) a9 (fun j => nI (mb j)) a11 a12 a13 a14 a15 a16 a17 a18 a19 a20 (nI i2) tk ta vl o116 o117 (nI bb) (fun j => nI (ct j)) (nI us) a30 a31 a32 a33 a34 a35 a36 a37 (fun j => nI (pil j)) (fun j => nI (rwv j)) (nI rl) v41 v42 v43 v44 v45) H := hP
      have hD : va_D A (rW h0 r cI cJ cZ v0 a1 (nI tp) (nI bs) (fun j => nI (cl j)) a5 a6 a7 (fun j => nI (fc j)) a9 (fun j => nI (mb j)) a11 a12 a13 a14 a15 a16 a17 a18 a19 a20 (nI i2) tk ta vl o116 o117 (nI bb) (fun j => nI (ct j)) (nI us) a30 a31 a32 a33 a34 a35 a36 a37 (fun j => nI (pil j)) (fun j => nI (rwv j)) (nI rl) v41 v42 v43 v44 v45) := hD
      have hw : (r115 = 0 ∨ r115 = 1) ∧ (r115 = 0) := hw
      obtain ⟨w0r115, w1r115⟩ := hw
      subst w1r115
      have hP9 : va_P (dC, dI) vwCl (rW h0 r cI cJ cZ v0 a1 (nI tp) (nI bs) (fun j => nI (cl j)) a5 a6 a7 (fun j => nI (fc j)) a9 (fun j => nI (mb j)) a11 a12 a13 a14 a15 a16 a17 a18 a19 a20 (nI i2) tk ta vl o116 o117 (nI bb) (fun j => nI (ct j)) (nI us) a30 a31 a32 a33 a34 a35 a36 a37 (fun j => nI (pil j)) (fun j => nI (rwv j)) (nI rl) v41 v42 v43 v44 v45) H := hP
      have hD9 : va_D A (rW h0 r cI cJ cZ v0 a1 (nI tp) (nI bs) (fun j => nI (cl j)) a5 a6 a7 (fun j => nI (fc j)) a9 (fun j => nI (mb j)) a11 a12 a13 a14 a15 a16 a17 a18 a19 a20 (nI i2) tk ta vl o116 o117 (nI bb) (fun j => nI (ct j)) (nI us) a30 a31 a32 a33 a34 a35 a36 a37 (fun j => nI (pil j)) (fun j => nI (rwv j)) (nI rl) v41 v42 v43 v44 v45) := hD
      exact W.zret (v := (0 : Int32)) hx hb hr rfl (fun t ht hW => ⟨⟨(0 : Int32), (i2, tk, ta, vl, o116, o117, a5, a6, a7, fc, a9, a13, a14, a16, a17, a15, a18, a19, a20, mb, cl), rfl, ⟨(Or.inl rfl), (by omega), (by omega), (by first | (intro h9; exact absurd h9 (by decide)) | (intro _; omega)), (fun _ _ => rfl), (fun _ _ => rfl), hfc, (fun _ _ => rfl), (fun _ _ => rfl), hmb, hcl, (fun _ _ => rfl)⟩, by rw [ht]; exact hP9, va_K.moved hW.alike hK, hD9⟩, hS.F ht⟩) hS.2.2 dX7_oneClass_107
  have J64 : ∀ (sx : Int32) (H : Heap) (locs : List Loc) (ls : Array Slot), va_P (dC, dI) vwCl (rW h0 r cI cJ cZ v0 a1 (nI tp) (nI bs) (fun j => nI (cl j)) a5 a6 a7 (fun j => nI (fc j)) a9 (fun j => nI (mb j)) a11 a12 a13 a14 a15 a16 a17 a18 a19 a20 (nI az) v22 v23 v24 v25 v26 (nI bb) (fun j => nI (ct j)) (nI us) a30 a31 a32 a33 a34 a35 a36 a37 (fun j => nI (pil j)) (fun j => nI (rwv j)) (nI rl) v41 v42 v43 v44 v45) H → va_D A (rW h0 r cI cJ cZ v0 a1 (nI tp) (nI bs) (fun j => nI (cl j)) a5 a6 a7 (fun j => nI (fc j)) a9 (fun j => nI (mb j)) a11 a12 a13 a14 a15 a16 a17 a18 a19 a20 (nI az) v22 v23 v24 v25 v26 (nI bb) (fun j => nI (ct j)) (nI us) a30 a31 a32 a33 a34 a35 a36 a37 (fun j => nI (pil j)) (fun j => nI (rwv j)) (nI rl) v41 v42 v43 v44 v45) → va_S A s.heap H locs → lv_has ls 5 [(0, .ref h0), (1, .int sx)] → W p l e (headSpec zwX7_oneClass { frames := 5, cells := 0, slots := 0, locals := 116 }).room s m (([.ref h0] : List Value).toArray) below meth c H locs 0 0 (MQ below (va_Qi (fun (r : Int32) (u : Nat × Int32 × Int32 × Int64 × Int32 × Int32 × (Nat → Int32) × (Nat → Int32) × (Nat → Int32) × (Nat → Nat) × (Nat → Int32) × (Nat → Int64) × (Nat → Int32) × (Nat → Int32) × (Nat → Int32) × (Nat → Int32) × (Nat → Int32) × (Nat → Int32) × (Nat → Int32) × (Nat → Nat) × (Nat → Nat)) => (r = 0 ∨ r = 1) ∧ (az ≤ (u.1)) ∧ ((u.1) ≤ tp) ∧ (r = 1 → az < (u.1)) ∧ (∀ j, j < 16 * bb → (u.2.2.2.2.2.2.1) j = a5 j) ∧ (∀ j, j < 16 * bb → (u.2.2.2.2.2.2.2.2.1) j = a7 j) ∧ (∀ j, (u.2.2.2.2.2.2.2.2.2.1) j ≤ 3) ∧ (∀ j, j < 16 * bb → (u.2.2.2.2.2.2.2.2.2.1) j = fc j) ∧ (∀ j, j < 48 * bb → (u.2.2.2.2.2.2.2.2.2.2.1) j = a9 j) ∧ (∀ j, (u.2.2.2.2.2.2.2.2.2.2.2.2.2.2.2.2.2.2.2.1) j ≤ 12) ∧ (∀ j, (u.2.2.2.2.2.2.2.2.2.2.2.2.2.2.2.2.2.2.2.2) j ≤ 16) ∧ (∀ j, j ≠ bb → (u.2.2.2.2.2.2.2.2.2.2.2.2.2.2.2.2.2.2.2.2) j = cl j)) (fun u t => zB dC dI (A) (rW h0 r cI cJ cZ v0 a1 (nI tp) (nI bs) (fun j => nI ((u.2.2.2.2.2.2.2.2.2.2.2.2.2.2.2.2.2.2.2.2) j)) (u.2.2.2.2.2.2.1) (u.2.2.2.2.2.2.2.1) (u.2.2.2.2.2.2.2.2.1) (fun j => nI ((u.2.2.2.2.2.2.2.2.2.1) j)) (u.2.2.2.2.2.2.2.2.2.2.1) (fun j => nI ((u.2.2.2.2.2.2.2.2.2.2.2.2.2.2.2.2.2.2.2.1) j)) a11 a12 (u.2.2.2.2.2.2.2.2.2.2.2.1) (u.2.2.2.2.2.2.2.2.2.2.2.2.1) (u.2.2.2.2.2.2.2.2.2.2.2.2.2.2.2.1) (u.2.2.2.2.2.2.2.2.2.2.2.2.2.1) (u.2.2.2.2.2.2.2.2.2.2.2.2.2.2.1) (u.2.2.2.2.2.2.2.2.2.2.2.2.2.2.2.2.1) (u.2.2.2.2.2.2.2.2.2.2.2.2.2.2.2.2.2.1) (u.2.2.2.2.2.2.2.2.2.2.2.2.2.2.2.2.2.2.1) (nI (u.1)) (u.2.1) (u.2.2.1) (u.2.2.2.1) (u.2.2.2.2.1) (u.2.2.2.2.2.1) (nI bb) (fun j => nI (ct j)) (nI us) a30 a31 a32 a33 a34 a35 a36 a37 (fun j => nI (pil j)) (fun j => nI (rwv j)) (nI rl) v41 v42 v43 v44 v45) [(cI, .int), (cJ, .long), (cZ, .boolean)] t) (A)) (([.ref h0] : List Value).toArray) s 0 0 A) (F0 m 64 ls []) := by
    intro sx H locs ls  hP hD hS hl
    refine lv_aload_n hx hb dX7_oneClass_64 rfl (lv_at hl 0 rfl) ?_
    refine va_get (D := (dC, dI)) (ci := 6) (v := .ref (r 4)) (C := RX7) (T := TX7) (N := 46) hx hb hts hiX7 hown hK hP 0 rfl rfl 4 (by decide) (hts (.fieldLink RX7 17 "LinkModelsModel" "classes" "[I") (by decide +kernel)) (fun _ h9 => h9) rfl dX7_oneClass_65 ?_
    refine lv_aload_n hx hb dX7_oneClass_68 rfl (lv_at hl 0 rfl) ?_
    refine va_get (D := (dC, dI)) (ci := 6) (v := .int (nI bb)) (C := RX7) (T := TX7) (N := 46) hx hb hts hiX7 hown hK hP 0 rfl rfl 27 (by decide) (hts (.fieldLink RX7 198 "LinkModelsModel" "b" "I") (by decide +kernel)) (fun _ h9 => h9) rfl dX7_oneClass_69 ?_
    refine va_iald hx hb hK hP 2 0 rfl rfl (vp_in_nI (show bb < 5 by omega) (by decide)) dX7_oneClass_72 ?_
    refine lv_topi (fun x119 ex119 => ?_)
    obtain rfl : x119 = nI (cl bb) := by rw [ex119, nI_clamp (show bb < 2 ^ 31 by omega)]
    have hqx119 := hcl bb
    refine lv_bipush (v := 16) hx hb dX7_oneClass_73 (by decide) ?_
    refine lv_icmp_ne (tgt := 84) hx hb dX7_oneClass_75 (by decide) (fun cp75 => ?_) (fun cp75 => ?_)
    · have qcp75 : ¬ (cl bb) = 16 := fun h9 => cp75 ((nI_eq (a := cl bb) (b := 16) (by omega) (by omega)).mpr h9)
      refine lv_iload_n hx hb dX7_oneClass_84 rfl (lv_at hl 1 rfl) ?_
      refine lv_if_le (tgt := 92) hx hb dX7_oneClass_85 (by decide) (fun cp85 => ?_) (fun cp85 => ?_)
      · exact J92 sx az v22 v23 v24 _ _ ls  (by first | omega | assumption | trivial) (by first | omega | assumption | trivial) (by first | omega | assumption | trivial) hP hD hS (lv_sub hl [0, 1] rfl)
      · refine lv_aload_n hx hb dX7_oneClass_88 rfl (lv_at hl 0 rfl) ?_
        have hFc := z_freeW hD hS hA
        refine va_callv (va_runV (As := []) (rest := []) ⟨hx, hb, hml, hown, hts⟩ (kX7_next l dC dI h0 r cI cJ cZ v0 a1 tp bs cl a5 a6 a7 fc a9 mb a11 a12 a13 a14 a15 a16 a17 a18 a19 a20 az v22 v23 v24 v25 v26 bb ct us a30 a31 a32 a33 a34 a35 a36 a37 pil rwv rl v41 v42 v43 v44 v45 ⟨by omega, by omega, by omega, hcl, hfc, hmb, hct, hpil, hrwv⟩ (by first | omega | assumption | trivial) H.size) (cwV 0 hts zgX7_oneClass_X7_next_195 rfl rfl rfl (by decide +kernel) ⟨(show 2 + 1 ≤ 5 by omega), (show 8 + (2 + 11) + 45 ≤ 116 by omega)⟩) (zVm (ci := 6) (q0 := 0) (q := (RX7, TX7, 46)) hK hP hD hL hS.2.1 hFc rfl rfl rfl) rfl rfl hl.1 rfl (lv_room (Nat.le_of_ble_eq_true rfl)) dX7_oneClass_89 ⟨(show 0 + 0 ≤ 0 by omega), (show 0 + 0 ≤ 0 by omega)⟩) hS (fun q _ h => hFc q h) hFc (fun u125 t H1 locs ht hvm hw hB hz1 hk1 hS => ?_)
        obtain ⟨o121, o122, o123, o124⟩ := u125
        obtain ⟨hP, hK9, hD⟩ := hB
        rw [ht] at hP
        have hD := hD.weaken (fun k q _ h => hFc q.1 h)
        generalize H1 = H at hP hS
        have hP : va_P (dC, dI) vwCl (rW h0 r cI cJ cZ v0 a1 (nI tp) (nI bs) (fun j => nI (cl j)) a5 a6 a7 (fun j => nI (fc j)) a9 (fun j => nI (mb j)) a11 a12 a13 a14 a15 a16 a17 a18 a19 a20 (nI o121) o122 o123 o124 v25 v26 (nI bb) (fun j => nI (ct j)) (nI us) a30 a31 a32 a33 a34 a35 a36 a37 (fun j => nI (pil j)) (fun j => nI (rwv j)) (nI rl) v41 v42 v43 v44 v45) H := hP
        have hD : va_D A (rW h0 r cI cJ cZ v0 a1 (nI tp) (nI bs) (fun j => nI (cl j)) a5 a6 a7 (fun j => nI (fc j)) a9 (fun j => nI (mb j)) a11 a12 a13 a14 a15 a16 a17 a18 a19 a20 (nI o121) o122 o123 o124 v25 v26 (nI bb) (fun j => nI (ct j)) (nI us) a30 a31 a32 a33 a34 a35 a36 a37 (fun j => nI (pil j)) (fun j => nI (rwv j)) (nI rl) v41 v42 v43 v44 v45) := hD
        have hw : (az ≤ o121) ∧ (o121 ≤ tp) ∧ (¬ o122 = 0 → az < o121) := hw
        obtain ⟨w0r120, w1r120, w2r120⟩ := hw
        exact J92 sx o121 o122 o123 o124 _ _ ls  (by first | omega | assumption | trivial) (by first | omega | assumption | trivial) (by first | omega | assumption | trivial) hP hD hS (lv_sub hl [0, 1] rfl)
    · have qcp75 : (cl bb) = 16 := (nI_eq (a := cl bb) (b := 16) (by omega) (by omega)).mp cp75
      refine lv_aload_n hx hb dX7_oneClass_78 rfl (lv_at hl 0 rfl) ?_
      refine lv_iconst (v := 2) hx hb dX7_oneClass_79 (by decide) ?_
      have hFc := z_freeW hD hS hA
      refine va_calli (va_runV (As := [.int 2]) (rest := []) ⟨hx, hb, hml, hown, hts⟩ (kX7_fails l dC dI h0 r cI cJ cZ v0 a1 tp bs cl a5 a6 a7 fc a9 mb a11 a12 a13 a14 a15 a16 a17 a18 a19 a20 az v22 v23 v24 v25 v26 bb ct us a30 a31 a32 a33 a34 a35 a36 a37 pil rwv rl v41 v42 v43 v44 v45 ⟨by omega, by omega, by omega, hcl, hfc, hmb, hct, hpil, hrwv⟩ (2 : Int32) H.size) (cwV 1 hts zgX7_oneClass_X7_fails_192 rfl rfl rfl (by decide +kernel) ⟨(show 0 + 1 ≤ 5 by omega), (show 8 + (2 + 11) + 0 ≤ 116 by omega)⟩) (zVm (ci := 6) (q0 := 0) (q := (RX7, TX7, 46)) hK hP hD hL hS.2.1 hFc rfl rfl rfl) rfl rfl hl.1 rfl (lv_room (Nat.le_of_ble_eq_true rfl)) dX7_oneClass_80 ⟨(show 0 + 0 ≤ 0 by omega), (show 0 + 0 ≤ 0 by omega)⟩) hS (fun q _ h => hFc q h) hFc (fun r126 u129 t H1 locs ht hvm hw hB hz1 hk1 hS => ?_)
      obtain ⟨o127, o128⟩ := u129
      obtain ⟨hP, hK9, hD⟩ := hB
      rw [ht] at hP
      have hD := hD.weaken (fun k q _ h => hFc q.1 h)
      generalize H1 = H at hP hS
      have hP : va_P (dC, dI) vwCl (rW h0 r cI cJ cZ v0 a1 (nI tp) (nI bs) (fun j => nI (cl j)) a5 a6 a7 (fun j => nI (fc j)) a9 (fun j => nI (mb j)) a11 a12 a13 a14 a15 a16 a17 a18 a19 a20 (nI az) v22 v23 v24 o127 o128 (nI bb) (fun j => nI (ct j)) (nI us) a30 a31 a32 a33 a34 a35 a36 a37 (fun j => nI (pil j)) (fun j => nI (rwv j)) (nI rl) v41 v42 v43 v44 v45) H := hP
      have hD : va_D A (rW h0 r cI cJ cZ v0 a1 (nI tp) (nI bs) (fun j => nI (cl j)) a5 a6 a7 (fun j => nI (fc j)) a9 (fun j => nI (mb j)) a11 a12 a13 a14 a15 a16 a17 a18 a19 a20 (nI az) v22 v23 v24 o127 o128 (nI bb) (fun j => nI (ct j)) (nI us) a30 a31 a32 a33 a34 a35 a36 a37 (fun j => nI (pil j)) (fun j => nI (rwv j)) (nI rl) v41 v42 v43 v44 v45) := hD
      have hw : (r126 = 0 ∨ r126 = 1) ∧ (r126 = 0) := hw
      obtain ⟨w0r126, w1r126⟩ := hw
      subst w1r126
      have hP9 : va_P (dC, dI) vwCl (rW h0 r cI cJ cZ v0 a1 (nI tp) (nI bs) (fun j => nI (cl j)) a5 a6 a7 (fun j => nI (fc j)) a9 (fun j => nI (mb j)) a11 a12 a13 a14 a15 a16 a17 a18 a19 a20 (nI az) v22 v23 v24 o127 o128 (nI bb) (fun j => nI (ct j)) (nI us) a30 a31 a32 a33 a34 a35 a36 a37 (fun j => nI (pil j)) (fun j => nI (rwv j)) (nI rl) v41 v42 v43 v44 v45) H := hP
      have hD9 : va_D A (rW h0 r cI cJ cZ v0 a1 (nI tp) (nI bs) (fun j => nI (cl j)) a5 a6 a7 (fun j => nI (fc j)) a9 (fun j => nI (mb j)) a11 a12 a13 a14 a15 a16 a17 a18 a19 a20 (nI az) v22 v23 v24 o127 o128 (nI bb) (fun j => nI (ct j)) (nI us) a30 a31 a32 a33 a34 a35 a36 a37 (fun j => nI (pil j)) (fun j => nI (rwv j)) (nI rl) v41 v42 v43 v44 v45) := hD
      exact W.zret (v := (0 : Int32)) hx hb hr rfl (fun t ht hW => ⟨⟨(0 : Int32), (az, v22, v23, v24, o127, o128, a5, a6, a7, fc, a9, a13, a14, a16, a17, a15, a18, a19, a20, mb, cl), rfl, ⟨(Or.inl rfl), (by omega), (by omega), (by first | (intro h9; exact absurd h9 (by decide)) | (intro _; omega)), (fun _ _ => rfl), (fun _ _ => rfl), hfc, (fun _ _ => rfl), (fun _ _ => rfl), hmb, hcl, (fun _ _ => rfl)⟩, by rw [ht]; exact hP9, va_K.moved hW.alike hK, hD9⟩, hS.F ht⟩) hS.2.2 dX7_oneClass_83
  have J43 : ∀ (sx : Int32) (H : Heap) (locs : List Loc) (ls : Array Slot), va_P (dC, dI) vwCl (rW h0 r cI cJ cZ v0 a1 (nI tp) (nI bs) (fun j => nI (cl j)) a5 a6 a7 (fun j => nI (fc j)) a9 (fun j => nI (mb j)) a11 a12 a13 a14 a15 a16 a17 a18 a19 a20 (nI az) v22 v23 v24 v25 v26 (nI bb) (fun j => nI (ct j)) (nI us) a30 a31 a32 a33 a34 a35 a36 a37 (fun j => nI (pil j)) (fun j => nI (rwv j)) (nI rl) v41 v42 v43 v44 v45) H → va_D A (rW h0 r cI cJ cZ v0 a1 (nI tp) (nI bs) (fun j => nI (cl j)) a5 a6 a7 (fun j => nI (fc j)) a9 (fun j => nI (mb j)) a11 a12 a13 a14 a15 a16 a17 a18 a19 a20 (nI az) v22 v23 v24 v25 v26 (nI bb) (fun j => nI (ct j)) (nI us) a30 a31 a32 a33 a34 a35 a36 a37 (fun j => nI (pil j)) (fun j => nI (rwv j)) (nI rl) v41 v42 v43 v44 v45) → va_S A s.heap H locs → lv_has ls 5 [(0, .ref h0)] → W p l e (headSpec zwX7_oneClass { frames := 5, cells := 0, slots := 0, locals := 116 }).room s m (([.ref h0] : List Value).toArray) below meth c H locs 0 0 (MQ below (va_Qi (fun (r : Int32) (u : Nat × Int32 × Int32 × Int64 × Int32 × Int32 × (Nat → Int32) × (Nat → Int32) × (Nat → Int32) × (Nat → Nat) × (Nat → Int32) × (Nat → Int64) × (Nat → Int32) × (Nat → Int32) × (Nat → Int32) × (Nat → Int32) × (Nat → Int32) × (Nat → Int32) × (Nat → Int32) × (Nat → Nat) × (Nat → Nat)) => (r = 0 ∨ r = 1) ∧ (az ≤ (u.1)) ∧ ((u.1) ≤ tp) ∧ (r = 1 → az < (u.1)) ∧ (∀ j, j < 16 * bb → (u.2.2.2.2.2.2.1) j = a5 j) ∧ (∀ j, j < 16 * bb → (u.2.2.2.2.2.2.2.2.1) j = a7 j) ∧ (∀ j, (u.2.2.2.2.2.2.2.2.2.1) j ≤ 3) ∧ (∀ j, j < 16 * bb → (u.2.2.2.2.2.2.2.2.2.1) j = fc j) ∧ (∀ j, j < 48 * bb → (u.2.2.2.2.2.2.2.2.2.2.1) j = a9 j) ∧ (∀ j, (u.2.2.2.2.2.2.2.2.2.2.2.2.2.2.2.2.2.2.2.1) j ≤ 12) ∧ (∀ j, (u.2.2.2.2.2.2.2.2.2.2.2.2.2.2.2.2.2.2.2.2) j ≤ 16) ∧ (∀ j, j ≠ bb → (u.2.2.2.2.2.2.2.2.2.2.2.2.2.2.2.2.2.2.2.2) j = cl j)) (fun u t => zB dC dI (A) (rW h0 r cI cJ cZ v0 a1 (nI tp) (nI bs) (fun j => nI ((u.2.2.2.2.2.2.2.2.2.2.2.2.2.2.2.2.2.2.2.2) j)) (u.2.2.2.2.2.2.1) (u.2.2.2.2.2.2.2.1) (u.2.2.2.2.2.2.2.2.1) (fun j => nI ((u.2.2.2.2.2.2.2.2.2.1) j)) (u.2.2.2.2.2.2.2.2.2.2.1) (fun j => nI ((u.2.2.2.2.2.2.2.2.2.2.2.2.2.2.2.2.2.2.2.1) j)) a11 a12 (u.2.2.2.2.2.2.2.2.2.2.2.1) (u.2.2.2.2.2.2.2.2.2.2.2.2.1) (u.2.2.2.2.2.2.2.2.2.2.2.2.2.2.2.1) (u.2.2.2.2.2.2.2.2.2.2.2.2.2.1) (u.2.2.2.2.2.2.2.2.2.2.2.2.2.2.1) (u.2.2.2.2.2.2.2.2.2.2.2.2.2.2.2.2.1) (u.2.2.2.2.2.2.2.2.2.2.2.2.2.2.2.2.2.1) (u.2.2.2.2.2.2.2.2.2.2.2.2.2.2.2.2.2.2.1) (nI (u.1)) (u.2.1) (u.2.2.1) (u.2.2.2.1) (u.2.2.2.2.1) (u.2.2.2.2.2.1) (nI bb) (fun j => nI (ct j)) (nI us) a30 a31 a32 a33 a34 a35 a36 a37 (fun j => nI (pil j)) (fun j => nI (rwv j)) (nI rl) v41 v42 v43 v44 v45) [(cI, .int), (cJ, .long), (cZ, .boolean)] t) (A)) (([.ref h0] : List Value).toArray) s 0 0 A) (F0 m 43 ls [.int sx]) := by
    intro sx H locs ls  hP hD hS hl
    refine lv_istore_n (lv' := [(1, .int sx), (0, .ref h0)]) hx hb dX7_oneClass_43 rfl hl (by decide) rfl (fun ls hl => ?_)
    refine lv_iload_n hx hb dX7_oneClass_44 rfl (lv_at hl 0 rfl) ?_
    refine lv_if_ne (tgt := 64) hx hb dX7_oneClass_45 (by decide) (fun cp45 => ?_) (fun cp45 => ?_)
    · exact J64 sx _ _ ls  hP hD hS (lv_sub hl [1, 0] rfl)
    · refine lv_aload_n hx hb dX7_oneClass_48 rfl (lv_at hl 1 rfl) ?_
      obtain ⟨x130, hZ9⟩ := zL_0 hL
      refine va_gets hx hb hZ9 hS hown (hts (.fieldLink RX7 161 "LinkModelsModel" "CLASS" "J") (by decide +kernel)) (fun _ h9 => h9) dX7_oneClass_49 ?_
      have hFc := z_freeW hD hS hA
      refine vp_callSi (W.runV (As := [.long x130]) (rest := []) ⟨hx, hb, hml, hown, hts⟩ (kX7_isWord l dC dI h0 r cI cJ cZ v0 a1 tp bs cl a5 a6 a7 fc a9 mb a11 a12 a13 a14 a15 a16 a17 a18 a19 a20 az v22 v23 v24 v25 v26 bb ct us a30 a31 a32 a33 a34 a35 a36 a37 pil rwv rl v41 v42 v43 v44 v45 ⟨by omega, by omega, by omega, hcl, hfc, hmb, hct, hpil, hrwv⟩ x130 H.size) (cwV 1 hts zgX7_oneClass_X7_isWord_164 rfl rfl rfl (by decide +kernel) ⟨(show 0 + 1 ≤ 5 by omega), (show 8 + (3 + 11) + 0 ≤ 116 by omega)⟩) (zVm (ci := 6) (q0 := 0) (q := (RX7, TX7, 46)) hK hP hD hL hS.2.1 hFc rfl rfl rfl) rfl rfl hl.1 rfl (lv_room (Nat.le_of_ble_eq_true rfl)) dX7_oneClass_52 ⟨(show 0 + 0 ≤ 0 by omega), (show 0 + 0 ≤ 0 by omega)⟩) (fun r131 hw => ?_)
      have hw : (r131 = 0 ∨ r131 = 1) ∧ (r131 = 1 → v22 = 87) := hw
      obtain ⟨w0r131, w1r131⟩ := hw
      refine lv_if_ne (tgt := 64) hx hb dX7_oneClass_55 (by decide) (fun cp55 => ?_) (fun cp55 => ?_)
      · exact J64 sx _ _ ls  hP hD hS (lv_sub hl [1, 0] rfl)
      · refine lv_aload_n hx hb dX7_oneClass_58 rfl (lv_at hl 1 rfl) ?_
        refine lv_iconst (v := 1) hx hb dX7_oneClass_59 (by decide) ?_
        have hFc := z_freeW hD hS hA
        refine va_calli (va_runV (As := [.int 1]) (rest := []) ⟨hx, hb, hml, hown, hts⟩ (kX7_fails l dC dI h0 r cI cJ cZ v0 a1 tp bs cl a5 a6 a7 fc a9 mb a11 a12 a13 a14 a15 a16 a17 a18 a19 a20 az v22 v23 v24 v25 v26 bb ct us a30 a31 a32 a33 a34 a35 a36 a37 pil rwv rl v41 v42 v43 v44 v45 ⟨by omega, by omega, by omega, hcl, hfc, hmb, hct, hpil, hrwv⟩ (1 : Int32) H.size) (cwV 1 hts zgX7_oneClass_X7_fails_192 rfl rfl rfl (by decide +kernel) ⟨(show 0 + 1 ≤ 5 by omega), (show 8 + (2 + 11) + 0 ≤ 116 by omega)⟩) (zVm (ci := 6) (q0 := 0) (q := (RX7, TX7, 46)) hK hP hD hL hS.2.1 hFc rfl rfl rfl) rfl rfl hl.1 rfl (lv_room (Nat.le_of_ble_eq_true rfl)) dX7_oneClass_60 ⟨(show 0 + 0 ≤ 0 by omega), (show 0 + 0 ≤ 0 by omega)⟩) hS (fun q _ h => hFc q h) hFc (fun r132 u135 t H1 locs ht hvm hw hB hz1 hk1 hS => ?_)
        obtain ⟨o133, o134⟩ := u135
        obtain ⟨hP, hK9, hD⟩ := hB
        rw [ht] at hP
        have hD := hD.weaken (fun k q _ h => hFc q.1 h)
        generalize H1 = H at hP hS
        have hP : va_P (dC, dI) vwCl (rW h0 r cI cJ cZ v0 a1 (nI tp) (nI bs) (fun j => nI (cl j)) a5 a6 a7 (fun j => nI (fc j)) a9 (fun j => nI (mb j)) a11 a12 a13 a14 a15 a16 a17 a18 a19 a20 (nI az) v22 v23 v24 o133 o134 (nI bb) (fun j => nI (ct j)) (nI us) a30 a31 a32 a33 a34 a35 a36 a37 (fun j => nI (pil j)) (fun j => nI (rwv j)) (nI rl) v41 v42 v43 v44 v45) H := hP
        have hD : va_D A (rW h0 r cI cJ cZ v0 a1 (nI tp) (nI bs) (fun j => nI (cl j)) a5 a6 a7 (fun j => nI (fc j)) a9 (fun j => nI (mb j)) a11 a12 a13 a14 a15 a16 a17 a18 a19 a20 (nI az) v22 v23 v24 o133 o134 (nI bb) (fun j => nI (ct j)) (nI us) a30 a31 a32 a33 a34 a35 a36 a37 (fun j => nI (pil j)) (fun j => nI (rwv j)) (nI rl) v41 v42 v43 v44 v45) := hD
        have hw : (r132 = 0 ∨ r132 = 1) ∧ (r132 = 0) := hw
        obtain ⟨w0r132, w1r132⟩ := hw
        subst w1r132
        have hP9 : va_P (dC, dI) vwCl (rW h0 r cI cJ cZ v0 a1 (nI tp) (nI bs) (fun j => nI (cl j)) a5 a6 a7 (fun j => nI (fc j)) a9 (fun j => nI (mb j)) a11 a12 a13 a14 a15 a16 a17 a18 a19 a20 (nI az) v22 v23 v24 o133 o134 (nI bb) (fun j => nI (ct j)) (nI us) a30 a31 a32 a33 a34 a35 a36 a37 (fun j => nI (pil j)) (fun j => nI (rwv j)) (nI rl) v41 v42 v43 v44 v45) H := hP
        have hD9 : va_D A (rW h0 r cI cJ cZ v0 a1 (nI tp) (nI bs) (fun j => nI (cl j)) a5 a6 a7 (fun j => nI (fc j)) a9 (fun j => nI (mb j)) a11 a12 a13 a14 a15 a16 a17 a18 a19 a20 (nI az) v22 v23 v24 o133 o134 (nI bb) (fun j => nI (ct j)) (nI us) a30 a31 a32 a33 a34 a35 a36 a37 (fun j => nI (pil j)) (fun j => nI (rwv j)) (nI rl) v41 v42 v43 v44 v45) := hD
        exact W.zret (v := (0 : Int32)) hx hb hr rfl (fun t ht hW => ⟨⟨(0 : Int32), (az, v22, v23, v24, o133, o134, a5, a6, a7, fc, a9, a13, a14, a16, a17, a15, a18, a19, a20, mb, cl), rfl, ⟨(Or.inl rfl), (by omega), (by omega), (by first | (intro h9; exact absurd h9 (by decide)) | (intro _; omega)), (fun _ _ => rfl), (fun _ _ => rfl), hfc, (fun _ _ => rfl), (fun _ _ => rfl), hmb, hcl, (fun _ _ => rfl)⟩, by rw [ht]; exact hP9, va_K.moved hW.alike hK, hD9⟩, hS.F ht⟩) hS.2.2 dX7_oneClass_63
  refine lv_aload_n hx hb dX7_oneClass_0 rfl (lv_at hl 0 rfl) ?_
  obtain ⟨x136, hZ9⟩ := zL_5 hL
  refine va_gets hx hb hZ9 hS hown (hts (.fieldLink RX7 180 "LinkModelsModel" "FACE_WORD" "J") (by decide +kernel)) (fun _ h9 => h9) dX7_oneClass_1 ?_
  have hFc := z_freeW hD hS hA
  refine vp_callSi (W.runV (As := [.long x136]) (rest := []) ⟨hx, hb, hml, hown, hts⟩ (kX7_isWord l dC dI h0 r cI cJ cZ v0 a1 tp bs cl a5 a6 a7 fc a9 mb a11 a12 a13 a14 a15 a16 a17 a18 a19 a20 az v22 v23 v24 v25 v26 bb ct us a30 a31 a32 a33 a34 a35 a36 a37 pil rwv rl v41 v42 v43 v44 v45 ⟨by omega, by omega, by omega, hcl, hfc, hmb, hct, hpil, hrwv⟩ x136 s.heap.size) (cwV 1 hts zgX7_oneClass_X7_isWord_164 rfl rfl rfl (by decide +kernel) ⟨(show 0 + 1 ≤ 5 by omega), (show 8 + (3 + 11) + 0 ≤ 116 by omega)⟩) (zVm (ci := 6) (q0 := 0) (q := (RX7, TX7, 46)) hK hP hD hL hS.2.1 hFc rfl rfl rfl) rfl rfl hl.1 rfl (lv_room (Nat.le_of_ble_eq_true rfl)) dX7_oneClass_4 ⟨(show 0 + 0 ≤ 0 by omega), (show 0 + 0 ≤ 0 by omega)⟩) (fun r137 hw => ?_)
  have hw : (r137 = 0 ∨ r137 = 1) ∧ (r137 = 1 → v22 = 87) := hw
  obtain ⟨w0r137, w1r137⟩ := hw
  refine lv_if_eq (tgt := 14) hx hb dX7_oneClass_7 (by decide) (fun cp7 => ?_) (fun cp7 => ?_)
  · refine lv_aload_n hx hb dX7_oneClass_14 rfl (lv_at hl 0 rfl) ?_
    obtain ⟨x138, hZ9⟩ := zL_8 hL
    refine va_gets hx hb hZ9 hS hown (hts (.fieldLink RX7 189 "LinkModelsModel" "ABSTRACT_WORD" "J") (by decide +kernel)) (fun _ h9 => h9) dX7_oneClass_15 ?_
    have hFc := z_freeW hD hS hA
    refine vp_callSi (W.runV (As := [.long x138]) (rest := []) ⟨hx, hb, hml, hown, hts⟩ (kX7_isWord l dC dI h0 r cI cJ cZ v0 a1 tp bs cl a5 a6 a7 fc a9 mb a11 a12 a13 a14 a15 a16 a17 a18 a19 a20 az v22 v23 v24 v25 v26 bb ct us a30 a31 a32 a33 a34 a35 a36 a37 pil rwv rl v41 v42 v43 v44 v45 ⟨by omega, by omega, by omega, hcl, hfc, hmb, hct, hpil, hrwv⟩ x138 s.heap.size) (cwV 1 hts zgX7_oneClass_X7_isWord_164 rfl rfl rfl (by decide +kernel) ⟨(show 0 + 1 ≤ 5 by omega), (show 8 + (3 + 11) + 0 ≤ 116 by omega)⟩) (zVm (ci := 6) (q0 := 0) (q := (RX7, TX7, 46)) hK hP hD hL hS.2.1 hFc rfl rfl rfl) rfl rfl hl.1 rfl (lv_room (Nat.le_of_ble_eq_true rfl)) dX7_oneClass_18 ⟨(show 0 + 0 ≤ 0 by omega), (show 0 + 0 ≤ 0 by omega)⟩) (fun r139 hw => ?_)
    have hw : (r139 = 0 ∨ r139 = 1) ∧ (r139 = 1 → v22 = 87) := hw
    obtain ⟨w0r139, w1r139⟩ := hw
    refine lv_if_eq (tgt := 28) hx hb dX7_oneClass_21 (by decide) (fun cp21 => ?_) (fun cp21 => ?_)
    · refine lv_aload_n hx hb dX7_oneClass_28 rfl (lv_at hl 0 rfl) ?_
      obtain ⟨x140, hZ9⟩ := zL_1 hL
      refine va_gets hx hb hZ9 hS hown (hts (.fieldLink RX7 168 "LinkModelsModel" "FINAL_WORD" "J") (by decide +kernel)) (fun _ h9 => h9) dX7_oneClass_29 ?_
      have hFc := z_freeW hD hS hA
      refine vp_callSi (W.runV (As := [.long x140]) (rest := []) ⟨hx, hb, hml, hown, hts⟩ (kX7_isWord l dC dI h0 r cI cJ cZ v0 a1 tp bs cl a5 a6 a7 fc a9 mb a11 a12 a13 a14 a15 a16 a17 a18 a19 a20 az v22 v23 v24 v25 v26 bb ct us a30 a31 a32 a33 a34 a35 a36 a37 pil rwv rl v41 v42 v43 v44 v45 ⟨by omega, by omega, by omega, hcl, hfc, hmb, hct, hpil, hrwv⟩ x140 s.heap.size) (cwV 1 hts zgX7_oneClass_X7_isWord_164 rfl rfl rfl (by decide +kernel) ⟨(show 0 + 1 ≤ 5 by omega), (show 8 + (3 + 11) + 0 ≤ 116 by omega)⟩) (zVm (ci := 6) (q0 := 0) (q := (RX7, TX7, 46)) hK hP hD hL hS.2.1 hFc rfl rfl rfl) rfl rfl hl.1 rfl (lv_room (Nat.le_of_ble_eq_true rfl)) dX7_oneClass_32 ⟨(show 0 + 0 ≤ 0 by omega), (show 0 + 0 ≤ 0 by omega)⟩) (fun r141 hw => ?_)
      have hw : (r141 = 0 ∨ r141 = 1) ∧ (r141 = 1 → v22 = 87) := hw
      obtain ⟨w0r141, w1r141⟩ := hw
      refine lv_if_eq (tgt := 42) hx hb dX7_oneClass_35 (by decide) (fun cp35 => ?_) (fun cp35 => ?_)
      · refine lv_iconst (v := 0) hx hb dX7_oneClass_42 (by decide) ?_
        exact J43 (0 : Int32) _ _ ls  hP hD hS (lv_sub hl [0] rfl)
      · refine lv_iconst (v := 3) hx hb dX7_oneClass_38 (by decide) ?_
        refine lv_goto (tgt := 43) hx hb dX7_oneClass_39 (by decide) ?_
        exact J43 (3 : Int32) _ _ ls  hP hD hS (lv_sub hl [0] rfl)
    · refine lv_iconst (v := 2) hx hb dX7_oneClass_24 (by decide) ?_
      refine lv_goto (tgt := 43) hx hb dX7_oneClass_25 (by decide) ?_
      exact J43 (2 : Int32) _ _ ls  hP hD hS (lv_sub hl [0] rfl)
  · refine lv_iconst (v := 1) hx hb dX7_oneClass_10 (by decide) ?_
    refine lv_goto (tgt := 43) hx hb dX7_oneClass_11 (by decide) ?_
    exact J43 (1 : Int32) _ _ ls  hP hD hS (lv_sub hl [0] rfl)
