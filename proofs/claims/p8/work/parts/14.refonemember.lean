theorem dX7_oneMember_0 : decode cX7_oneMember 0 = .ok (.iconst 0, 1) := by decide +kernel
theorem dX7_oneMember_1 : decode cX7_oneMember 1 = .ok (.istore_n 2, 1) := by decide +kernel
theorem dX7_oneMember_2 : decode cX7_oneMember 2 = .ok (.iconst 0, 1) := by decide +kernel
theorem dX7_oneMember_3 : decode cX7_oneMember 3 = .ok (.istore_n 3, 1) := by decide +kernel
theorem dX7_oneMember_4 : decode cX7_oneMember 4 = .ok (.iconst 1, 1) := by decide +kernel
theorem dX7_oneMember_5 : decode cX7_oneMember 5 = .ok (.istore 4, 2) := by decide +kernel
theorem dX7_oneMember_7 : decode cX7_oneMember 7 = .ok (.iload 4, 2) := by decide +kernel
theorem dX7_oneMember_9 : decode cX7_oneMember 9 = .ok (.ifCond .eq 162, 3) := by decide +kernel
theorem dX7_oneMember_12 : decode cX7_oneMember 12 = .ok (.aload_n 0, 1) := by decide +kernel
theorem dX7_oneMember_13 : decode cX7_oneMember 13 = .ok (.getstatic 183, 3) := by decide +kernel
theorem dX7_oneMember_16 : decode cX7_oneMember 16 = .ok (.invokevirtual 164, 3) := by decide +kernel
theorem dX7_oneMember_19 : decode cX7_oneMember 19 = .ok (.ifCond .eq 7, 3) := by decide +kernel
theorem dX7_oneMember_22 : decode cX7_oneMember 22 = .ok (.iconst 1, 1) := by decide +kernel
theorem dX7_oneMember_23 : decode cX7_oneMember 23 = .ok (.goto 47, 3) := by decide +kernel
theorem dX7_oneMember_26 : decode cX7_oneMember 26 = .ok (.aload_n 0, 1) := by decide +kernel
theorem dX7_oneMember_27 : decode cX7_oneMember 27 = .ok (.getstatic 186, 3) := by decide +kernel
theorem dX7_oneMember_30 : decode cX7_oneMember 30 = .ok (.invokevirtual 164, 3) := by decide +kernel
theorem dX7_oneMember_33 : decode cX7_oneMember 33 = .ok (.ifCond .eq 7, 3) := by decide +kernel
theorem dX7_oneMember_36 : decode cX7_oneMember 36 = .ok (.iconst 2, 1) := by decide +kernel
theorem dX7_oneMember_37 : decode cX7_oneMember 37 = .ok (.goto 33, 3) := by decide +kernel
theorem dX7_oneMember_40 : decode cX7_oneMember 40 = .ok (.aload_n 0, 1) := by decide +kernel
theorem dX7_oneMember_41 : decode cX7_oneMember 41 = .ok (.getstatic 168, 3) := by decide +kernel
theorem dX7_oneMember_44 : decode cX7_oneMember 44 = .ok (.invokevirtual 164, 3) := by decide +kernel
theorem dX7_oneMember_47 : decode cX7_oneMember 47 = .ok (.ifCond .eq 7, 3) := by decide +kernel
theorem dX7_oneMember_50 : decode cX7_oneMember 50 = .ok (.iconst 4, 1) := by decide +kernel
theorem dX7_oneMember_51 : decode cX7_oneMember 51 = .ok (.goto 19, 3) := by decide +kernel
theorem dX7_oneMember_54 : decode cX7_oneMember 54 = .ok (.aload_n 0, 1) := by decide +kernel
theorem dX7_oneMember_55 : decode cX7_oneMember 55 = .ok (.getstatic 189, 3) := by decide +kernel
theorem dX7_oneMember_58 : decode cX7_oneMember 58 = .ok (.invokevirtual 164, 3) := by decide +kernel
theorem dX7_oneMember_61 : decode cX7_oneMember 61 = .ok (.ifCond .eq 8, 3) := by decide +kernel
theorem dX7_oneMember_64 : decode cX7_oneMember 64 = .ok (.bipush 8, 2) := by decide +kernel
theorem dX7_oneMember_66 : decode cX7_oneMember 66 = .ok (.goto 4, 3) := by decide +kernel
theorem dX7_oneMember_69 : decode cX7_oneMember 69 = .ok (.iconst 0, 1) := by decide +kernel
theorem dX7_oneMember_70 : decode cX7_oneMember 70 = .ok (.istore 5, 2) := by decide +kernel
theorem dX7_oneMember_72 : decode cX7_oneMember 72 = .ok (.iload 5, 2) := by decide +kernel
theorem dX7_oneMember_74 : decode cX7_oneMember 74 = .ok (.ifCond .ne 10, 3) := by decide +kernel
theorem dX7_oneMember_77 : decode cX7_oneMember 77 = .ok (.aload_n 0, 1) := by decide +kernel
theorem dX7_oneMember_78 : decode cX7_oneMember 78 = .ok (.invokevirtual 211, 3) := by decide +kernel
theorem dX7_oneMember_81 : decode cX7_oneMember 81 = .ok (.ifCond .eq 32, 3) := by decide +kernel
theorem dX7_oneMember_84 : decode cX7_oneMember 84 = .ok (.iload_n 2, 1) := by decide +kernel
theorem dX7_oneMember_85 : decode cX7_oneMember 85 = .ok (.iload 5, 2) := by decide +kernel
theorem dX7_oneMember_87 : decode cX7_oneMember 87 = .ok (.iand, 1) := by decide +kernel
theorem dX7_oneMember_88 : decode cX7_oneMember 88 = .ok (.ifCond .ne 25, 3) := by decide +kernel
theorem dX7_oneMember_91 : decode cX7_oneMember 91 = .ok (.iload 5, 2) := by decide +kernel
theorem dX7_oneMember_93 : decode cX7_oneMember 93 = .ok (.bipush 8, 2) := by decide +kernel
theorem dX7_oneMember_95 : decode cX7_oneMember 95 = .ok (.if_icmp .ne 7, 3) := by decide +kernel
theorem dX7_oneMember_98 : decode cX7_oneMember 98 = .ok (.iload_n 2, 1) := by decide +kernel
theorem dX7_oneMember_99 : decode cX7_oneMember 99 = .ok (.ifCond .ne 14, 3) := by decide +kernel
theorem dX7_oneMember_102 : decode cX7_oneMember 102 = .ok (.iload 5, 2) := by decide +kernel
theorem dX7_oneMember_104 : decode cX7_oneMember 104 = .ok (.ifCond .le 15, 3) := by decide +kernel
theorem dX7_oneMember_107 : decode cX7_oneMember 107 = .ok (.iload_n 2, 1) := by decide +kernel
theorem dX7_oneMember_108 : decode cX7_oneMember 108 = .ok (.bipush 8, 2) := by decide +kernel
theorem dX7_oneMember_110 : decode cX7_oneMember 110 = .ok (.if_icmp .ne 9, 3) := by decide +kernel
theorem dX7_oneMember_113 : decode cX7_oneMember 113 = .ok (.aload_n 0, 1) := by decide +kernel
theorem dX7_oneMember_114 : decode cX7_oneMember 114 = .ok (.iconst 1, 1) := by decide +kernel
theorem dX7_oneMember_115 : decode cX7_oneMember 115 = .ok (.invokevirtual 192, 3) := by decide +kernel
theorem dX7_oneMember_118 : decode cX7_oneMember 118 = .ok (.ireturn, 1) := by decide +kernel
theorem dX7_oneMember_119 : decode cX7_oneMember 119 = .ok (.iload_n 3, 1) := by decide +kernel
theorem dX7_oneMember_120 : decode cX7_oneMember 120 = .ok (.ifCond .ne 20, 3) := by decide +kernel
theorem dX7_oneMember_123 : decode cX7_oneMember 123 = .ok (.aload_n 0, 1) := by decide +kernel
theorem dX7_oneMember_124 : decode cX7_oneMember 124 = .ok (.getfield 35, 3) := by decide +kernel
theorem dX7_oneMember_127 : decode cX7_oneMember 127 = .ok (.iload_n 1, 1) := by decide +kernel
theorem dX7_oneMember_128 : decode cX7_oneMember 128 = .ok (.iaload, 1) := by decide +kernel
theorem dX7_oneMember_129 : decode cX7_oneMember 129 = .ok (.bipush 12, 2) := by decide +kernel
theorem dX7_oneMember_131 : decode cX7_oneMember 131 = .ok (.if_icmp .ne 9, 3) := by decide +kernel
theorem dX7_oneMember_134 : decode cX7_oneMember 134 = .ok (.aload_n 0, 1) := by decide +kernel
theorem dX7_oneMember_135 : decode cX7_oneMember 135 = .ok (.iconst 2, 1) := by decide +kernel
theorem dX7_oneMember_136 : decode cX7_oneMember 136 = .ok (.invokevirtual 192, 3) := by decide +kernel
theorem dX7_oneMember_139 : decode cX7_oneMember 139 = .ok (.ireturn, 1) := by decide +kernel
theorem dX7_oneMember_140 : decode cX7_oneMember 140 = .ok (.iconst 1, 1) := by decide +kernel
theorem dX7_oneMember_141 : decode cX7_oneMember 141 = .ok (.istore_n 3, 1) := by decide +kernel
theorem dX7_oneMember_142 : decode cX7_oneMember 142 = .ok (.iload 5, 2) := by decide +kernel
theorem dX7_oneMember_144 : decode cX7_oneMember 144 = .ok (.ifCond .le 7, 3) := by decide +kernel
theorem dX7_oneMember_147 : decode cX7_oneMember 147 = .ok (.iconst 1, 1) := by decide +kernel
theorem dX7_oneMember_148 : decode cX7_oneMember 148 = .ok (.goto 4, 3) := by decide +kernel
theorem dX7_oneMember_151 : decode cX7_oneMember 151 = .ok (.iconst 0, 1) := by decide +kernel
theorem dX7_oneMember_152 : decode cX7_oneMember 152 = .ok (.istore 4, 2) := by decide +kernel
theorem dX7_oneMember_154 : decode cX7_oneMember 154 = .ok (.iload_n 2, 1) := by decide +kernel
theorem dX7_oneMember_155 : decode cX7_oneMember 155 = .ok (.iload 5, 2) := by decide +kernel
theorem dX7_oneMember_157 : decode cX7_oneMember 157 = .ok (.ior, 1) := by decide +kernel
theorem dX7_oneMember_158 : decode cX7_oneMember 158 = .ok (.istore_n 2, 1) := by decide +kernel
theorem dX7_oneMember_159 : decode cX7_oneMember 159 = .ok (.iload 4, 2) := by decide +kernel
theorem dX7_oneMember_161 : decode cX7_oneMember 161 = .ok (.ifCond .eq 7, 3) := by decide +kernel
theorem dX7_oneMember_164 : decode cX7_oneMember 164 = .ok (.aload_n 0, 1) := by decide +kernel
theorem dX7_oneMember_165 : decode cX7_oneMember 165 = .ok (.invokevirtual 195, 3) := by decide +kernel
theorem dX7_oneMember_168 : decode cX7_oneMember 168 = .ok (.goto (-161), 3) := by decide +kernel
theorem dX7_oneMember_171 : decode cX7_oneMember 171 = .ok (.aload_n 0, 1) := by decide +kernel
theorem dX7_oneMember_172 : decode cX7_oneMember 172 = .ok (.invokevirtual 215, 3) := by decide +kernel
theorem dX7_oneMember_175 : decode cX7_oneMember 175 = .ok (.istore 5, 2) := by decide +kernel
theorem dX7_oneMember_177 : decode cX7_oneMember 177 = .ok (.aload_n 0, 1) := by decide +kernel
theorem dX7_oneMember_178 : decode cX7_oneMember 178 = .ok (.invokevirtual 195, 3) := by decide +kernel
theorem dX7_oneMember_181 : decode cX7_oneMember 181 = .ok (.aload_n 0, 1) := by decide +kernel
theorem dX7_oneMember_182 : decode cX7_oneMember 182 = .ok (.getfield 136, 3) := by decide +kernel
theorem dX7_oneMember_185 : decode cX7_oneMember 185 = .ok (.bipush 87, 2) := by decide +kernel
theorem dX7_oneMember_187 : decode cX7_oneMember 187 = .ok (.if_icmp .ne 10, 3) := by decide +kernel
theorem dX7_oneMember_190 : decode cX7_oneMember 190 = .ok (.aload_n 0, 1) := by decide +kernel
theorem dX7_oneMember_191 : decode cX7_oneMember 191 = .ok (.invokevirtual 218, 3) := by decide +kernel
theorem dX7_oneMember_194 : decode cX7_oneMember 194 = .ok (.ifCond .eq 9, 3) := by decide +kernel
theorem dX7_oneMember_197 : decode cX7_oneMember 197 = .ok (.aload_n 0, 1) := by decide +kernel
theorem dX7_oneMember_198 : decode cX7_oneMember 198 = .ok (.iconst 1, 1) := by decide +kernel
theorem dX7_oneMember_199 : decode cX7_oneMember 199 = .ok (.invokevirtual 192, 3) := by decide +kernel
theorem dX7_oneMember_202 : decode cX7_oneMember 202 = .ok (.ireturn, 1) := by decide +kernel
theorem dX7_oneMember_203 : decode cX7_oneMember 203 = .ok (.bipush 12, 2) := by decide +kernel
theorem dX7_oneMember_205 : decode cX7_oneMember 205 = .ok (.iload_n 1, 1) := by decide +kernel
theorem dX7_oneMember_206 : decode cX7_oneMember 206 = .ok (.imul, 1) := by decide +kernel
theorem dX7_oneMember_207 : decode cX7_oneMember 207 = .ok (.aload_n 0, 1) := by decide +kernel
theorem dX7_oneMember_208 : decode cX7_oneMember 208 = .ok (.getfield 35, 3) := by decide +kernel
theorem dX7_oneMember_211 : decode cX7_oneMember 211 = .ok (.iload_n 1, 1) := by decide +kernel
theorem dX7_oneMember_212 : decode cX7_oneMember 212 = .ok (.iaload, 1) := by decide +kernel
theorem dX7_oneMember_213 : decode cX7_oneMember 213 = .ok (.iadd, 1) := by decide +kernel
theorem dX7_oneMember_214 : decode cX7_oneMember 214 = .ok (.istore 6, 2) := by decide +kernel
theorem dX7_oneMember_216 : decode cX7_oneMember 216 = .ok (.aload_n 0, 1) := by decide +kernel
theorem dX7_oneMember_217 : decode cX7_oneMember 217 = .ok (.getfield 44, 3) := by decide +kernel
theorem dX7_oneMember_220 : decode cX7_oneMember 220 = .ok (.iload 6, 2) := by decide +kernel
theorem dX7_oneMember_222 : decode cX7_oneMember 222 = .ok (.aload_n 0, 1) := by decide +kernel
theorem dX7_oneMember_223 : decode cX7_oneMember 223 = .ok (.getfield 132, 3) := by decide +kernel
theorem dX7_oneMember_226 : decode cX7_oneMember 226 = .ok (.lastore, 1) := by decide +kernel
theorem dX7_oneMember_227 : decode cX7_oneMember 227 = .ok (.aload_n 0, 1) := by decide +kernel
theorem dX7_oneMember_228 : decode cX7_oneMember 228 = .ok (.getfield 48, 3) := by decide +kernel
theorem dX7_oneMember_231 : decode cX7_oneMember 231 = .ok (.iload 6, 2) := by decide +kernel
theorem dX7_oneMember_233 : decode cX7_oneMember 233 = .ok (.iload_n 2, 1) := by decide +kernel
theorem dX7_oneMember_234 : decode cX7_oneMember 234 = .ok (.iastore, 1) := by decide +kernel
theorem dX7_oneMember_235 : decode cX7_oneMember 235 = .ok (.aload_n 0, 1) := by decide +kernel
theorem dX7_oneMember_236 : decode cX7_oneMember 236 = .ok (.getfield 51, 3) := by decide +kernel
theorem dX7_oneMember_239 : decode cX7_oneMember 239 = .ok (.iload 6, 2) := by decide +kernel
theorem dX7_oneMember_241 : decode cX7_oneMember 241 = .ok (.iconst 0, 1) := by decide +kernel
theorem dX7_oneMember_242 : decode cX7_oneMember 242 = .ok (.bastore, 1) := by decide +kernel
theorem dX7_oneMember_243 : decode cX7_oneMember 243 = .ok (.aload_n 0, 1) := by decide +kernel
theorem dX7_oneMember_244 : decode cX7_oneMember 244 = .ok (.getfield 55, 3) := by decide +kernel
theorem dX7_oneMember_247 : decode cX7_oneMember 247 = .ok (.iload 6, 2) := by decide +kernel
theorem dX7_oneMember_249 : decode cX7_oneMember 249 = .ok (.iconst 0, 1) := by decide +kernel
theorem dX7_oneMember_250 : decode cX7_oneMember 250 = .ok (.bastore, 1) := by decide +kernel
theorem dX7_oneMember_251 : decode cX7_oneMember 251 = .ok (.aload_n 0, 1) := by decide +kernel
theorem dX7_oneMember_252 : decode cX7_oneMember 252 = .ok (.getfield 61, 3) := by decide +kernel
theorem dX7_oneMember_255 : decode cX7_oneMember 255 = .ok (.iload 6, 2) := by decide +kernel
theorem dX7_oneMember_257 : decode cX7_oneMember 257 = .ok (.iconst 0, 1) := by decide +kernel
theorem dX7_oneMember_258 : decode cX7_oneMember 258 = .ok (.iastore, 1) := by decide +kernel
theorem dX7_oneMember_259 : decode cX7_oneMember 259 = .ok (.aload_n 0, 1) := by decide +kernel
theorem dX7_oneMember_260 : decode cX7_oneMember 260 = .ok (.getfield 58, 3) := by decide +kernel
theorem dX7_oneMember_263 : decode cX7_oneMember 263 = .ok (.iload 6, 2) := by decide +kernel
theorem dX7_oneMember_265 : decode cX7_oneMember 265 = .ok (.iconst 0, 1) := by decide +kernel
theorem dX7_oneMember_266 : decode cX7_oneMember 266 = .ok (.iastore, 1) := by decide +kernel
theorem dX7_oneMember_267 : decode cX7_oneMember 267 = .ok (.aload_n 0, 1) := by decide +kernel
theorem dX7_oneMember_268 : decode cX7_oneMember 268 = .ok (.invokevirtual 195, 3) := by decide +kernel
theorem dX7_oneMember_271 : decode cX7_oneMember 271 = .ok (.aload_n 0, 1) := by decide +kernel
theorem dX7_oneMember_272 : decode cX7_oneMember 272 = .ok (.getfield 136, 3) := by decide +kernel
theorem dX7_oneMember_275 : decode cX7_oneMember 275 = .ok (.bipush 40, 2) := by decide +kernel
theorem dX7_oneMember_277 : decode cX7_oneMember 277 = .ok (.if_icmp .ne 13, 3) := by decide +kernel
theorem dX7_oneMember_280 : decode cX7_oneMember 280 = .ok (.aload_n 0, 1) := by decide +kernel
theorem dX7_oneMember_281 : decode cX7_oneMember 281 = .ok (.iload_n 1, 1) := by decide +kernel
theorem dX7_oneMember_282 : decode cX7_oneMember 282 = .ok (.iload 6, 2) := by decide +kernel
theorem dX7_oneMember_284 : decode cX7_oneMember 284 = .ok (.invokevirtual 221, 3) := by decide +kernel
theorem dX7_oneMember_287 : decode cX7_oneMember 287 = .ok (.goto 12, 3) := by decide +kernel
theorem dX7_oneMember_290 : decode cX7_oneMember 290 = .ok (.aload_n 0, 1) := by decide +kernel
theorem dX7_oneMember_291 : decode cX7_oneMember 291 = .ok (.iload_n 1, 1) := by decide +kernel
theorem dX7_oneMember_292 : decode cX7_oneMember 292 = .ok (.iload 6, 2) := by decide +kernel
theorem dX7_oneMember_294 : decode cX7_oneMember 294 = .ok (.iload 5, 2) := by decide +kernel
theorem dX7_oneMember_296 : decode cX7_oneMember 296 = .ok (.invokevirtual 225, 3) := by decide +kernel
theorem dX7_oneMember_299 : decode cX7_oneMember 299 = .ok (.istore 7, 2) := by decide +kernel
theorem dX7_oneMember_301 : decode cX7_oneMember 301 = .ok (.iload 7, 2) := by decide +kernel
theorem dX7_oneMember_303 : decode cX7_oneMember 303 = .ok (.ifCond .eq 12, 3) := by decide +kernel
theorem dX7_oneMember_306 : decode cX7_oneMember 306 = .ok (.aload_n 0, 1) := by decide +kernel
theorem dX7_oneMember_307 : decode cX7_oneMember 307 = .ok (.bipush 59, 2) := by decide +kernel
theorem dX7_oneMember_309 : decode cX7_oneMember 309 = .ok (.invokevirtual 205, 3) := by decide +kernel
theorem dX7_oneMember_312 : decode cX7_oneMember 312 = .ok (.ifCond .ne 5, 3) := by decide +kernel
theorem dX7_oneMember_315 : decode cX7_oneMember 315 = .ok (.iconst 0, 1) := by decide +kernel
theorem dX7_oneMember_316 : decode cX7_oneMember 316 = .ok (.ireturn, 1) := by decide +kernel
theorem dX7_oneMember_317 : decode cX7_oneMember 317 = .ok (.aload_n 0, 1) := by decide +kernel
theorem dX7_oneMember_318 : decode cX7_oneMember 318 = .ok (.getfield 35, 3) := by decide +kernel
theorem dX7_oneMember_321 : decode cX7_oneMember 321 = .ok (.iload_n 1, 1) := by decide +kernel
theorem dX7_oneMember_322 : decode cX7_oneMember 322 = .ok (.dup2, 1) := by decide +kernel
theorem dX7_oneMember_323 : decode cX7_oneMember 323 = .ok (.iaload, 1) := by decide +kernel
theorem dX7_oneMember_324 : decode cX7_oneMember 324 = .ok (.iconst 1, 1) := by decide +kernel
theorem dX7_oneMember_325 : decode cX7_oneMember 325 = .ok (.iadd, 1) := by decide +kernel
theorem dX7_oneMember_326 : decode cX7_oneMember 326 = .ok (.iastore, 1) := by decide +kernel
theorem dX7_oneMember_327 : decode cX7_oneMember 327 = .ok (.iconst 1, 1) := by decide +kernel
theorem dX7_oneMember_328 : decode cX7_oneMember 328 = .ok (.ireturn, 1) := by decide +kernel
def zwX7_oneMember : List Cond := .code yX7_oneMember cX7_oneMember 8 (some .boolean) :: ([.fieldLink RX7 35 "LinkModelsModel" "members" "[I", .fieldLink RX7 136 "LinkModelsModel" "token" "I", .fieldLink RX7 44 "LinkModelsModel" "word" "[J", .fieldLink RX7 132 "LinkModelsModel" "value" "J", .fieldLink RX7 48 "LinkModelsModel" "marks" "[I", .fieldLink RX7 51 "LinkModelsModel" "isMethod" "[Z", .fieldLink RX7 55 "LinkModelsModel" "isConstant" "[Z", .fieldLink RX7 61 "LinkModelsModel" "many" "[I", .fieldLink RX7 58 "LinkModelsModel" "number" "[I", .fieldLink RX7 183 "LinkModelsModel" "STATIC_WORD" "J", .fieldLink RX7 186 "LinkModelsModel" "HIDDEN_WORD" "J", .fieldLink RX7 168 "LinkModelsModel" "FINAL_WORD" "J", .fieldLink RX7 189 "LinkModelsModel" "ABSTRACT_WORD" "J", .methodLink RX7 205 yX7_takes, .instanceMethod yX7_takes, .selects RX7 yX7_takes yX7_takes, .initialized RX7, .code yX7_takes cX7_takes 2 (some .boolean), .methodLink RX7 195 yX7_next, .instanceMethod yX7_next, .selects RX7 yX7_next yX7_next, .code yX7_next cX7_next 2 none, .fieldLink RX7 126 "LinkModelsModel" "at" "I", .fieldLink RX7 129 "LinkModelsModel" "tokenAt" "I", .fieldLink RX7 109 "LinkModelsModel" "taped" "I", .constantLong RX7 153 (10), .constantLong RX7 118 (48), .fieldLink RX7 13 "LinkModelsModel" "tape" "[I", .methodLink RX7 139 yX7_here, .instanceMethod yX7_here, .selects RX7 yX7_here yX7_here, .code yX7_here cX7_here 1 (some .int), .methodLink RX7 143 yX7_isBig, .static yX7_isBig, .code yX7_isBig cX7_isBig 1 (some .boolean), .constantLong RX7 114 (65), .constantLong RX7 116 (90), .methodLink RX7 105 yX7_in, .static yX7_in, .code yX7_in cX7_in 6 (some .boolean), .methodLink RX7 147 yX7_isDigit, .static yX7_isDigit, .code yX7_isDigit cX7_isDigit 1 (some .boolean), .constantLong RX7 120 (57), .methodLink RX7 150 yX7_isSmall, .static yX7_isSmall, .code yX7_isSmall cX7_isSmall 1 (some .boolean), .constantLong RX7 122 (97), .constantLong RX7 124 (122), .methodLink RX7 192 yX7_fails, .instanceMethod yX7_fails, .selects RX7 yX7_fails yX7_fails, .code yX7_fails cX7_fails 2 (some .boolean), .fieldLink RX7 155 "LinkModelsModel" "fault" "I", .fieldLink RX7 158 "LinkModelsModel" "faultAt" "I", .methodLink RX7 211 yX7_isType, .instanceMethod yX7_isType, .selects RX7 yX7_isType yX7_isType, .code yX7_isType cX7_isType 1 (some .boolean), .fieldLink RX7 171 "LinkModelsModel" "INT" "J", .fieldLink RX7 174 "LinkModelsModel" "LONG" "J", .fieldLink RX7 177 "LinkModelsModel" "VOID" "J", .methodLink RX7 164 yX7_isWord, .instanceMethod yX7_isWord, .selects RX7 yX7_isWord yX7_isWord, .code yX7_isWord cX7_isWord 3 (some .boolean), .methodLink RX7 215 yX7_typeNow, .instanceMethod yX7_typeNow, .selects RX7 yX7_typeNow yX7_typeNow, .code yX7_typeNow cX7_typeNow 1 (some .int), .methodLink RX7 218 yX7_isKept, .instanceMethod yX7_isKept, .selects RX7 yX7_isKept yX7_isKept, .code yX7_isKept cX7_isKept 1 (some .boolean), .fieldLink RX7 161 "LinkModelsModel" "CLASS" "J", .fieldLink RX7 180 "LinkModelsModel" "FACE_WORD" "J", .methodLink RX7 225 yX7_field, .instanceMethod yX7_field, .selects RX7 yX7_field yX7_field, .code yX7_field cX7_field 4 (some .boolean), .methodLink RX7 229 yX7_isThere, .instanceMethod yX7_isThere, .selects RX7 yX7_isThere yX7_isThere, .code yX7_isThere cX7_isThere 5 (some .boolean), .fieldLink RX7 67 "LinkModelsModel" "second" "[I", .fieldLink RX7 64 "LinkModelsModel" "first" "[I", .methodLink RX7 221 yX7_method, .instanceMethod yX7_method, .selects RX7 yX7_method yX7_method, .code yX7_method cX7_method 4 (some .boolean)] ++ wsX70)
theorem zgX7_oneMember_X7_takes_205 : GoodIn zwX7_oneMember (wsV RX7 205 RX7 yX7_takes zwX7_takes) := goodIn_app (goodIn_of _ (by decide +kernel)) (goodIn_ca (goodIn_of _ (by decide +kernel)) (zgt zg7))
theorem zgX7_oneMember_X7_next_195 : GoodIn zwX7_oneMember (wsV RX7 195 RX7 yX7_next zwX7_next) := goodIn_app (goodIn_of _ (by decide +kernel)) (goodIn_ca (goodIn_of _ (by decide +kernel)) (zgt zg7))
theorem zgX7_oneMember_X7_fails_192 : GoodIn zwX7_oneMember (wsV RX7 192 RX7 yX7_fails zwX7_fails) := goodIn_app (goodIn_of _ (by decide +kernel)) (goodIn_ca (goodIn_of _ (by decide +kernel)) (zgt zg7))
theorem zgX7_oneMember_X7_isType_211 : GoodIn zwX7_oneMember (wsV RX7 211 RX7 yX7_isType zwX7_isType) := goodIn_app (goodIn_of _ (by decide +kernel)) (goodIn_ca (goodIn_of _ (by decide +kernel)) (zgt zg7))
theorem zgX7_oneMember_X7_typeNow_215 : GoodIn zwX7_oneMember (wsV RX7 215 RX7 yX7_typeNow zwX7_typeNow) := goodIn_app (goodIn_of _ (by decide +kernel)) (goodIn_ca (goodIn_of _ (by decide +kernel)) (zgt zg7))
theorem zgX7_oneMember_X7_isKept_218 : GoodIn zwX7_oneMember (wsV RX7 218 RX7 yX7_isKept zwX7_isKept) := goodIn_app (goodIn_of _ (by decide +kernel)) (goodIn_ca (goodIn_of _ (by decide +kernel)) (zgt zg7))
theorem zgX7_oneMember_X7_field_225 : GoodIn zwX7_oneMember (wsV RX7 225 RX7 yX7_field zwX7_field) := goodIn_app (goodIn_of _ (by decide +kernel)) (goodIn_ca (goodIn_of _ (by decide +kernel)) (zgt zg7))
theorem zgX7_oneMember_X7_method_221 : GoodIn zwX7_oneMember (wsV RX7 221 RX7 yX7_method zwX7_method) := goodIn_app (goodIn_of _ (by decide +kernel)) (goodIn_ca (goodIn_of _ (by decide +kernel)) (zgt zg7))
theorem zgX7_oneMember_X7_isWord_164 : GoodIn zwX7_oneMember (wsV RX7 164 RX7 yX7_isWord zwX7_isWord) := goodIn_app (goodIn_of _ (by decide +kernel)) (goodIn_ca (goodIn_of _ (by decide +kernel)) (zgt zg7))
set_option maxHeartbeats 4000000 in
set_option maxRecDepth 100000 in
theorem kX7_oneMember (l : Launch) (dC : Nat → ClassId) (dI : Nat → Nat → Nat) (h0 : Nat) (r : Nat → Nat) (cI : ClassId) (cJ : ClassId) (cZ : ClassId) (v0 : Int32) (a1 : Nat → Int32) (tp : Nat) (bs : Nat) (cl : Nat → Nat) (a5 : Nat → Int32) (a6 : Nat → Int32) (a7 : Nat → Int32) (fc : Nat → Nat) (a9 : Nat → Int32) (mb : Nat → Nat) (a11 : Nat → Int32) (a12 : Nat → Int32) (a13 : Nat → Int64) (a14 : Nat → Int32) (a15 : Nat → Int32) (a16 : Nat → Int32) (a17 : Nat → Int32) (a18 : Nat → Int32) (a19 : Nat → Int32) (a20 : Nat → Int32) (az : Nat) (v22 : Int32) (v23 : Int32) (v24 : Int64) (v25 : Int32) (v26 : Int32) (bb : Nat) (ct : Nat → Nat) (us : Nat) (a30 : Nat → Int32) (a31 : Nat → Int32) (a32 : Nat → Int32) (a33 : Nat → Int64) (a34 : Nat → Int32) (a35 : Nat → Int32) (a36 : Nat → Int32) (a37 : Nat → Int32) (pil : Nat → Nat) (rwv : Nat → Nat) (rl : Nat) (v41 : Int32) (v42 : Int32) (v43 : Int32) (v44 : Int32) (v45 : Int32) (hI : rWI tp bs cl fc mb az bb ct us pil rwv rl) (ci : Nat) (hp0 : ci < 80) (hp1 : az ≤ tp) (sz : Nat) : Met l yX7_oneMember zwX7_oneMember ({ frames := 4, cells := 0, slots := 0, locals := 89 }) (zPm dC dI [.ref h0, .int (nI ci)] sz (rW h0 r cI cJ cZ v0 a1 (nI tp) (nI bs) (fun j => nI (cl j)) a5 a6 a7 (fun j => nI (fc j)) a9 (fun j => nI (mb j)) a11 a12 a13 a14 a15 a16 a17 a18 a19 a20 (nI az) v22 v23 v24 v25 v26 (nI bb) (fun j => nI (ct j)) (nI us) a30 a31 a32 a33 a34 a35 a36 a37 (fun j => nI (pil j)) (fun j => nI (rwv j)) (nI rl) v41 v42 v43 v44 v45) [(cI, .int), (cJ, .long), (cZ, .boolean)]) (va_Qi (fun (r : Int32) (u : Nat × Int32 × Int32 × Int64 × Int32 × Int32 × (Nat → Int64) × (Nat → Int32) × (Nat → Int32) × (Nat → Int32) × (Nat → Int32) × (Nat → Int32) × (Nat → Int32) × (Nat → Int32) × (Nat → Nat)) => (r = 0 ∨ r = 1) ∧ (az ≤ (u.1)) ∧ ((u.1) ≤ tp) ∧ (r = 1 → az < (u.1)) ∧ (∀ j, (u.2.2.2.2.2.2.2.2.2.2.2.2.2.2) j ≤ 12)) (fun u t => zB dC dI (va_A (rW h0 r cI cJ cZ v0 a1 (nI tp) (nI bs) (fun j => nI (cl j)) a5 a6 a7 (fun j => nI (fc j)) a9 (fun j => nI (mb j)) a11 a12 a13 a14 a15 a16 a17 a18 a19 a20 (nI az) v22 v23 v24 v25 v26 (nI bb) (fun j => nI (ct j)) (nI us) a30 a31 a32 a33 a34 a35 a36 a37 (fun j => nI (pil j)) (fun j => nI (rwv j)) (nI rl) v41 v42 v43 v44 v45) sz) (rW h0 r cI cJ cZ v0 a1 (nI tp) (nI bs) (fun j => nI (cl j)) a5 a6 a7 (fun j => nI (fc j)) a9 (fun j => nI ((u.2.2.2.2.2.2.2.2.2.2.2.2.2.2) j)) a11 a12 (u.2.2.2.2.2.2.1) (u.2.2.2.2.2.2.2.1) (u.2.2.2.2.2.2.2.2.2.2.1) (u.2.2.2.2.2.2.2.2.1) (u.2.2.2.2.2.2.2.2.2.1) (u.2.2.2.2.2.2.2.2.2.2.2.1) (u.2.2.2.2.2.2.2.2.2.2.2.2.1) (u.2.2.2.2.2.2.2.2.2.2.2.2.2.1) (nI (u.1)) (u.2.1) (u.2.2.1) (u.2.2.2.1) (u.2.2.2.2.1) (u.2.2.2.2.2.1) (nI bb) (fun j => nI (ct j)) (nI us) a30 a31 a32 a33 a34 a35 a36 a37 (fun j => nI (pil j)) (fun j => nI (rwv j)) (nI rl) v41 v42 v43 v44 v45) [(cI, .int), (cJ, .long), (cZ, .boolean)] t) (va_A (rW h0 r cI cJ cZ v0 a1 (nI tp) (nI bs) (fun j => nI (cl j)) a5 a6 a7 (fun j => nI (fc j)) a9 (fun j => nI (mb j)) a11 a12 a13 a14 a15 a16 a17 a18 a19 a20 (nI az) v22 v23 v24 v25 v26 (nI bb) (fun j => nI (ct j)) (nI us) a30 a31 a32 a33 a34 a35 a36 a37 (fun j => nI (pil j)) (fun j => nI (rwv j)) (nI rl) v41 v42 v43 v44 v45) sz)) 0 0 (va_A (rW h0 r cI cJ cZ v0 a1 (nI tp) (nI bs) (fun j => nI (cl j)) a5 a6 a7 (fun j => nI (fc j)) a9 (fun j => nI (mb j)) a11 a12 a13 a14 a15 a16 a17 a18 a19 a20 (nI az) v22 v23 v24 v25 v26 (nI bb) (fun j => nI (ct j)) (nI us) a30 a31 a32 a33 a34 a35 a36 a37 (fun j => nI (pil j)) (fun j => nI (rwv j)) (nI rl) v41 v42 v43 v44 v45) sz) := by
  refine Met.ofW (cc := cX7_oneMember) (maxL := 8) (ret := (some .boolean)) (by decide) rfl ?_
  intro p e s m args below meth c s₁ B hml hv
  obtain ⟨rfl, hsz, hP, hK, hD0, hL0⟩ := hv
  have hx := B.exec
  have hb := B.bytes
  have hr := B.returns
  have hts := atoms_spec (ws := zwX7_oneMember) B.pre
  have hown : s.vm.findClass RX7 = some m.cls := findClass_of_methodNamed B.named
  have hiX7 : ∀ w ∈ wsX70, w ∈ zwX7_oneMember := (fun _ h => List.mem_cons_of_mem _ (List.mem_append_right _ h))
  obtain ⟨htp, hbs, hus, hcl, hfc, hmb, hct, hpil, hrwv⟩ := hI
  subst hsz
  have hD := hD0.self (sz := s.heap.size)
  generalize hAe : va_A (rW h0 r cI cJ cZ v0 a1 (nI tp) (nI bs) (fun j => nI (cl j)) a5 a6 a7 (fun j => nI (fc j)) a9 (fun j => nI (mb j)) a11 a12 a13 a14 a15 a16 a17 a18 a19 a20 (nI az) v22 v23 v24 v25 v26 (nI bb) (fun j => nI (ct j)) (nI us) a30 a31 a32 a33 a34 a35 a36 a37 (fun j => nI (pil j)) (fun j => nI (rwv j)) (nI rl) v41 v42 v43 v44 v45) s.heap.size = A at hD hL0 ⊢
  have hA : ∀ q : Nat, s.heap.size ≤ q → A q := fun q h => by rw [← hAe]; exact Or.inr h
  have hS : va_S A s.heap s.heap [] := va_S.rf
  have hL := hL0
  have hl := lv_entry ([.ref h0, .int (nI ci)]) (n := 8) (Nat.le_of_ble_eq_true rfl)
  rw [lg_entry_eq]
  generalize (lg_sl ([.ref h0, .int (nI ci)]) ++ List.replicate (8 - (lg_sl ([.ref h0, .int (nI ci)])).length) Slot.unset).toArray = ls at hl ⊢
  have hl : lv_has ls 8 [(0, .ref h0), (1, .int (nI ci))] := hl
  have J299 : ∀ (gd : Int32) (i2 : Nat) (tk : Int32) (ta : Int32) (vl : Int64) (fo : Int32) (fp : Int32) (b7 : Nat → Int64) (b8 : Nat → Int32) (b1 : Nat → Int32) (b2 : Nat → Int32) (b3 : Nat → Int32) (b4 : Nat → Int32) (b5 : Nat → Int32) (b6 : Nat → Int32) (H : Heap) (locs : List Loc) (ls : Array Slot), (az < i2) → (i2 ≤ tp) → (mb ci ≤ 11) → va_P (dC, dI) vwCl (rW h0 r cI cJ cZ v0 a1 (nI tp) (nI bs) (fun j => nI (cl j)) a5 a6 a7 (fun j => nI (fc j)) a9 (fun j => nI (mb j)) a11 a12 b7 b8 b3 b1 b2 b4 b5 b6 (nI i2) tk ta vl fo fp (nI bb) (fun j => nI (ct j)) (nI us) a30 a31 a32 a33 a34 a35 a36 a37 (fun j => nI (pil j)) (fun j => nI (rwv j)) (nI rl) v41 v42 v43 v44 v45) H → va_D A (rW h0 r cI cJ cZ v0 a1 (nI tp) (nI bs) (fun j => nI (cl j)) a5 a6 a7 (fun j => nI (fc j)) a9 (fun j => nI (mb j)) a11 a12 b7 b8 b3 b1 b2 b4 b5 b6 (nI i2) tk ta vl fo fp (nI bb) (fun j => nI (ct j)) (nI us) a30 a31 a32 a33 a34 a35 a36 a37 (fun j => nI (pil j)) (fun j => nI (rwv j)) (nI rl) v41 v42 v43 v44 v45) → va_S A s.heap H locs → lv_has ls 8 [(0, .ref h0), (1, .int (nI ci))] → W p l e (headSpec zwX7_oneMember { frames := 4, cells := 0, slots := 0, locals := 89 }).room s m (([.ref h0, .int (nI ci)] : List Value).toArray) below meth c H locs 0 0 (MQ below (va_Qi (fun (r : Int32) (u : Nat × Int32 × Int32 × Int64 × Int32 × Int32 × (Nat → Int64) × (Nat → Int32) × (Nat → Int32) × (Nat → Int32) × (Nat → Int32) × (Nat → Int32) × (Nat → Int32) × (Nat → Int32) × (Nat → Nat)) => (r = 0 ∨ r = 1) ∧ (az ≤ (u.1)) ∧ ((u.1) ≤ tp) ∧ (r = 1 → az < (u.1)) ∧ (∀ j, (u.2.2.2.2.2.2.2.2.2.2.2.2.2.2) j ≤ 12)) (fun u t => zB dC dI (A) (rW h0 r cI cJ cZ v0 a1 (nI tp) (nI bs) (fun j => nI (cl j)) a5 a6 a7 (fun j => nI (fc j)) a9 (fun j => nI ((u.2.2.2.2.2.2.2.2.2.2.2.2.2.2) j)) a11 a12 (u.2.2.2.2.2.2.1) (u.2.2.2.2.2.2.2.1) (u.2.2.2.2.2.2.2.2.2.2.1) (u.2.2.2.2.2.2.2.2.1) (u.2.2.2.2.2.2.2.2.2.1) (u.2.2.2.2.2.2.2.2.2.2.2.1) (u.2.2.2.2.2.2.2.2.2.2.2.2.1) (u.2.2.2.2.2.2.2.2.2.2.2.2.2.1) (nI (u.1)) (u.2.1) (u.2.2.1) (u.2.2.2.1) (u.2.2.2.2.1) (u.2.2.2.2.2.1) (nI bb) (fun j => nI (ct j)) (nI us) a30 a31 a32 a33 a34 a35 a36 a37 (fun j => nI (pil j)) (fun j => nI (rwv j)) (nI rl) v41 v42 v43 v44 v45) [(cI, .int), (cJ, .long), (cZ, .boolean)] t) (A)) (([.ref h0, .int (nI ci)] : List Value).toArray) s 0 0 A) (F0 m 299 ls [.int gd]) := by
    intro gd i2 tk ta vl fo fp b7 b8 b1 b2 b3 b4 b5 b6 H locs ls i299_0 i299_1 i299_2 hP hD hS hl
    refine lv_istore (lv' := [(7, .int gd), (0, .ref h0), (1, .int (nI ci))]) hx hb dX7_oneMember_299 hl (by decide) rfl (fun ls hl => ?_)
    refine lv_iload hx hb dX7_oneMember_301 (lv_at hl 0 rfl) ?_
    refine lv_if_eq (tgt := 315) hx hb dX7_oneMember_303 (by decide) (fun cp303 => ?_) (fun cp303 => ?_)
    · refine lv_iconst (v := 0) hx hb dX7_oneMember_315 (by decide) ?_
      have hP9 : va_P (dC, dI) vwCl (rW h0 r cI cJ cZ v0 a1 (nI tp) (nI bs) (fun j => nI (cl j)) a5 a6 a7 (fun j => nI (fc j)) a9 (fun j => nI (mb j)) a11 a12 b7 b8 b3 b1 b2 b4 b5 b6 (nI i2) tk ta vl fo fp (nI bb) (fun j => nI (ct j)) (nI us) a30 a31 a32 a33 a34 a35 a36 a37 (fun j => nI (pil j)) (fun j => nI (rwv j)) (nI rl) v41 v42 v43 v44 v45) H := hP
      have hD9 : va_D A (rW h0 r cI cJ cZ v0 a1 (nI tp) (nI bs) (fun j => nI (cl j)) a5 a6 a7 (fun j => nI (fc j)) a9 (fun j => nI (mb j)) a11 a12 b7 b8 b3 b1 b2 b4 b5 b6 (nI i2) tk ta vl fo fp (nI bb) (fun j => nI (ct j)) (nI us) a30 a31 a32 a33 a34 a35 a36 a37 (fun j => nI (pil j)) (fun j => nI (rwv j)) (nI rl) v41 v42 v43 v44 v45) := hD
      exact W.zret (v := (0 : Int32)) hx hb hr rfl (fun t ht hW => ⟨⟨(0 : Int32), (i2, tk, ta, vl, fo, fp, b7, b8, b1, b2, b3, b4, b5, b6, mb), rfl, ⟨(Or.inl rfl), (by omega), (by omega), (by first | (intro h9; exact absurd h9 (by decide)) | (intro _; omega)), hmb⟩, by rw [ht]; exact hP9, va_K.moved hW.alike hK, hD9⟩, hS.F ht⟩) hS.2.2 dX7_oneMember_316
    · refine lv_aload_n hx hb dX7_oneMember_306 rfl (lv_at hl 1 rfl) ?_
      refine lv_bipush (v := 59) hx hb dX7_oneMember_307 (by decide) ?_
      have hFc := z_freeW hD hS hA
      refine va_calli (va_runV (As := [.int 59]) (rest := []) ⟨hx, hb, hml, hown, hts⟩ (kX7_takes l dC dI h0 r cI cJ cZ v0 a1 tp bs cl a5 a6 a7 fc a9 mb a11 a12 b7 b8 b3 b1 b2 b4 b5 b6 i2 tk ta vl fo fp bb ct us a30 a31 a32 a33 a34 a35 a36 a37 pil rwv rl v41 v42 v43 v44 v45 ⟨by omega, by omega, by omega, hcl, hfc, hmb, hct, hpil, hrwv⟩ (59 : Int32) (by first | omega | assumption | trivial) H.size) (cwV 1 hts zgX7_oneMember_X7_takes_205 rfl rfl rfl (by decide +kernel) ⟨(show 3 + 1 ≤ 4 by omega), (show 8 + (2 + 11) + 66 ≤ 89 by omega)⟩) (zVm (ci := 6) (q0 := 0) (q := (RX7, TX7, 46)) hK hP hD hL hS.2.1 hFc rfl rfl rfl) rfl rfl hl.1 rfl (lv_room (Nat.le_of_ble_eq_true rfl)) dX7_oneMember_309 ⟨(show 0 + 0 ≤ 0 by omega), (show 0 + 0 ≤ 0 by omega)⟩) hS (fun q _ h => hFc q h) hFc (fun r1 u8 t H1 locs ht hvm hw hB hz1 hk1 hS => ?_)
      obtain ⟨o2, o3, o4, o5, o6, o7⟩ := u8
      obtain ⟨hP, hK9, hD⟩ := hB
      rw [ht] at hP
      have hD := hD.weaken (fun k q _ h => hFc q.1 h)
      generalize H1 = H at hP hS
      have hP : va_P (dC, dI) vwCl (rW h0 r cI cJ cZ v0 a1 (nI tp) (nI bs) (fun j => nI (cl j)) a5 a6 a7 (fun j => nI (fc j)) a9 (fun j => nI (mb j)) a11 a12 b7 b8 b3 b1 b2 b4 b5 b6 (nI o2) o3 o4 o5 o6 o7 (nI bb) (fun j => nI (ct j)) (nI us) a30 a31 a32 a33 a34 a35 a36 a37 (fun j => nI (pil j)) (fun j => nI (rwv j)) (nI rl) v41 v42 v43 v44 v45) H := hP
      have hD : va_D A (rW h0 r cI cJ cZ v0 a1 (nI tp) (nI bs) (fun j => nI (cl j)) a5 a6 a7 (fun j => nI (fc j)) a9 (fun j => nI (mb j)) a11 a12 b7 b8 b3 b1 b2 b4 b5 b6 (nI o2) o3 o4 o5 o6 o7 (nI bb) (fun j => nI (ct j)) (nI us) a30 a31 a32 a33 a34 a35 a36 a37 (fun j => nI (pil j)) (fun j => nI (rwv j)) (nI rl) v41 v42 v43 v44 v45) := hD
      have hw : (r1 = 0 ∨ r1 = 1) ∧ (i2 ≤ o2) ∧ (o2 ≤ tp) ∧ (¬ o3 = 0 → r1 = 1 → i2 < o2) := hw
      obtain ⟨w0r1, w1r1, w2r1, w3r1⟩ := hw
      refine lv_if_ne (tgt := 317) hx hb dX7_oneMember_312 (by decide) (fun cp312 => ?_) (fun cp312 => ?_)
      · refine lv_aload_n hx hb dX7_oneMember_317 rfl (lv_at hl 1 rfl) ?_
        refine va_get (D := (dC, dI)) (ci := 6) (v := .ref (r 10)) (C := RX7) (T := TX7) (N := 46) hx hb hts hiX7 hown hK hP 0 rfl rfl 10 (by decide) (hts (.fieldLink RX7 35 "LinkModelsModel" "members" "[I") (by decide +kernel)) (fun _ h9 => h9) rfl dX7_oneMember_318 ?_
        refine lv_iload_n hx hb dX7_oneMember_321 rfl (lv_at hl 2 rfl) ?_
        refine lv_dup2_11 hx hb dX7_oneMember_322 rfl rfl ?_
        refine va_iald hx hb hK hP 8 0 rfl rfl (vp_in_nI (show ci < 80 by omega) (by decide)) dX7_oneMember_323 ?_
        refine lv_topi (fun x9 ex9 => ?_)
        obtain rfl : x9 = nI (mb ci) := by rw [ex9, nI_clamp (show ci < 2 ^ 31 by omega)]
        have hqx9 := hmb ci
        refine lv_iconst (v := 1) hx hb dX7_oneMember_324 (by decide) ?_
        refine lv_iadd hx hb dX7_oneMember_325 ?_
        refine lv_topi (fun x10 ex10 => ?_)
        obtain rfl : x10 = nI ((mb ci) + 1) := by rw [ex10]; exact nI_add (mb ci) (1)
        refine va_iast hx hb hK hP hD hS 8 0 rfl rfl (vp_in_nI (show ci < 80 by omega) (by decide)) dX7_oneMember_326 (fun H locs hP hD hS => ?_)
        obtain ⟨f11, ef11⟩ : ∃ g, g = z_up mb ci ((mb ci) + 1) := ⟨_, rfl⟩
        have hP : va_P (dC, dI) vwCl (rW h0 r cI cJ cZ v0 a1 (nI tp) (nI bs) (fun j => nI (cl j)) a5 a6 a7 (fun j => nI (fc j)) a9 (fun j => nI (f11 j)) a11 a12 b7 b8 b3 b1 b2 b4 b5 b6 (nI o2) o3 o4 o5 o6 o7 (nI bb) (fun j => nI (ct j)) (nI us) a30 a31 a32 a33 a34 a35 a36 a37 (fun j => nI (pil j)) (fun j => nI (rwv j)) (nI rl) v41 v42 v43 v44 v45) H := by rw [ef11, ← z_upd (show ci < 2 ^ 31 by omega)]; exact hP
        have hD : va_D A (rW h0 r cI cJ cZ v0 a1 (nI tp) (nI bs) (fun j => nI (cl j)) a5 a6 a7 (fun j => nI (fc j)) a9 (fun j => nI (f11 j)) a11 a12 b7 b8 b3 b1 b2 b4 b5 b6 (nI o2) o3 o4 o5 o6 o7 (nI bb) (fun j => nI (ct j)) (nI us) a30 a31 a32 a33 a34 a35 a36 a37 (fun j => nI (pil j)) (fun j => nI (rwv j)) (nI rl) v41 v42 v43 v44 v45) := by rw [ef11, ← z_upd (show ci < 2 ^ 31 by omega)]; exact hD
        have hbf11 : ∀ j, f11 j ≤ 12 := by rw [ef11]; exact z_upb hmb (by omega)
        refine lv_iconst (v := 1) hx hb dX7_oneMember_327 (by decide) ?_
        have hP9 : va_P (dC, dI) vwCl (rW h0 r cI cJ cZ v0 a1 (nI tp) (nI bs) (fun j => nI (cl j)) a5 a6 a7 (fun j => nI (fc j)) a9 (fun j => nI (f11 j)) a11 a12 b7 b8 b3 b1 b2 b4 b5 b6 (nI o2) o3 o4 o5 o6 o7 (nI bb) (fun j => nI (ct j)) (nI us) a30 a31 a32 a33 a34 a35 a36 a37 (fun j => nI (pil j)) (fun j => nI (rwv j)) (nI rl) v41 v42 v43 v44 v45) H := hP
        have hD9 : va_D A (rW h0 r cI cJ cZ v0 a1 (nI tp) (nI bs) (fun j => nI (cl j)) a5 a6 a7 (fun j => nI (fc j)) a9 (fun j => nI (f11 j)) a11 a12 b7 b8 b3 b1 b2 b4 b5 b6 (nI o2) o3 o4 o5 o6 o7 (nI bb) (fun j => nI (ct j)) (nI us) a30 a31 a32 a33 a34 a35 a36 a37 (fun j => nI (pil j)) (fun j => nI (rwv j)) (nI rl) v41 v42 v43 v44 v45) := hD
        exact W.zret (v := (1 : Int32)) hx hb hr rfl (fun t ht hW => ⟨⟨(1 : Int32), (o2, o3, o4, o5, o6, o7, b7, b8, b1, b2, b3, b4, b5, b6, f11), rfl, ⟨(Or.inr rfl), (by omega), (by omega), (by first | (intro h9; exact absurd h9 (by decide)) | (intro _; omega)), hbf11⟩, by rw [ht]; exact hP9, va_K.moved hW.alike hK, hD9⟩, hS.F ht⟩) hS.2.2 dX7_oneMember_328
      · refine lv_iconst (v := 0) hx hb dX7_oneMember_315 (by decide) ?_
        have hP9 : va_P (dC, dI) vwCl (rW h0 r cI cJ cZ v0 a1 (nI tp) (nI bs) (fun j => nI (cl j)) a5 a6 a7 (fun j => nI (fc j)) a9 (fun j => nI (mb j)) a11 a12 b7 b8 b3 b1 b2 b4 b5 b6 (nI o2) o3 o4 o5 o6 o7 (nI bb) (fun j => nI (ct j)) (nI us) a30 a31 a32 a33 a34 a35 a36 a37 (fun j => nI (pil j)) (fun j => nI (rwv j)) (nI rl) v41 v42 v43 v44 v45) H := hP
        have hD9 : va_D A (rW h0 r cI cJ cZ v0 a1 (nI tp) (nI bs) (fun j => nI (cl j)) a5 a6 a7 (fun j => nI (fc j)) a9 (fun j => nI (mb j)) a11 a12 b7 b8 b3 b1 b2 b4 b5 b6 (nI o2) o3 o4 o5 o6 o7 (nI bb) (fun j => nI (ct j)) (nI us) a30 a31 a32 a33 a34 a35 a36 a37 (fun j => nI (pil j)) (fun j => nI (rwv j)) (nI rl) v41 v42 v43 v44 v45) := hD
        exact W.zret (v := (0 : Int32)) hx hb hr rfl (fun t ht hW => ⟨⟨(0 : Int32), (o2, o3, o4, o5, o6, o7, b7, b8, b1, b2, b3, b4, b5, b6, mb), rfl, ⟨(Or.inl rfl), (by omega), (by omega), (by first | (intro h9; exact absurd h9 (by decide)) | (intro _; omega)), hmb⟩, by rw [ht]; exact hP9, va_K.moved hW.alike hK, hD9⟩, hS.F ht⟩) hS.2.2 dX7_oneMember_316
  have J7 : ∀ (z7 : Nat) (tz : Nat) (al : Int32) (bg : Nat) (mo : Nat) (a : Nat) (k : Int32) (q : Int32) (w : Int64) (H : Heap) (locs : List Loc) (ls : Array Slot), 4 * (tp - a) + 2 * tz + mo < z7 → (az ≤ a) → (a ≤ tp) → (mo ≤ 1) → (bg = 0 ∨ mb ci ≤ 11) → (mo = 1 ∨ mb ci ≤ 11) → (k = 0 ∨ tz = 1) → (tz ≤ 1) → (bg ≤ 1) → va_P (dC, dI) vwCl (rW h0 r cI cJ cZ v0 a1 (nI tp) (nI bs) (fun j => nI (cl j)) a5 a6 a7 (fun j => nI (fc j)) a9 (fun j => nI (mb j)) a11 a12 a13 a14 a15 a16 a17 a18 a19 a20 (nI a) k q w v25 v26 (nI bb) (fun j => nI (ct j)) (nI us) a30 a31 a32 a33 a34 a35 a36 a37 (fun j => nI (pil j)) (fun j => nI (rwv j)) (nI rl) v41 v42 v43 v44 v45) H → va_D A (rW h0 r cI cJ cZ v0 a1 (nI tp) (nI bs) (fun j => nI (cl j)) a5 a6 a7 (fun j => nI (fc j)) a9 (fun j => nI (mb j)) a11 a12 a13 a14 a15 a16 a17 a18 a19 a20 (nI a) k q w v25 v26 (nI bb) (fun j => nI (ct j)) (nI us) a30 a31 a32 a33 a34 a35 a36 a37 (fun j => nI (pil j)) (fun j => nI (rwv j)) (nI rl) v41 v42 v43 v44 v45) → va_S A s.heap H locs → lv_has ls 8 [(0, .ref h0), (1, .int (nI ci)), (2, .int al), (3, .int (nI bg)), (4, .int (nI mo))] → W p l e (headSpec zwX7_oneMember { frames := 4, cells := 0, slots := 0, locals := 89 }).room s m (([.ref h0, .int (nI ci)] : List Value).toArray) below meth c H locs 0 0 (MQ below (va_Qi (fun (r : Int32) (u : Nat × Int32 × Int32 × Int64 × Int32 × Int32 × (Nat → Int64) × (Nat → Int32) × (Nat → Int32) × (Nat → Int32) × (Nat → Int32) × (Nat → Int32) × (Nat → Int32) × (Nat → Int32) × (Nat → Nat)) => (r = 0 ∨ r = 1) ∧ (az ≤ (u.1)) ∧ ((u.1) ≤ tp) ∧ (r = 1 → az < (u.1)) ∧ (∀ j, (u.2.2.2.2.2.2.2.2.2.2.2.2.2.2) j ≤ 12)) (fun u t => zB dC dI (A) (rW h0 r cI cJ cZ v0 a1 (nI tp) (nI bs) (fun j => nI (cl j)) a5 a6 a7 (fun j => nI (fc j)) a9 (fun j => nI ((u.2.2.2.2.2.2.2.2.2.2.2.2.2.2) j)) a11 a12 (u.2.2.2.2.2.2.1) (u.2.2.2.2.2.2.2.1) (u.2.2.2.2.2.2.2.2.2.2.1) (u.2.2.2.2.2.2.2.2.1) (u.2.2.2.2.2.2.2.2.2.1) (u.2.2.2.2.2.2.2.2.2.2.2.1) (u.2.2.2.2.2.2.2.2.2.2.2.2.1) (u.2.2.2.2.2.2.2.2.2.2.2.2.2.1) (nI (u.1)) (u.2.1) (u.2.2.1) (u.2.2.2.1) (u.2.2.2.2.1) (u.2.2.2.2.2.1) (nI bb) (fun j => nI (ct j)) (nI us) a30 a31 a32 a33 a34 a35 a36 a37 (fun j => nI (pil j)) (fun j => nI (rwv j)) (nI rl) v41 v42 v43 v44 v45) [(cI, .int), (cJ, .long), (cZ, .boolean)] t) (A)) (([.ref h0, .int (nI ci)] : List Value).toArray) s 0 0 A) (F0 m 7 ls []) := by
    intro z7
    induction z7 with
    | zero => intro tz al bg mo a k q w H locs ls h9; exact absurd h9 (Nat.not_lt_zero _)
    | succ z7 ih7 =>
      intro tz al bg mo a k q w H locs ls hm7 i7_0 i7_1 i7_2 i7_3 i7_4 i7_5 i7_6 i7_7 hP hD hS hl
      have J140 : ∀ (mk : Int32) (H : Heap) (locs : List Loc) (ls : Array Slot), (mk = 0 ∨ k = 87) → (mb ci ≤ 11) → (mo = 1) → va_P (dC, dI) vwCl (rW h0 r cI cJ cZ v0 a1 (nI tp) (nI bs) (fun j => nI (cl j)) a5 a6 a7 (fun j => nI (fc j)) a9 (fun j => nI (mb j)) a11 a12 a13 a14 a15 a16 a17 a18 a19 a20 (nI a) k q w v25 v26 (nI bb) (fun j => nI (ct j)) (nI us) a30 a31 a32 a33 a34 a35 a36 a37 (fun j => nI (pil j)) (fun j => nI (rwv j)) (nI rl) v41 v42 v43 v44 v45) H → va_D A (rW h0 r cI cJ cZ v0 a1 (nI tp) (nI bs) (fun j => nI (cl j)) a5 a6 a7 (fun j => nI (fc j)) a9 (fun j => nI (mb j)) a11 a12 a13 a14 a15 a16 a17 a18 a19 a20 (nI a) k q w v25 v26 (nI bb) (fun j => nI (ct j)) (nI us) a30 a31 a32 a33 a34 a35 a36 a37 (fun j => nI (pil j)) (fun j => nI (rwv j)) (nI rl) v41 v42 v43 v44 v45) → va_S A s.heap H locs → lv_has ls 8 [(0, .ref h0), (1, .int (nI ci)), (2, .int al), (3, .int (nI bg)), (5, .int mk)] → W p l e (headSpec zwX7_oneMember { frames := 4, cells := 0, slots := 0, locals := 89 }).room s m (([.ref h0, .int (nI ci)] : List Value).toArray) below meth c H locs 0 0 (MQ below (va_Qi (fun (r : Int32) (u : Nat × Int32 × Int32 × Int64 × Int32 × Int32 × (Nat → Int64) × (Nat → Int32) × (Nat → Int32) × (Nat → Int32) × (Nat → Int32) × (Nat → Int32) × (Nat → Int32) × (Nat → Int32) × (Nat → Nat)) => (r = 0 ∨ r = 1) ∧ (az ≤ (u.1)) ∧ ((u.1) ≤ tp) ∧ (r = 1 → az < (u.1)) ∧ (∀ j, (u.2.2.2.2.2.2.2.2.2.2.2.2.2.2) j ≤ 12)) (fun u t => zB dC dI (A) (rW h0 r cI cJ cZ v0 a1 (nI tp) (nI bs) (fun j => nI (cl j)) a5 a6 a7 (fun j => nI (fc j)) a9 (fun j => nI ((u.2.2.2.2.2.2.2.2.2.2.2.2.2.2) j)) a11 a12 (u.2.2.2.2.2.2.1) (u.2.2.2.2.2.2.2.1) (u.2.2.2.2.2.2.2.2.2.2.1) (u.2.2.2.2.2.2.2.2.1) (u.2.2.2.2.2.2.2.2.2.1) (u.2.2.2.2.2.2.2.2.2.2.2.1) (u.2.2.2.2.2.2.2.2.2.2.2.2.1) (u.2.2.2.2.2.2.2.2.2.2.2.2.2.1) (nI (u.1)) (u.2.1) (u.2.2.1) (u.2.2.2.1) (u.2.2.2.2.1) (u.2.2.2.2.2.1) (nI bb) (fun j => nI (ct j)) (nI us) a30 a31 a32 a33 a34 a35 a36 a37 (fun j => nI (pil j)) (fun j => nI (rwv j)) (nI rl) v41 v42 v43 v44 v45) [(cI, .int), (cJ, .long), (cZ, .boolean)] t) (A)) (([.ref h0, .int (nI ci)] : List Value).toArray) s 0 0 A) (F0 m 140 ls []) := by
        intro mk H locs ls i140_0 i140_1 i140_2 hP hD hS hl
        refine lv_iconst (v := 1) hx hb dX7_oneMember_140 (by decide) ?_
        refine lv_istore_n (lv' := [(3, .int 1), (0, .ref h0), (1, .int (nI ci)), (2, .int al), (5, .int mk)]) hx hb dX7_oneMember_141 rfl hl (by decide) rfl (fun ls hl => ?_)
        refine lv_iload hx hb dX7_oneMember_142 (lv_at hl 4 rfl) ?_
        refine lv_if_le (tgt := 151) hx hb dX7_oneMember_144 (by decide) (fun cp144 => ?_) (fun cp144 => ?_)
        · refine lv_iconst (v := 0) hx hb dX7_oneMember_151 (by decide) ?_
          refine lv_istore (lv' := [(4, .int 0), (3, .int 1), (0, .ref h0), (1, .int (nI ci)), (2, .int al), (5, .int mk)]) hx hb dX7_oneMember_152 hl (by decide) rfl (fun ls hl => ?_)
          refine lv_iload_n hx hb dX7_oneMember_154 rfl (lv_at hl 4 rfl) ?_
          refine lv_iload hx hb dX7_oneMember_155 (lv_at hl 5 rfl) ?_
          refine lv_ior hx hb dX7_oneMember_157 ?_
          refine lv_topi (fun x12 ex12 => ?_)
          refine lv_istore_n (lv' := [(2, .int x12), (4, .int 0), (3, .int 1), (0, .ref h0), (1, .int (nI ci)), (5, .int mk)]) hx hb dX7_oneMember_158 rfl hl (by decide) rfl (fun ls hl => ?_)
          refine lv_iload hx hb dX7_oneMember_159 (lv_at hl 1 rfl) ?_
          refine lv_if_eq (tgt := 168) hx hb dX7_oneMember_161 (by decide) (fun _ => ?_) (fun c9 => absurd (by decide) c9)
          refine lv_goto (tgt := 7) hx hb dX7_oneMember_168 (by decide) ?_
          exact ih7 tz x12 1 0 a k q w _ _ ls (by omega) (by first | omega | assumption | trivial) (by first | omega | assumption | trivial) (by first | omega | assumption | trivial) (by first | omega | assumption | trivial) (by first | omega | assumption | trivial) (by first | exact Or.inr rfl | exact Or.inl (by assumption) | assumption) (by first | omega | assumption | trivial) (by first | omega | assumption | trivial) hP hD hS (lv_sub hl [3, 4, 0, 2, 1] rfl)
        · have h87 : k = 87 := i140_0.resolve_left (fun h9 => cp144 (by rw [h9]; decide))
          have htz : tz = 1 := i7_5.resolve_left (fun h9 => absurd (h87.symm.trans h9) (by decide))
          refine lv_iconst (v := 1) hx hb dX7_oneMember_147 (by decide) ?_
          refine lv_goto (tgt := 152) hx hb dX7_oneMember_148 (by decide) ?_
          refine lv_istore (lv' := [(4, .int 1), (3, .int 1), (0, .ref h0), (1, .int (nI ci)), (2, .int al), (5, .int mk)]) hx hb dX7_oneMember_152 hl (by decide) rfl (fun ls hl => ?_)
          refine lv_iload_n hx hb dX7_oneMember_154 rfl (lv_at hl 4 rfl) ?_
          refine lv_iload hx hb dX7_oneMember_155 (lv_at hl 5 rfl) ?_
          refine lv_ior hx hb dX7_oneMember_157 ?_
          refine lv_topi (fun x13 ex13 => ?_)
          refine lv_istore_n (lv' := [(2, .int x13), (4, .int 1), (3, .int 1), (0, .ref h0), (1, .int (nI ci)), (5, .int mk)]) hx hb dX7_oneMember_158 rfl hl (by decide) rfl (fun ls hl => ?_)
          refine lv_iload hx hb dX7_oneMember_159 (lv_at hl 1 rfl) ?_
          refine lv_if_eq (tgt := 168) hx hb dX7_oneMember_161 (by decide) (fun c9 => absurd c9 (by decide)) (fun _ => ?_)
          refine lv_aload_n hx hb dX7_oneMember_164 rfl (lv_at hl 3 rfl) ?_
          have hFc := z_freeW hD hS hA
          refine va_callv (va_runV (As := []) (rest := []) ⟨hx, hb, hml, hown, hts⟩ (kX7_next l dC dI h0 r cI cJ cZ v0 a1 tp bs cl a5 a6 a7 fc a9 mb a11 a12 a13 a14 a15 a16 a17 a18 a19 a20 a k q w v25 v26 bb ct us a30 a31 a32 a33 a34 a35 a36 a37 pil rwv rl v41 v42 v43 v44 v45 ⟨by omega, by omega, by omega, hcl, hfc, hmb, hct, hpil, hrwv⟩ (by first | omega | assumption | trivial) H.size) (cwV 0 hts zgX7_oneMember_X7_next_195 rfl rfl rfl (by decide +kernel) ⟨(show 2 + 1 ≤ 4 by omega), (show 8 + (2 + 11) + 45 ≤ 89 by omega)⟩) (zVm (ci := 6) (q0 := 0) (q := (RX7, TX7, 46)) hK hP hD hL hS.2.1 hFc rfl rfl rfl) rfl rfl hl.1 rfl (lv_room (Nat.le_of_ble_eq_true rfl)) dX7_oneMember_165 ⟨(show 0 + 0 ≤ 0 by omega), (show 0 + 0 ≤ 0 by omega)⟩) hS (fun q _ h => hFc q h) hFc (fun u19 t H1 locs ht hvm hw hB hz1 hk1 hS => ?_)
          obtain ⟨o15, o16, o17, o18⟩ := u19
          obtain ⟨hP, hK9, hD⟩ := hB
          rw [ht] at hP
          have hD := hD.weaken (fun k q _ h => hFc q.1 h)
          generalize H1 = H at hP hS
          have hP : va_P (dC, dI) vwCl (rW h0 r cI cJ cZ v0 a1 (nI tp) (nI bs) (fun j => nI (cl j)) a5 a6 a7 (fun j => nI (fc j)) a9 (fun j => nI (mb j)) a11 a12 a13 a14 a15 a16 a17 a18 a19 a20 (nI o15) o16 o17 o18 v25 v26 (nI bb) (fun j => nI (ct j)) (nI us) a30 a31 a32 a33 a34 a35 a36 a37 (fun j => nI (pil j)) (fun j => nI (rwv j)) (nI rl) v41 v42 v43 v44 v45) H := hP
          have hD : va_D A (rW h0 r cI cJ cZ v0 a1 (nI tp) (nI bs) (fun j => nI (cl j)) a5 a6 a7 (fun j => nI (fc j)) a9 (fun j => nI (mb j)) a11 a12 a13 a14 a15 a16 a17 a18 a19 a20 (nI o15) o16 o17 o18 v25 v26 (nI bb) (fun j => nI (ct j)) (nI us) a30 a31 a32 a33 a34 a35 a36 a37 (fun j => nI (pil j)) (fun j => nI (rwv j)) (nI rl) v41 v42 v43 v44 v45) := hD
          have hw : (a ≤ o15) ∧ (o15 ≤ tp) ∧ (¬ o16 = 0 → a < o15) := hw
          obtain ⟨w0r14, w1r14, w2r14⟩ := hw
          refine lv_goto (tgt := 7) hx hb dX7_oneMember_168 (by decide) ?_
          by_cases hz8 : o16 = 0
          · exact ih7 0 x13 1 1 o15 o16 o17 o18 _ _ ls (by omega) (by first | omega | assumption | trivial) (by first | omega | assumption | trivial) (by first | omega | assumption | trivial) (by first | omega | assumption | trivial) (by first | omega | assumption | trivial) (by first | exact Or.inr rfl | exact Or.inl (by assumption) | assumption) (by first | omega | assumption | trivial) (by first | omega | assumption | trivial) hP hD hS (lv_sub hl [3, 4, 0, 2, 1] rfl)
          · have hz7 := w2r14 hz8
            exact ih7 1 x13 1 1 o15 o16 o17 o18 _ _ ls (by omega) (by first | omega | assumption | trivial) (by first | omega | assumption | trivial) (by first | omega | assumption | trivial) (by first | omega | assumption | trivial) (by first | omega | assumption | trivial) (by first | exact Or.inr rfl | exact Or.inl (by assumption) | assumption) (by first | omega | assumption | trivial) (by first | omega | assumption | trivial) hP hD hS (lv_sub hl [3, 4, 0, 2, 1] rfl)
      have J119 : ∀ (mk : Int32) (H : Heap) (locs : List Loc) (ls : Array Slot), (mk = 0 ∨ k = 87) → (mo = 1) → va_P (dC, dI) vwCl (rW h0 r cI cJ cZ v0 a1 (nI tp) (nI bs) (fun j => nI (cl j)) a5 a6 a7 (fun j => nI (fc j)) a9 (fun j => nI (mb j)) a11 a12 a13 a14 a15 a16 a17 a18 a19 a20 (nI a) k q w v25 v26 (nI bb) (fun j => nI (ct j)) (nI us) a30 a31 a32 a33 a34 a35 a36 a37 (fun j => nI (pil j)) (fun j => nI (rwv j)) (nI rl) v41 v42 v43 v44 v45) H → va_D A (rW h0 r cI cJ cZ v0 a1 (nI tp) (nI bs) (fun j => nI (cl j)) a5 a6 a7 (fun j => nI (fc j)) a9 (fun j => nI (mb j)) a11 a12 a13 a14 a15 a16 a17 a18 a19 a20 (nI a) k q w v25 v26 (nI bb) (fun j => nI (ct j)) (nI us) a30 a31 a32 a33 a34 a35 a36 a37 (fun j => nI (pil j)) (fun j => nI (rwv j)) (nI rl) v41 v42 v43 v44 v45) → va_S A s.heap H locs → lv_has ls 8 [(0, .ref h0), (1, .int (nI ci)), (2, .int al), (3, .int (nI bg)), (5, .int mk)] → W p l e (headSpec zwX7_oneMember { frames := 4, cells := 0, slots := 0, locals := 89 }).room s m (([.ref h0, .int (nI ci)] : List Value).toArray) below meth c H locs 0 0 (MQ below (va_Qi (fun (r : Int32) (u : Nat × Int32 × Int32 × Int64 × Int32 × Int32 × (Nat → Int64) × (Nat → Int32) × (Nat → Int32) × (Nat → Int32) × (Nat → Int32) × (Nat → Int32) × (Nat → Int32) × (Nat → Int32) × (Nat → Nat)) => (r = 0 ∨ r = 1) ∧ (az ≤ (u.1)) ∧ ((u.1) ≤ tp) ∧ (r = 1 → az < (u.1)) ∧ (∀ j, (u.2.2.2.2.2.2.2.2.2.2.2.2.2.2) j ≤ 12)) (fun u t => zB dC dI (A) (rW h0 r cI cJ cZ v0 a1 (nI tp) (nI bs) (fun j => nI (cl j)) a5 a6 a7 (fun j => nI (fc j)) a9 (fun j => nI ((u.2.2.2.2.2.2.2.2.2.2.2.2.2.2) j)) a11 a12 (u.2.2.2.2.2.2.1) (u.2.2.2.2.2.2.2.1) (u.2.2.2.2.2.2.2.2.2.2.1) (u.2.2.2.2.2.2.2.2.1) (u.2.2.2.2.2.2.2.2.2.1) (u.2.2.2.2.2.2.2.2.2.2.2.1) (u.2.2.2.2.2.2.2.2.2.2.2.2.1) (u.2.2.2.2.2.2.2.2.2.2.2.2.2.1) (nI (u.1)) (u.2.1) (u.2.2.1) (u.2.2.2.1) (u.2.2.2.2.1) (u.2.2.2.2.2.1) (nI bb) (fun j => nI (ct j)) (nI us) a30 a31 a32 a33 a34 a35 a36 a37 (fun j => nI (pil j)) (fun j => nI (rwv j)) (nI rl) v41 v42 v43 v44 v45) [(cI, .int), (cJ, .long), (cZ, .boolean)] t) (A)) (([.ref h0, .int (nI ci)] : List Value).toArray) s 0 0 A) (F0 m 119 ls []) := by
        intro mk H locs ls i119_0 i119_1 hP hD hS hl
        refine lv_iload_n hx hb dX7_oneMember_119 rfl (lv_at hl 3 rfl) ?_
        refine lv_if_ne (tgt := 140) hx hb dX7_oneMember_120 (by decide) (fun cp120 => ?_) (fun cp120 => ?_)
        · have qcp120 : ¬ bg = 0 := fun h9 => cp120 ((nI_eq (a := bg) (b := 0) (by omega) (by omega)).mpr h9)
          exact J140 mk _ _ ls  (by first | omega | assumption | trivial) (by first | omega | assumption | trivial) (by first | omega | assumption | trivial) hP hD hS (lv_sub hl [0, 1, 2, 3, 4] rfl)
        · have qcp120 : bg = 0 := (nI_eq (a := bg) (b := 0) (by omega) (by omega)).mp cp120
          refine lv_aload_n hx hb dX7_oneMember_123 rfl (lv_at hl 0 rfl) ?_
          refine va_get (D := (dC, dI)) (ci := 6) (v := .ref (r 10)) (C := RX7) (T := TX7) (N := 46) hx hb hts hiX7 hown hK hP 0 rfl rfl 10 (by decide) (hts (.fieldLink RX7 35 "LinkModelsModel" "members" "[I") (by decide +kernel)) (fun _ h9 => h9) rfl dX7_oneMember_124 ?_
          refine lv_iload_n hx hb dX7_oneMember_127 rfl (lv_at hl 1 rfl) ?_
          refine va_iald hx hb hK hP 8 0 rfl rfl (vp_in_nI (show ci < 80 by omega) (by decide)) dX7_oneMember_128 ?_
          refine lv_topi (fun x20 ex20 => ?_)
          obtain rfl : x20 = nI (mb ci) := by rw [ex20, nI_clamp (show ci < 2 ^ 31 by omega)]
          have hqx20 := hmb ci
          refine lv_bipush (v := 12) hx hb dX7_oneMember_129 (by decide) ?_
          refine lv_icmp_ne (tgt := 140) hx hb dX7_oneMember_131 (by decide) (fun cp131 => ?_) (fun cp131 => ?_)
          · have qcp131 : ¬ (mb ci) = 12 := fun h9 => cp131 ((nI_eq (a := mb ci) (b := 12) (by omega) (by omega)).mpr h9)
            exact J140 mk _ _ ls  (by first | omega | assumption | trivial) (by first | omega | assumption | trivial) (by first | omega | assumption | trivial) hP hD hS (lv_sub hl [0, 1, 2, 3, 4] rfl)
          · have qcp131 : (mb ci) = 12 := (nI_eq (a := mb ci) (b := 12) (by omega) (by omega)).mp cp131
            refine lv_aload_n hx hb dX7_oneMember_134 rfl (lv_at hl 0 rfl) ?_
            refine lv_iconst (v := 2) hx hb dX7_oneMember_135 (by decide) ?_
            have hFc := z_freeW hD hS hA
            refine va_calli (va_runV (As := [.int 2]) (rest := []) ⟨hx, hb, hml, hown, hts⟩ (kX7_fails l dC dI h0 r cI cJ cZ v0 a1 tp bs cl a5 a6 a7 fc a9 mb a11 a12 a13 a14 a15 a16 a17 a18 a19 a20 a k q w v25 v26 bb ct us a30 a31 a32 a33 a34 a35 a36 a37 pil rwv rl v41 v42 v43 v44 v45 ⟨by omega, by omega, by omega, hcl, hfc, hmb, hct, hpil, hrwv⟩ (2 : Int32) H.size) (cwV 1 hts zgX7_oneMember_X7_fails_192 rfl rfl rfl (by decide +kernel) ⟨(show 0 + 1 ≤ 4 by omega), (show 8 + (2 + 11) + 0 ≤ 89 by omega)⟩) (zVm (ci := 6) (q0 := 0) (q := (RX7, TX7, 46)) hK hP hD hL hS.2.1 hFc rfl rfl rfl) rfl rfl hl.1 rfl (lv_room (Nat.le_of_ble_eq_true rfl)) dX7_oneMember_136 ⟨(show 0 + 0 ≤ 0 by omega), (show 0 + 0 ≤ 0 by omega)⟩) hS (fun q _ h => hFc q h) hFc (fun r21 u24 t H1 locs ht hvm hw hB hz1 hk1 hS => ?_)
            obtain ⟨o22, o23⟩ := u24
            obtain ⟨hP, hK9, hD⟩ := hB
            rw [ht] at hP
            have hD := hD.weaken (fun k q _ h => hFc q.1 h)
            generalize H1 = H at hP hS
            have hP : va_P (dC, dI) vwCl (rW h0 r cI cJ cZ v0 a1 (nI tp) (nI bs) (fun j => nI (cl j)) a5 a6 a7 (fun j => nI (fc j)) a9 (fun j => nI (mb j)) a11 a12 a13 a14 a15 a16 a17 a18 a19 a20 (nI a) k q w o22 o23 (nI bb) (fun j => nI (ct j)) (nI us) a30 a31 a32 a33 a34 a35 a36 a37 (fun j => nI (pil j)) (fun j => nI (rwv j)) (nI rl) v41 v42 v43 v44 v45) H := hP
            have hD : va_D A (rW h0 r cI cJ cZ v0 a1 (nI tp) (nI bs) (fun j => nI (cl j)) a5 a6 a7 (fun j => nI (fc j)) a9 (fun j => nI (mb j)) a11 a12 a13 a14 a15 a16 a17 a18 a19 a20 (nI a) k q w o22 o23 (nI bb) (fun j => nI (ct j)) (nI us) a30 a31 a32 a33 a34 a35 a36 a37 (fun j => nI (pil j)) (fun j => nI (rwv j)) (nI rl) v41 v42 v43 v44 v45) := hD
            have hw : (r21 = 0 ∨ r21 = 1) ∧ (r21 = 0) := hw
            obtain ⟨w0r21, w1r21⟩ := hw
            subst w1r21
            have hP9 : va_P (dC, dI) vwCl (rW h0 r cI cJ cZ v0 a1 (nI tp) (nI bs) (fun j => nI (cl j)) a5 a6 a7 (fun j => nI (fc j)) a9 (fun j => nI (mb j)) a11 a12 a13 a14 a15 a16 a17 a18 a19 a20 (nI a) k q w o22 o23 (nI bb) (fun j => nI (ct j)) (nI us) a30 a31 a32 a33 a34 a35 a36 a37 (fun j => nI (pil j)) (fun j => nI (rwv j)) (nI rl) v41 v42 v43 v44 v45) H := hP
            have hD9 : va_D A (rW h0 r cI cJ cZ v0 a1 (nI tp) (nI bs) (fun j => nI (cl j)) a5 a6 a7 (fun j => nI (fc j)) a9 (fun j => nI (mb j)) a11 a12 a13 a14 a15 a16 a17 a18 a19 a20 (nI a) k q w o22 o23 (nI bb) (fun j => nI (ct j)) (nI us) a30 a31 a32 a33 a34 a35 a36 a37 (fun j => nI (pil j)) (fun j => nI (rwv j)) (nI rl) v41 v42 v43 v44 v45) := hD
            exact W.zret (v := (0 : Int32)) hx hb hr rfl (fun t ht hW => ⟨⟨(0 : Int32), (a, k, q, w, o22, o23, a13, a14, a16, a17, a15, a18, a19, a20, mb), rfl, ⟨(Or.inl rfl), (by omega), (by omega), (by first | (intro h9; exact absurd h9 (by decide)) | (intro _; omega)), hmb⟩, by rw [ht]; exact hP9, va_K.moved hW.alike hK, hD9⟩, hS.F ht⟩) hS.2.2 dX7_oneMember_139
      have J84 : ∀ (mk : Int32) (H : Heap) (locs : List Loc) (ls : Array Slot), (mk = 0 ∨ k = 87) → (mo = 1) → va_P (dC, dI) vwCl (rW h0 r cI cJ cZ v0 a1 (nI tp) (nI bs) (fun j => nI (cl j)) a5 a6 a7 (fun j => nI (fc j)) a9 (fun j => nI (mb j)) a11 a12 a13 a14 a15 a16 a17 a18 a19 a20 (nI a) k q w v25 v26 (nI bb) (fun j => nI (ct j)) (nI us) a30 a31 a32 a33 a34 a35 a36 a37 (fun j => nI (pil j)) (fun j => nI (rwv j)) (nI rl) v41 v42 v43 v44 v45) H → va_D A (rW h0 r cI cJ cZ v0 a1 (nI tp) (nI bs) (fun j => nI (cl j)) a5 a6 a7 (fun j => nI (fc j)) a9 (fun j => nI (mb j)) a11 a12 a13 a14 a15 a16 a17 a18 a19 a20 (nI a) k q w v25 v26 (nI bb) (fun j => nI (ct j)) (nI us) a30 a31 a32 a33 a34 a35 a36 a37 (fun j => nI (pil j)) (fun j => nI (rwv j)) (nI rl) v41 v42 v43 v44 v45) → va_S A s.heap H locs → lv_has ls 8 [(0, .ref h0), (1, .int (nI ci)), (2, .int al), (3, .int (nI bg)), (5, .int mk)] → W p l e (headSpec zwX7_oneMember { frames := 4, cells := 0, slots := 0, locals := 89 }).room s m (([.ref h0, .int (nI ci)] : List Value).toArray) below meth c H locs 0 0 (MQ below (va_Qi (fun (r : Int32) (u : Nat × Int32 × Int32 × Int64 × Int32 × Int32 × (Nat → Int64) × (Nat → Int32) × (Nat → Int32) × (Nat → Int32) × (Nat → Int32) × (Nat → Int32) × (Nat → Int32) × (Nat → Int32) × (Nat → Nat)) => (r = 0 ∨ r = 1) ∧ (az ≤ (u.1)) ∧ ((u.1) ≤ tp) ∧ (r = 1 → az < (u.1)) ∧ (∀ j, (u.2.2.2.2.2.2.2.2.2.2.2.2.2.2) j ≤ 12)) (fun u t => zB dC dI (A) (rW h0 r cI cJ cZ v0 a1 (nI tp) (nI bs) (fun j => nI (cl j)) a5 a6 a7 (fun j => nI (fc j)) a9 (fun j => nI ((u.2.2.2.2.2.2.2.2.2.2.2.2.2.2) j)) a11 a12 (u.2.2.2.2.2.2.1) (u.2.2.2.2.2.2.2.1) (u.2.2.2.2.2.2.2.2.2.2.1) (u.2.2.2.2.2.2.2.2.1) (u.2.2.2.2.2.2.2.2.2.1) (u.2.2.2.2.2.2.2.2.2.2.2.1) (u.2.2.2.2.2.2.2.2.2.2.2.2.1) (u.2.2.2.2.2.2.2.2.2.2.2.2.2.1) (nI (u.1)) (u.2.1) (u.2.2.1) (u.2.2.2.1) (u.2.2.2.2.1) (u.2.2.2.2.2.1) (nI bb) (fun j => nI (ct j)) (nI us) a30 a31 a32 a33 a34 a35 a36 a37 (fun j => nI (pil j)) (fun j => nI (rwv j)) (nI rl) v41 v42 v43 v44 v45) [(cI, .int), (cJ, .long), (cZ, .boolean)] t) (A)) (([.ref h0, .int (nI ci)] : List Value).toArray) s 0 0 A) (F0 m 84 ls []) := by
        intro mk H locs ls i84_0 i84_1 hP hD hS hl
        refine lv_iload_n hx hb dX7_oneMember_84 rfl (lv_at hl 2 rfl) ?_
        refine lv_iload hx hb dX7_oneMember_85 (lv_at hl 4 rfl) ?_
        refine lv_iand hx hb dX7_oneMember_87 ?_
        refine lv_topi (fun x25 ex25 => ?_)
        refine lv_if_ne (tgt := 113) hx hb dX7_oneMember_88 (by decide) (fun cp88 => ?_) (fun cp88 => ?_)
        · refine lv_aload_n hx hb dX7_oneMember_113 rfl (lv_at hl 0 rfl) ?_
          refine lv_iconst (v := 1) hx hb dX7_oneMember_114 (by decide) ?_
          have hFc := z_freeW hD hS hA
          refine va_calli (va_runV (As := [.int 1]) (rest := []) ⟨hx, hb, hml, hown, hts⟩ (kX7_fails l dC dI h0 r cI cJ cZ v0 a1 tp bs cl a5 a6 a7 fc a9 mb a11 a12 a13 a14 a15 a16 a17 a18 a19 a20 a k q w v25 v26 bb ct us a30 a31 a32 a33 a34 a35 a36 a37 pil rwv rl v41 v42 v43 v44 v45 ⟨by omega, by omega, by omega, hcl, hfc, hmb, hct, hpil, hrwv⟩ (1 : Int32) H.size) (cwV 1 hts zgX7_oneMember_X7_fails_192 rfl rfl rfl (by decide +kernel) ⟨(show 0 + 1 ≤ 4 by omega), (show 8 + (2 + 11) + 0 ≤ 89 by omega)⟩) (zVm (ci := 6) (q0 := 0) (q := (RX7, TX7, 46)) hK hP hD hL hS.2.1 hFc rfl rfl rfl) rfl rfl hl.1 rfl (lv_room (Nat.le_of_ble_eq_true rfl)) dX7_oneMember_115 ⟨(show 0 + 0 ≤ 0 by omega), (show 0 + 0 ≤ 0 by omega)⟩) hS (fun q _ h => hFc q h) hFc (fun r26 u29 t H1 locs ht hvm hw hB hz1 hk1 hS => ?_)
          obtain ⟨o27, o28⟩ := u29
          obtain ⟨hP, hK9, hD⟩ := hB
          rw [ht] at hP
          have hD := hD.weaken (fun k q _ h => hFc q.1 h)
          generalize H1 = H at hP hS
          have hP : va_P (dC, dI) vwCl (rW h0 r cI cJ cZ v0 a1 (nI tp) (nI bs) (fun j => nI (cl j)) a5 a6 a7 (fun j => nI (fc j)) a9 (fun j => nI (mb j)) a11 a12 a13 a14 a15 a16 a17 a18 a19 a20 (nI a) k q w o27 o28 (nI bb) (fun j => nI (ct j)) (nI us) a30 a31 a32 a33 a34 a35 a36 a37 (fun j => nI (pil j)) (fun j => nI (rwv j)) (nI rl) v41 v42 v43 v44 v45) H := hP
          have hD : va_D A (rW h0 r cI cJ cZ v0 a1 (nI tp) (nI bs) (fun j => nI (cl j)) a5 a6 a7 (fun j => nI (fc j)) a9 (fun j => nI (mb j)) a11 a12 a13 a14 a15 a16 a17 a18 a19 a20 (nI a) k q w o27 o28 (nI bb) (fun j => nI (ct j)) (nI us) a30 a31 a32 a33 a34 a35 a36 a37 (fun j => nI (pil j)) (fun j => nI (rwv j)) (nI rl) v41 v42 v43 v44 v45) := hD
          have hw : (r26 = 0 ∨ r26 = 1) ∧ (r26 = 0) := hw
          obtain ⟨w0r26, w1r26⟩ := hw
          subst w1r26
          have hP9 : va_P (dC, dI) vwCl (rW h0 r cI cJ cZ v0 a1 (nI tp) (nI bs) (fun j => nI (cl j)) a5 a6 a7 (fun j => nI (fc j)) a9 (fun j => nI (mb j)) a11 a12 a13 a14 a15 a16 a17 a18 a19 a20 (nI a) k q w o27 o28 (nI bb) (fun j => nI (ct j)) (nI us) a30 a31 a32 a33 a34 a35 a36 a37 (fun j => nI (pil j)) (fun j => nI (rwv j)) (nI rl) v41 v42 v43 v44 v45) H := hP
          have hD9 : va_D A (rW h0 r cI cJ cZ v0 a1 (nI tp) (nI bs) (fun j => nI (cl j)) a5 a6 a7 (fun j => nI (fc j)) a9 (fun j => nI (mb j)) a11 a12 a13 a14 a15 a16 a17 a18 a19 a20 (nI a) k q w o27 o28 (nI bb) (fun j => nI (ct j)) (nI us) a30 a31 a32 a33 a34 a35 a36 a37 (fun j => nI (pil j)) (fun j => nI (rwv j)) (nI rl) v41 v42 v43 v44 v45) := hD
          exact W.zret (v := (0 : Int32)) hx hb hr rfl (fun t ht hW => ⟨⟨(0 : Int32), (a, k, q, w, o27, o28, a13, a14, a16, a17, a15, a18, a19, a20, mb), rfl, ⟨(Or.inl rfl), (by omega), (by omega), (by first | (intro h9; exact absurd h9 (by decide)) | (intro _; omega)), hmb⟩, by rw [ht]; exact hP9, va_K.moved hW.alike hK, hD9⟩, hS.F ht⟩) hS.2.2 dX7_oneMember_118
        · refine lv_iload hx hb dX7_oneMember_91 (lv_at hl 4 rfl) ?_
          refine lv_bipush (v := 8) hx hb dX7_oneMember_93 (by decide) ?_
          refine lv_icmp_ne (tgt := 102) hx hb dX7_oneMember_95 (by decide) (fun cp95 => ?_) (fun cp95 => ?_)
          · refine lv_iload hx hb dX7_oneMember_102 (lv_at hl 4 rfl) ?_
            refine lv_if_le (tgt := 119) hx hb dX7_oneMember_104 (by decide) (fun cp104 => ?_) (fun cp104 => ?_)
            · exact J119 mk _ _ ls  (by first | omega | assumption | trivial) (by first | omega | assumption | trivial) hP hD hS (lv_sub hl [0, 1, 2, 3, 4] rfl)
            · refine lv_iload_n hx hb dX7_oneMember_107 rfl (lv_at hl 2 rfl) ?_
              refine lv_bipush (v := 8) hx hb dX7_oneMember_108 (by decide) ?_
              refine lv_icmp_ne (tgt := 119) hx hb dX7_oneMember_110 (by decide) (fun cp110 => ?_) (fun cp110 => ?_)
              · exact J119 mk _ _ ls  (by first | omega | assumption | trivial) (by first | omega | assumption | trivial) hP hD hS (lv_sub hl [0, 1, 2, 3, 4] rfl)
              · refine lv_aload_n hx hb dX7_oneMember_113 rfl (lv_at hl 0 rfl) ?_
                refine lv_iconst (v := 1) hx hb dX7_oneMember_114 (by decide) ?_
                have hFc := z_freeW hD hS hA
                refine va_calli (va_runV (As := [.int 1]) (rest := []) ⟨hx, hb, hml, hown, hts⟩ (kX7_fails l dC dI h0 r cI cJ cZ v0 a1 tp bs cl a5 a6 a7 fc a9 mb a11 a12 a13 a14 a15 a16 a17 a18 a19 a20 a k q w v25 v26 bb ct us a30 a31 a32 a33 a34 a35 a36 a37 pil rwv rl v41 v42 v43 v44 v45 ⟨by omega, by omega, by omega, hcl, hfc, hmb, hct, hpil, hrwv⟩ (1 : Int32) H.size) (cwV 1 hts zgX7_oneMember_X7_fails_192 rfl rfl rfl (by decide +kernel) ⟨(show 0 + 1 ≤ 4 by omega), (show 8 + (2 + 11) + 0 ≤ 89 by omega)⟩) (zVm (ci := 6) (q0 := 0) (q := (RX7, TX7, 46)) hK hP hD hL hS.2.1 hFc rfl rfl rfl) rfl rfl hl.1 rfl (lv_room (Nat.le_of_ble_eq_true rfl)) dX7_oneMember_115 ⟨(show 0 + 0 ≤ 0 by omega), (show 0 + 0 ≤ 0 by omega)⟩) hS (fun q _ h => hFc q h) hFc (fun r30 u33 t H1 locs ht hvm hw hB hz1 hk1 hS => ?_)
                obtain ⟨o31, o32⟩ := u33
                obtain ⟨hP, hK9, hD⟩ := hB
                rw [ht] at hP
                have hD := hD.weaken (fun k q _ h => hFc q.1 h)
                generalize H1 = H at hP hS
                have hP : va_P (dC, dI) vwCl (rW h0 r cI cJ cZ v0 a1 (nI tp) (nI bs) (fun j => nI (cl j)) a5 a6 a7 (fun j => nI (fc j)) a9 (fun j => nI (mb j)) a11 a12 a13 a14 a15 a16 a17 a18 a19 a20 (nI a) k q w o31 o32 (nI bb) (fun j => nI (ct j)) (nI us) a30 a31 a32 a33 a34 a35 a36 a37 (fun j => nI (pil j)) (fun j => nI (rwv j)) (nI rl) v41 v42 v43 v44 v45) H := hP
                have hD : va_D A (rW h0 r cI cJ cZ v0 a1 (nI tp) (nI bs) (fun j => nI (cl j)) a5 a6 a7 (fun j => nI (fc j)) a9 (fun j => nI (mb j)) a11 a12 a13 a14 a15 a16 a17 a18 a19 a20 (nI a) k q w o31 o32 (nI bb) (fun j => nI (ct j)) (nI us) a30 a31 a32 a33 a34 a35 a36 a37 (fun j => nI (pil j)) (fun j => nI (rwv j)) (nI rl) v41 v42 v43 v44 v45) := hD
                have hw : (r30 = 0 ∨ r30 = 1) ∧ (r30 = 0) := hw
                obtain ⟨w0r30, w1r30⟩ := hw
                subst w1r30
                have hP9 : va_P (dC, dI) vwCl (rW h0 r cI cJ cZ v0 a1 (nI tp) (nI bs) (fun j => nI (cl j)) a5 a6 a7 (fun j => nI (fc j)) a9 (fun j => nI (mb j)) a11 a12 a13 a14 a15 a16 a17 a18 a19 a20 (nI a) k q w o31 o32 (nI bb) (fun j => nI (ct j)) (nI us) a30 a31 a32 a33 a34 a35 a36 a37 (fun j => nI (pil j)) (fun j => nI (rwv j)) (nI rl) v41 v42 v43 v44 v45) H := hP
                have hD9 : va_D A (rW h0 r cI cJ cZ v0 a1 (nI tp) (nI bs) (fun j => nI (cl j)) a5 a6 a7 (fun j => nI (fc j)) a9 (fun j => nI (mb j)) a11 a12 a13 a14 a15 a16 a17 a18 a19 a20 (nI a) k q w o31 o32 (nI bb) (fun j => nI (ct j)) (nI us) a30 a31 a32 a33 a34 a35 a36 a37 (fun j => nI (pil j)) (fun j => nI (rwv j)) (nI rl) v41 v42 v43 v44 v45) := hD
                exact W.zret (v := (0 : Int32)) hx hb hr rfl (fun t ht hW => ⟨⟨(0 : Int32), (a, k, q, w, o31, o32, a13, a14, a16, a17, a15, a18, a19, a20, mb), rfl, ⟨(Or.inl rfl), (by omega), (by omega), (by first | (intro h9; exact absurd h9 (by decide)) | (intro _; omega)), hmb⟩, by rw [ht]; exact hP9, va_K.moved hW.alike hK, hD9⟩, hS.F ht⟩) hS.2.2 dX7_oneMember_118
          · refine lv_iload_n hx hb dX7_oneMember_98 rfl (lv_at hl 2 rfl) ?_
            refine lv_if_ne (tgt := 113) hx hb dX7_oneMember_99 (by decide) (fun cp99 => ?_) (fun cp99 => ?_)
            · refine lv_aload_n hx hb dX7_oneMember_113 rfl (lv_at hl 0 rfl) ?_
              refine lv_iconst (v := 1) hx hb dX7_oneMember_114 (by decide) ?_
              have hFc := z_freeW hD hS hA
              refine va_calli (va_runV (As := [.int 1]) (rest := []) ⟨hx, hb, hml, hown, hts⟩ (kX7_fails l dC dI h0 r cI cJ cZ v0 a1 tp bs cl a5 a6 a7 fc a9 mb a11 a12 a13 a14 a15 a16 a17 a18 a19 a20 a k q w v25 v26 bb ct us a30 a31 a32 a33 a34 a35 a36 a37 pil rwv rl v41 v42 v43 v44 v45 ⟨by omega, by omega, by omega, hcl, hfc, hmb, hct, hpil, hrwv⟩ (1 : Int32) H.size) (cwV 1 hts zgX7_oneMember_X7_fails_192 rfl rfl rfl (by decide +kernel) ⟨(show 0 + 1 ≤ 4 by omega), (show 8 + (2 + 11) + 0 ≤ 89 by omega)⟩) (zVm (ci := 6) (q0 := 0) (q := (RX7, TX7, 46)) hK hP hD hL hS.2.1 hFc rfl rfl rfl) rfl rfl hl.1 rfl (lv_room (Nat.le_of_ble_eq_true rfl)) dX7_oneMember_115 ⟨(show 0 + 0 ≤ 0 by omega), (show 0 + 0 ≤ 0 by omega)⟩) hS (fun q _ h => hFc q h) hFc (fun r34 u37 t H1 locs ht hvm hw hB hz1 hk1 hS => ?_)
              obtain ⟨o35, o36⟩ := u37
              obtain ⟨hP, hK9, hD⟩ := hB
              rw [ht] at hP
              have hD := hD.weaken (fun k q _ h => hFc q.1 h)
              generalize H1 = H at hP hS
              have hP : va_P (dC, dI) vwCl (rW h0 r cI cJ cZ v0 a1 (nI tp) (nI bs) (fun j => nI (cl j)) a5 a6 a7 (fun j => nI (fc j)) a9 (fun j => nI (mb j)) a11 a12 a13 a14 a15 a16 a17 a18 a19 a20 (nI a) k q w o35 o36 (nI bb) (fun j => nI (ct j)) (nI us) a30 a31 a32 a33 a34 a35 a36 a37 (fun j => nI (pil j)) (fun j => nI (rwv j)) (nI rl) v41 v42 v43 v44 v45) H := hP
              have hD : va_D A (rW h0 r cI cJ cZ v0 a1 (nI tp) (nI bs) (fun j => nI (cl j)) a5 a6 a7 (fun j => nI (fc j)) a9 (fun j => nI (mb j)) a11 a12 a13 a14 a15 a16 a17 a18 a19 a20 (nI a) k q w o35 o36 (nI bb) (fun j => nI (ct j)) (nI us) a30 a31 a32 a33 a34 a35 a36 a37 (fun j => nI (pil j)) (fun j => nI (rwv j)) (nI rl) v41 v42 v43 v44 v45) := hD
              have hw : (r34 = 0 ∨ r34 = 1) ∧ (r34 = 0) := hw
              obtain ⟨w0r34, w1r34⟩ := hw
              subst w1r34
              have hP9 : va_P (dC, dI) vwCl (rW h0 r cI cJ cZ v0 a1 (nI tp) (nI bs) (fun j => nI (cl j)) a5 a6 a7 (fun j => nI (fc j)) a9 (fun j => nI (mb j)) a11 a12 a13 a14 a15 a16 a17 a18 a19 a20 (nI a) k q w o35 o36 (nI bb) (fun j => nI (ct j)) (nI us) a30 a31 a32 a33 a34 a35 a36 a37 (fun j => nI (pil j)) (fun j => nI (rwv j)) (nI rl) v41 v42 v43 v44 v45) H := hP
              have hD9 : va_D A (rW h0 r cI cJ cZ v0 a1 (nI tp) (nI bs) (fun j => nI (cl j)) a5 a6 a7 (fun j => nI (fc j)) a9 (fun j => nI (mb j)) a11 a12 a13 a14 a15 a16 a17 a18 a19 a20 (nI a) k q w o35 o36 (nI bb) (fun j => nI (ct j)) (nI us) a30 a31 a32 a33 a34 a35 a36 a37 (fun j => nI (pil j)) (fun j => nI (rwv j)) (nI rl) v41 v42 v43 v44 v45) := hD
              exact W.zret (v := (0 : Int32)) hx hb hr rfl (fun t ht hW => ⟨⟨(0 : Int32), (a, k, q, w, o35, o36, a13, a14, a16, a17, a15, a18, a19, a20, mb), rfl, ⟨(Or.inl rfl), (by omega), (by omega), (by first | (intro h9; exact absurd h9 (by decide)) | (intro _; omega)), hmb⟩, by rw [ht]; exact hP9, va_K.moved hW.alike hK, hD9⟩, hS.F ht⟩) hS.2.2 dX7_oneMember_118
            · refine lv_iload hx hb dX7_oneMember_102 (lv_at hl 4 rfl) ?_
              refine lv_if_le (tgt := 119) hx hb dX7_oneMember_104 (by decide) (fun cp104 => ?_) (fun cp104 => ?_)
              · exact J119 mk _ _ ls  (by first | omega | assumption | trivial) (by first | omega | assumption | trivial) hP hD hS (lv_sub hl [0, 1, 2, 3, 4] rfl)
              · refine lv_iload_n hx hb dX7_oneMember_107 rfl (lv_at hl 2 rfl) ?_
                refine lv_bipush (v := 8) hx hb dX7_oneMember_108 (by decide) ?_
                refine lv_icmp_ne (tgt := 119) hx hb dX7_oneMember_110 (by decide) (fun cp110 => ?_) (fun cp110 => ?_)
                · exact J119 mk _ _ ls  (by first | omega | assumption | trivial) (by first | omega | assumption | trivial) hP hD hS (lv_sub hl [0, 1, 2, 3, 4] rfl)
                · refine lv_aload_n hx hb dX7_oneMember_113 rfl (lv_at hl 0 rfl) ?_
                  refine lv_iconst (v := 1) hx hb dX7_oneMember_114 (by decide) ?_
                  have hFc := z_freeW hD hS hA
                  refine va_calli (va_runV (As := [.int 1]) (rest := []) ⟨hx, hb, hml, hown, hts⟩ (kX7_fails l dC dI h0 r cI cJ cZ v0 a1 tp bs cl a5 a6 a7 fc a9 mb a11 a12 a13 a14 a15 a16 a17 a18 a19 a20 a k q w v25 v26 bb ct us a30 a31 a32 a33 a34 a35 a36 a37 pil rwv rl v41 v42 v43 v44 v45 ⟨by omega, by omega, by omega, hcl, hfc, hmb, hct, hpil, hrwv⟩ (1 : Int32) H.size) (cwV 1 hts zgX7_oneMember_X7_fails_192 rfl rfl rfl (by decide +kernel) ⟨(show 0 + 1 ≤ 4 by omega), (show 8 + (2 + 11) + 0 ≤ 89 by omega)⟩) (zVm (ci := 6) (q0 := 0) (q := (RX7, TX7, 46)) hK hP hD hL hS.2.1 hFc rfl rfl rfl) rfl rfl hl.1 rfl (lv_room (Nat.le_of_ble_eq_true rfl)) dX7_oneMember_115 ⟨(show 0 + 0 ≤ 0 by omega), (show 0 + 0 ≤ 0 by omega)⟩) hS (fun q _ h => hFc q h) hFc (fun r38 u41 t H1 locs ht hvm hw hB hz1 hk1 hS => ?_)
                  obtain ⟨o39, o40⟩ := u41
                  obtain ⟨hP, hK9, hD⟩ := hB
                  rw [ht] at hP
                  have hD := hD.weaken (fun k q _ h => hFc q.1 h)
                  generalize H1 = H at hP hS
                  have hP : va_P (dC, dI) vwCl (rW h0 r cI cJ cZ v0 a1 (nI tp) (nI bs) (fun j => nI (cl j)) a5 a6 a7 (fun j => nI (fc j)) a9 (fun j => nI (mb j)) a11 a12 a13 a14 a15 a16 a17 a18 a19 a20 (nI a) k q w o39 o40 (nI bb) (fun j => nI (ct j)) (nI us) a30 a31 a32 a33 a34 a35 a36 a37 (fun j => nI (pil j)) (fun j => nI (rwv j)) (nI rl) v41 v42 v43 v44 v45) H := hP
                  have hD : va_D A (rW h0 r cI cJ cZ v0 a1 (nI tp) (nI bs) (fun j => nI (cl j)) a5 a6 a7 (fun j => nI (fc j)) a9 (fun j => nI (mb j)) a11 a12 a13 a14 a15 a16 a17 a18 a19 a20 (nI a) k q w o39 o40 (nI bb) (fun j => nI (ct j)) (nI us) a30 a31 a32 a33 a34 a35 a36 a37 (fun j => nI (pil j)) (fun j => nI (rwv j)) (nI rl) v41 v42 v43 v44 v45) := hD
                  have hw : (r38 = 0 ∨ r38 = 1) ∧ (r38 = 0) := hw
                  obtain ⟨w0r38, w1r38⟩ := hw
                  subst w1r38
                  have hP9 : va_P (dC, dI) vwCl (rW h0 r cI cJ cZ v0 a1 (nI tp) (nI bs) (fun j => nI (cl j)) a5 a6 a7 (fun j => nI (fc j)) a9 (fun j => nI (mb j)) a11 a12 a13 a14 a15 a16 a17 a18 a19 a20 (nI a) k q w o39 o40 (nI bb) (fun j => nI (ct j)) (nI us) a30 a31 a32 a33 a34 a35 a36 a37 (fun j => nI (pil j)) (fun j => nI (rwv j)) (nI rl) v41 v42 v43 v44 v45) H := hP
                  have hD9 : va_D A (rW h0 r cI cJ cZ v0 a1 (nI tp) (nI bs) (fun j => nI (cl j)) a5 a6 a7 (fun j => nI (fc j)) a9 (fun j => nI (mb j)) a11 a12 a13 a14 a15 a16 a17 a18 a19 a20 (nI a) k q w o39 o40 (nI bb) (fun j => nI (ct j)) (nI us) a30 a31 a32 a33 a34 a35 a36 a37 (fun j => nI (pil j)) (fun j => nI (rwv j)) (nI rl) v41 v42 v43 v44 v45) := hD
                  exact W.zret (v := (0 : Int32)) hx hb hr rfl (fun t ht hW => ⟨⟨(0 : Int32), (a, k, q, w, o39, o40, a13, a14, a16, a17, a15, a18, a19, a20, mb), rfl, ⟨(Or.inl rfl), (by omega), (by omega), (by first | (intro h9; exact absurd h9 (by decide)) | (intro _; omega)), hmb⟩, by rw [ht]; exact hP9, va_K.moved hW.alike hK, hD9⟩, hS.F ht⟩) hS.2.2 dX7_oneMember_118
      have J70 : ∀ (mk : Int32) (H : Heap) (locs : List Loc) (ls : Array Slot), (mk = 0 ∨ k = 87) → (mo = 1) → va_P (dC, dI) vwCl (rW h0 r cI cJ cZ v0 a1 (nI tp) (nI bs) (fun j => nI (cl j)) a5 a6 a7 (fun j => nI (fc j)) a9 (fun j => nI (mb j)) a11 a12 a13 a14 a15 a16 a17 a18 a19 a20 (nI a) k q w v25 v26 (nI bb) (fun j => nI (ct j)) (nI us) a30 a31 a32 a33 a34 a35 a36 a37 (fun j => nI (pil j)) (fun j => nI (rwv j)) (nI rl) v41 v42 v43 v44 v45) H → va_D A (rW h0 r cI cJ cZ v0 a1 (nI tp) (nI bs) (fun j => nI (cl j)) a5 a6 a7 (fun j => nI (fc j)) a9 (fun j => nI (mb j)) a11 a12 a13 a14 a15 a16 a17 a18 a19 a20 (nI a) k q w v25 v26 (nI bb) (fun j => nI (ct j)) (nI us) a30 a31 a32 a33 a34 a35 a36 a37 (fun j => nI (pil j)) (fun j => nI (rwv j)) (nI rl) v41 v42 v43 v44 v45) → va_S A s.heap H locs → lv_has ls 8 [(0, .ref h0), (1, .int (nI ci)), (2, .int al), (3, .int (nI bg))] → W p l e (headSpec zwX7_oneMember { frames := 4, cells := 0, slots := 0, locals := 89 }).room s m (([.ref h0, .int (nI ci)] : List Value).toArray) below meth c H locs 0 0 (MQ below (va_Qi (fun (r : Int32) (u : Nat × Int32 × Int32 × Int64 × Int32 × Int32 × (Nat → Int64) × (Nat → Int32) × (Nat → Int32) × (Nat → Int32) × (Nat → Int32) × (Nat → Int32) × (Nat → Int32) × (Nat → Int32) × (Nat → Nat)) => (r = 0 ∨ r = 1) ∧ (az ≤ (u.1)) ∧ ((u.1) ≤ tp) ∧ (r = 1 → az < (u.1)) ∧ (∀ j, (u.2.2.2.2.2.2.2.2.2.2.2.2.2.2) j ≤ 12)) (fun u t => zB dC dI (A) (rW h0 r cI cJ cZ v0 a1 (nI tp) (nI bs) (fun j => nI (cl j)) a5 a6 a7 (fun j => nI (fc j)) a9 (fun j => nI ((u.2.2.2.2.2.2.2.2.2.2.2.2.2.2) j)) a11 a12 (u.2.2.2.2.2.2.1) (u.2.2.2.2.2.2.2.1) (u.2.2.2.2.2.2.2.2.2.2.1) (u.2.2.2.2.2.2.2.2.1) (u.2.2.2.2.2.2.2.2.2.1) (u.2.2.2.2.2.2.2.2.2.2.2.1) (u.2.2.2.2.2.2.2.2.2.2.2.2.1) (u.2.2.2.2.2.2.2.2.2.2.2.2.2.1) (nI (u.1)) (u.2.1) (u.2.2.1) (u.2.2.2.1) (u.2.2.2.2.1) (u.2.2.2.2.2.1) (nI bb) (fun j => nI (ct j)) (nI us) a30 a31 a32 a33 a34 a35 a36 a37 (fun j => nI (pil j)) (fun j => nI (rwv j)) (nI rl) v41 v42 v43 v44 v45) [(cI, .int), (cJ, .long), (cZ, .boolean)] t) (A)) (([.ref h0, .int (nI ci)] : List Value).toArray) s 0 0 A) (F0 m 70 ls [.int mk]) := by
        intro mk H locs ls i70_0 i70_1 hP hD hS hl
        refine lv_istore (lv' := [(5, .int mk), (0, .ref h0), (1, .int (nI ci)), (2, .int al), (3, .int (nI bg))]) hx hb dX7_oneMember_70 hl (by decide) rfl (fun ls hl => ?_)
        refine lv_iload hx hb dX7_oneMember_72 (lv_at hl 0 rfl) ?_
        refine lv_if_ne (tgt := 84) hx hb dX7_oneMember_74 (by decide) (fun cp74 => ?_) (fun cp74 => ?_)
        · exact J84 mk _ _ ls  (by first | omega | assumption | trivial) (by first | omega | assumption | trivial) hP hD hS (lv_sub hl [1, 2, 3, 4, 0] rfl)
        · refine lv_aload_n hx hb dX7_oneMember_77 rfl (lv_at hl 1 rfl) ?_
          have hFc := z_freeW hD hS hA
          refine vp_callSi (W.runV (As := []) (rest := []) ⟨hx, hb, hml, hown, hts⟩ (kX7_isType l dC dI h0 r cI cJ cZ v0 a1 tp bs cl a5 a6 a7 fc a9 mb a11 a12 a13 a14 a15 a16 a17 a18 a19 a20 a k q w v25 v26 bb ct us a30 a31 a32 a33 a34 a35 a36 a37 pil rwv rl v41 v42 v43 v44 v45 ⟨by omega, by omega, by omega, hcl, hfc, hmb, hct, hpil, hrwv⟩ H.size) (cwV 0 hts zgX7_oneMember_X7_isType_211 rfl rfl rfl (by decide +kernel) ⟨(show 1 + 1 ≤ 4 by omega), (show 8 + (1 + 11) + 22 ≤ 89 by omega)⟩) (zVm (ci := 6) (q0 := 0) (q := (RX7, TX7, 46)) hK hP hD hL hS.2.1 hFc rfl rfl rfl) rfl rfl hl.1 rfl (lv_room (Nat.le_of_ble_eq_true rfl)) dX7_oneMember_78 ⟨(show 0 + 0 ≤ 0 by omega), (show 0 + 0 ≤ 0 by omega)⟩) (fun r42 hw => ?_)
          have hw : (r42 = 0 ∨ r42 = 1) := hw
          have w0r42 := hw
          refine lv_if_eq (tgt := 113) hx hb dX7_oneMember_81 (by decide) (fun cp81 => ?_) (fun cp81 => ?_)
          · refine lv_aload_n hx hb dX7_oneMember_113 rfl (lv_at hl 1 rfl) ?_
            refine lv_iconst (v := 1) hx hb dX7_oneMember_114 (by decide) ?_
            have hFc := z_freeW hD hS hA
            refine va_calli (va_runV (As := [.int 1]) (rest := []) ⟨hx, hb, hml, hown, hts⟩ (kX7_fails l dC dI h0 r cI cJ cZ v0 a1 tp bs cl a5 a6 a7 fc a9 mb a11 a12 a13 a14 a15 a16 a17 a18 a19 a20 a k q w v25 v26 bb ct us a30 a31 a32 a33 a34 a35 a36 a37 pil rwv rl v41 v42 v43 v44 v45 ⟨by omega, by omega, by omega, hcl, hfc, hmb, hct, hpil, hrwv⟩ (1 : Int32) H.size) (cwV 1 hts zgX7_oneMember_X7_fails_192 rfl rfl rfl (by decide +kernel) ⟨(show 0 + 1 ≤ 4 by omega), (show 8 + (2 + 11) + 0 ≤ 89 by omega)⟩) (zVm (ci := 6) (q0 := 0) (q := (RX7, TX7, 46)) hK hP hD hL hS.2.1 hFc rfl rfl rfl) rfl rfl hl.1 rfl (lv_room (Nat.le_of_ble_eq_true rfl)) dX7_oneMember_115 ⟨(show 0 + 0 ≤ 0 by omega), (show 0 + 0 ≤ 0 by omega)⟩) hS (fun q _ h => hFc q h) hFc (fun r43 u46 t H1 locs ht hvm hw hB hz1 hk1 hS => ?_)
            obtain ⟨o44, o45⟩ := u46
            obtain ⟨hP, hK9, hD⟩ := hB
            rw [ht] at hP
            have hD := hD.weaken (fun k q _ h => hFc q.1 h)
            generalize H1 = H at hP hS
            have hP : va_P (dC, dI) vwCl (rW h0 r cI cJ cZ v0 a1 (nI tp) (nI bs) (fun j => nI (cl j)) a5 a6 a7 (fun j => nI (fc j)) a9 (fun j => nI (mb j)) a11 a12 a13 a14 a15 a16 a17 a18 a19 a20 (nI a) k q w o44 o45 (nI bb) (fun j => nI (ct j)) (nI us) a30 a31 a32 a33 a34 a35 a36 a37 (fun j => nI (pil j)) (fun j => nI (rwv j)) (nI rl) v41 v42 v43 v44 v45) H := hP
            have hD : va_D A (rW h0 r cI cJ cZ v0 a1 (nI tp) (nI bs) (fun j => nI (cl j)) a5 a6 a7 (fun j => nI (fc j)) a9 (fun j => nI (mb j)) a11 a12 a13 a14 a15 a16 a17 a18 a19 a20 (nI a) k q w o44 o45 (nI bb) (fun j => nI (ct j)) (nI us) a30 a31 a32 a33 a34 a35 a36 a37 (fun j => nI (pil j)) (fun j => nI (rwv j)) (nI rl) v41 v42 v43 v44 v45) := hD
            have hw : (r43 = 0 ∨ r43 = 1) ∧ (r43 = 0) := hw
            obtain ⟨w0r43, w1r43⟩ := hw
            subst w1r43
            have hP9 : va_P (dC, dI) vwCl (rW h0 r cI cJ cZ v0 a1 (nI tp) (nI bs) (fun j => nI (cl j)) a5 a6 a7 (fun j => nI (fc j)) a9 (fun j => nI (mb j)) a11 a12 a13 a14 a15 a16 a17 a18 a19 a20 (nI a) k q w o44 o45 (nI bb) (fun j => nI (ct j)) (nI us) a30 a31 a32 a33 a34 a35 a36 a37 (fun j => nI (pil j)) (fun j => nI (rwv j)) (nI rl) v41 v42 v43 v44 v45) H := hP
            have hD9 : va_D A (rW h0 r cI cJ cZ v0 a1 (nI tp) (nI bs) (fun j => nI (cl j)) a5 a6 a7 (fun j => nI (fc j)) a9 (fun j => nI (mb j)) a11 a12 a13 a14 a15 a16 a17 a18 a19 a20 (nI a) k q w o44 o45 (nI bb) (fun j => nI (ct j)) (nI us) a30 a31 a32 a33 a34 a35 a36 a37 (fun j => nI (pil j)) (fun j => nI (rwv j)) (nI rl) v41 v42 v43 v44 v45) := hD
            exact W.zret (v := (0 : Int32)) hx hb hr rfl (fun t ht hW => ⟨⟨(0 : Int32), (a, k, q, w, o44, o45, a13, a14, a16, a17, a15, a18, a19, a20, mb), rfl, ⟨(Or.inl rfl), (by omega), (by omega), (by first | (intro h9; exact absurd h9 (by decide)) | (intro _; omega)), hmb⟩, by rw [ht]; exact hP9, va_K.moved hW.alike hK, hD9⟩, hS.F ht⟩) hS.2.2 dX7_oneMember_118
          · exact J84 mk _ _ ls  (by first | omega | assumption | trivial) (by first | omega | assumption | trivial) hP hD hS (lv_sub hl [1, 2, 3, 4, 0] rfl)
      refine lv_iload hx hb dX7_oneMember_7 (lv_at hl 4 rfl) ?_
      refine lv_if_eq (tgt := 171) hx hb dX7_oneMember_9 (by decide) (fun cp9 => ?_) (fun cp9 => ?_)
      · have qcp9 : mo = 0 := (nI_eq (a := mo) (b := 0) (by omega) (by omega)).mp cp9
        refine lv_aload_n hx hb dX7_oneMember_171 rfl (lv_at hl 0 rfl) ?_
        have hFc := z_freeW hD hS hA
        refine vp_callSi (W.runV (As := []) (rest := []) ⟨hx, hb, hml, hown, hts⟩ (kX7_typeNow l dC dI h0 r cI cJ cZ v0 a1 tp bs cl a5 a6 a7 fc a9 mb a11 a12 a13 a14 a15 a16 a17 a18 a19 a20 a k q w v25 v26 bb ct us a30 a31 a32 a33 a34 a35 a36 a37 pil rwv rl v41 v42 v43 v44 v45 ⟨by omega, by omega, by omega, hcl, hfc, hmb, hct, hpil, hrwv⟩ H.size) (cwV 0 hts zgX7_oneMember_X7_typeNow_215 rfl rfl rfl (by decide +kernel) ⟨(show 1 + 1 ≤ 4 by omega), (show 8 + (1 + 11) + 22 ≤ 89 by omega)⟩) (zVm (ci := 6) (q0 := 0) (q := (RX7, TX7, 46)) hK hP hD hL hS.2.1 hFc rfl rfl rfl) rfl rfl hl.1 rfl (lv_room (Nat.le_of_ble_eq_true rfl)) dX7_oneMember_172 ⟨(show 0 + 0 ≤ 0 by omega), (show 0 + 0 ≤ 0 by omega)⟩) (fun r47 hw => ?_)
        have hw : (True) := hw
        have w0r47 := hw
        refine lv_istore (lv' := [(5, .int r47), (0, .ref h0), (1, .int (nI ci)), (2, .int al), (3, .int (nI bg)), (4, .int (nI mo))]) hx hb dX7_oneMember_175 hl (by decide) rfl (fun ls hl => ?_)
        refine lv_aload_n hx hb dX7_oneMember_177 rfl (lv_at hl 1 rfl) ?_
        have hFc := z_freeW hD hS hA
        refine va_callv (va_runV (As := []) (rest := []) ⟨hx, hb, hml, hown, hts⟩ (kX7_next l dC dI h0 r cI cJ cZ v0 a1 tp bs cl a5 a6 a7 fc a9 mb a11 a12 a13 a14 a15 a16 a17 a18 a19 a20 a k q w v25 v26 bb ct us a30 a31 a32 a33 a34 a35 a36 a37 pil rwv rl v41 v42 v43 v44 v45 ⟨by omega, by omega, by omega, hcl, hfc, hmb, hct, hpil, hrwv⟩ (by first | omega | assumption | trivial) H.size) (cwV 0 hts zgX7_oneMember_X7_next_195 rfl rfl rfl (by decide +kernel) ⟨(show 2 + 1 ≤ 4 by omega), (show 8 + (2 + 11) + 45 ≤ 89 by omega)⟩) (zVm (ci := 6) (q0 := 0) (q := (RX7, TX7, 46)) hK hP hD hL hS.2.1 hFc rfl rfl rfl) rfl rfl hl.1 rfl (lv_room (Nat.le_of_ble_eq_true rfl)) dX7_oneMember_178 ⟨(show 0 + 0 ≤ 0 by omega), (show 0 + 0 ≤ 0 by omega)⟩) hS (fun q _ h => hFc q h) hFc (fun u53 t H1 locs ht hvm hw hB hz1 hk1 hS => ?_)
        obtain ⟨o49, o50, o51, o52⟩ := u53
        obtain ⟨hP, hK9, hD⟩ := hB
        rw [ht] at hP
        have hD := hD.weaken (fun k q _ h => hFc q.1 h)
        generalize H1 = H at hP hS
        have hP : va_P (dC, dI) vwCl (rW h0 r cI cJ cZ v0 a1 (nI tp) (nI bs) (fun j => nI (cl j)) a5 a6 a7 (fun j => nI (fc j)) a9 (fun j => nI (mb j)) a11 a12 a13 a14 a15 a16 a17 a18 a19 a20 (nI o49) o50 o51 o52 v25 v26 (nI bb) (fun j => nI (ct j)) (nI us) a30 a31 a32 a33 a34 a35 a36 a37 (fun j => nI (pil j)) (fun j => nI (rwv j)) (nI rl) v41 v42 v43 v44 v45) H := hP
        have hD : va_D A (rW h0 r cI cJ cZ v0 a1 (nI tp) (nI bs) (fun j => nI (cl j)) a5 a6 a7 (fun j => nI (fc j)) a9 (fun j => nI (mb j)) a11 a12 a13 a14 a15 a16 a17 a18 a19 a20 (nI o49) o50 o51 o52 v25 v26 (nI bb) (fun j => nI (ct j)) (nI us) a30 a31 a32 a33 a34 a35 a36 a37 (fun j => nI (pil j)) (fun j => nI (rwv j)) (nI rl) v41 v42 v43 v44 v45) := hD
        have hw : (a ≤ o49) ∧ (o49 ≤ tp) ∧ (¬ o50 = 0 → a < o49) := hw
        obtain ⟨w0r48, w1r48, w2r48⟩ := hw
        refine lv_aload_n hx hb dX7_oneMember_181 rfl (lv_at hl 1 rfl) ?_
        refine va_get (D := (dC, dI)) (ci := 6) (v := .int o50) (C := RX7) (T := TX7) (N := 46) hx hb hts hiX7 hown hK hP 0 rfl rfl 22 (by decide) (hts (.fieldLink RX7 136 "LinkModelsModel" "token" "I") (by decide +kernel)) (fun _ h9 => h9) rfl dX7_oneMember_182 ?_
        refine lv_bipush (v := 87) hx hb dX7_oneMember_185 (by decide) ?_
        refine lv_icmp_ne (tgt := 197) hx hb dX7_oneMember_187 (by decide) (fun cp187 => ?_) (fun cp187 => ?_)
        · refine lv_aload_n hx hb dX7_oneMember_197 rfl (lv_at hl 1 rfl) ?_
          refine lv_iconst (v := 1) hx hb dX7_oneMember_198 (by decide) ?_
          have hFc := z_freeW hD hS hA
          refine va_calli (va_runV (As := [.int 1]) (rest := []) ⟨hx, hb, hml, hown, hts⟩ (kX7_fails l dC dI h0 r cI cJ cZ v0 a1 tp bs cl a5 a6 a7 fc a9 mb a11 a12 a13 a14 a15 a16 a17 a18 a19 a20 o49 o50 o51 o52 v25 v26 bb ct us a30 a31 a32 a33 a34 a35 a36 a37 pil rwv rl v41 v42 v43 v44 v45 ⟨by omega, by omega, by omega, hcl, hfc, hmb, hct, hpil, hrwv⟩ (1 : Int32) H.size) (cwV 1 hts zgX7_oneMember_X7_fails_192 rfl rfl rfl (by decide +kernel) ⟨(show 0 + 1 ≤ 4 by omega), (show 8 + (2 + 11) + 0 ≤ 89 by omega)⟩) (zVm (ci := 6) (q0 := 0) (q := (RX7, TX7, 46)) hK hP hD hL hS.2.1 hFc rfl rfl rfl) rfl rfl hl.1 rfl (lv_room (Nat.le_of_ble_eq_true rfl)) dX7_oneMember_199 ⟨(show 0 + 0 ≤ 0 by omega), (show 0 + 0 ≤ 0 by omega)⟩) hS (fun q _ h => hFc q h) hFc (fun r54 u57 t H1 locs ht hvm hw hB hz1 hk1 hS => ?_)
          obtain ⟨o55, o56⟩ := u57
          obtain ⟨hP, hK9, hD⟩ := hB
          rw [ht] at hP
          have hD := hD.weaken (fun k q _ h => hFc q.1 h)
          generalize H1 = H at hP hS
          have hP : va_P (dC, dI) vwCl (rW h0 r cI cJ cZ v0 a1 (nI tp) (nI bs) (fun j => nI (cl j)) a5 a6 a7 (fun j => nI (fc j)) a9 (fun j => nI (mb j)) a11 a12 a13 a14 a15 a16 a17 a18 a19 a20 (nI o49) o50 o51 o52 o55 o56 (nI bb) (fun j => nI (ct j)) (nI us) a30 a31 a32 a33 a34 a35 a36 a37 (fun j => nI (pil j)) (fun j => nI (rwv j)) (nI rl) v41 v42 v43 v44 v45) H := hP
          have hD : va_D A (rW h0 r cI cJ cZ v0 a1 (nI tp) (nI bs) (fun j => nI (cl j)) a5 a6 a7 (fun j => nI (fc j)) a9 (fun j => nI (mb j)) a11 a12 a13 a14 a15 a16 a17 a18 a19 a20 (nI o49) o50 o51 o52 o55 o56 (nI bb) (fun j => nI (ct j)) (nI us) a30 a31 a32 a33 a34 a35 a36 a37 (fun j => nI (pil j)) (fun j => nI (rwv j)) (nI rl) v41 v42 v43 v44 v45) := hD
          have hw : (r54 = 0 ∨ r54 = 1) ∧ (r54 = 0) := hw
          obtain ⟨w0r54, w1r54⟩ := hw
          subst w1r54
          have hP9 : va_P (dC, dI) vwCl (rW h0 r cI cJ cZ v0 a1 (nI tp) (nI bs) (fun j => nI (cl j)) a5 a6 a7 (fun j => nI (fc j)) a9 (fun j => nI (mb j)) a11 a12 a13 a14 a15 a16 a17 a18 a19 a20 (nI o49) o50 o51 o52 o55 o56 (nI bb) (fun j => nI (ct j)) (nI us) a30 a31 a32 a33 a34 a35 a36 a37 (fun j => nI (pil j)) (fun j => nI (rwv j)) (nI rl) v41 v42 v43 v44 v45) H := hP
          have hD9 : va_D A (rW h0 r cI cJ cZ v0 a1 (nI tp) (nI bs) (fun j => nI (cl j)) a5 a6 a7 (fun j => nI (fc j)) a9 (fun j => nI (mb j)) a11 a12 a13 a14 a15 a16 a17 a18 a19 a20 (nI o49) o50 o51 o52 o55 o56 (nI bb) (fun j => nI (ct j)) (nI us) a30 a31 a32 a33 a34 a35 a36 a37 (fun j => nI (pil j)) (fun j => nI (rwv j)) (nI rl) v41 v42 v43 v44 v45) := hD
          exact W.zret (v := (0 : Int32)) hx hb hr rfl (fun t ht hW => ⟨⟨(0 : Int32), (o49, o50, o51, o52, o55, o56, a13, a14, a16, a17, a15, a18, a19, a20, mb), rfl, ⟨(Or.inl rfl), (by omega), (by omega), (by first | (intro h9; exact absurd h9 (by decide)) | (intro _; omega)), hmb⟩, by rw [ht]; exact hP9, va_K.moved hW.alike hK, hD9⟩, hS.F ht⟩) hS.2.2 dX7_oneMember_202
        · have zcp187 := w2r48 (by rw [cp187]; decide)
          refine lv_aload_n hx hb dX7_oneMember_190 rfl (lv_at hl 1 rfl) ?_
          have hFc := z_freeW hD hS hA
          refine vp_callSi (W.runV (As := []) (rest := []) ⟨hx, hb, hml, hown, hts⟩ (kX7_isKept l dC dI h0 r cI cJ cZ v0 a1 tp bs cl a5 a6 a7 fc a9 mb a11 a12 a13 a14 a15 a16 a17 a18 a19 a20 o49 o50 o51 o52 v25 v26 bb ct us a30 a31 a32 a33 a34 a35 a36 a37 pil rwv rl v41 v42 v43 v44 v45 ⟨by omega, by omega, by omega, hcl, hfc, hmb, hct, hpil, hrwv⟩ H.size) (cwV 0 hts zgX7_oneMember_X7_isKept_218 rfl rfl rfl (by decide +kernel) ⟨(show 1 + 1 ≤ 4 by omega), (show 8 + (1 + 11) + 22 ≤ 89 by omega)⟩) (zVm (ci := 6) (q0 := 0) (q := (RX7, TX7, 46)) hK hP hD hL hS.2.1 hFc rfl rfl rfl) rfl rfl hl.1 rfl (lv_room (Nat.le_of_ble_eq_true rfl)) dX7_oneMember_191 ⟨(show 0 + 0 ≤ 0 by omega), (show 0 + 0 ≤ 0 by omega)⟩) (fun r58 hw => ?_)
          have hw : (r58 = 0 ∨ r58 = 1) := hw
          have w0r58 := hw
          refine lv_if_eq (tgt := 203) hx hb dX7_oneMember_194 (by decide) (fun cp194 => ?_) (fun cp194 => ?_)
          · refine lv_bipush (v := 12) hx hb dX7_oneMember_203 (by decide) ?_
            refine lv_iload_n hx hb dX7_oneMember_205 rfl (lv_at hl 2 rfl) ?_
            refine lv_imul hx hb dX7_oneMember_206 ?_
            refine lv_topi (fun x59 ex59 => ?_)
            obtain rfl : x59 = nI (12 * ci) := by rw [ex59]; exact pk_mul (12) (ci)
            refine lv_aload_n hx hb dX7_oneMember_207 rfl (lv_at hl 1 rfl) ?_
            refine va_get (D := (dC, dI)) (ci := 6) (v := .ref (r 10)) (C := RX7) (T := TX7) (N := 46) hx hb hts hiX7 hown hK hP 0 rfl rfl 10 (by decide) (hts (.fieldLink RX7 35 "LinkModelsModel" "members" "[I") (by decide +kernel)) (fun _ h9 => h9) rfl dX7_oneMember_208 ?_
            refine lv_iload_n hx hb dX7_oneMember_211 rfl (lv_at hl 2 rfl) ?_
            refine va_iald hx hb hK hP 8 0 rfl rfl (vp_in_nI (show ci < 80 by omega) (by decide)) dX7_oneMember_212 ?_
            refine lv_topi (fun x60 ex60 => ?_)
            obtain rfl : x60 = nI (mb ci) := by rw [ex60, nI_clamp (show ci < 2 ^ 31 by omega)]
            have hqx60 := hmb ci
            refine lv_iadd hx hb dX7_oneMember_213 ?_
            refine lv_topi (fun x61 ex61 => ?_)
            obtain rfl : x61 = nI ((12 * ci) + (mb ci)) := by rw [ex61]; exact nI_add (12 * ci) (mb ci)
            refine lv_istore (lv' := [(6, .int (nI ((12 * ci) + (mb ci)))), (5, .int r47), (0, .ref h0), (1, .int (nI ci)), (2, .int al), (3, .int (nI bg)), (4, .int (nI mo))]) hx hb dX7_oneMember_214 hl (by decide) rfl (fun ls hl => ?_)
            refine lv_aload_n hx hb dX7_oneMember_216 rfl (lv_at hl 2 rfl) ?_
            refine va_get (D := (dC, dI)) (ci := 6) (v := .ref (r 13)) (C := RX7) (T := TX7) (N := 46) hx hb hts hiX7 hown hK hP 0 rfl rfl 13 (by decide) (hts (.fieldLink RX7 44 "LinkModelsModel" "word" "[J") (by decide +kernel)) (fun _ h9 => h9) rfl dX7_oneMember_217 ?_
            refine lv_iload hx hb dX7_oneMember_220 (lv_at hl 0 rfl) ?_
            refine lv_aload_n hx hb dX7_oneMember_222 rfl (lv_at hl 2 rfl) ?_
            refine va_get (D := (dC, dI)) (ci := 6) (v := .long o52) (C := RX7) (T := TX7) (N := 46) hx hb hts hiX7 hown hK hP 0 rfl rfl 24 (by decide) (hts (.fieldLink RX7 132 "LinkModelsModel" "value" "J") (by decide +kernel)) (fun _ h9 => h9) rfl dX7_oneMember_223 ?_
            refine va_last hx hb hK hP hD hS 11 1 rfl rfl (vp_in_nI (show (12 * ci) + (mb ci) < 960 by omega) (by decide)) dX7_oneMember_226 (fun H locs hP hD hS => ?_)
            obtain ⟨f62, hP, hD⟩ : ∃ g : Nat → Int64, va_P (dC, dI) vwCl (rW h0 r cI cJ cZ v0 a1 (nI tp) (nI bs) (fun j => nI (cl j)) a5 a6 a7 (fun j => nI (fc j)) a9 (fun j => nI (mb j)) a11 a12 g a14 a15 a16 a17 a18 a19 a20 (nI o49) o50 o51 o52 v25 v26 (nI bb) (fun j => nI (ct j)) (nI us) a30 a31 a32 a33 a34 a35 a36 a37 (fun j => nI (pil j)) (fun j => nI (rwv j)) (nI rl) v41 v42 v43 v44 v45) H ∧ va_D A (rW h0 r cI cJ cZ v0 a1 (nI tp) (nI bs) (fun j => nI (cl j)) a5 a6 a7 (fun j => nI (fc j)) a9 (fun j => nI (mb j)) a11 a12 g a14 a15 a16 a17 a18 a19 a20 (nI o49) o50 o51 o52 v25 v26 (nI bb) (fun j => nI (ct j)) (nI us) a30 a31 a32 a33 a34 a35 a36 a37 (fun j => nI (pil j)) (fun j => nI (rwv j)) (nI rl) v41 v42 v43 v44 v45) := ⟨_, hP, hD⟩
            refine lv_aload_n hx hb dX7_oneMember_227 rfl (lv_at hl 2 rfl) ?_
            refine va_get (D := (dC, dI)) (ci := 6) (v := .ref (r 14)) (C := RX7) (T := TX7) (N := 46) hx hb hts hiX7 hown hK hP 0 rfl rfl 14 (by decide) (hts (.fieldLink RX7 48 "LinkModelsModel" "marks" "[I") (by decide +kernel)) (fun _ h9 => h9) rfl dX7_oneMember_228 ?_
            refine lv_iload hx hb dX7_oneMember_231 (lv_at hl 0 rfl) ?_
            refine lv_iload_n hx hb dX7_oneMember_233 rfl (lv_at hl 4 rfl) ?_
            refine va_iast hx hb hK hP hD hS 12 0 rfl rfl (vp_in_nI (show (12 * ci) + (mb ci) < 960 by omega) (by decide)) dX7_oneMember_234 (fun H locs hP hD hS => ?_)
            obtain ⟨f63, hP, hD⟩ : ∃ g : Nat → Int32, va_P (dC, dI) vwCl (rW h0 r cI cJ cZ v0 a1 (nI tp) (nI bs) (fun j => nI (cl j)) a5 a6 a7 (fun j => nI (fc j)) a9 (fun j => nI (mb j)) a11 a12 f62 g a15 a16 a17 a18 a19 a20 (nI o49) o50 o51 o52 v25 v26 (nI bb) (fun j => nI (ct j)) (nI us) a30 a31 a32 a33 a34 a35 a36 a37 (fun j => nI (pil j)) (fun j => nI (rwv j)) (nI rl) v41 v42 v43 v44 v45) H ∧ va_D A (rW h0 r cI cJ cZ v0 a1 (nI tp) (nI bs) (fun j => nI (cl j)) a5 a6 a7 (fun j => nI (fc j)) a9 (fun j => nI (mb j)) a11 a12 f62 g a15 a16 a17 a18 a19 a20 (nI o49) o50 o51 o52 v25 v26 (nI bb) (fun j => nI (ct j)) (nI us) a30 a31 a32 a33 a34 a35 a36 a37 (fun j => nI (pil j)) (fun j => nI (rwv j)) (nI rl) v41 v42 v43 v44 v45) := ⟨_, hP, hD⟩
            refine lv_aload_n hx hb dX7_oneMember_235 rfl (lv_at hl 2 rfl) ?_
            refine va_get (D := (dC, dI)) (ci := 6) (v := .ref (r 15)) (C := RX7) (T := TX7) (N := 46) hx hb hts hiX7 hown hK hP 0 rfl rfl 15 (by decide) (hts (.fieldLink RX7 51 "LinkModelsModel" "isMethod" "[Z") (by decide +kernel)) (fun _ h9 => h9) rfl dX7_oneMember_236 ?_
            refine lv_iload hx hb dX7_oneMember_239 (lv_at hl 0 rfl) ?_
            refine lv_iconst (v := 0) hx hb dX7_oneMember_241 (by decide) ?_
            refine va_zast hx hb hK hP hD hS 13 2 rfl rfl (vp_in_nI (show (12 * ci) + (mb ci) < 960 by omega) (by decide)) dX7_oneMember_242 (fun H locs hP hD hS => ?_)
            obtain ⟨f64, hP, hD⟩ : ∃ g : Nat → Int32, va_P (dC, dI) vwCl (rW h0 r cI cJ cZ v0 a1 (nI tp) (nI bs) (fun j => nI (cl j)) a5 a6 a7 (fun j => nI (fc j)) a9 (fun j => nI (mb j)) a11 a12 f62 f63 g a16 a17 a18 a19 a20 (nI o49) o50 o51 o52 v25 v26 (nI bb) (fun j => nI (ct j)) (nI us) a30 a31 a32 a33 a34 a35 a36 a37 (fun j => nI (pil j)) (fun j => nI (rwv j)) (nI rl) v41 v42 v43 v44 v45) H ∧ va_D A (rW h0 r cI cJ cZ v0 a1 (nI tp) (nI bs) (fun j => nI (cl j)) a5 a6 a7 (fun j => nI (fc j)) a9 (fun j => nI (mb j)) a11 a12 f62 f63 g a16 a17 a18 a19 a20 (nI o49) o50 o51 o52 v25 v26 (nI bb) (fun j => nI (ct j)) (nI us) a30 a31 a32 a33 a34 a35 a36 a37 (fun j => nI (pil j)) (fun j => nI (rwv j)) (nI rl) v41 v42 v43 v44 v45) := ⟨_, hP, hD⟩
            refine lv_aload_n hx hb dX7_oneMember_243 rfl (lv_at hl 2 rfl) ?_
            refine va_get (D := (dC, dI)) (ci := 6) (v := .ref (r 16)) (C := RX7) (T := TX7) (N := 46) hx hb hts hiX7 hown hK hP 0 rfl rfl 16 (by decide) (hts (.fieldLink RX7 55 "LinkModelsModel" "isConstant" "[Z") (by decide +kernel)) (fun _ h9 => h9) rfl dX7_oneMember_244 ?_
            refine lv_iload hx hb dX7_oneMember_247 (lv_at hl 0 rfl) ?_
            refine lv_iconst (v := 0) hx hb dX7_oneMember_249 (by decide) ?_
            refine va_zast hx hb hK hP hD hS 14 2 rfl rfl (vp_in_nI (show (12 * ci) + (mb ci) < 960 by omega) (by decide)) dX7_oneMember_250 (fun H locs hP hD hS => ?_)
            obtain ⟨f65, hP, hD⟩ : ∃ g : Nat → Int32, va_P (dC, dI) vwCl (rW h0 r cI cJ cZ v0 a1 (nI tp) (nI bs) (fun j => nI (cl j)) a5 a6 a7 (fun j => nI (fc j)) a9 (fun j => nI (mb j)) a11 a12 f62 f63 f64 g a17 a18 a19 a20 (nI o49) o50 o51 o52 v25 v26 (nI bb) (fun j => nI (ct j)) (nI us) a30 a31 a32 a33 a34 a35 a36 a37 (fun j => nI (pil j)) (fun j => nI (rwv j)) (nI rl) v41 v42 v43 v44 v45) H ∧ va_D A (rW h0 r cI cJ cZ v0 a1 (nI tp) (nI bs) (fun j => nI (cl j)) a5 a6 a7 (fun j => nI (fc j)) a9 (fun j => nI (mb j)) a11 a12 f62 f63 f64 g a17 a18 a19 a20 (nI o49) o50 o51 o52 v25 v26 (nI bb) (fun j => nI (ct j)) (nI us) a30 a31 a32 a33 a34 a35 a36 a37 (fun j => nI (pil j)) (fun j => nI (rwv j)) (nI rl) v41 v42 v43 v44 v45) := ⟨_, hP, hD⟩
            refine lv_aload_n hx hb dX7_oneMember_251 rfl (lv_at hl 2 rfl) ?_
            refine va_get (D := (dC, dI)) (ci := 6) (v := .ref (r 18)) (C := RX7) (T := TX7) (N := 46) hx hb hts hiX7 hown hK hP 0 rfl rfl 18 (by decide) (hts (.fieldLink RX7 61 "LinkModelsModel" "many" "[I") (by decide +kernel)) (fun _ h9 => h9) rfl dX7_oneMember_252 ?_
            refine lv_iload hx hb dX7_oneMember_255 (lv_at hl 0 rfl) ?_
            refine lv_iconst (v := 0) hx hb dX7_oneMember_257 (by decide) ?_
            refine va_iast hx hb hK hP hD hS 16 0 rfl rfl (vp_in_nI (show (12 * ci) + (mb ci) < 960 by omega) (by decide)) dX7_oneMember_258 (fun H locs hP hD hS => ?_)
            obtain ⟨f66, hP, hD⟩ : ∃ g : Nat → Int32, va_P (dC, dI) vwCl (rW h0 r cI cJ cZ v0 a1 (nI tp) (nI bs) (fun j => nI (cl j)) a5 a6 a7 (fun j => nI (fc j)) a9 (fun j => nI (mb j)) a11 a12 f62 f63 f64 f65 a17 g a19 a20 (nI o49) o50 o51 o52 v25 v26 (nI bb) (fun j => nI (ct j)) (nI us) a30 a31 a32 a33 a34 a35 a36 a37 (fun j => nI (pil j)) (fun j => nI (rwv j)) (nI rl) v41 v42 v43 v44 v45) H ∧ va_D A (rW h0 r cI cJ cZ v0 a1 (nI tp) (nI bs) (fun j => nI (cl j)) a5 a6 a7 (fun j => nI (fc j)) a9 (fun j => nI (mb j)) a11 a12 f62 f63 f64 f65 a17 g a19 a20 (nI o49) o50 o51 o52 v25 v26 (nI bb) (fun j => nI (ct j)) (nI us) a30 a31 a32 a33 a34 a35 a36 a37 (fun j => nI (pil j)) (fun j => nI (rwv j)) (nI rl) v41 v42 v43 v44 v45) := ⟨_, hP, hD⟩
            refine lv_aload_n hx hb dX7_oneMember_259 rfl (lv_at hl 2 rfl) ?_
            refine va_get (D := (dC, dI)) (ci := 6) (v := .ref (r 17)) (C := RX7) (T := TX7) (N := 46) hx hb hts hiX7 hown hK hP 0 rfl rfl 17 (by decide) (hts (.fieldLink RX7 58 "LinkModelsModel" "number" "[I") (by decide +kernel)) (fun _ h9 => h9) rfl dX7_oneMember_260 ?_
            refine lv_iload hx hb dX7_oneMember_263 (lv_at hl 0 rfl) ?_
            refine lv_iconst (v := 0) hx hb dX7_oneMember_265 (by decide) ?_
            refine va_iast hx hb hK hP hD hS 15 0 rfl rfl (vp_in_nI (show (12 * ci) + (mb ci) < 960 by omega) (by decide)) dX7_oneMember_266 (fun H locs hP hD hS => ?_)
            obtain ⟨f67, hP, hD⟩ : ∃ g : Nat → Int32, va_P (dC, dI) vwCl (rW h0 r cI cJ cZ v0 a1 (nI tp) (nI bs) (fun j => nI (cl j)) a5 a6 a7 (fun j => nI (fc j)) a9 (fun j => nI (mb j)) a11 a12 f62 f63 f64 f65 g f66 a19 a20 (nI o49) o50 o51 o52 v25 v26 (nI bb) (fun j => nI (ct j)) (nI us) a30 a31 a32 a33 a34 a35 a36 a37 (fun j => nI (pil j)) (fun j => nI (rwv j)) (nI rl) v41 v42 v43 v44 v45) H ∧ va_D A (rW h0 r cI cJ cZ v0 a1 (nI tp) (nI bs) (fun j => nI (cl j)) a5 a6 a7 (fun j => nI (fc j)) a9 (fun j => nI (mb j)) a11 a12 f62 f63 f64 f65 g f66 a19 a20 (nI o49) o50 o51 o52 v25 v26 (nI bb) (fun j => nI (ct j)) (nI us) a30 a31 a32 a33 a34 a35 a36 a37 (fun j => nI (pil j)) (fun j => nI (rwv j)) (nI rl) v41 v42 v43 v44 v45) := ⟨_, hP, hD⟩
            refine lv_aload_n hx hb dX7_oneMember_267 rfl (lv_at hl 2 rfl) ?_
            have hFc := z_freeW hD hS hA
            refine va_callv (va_runV (As := []) (rest := []) ⟨hx, hb, hml, hown, hts⟩ (kX7_next l dC dI h0 r cI cJ cZ v0 a1 tp bs cl a5 a6 a7 fc a9 mb a11 a12 f62 f63 f64 f65 f67 f66 a19 a20 o49 o50 o51 o52 v25 v26 bb ct us a30 a31 a32 a33 a34 a35 a36 a37 pil rwv rl v41 v42 v43 v44 v45 ⟨by omega, by omega, by omega, hcl, hfc, hmb, hct, hpil, hrwv⟩ (by first | omega | assumption | trivial) H.size) (cwV 0 hts zgX7_oneMember_X7_next_195 rfl rfl rfl (by decide +kernel) ⟨(show 2 + 1 ≤ 4 by omega), (show 8 + (2 + 11) + 45 ≤ 89 by omega)⟩) (zVm (ci := 6) (q0 := 0) (q := (RX7, TX7, 46)) hK hP hD hL hS.2.1 hFc rfl rfl rfl) rfl rfl hl.1 rfl (lv_room (Nat.le_of_ble_eq_true rfl)) dX7_oneMember_268 ⟨(show 0 + 0 ≤ 0 by omega), (show 0 + 0 ≤ 0 by omega)⟩) hS (fun q _ h => hFc q h) hFc (fun u73 t H1 locs ht hvm hw hB hz1 hk1 hS => ?_)
            obtain ⟨o69, o70, o71, o72⟩ := u73
            obtain ⟨hP, hK9, hD⟩ := hB
            rw [ht] at hP
            have hD := hD.weaken (fun k q _ h => hFc q.1 h)
            generalize H1 = H at hP hS
            have hP : va_P (dC, dI) vwCl (rW h0 r cI cJ cZ v0 a1 (nI tp) (nI bs) (fun j => nI (cl j)) a5 a6 a7 (fun j => nI (fc j)) a9 (fun j => nI (mb j)) a11 a12 f62 f63 f64 f65 f67 f66 a19 a20 (nI o69) o70 o71 o72 v25 v26 (nI bb) (fun j => nI (ct j)) (nI us) a30 a31 a32 a33 a34 a35 a36 a37 (fun j => nI (pil j)) (fun j => nI (rwv j)) (nI rl) v41 v42 v43 v44 v45) H := hP
            have hD : va_D A (rW h0 r cI cJ cZ v0 a1 (nI tp) (nI bs) (fun j => nI (cl j)) a5 a6 a7 (fun j => nI (fc j)) a9 (fun j => nI (mb j)) a11 a12 f62 f63 f64 f65 f67 f66 a19 a20 (nI o69) o70 o71 o72 v25 v26 (nI bb) (fun j => nI (ct j)) (nI us) a30 a31 a32 a33 a34 a35 a36 a37 (fun j => nI (pil j)) (fun j => nI (rwv j)) (nI rl) v41 v42 v43 v44 v45) := hD
            have hw : (o49 ≤ o69) ∧ (o69 ≤ tp) ∧ (¬ o70 = 0 → o49 < o69) := hw
            obtain ⟨w0r68, w1r68, w2r68⟩ := hw
            refine lv_aload_n hx hb dX7_oneMember_271 rfl (lv_at hl 2 rfl) ?_
            refine va_get (D := (dC, dI)) (ci := 6) (v := .int o70) (C := RX7) (T := TX7) (N := 46) hx hb hts hiX7 hown hK hP 0 rfl rfl 22 (by decide) (hts (.fieldLink RX7 136 "LinkModelsModel" "token" "I") (by decide +kernel)) (fun _ h9 => h9) rfl dX7_oneMember_272 ?_
            refine lv_bipush (v := 40) hx hb dX7_oneMember_275 (by decide) ?_
            refine lv_icmp_ne (tgt := 290) hx hb dX7_oneMember_277 (by decide) (fun cp277 => ?_) (fun cp277 => ?_)
            · refine lv_aload_n hx hb dX7_oneMember_290 rfl (lv_at hl 2 rfl) ?_
              refine lv_iload_n hx hb dX7_oneMember_291 rfl (lv_at hl 3 rfl) ?_
              refine lv_iload hx hb dX7_oneMember_292 (lv_at hl 0 rfl) ?_
              refine lv_iload hx hb dX7_oneMember_294 (lv_at hl 1 rfl) ?_
              have hFc := z_freeW hD hS hA
              refine va_calli (va_runV (As := [.int (nI ci), .int (nI ((12 * ci) + (mb ci))), .int r47]) (rest := []) ⟨hx, hb, hml, hown, hts⟩ (kX7_field l dC dI h0 r cI cJ cZ v0 a1 tp bs cl a5 a6 a7 fc a9 mb a11 a12 f62 f63 f64 f65 f67 f66 a19 a20 o69 o70 o71 o72 v25 v26 bb ct us a30 a31 a32 a33 a34 a35 a36 a37 pil rwv rl v41 v42 v43 v44 v45 ⟨by omega, by omega, by omega, hcl, hfc, hmb, hct, hpil, hrwv⟩ ci ((12 * ci) + (mb ci)) r47 (by first | omega | assumption | trivial) (by first | omega | assumption | trivial) (by first | omega | assumption | trivial) H.size) (cwV 3 hts zgX7_oneMember_X7_field_225 rfl rfl rfl (by decide +kernel) ⟨(show 3 + 1 ≤ 4 by omega), (show 8 + (4 + 11) + 66 ≤ 89 by omega)⟩) (zVm (ci := 6) (q0 := 0) (q := (RX7, TX7, 46)) hK hP hD hL hS.2.1 hFc rfl rfl rfl) rfl rfl hl.1 rfl (lv_room (Nat.le_of_ble_eq_true rfl)) dX7_oneMember_296 ⟨(show 0 + 0 ≤ 0 by omega), (show 0 + 0 ≤ 0 by omega)⟩) hS (fun q _ h => hFc q h) hFc (fun r74 u83 t H1 locs ht hvm hw hB hz1 hk1 hS => ?_)
              obtain ⟨o75, o76, o77, o78, o79, o80, o81, o82⟩ := u83
              obtain ⟨hP, hK9, hD⟩ := hB
              rw [ht] at hP
              have hD := hD.weaken (fun k q _ h => hFc q.1 h)
              generalize H1 = H at hP hS
              have hP : va_P (dC, dI) vwCl (rW h0 r cI cJ cZ v0 a1 (nI tp) (nI bs) (fun j => nI (cl j)) a5 a6 a7 (fun j => nI (fc j)) a9 (fun j => nI (mb j)) a11 a12 f62 f63 f64 o81 o82 f66 a19 a20 (nI o75) o76 o77 o78 o79 o80 (nI bb) (fun j => nI (ct j)) (nI us) a30 a31 a32 a33 a34 a35 a36 a37 (fun j => nI (pil j)) (fun j => nI (rwv j)) (nI rl) v41 v42 v43 v44 v45) H := hP
              have hD : va_D A (rW h0 r cI cJ cZ v0 a1 (nI tp) (nI bs) (fun j => nI (cl j)) a5 a6 a7 (fun j => nI (fc j)) a9 (fun j => nI (mb j)) a11 a12 f62 f63 f64 o81 o82 f66 a19 a20 (nI o75) o76 o77 o78 o79 o80 (nI bb) (fun j => nI (ct j)) (nI us) a30 a31 a32 a33 a34 a35 a36 a37 (fun j => nI (pil j)) (fun j => nI (rwv j)) (nI rl) v41 v42 v43 v44 v45) := hD
              have hw : (r74 = 0 ∨ r74 = 1) ∧ (o69 ≤ o75) ∧ (o75 ≤ tp) := hw
              obtain ⟨w0r74, w1r74, w2r74⟩ := hw
              exact J299 r74 o75 o76 o77 o78 o79 o80 f62 f63 o81 o82 f64 f66 a19 a20 _ _ ls  (by first | omega | assumption | trivial) (by first | omega | assumption | trivial) (by first | omega | assumption | trivial) hP hD hS (lv_sub hl [2, 3] rfl)
            · have zcp277 := w2r68 (by rw [cp277]; decide)
              refine lv_aload_n hx hb dX7_oneMember_280 rfl (lv_at hl 2 rfl) ?_
              refine lv_iload_n hx hb dX7_oneMember_281 rfl (lv_at hl 3 rfl) ?_
              refine lv_iload hx hb dX7_oneMember_282 (lv_at hl 0 rfl) ?_
              have hFc := z_freeW hD hS hA
              refine va_calli (va_runV (As := [.int (nI ci), .int (nI ((12 * ci) + (mb ci)))]) (rest := []) ⟨hx, hb, hml, hown, hts⟩ (kX7_method l dC dI h0 r cI cJ cZ v0 a1 tp bs cl a5 a6 a7 fc a9 mb a11 a12 f62 f63 f64 f65 f67 f66 a19 a20 o69 o70 o71 o72 v25 v26 bb ct us a30 a31 a32 a33 a34 a35 a36 a37 pil rwv rl v41 v42 v43 v44 v45 ⟨by omega, by omega, by omega, hcl, hfc, hmb, hct, hpil, hrwv⟩ ci ((12 * ci) + (mb ci)) (by first | omega | assumption | trivial) (by first | omega | assumption | trivial) (by first | omega | assumption | trivial) H.size) (cwV 2 hts zgX7_oneMember_X7_method_221 rfl rfl rfl (by decide +kernel) ⟨(show 3 + 1 ≤ 4 by omega), (show 8 + (4 + 11) + 66 ≤ 89 by omega)⟩) (zVm (ci := 6) (q0 := 0) (q := (RX7, TX7, 46)) hK hP hD hL hS.2.1 hFc rfl rfl rfl) rfl rfl hl.1 rfl (lv_room (Nat.le_of_ble_eq_true rfl)) dX7_oneMember_284 ⟨(show 0 + 0 ≤ 0 by omega), (show 0 + 0 ≤ 0 by omega)⟩) hS (fun q _ h => hFc q h) hFc (fun r84 u95 t H1 locs ht hvm hw hB hz1 hk1 hS => ?_)
              obtain ⟨o85, o86, o87, o88, o89, o90, o91, o92, o93, o94⟩ := u95
              obtain ⟨hP, hK9, hD⟩ := hB
              rw [ht] at hP
              have hD := hD.weaken (fun k q _ h => hFc q.1 h)
              generalize H1 = H at hP hS
              have hP : va_P (dC, dI) vwCl (rW h0 r cI cJ cZ v0 a1 (nI tp) (nI bs) (fun j => nI (cl j)) a5 a6 a7 (fun j => nI (fc j)) a9 (fun j => nI (mb j)) a11 a12 f62 f63 o91 f65 f67 o92 o93 o94 (nI o85) o86 o87 o88 o89 o90 (nI bb) (fun j => nI (ct j)) (nI us) a30 a31 a32 a33 a34 a35 a36 a37 (fun j => nI (pil j)) (fun j => nI (rwv j)) (nI rl) v41 v42 v43 v44 v45) H := hP
              have hD : va_D A (rW h0 r cI cJ cZ v0 a1 (nI tp) (nI bs) (fun j => nI (cl j)) a5 a6 a7 (fun j => nI (fc j)) a9 (fun j => nI (mb j)) a11 a12 f62 f63 o91 f65 f67 o92 o93 o94 (nI o85) o86 o87 o88 o89 o90 (nI bb) (fun j => nI (ct j)) (nI us) a30 a31 a32 a33 a34 a35 a36 a37 (fun j => nI (pil j)) (fun j => nI (rwv j)) (nI rl) v41 v42 v43 v44 v45) := hD
              have hw : (r84 = 0 ∨ r84 = 1) ∧ (o69 ≤ o85) ∧ (o85 ≤ tp) := hw
              obtain ⟨w0r84, w1r84, w2r84⟩ := hw
              refine lv_goto (tgt := 299) hx hb dX7_oneMember_287 (by decide) ?_
              exact J299 r84 o85 o86 o87 o88 o89 o90 f62 f63 f65 f67 o91 o92 o93 o94 _ _ ls  (by first | omega | assumption | trivial) (by first | omega | assumption | trivial) (by first | omega | assumption | trivial) hP hD hS (lv_sub hl [2, 3] rfl)
          · refine lv_aload_n hx hb dX7_oneMember_197 rfl (lv_at hl 1 rfl) ?_
            refine lv_iconst (v := 1) hx hb dX7_oneMember_198 (by decide) ?_
            have hFc := z_freeW hD hS hA
            refine va_calli (va_runV (As := [.int 1]) (rest := []) ⟨hx, hb, hml, hown, hts⟩ (kX7_fails l dC dI h0 r cI cJ cZ v0 a1 tp bs cl a5 a6 a7 fc a9 mb a11 a12 a13 a14 a15 a16 a17 a18 a19 a20 o49 o50 o51 o52 v25 v26 bb ct us a30 a31 a32 a33 a34 a35 a36 a37 pil rwv rl v41 v42 v43 v44 v45 ⟨by omega, by omega, by omega, hcl, hfc, hmb, hct, hpil, hrwv⟩ (1 : Int32) H.size) (cwV 1 hts zgX7_oneMember_X7_fails_192 rfl rfl rfl (by decide +kernel) ⟨(show 0 + 1 ≤ 4 by omega), (show 8 + (2 + 11) + 0 ≤ 89 by omega)⟩) (zVm (ci := 6) (q0 := 0) (q := (RX7, TX7, 46)) hK hP hD hL hS.2.1 hFc rfl rfl rfl) rfl rfl hl.1 rfl (lv_room (Nat.le_of_ble_eq_true rfl)) dX7_oneMember_199 ⟨(show 0 + 0 ≤ 0 by omega), (show 0 + 0 ≤ 0 by omega)⟩) hS (fun q _ h => hFc q h) hFc (fun r96 u99 t H1 locs ht hvm hw hB hz1 hk1 hS => ?_)
            obtain ⟨o97, o98⟩ := u99
            obtain ⟨hP, hK9, hD⟩ := hB
            rw [ht] at hP
            have hD := hD.weaken (fun k q _ h => hFc q.1 h)
            generalize H1 = H at hP hS
            have hP : va_P (dC, dI) vwCl (rW h0 r cI cJ cZ v0 a1 (nI tp) (nI bs) (fun j => nI (cl j)) a5 a6 a7 (fun j => nI (fc j)) a9 (fun j => nI (mb j)) a11 a12 a13 a14 a15 a16 a17 a18 a19 a20 (nI o49) o50 o51 o52 o97 o98 (nI bb) (fun j => nI (ct j)) (nI us) a30 a31 a32 a33 a34 a35 a36 a37 (fun j => nI (pil j)) (fun j => nI (rwv j)) (nI rl) v41 v42 v43 v44 v45) H := hP
            have hD : va_D A (rW h0 r cI cJ cZ v0 a1 (nI tp) (nI bs) (fun j => nI (cl j)) a5 a6 a7 (fun j => nI (fc j)) a9 (fun j => nI (mb j)) a11 a12 a13 a14 a15 a16 a17 a18 a19 a20 (nI o49) o50 o51 o52 o97 o98 (nI bb) (fun j => nI (ct j)) (nI us) a30 a31 a32 a33 a34 a35 a36 a37 (fun j => nI (pil j)) (fun j => nI (rwv j)) (nI rl) v41 v42 v43 v44 v45) := hD
            have hw : (r96 = 0 ∨ r96 = 1) ∧ (r96 = 0) := hw
            obtain ⟨w0r96, w1r96⟩ := hw
            subst w1r96
            have hP9 : va_P (dC, dI) vwCl (rW h0 r cI cJ cZ v0 a1 (nI tp) (nI bs) (fun j => nI (cl j)) a5 a6 a7 (fun j => nI (fc j)) a9 (fun j => nI (mb j)) a11 a12 a13 a14 a15 a16 a17 a18 a19 a20 (nI o49) o50 o51 o52 o97 o98 (nI bb) (fun j => nI (ct j)) (nI us) a30 a31 a32 a33 a34 a35 a36 a37 (fun j => nI (pil j)) (fun j => nI (rwv j)) (nI rl) v41 v42 v43 v44 v45) H := hP
            have hD9 : va_D A (rW h0 r cI cJ cZ v0 a1 (nI tp) (nI bs) (fun j => nI (cl j)) a5 a6 a7 (fun j => nI (fc j)) a9 (fun j => nI (mb j)) a11 a12 a13 a14 a15 a16 a17 a18 a19 a20 (nI o49) o50 o51 o52 o97 o98 (nI bb) (fun j => nI (ct j)) (nI us) a30 a31 a32 a33 a34 a35 a36 a37 (fun j => nI (pil j)) (fun j => nI (rwv j)) (nI rl) v41 v42 v43 v44 v45) := hD
            exact W.zret (v := (0 : Int32)) hx hb hr rfl (fun t ht hW => ⟨⟨(0 : Int32), (o49, o50, o51, o52, o97, o98, a13, a14, a16, a17, a15, a18, a19, a20, mb), rfl, ⟨(Or.inl rfl), (by omega), (by omega), (by first | (intro h9; exact absurd h9 (by decide)) | (intro _; omega)), hmb⟩, by rw [ht]; exact hP9, va_K.moved hW.alike hK, hD9⟩, hS.F ht⟩) hS.2.2 dX7_oneMember_202
      · have qcp9 : ¬ mo = 0 := fun h9 => cp9 ((nI_eq (a := mo) (b := 0) (by omega) (by omega)).mpr h9)
        refine lv_aload_n hx hb dX7_oneMember_12 rfl (lv_at hl 0 rfl) ?_
        obtain ⟨x100, hZ9⟩ := zL_6 hL
        refine va_gets hx hb hZ9 hS hown (hts (.fieldLink RX7 183 "LinkModelsModel" "STATIC_WORD" "J") (by decide +kernel)) (fun _ h9 => h9) dX7_oneMember_13 ?_
        have hFc := z_freeW hD hS hA
        refine vp_callSi (W.runV (As := [.long x100]) (rest := []) ⟨hx, hb, hml, hown, hts⟩ (kX7_isWord l dC dI h0 r cI cJ cZ v0 a1 tp bs cl a5 a6 a7 fc a9 mb a11 a12 a13 a14 a15 a16 a17 a18 a19 a20 a k q w v25 v26 bb ct us a30 a31 a32 a33 a34 a35 a36 a37 pil rwv rl v41 v42 v43 v44 v45 ⟨by omega, by omega, by omega, hcl, hfc, hmb, hct, hpil, hrwv⟩ x100 H.size) (cwV 1 hts zgX7_oneMember_X7_isWord_164 rfl rfl rfl (by decide +kernel) ⟨(show 0 + 1 ≤ 4 by omega), (show 8 + (3 + 11) + 0 ≤ 89 by omega)⟩) (zVm (ci := 6) (q0 := 0) (q := (RX7, TX7, 46)) hK hP hD hL hS.2.1 hFc rfl rfl rfl) rfl rfl hl.1 rfl (lv_room (Nat.le_of_ble_eq_true rfl)) dX7_oneMember_16 ⟨(show 0 + 0 ≤ 0 by omega), (show 0 + 0 ≤ 0 by omega)⟩) (fun r101 hw => ?_)
        have hw : (r101 = 0 ∨ r101 = 1) ∧ (r101 = 1 → k = 87) := hw
        obtain ⟨w0r101, w1r101⟩ := hw
        refine lv_if_eq (tgt := 26) hx hb dX7_oneMember_19 (by decide) (fun cp19 => ?_) (fun cp19 => ?_)
        · refine lv_aload_n hx hb dX7_oneMember_26 rfl (lv_at hl 0 rfl) ?_
          obtain ⟨x102, hZ9⟩ := zL_7 hL
          refine va_gets hx hb hZ9 hS hown (hts (.fieldLink RX7 186 "LinkModelsModel" "HIDDEN_WORD" "J") (by decide +kernel)) (fun _ h9 => h9) dX7_oneMember_27 ?_
          have hFc := z_freeW hD hS hA
          refine vp_callSi (W.runV (As := [.long x102]) (rest := []) ⟨hx, hb, hml, hown, hts⟩ (kX7_isWord l dC dI h0 r cI cJ cZ v0 a1 tp bs cl a5 a6 a7 fc a9 mb a11 a12 a13 a14 a15 a16 a17 a18 a19 a20 a k q w v25 v26 bb ct us a30 a31 a32 a33 a34 a35 a36 a37 pil rwv rl v41 v42 v43 v44 v45 ⟨by omega, by omega, by omega, hcl, hfc, hmb, hct, hpil, hrwv⟩ x102 H.size) (cwV 1 hts zgX7_oneMember_X7_isWord_164 rfl rfl rfl (by decide +kernel) ⟨(show 0 + 1 ≤ 4 by omega), (show 8 + (3 + 11) + 0 ≤ 89 by omega)⟩) (zVm (ci := 6) (q0 := 0) (q := (RX7, TX7, 46)) hK hP hD hL hS.2.1 hFc rfl rfl rfl) rfl rfl hl.1 rfl (lv_room (Nat.le_of_ble_eq_true rfl)) dX7_oneMember_30 ⟨(show 0 + 0 ≤ 0 by omega), (show 0 + 0 ≤ 0 by omega)⟩) (fun r103 hw => ?_)
          have hw : (r103 = 0 ∨ r103 = 1) ∧ (r103 = 1 → k = 87) := hw
          obtain ⟨w0r103, w1r103⟩ := hw
          refine lv_if_eq (tgt := 40) hx hb dX7_oneMember_33 (by decide) (fun cp33 => ?_) (fun cp33 => ?_)
          · refine lv_aload_n hx hb dX7_oneMember_40 rfl (lv_at hl 0 rfl) ?_
            obtain ⟨x104, hZ9⟩ := zL_1 hL
            refine va_gets hx hb hZ9 hS hown (hts (.fieldLink RX7 168 "LinkModelsModel" "FINAL_WORD" "J") (by decide +kernel)) (fun _ h9 => h9) dX7_oneMember_41 ?_
            have hFc := z_freeW hD hS hA
            refine vp_callSi (W.runV (As := [.long x104]) (rest := []) ⟨hx, hb, hml, hown, hts⟩ (kX7_isWord l dC dI h0 r cI cJ cZ v0 a1 tp bs cl a5 a6 a7 fc a9 mb a11 a12 a13 a14 a15 a16 a17 a18 a19 a20 a k q w v25 v26 bb ct us a30 a31 a32 a33 a34 a35 a36 a37 pil rwv rl v41 v42 v43 v44 v45 ⟨by omega, by omega, by omega, hcl, hfc, hmb, hct, hpil, hrwv⟩ x104 H.size) (cwV 1 hts zgX7_oneMember_X7_isWord_164 rfl rfl rfl (by decide +kernel) ⟨(show 0 + 1 ≤ 4 by omega), (show 8 + (3 + 11) + 0 ≤ 89 by omega)⟩) (zVm (ci := 6) (q0 := 0) (q := (RX7, TX7, 46)) hK hP hD hL hS.2.1 hFc rfl rfl rfl) rfl rfl hl.1 rfl (lv_room (Nat.le_of_ble_eq_true rfl)) dX7_oneMember_44 ⟨(show 0 + 0 ≤ 0 by omega), (show 0 + 0 ≤ 0 by omega)⟩) (fun r105 hw => ?_)
            have hw : (r105 = 0 ∨ r105 = 1) ∧ (r105 = 1 → k = 87) := hw
            obtain ⟨w0r105, w1r105⟩ := hw
            refine lv_if_eq (tgt := 54) hx hb dX7_oneMember_47 (by decide) (fun cp47 => ?_) (fun cp47 => ?_)
            · refine lv_aload_n hx hb dX7_oneMember_54 rfl (lv_at hl 0 rfl) ?_
              obtain ⟨x106, hZ9⟩ := zL_8 hL
              refine va_gets hx hb hZ9 hS hown (hts (.fieldLink RX7 189 "LinkModelsModel" "ABSTRACT_WORD" "J") (by decide +kernel)) (fun _ h9 => h9) dX7_oneMember_55 ?_
              have hFc := z_freeW hD hS hA
              refine vp_callSi (W.runV (As := [.long x106]) (rest := []) ⟨hx, hb, hml, hown, hts⟩ (kX7_isWord l dC dI h0 r cI cJ cZ v0 a1 tp bs cl a5 a6 a7 fc a9 mb a11 a12 a13 a14 a15 a16 a17 a18 a19 a20 a k q w v25 v26 bb ct us a30 a31 a32 a33 a34 a35 a36 a37 pil rwv rl v41 v42 v43 v44 v45 ⟨by omega, by omega, by omega, hcl, hfc, hmb, hct, hpil, hrwv⟩ x106 H.size) (cwV 1 hts zgX7_oneMember_X7_isWord_164 rfl rfl rfl (by decide +kernel) ⟨(show 0 + 1 ≤ 4 by omega), (show 8 + (3 + 11) + 0 ≤ 89 by omega)⟩) (zVm (ci := 6) (q0 := 0) (q := (RX7, TX7, 46)) hK hP hD hL hS.2.1 hFc rfl rfl rfl) rfl rfl hl.1 rfl (lv_room (Nat.le_of_ble_eq_true rfl)) dX7_oneMember_58 ⟨(show 0 + 0 ≤ 0 by omega), (show 0 + 0 ≤ 0 by omega)⟩) (fun r107 hw => ?_)
              have hw : (r107 = 0 ∨ r107 = 1) ∧ (r107 = 1 → k = 87) := hw
              obtain ⟨w0r107, w1r107⟩ := hw
              refine lv_if_eq (tgt := 69) hx hb dX7_oneMember_61 (by decide) (fun cp61 => ?_) (fun cp61 => ?_)
              · refine lv_iconst (v := 0) hx hb dX7_oneMember_69 (by decide) ?_
                exact J70 (0 : Int32) _ _ ls  (by first | exact Or.inl rfl | exact Or.inr (w1r107 (w0r107.resolve_left cp61))) (by first | omega | assumption | trivial) hP hD hS (lv_sub hl [0, 1, 2, 3] rfl)
              · refine lv_bipush (v := 8) hx hb dX7_oneMember_64 (by decide) ?_
                refine lv_goto (tgt := 70) hx hb dX7_oneMember_66 (by decide) ?_
                exact J70 (8 : Int32) _ _ ls  (by first | exact Or.inl rfl | exact Or.inr (w1r107 (w0r107.resolve_left cp61))) (by first | omega | assumption | trivial) hP hD hS (lv_sub hl [0, 1, 2, 3] rfl)
            · refine lv_iconst (v := 4) hx hb dX7_oneMember_50 (by decide) ?_
              refine lv_goto (tgt := 70) hx hb dX7_oneMember_51 (by decide) ?_
              exact J70 (4 : Int32) _ _ ls  (by first | exact Or.inl rfl | exact Or.inr (w1r105 (w0r105.resolve_left cp47))) (by first | omega | assumption | trivial) hP hD hS (lv_sub hl [0, 1, 2, 3] rfl)
          · refine lv_iconst (v := 2) hx hb dX7_oneMember_36 (by decide) ?_
            refine lv_goto (tgt := 70) hx hb dX7_oneMember_37 (by decide) ?_
            exact J70 (2 : Int32) _ _ ls  (by first | exact Or.inl rfl | exact Or.inr (w1r103 (w0r103.resolve_left cp33))) (by first | omega | assumption | trivial) hP hD hS (lv_sub hl [0, 1, 2, 3] rfl)
        · refine lv_iconst (v := 1) hx hb dX7_oneMember_22 (by decide) ?_
          refine lv_goto (tgt := 70) hx hb dX7_oneMember_23 (by decide) ?_
          exact J70 (1 : Int32) _ _ ls  (by first | exact Or.inl rfl | exact Or.inr (w1r101 (w0r101.resolve_left cp19))) (by first | omega | assumption | trivial) hP hD hS (lv_sub hl [0, 1, 2, 3] rfl)
  refine lv_iconst (v := 0) hx hb dX7_oneMember_0 (by decide) ?_
  refine lv_istore_n (lv' := [(2, .int 0), (0, .ref h0), (1, .int (nI ci))]) hx hb dX7_oneMember_1 rfl hl (by decide) rfl (fun ls hl => ?_)
  refine lv_iconst (v := 0) hx hb dX7_oneMember_2 (by decide) ?_
  refine lv_istore_n (lv' := [(3, .int 0), (2, .int 0), (0, .ref h0), (1, .int (nI ci))]) hx hb dX7_oneMember_3 rfl hl (by decide) rfl (fun ls hl => ?_)
  refine lv_iconst (v := 1) hx hb dX7_oneMember_4 (by decide) ?_
  refine lv_istore (lv' := [(4, .int 1), (3, .int 0), (2, .int 0), (0, .ref h0), (1, .int (nI ci))]) hx hb dX7_oneMember_5 hl (by decide) rfl (fun ls hl => ?_)
  exact J7 _ 1 (0 : Int32) 0 1 az v22 v23 v24 _ _ ls (Nat.lt_succ_self _) (by first | omega | assumption | trivial) (by first | omega | assumption | trivial) (by first | omega | assumption | trivial) (by first | omega | assumption | trivial) (by first | omega | assumption | trivial) (by first | exact Or.inr rfl | exact Or.inl (by assumption) | assumption) (by first | omega | assumption | trivial) (by first | omega | assumption | trivial) hP hD hS (lv_sub hl [3, 4, 2, 1, 0] rfl)
