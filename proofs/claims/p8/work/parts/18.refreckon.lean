theorem dX7_reckon_0 : decode cX7_reckon 0 = .ok (.aload_n 0, 1) := by decide +kernel
theorem dX7_reckon_1 : decode cX7_reckon 1 = .ok (.getfield 17, 3) := by decide +kernel
theorem dX7_reckon_4 : decode cX7_reckon 4 = .ok (.aload_n 0, 1) := by decide +kernel
theorem dX7_reckon_5 : decode cX7_reckon 5 = .ok (.getfield 198, 3) := by decide +kernel
theorem dX7_reckon_8 : decode cX7_reckon 8 = .ok (.iaload, 1) := by decide +kernel
theorem dX7_reckon_9 : decode cX7_reckon 9 = .ok (.istore_n 1, 1) := by decide +kernel
theorem dX7_reckon_10 : decode cX7_reckon 10 = .ok (.iconst 0, 1) := by decide +kernel
theorem dX7_reckon_11 : decode cX7_reckon 11 = .ok (.istore_n 2, 1) := by decide +kernel
theorem dX7_reckon_12 : decode cX7_reckon 12 = .ok (.iload_n 2, 1) := by decide +kernel
theorem dX7_reckon_13 : decode cX7_reckon 13 = .ok (.iload_n 1, 1) := by decide +kernel
theorem dX7_reckon_14 : decode cX7_reckon 14 = .ok (.if_icmp .ge 28, 3) := by decide +kernel
theorem dX7_reckon_17 : decode cX7_reckon 17 = .ok (.aload_n 0, 1) := by decide +kernel
theorem dX7_reckon_18 : decode cX7_reckon 18 = .ok (.getfield 70, 3) := by decide +kernel
theorem dX7_reckon_21 : decode cX7_reckon 21 = .ok (.iload_n 2, 1) := by decide +kernel
theorem dX7_reckon_22 : decode cX7_reckon 22 = .ok (.aload_n 0, 1) := by decide +kernel
theorem dX7_reckon_23 : decode cX7_reckon 23 = .ok (.bipush 16, 2) := by decide +kernel
theorem dX7_reckon_25 : decode cX7_reckon 25 = .ok (.aload_n 0, 1) := by decide +kernel
theorem dX7_reckon_26 : decode cX7_reckon 26 = .ok (.getfield 198, 3) := by decide +kernel
theorem dX7_reckon_29 : decode cX7_reckon 29 = .ok (.imul, 1) := by decide +kernel
theorem dX7_reckon_30 : decode cX7_reckon 30 = .ok (.iload_n 2, 1) := by decide +kernel
theorem dX7_reckon_31 : decode cX7_reckon 31 = .ok (.iadd, 1) := by decide +kernel
theorem dX7_reckon_32 : decode cX7_reckon 32 = .ok (.invokevirtual 241, 3) := by decide +kernel
theorem dX7_reckon_35 : decode cX7_reckon 35 = .ok (.iastore, 1) := by decide +kernel
theorem dX7_reckon_36 : decode cX7_reckon 36 = .ok (.iinc 2 1, 3) := by decide +kernel
theorem dX7_reckon_39 : decode cX7_reckon 39 = .ok (.goto (-27), 3) := by decide +kernel
theorem dX7_reckon_42 : decode cX7_reckon 42 = .ok (.iconst 1, 1) := by decide +kernel
theorem dX7_reckon_43 : decode cX7_reckon 43 = .ok (.istore_n 2, 1) := by decide +kernel
theorem dX7_reckon_44 : decode cX7_reckon 44 = .ok (.iload_n 2, 1) := by decide +kernel
theorem dX7_reckon_45 : decode cX7_reckon 45 = .ok (.ifCond .eq 104, 3) := by decide +kernel
theorem dX7_reckon_48 : decode cX7_reckon 48 = .ok (.iconst 0, 1) := by decide +kernel
theorem dX7_reckon_49 : decode cX7_reckon 49 = .ok (.istore_n 2, 1) := by decide +kernel
theorem dX7_reckon_50 : decode cX7_reckon 50 = .ok (.iconst 0, 1) := by decide +kernel
theorem dX7_reckon_51 : decode cX7_reckon 51 = .ok (.istore_n 3, 1) := by decide +kernel
theorem dX7_reckon_52 : decode cX7_reckon 52 = .ok (.iload_n 3, 1) := by decide +kernel
theorem dX7_reckon_53 : decode cX7_reckon 53 = .ok (.iload_n 1, 1) := by decide +kernel
theorem dX7_reckon_54 : decode cX7_reckon 54 = .ok (.if_icmp .ge 92, 3) := by decide +kernel
theorem dX7_reckon_57 : decode cX7_reckon 57 = .ok (.aload_n 0, 1) := by decide +kernel
theorem dX7_reckon_58 : decode cX7_reckon 58 = .ok (.getfield 70, 3) := by decide +kernel
theorem dX7_reckon_61 : decode cX7_reckon 61 = .ok (.iload_n 3, 1) := by decide +kernel
theorem dX7_reckon_62 : decode cX7_reckon 62 = .ok (.iaload, 1) := by decide +kernel
theorem dX7_reckon_63 : decode cX7_reckon 63 = .ok (.istore 4, 2) := by decide +kernel
theorem dX7_reckon_65 : decode cX7_reckon 65 = .ok (.iconst 0, 1) := by decide +kernel
theorem dX7_reckon_66 : decode cX7_reckon 66 = .ok (.istore 5, 2) := by decide +kernel
theorem dX7_reckon_68 : decode cX7_reckon 68 = .ok (.iload 5, 2) := by decide +kernel
theorem dX7_reckon_70 : decode cX7_reckon 70 = .ok (.iload_n 1, 1) := by decide +kernel
theorem dX7_reckon_71 : decode cX7_reckon 71 = .ok (.if_icmp .ge 40, 3) := by decide +kernel
theorem dX7_reckon_74 : decode cX7_reckon 74 = .ok (.iload 4, 2) := by decide +kernel
theorem dX7_reckon_76 : decode cX7_reckon 76 = .ok (.aload_n 0, 1) := by decide +kernel
theorem dX7_reckon_77 : decode cX7_reckon 77 = .ok (.getfield 70, 3) := by decide +kernel
theorem dX7_reckon_80 : decode cX7_reckon 80 = .ok (.iload_n 3, 1) := by decide +kernel
theorem dX7_reckon_81 : decode cX7_reckon 81 = .ok (.iaload, 1) := by decide +kernel
theorem dX7_reckon_82 : decode cX7_reckon 82 = .ok (.iload 5, 2) := by decide +kernel
theorem dX7_reckon_84 : decode cX7_reckon 84 = .ok (.ishr, 1) := by decide +kernel
theorem dX7_reckon_85 : decode cX7_reckon 85 = .ok (.iconst 1, 1) := by decide +kernel
theorem dX7_reckon_86 : decode cX7_reckon 86 = .ok (.iand, 1) := by decide +kernel
theorem dX7_reckon_87 : decode cX7_reckon 87 = .ok (.iconst 1, 1) := by decide +kernel
theorem dX7_reckon_88 : decode cX7_reckon 88 = .ok (.if_icmp .ne 13, 3) := by decide +kernel
theorem dX7_reckon_91 : decode cX7_reckon 91 = .ok (.aload_n 0, 1) := by decide +kernel
theorem dX7_reckon_92 : decode cX7_reckon 92 = .ok (.getfield 70, 3) := by decide +kernel
theorem dX7_reckon_95 : decode cX7_reckon 95 = .ok (.iload 5, 2) := by decide +kernel
theorem dX7_reckon_97 : decode cX7_reckon 97 = .ok (.iaload, 1) := by decide +kernel
theorem dX7_reckon_98 : decode cX7_reckon 98 = .ok (.goto 4, 3) := by decide +kernel
theorem dX7_reckon_101 : decode cX7_reckon 101 = .ok (.iconst 0, 1) := by decide +kernel
theorem dX7_reckon_102 : decode cX7_reckon 102 = .ok (.ior, 1) := by decide +kernel
theorem dX7_reckon_103 : decode cX7_reckon 103 = .ok (.istore 4, 2) := by decide +kernel
theorem dX7_reckon_105 : decode cX7_reckon 105 = .ok (.iinc 5 1, 3) := by decide +kernel
theorem dX7_reckon_108 : decode cX7_reckon 108 = .ok (.goto (-40), 3) := by decide +kernel
theorem dX7_reckon_111 : decode cX7_reckon 111 = .ok (.iload_n 2, 1) := by decide +kernel
theorem dX7_reckon_112 : decode cX7_reckon 112 = .ok (.ifCond .ne 14, 3) := by decide +kernel
theorem dX7_reckon_115 : decode cX7_reckon 115 = .ok (.iload 4, 2) := by decide +kernel
theorem dX7_reckon_117 : decode cX7_reckon 117 = .ok (.aload_n 0, 1) := by decide +kernel
theorem dX7_reckon_118 : decode cX7_reckon 118 = .ok (.getfield 70, 3) := by decide +kernel
theorem dX7_reckon_121 : decode cX7_reckon 121 = .ok (.iload_n 3, 1) := by decide +kernel
theorem dX7_reckon_122 : decode cX7_reckon 122 = .ok (.iaload, 1) := by decide +kernel
theorem dX7_reckon_123 : decode cX7_reckon 123 = .ok (.if_icmp .eq 7, 3) := by decide +kernel
theorem dX7_reckon_126 : decode cX7_reckon 126 = .ok (.iconst 1, 1) := by decide +kernel
theorem dX7_reckon_127 : decode cX7_reckon 127 = .ok (.goto 4, 3) := by decide +kernel
theorem dX7_reckon_130 : decode cX7_reckon 130 = .ok (.iconst 0, 1) := by decide +kernel
theorem dX7_reckon_131 : decode cX7_reckon 131 = .ok (.istore_n 2, 1) := by decide +kernel
theorem dX7_reckon_132 : decode cX7_reckon 132 = .ok (.aload_n 0, 1) := by decide +kernel
theorem dX7_reckon_133 : decode cX7_reckon 133 = .ok (.getfield 70, 3) := by decide +kernel
theorem dX7_reckon_136 : decode cX7_reckon 136 = .ok (.iload_n 3, 1) := by decide +kernel
theorem dX7_reckon_137 : decode cX7_reckon 137 = .ok (.iload 4, 2) := by decide +kernel
theorem dX7_reckon_139 : decode cX7_reckon 139 = .ok (.iastore, 1) := by decide +kernel
theorem dX7_reckon_140 : decode cX7_reckon 140 = .ok (.iinc 3 1, 3) := by decide +kernel
theorem dX7_reckon_143 : decode cX7_reckon 143 = .ok (.goto (-91), 3) := by decide +kernel
theorem dX7_reckon_146 : decode cX7_reckon 146 = .ok (.goto (-102), 3) := by decide +kernel
theorem dX7_reckon_149 : decode cX7_reckon 149 = .ok (.iconst 0, 1) := by decide +kernel
theorem dX7_reckon_150 : decode cX7_reckon 150 = .ok (.istore_n 3, 1) := by decide +kernel
theorem dX7_reckon_151 : decode cX7_reckon 151 = .ok (.iload_n 3, 1) := by decide +kernel
theorem dX7_reckon_152 : decode cX7_reckon 152 = .ok (.iload_n 1, 1) := by decide +kernel
theorem dX7_reckon_153 : decode cX7_reckon 153 = .ok (.if_icmp .ge 66, 3) := by decide +kernel
theorem dX7_reckon_156 : decode cX7_reckon 156 = .ok (.aload_n 0, 1) := by decide +kernel
theorem dX7_reckon_157 : decode cX7_reckon 157 = .ok (.getfield 38, 3) := by decide +kernel
theorem dX7_reckon_160 : decode cX7_reckon 160 = .ok (.bipush 16, 2) := by decide +kernel
theorem dX7_reckon_162 : decode cX7_reckon 162 = .ok (.aload_n 0, 1) := by decide +kernel
theorem dX7_reckon_163 : decode cX7_reckon 163 = .ok (.getfield 198, 3) := by decide +kernel
theorem dX7_reckon_166 : decode cX7_reckon 166 = .ok (.imul, 1) := by decide +kernel
theorem dX7_reckon_167 : decode cX7_reckon 167 = .ok (.iload_n 3, 1) := by decide +kernel
theorem dX7_reckon_168 : decode cX7_reckon 168 = .ok (.iadd, 1) := by decide +kernel
theorem dX7_reckon_169 : decode cX7_reckon 169 = .ok (.aload_n 0, 1) := by decide +kernel
theorem dX7_reckon_170 : decode cX7_reckon 170 = .ok (.getfield 70, 3) := by decide +kernel
theorem dX7_reckon_173 : decode cX7_reckon 173 = .ok (.iload_n 3, 1) := by decide +kernel
theorem dX7_reckon_174 : decode cX7_reckon 174 = .ok (.iaload, 1) := by decide +kernel
theorem dX7_reckon_175 : decode cX7_reckon 175 = .ok (.iload_n 3, 1) := by decide +kernel
theorem dX7_reckon_176 : decode cX7_reckon 176 = .ok (.ishr, 1) := by decide +kernel
theorem dX7_reckon_177 : decode cX7_reckon 177 = .ok (.iconst 1, 1) := by decide +kernel
theorem dX7_reckon_178 : decode cX7_reckon 178 = .ok (.iand, 1) := by decide +kernel
theorem dX7_reckon_179 : decode cX7_reckon 179 = .ok (.iconst 1, 1) := by decide +kernel
theorem dX7_reckon_180 : decode cX7_reckon 180 = .ok (.if_icmp .ne 7, 3) := by decide +kernel
theorem dX7_reckon_183 : decode cX7_reckon 183 = .ok (.iconst 3, 1) := by decide +kernel
theorem dX7_reckon_184 : decode cX7_reckon 184 = .ok (.goto 4, 3) := by decide +kernel
theorem dX7_reckon_187 : decode cX7_reckon 187 = .ok (.iconst (-1), 1) := by decide +kernel
theorem dX7_reckon_188 : decode cX7_reckon 188 = .ok (.iastore, 1) := by decide +kernel
theorem dX7_reckon_189 : decode cX7_reckon 189 = .ok (.aload_n 0, 1) := by decide +kernel
theorem dX7_reckon_190 : decode cX7_reckon 190 = .ok (.getfield 41, 3) := by decide +kernel
theorem dX7_reckon_193 : decode cX7_reckon 193 = .ok (.bipush 16, 2) := by decide +kernel
theorem dX7_reckon_195 : decode cX7_reckon 195 = .ok (.aload_n 0, 1) := by decide +kernel
theorem dX7_reckon_196 : decode cX7_reckon 196 = .ok (.getfield 198, 3) := by decide +kernel
theorem dX7_reckon_199 : decode cX7_reckon 199 = .ok (.imul, 1) := by decide +kernel
theorem dX7_reckon_200 : decode cX7_reckon 200 = .ok (.iload_n 3, 1) := by decide +kernel
theorem dX7_reckon_201 : decode cX7_reckon 201 = .ok (.iadd, 1) := by decide +kernel
theorem dX7_reckon_202 : decode cX7_reckon 202 = .ok (.aload_n 0, 1) := by decide +kernel
theorem dX7_reckon_203 : decode cX7_reckon 203 = .ok (.getfield 70, 3) := by decide +kernel
theorem dX7_reckon_206 : decode cX7_reckon 206 = .ok (.iload_n 3, 1) := by decide +kernel
theorem dX7_reckon_207 : decode cX7_reckon 207 = .ok (.iaload, 1) := by decide +kernel
theorem dX7_reckon_208 : decode cX7_reckon 208 = .ok (.iconst 1, 1) := by decide +kernel
theorem dX7_reckon_209 : decode cX7_reckon 209 = .ok (.iload_n 3, 1) := by decide +kernel
theorem dX7_reckon_210 : decode cX7_reckon 210 = .ok (.ishl, 1) := by decide +kernel
theorem dX7_reckon_211 : decode cX7_reckon 211 = .ok (.ior, 1) := by decide +kernel
theorem dX7_reckon_212 : decode cX7_reckon 212 = .ok (.iastore, 1) := by decide +kernel
theorem dX7_reckon_213 : decode cX7_reckon 213 = .ok (.iinc 3 1, 3) := by decide +kernel
theorem dX7_reckon_216 : decode cX7_reckon 216 = .ok (.goto (-65), 3) := by decide +kernel
theorem dX7_reckon_219 : decode cX7_reckon 219 = .ok (.iconst 1, 1) := by decide +kernel
theorem dX7_reckon_220 : decode cX7_reckon 220 = .ok (.istore_n 2, 1) := by decide +kernel
theorem dX7_reckon_221 : decode cX7_reckon 221 = .ok (.iload_n 2, 1) := by decide +kernel
theorem dX7_reckon_222 : decode cX7_reckon 222 = .ok (.ifCond .eq 67, 3) := by decide +kernel
theorem dX7_reckon_225 : decode cX7_reckon 225 = .ok (.iconst 0, 1) := by decide +kernel
theorem dX7_reckon_226 : decode cX7_reckon 226 = .ok (.istore_n 2, 1) := by decide +kernel
theorem dX7_reckon_227 : decode cX7_reckon 227 = .ok (.iconst 0, 1) := by decide +kernel
theorem dX7_reckon_228 : decode cX7_reckon 228 = .ok (.istore_n 3, 1) := by decide +kernel
theorem dX7_reckon_229 : decode cX7_reckon 229 = .ok (.iload_n 3, 1) := by decide +kernel
theorem dX7_reckon_230 : decode cX7_reckon 230 = .ok (.iload_n 1, 1) := by decide +kernel
theorem dX7_reckon_231 : decode cX7_reckon 231 = .ok (.if_icmp .ge 55, 3) := by decide +kernel
theorem dX7_reckon_234 : decode cX7_reckon 234 = .ok (.aload_n 0, 1) := by decide +kernel
theorem dX7_reckon_235 : decode cX7_reckon 235 = .ok (.getfield 38, 3) := by decide +kernel
theorem dX7_reckon_238 : decode cX7_reckon 238 = .ok (.bipush 16, 2) := by decide +kernel
theorem dX7_reckon_240 : decode cX7_reckon 240 = .ok (.aload_n 0, 1) := by decide +kernel
theorem dX7_reckon_241 : decode cX7_reckon 241 = .ok (.getfield 198, 3) := by decide +kernel
theorem dX7_reckon_244 : decode cX7_reckon 244 = .ok (.imul, 1) := by decide +kernel
theorem dX7_reckon_245 : decode cX7_reckon 245 = .ok (.iload_n 3, 1) := by decide +kernel
theorem dX7_reckon_246 : decode cX7_reckon 246 = .ok (.iadd, 1) := by decide +kernel
theorem dX7_reckon_247 : decode cX7_reckon 247 = .ok (.iaload, 1) := by decide +kernel
theorem dX7_reckon_248 : decode cX7_reckon 248 = .ok (.ifCond .ge 32, 3) := by decide +kernel
theorem dX7_reckon_251 : decode cX7_reckon 251 = .ok (.aload_n 0, 1) := by decide +kernel
theorem dX7_reckon_252 : decode cX7_reckon 252 = .ok (.getfield 38, 3) := by decide +kernel
theorem dX7_reckon_255 : decode cX7_reckon 255 = .ok (.bipush 16, 2) := by decide +kernel
theorem dX7_reckon_257 : decode cX7_reckon 257 = .ok (.aload_n 0, 1) := by decide +kernel
theorem dX7_reckon_258 : decode cX7_reckon 258 = .ok (.getfield 198, 3) := by decide +kernel
theorem dX7_reckon_261 : decode cX7_reckon 261 = .ok (.imul, 1) := by decide +kernel
theorem dX7_reckon_262 : decode cX7_reckon 262 = .ok (.iload_n 3, 1) := by decide +kernel
theorem dX7_reckon_263 : decode cX7_reckon 263 = .ok (.iadd, 1) := by decide +kernel
theorem dX7_reckon_264 : decode cX7_reckon 264 = .ok (.aload_n 0, 1) := by decide +kernel
theorem dX7_reckon_265 : decode cX7_reckon 265 = .ok (.bipush 16, 2) := by decide +kernel
theorem dX7_reckon_267 : decode cX7_reckon 267 = .ok (.aload_n 0, 1) := by decide +kernel
theorem dX7_reckon_268 : decode cX7_reckon 268 = .ok (.getfield 198, 3) := by decide +kernel
theorem dX7_reckon_271 : decode cX7_reckon 271 = .ok (.imul, 1) := by decide +kernel
theorem dX7_reckon_272 : decode cX7_reckon 272 = .ok (.iload_n 3, 1) := by decide +kernel
theorem dX7_reckon_273 : decode cX7_reckon 273 = .ok (.iadd, 1) := by decide +kernel
theorem dX7_reckon_274 : decode cX7_reckon 274 = .ok (.invokevirtual 245, 3) := by decide +kernel
theorem dX7_reckon_277 : decode cX7_reckon 277 = .ok (.iastore, 1) := by decide +kernel
theorem dX7_reckon_278 : decode cX7_reckon 278 = .ok (.iconst 1, 1) := by decide +kernel
theorem dX7_reckon_279 : decode cX7_reckon 279 = .ok (.istore_n 2, 1) := by decide +kernel
theorem dX7_reckon_280 : decode cX7_reckon 280 = .ok (.iinc 3 1, 3) := by decide +kernel
theorem dX7_reckon_283 : decode cX7_reckon 283 = .ok (.goto (-54), 3) := by decide +kernel
theorem dX7_reckon_286 : decode cX7_reckon 286 = .ok (.goto (-65), 3) := by decide +kernel
theorem dX7_reckon_289 : decode cX7_reckon 289 = .ok (.return_, 1) := by decide +kernel
def zwX7_reckon : List Cond := .code yX7_reckon cX7_reckon 6 none :: ([.fieldLink RX7 38 "LinkModelsModel" "error" "[I", .fieldLink RX7 198 "LinkModelsModel" "b" "I", .fieldLink RX7 70 "LinkModelsModel" "comesTo" "[I", .fieldLink RX7 41 "LinkModelsModel" "ofAll" "[I", .fieldLink RX7 17 "LinkModelsModel" "classes" "[I", .methodLink RX7 245 yX7_errorNow, .instanceMethod yX7_errorNow, .selects RX7 yX7_errorNow yX7_errorNow, .initialized RX7, .code yX7_errorNow cX7_errorNow 6 (some .int), .fieldLink RX7 29 "LinkModelsModel" "faces" "[I", .fieldLink RX7 32 "LinkModelsModel" "face" "[I", .fieldLink RX7 23 "LinkModelsModel" "sort" "[I", .fieldLink RX7 26 "LinkModelsModel" "above" "[I", .methodLink RX7 201 yX7_place, .instanceMethod yX7_place, .selects RX7 yX7_place yX7_place, .code yX7_place cX7_place 4 (some .int), .fieldLink RX7 20 "LinkModelsModel" "className" "[I", .methodLink RX7 241 yX7_steps, .instanceMethod yX7_steps, .selects RX7 yX7_steps yX7_steps, .code yX7_steps cX7_steps 6 (some .int)] ++ wsX70)
theorem zgX7_reckon_X7_errorNow_245 : GoodIn zwX7_reckon (wsV RX7 245 RX7 yX7_errorNow zwX7_errorNow) := goodIn_app (goodIn_r _ [6, 7, 8, 9] rfl (by decide +kernel)) (goodIn_ca (goodIn_r _ [10, 11, 2, 12, 1, 13, 14, 15, 16, 17, 9, 18, 5, 19] rfl (by decide +kernel)) (zgt zg7))
theorem zgX7_reckon_X7_steps_241 : GoodIn zwX7_reckon (wsV RX7 241 RX7 yX7_steps zwX7_steps) := goodIn_app (goodIn_r _ [20, 21, 22, 9] rfl (by decide +kernel)) (goodIn_ca (goodIn_r _ [23, 11, 2, 12, 14, 15, 16, 17, 9, 18, 5, 19] rfl (by decide +kernel)) (zgt zg7))
set_option maxHeartbeats 4000000 in
set_option maxRecDepth 100000 in
theorem kX7_reckon (l : Launch) (dC : Nat → ClassId) (dI : Nat → Nat → Nat) (h0 : Nat) (r : Nat → Nat) (cI : ClassId) (cJ : ClassId) (cZ : ClassId) (v0 : Int32) (a1 : Nat → Int32) (tp : Nat) (bs : Nat) (cl : Nat → Nat) (a5 : Nat → Int32) (a6 : Nat → Int32) (a7 : Nat → Int32) (fc : Nat → Nat) (a9 : Nat → Int32) (mb : Nat → Nat) (a11 : Nat → Int32) (a12 : Nat → Int32) (a13 : Nat → Int64) (a14 : Nat → Int32) (a15 : Nat → Int32) (a16 : Nat → Int32) (a17 : Nat → Int32) (a18 : Nat → Int32) (a19 : Nat → Int32) (a20 : Nat → Int32) (az : Nat) (v22 : Int32) (v23 : Int32) (v24 : Int64) (v25 : Int32) (v26 : Int32) (bb : Nat) (ct : Nat → Nat) (us : Nat) (a30 : Nat → Int32) (a31 : Nat → Int32) (a32 : Nat → Int32) (a33 : Nat → Int64) (a34 : Nat → Int32) (a35 : Nat → Int32) (a36 : Nat → Int32) (a37 : Nat → Int32) (pil : Nat → Nat) (rwv : Nat → Nat) (rl : Nat) (v41 : Int32) (v42 : Int32) (v43 : Int32) (v44 : Int32) (v45 : Int32) (hI : rWI tp bs cl fc mb az bb ct us pil rwv rl) (hp0 : bb < 5) (sz : Nat) : Met l yX7_reckon zwX7_reckon ({ frames := 2, cells := 0, slots := 0, locals := 48 }) (zPm dC dI [.ref h0] sz (rW h0 r cI cJ cZ v0 a1 (nI tp) (nI bs) (fun j => nI (cl j)) a5 a6 a7 (fun j => nI (fc j)) a9 (fun j => nI (mb j)) a11 a12 a13 a14 a15 a16 a17 a18 a19 a20 (nI az) v22 v23 v24 v25 v26 (nI bb) (fun j => nI (ct j)) (nI us) a30 a31 a32 a33 a34 a35 a36 a37 (fun j => nI (pil j)) (fun j => nI (rwv j)) (nI rl) v41 v42 v43 v44 v45) [(cI, .int), (cJ, .long), (cZ, .boolean)]) (va_Qv (fun u : (Nat → Nat) × (Nat → Int32) × (Nat → Int32) => (zOK cl a5 a7 fc a9 (u.2.1) bb) ∧ (∀ j, (u.1) j ≤ 65535) ∧ (∀ j, j < 16 * bb → (u.2.1) j = a11 j)) (fun u t => zB dC dI (va_A (rW h0 r cI cJ cZ v0 a1 (nI tp) (nI bs) (fun j => nI (cl j)) a5 a6 a7 (fun j => nI (fc j)) a9 (fun j => nI (mb j)) a11 a12 a13 a14 a15 a16 a17 a18 a19 a20 (nI az) v22 v23 v24 v25 v26 (nI bb) (fun j => nI (ct j)) (nI us) a30 a31 a32 a33 a34 a35 a36 a37 (fun j => nI (pil j)) (fun j => nI (rwv j)) (nI rl) v41 v42 v43 v44 v45) sz) (rW h0 r cI cJ cZ v0 a1 (nI tp) (nI bs) (fun j => nI (cl j)) a5 a6 a7 (fun j => nI (fc j)) a9 (fun j => nI (mb j)) (u.2.1) (u.2.2) a13 a14 a15 a16 a17 a18 a19 a20 (nI az) v22 v23 v24 v25 v26 (nI bb) (fun j => nI ((u.1) j)) (nI us) a30 a31 a32 a33 a34 a35 a36 a37 (fun j => nI (pil j)) (fun j => nI (rwv j)) (nI rl) v41 v42 v43 v44 v45) [(cI, .int), (cJ, .long), (cZ, .boolean)] t) (va_A (rW h0 r cI cJ cZ v0 a1 (nI tp) (nI bs) (fun j => nI (cl j)) a5 a6 a7 (fun j => nI (fc j)) a9 (fun j => nI (mb j)) a11 a12 a13 a14 a15 a16 a17 a18 a19 a20 (nI az) v22 v23 v24 v25 v26 (nI bb) (fun j => nI (ct j)) (nI us) a30 a31 a32 a33 a34 a35 a36 a37 (fun j => nI (pil j)) (fun j => nI (rwv j)) (nI rl) v41 v42 v43 v44 v45) sz)) 0 0 (va_A (rW h0 r cI cJ cZ v0 a1 (nI tp) (nI bs) (fun j => nI (cl j)) a5 a6 a7 (fun j => nI (fc j)) a9 (fun j => nI (mb j)) a11 a12 a13 a14 a15 a16 a17 a18 a19 a20 (nI az) v22 v23 v24 v25 v26 (nI bb) (fun j => nI (ct j)) (nI us) a30 a31 a32 a33 a34 a35 a36 a37 (fun j => nI (pil j)) (fun j => nI (rwv j)) (nI rl) v41 v42 v43 v44 v45) sz) := by
  refine Met.ofW (cc := cX7_reckon) (maxL := 6) (ret := none) (by decide) rfl ?_
  intro p e s m args below meth c s₁ B hml hv
  obtain ⟨rfl, hsz, hP, hK, hD0, hL0⟩ := hv
  have hx := B.exec
  have hb := B.bytes
  have hr := B.returns
  have hts := atoms_spec (ws := zwX7_reckon) B.pre
  have hown : s.vm.findClass RX7 = some m.cls := findClass_of_methodNamed B.named
  have hiX7 : ∀ w ∈ wsX70, w ∈ zwX7_reckon := (fun _ h => List.mem_cons_of_mem _ (List.mem_append_right _ h))
  obtain ⟨htp, hbs, hus, hcl, hfc, hmb, hct, hpil, hrwv⟩ := hI
  subst hsz
  have hD := hD0.self (sz := s.heap.size)
  generalize hAe : va_A (rW h0 r cI cJ cZ v0 a1 (nI tp) (nI bs) (fun j => nI (cl j)) a5 a6 a7 (fun j => nI (fc j)) a9 (fun j => nI (mb j)) a11 a12 a13 a14 a15 a16 a17 a18 a19 a20 (nI az) v22 v23 v24 v25 v26 (nI bb) (fun j => nI (ct j)) (nI us) a30 a31 a32 a33 a34 a35 a36 a37 (fun j => nI (pil j)) (fun j => nI (rwv j)) (nI rl) v41 v42 v43 v44 v45) s.heap.size = A at hD hL0 ⊢
  have hA : ∀ q : Nat, s.heap.size ≤ q → A q := fun q h => by rw [← hAe]; exact Or.inr h
  have hS : va_S A s.heap s.heap [] := va_S.rf
  have hL := hL0
  have hclb := hcl bb
  have hl := lv_entry ([.ref h0]) (n := 6) (Nat.le_of_ble_eq_true rfl)
  rw [lg_entry_eq]
  generalize (lg_sl ([.ref h0]) ++ List.replicate (6 - (lg_sl ([.ref h0])).length) Slot.unset).toArray = ls at hl ⊢
  have hl : lv_has ls 6 [(0, .ref h0)] := hl
  have J221 : ∀ (z221 : Nat) (rk : Nat → Nat) (T : Nat) (mo : Nat) (ct2 : Nat → Nat) (e2 : Nat → Int32) (o2 : Nat → Int32) (H : Heap) (locs : List Loc) (ls : Array Slot), 2 * zS (zCn e2 bb) (cl bb) + mo < z221 → (∀ j, ct2 j ≤ 65535) → (∀ j, j < 16 * bb → e2 j = a11 j) → (mo ≤ 1) → (zCov cl a5 a7 fc a9 bb ct2 (cl bb)) → (zClo ct2 (cl bb)) → (zG cl a5 a7 fc a9 e2 bb rk T) → (∀ j, j < cl bb → e2 (16 * bb + j) < 0 → (ct2 j).testBit j = false) → (mo = 0 → ∀ j, j < cl bb → ¬ e2 (16 * bb + j) < 0) → va_P (dC, dI) vwCl (rW h0 r cI cJ cZ v0 a1 (nI tp) (nI bs) (fun j => nI (cl j)) a5 a6 a7 (fun j => nI (fc j)) a9 (fun j => nI (mb j)) e2 o2 a13 a14 a15 a16 a17 a18 a19 a20 (nI az) v22 v23 v24 v25 v26 (nI bb) (fun j => nI (ct2 j)) (nI us) a30 a31 a32 a33 a34 a35 a36 a37 (fun j => nI (pil j)) (fun j => nI (rwv j)) (nI rl) v41 v42 v43 v44 v45) H → va_D A (rW h0 r cI cJ cZ v0 a1 (nI tp) (nI bs) (fun j => nI (cl j)) a5 a6 a7 (fun j => nI (fc j)) a9 (fun j => nI (mb j)) e2 o2 a13 a14 a15 a16 a17 a18 a19 a20 (nI az) v22 v23 v24 v25 v26 (nI bb) (fun j => nI (ct2 j)) (nI us) a30 a31 a32 a33 a34 a35 a36 a37 (fun j => nI (pil j)) (fun j => nI (rwv j)) (nI rl) v41 v42 v43 v44 v45) → va_S A s.heap H locs → lv_has ls 6 [(0, .ref h0), (1, .int (nI (cl bb))), (2, .int (nI mo))] → W p l e (headSpec zwX7_reckon { frames := 2, cells := 0, slots := 0, locals := 48 }).room s m (([.ref h0] : List Value).toArray) below meth c H locs 0 0 (MQ below (va_Qv (fun u : (Nat → Nat) × (Nat → Int32) × (Nat → Int32) => (zOK cl a5 a7 fc a9 (u.2.1) bb) ∧ (∀ j, (u.1) j ≤ 65535) ∧ (∀ j, j < 16 * bb → (u.2.1) j = a11 j)) (fun u t => zB dC dI (A) (rW h0 r cI cJ cZ v0 a1 (nI tp) (nI bs) (fun j => nI (cl j)) a5 a6 a7 (fun j => nI (fc j)) a9 (fun j => nI (mb j)) (u.2.1) (u.2.2) a13 a14 a15 a16 a17 a18 a19 a20 (nI az) v22 v23 v24 v25 v26 (nI bb) (fun j => nI ((u.1) j)) (nI us) a30 a31 a32 a33 a34 a35 a36 a37 (fun j => nI (pil j)) (fun j => nI (rwv j)) (nI rl) v41 v42 v43 v44 v45) [(cI, .int), (cJ, .long), (cZ, .boolean)] t) (A)) (([.ref h0] : List Value).toArray) s 0 0 A) (F0 m 221 ls []) := by
    intro z221
    induction z221 with
    | zero => intro rk T mo ct2 e2 o2 H locs ls h9; exact absurd h9 (Nat.not_lt_zero _)
    | succ z221 ih221 =>
      intro rk T mo ct2 e2 o2 H locs ls hm221 hbct2 hfre2 i221_0 i221_1 i221_2 i221_3 i221_4 i221_5 hP hD hS hl
      obtain ⟨m0, hm0, hm1, hm2⟩ := z_pick (er := e2) (hcl bb) i221_1 i221_2 i221_4
      have J229 : ∀ (z229 : Nat) (rk3 : Nat → Nat) (T3 : Nat) (m3 : Nat) (kx : Nat) (e3 : Nat → Int32) (H : Heap) (locs : List Loc) (ls : Array Slot), cl bb - kx < z229 → (∀ j, j < 16 * bb → e3 j = a11 j) → (kx ≤ cl bb) → (m3 ≤ 1) → (zG cl a5 a7 fc a9 e3 bb rk3 T3) → (∀ j, kx ≤ j → e3 (16 * bb + j) = e2 (16 * bb + j)) → (∀ j, ¬ e2 (16 * bb + j) < 0 → e3 (16 * bb + j) = e2 (16 * bb + j)) → (zS (zCn e3 bb) (cl bb) ≤ zS (zCn e2 bb) (cl bb)) → (kx ≤ m0 ∨ zS (zCn e3 bb) (cl bb) < zS (zCn e2 bb) (cl bb)) → (m3 = 0 ∨ m0 < cl bb) → (m3 = 0 → ∀ j, j < kx → ¬ e3 (16 * bb + j) < 0) → (mo = 1) → va_P (dC, dI) vwCl (rW h0 r cI cJ cZ v0 a1 (nI tp) (nI bs) (fun j => nI (cl j)) a5 a6 a7 (fun j => nI (fc j)) a9 (fun j => nI (mb j)) e3 o2 a13 a14 a15 a16 a17 a18 a19 a20 (nI az) v22 v23 v24 v25 v26 (nI bb) (fun j => nI (ct2 j)) (nI us) a30 a31 a32 a33 a34 a35 a36 a37 (fun j => nI (pil j)) (fun j => nI (rwv j)) (nI rl) v41 v42 v43 v44 v45) H → va_D A (rW h0 r cI cJ cZ v0 a1 (nI tp) (nI bs) (fun j => nI (cl j)) a5 a6 a7 (fun j => nI (fc j)) a9 (fun j => nI (mb j)) e3 o2 a13 a14 a15 a16 a17 a18 a19 a20 (nI az) v22 v23 v24 v25 v26 (nI bb) (fun j => nI (ct2 j)) (nI us) a30 a31 a32 a33 a34 a35 a36 a37 (fun j => nI (pil j)) (fun j => nI (rwv j)) (nI rl) v41 v42 v43 v44 v45) → va_S A s.heap H locs → lv_has ls 6 [(0, .ref h0), (1, .int (nI (cl bb))), (2, .int (nI m3)), (3, .int (nI kx))] → W p l e (headSpec zwX7_reckon { frames := 2, cells := 0, slots := 0, locals := 48 }).room s m (([.ref h0] : List Value).toArray) below meth c H locs 0 0 (MQ below (va_Qv (fun u : (Nat → Nat) × (Nat → Int32) × (Nat → Int32) => (zOK cl a5 a7 fc a9 (u.2.1) bb) ∧ (∀ j, (u.1) j ≤ 65535) ∧ (∀ j, j < 16 * bb → (u.2.1) j = a11 j)) (fun u t => zB dC dI (A) (rW h0 r cI cJ cZ v0 a1 (nI tp) (nI bs) (fun j => nI (cl j)) a5 a6 a7 (fun j => nI (fc j)) a9 (fun j => nI (mb j)) (u.2.1) (u.2.2) a13 a14 a15 a16 a17 a18 a19 a20 (nI az) v22 v23 v24 v25 v26 (nI bb) (fun j => nI ((u.1) j)) (nI us) a30 a31 a32 a33 a34 a35 a36 a37 (fun j => nI (pil j)) (fun j => nI (rwv j)) (nI rl) v41 v42 v43 v44 v45) [(cI, .int), (cJ, .long), (cZ, .boolean)] t) (A)) (([.ref h0] : List Value).toArray) s 0 0 A) (F0 m 229 ls []) := by
        intro z229
        induction z229 with
        | zero => intro rk3 T3 m3 kx e3 H locs ls h9; exact absurd h9 (Nat.not_lt_zero _)
        | succ z229 ih229 =>
          intro rk3 T3 m3 kx e3 H locs ls hm229 hfre3 i229_0 i229_1 i229_2 i229_3 i229_4 i229_5 i229_6 i229_7 i229_8 i229_9 hP hD hS hl
          refine lv_iload_n hx hb dX7_reckon_229 rfl (lv_at hl 3 rfl) ?_
          refine lv_iload_n hx hb dX7_reckon_230 rfl (lv_at hl 1 rfl) ?_
          refine lv_icmp_ge (tgt := 286) hx hb dX7_reckon_231 (by decide) (fun cp231 => ?_) (fun cp231 => ?_)
          · have qcp231 : (cl bb) ≤ kx := (nI_leI (a := cl bb) (b := kx) (by omega) (by omega)).mp cp231
            refine lv_goto (tgt := 221) hx hb dX7_reckon_286 (by decide) ?_
            exact ih221 rk3 T3 m3 ct2 e3 o2 _ _ ls (by omega) hbct2 hfre3 (by omega) (by exact i221_1) (by exact i221_2) (by exact i229_2) (by intro j hj hneg; refine i221_4 j hj ?_; by_cases hh : e2 (16 * bb + j) < 0; (exact hh); (rw [i229_4 j hh] at hneg; exact hneg)) (by intro h9 j hj; exact i229_8 h9 j (by omega)) hP hD hS (lv_sub hl [0, 1, 2] rfl)
          · have qcp231 : ¬ (cl bb) ≤ kx := fun h9 => cp231 ((nI_leI (a := cl bb) (b := kx) (by omega) (by omega)).mpr h9)
            refine lv_aload_n hx hb dX7_reckon_234 rfl (lv_at hl 0 rfl) ?_
            refine va_get (D := (dC, dI)) (ci := 6) (v := .ref (r 11)) (C := RX7) (T := TX7) (N := 46) hx hb hts hiX7 hown hK hP 0 rfl rfl 11 (by decide) (hts (.fieldLink RX7 38 "LinkModelsModel" "error" "[I") (by decide +kernel)) (fun _ h9 => h9) rfl dX7_reckon_235 ?_
            refine lv_bipush (v := 16) hx hb dX7_reckon_238 (by decide) ?_
            refine lv_aload_n hx hb dX7_reckon_240 rfl (lv_at hl 0 rfl) ?_
            refine va_get (D := (dC, dI)) (ci := 6) (v := .int (nI bb)) (C := RX7) (T := TX7) (N := 46) hx hb hts hiX7 hown hK hP 0 rfl rfl 27 (by decide) (hts (.fieldLink RX7 198 "LinkModelsModel" "b" "I") (by decide +kernel)) (fun _ h9 => h9) rfl dX7_reckon_241 ?_
            refine lv_imul hx hb dX7_reckon_244 ?_
            refine lv_topi (fun x1 ex1 => ?_)
            obtain rfl : x1 = nI (16 * bb) := by rw [ex1]; exact pk_mul (16) (bb)
            refine lv_iload_n hx hb dX7_reckon_245 rfl (lv_at hl 3 rfl) ?_
            refine lv_iadd hx hb dX7_reckon_246 ?_
            refine lv_topi (fun x2 ex2 => ?_)
            obtain rfl : x2 = nI ((16 * bb) + kx) := by rw [ex2]; exact nI_add (16 * bb) (kx)
            refine va_iald hx hb hK hP 9 0 rfl rfl (vp_in_nI (show (16 * bb) + kx < 80 by omega) (by decide)) dX7_reckon_247 ?_
            refine lv_topi (fun x3 ex3 => ?_)
            obtain rfl : x3 = e3 ((16 * bb) + kx) := by rw [ex3, nI_clamp (show (16 * bb) + kx < 2 ^ 31 by omega)]
            refine lv_if_ge (tgt := 280) hx hb dX7_reckon_248 (by decide) (fun cp248 => ?_) (fun cp248 => ?_)
            · obtain ⟨x4, ex4⟩ : ∃ y : Int32, y = (nI kx) + 1 := ⟨_, rfl⟩
              refine lv_iinc (v := x4) (lv' := [(3, .int x4), (0, .ref h0), (1, .int (nI (cl bb))), (2, .int (nI m3))]) hx hb dX7_reckon_280 hl (k := 3) rfl (by rw [ex4]; rfl) (by decide) rfl (fun ls hl => ?_)
              obtain rfl : x4 = nI (kx + 1) := by rw [ex4]; exact nI_add (kx) 1
              refine lv_goto (tgt := 229) hx hb dX7_reckon_283 (by decide) ?_
              exact ih229 rk3 T3 m3 (kx + 1) e3 _ _ ls (by omega) hfre3 (by omega) (by omega) (by exact i229_2) (by intro j hj; exact i229_3 j (by omega)) (by exact i229_4) (by exact i229_5) (by rcases i229_6 with h | h; (rcases Nat.lt_or_ge kx m0 with h8 | h8; (exact Or.inl h8); (exact absurd cp248 (Int32.not_le.mpr (by rw [i229_3 kx (Nat.le_refl _), show kx = m0 by omega]; exact (hm1 (by omega)).1)))); (exact Or.inr h)) (by exact i229_7) (by intro h9 j hj; rcases Nat.lt_or_ge j kx with h8 | h8; (exact i229_8 h9 j h8); (rw [show j = kx by omega]; exact Int32.not_lt.mpr cp248)) (by omega) hP hD hS (lv_sub hl [1, 2, 3, 0] rfl)
            · refine lv_aload_n hx hb dX7_reckon_251 rfl (lv_at hl 0 rfl) ?_
              refine va_get (D := (dC, dI)) (ci := 6) (v := .ref (r 11)) (C := RX7) (T := TX7) (N := 46) hx hb hts hiX7 hown hK hP 0 rfl rfl 11 (by decide) (hts (.fieldLink RX7 38 "LinkModelsModel" "error" "[I") (by decide +kernel)) (fun _ h9 => h9) rfl dX7_reckon_252 ?_
              refine lv_bipush (v := 16) hx hb dX7_reckon_255 (by decide) ?_
              refine lv_aload_n hx hb dX7_reckon_257 rfl (lv_at hl 0 rfl) ?_
              refine va_get (D := (dC, dI)) (ci := 6) (v := .int (nI bb)) (C := RX7) (T := TX7) (N := 46) hx hb hts hiX7 hown hK hP 0 rfl rfl 27 (by decide) (hts (.fieldLink RX7 198 "LinkModelsModel" "b" "I") (by decide +kernel)) (fun _ h9 => h9) rfl dX7_reckon_258 ?_
              refine lv_imul hx hb dX7_reckon_261 ?_
              refine lv_topi (fun x5 ex5 => ?_)
              obtain rfl : x5 = nI (16 * bb) := by rw [ex5]; exact pk_mul (16) (bb)
              refine lv_iload_n hx hb dX7_reckon_262 rfl (lv_at hl 3 rfl) ?_
              refine lv_iadd hx hb dX7_reckon_263 ?_
              refine lv_topi (fun x6 ex6 => ?_)
              obtain rfl : x6 = nI ((16 * bb) + kx) := by rw [ex6]; exact nI_add (16 * bb) (kx)
              refine lv_aload_n hx hb dX7_reckon_264 rfl (lv_at hl 0 rfl) ?_
              refine lv_bipush (v := 16) hx hb dX7_reckon_265 (by decide) ?_
              refine lv_aload_n hx hb dX7_reckon_267 rfl (lv_at hl 0 rfl) ?_
              refine va_get (D := (dC, dI)) (ci := 6) (v := .int (nI bb)) (C := RX7) (T := TX7) (N := 46) hx hb hts hiX7 hown hK hP 0 rfl rfl 27 (by decide) (hts (.fieldLink RX7 198 "LinkModelsModel" "b" "I") (by decide +kernel)) (fun _ h9 => h9) rfl dX7_reckon_268 ?_
              refine lv_imul hx hb dX7_reckon_271 ?_
              refine lv_topi (fun x7 ex7 => ?_)
              obtain rfl : x7 = nI (16 * bb) := by rw [ex7]; exact pk_mul (16) (bb)
              refine lv_iload_n hx hb dX7_reckon_272 rfl (lv_at hl 3 rfl) ?_
              refine lv_iadd hx hb dX7_reckon_273 ?_
              refine lv_topi (fun x8 ex8 => ?_)
              obtain rfl : x8 = nI ((16 * bb) + kx) := by rw [ex8]; exact nI_add (16 * bb) (kx)
              have hFc := z_freeW hD hS hA
              refine vp_callSi (W.runV (As := [.int (nI ((16 * bb) + kx))]) (rest := [.int (nI ((16 * bb) + kx)), .ref (r 11)]) ⟨hx, hb, hml, hown, hts⟩ (kX7_errorNow l dC dI h0 r cI cJ cZ v0 a1 tp bs cl a5 a6 a7 fc a9 mb e3 o2 a13 a14 a15 a16 a17 a18 a19 a20 az v22 v23 v24 v25 v26 bb ct2 us a30 a31 a32 a33 a34 a35 a36 a37 pil rwv rl v41 v42 v43 v44 v45 ⟨by omega, by omega, by omega, hcl, hfc, hmb, hbct2, hpil, hrwv⟩ ((16 * bb) + kx) (by first | omega | assumption | trivial) (by first | omega | assumption | trivial) H.size) (cwV 1 hts zgX7_reckon_X7_errorNow_245 rfl rfl rfl (by decide +kernel) ⟨(show 1 + 1 ≤ 2 by omega), (show 8 + (6 + 11) + 23 ≤ 48 by omega)⟩) (zVm (ci := 6) (q0 := 0) (q := (RX7, TX7, 46)) hK hP hD hL hS.2.1 hFc rfl rfl rfl) rfl rfl hl.1 rfl (lv_room (Nat.le_of_ble_eq_true rfl)) dX7_reckon_274 ⟨(show 0 + 0 ≤ 0 by omega), (show 0 + 0 ≤ 0 by omega)⟩) (fun r9 hw => ?_)
              have hw : (r9 < 0 → ∃ p, p < cl bb ∧ zDep cl a5 a7 fc a9 bb ((16 * bb) + kx) p ∧ e3 (16 * bb + p) < 0) ∧ (r9 = 0 → zRdy cl a5 a7 fc a9 e3 bb ((16 * bb) + kx)) := hw
              obtain ⟨w0r9, w1r9⟩ := hw
              refine va_iast hx hb hK hP hD hS 9 0 rfl rfl (vp_in_nI (show (16 * bb) + kx < 80 by omega) (by decide)) dX7_reckon_277 (fun H locs hP hD hS => ?_)
              obtain ⟨f10, ef10, hP, hD⟩ : ∃ g : Nat → Int32, g = upd e3 ((16 * bb) + kx) r9 ∧ va_P (dC, dI) vwCl (rW h0 r cI cJ cZ v0 a1 (nI tp) (nI bs) (fun j => nI (cl j)) a5 a6 a7 (fun j => nI (fc j)) a9 (fun j => nI (mb j)) g o2 a13 a14 a15 a16 a17 a18 a19 a20 (nI az) v22 v23 v24 v25 v26 (nI bb) (fun j => nI (ct2 j)) (nI us) a30 a31 a32 a33 a34 a35 a36 a37 (fun j => nI (pil j)) (fun j => nI (rwv j)) (nI rl) v41 v42 v43 v44 v45) H ∧ va_D A (rW h0 r cI cJ cZ v0 a1 (nI tp) (nI bs) (fun j => nI (cl j)) a5 a6 a7 (fun j => nI (fc j)) a9 (fun j => nI (mb j)) g o2 a13 a14 a15 a16 a17 a18 a19 a20 (nI az) v22 v23 v24 v25 v26 (nI bb) (fun j => nI (ct2 j)) (nI us) a30 a31 a32 a33 a34 a35 a36 a37 (fun j => nI (pil j)) (fun j => nI (rwv j)) (nI rl) v41 v42 v43 v44 v45) := ⟨_, rfl, (by rw [← nI_clamp (show (16 * bb) + kx < 2 ^ 31 by omega)]; exact hP), (by rw [← nI_clamp (show (16 * bb) + kx < 2 ^ 31 by omega)]; exact hD)⟩
              have hfrf10 : ∀ j, j < 16 * bb → f10 j = a11 j := fun j hj => by rw [ef10, pk_un (by omega)]; exact hfre3 j hj
              by_cases hr8 : r9 < 0
              · refine lv_iconst (v := 1) hx hb dX7_reckon_278 (by decide) ?_
                refine lv_istore_n (lv' := [(2, .int 1), (0, .ref h0), (1, .int (nI (cl bb))), (3, .int (nI kx))]) hx hb dX7_reckon_279 rfl hl (by decide) rfl (fun ls hl => ?_)
                obtain ⟨x11, ex11⟩ : ∃ y : Int32, y = (nI kx) + 1 := ⟨_, rfl⟩
                refine lv_iinc (v := x11) (lv' := [(3, .int x11), (2, .int 1), (0, .ref h0), (1, .int (nI (cl bb)))]) hx hb dX7_reckon_280 hl (k := 3) rfl (by rw [ex11]; rfl) (by decide) rfl (fun ls hl => ?_)
                obtain rfl : x11 = nI (kx + 1) := by rw [ex11]; exact nI_add (kx) 1
                refine lv_goto (tgt := 229) hx hb dX7_reckon_283 (by decide) ?_
                exact ih229 rk3 T3 1 (kx + 1) f10 _ _ ls (by omega) hfrf10 (by omega) (by omega) (by rw [ef10]; exact z_gneg i229_2 (Int32.not_le.mp cp248) hr8) (by intro j hj; rw [ef10, pk_un (by omega)]; exact i229_3 j (by omega)) (by intro j hj; rcases Nat.decEq j kx with q | q; (rw [ef10, pk_un (by omega)]; exact i229_4 j hj); (exact absurd (show e2 (16 * bb + j) < 0 by rw [q, ← i229_3 kx (Nat.le_refl _)]; exact (Int32.not_le.mp cp248)) hj)) (by rw [ef10]; exact Nat.le_trans (z_cnle (z_cnu (Int32.not_le.mp cp248) _)) i229_5) (by rcases i229_6 with h | h; (rcases Nat.lt_or_ge kx m0 with h8 | h8; (exact Or.inl h8); (obtain ⟨p, h1, h2, h3⟩ := w0r9 hr8; exact absurd (show e2 (16 * bb + p) < 0 by (by_cases hh : e2 (16 * bb + p) < 0; (exact hh); (rw [i229_4 p hh] at h3; exact h3))) ((hm1 (by omega)).2 p h1 (by rw [show m0 = kx by omega]; exact h2)))); (exact Or.inr (by rw [ef10]; exact Nat.lt_of_le_of_lt (z_cnle (z_cnu (Int32.not_le.mp cp248) _)) h))) (by exact Or.inr (Nat.lt_of_le_of_ne hm0 (fun e => hm2 e kx (by omega) (by rw [← i229_3 kx (Nat.le_refl _)]; exact (Int32.not_le.mp cp248))))) (by intro h9; exact absurd h9 (by decide)) (by omega) hP hD hS (lv_sub hl [2, 3, 1, 0] rfl)
              · refine lv_iconst (v := 1) hx hb dX7_reckon_278 (by decide) ?_
                refine lv_istore_n (lv' := [(2, .int 1), (0, .ref h0), (1, .int (nI (cl bb))), (3, .int (nI kx))]) hx hb dX7_reckon_279 rfl hl (by decide) rfl (fun ls hl => ?_)
                obtain ⟨x12, ex12⟩ : ∃ y : Int32, y = (nI kx) + 1 := ⟨_, rfl⟩
                refine lv_iinc (v := x12) (lv' := [(3, .int x12), (2, .int 1), (0, .ref h0), (1, .int (nI (cl bb)))]) hx hb dX7_reckon_280 hl (k := 3) rfl (by rw [ex12]; rfl) (by decide) rfl (fun ls hl => ?_)
                obtain rfl : x12 = nI (kx + 1) := by rw [ex12]; exact nI_add (kx) 1
                refine lv_goto (tgt := 229) hx hb dX7_reckon_283 (by decide) ?_
                exact ih229 (z_up rk3 kx T3) (T3 + 1) 1 (kx + 1) f10 _ _ ls (by omega) hfrf10 (by omega) (by omega) (by rw [ef10]; exact z_gpos i229_2 (Int32.not_le.mp cp248) w1r9) (by intro j hj; rw [ef10, pk_un (by omega)]; exact i229_3 j (by omega)) (by intro j hj; rcases Nat.decEq j kx with q | q; (rw [ef10, pk_un (by omega)]; exact i229_4 j hj); (exact absurd (show e2 (16 * bb + j) < 0 by rw [q, ← i229_3 kx (Nat.le_refl _)]; exact (Int32.not_le.mp cp248)) hj)) (by rw [ef10]; exact Nat.le_trans (z_cnle (z_cnu (Int32.not_le.mp cp248) _)) i229_5) (by exact Or.inr (by rw [ef10]; exact Nat.lt_of_lt_of_le (z_cnlt (z_cnu (Int32.not_le.mp cp248) _) (show kx < cl bb by omega) (Int32.not_le.mp cp248) (by rw [pk_us]; exact hr8)) i229_5)) (by exact Or.inr (Nat.lt_of_le_of_ne hm0 (fun e => hm2 e kx (by omega) (by rw [← i229_3 kx (Nat.le_refl _)]; exact (Int32.not_le.mp cp248))))) (by intro h9; exact absurd h9 (by decide)) (by omega) hP hD hS (lv_sub hl [2, 3, 1, 0] rfl)
      refine lv_iload_n hx hb dX7_reckon_221 rfl (lv_at hl 2 rfl) ?_
      refine lv_if_eq (tgt := 289) hx hb dX7_reckon_222 (by decide) (fun cp222 => ?_) (fun cp222 => ?_)
      · have qcp222 : mo = 0 := (nI_eq (a := mo) (b := 0) (by omega) (by omega)).mp cp222
        have hP9 : va_P (dC, dI) vwCl (rW h0 r cI cJ cZ v0 a1 (nI tp) (nI bs) (fun j => nI (cl j)) a5 a6 a7 (fun j => nI (fc j)) a9 (fun j => nI (mb j)) e2 o2 a13 a14 a15 a16 a17 a18 a19 a20 (nI az) v22 v23 v24 v25 v26 (nI bb) (fun j => nI (ct2 j)) (nI us) a30 a31 a32 a33 a34 a35 a36 a37 (fun j => nI (pil j)) (fun j => nI (rwv j)) (nI rl) v41 v42 v43 v44 v45) H := hP
        have hD9 : va_D A (rW h0 r cI cJ cZ v0 a1 (nI tp) (nI bs) (fun j => nI (cl j)) a5 a6 a7 (fun j => nI (fc j)) a9 (fun j => nI (mb j)) e2 o2 a13 a14 a15 a16 a17 a18 a19 a20 (nI az) v22 v23 v24 v25 v26 (nI bb) (fun j => nI (ct2 j)) (nI us) a30 a31 a32 a33 a34 a35 a36 a37 (fun j => nI (pil j)) (fun j => nI (rwv j)) (nI rl) v41 v42 v43 v44 v45) := hD
        exact W.vret hx hb hr (fun t ht hW => ⟨⟨(ct2, e2, o2), rfl, ⟨(by exact z_okof i221_3 (i221_5 qcp222)), hbct2, hfre2⟩, by rw [ht]; exact hP9, va_K.moved hW.alike hK, hD9⟩, hS.F ht⟩) hS.2.2 dX7_reckon_289
      · have qcp222 : ¬ mo = 0 := fun h9 => cp222 ((nI_eq (a := mo) (b := 0) (by omega) (by omega)).mpr h9)
        refine lv_iconst (v := 0) hx hb dX7_reckon_225 (by decide) ?_
        refine lv_istore_n (lv' := [(2, .int 0), (0, .ref h0), (1, .int (nI (cl bb)))]) hx hb dX7_reckon_226 rfl hl (by decide) rfl (fun ls hl => ?_)
        refine lv_iconst (v := 0) hx hb dX7_reckon_227 (by decide) ?_
        refine lv_istore_n (lv' := [(3, .int 0), (2, .int 0), (0, .ref h0), (1, .int (nI (cl bb)))]) hx hb dX7_reckon_228 rfl hl (by decide) rfl (fun ls hl => ?_)
        exact J229 _ rk T 0 0 e2 _ _ ls (Nat.lt_succ_self _) hfre2 (by omega) (by omega) (by exact i221_3) (by intro _ _; rfl) (by intro _ _; rfl) (by exact Nat.le_refl _) (by omega) (by exact Or.inl rfl) (by intro _ j hj; omega) (by omega) hP hD hS (lv_sub hl [2, 3, 1, 0] rfl)
  have J151 : ∀ (z151 : Nat) (kx : Nat) (ct2 : Nat → Nat) (e2 : Nat → Int32) (o2 : Nat → Int32) (H : Heap) (locs : List Loc) (ls : Array Slot), cl bb - kx < z151 → (∀ j, ct2 j ≤ 65535) → (∀ j, j < 16 * bb → e2 j = a11 j) → (kx ≤ cl bb) → (zCov cl a5 a7 fc a9 bb ct2 (cl bb)) → (zClo ct2 (cl bb)) → (∀ j, j < kx → e2 (16 * bb + j) = 3 ∨ (e2 (16 * bb + j) = -1 ∧ (ct2 j).testBit j = false)) → va_P (dC, dI) vwCl (rW h0 r cI cJ cZ v0 a1 (nI tp) (nI bs) (fun j => nI (cl j)) a5 a6 a7 (fun j => nI (fc j)) a9 (fun j => nI (mb j)) e2 o2 a13 a14 a15 a16 a17 a18 a19 a20 (nI az) v22 v23 v24 v25 v26 (nI bb) (fun j => nI (ct2 j)) (nI us) a30 a31 a32 a33 a34 a35 a36 a37 (fun j => nI (pil j)) (fun j => nI (rwv j)) (nI rl) v41 v42 v43 v44 v45) H → va_D A (rW h0 r cI cJ cZ v0 a1 (nI tp) (nI bs) (fun j => nI (cl j)) a5 a6 a7 (fun j => nI (fc j)) a9 (fun j => nI (mb j)) e2 o2 a13 a14 a15 a16 a17 a18 a19 a20 (nI az) v22 v23 v24 v25 v26 (nI bb) (fun j => nI (ct2 j)) (nI us) a30 a31 a32 a33 a34 a35 a36 a37 (fun j => nI (pil j)) (fun j => nI (rwv j)) (nI rl) v41 v42 v43 v44 v45) → va_S A s.heap H locs → lv_has ls 6 [(0, .ref h0), (1, .int (nI (cl bb))), (3, .int (nI kx))] → W p l e (headSpec zwX7_reckon { frames := 2, cells := 0, slots := 0, locals := 48 }).room s m (([.ref h0] : List Value).toArray) below meth c H locs 0 0 (MQ below (va_Qv (fun u : (Nat → Nat) × (Nat → Int32) × (Nat → Int32) => (zOK cl a5 a7 fc a9 (u.2.1) bb) ∧ (∀ j, (u.1) j ≤ 65535) ∧ (∀ j, j < 16 * bb → (u.2.1) j = a11 j)) (fun u t => zB dC dI (A) (rW h0 r cI cJ cZ v0 a1 (nI tp) (nI bs) (fun j => nI (cl j)) a5 a6 a7 (fun j => nI (fc j)) a9 (fun j => nI (mb j)) (u.2.1) (u.2.2) a13 a14 a15 a16 a17 a18 a19 a20 (nI az) v22 v23 v24 v25 v26 (nI bb) (fun j => nI ((u.1) j)) (nI us) a30 a31 a32 a33 a34 a35 a36 a37 (fun j => nI (pil j)) (fun j => nI (rwv j)) (nI rl) v41 v42 v43 v44 v45) [(cI, .int), (cJ, .long), (cZ, .boolean)] t) (A)) (([.ref h0] : List Value).toArray) s 0 0 A) (F0 m 151 ls []) := by
    intro z151
    induction z151 with
    | zero => intro kx ct2 e2 o2 H locs ls h9; exact absurd h9 (Nat.not_lt_zero _)
    | succ z151 ih151 =>
      intro kx ct2 e2 o2 H locs ls hm151 hbct2 hfre2 i151_0 i151_1 i151_2 i151_3 hP hD hS hl
      refine lv_iload_n hx hb dX7_reckon_151 rfl (lv_at hl 2 rfl) ?_
      refine lv_iload_n hx hb dX7_reckon_152 rfl (lv_at hl 1 rfl) ?_
      refine lv_icmp_ge (tgt := 219) hx hb dX7_reckon_153 (by decide) (fun cp153 => ?_) (fun cp153 => ?_)
      · have qcp153 : (cl bb) ≤ kx := (nI_leI (a := cl bb) (b := kx) (by omega) (by omega)).mp cp153
        refine lv_iconst (v := 1) hx hb dX7_reckon_219 (by decide) ?_
        refine lv_istore_n (lv' := [(2, .int 1), (0, .ref h0), (1, .int (nI (cl bb))), (3, .int (nI kx))]) hx hb dX7_reckon_220 rfl hl (by decide) rfl (fun ls hl => ?_)
        exact J221 _ (fun _ => 0) 1 1 ct2 e2 o2 _ _ ls (Nat.lt_succ_self _) hbct2 hfre2 (by omega) (by exact i151_1) (by exact i151_2) (by intro c hc hn; refine ⟨Nat.zero_lt_one, fun h0 => ?_⟩; rcases i151_3 c (by omega) with h | ⟨h, -⟩ <;> (rw [h] at h0; exact absurd h0 (by decide))) (by intro j hj hneg; rcases i151_3 j (by omega) with h | ⟨-, h⟩; (rw [h] at hneg; exact absurd hneg (by decide)); (exact h)) (by intro h9; exact absurd h9 (by decide)) hP hD hS (lv_sub hl [1, 2, 0] rfl)
      · have qcp153 : ¬ (cl bb) ≤ kx := fun h9 => cp153 ((nI_leI (a := cl bb) (b := kx) (by omega) (by omega)).mpr h9)
        refine lv_aload_n hx hb dX7_reckon_156 rfl (lv_at hl 0 rfl) ?_
        refine va_get (D := (dC, dI)) (ci := 6) (v := .ref (r 11)) (C := RX7) (T := TX7) (N := 46) hx hb hts hiX7 hown hK hP 0 rfl rfl 11 (by decide) (hts (.fieldLink RX7 38 "LinkModelsModel" "error" "[I") (by decide +kernel)) (fun _ h9 => h9) rfl dX7_reckon_157 ?_
        refine lv_bipush (v := 16) hx hb dX7_reckon_160 (by decide) ?_
        refine lv_aload_n hx hb dX7_reckon_162 rfl (lv_at hl 0 rfl) ?_
        refine va_get (D := (dC, dI)) (ci := 6) (v := .int (nI bb)) (C := RX7) (T := TX7) (N := 46) hx hb hts hiX7 hown hK hP 0 rfl rfl 27 (by decide) (hts (.fieldLink RX7 198 "LinkModelsModel" "b" "I") (by decide +kernel)) (fun _ h9 => h9) rfl dX7_reckon_163 ?_
        refine lv_imul hx hb dX7_reckon_166 ?_
        refine lv_topi (fun x13 ex13 => ?_)
        obtain rfl : x13 = nI (16 * bb) := by rw [ex13]; exact pk_mul (16) (bb)
        refine lv_iload_n hx hb dX7_reckon_167 rfl (lv_at hl 2 rfl) ?_
        refine lv_iadd hx hb dX7_reckon_168 ?_
        refine lv_topi (fun x14 ex14 => ?_)
        obtain rfl : x14 = nI ((16 * bb) + kx) := by rw [ex14]; exact nI_add (16 * bb) (kx)
        refine lv_aload_n hx hb dX7_reckon_169 rfl (lv_at hl 0 rfl) ?_
        refine va_get (D := (dC, dI)) (ci := 6) (v := .ref (r 28)) (C := RX7) (T := TX7) (N := 46) hx hb hts hiX7 hown hK hP 0 rfl rfl 28 (by decide) (hts (.fieldLink RX7 70 "LinkModelsModel" "comesTo" "[I") (by decide +kernel)) (fun _ h9 => h9) rfl dX7_reckon_170 ?_
        refine lv_iload_n hx hb dX7_reckon_173 rfl (lv_at hl 2 rfl) ?_
        refine va_iald hx hb hK hP 19 0 rfl rfl (vp_in_nI (show kx < 16 by omega) (by decide)) dX7_reckon_174 ?_
        refine lv_topi (fun x15 ex15 => ?_)
        obtain rfl : x15 = nI (ct2 kx) := by rw [ex15, nI_clamp (show kx < 2 ^ 31 by omega)]
        have hqx15 := hbct2 kx
        refine lv_iload_n hx hb dX7_reckon_175 rfl (lv_at hl 2 rfl) ?_
        refine lv_ishr hx hb dX7_reckon_176 ?_
        refine lv_topi (fun x16 ex16 => ?_)
        obtain rfl : x16 = nI ((ct2 kx) / 2 ^ kx) := by rw [ex16]; exact z_shr (show ct2 kx < 2 ^ 31 by omega) (show kx < 32 by omega)
        refine lv_iconst (v := 1) hx hb dX7_reckon_177 (by decide) ?_
        refine lv_iand hx hb dX7_reckon_178 ?_
        refine lv_topi (fun x17 ex17 => ?_)
        obtain rfl : x17 = nI (((ct2 kx) / 2 ^ kx) % 2) := by rw [ex17]; exact z_and1 (by exact Nat.lt_of_le_of_lt (Nat.div_le_self _ _) (by omega))
        refine lv_iconst (v := 1) hx hb dX7_reckon_179 (by decide) ?_
        refine lv_icmp_ne (tgt := 187) hx hb dX7_reckon_180 (by decide) (fun cp180 => ?_) (fun cp180 => ?_)
        · have qcp180 : ¬ (((ct2 kx) / 2 ^ kx) % 2) = 1 := fun h9 => cp180 ((nI_eq (a := ((ct2 kx) / 2 ^ kx) % 2) (b := 1) (by omega) (by omega)).mpr h9)
          refine lv_iconst (v := (-1)) hx hb dX7_reckon_187 (by decide) ?_
          refine va_iast hx hb hK hP hD hS 9 0 rfl rfl (vp_in_nI (show (16 * bb) + kx < 80 by omega) (by decide)) dX7_reckon_188 (fun H locs hP hD hS => ?_)
          obtain ⟨f18, ef18, hP, hD⟩ : ∃ g : Nat → Int32, g = upd e2 ((16 * bb) + kx) (-1 : Int32) ∧ va_P (dC, dI) vwCl (rW h0 r cI cJ cZ v0 a1 (nI tp) (nI bs) (fun j => nI (cl j)) a5 a6 a7 (fun j => nI (fc j)) a9 (fun j => nI (mb j)) g o2 a13 a14 a15 a16 a17 a18 a19 a20 (nI az) v22 v23 v24 v25 v26 (nI bb) (fun j => nI (ct2 j)) (nI us) a30 a31 a32 a33 a34 a35 a36 a37 (fun j => nI (pil j)) (fun j => nI (rwv j)) (nI rl) v41 v42 v43 v44 v45) H ∧ va_D A (rW h0 r cI cJ cZ v0 a1 (nI tp) (nI bs) (fun j => nI (cl j)) a5 a6 a7 (fun j => nI (fc j)) a9 (fun j => nI (mb j)) g o2 a13 a14 a15 a16 a17 a18 a19 a20 (nI az) v22 v23 v24 v25 v26 (nI bb) (fun j => nI (ct2 j)) (nI us) a30 a31 a32 a33 a34 a35 a36 a37 (fun j => nI (pil j)) (fun j => nI (rwv j)) (nI rl) v41 v42 v43 v44 v45) := ⟨_, rfl, (by rw [← nI_clamp (show (16 * bb) + kx < 2 ^ 31 by omega)]; exact hP), (by rw [← nI_clamp (show (16 * bb) + kx < 2 ^ 31 by omega)]; exact hD)⟩
          have hfrf18 : ∀ j, j < 16 * bb → f18 j = a11 j := fun j hj => by rw [ef18, pk_un (by omega)]; exact hfre2 j hj
          refine lv_aload_n hx hb dX7_reckon_189 rfl (lv_at hl 0 rfl) ?_
          refine va_get (D := (dC, dI)) (ci := 6) (v := .ref (r 12)) (C := RX7) (T := TX7) (N := 46) hx hb hts hiX7 hown hK hP 0 rfl rfl 12 (by decide) (hts (.fieldLink RX7 41 "LinkModelsModel" "ofAll" "[I") (by decide +kernel)) (fun _ h9 => h9) rfl dX7_reckon_190 ?_
          refine lv_bipush (v := 16) hx hb dX7_reckon_193 (by decide) ?_
          refine lv_aload_n hx hb dX7_reckon_195 rfl (lv_at hl 0 rfl) ?_
          refine va_get (D := (dC, dI)) (ci := 6) (v := .int (nI bb)) (C := RX7) (T := TX7) (N := 46) hx hb hts hiX7 hown hK hP 0 rfl rfl 27 (by decide) (hts (.fieldLink RX7 198 "LinkModelsModel" "b" "I") (by decide +kernel)) (fun _ h9 => h9) rfl dX7_reckon_196 ?_
          refine lv_imul hx hb dX7_reckon_199 ?_
          refine lv_topi (fun x19 ex19 => ?_)
          obtain rfl : x19 = nI (16 * bb) := by rw [ex19]; exact pk_mul (16) (bb)
          refine lv_iload_n hx hb dX7_reckon_200 rfl (lv_at hl 2 rfl) ?_
          refine lv_iadd hx hb dX7_reckon_201 ?_
          refine lv_topi (fun x20 ex20 => ?_)
          obtain rfl : x20 = nI ((16 * bb) + kx) := by rw [ex20]; exact nI_add (16 * bb) (kx)
          refine lv_aload_n hx hb dX7_reckon_202 rfl (lv_at hl 0 rfl) ?_
          refine va_get (D := (dC, dI)) (ci := 6) (v := .ref (r 28)) (C := RX7) (T := TX7) (N := 46) hx hb hts hiX7 hown hK hP 0 rfl rfl 28 (by decide) (hts (.fieldLink RX7 70 "LinkModelsModel" "comesTo" "[I") (by decide +kernel)) (fun _ h9 => h9) rfl dX7_reckon_203 ?_
          refine lv_iload_n hx hb dX7_reckon_206 rfl (lv_at hl 2 rfl) ?_
          refine va_iald hx hb hK hP 19 0 rfl rfl (vp_in_nI (show kx < 16 by omega) (by decide)) dX7_reckon_207 ?_
          refine lv_topi (fun x21 ex21 => ?_)
          obtain rfl : x21 = nI (ct2 kx) := by rw [ex21, nI_clamp (show kx < 2 ^ 31 by omega)]
          have hqx21 := hbct2 kx
          refine lv_iconst (v := 1) hx hb dX7_reckon_208 (by decide) ?_
          refine lv_iload_n hx hb dX7_reckon_209 rfl (lv_at hl 2 rfl) ?_
          refine lv_ishl hx hb dX7_reckon_210 ?_
          refine lv_topi (fun x22 ex22 => ?_)
          obtain rfl : x22 = nI (2 ^ kx) := by rw [ex22]; exact z_shl1 (kx) (by omega)
          refine lv_ior hx hb dX7_reckon_211 ?_
          refine lv_topi (fun x23 ex23 => ?_)
          obtain rfl : x23 = nI ((ct2 kx) ||| (2 ^ kx)) := by rw [ex23]; exact (z_or (ct2 kx) (2 ^ kx))
          refine va_iast hx hb hK hP hD hS 10 0 rfl rfl (vp_in_nI (show (16 * bb) + kx < 80 by omega) (by decide)) dX7_reckon_212 (fun H locs hP hD hS => ?_)
          obtain ⟨f24, hP, hD⟩ : ∃ g : Nat → Int32, va_P (dC, dI) vwCl (rW h0 r cI cJ cZ v0 a1 (nI tp) (nI bs) (fun j => nI (cl j)) a5 a6 a7 (fun j => nI (fc j)) a9 (fun j => nI (mb j)) f18 g a13 a14 a15 a16 a17 a18 a19 a20 (nI az) v22 v23 v24 v25 v26 (nI bb) (fun j => nI (ct2 j)) (nI us) a30 a31 a32 a33 a34 a35 a36 a37 (fun j => nI (pil j)) (fun j => nI (rwv j)) (nI rl) v41 v42 v43 v44 v45) H ∧ va_D A (rW h0 r cI cJ cZ v0 a1 (nI tp) (nI bs) (fun j => nI (cl j)) a5 a6 a7 (fun j => nI (fc j)) a9 (fun j => nI (mb j)) f18 g a13 a14 a15 a16 a17 a18 a19 a20 (nI az) v22 v23 v24 v25 v26 (nI bb) (fun j => nI (ct2 j)) (nI us) a30 a31 a32 a33 a34 a35 a36 a37 (fun j => nI (pil j)) (fun j => nI (rwv j)) (nI rl) v41 v42 v43 v44 v45) := ⟨_, hP, hD⟩
          obtain ⟨x25, ex25⟩ : ∃ y : Int32, y = (nI kx) + 1 := ⟨_, rfl⟩
          refine lv_iinc (v := x25) (lv' := [(3, .int x25), (0, .ref h0), (1, .int (nI (cl bb)))]) hx hb dX7_reckon_213 hl (k := 2) rfl (by rw [ex25]; rfl) (by decide) rfl (fun ls hl => ?_)
          obtain rfl : x25 = nI (kx + 1) := by rw [ex25]; exact nI_add (kx) 1
          refine lv_goto (tgt := 151) hx hb dX7_reckon_216 (by decide) ?_
          exact ih151 (kx + 1) ct2 f18 f24 _ _ ls (by omega) hbct2 hfrf18 (by omega) (by assumption) (by assumption) (by intro j hj; rw [ef18]; rcases Nat.decEq j kx with q | q; (rw [pk_un (by omega)]; exact i151_3 j (by omega)); (rw [q, pk_us]; first | exact Or.inl rfl | exact Or.inr ⟨rfl, z_tbf qcp180⟩)) hP hD hS (lv_sub hl [1, 2, 0] rfl)
        · have qcp180 : (((ct2 kx) / 2 ^ kx) % 2) = 1 := (nI_eq (a := ((ct2 kx) / 2 ^ kx) % 2) (b := 1) (by omega) (by omega)).mp cp180
          refine lv_iconst (v := 3) hx hb dX7_reckon_183 (by decide) ?_
          refine lv_goto (tgt := 188) hx hb dX7_reckon_184 (by decide) ?_
          refine va_iast hx hb hK hP hD hS 9 0 rfl rfl (vp_in_nI (show (16 * bb) + kx < 80 by omega) (by decide)) dX7_reckon_188 (fun H locs hP hD hS => ?_)
          obtain ⟨f26, ef26, hP, hD⟩ : ∃ g : Nat → Int32, g = upd e2 ((16 * bb) + kx) (3 : Int32) ∧ va_P (dC, dI) vwCl (rW h0 r cI cJ cZ v0 a1 (nI tp) (nI bs) (fun j => nI (cl j)) a5 a6 a7 (fun j => nI (fc j)) a9 (fun j => nI (mb j)) g o2 a13 a14 a15 a16 a17 a18 a19 a20 (nI az) v22 v23 v24 v25 v26 (nI bb) (fun j => nI (ct2 j)) (nI us) a30 a31 a32 a33 a34 a35 a36 a37 (fun j => nI (pil j)) (fun j => nI (rwv j)) (nI rl) v41 v42 v43 v44 v45) H ∧ va_D A (rW h0 r cI cJ cZ v0 a1 (nI tp) (nI bs) (fun j => nI (cl j)) a5 a6 a7 (fun j => nI (fc j)) a9 (fun j => nI (mb j)) g o2 a13 a14 a15 a16 a17 a18 a19 a20 (nI az) v22 v23 v24 v25 v26 (nI bb) (fun j => nI (ct2 j)) (nI us) a30 a31 a32 a33 a34 a35 a36 a37 (fun j => nI (pil j)) (fun j => nI (rwv j)) (nI rl) v41 v42 v43 v44 v45) := ⟨_, rfl, (by rw [← nI_clamp (show (16 * bb) + kx < 2 ^ 31 by omega)]; exact hP), (by rw [← nI_clamp (show (16 * bb) + kx < 2 ^ 31 by omega)]; exact hD)⟩
          have hfrf26 : ∀ j, j < 16 * bb → f26 j = a11 j := fun j hj => by rw [ef26, pk_un (by omega)]; exact hfre2 j hj
          refine lv_aload_n hx hb dX7_reckon_189 rfl (lv_at hl 0 rfl) ?_
          refine va_get (D := (dC, dI)) (ci := 6) (v := .ref (r 12)) (C := RX7) (T := TX7) (N := 46) hx hb hts hiX7 hown hK hP 0 rfl rfl 12 (by decide) (hts (.fieldLink RX7 41 "LinkModelsModel" "ofAll" "[I") (by decide +kernel)) (fun _ h9 => h9) rfl dX7_reckon_190 ?_
          refine lv_bipush (v := 16) hx hb dX7_reckon_193 (by decide) ?_
          refine lv_aload_n hx hb dX7_reckon_195 rfl (lv_at hl 0 rfl) ?_
          refine va_get (D := (dC, dI)) (ci := 6) (v := .int (nI bb)) (C := RX7) (T := TX7) (N := 46) hx hb hts hiX7 hown hK hP 0 rfl rfl 27 (by decide) (hts (.fieldLink RX7 198 "LinkModelsModel" "b" "I") (by decide +kernel)) (fun _ h9 => h9) rfl dX7_reckon_196 ?_
          refine lv_imul hx hb dX7_reckon_199 ?_
          refine lv_topi (fun x27 ex27 => ?_)
          obtain rfl : x27 = nI (16 * bb) := by rw [ex27]; exact pk_mul (16) (bb)
          refine lv_iload_n hx hb dX7_reckon_200 rfl (lv_at hl 2 rfl) ?_
          refine lv_iadd hx hb dX7_reckon_201 ?_
          refine lv_topi (fun x28 ex28 => ?_)
          obtain rfl : x28 = nI ((16 * bb) + kx) := by rw [ex28]; exact nI_add (16 * bb) (kx)
          refine lv_aload_n hx hb dX7_reckon_202 rfl (lv_at hl 0 rfl) ?_
          refine va_get (D := (dC, dI)) (ci := 6) (v := .ref (r 28)) (C := RX7) (T := TX7) (N := 46) hx hb hts hiX7 hown hK hP 0 rfl rfl 28 (by decide) (hts (.fieldLink RX7 70 "LinkModelsModel" "comesTo" "[I") (by decide +kernel)) (fun _ h9 => h9) rfl dX7_reckon_203 ?_
          refine lv_iload_n hx hb dX7_reckon_206 rfl (lv_at hl 2 rfl) ?_
          refine va_iald hx hb hK hP 19 0 rfl rfl (vp_in_nI (show kx < 16 by omega) (by decide)) dX7_reckon_207 ?_
          refine lv_topi (fun x29 ex29 => ?_)
          obtain rfl : x29 = nI (ct2 kx) := by rw [ex29, nI_clamp (show kx < 2 ^ 31 by omega)]
          have hqx29 := hbct2 kx
          refine lv_iconst (v := 1) hx hb dX7_reckon_208 (by decide) ?_
          refine lv_iload_n hx hb dX7_reckon_209 rfl (lv_at hl 2 rfl) ?_
          refine lv_ishl hx hb dX7_reckon_210 ?_
          refine lv_topi (fun x30 ex30 => ?_)
          obtain rfl : x30 = nI (2 ^ kx) := by rw [ex30]; exact z_shl1 (kx) (by omega)
          refine lv_ior hx hb dX7_reckon_211 ?_
          refine lv_topi (fun x31 ex31 => ?_)
          obtain rfl : x31 = nI ((ct2 kx) ||| (2 ^ kx)) := by rw [ex31]; exact (z_or (ct2 kx) (2 ^ kx))
          refine va_iast hx hb hK hP hD hS 10 0 rfl rfl (vp_in_nI (show (16 * bb) + kx < 80 by omega) (by decide)) dX7_reckon_212 (fun H locs hP hD hS => ?_)
          obtain ⟨f32, hP, hD⟩ : ∃ g : Nat → Int32, va_P (dC, dI) vwCl (rW h0 r cI cJ cZ v0 a1 (nI tp) (nI bs) (fun j => nI (cl j)) a5 a6 a7 (fun j => nI (fc j)) a9 (fun j => nI (mb j)) f26 g a13 a14 a15 a16 a17 a18 a19 a20 (nI az) v22 v23 v24 v25 v26 (nI bb) (fun j => nI (ct2 j)) (nI us) a30 a31 a32 a33 a34 a35 a36 a37 (fun j => nI (pil j)) (fun j => nI (rwv j)) (nI rl) v41 v42 v43 v44 v45) H ∧ va_D A (rW h0 r cI cJ cZ v0 a1 (nI tp) (nI bs) (fun j => nI (cl j)) a5 a6 a7 (fun j => nI (fc j)) a9 (fun j => nI (mb j)) f26 g a13 a14 a15 a16 a17 a18 a19 a20 (nI az) v22 v23 v24 v25 v26 (nI bb) (fun j => nI (ct2 j)) (nI us) a30 a31 a32 a33 a34 a35 a36 a37 (fun j => nI (pil j)) (fun j => nI (rwv j)) (nI rl) v41 v42 v43 v44 v45) := ⟨_, hP, hD⟩
          obtain ⟨x33, ex33⟩ : ∃ y : Int32, y = (nI kx) + 1 := ⟨_, rfl⟩
          refine lv_iinc (v := x33) (lv' := [(3, .int x33), (0, .ref h0), (1, .int (nI (cl bb)))]) hx hb dX7_reckon_213 hl (k := 2) rfl (by rw [ex33]; rfl) (by decide) rfl (fun ls hl => ?_)
          obtain rfl : x33 = nI (kx + 1) := by rw [ex33]; exact nI_add (kx) 1
          refine lv_goto (tgt := 151) hx hb dX7_reckon_216 (by decide) ?_
          exact ih151 (kx + 1) ct2 f26 f32 _ _ ls (by omega) hbct2 hfrf26 (by omega) (by assumption) (by assumption) (by intro j hj; rw [ef26]; rcases Nat.decEq j kx with q | q; (rw [pk_un (by omega)]; exact i151_3 j (by omega)); (rw [q, pk_us]; first | exact Or.inl rfl | exact Or.inr ⟨rfl, z_tbf qcp180⟩)) hP hD hS (lv_sub hl [1, 2, 0] rfl)
  have J44 : ∀ (z44 : Nat) (mo : Nat) (ct2 : Nat → Nat) (H : Heap) (locs : List Loc) (ls : Array Slot), 2 * zS (zFr ct2) (cl bb) + mo < z44 → (∀ j, ct2 j ≤ 65535) → (mo ≤ 1) → (zCov cl a5 a7 fc a9 bb ct2 (cl bb)) → (mo = 0 → zClo ct2 (cl bb)) → va_P (dC, dI) vwCl (rW h0 r cI cJ cZ v0 a1 (nI tp) (nI bs) (fun j => nI (cl j)) a5 a6 a7 (fun j => nI (fc j)) a9 (fun j => nI (mb j)) a11 a12 a13 a14 a15 a16 a17 a18 a19 a20 (nI az) v22 v23 v24 v25 v26 (nI bb) (fun j => nI (ct2 j)) (nI us) a30 a31 a32 a33 a34 a35 a36 a37 (fun j => nI (pil j)) (fun j => nI (rwv j)) (nI rl) v41 v42 v43 v44 v45) H → va_D A (rW h0 r cI cJ cZ v0 a1 (nI tp) (nI bs) (fun j => nI (cl j)) a5 a6 a7 (fun j => nI (fc j)) a9 (fun j => nI (mb j)) a11 a12 a13 a14 a15 a16 a17 a18 a19 a20 (nI az) v22 v23 v24 v25 v26 (nI bb) (fun j => nI (ct2 j)) (nI us) a30 a31 a32 a33 a34 a35 a36 a37 (fun j => nI (pil j)) (fun j => nI (rwv j)) (nI rl) v41 v42 v43 v44 v45) → va_S A s.heap H locs → lv_has ls 6 [(0, .ref h0), (1, .int (nI (cl bb))), (2, .int (nI mo))] → W p l e (headSpec zwX7_reckon { frames := 2, cells := 0, slots := 0, locals := 48 }).room s m (([.ref h0] : List Value).toArray) below meth c H locs 0 0 (MQ below (va_Qv (fun u : (Nat → Nat) × (Nat → Int32) × (Nat → Int32) => (zOK cl a5 a7 fc a9 (u.2.1) bb) ∧ (∀ j, (u.1) j ≤ 65535) ∧ (∀ j, j < 16 * bb → (u.2.1) j = a11 j)) (fun u t => zB dC dI (A) (rW h0 r cI cJ cZ v0 a1 (nI tp) (nI bs) (fun j => nI (cl j)) a5 a6 a7 (fun j => nI (fc j)) a9 (fun j => nI (mb j)) (u.2.1) (u.2.2) a13 a14 a15 a16 a17 a18 a19 a20 (nI az) v22 v23 v24 v25 v26 (nI bb) (fun j => nI ((u.1) j)) (nI us) a30 a31 a32 a33 a34 a35 a36 a37 (fun j => nI (pil j)) (fun j => nI (rwv j)) (nI rl) v41 v42 v43 v44 v45) [(cI, .int), (cJ, .long), (cZ, .boolean)] t) (A)) (([.ref h0] : List Value).toArray) s 0 0 A) (F0 m 44 ls []) := by
    intro z44
    induction z44 with
    | zero => intro mo ct2 H locs ls h9; exact absurd h9 (Nat.not_lt_zero _)
    | succ z44 ih44 =>
      intro mo ct2 H locs ls hm44 hbct2 i44_0 i44_1 i44_2 hP hD hS hl
      have J52 : ∀ (z52 : Nat) (m3 : Nat) (kx : Nat) (ct3 : Nat → Nat) (H : Heap) (locs : List Loc) (ls : Array Slot), cl bb - kx < z52 → (∀ j, ct3 j ≤ 65535) → (kx ≤ cl bb) → (m3 ≤ 1) → (zCov cl a5 a7 fc a9 bb ct3 (cl bb)) → (zS (zFr ct3) (cl bb) ≤ zS (zFr ct2) (cl bb)) → (m3 = 0 ∨ zS (zFr ct3) (cl bb) < zS (zFr ct2) (cl bb)) → (m3 = 0 → ct3 = ct2) → (m3 = 0 → ∀ j, j < kx → ∀ i, i < cl bb → (ct3 j).testBit i = true → ∀ p, (ct3 i).testBit p = true → (ct3 j).testBit p = true) → (mo = 1) → va_P (dC, dI) vwCl (rW h0 r cI cJ cZ v0 a1 (nI tp) (nI bs) (fun j => nI (cl j)) a5 a6 a7 (fun j => nI (fc j)) a9 (fun j => nI (mb j)) a11 a12 a13 a14 a15 a16 a17 a18 a19 a20 (nI az) v22 v23 v24 v25 v26 (nI bb) (fun j => nI (ct3 j)) (nI us) a30 a31 a32 a33 a34 a35 a36 a37 (fun j => nI (pil j)) (fun j => nI (rwv j)) (nI rl) v41 v42 v43 v44 v45) H → va_D A (rW h0 r cI cJ cZ v0 a1 (nI tp) (nI bs) (fun j => nI (cl j)) a5 a6 a7 (fun j => nI (fc j)) a9 (fun j => nI (mb j)) a11 a12 a13 a14 a15 a16 a17 a18 a19 a20 (nI az) v22 v23 v24 v25 v26 (nI bb) (fun j => nI (ct3 j)) (nI us) a30 a31 a32 a33 a34 a35 a36 a37 (fun j => nI (pil j)) (fun j => nI (rwv j)) (nI rl) v41 v42 v43 v44 v45) → va_S A s.heap H locs → lv_has ls 6 [(0, .ref h0), (1, .int (nI (cl bb))), (2, .int (nI m3)), (3, .int (nI kx))] → W p l e (headSpec zwX7_reckon { frames := 2, cells := 0, slots := 0, locals := 48 }).room s m (([.ref h0] : List Value).toArray) below meth c H locs 0 0 (MQ below (va_Qv (fun u : (Nat → Nat) × (Nat → Int32) × (Nat → Int32) => (zOK cl a5 a7 fc a9 (u.2.1) bb) ∧ (∀ j, (u.1) j ≤ 65535) ∧ (∀ j, j < 16 * bb → (u.2.1) j = a11 j)) (fun u t => zB dC dI (A) (rW h0 r cI cJ cZ v0 a1 (nI tp) (nI bs) (fun j => nI (cl j)) a5 a6 a7 (fun j => nI (fc j)) a9 (fun j => nI (mb j)) (u.2.1) (u.2.2) a13 a14 a15 a16 a17 a18 a19 a20 (nI az) v22 v23 v24 v25 v26 (nI bb) (fun j => nI ((u.1) j)) (nI us) a30 a31 a32 a33 a34 a35 a36 a37 (fun j => nI (pil j)) (fun j => nI (rwv j)) (nI rl) v41 v42 v43 v44 v45) [(cI, .int), (cJ, .long), (cZ, .boolean)] t) (A)) (([.ref h0] : List Value).toArray) s 0 0 A) (F0 m 52 ls []) := by
        intro z52
        induction z52 with
        | zero => intro m3 kx ct3 H locs ls h9; exact absurd h9 (Nat.not_lt_zero _)
        | succ z52 ih52 =>
          intro m3 kx ct3 H locs ls hm52 hbct3 i52_0 i52_1 i52_2 i52_3 i52_4 i52_5 i52_6 i52_7 hP hD hS hl
          have J68 : ∀ (z68 : Nat) (bt : Nat) (jx : Nat) (H : Heap) (locs : List Loc) (ls : Array Slot), cl bb - jx < z68 → (jx ≤ cl bb) → (bt ≤ 65535) → (∃ x, bt = ct3 kx ||| x) → (∀ i, i < jx → (ct3 kx).testBit i = true → ∀ p, (ct3 i).testBit p = true → bt.testBit p = true) → (kx < cl bb) → va_P (dC, dI) vwCl (rW h0 r cI cJ cZ v0 a1 (nI tp) (nI bs) (fun j => nI (cl j)) a5 a6 a7 (fun j => nI (fc j)) a9 (fun j => nI (mb j)) a11 a12 a13 a14 a15 a16 a17 a18 a19 a20 (nI az) v22 v23 v24 v25 v26 (nI bb) (fun j => nI (ct3 j)) (nI us) a30 a31 a32 a33 a34 a35 a36 a37 (fun j => nI (pil j)) (fun j => nI (rwv j)) (nI rl) v41 v42 v43 v44 v45) H → va_D A (rW h0 r cI cJ cZ v0 a1 (nI tp) (nI bs) (fun j => nI (cl j)) a5 a6 a7 (fun j => nI (fc j)) a9 (fun j => nI (mb j)) a11 a12 a13 a14 a15 a16 a17 a18 a19 a20 (nI az) v22 v23 v24 v25 v26 (nI bb) (fun j => nI (ct3 j)) (nI us) a30 a31 a32 a33 a34 a35 a36 a37 (fun j => nI (pil j)) (fun j => nI (rwv j)) (nI rl) v41 v42 v43 v44 v45) → va_S A s.heap H locs → lv_has ls 6 [(0, .ref h0), (1, .int (nI (cl bb))), (2, .int (nI m3)), (3, .int (nI kx)), (4, .int (nI bt)), (5, .int (nI jx))] → W p l e (headSpec zwX7_reckon { frames := 2, cells := 0, slots := 0, locals := 48 }).room s m (([.ref h0] : List Value).toArray) below meth c H locs 0 0 (MQ below (va_Qv (fun u : (Nat → Nat) × (Nat → Int32) × (Nat → Int32) => (zOK cl a5 a7 fc a9 (u.2.1) bb) ∧ (∀ j, (u.1) j ≤ 65535) ∧ (∀ j, j < 16 * bb → (u.2.1) j = a11 j)) (fun u t => zB dC dI (A) (rW h0 r cI cJ cZ v0 a1 (nI tp) (nI bs) (fun j => nI (cl j)) a5 a6 a7 (fun j => nI (fc j)) a9 (fun j => nI (mb j)) (u.2.1) (u.2.2) a13 a14 a15 a16 a17 a18 a19 a20 (nI az) v22 v23 v24 v25 v26 (nI bb) (fun j => nI ((u.1) j)) (nI us) a30 a31 a32 a33 a34 a35 a36 a37 (fun j => nI (pil j)) (fun j => nI (rwv j)) (nI rl) v41 v42 v43 v44 v45) [(cI, .int), (cJ, .long), (cZ, .boolean)] t) (A)) (([.ref h0] : List Value).toArray) s 0 0 A) (F0 m 68 ls []) := by
            intro z68
            induction z68 with
            | zero => intro bt jx H locs ls h9; exact absurd h9 (Nat.not_lt_zero _)
            | succ z68 ih68 =>
              intro bt jx H locs ls hm68 i68_0 i68_1 i68_2 i68_3 i68_4 hP hD hS hl
              refine lv_iload hx hb dX7_reckon_68 (lv_at hl 5 rfl) ?_
              refine lv_iload_n hx hb dX7_reckon_70 rfl (lv_at hl 1 rfl) ?_
              refine lv_icmp_ge (tgt := 111) hx hb dX7_reckon_71 (by decide) (fun cp71 => ?_) (fun cp71 => ?_)
              · have qcp71 : (cl bb) ≤ jx := (nI_leI (a := cl bb) (b := jx) (by omega) (by omega)).mp cp71
                refine lv_iload_n hx hb dX7_reckon_111 rfl (lv_at hl 2 rfl) ?_
                refine lv_if_ne (tgt := 126) hx hb dX7_reckon_112 (by decide) (fun cp112 => ?_) (fun cp112 => ?_)
                · have qcp112 : ¬ m3 = 0 := fun h9 => cp112 ((nI_eq (a := m3) (b := 0) (by omega) (by omega)).mpr h9)
                  refine lv_iconst (v := 1) hx hb dX7_reckon_126 (by decide) ?_
                  refine lv_goto (tgt := 131) hx hb dX7_reckon_127 (by decide) ?_
                  refine lv_istore_n (lv' := [(2, .int 1), (0, .ref h0), (1, .int (nI (cl bb))), (3, .int (nI kx)), (4, .int (nI bt)), (5, .int (nI jx))]) hx hb dX7_reckon_131 rfl hl (by decide) rfl (fun ls hl => ?_)
                  refine lv_aload_n hx hb dX7_reckon_132 rfl (lv_at hl 1 rfl) ?_
                  refine va_get (D := (dC, dI)) (ci := 6) (v := .ref (r 28)) (C := RX7) (T := TX7) (N := 46) hx hb hts hiX7 hown hK hP 0 rfl rfl 28 (by decide) (hts (.fieldLink RX7 70 "LinkModelsModel" "comesTo" "[I") (by decide +kernel)) (fun _ h9 => h9) rfl dX7_reckon_133 ?_
                  refine lv_iload_n hx hb dX7_reckon_136 rfl (lv_at hl 3 rfl) ?_
                  refine lv_iload hx hb dX7_reckon_137 (lv_at hl 4 rfl) ?_
                  refine va_iast hx hb hK hP hD hS 19 0 rfl rfl (vp_in_nI (show kx < 16 by omega) (by decide)) dX7_reckon_139 (fun H locs hP hD hS => ?_)
                  obtain ⟨f34, ef34⟩ : ∃ g, g = z_up ct3 kx bt := ⟨_, rfl⟩
                  have hP : va_P (dC, dI) vwCl (rW h0 r cI cJ cZ v0 a1 (nI tp) (nI bs) (fun j => nI (cl j)) a5 a6 a7 (fun j => nI (fc j)) a9 (fun j => nI (mb j)) a11 a12 a13 a14 a15 a16 a17 a18 a19 a20 (nI az) v22 v23 v24 v25 v26 (nI bb) (fun j => nI (f34 j)) (nI us) a30 a31 a32 a33 a34 a35 a36 a37 (fun j => nI (pil j)) (fun j => nI (rwv j)) (nI rl) v41 v42 v43 v44 v45) H := by rw [ef34, ← z_upd (show kx < 2 ^ 31 by omega)]; exact hP
                  have hD : va_D A (rW h0 r cI cJ cZ v0 a1 (nI tp) (nI bs) (fun j => nI (cl j)) a5 a6 a7 (fun j => nI (fc j)) a9 (fun j => nI (mb j)) a11 a12 a13 a14 a15 a16 a17 a18 a19 a20 (nI az) v22 v23 v24 v25 v26 (nI bb) (fun j => nI (f34 j)) (nI us) a30 a31 a32 a33 a34 a35 a36 a37 (fun j => nI (pil j)) (fun j => nI (rwv j)) (nI rl) v41 v42 v43 v44 v45) := by rw [ef34, ← z_upd (show kx < 2 ^ 31 by omega)]; exact hD
                  have hbf34 : ∀ j, f34 j ≤ 65535 := by rw [ef34]; exact z_upb hbct3 (by omega)
                  obtain ⟨x35, ex35⟩ : ∃ y : Int32, y = (nI kx) + 1 := ⟨_, rfl⟩
                  refine lv_iinc (v := x35) (lv' := [(3, .int x35), (2, .int 1), (0, .ref h0), (1, .int (nI (cl bb))), (4, .int (nI bt)), (5, .int (nI jx))]) hx hb dX7_reckon_140 hl (k := 3) rfl (by rw [ex35]; rfl) (by decide) rfl (fun ls hl => ?_)
                  obtain rfl : x35 = nI (kx + 1) := by rw [ex35]; exact nI_add (kx) 1
                  refine lv_goto (tgt := 52) hx hb dX7_reckon_143 (by decide) ?_
                  exact ih52 1 (kx + 1) f34 _ _ ls (by omega) hbf34 (by omega) (by omega) (by rw [ef34]; exact z_cov i52_2 i68_2) (by rw [ef34]; exact Nat.le_trans (z_sle i68_2) i52_3) (by first | exact Or.inl rfl | exact Or.inr (by rw [ef34]; exact Nat.lt_of_le_of_lt (z_sle i68_2) (i52_4.resolve_left qcp112)) | exact Or.inr (by rw [ef34]; exact Nat.lt_of_lt_of_le (z_slt i68_2 i68_4 i68_1 qcp123) i52_3)) (by first | (intro h9; exact absurd h9 (by decide)) | (intro _; rw [ef34, z_usame qcp123]; exact i52_5 qcp112)) (by first | (intro h9; exact absurd h9 (by decide)) | (intro _ j hj i hi hb p hp; rw [ef34, z_usame qcp123] at hb hp ⊢; rcases Nat.lt_or_ge j kx with h8 | h8; (exact i52_6 qcp112 j h8 i hi hb p hp); (rw [show j = kx by omega] at hb ⊢; rw [← qcp123]; exact i68_3 i (by omega) hb p hp))) (by omega) hP hD hS (lv_sub hl [2, 3, 1, 0] rfl)
                · have qcp112 : m3 = 0 := (nI_eq (a := m3) (b := 0) (by omega) (by omega)).mp cp112
                  refine lv_iload hx hb dX7_reckon_115 (lv_at hl 4 rfl) ?_
                  refine lv_aload_n hx hb dX7_reckon_117 rfl (lv_at hl 0 rfl) ?_
                  refine va_get (D := (dC, dI)) (ci := 6) (v := .ref (r 28)) (C := RX7) (T := TX7) (N := 46) hx hb hts hiX7 hown hK hP 0 rfl rfl 28 (by decide) (hts (.fieldLink RX7 70 "LinkModelsModel" "comesTo" "[I") (by decide +kernel)) (fun _ h9 => h9) rfl dX7_reckon_118 ?_
                  refine lv_iload_n hx hb dX7_reckon_121 rfl (lv_at hl 3 rfl) ?_
                  refine va_iald hx hb hK hP 19 0 rfl rfl (vp_in_nI (show kx < 16 by omega) (by decide)) dX7_reckon_122 ?_
                  refine lv_topi (fun x36 ex36 => ?_)
                  obtain rfl : x36 = nI (ct3 kx) := by rw [ex36, nI_clamp (show kx < 2 ^ 31 by omega)]
                  have hqx36 := hbct3 kx
                  refine lv_icmp_eq (tgt := 130) hx hb dX7_reckon_123 (by decide) (fun cp123 => ?_) (fun cp123 => ?_)
                  · have qcp123 : bt = (ct3 kx) := (nI_eq (a := bt) (b := ct3 kx) (by omega) (by omega)).mp cp123
                    refine lv_iconst (v := 0) hx hb dX7_reckon_130 (by decide) ?_
                    refine lv_istore_n (lv' := [(2, .int 0), (0, .ref h0), (1, .int (nI (cl bb))), (3, .int (nI kx)), (4, .int (nI bt)), (5, .int (nI jx))]) hx hb dX7_reckon_131 rfl hl (by decide) rfl (fun ls hl => ?_)
                    refine lv_aload_n hx hb dX7_reckon_132 rfl (lv_at hl 1 rfl) ?_
                    refine va_get (D := (dC, dI)) (ci := 6) (v := .ref (r 28)) (C := RX7) (T := TX7) (N := 46) hx hb hts hiX7 hown hK hP 0 rfl rfl 28 (by decide) (hts (.fieldLink RX7 70 "LinkModelsModel" "comesTo" "[I") (by decide +kernel)) (fun _ h9 => h9) rfl dX7_reckon_133 ?_
                    refine lv_iload_n hx hb dX7_reckon_136 rfl (lv_at hl 3 rfl) ?_
                    refine lv_iload hx hb dX7_reckon_137 (lv_at hl 4 rfl) ?_
                    refine va_iast hx hb hK hP hD hS 19 0 rfl rfl (vp_in_nI (show kx < 16 by omega) (by decide)) dX7_reckon_139 (fun H locs hP hD hS => ?_)
                    obtain ⟨f37, ef37⟩ : ∃ g, g = z_up ct3 kx bt := ⟨_, rfl⟩
                    have hP : va_P (dC, dI) vwCl (rW h0 r cI cJ cZ v0 a1 (nI tp) (nI bs) (fun j => nI (cl j)) a5 a6 a7 (fun j => nI (fc j)) a9 (fun j => nI (mb j)) a11 a12 a13 a14 a15 a16 a17 a18 a19 a20 (nI az) v22 v23 v24 v25 v26 (nI bb) (fun j => nI (f37 j)) (nI us) a30 a31 a32 a33 a34 a35 a36 a37 (fun j => nI (pil j)) (fun j => nI (rwv j)) (nI rl) v41 v42 v43 v44 v45) H := by rw [ef37, ← z_upd (show kx < 2 ^ 31 by omega)]; exact hP
                    have hD : va_D A (rW h0 r cI cJ cZ v0 a1 (nI tp) (nI bs) (fun j => nI (cl j)) a5 a6 a7 (fun j => nI (fc j)) a9 (fun j => nI (mb j)) a11 a12 a13 a14 a15 a16 a17 a18 a19 a20 (nI az) v22 v23 v24 v25 v26 (nI bb) (fun j => nI (f37 j)) (nI us) a30 a31 a32 a33 a34 a35 a36 a37 (fun j => nI (pil j)) (fun j => nI (rwv j)) (nI rl) v41 v42 v43 v44 v45) := by rw [ef37, ← z_upd (show kx < 2 ^ 31 by omega)]; exact hD
                    have hbf37 : ∀ j, f37 j ≤ 65535 := by rw [ef37]; exact z_upb hbct3 (by omega)
                    obtain ⟨x38, ex38⟩ : ∃ y : Int32, y = (nI kx) + 1 := ⟨_, rfl⟩
                    refine lv_iinc (v := x38) (lv' := [(3, .int x38), (2, .int 0), (0, .ref h0), (1, .int (nI (cl bb))), (4, .int (nI bt)), (5, .int (nI jx))]) hx hb dX7_reckon_140 hl (k := 3) rfl (by rw [ex38]; rfl) (by decide) rfl (fun ls hl => ?_)
                    obtain rfl : x38 = nI (kx + 1) := by rw [ex38]; exact nI_add (kx) 1
                    refine lv_goto (tgt := 52) hx hb dX7_reckon_143 (by decide) ?_
                    exact ih52 0 (kx + 1) f37 _ _ ls (by omega) hbf37 (by omega) (by omega) (by rw [ef37]; exact z_cov i52_2 i68_2) (by rw [ef37]; exact Nat.le_trans (z_sle i68_2) i52_3) (by first | exact Or.inl rfl | exact Or.inr (by rw [ef37]; exact Nat.lt_of_le_of_lt (z_sle i68_2) (i52_4.resolve_left qcp112)) | exact Or.inr (by rw [ef37]; exact Nat.lt_of_lt_of_le (z_slt i68_2 i68_4 i68_1 qcp123) i52_3)) (by first | (intro h9; exact absurd h9 (by decide)) | (intro _; rw [ef37, z_usame qcp123]; exact i52_5 qcp112)) (by first | (intro h9; exact absurd h9 (by decide)) | (intro _ j hj i hi hb p hp; rw [ef37, z_usame qcp123] at hb hp ⊢; rcases Nat.lt_or_ge j kx with h8 | h8; (exact i52_6 qcp112 j h8 i hi hb p hp); (rw [show j = kx by omega] at hb ⊢; rw [← qcp123]; exact i68_3 i (by omega) hb p hp))) (by omega) hP hD hS (lv_sub hl [2, 3, 1, 0] rfl)
                  · have qcp123 : ¬ bt = (ct3 kx) := fun h9 => cp123 ((nI_eq (a := bt) (b := ct3 kx) (by omega) (by omega)).mpr h9)
                    refine lv_iconst (v := 1) hx hb dX7_reckon_126 (by decide) ?_
                    refine lv_goto (tgt := 131) hx hb dX7_reckon_127 (by decide) ?_
                    refine lv_istore_n (lv' := [(2, .int 1), (0, .ref h0), (1, .int (nI (cl bb))), (3, .int (nI kx)), (4, .int (nI bt)), (5, .int (nI jx))]) hx hb dX7_reckon_131 rfl hl (by decide) rfl (fun ls hl => ?_)
                    refine lv_aload_n hx hb dX7_reckon_132 rfl (lv_at hl 1 rfl) ?_
                    refine va_get (D := (dC, dI)) (ci := 6) (v := .ref (r 28)) (C := RX7) (T := TX7) (N := 46) hx hb hts hiX7 hown hK hP 0 rfl rfl 28 (by decide) (hts (.fieldLink RX7 70 "LinkModelsModel" "comesTo" "[I") (by decide +kernel)) (fun _ h9 => h9) rfl dX7_reckon_133 ?_
                    refine lv_iload_n hx hb dX7_reckon_136 rfl (lv_at hl 3 rfl) ?_
                    refine lv_iload hx hb dX7_reckon_137 (lv_at hl 4 rfl) ?_
                    refine va_iast hx hb hK hP hD hS 19 0 rfl rfl (vp_in_nI (show kx < 16 by omega) (by decide)) dX7_reckon_139 (fun H locs hP hD hS => ?_)
                    obtain ⟨f39, ef39⟩ : ∃ g, g = z_up ct3 kx bt := ⟨_, rfl⟩
                    have hP : va_P (dC, dI) vwCl (rW h0 r cI cJ cZ v0 a1 (nI tp) (nI bs) (fun j => nI (cl j)) a5 a6 a7 (fun j => nI (fc j)) a9 (fun j => nI (mb j)) a11 a12 a13 a14 a15 a16 a17 a18 a19 a20 (nI az) v22 v23 v24 v25 v26 (nI bb) (fun j => nI (f39 j)) (nI us) a30 a31 a32 a33 a34 a35 a36 a37 (fun j => nI (pil j)) (fun j => nI (rwv j)) (nI rl) v41 v42 v43 v44 v45) H := by rw [ef39, ← z_upd (show kx < 2 ^ 31 by omega)]; exact hP
                    have hD : va_D A (rW h0 r cI cJ cZ v0 a1 (nI tp) (nI bs) (fun j => nI (cl j)) a5 a6 a7 (fun j => nI (fc j)) a9 (fun j => nI (mb j)) a11 a12 a13 a14 a15 a16 a17 a18 a19 a20 (nI az) v22 v23 v24 v25 v26 (nI bb) (fun j => nI (f39 j)) (nI us) a30 a31 a32 a33 a34 a35 a36 a37 (fun j => nI (pil j)) (fun j => nI (rwv j)) (nI rl) v41 v42 v43 v44 v45) := by rw [ef39, ← z_upd (show kx < 2 ^ 31 by omega)]; exact hD
                    have hbf39 : ∀ j, f39 j ≤ 65535 := by rw [ef39]; exact z_upb hbct3 (by omega)
                    obtain ⟨x40, ex40⟩ : ∃ y : Int32, y = (nI kx) + 1 := ⟨_, rfl⟩
                    refine lv_iinc (v := x40) (lv' := [(3, .int x40), (2, .int 1), (0, .ref h0), (1, .int (nI (cl bb))), (4, .int (nI bt)), (5, .int (nI jx))]) hx hb dX7_reckon_140 hl (k := 3) rfl (by rw [ex40]; rfl) (by decide) rfl (fun ls hl => ?_)
                    obtain rfl : x40 = nI (kx + 1) := by rw [ex40]; exact nI_add (kx) 1
                    refine lv_goto (tgt := 52) hx hb dX7_reckon_143 (by decide) ?_
                    exact ih52 1 (kx + 1) f39 _ _ ls (by omega) hbf39 (by omega) (by omega) (by rw [ef39]; exact z_cov i52_2 i68_2) (by rw [ef39]; exact Nat.le_trans (z_sle i68_2) i52_3) (by first | exact Or.inl rfl | exact Or.inr (by rw [ef39]; exact Nat.lt_of_le_of_lt (z_sle i68_2) (i52_4.resolve_left qcp112)) | exact Or.inr (by rw [ef39]; exact Nat.lt_of_lt_of_le (z_slt i68_2 i68_4 i68_1 qcp123) i52_3)) (by first | (intro h9; exact absurd h9 (by decide)) | (intro _; rw [ef39, z_usame qcp123]; exact i52_5 qcp112)) (by first | (intro h9; exact absurd h9 (by decide)) | (intro _ j hj i hi hb p hp; rw [ef39, z_usame qcp123] at hb hp ⊢; rcases Nat.lt_or_ge j kx with h8 | h8; (exact i52_6 qcp112 j h8 i hi hb p hp); (rw [show j = kx by omega] at hb ⊢; rw [← qcp123]; exact i68_3 i (by omega) hb p hp))) (by omega) hP hD hS (lv_sub hl [2, 3, 1, 0] rfl)
              · have qcp71 : ¬ (cl bb) ≤ jx := fun h9 => cp71 ((nI_leI (a := cl bb) (b := jx) (by omega) (by omega)).mpr h9)
                refine lv_iload hx hb dX7_reckon_74 (lv_at hl 4 rfl) ?_
                refine lv_aload_n hx hb dX7_reckon_76 rfl (lv_at hl 0 rfl) ?_
                refine va_get (D := (dC, dI)) (ci := 6) (v := .ref (r 28)) (C := RX7) (T := TX7) (N := 46) hx hb hts hiX7 hown hK hP 0 rfl rfl 28 (by decide) (hts (.fieldLink RX7 70 "LinkModelsModel" "comesTo" "[I") (by decide +kernel)) (fun _ h9 => h9) rfl dX7_reckon_77 ?_
                refine lv_iload_n hx hb dX7_reckon_80 rfl (lv_at hl 3 rfl) ?_
                refine va_iald hx hb hK hP 19 0 rfl rfl (vp_in_nI (show kx < 16 by omega) (by decide)) dX7_reckon_81 ?_
                refine lv_topi (fun x41 ex41 => ?_)
                obtain rfl : x41 = nI (ct3 kx) := by rw [ex41, nI_clamp (show kx < 2 ^ 31 by omega)]
                have hqx41 := hbct3 kx
                refine lv_iload hx hb dX7_reckon_82 (lv_at hl 5 rfl) ?_
                refine lv_ishr hx hb dX7_reckon_84 ?_
                refine lv_topi (fun x42 ex42 => ?_)
                obtain rfl : x42 = nI ((ct3 kx) / 2 ^ jx) := by rw [ex42]; exact z_shr (show ct3 kx < 2 ^ 31 by omega) (show jx < 32 by omega)
                refine lv_iconst (v := 1) hx hb dX7_reckon_85 (by decide) ?_
                refine lv_iand hx hb dX7_reckon_86 ?_
                refine lv_topi (fun x43 ex43 => ?_)
                obtain rfl : x43 = nI (((ct3 kx) / 2 ^ jx) % 2) := by rw [ex43]; exact z_and1 (by exact Nat.lt_of_le_of_lt (Nat.div_le_self _ _) (by omega))
                refine lv_iconst (v := 1) hx hb dX7_reckon_87 (by decide) ?_
                refine lv_icmp_ne (tgt := 101) hx hb dX7_reckon_88 (by decide) (fun cp88 => ?_) (fun cp88 => ?_)
                · have qcp88 : ¬ (((ct3 kx) / 2 ^ jx) % 2) = 1 := fun h9 => cp88 ((nI_eq (a := ((ct3 kx) / 2 ^ jx) % 2) (b := 1) (by omega) (by omega)).mpr h9)
                  refine lv_iconst (v := 0) hx hb dX7_reckon_101 (by decide) ?_
                  refine lv_ior hx hb dX7_reckon_102 ?_
                  refine lv_topi (fun x44 ex44 => ?_)
                  obtain rfl : x44 = nI (bt) := by rw [ex44]; exact (z_or (bt) (0)).trans (by rw [Nat.or_zero])
                  refine lv_istore (lv' := [(4, .int (nI bt)), (0, .ref h0), (1, .int (nI (cl bb))), (2, .int (nI m3)), (3, .int (nI kx)), (5, .int (nI jx))]) hx hb dX7_reckon_103 hl (by decide) rfl (fun ls hl => ?_)
                  obtain ⟨x45, ex45⟩ : ∃ y : Int32, y = (nI jx) + 1 := ⟨_, rfl⟩
                  refine lv_iinc (v := x45) (lv' := [(5, .int x45), (4, .int (nI bt)), (0, .ref h0), (1, .int (nI (cl bb))), (2, .int (nI m3)), (3, .int (nI kx))]) hx hb dX7_reckon_105 hl (k := 5) rfl (by rw [ex45]; rfl) (by decide) rfl (fun ls hl => ?_)
                  obtain rfl : x45 = nI (jx + 1) := by rw [ex45]; exact nI_add (jx) 1
                  refine lv_goto (tgt := 68) hx hb dX7_reckon_108 (by decide) ?_
                  exact ih68 bt (jx + 1) _ _ ls (by omega) (by omega) (by first | assumption | exact z_or16 (by assumption) (by assumption)) (by first | assumption | (obtain ⟨x, hx8⟩ := i68_2; exact ⟨x ||| ct3 jx, by rw [hx8, Nat.or_assoc]⟩)) (by intro i hi hb p hp; rcases Nat.lt_or_ge i jx with h8 | h8; (first | exact i68_3 i h8 hb p hp | exact z_bm (i68_3 i h8 hb p hp)); (rw [show i = jx by omega] at hb hp; first | exact z_bm' hp | exact absurd (z_tb.mpr hb) qcp88)) (by omega) hP hD hS (lv_sub hl [2, 3, 4, 5, 1, 0] rfl)
                · have qcp88 : (((ct3 kx) / 2 ^ jx) % 2) = 1 := (nI_eq (a := ((ct3 kx) / 2 ^ jx) % 2) (b := 1) (by omega) (by omega)).mp cp88
                  refine lv_aload_n hx hb dX7_reckon_91 rfl (lv_at hl 0 rfl) ?_
                  refine va_get (D := (dC, dI)) (ci := 6) (v := .ref (r 28)) (C := RX7) (T := TX7) (N := 46) hx hb hts hiX7 hown hK hP 0 rfl rfl 28 (by decide) (hts (.fieldLink RX7 70 "LinkModelsModel" "comesTo" "[I") (by decide +kernel)) (fun _ h9 => h9) rfl dX7_reckon_92 ?_
                  refine lv_iload hx hb dX7_reckon_95 (lv_at hl 5 rfl) ?_
                  refine va_iald hx hb hK hP 19 0 rfl rfl (vp_in_nI (show jx < 16 by omega) (by decide)) dX7_reckon_97 ?_
                  refine lv_topi (fun x46 ex46 => ?_)
                  obtain rfl : x46 = nI (ct3 jx) := by rw [ex46, nI_clamp (show jx < 2 ^ 31 by omega)]
                  have hqx46 := hbct3 jx
                  refine lv_goto (tgt := 102) hx hb dX7_reckon_98 (by decide) ?_
                  refine lv_ior hx hb dX7_reckon_102 ?_
                  refine lv_topi (fun x47 ex47 => ?_)
                  obtain rfl : x47 = nI (bt ||| (ct3 jx)) := by rw [ex47]; exact (z_or (bt) (ct3 jx))
                  refine lv_istore (lv' := [(4, .int (nI (bt ||| (ct3 jx)))), (0, .ref h0), (1, .int (nI (cl bb))), (2, .int (nI m3)), (3, .int (nI kx)), (5, .int (nI jx))]) hx hb dX7_reckon_103 hl (by decide) rfl (fun ls hl => ?_)
                  obtain ⟨x48, ex48⟩ : ∃ y : Int32, y = (nI jx) + 1 := ⟨_, rfl⟩
                  refine lv_iinc (v := x48) (lv' := [(5, .int x48), (4, .int (nI (bt ||| (ct3 jx)))), (0, .ref h0), (1, .int (nI (cl bb))), (2, .int (nI m3)), (3, .int (nI kx))]) hx hb dX7_reckon_105 hl (k := 5) rfl (by rw [ex48]; rfl) (by decide) rfl (fun ls hl => ?_)
                  obtain rfl : x48 = nI (jx + 1) := by rw [ex48]; exact nI_add (jx) 1
                  refine lv_goto (tgt := 68) hx hb dX7_reckon_108 (by decide) ?_
                  exact ih68 (bt ||| (ct3 jx)) (jx + 1) _ _ ls (by omega) (by omega) (by first | assumption | exact z_or16 (by assumption) (by assumption)) (by first | assumption | (obtain ⟨x, hx8⟩ := i68_2; exact ⟨x ||| ct3 jx, by rw [hx8, Nat.or_assoc]⟩)) (by intro i hi hb p hp; rcases Nat.lt_or_ge i jx with h8 | h8; (first | exact i68_3 i h8 hb p hp | exact z_bm (i68_3 i h8 hb p hp)); (rw [show i = jx by omega] at hb hp; first | exact z_bm' hp | exact absurd (z_tb.mpr hb) qcp88)) (by omega) hP hD hS (lv_sub hl [2, 3, 4, 5, 1, 0] rfl)
          refine lv_iload_n hx hb dX7_reckon_52 rfl (lv_at hl 3 rfl) ?_
          refine lv_iload_n hx hb dX7_reckon_53 rfl (lv_at hl 1 rfl) ?_
          refine lv_icmp_ge (tgt := 146) hx hb dX7_reckon_54 (by decide) (fun cp54 => ?_) (fun cp54 => ?_)
          · have qcp54 : (cl bb) ≤ kx := (nI_leI (a := cl bb) (b := kx) (by omega) (by omega)).mp cp54
            refine lv_goto (tgt := 44) hx hb dX7_reckon_146 (by decide) ?_
            exact ih44 m3 ct3 _ _ ls (by omega) hbct3 (by omega) (by exact i52_2) (by intro h9 j hj i hi hb p hp; exact i52_6 h9 j (by omega) i hi hb p hp) hP hD hS (lv_sub hl [0, 1, 2] rfl)
          · have qcp54 : ¬ (cl bb) ≤ kx := fun h9 => cp54 ((nI_leI (a := cl bb) (b := kx) (by omega) (by omega)).mpr h9)
            refine lv_aload_n hx hb dX7_reckon_57 rfl (lv_at hl 0 rfl) ?_
            refine va_get (D := (dC, dI)) (ci := 6) (v := .ref (r 28)) (C := RX7) (T := TX7) (N := 46) hx hb hts hiX7 hown hK hP 0 rfl rfl 28 (by decide) (hts (.fieldLink RX7 70 "LinkModelsModel" "comesTo" "[I") (by decide +kernel)) (fun _ h9 => h9) rfl dX7_reckon_58 ?_
            refine lv_iload_n hx hb dX7_reckon_61 rfl (lv_at hl 3 rfl) ?_
            refine va_iald hx hb hK hP 19 0 rfl rfl (vp_in_nI (show kx < 16 by omega) (by decide)) dX7_reckon_62 ?_
            refine lv_topi (fun x49 ex49 => ?_)
            obtain rfl : x49 = nI (ct3 kx) := by rw [ex49, nI_clamp (show kx < 2 ^ 31 by omega)]
            have hqx49 := hbct3 kx
            refine lv_istore (lv' := [(4, .int (nI (ct3 kx))), (0, .ref h0), (1, .int (nI (cl bb))), (2, .int (nI m3)), (3, .int (nI kx))]) hx hb dX7_reckon_63 hl (by decide) rfl (fun ls hl => ?_)
            refine lv_iconst (v := 0) hx hb dX7_reckon_65 (by decide) ?_
            refine lv_istore (lv' := [(5, .int 0), (4, .int (nI (ct3 kx))), (0, .ref h0), (1, .int (nI (cl bb))), (2, .int (nI m3)), (3, .int (nI kx))]) hx hb dX7_reckon_66 hl (by decide) rfl (fun ls hl => ?_)
            exact J68 _ (ct3 kx) 0 _ _ ls (Nat.lt_succ_self _) (by omega) (by omega) (by exact ⟨0, (Nat.or_zero _).symm⟩) (by intro i hi; omega) (by omega) hP hD hS (lv_sub hl [2, 3, 4, 5, 1, 0] rfl)
      refine lv_iload_n hx hb dX7_reckon_44 rfl (lv_at hl 2 rfl) ?_
      refine lv_if_eq (tgt := 149) hx hb dX7_reckon_45 (by decide) (fun cp45 => ?_) (fun cp45 => ?_)
      · have qcp45 : mo = 0 := (nI_eq (a := mo) (b := 0) (by omega) (by omega)).mp cp45
        refine lv_iconst (v := 0) hx hb dX7_reckon_149 (by decide) ?_
        refine lv_istore_n (lv' := [(3, .int 0), (0, .ref h0), (1, .int (nI (cl bb))), (2, .int (nI mo))]) hx hb dX7_reckon_150 rfl hl (by decide) rfl (fun ls hl => ?_)
        exact J151 _ 0 ct2 a11 a12 _ _ ls (Nat.lt_succ_self _) hbct2 (fun _ _ => rfl) (by omega) (by exact i44_1) (by exact i44_2 qcp45) (by intro j hj; omega) hP hD hS (lv_sub hl [1, 2, 0] rfl)
      · have qcp45 : ¬ mo = 0 := fun h9 => cp45 ((nI_eq (a := mo) (b := 0) (by omega) (by omega)).mpr h9)
        refine lv_iconst (v := 0) hx hb dX7_reckon_48 (by decide) ?_
        refine lv_istore_n (lv' := [(2, .int 0), (0, .ref h0), (1, .int (nI (cl bb)))]) hx hb dX7_reckon_49 rfl hl (by decide) rfl (fun ls hl => ?_)
        refine lv_iconst (v := 0) hx hb dX7_reckon_50 (by decide) ?_
        refine lv_istore_n (lv' := [(3, .int 0), (2, .int 0), (0, .ref h0), (1, .int (nI (cl bb)))]) hx hb dX7_reckon_51 rfl hl (by decide) rfl (fun ls hl => ?_)
        exact J52 _ 0 0 ct2 _ _ ls (Nat.lt_succ_self _) hbct2 (by omega) (by omega) (by exact i44_1) (by exact Nat.le_refl _) (by exact Or.inl rfl) (by intro _; rfl) (by intro _ j hj; omega) (by omega) hP hD hS (lv_sub hl [2, 3, 1, 0] rfl)
  have J12 : ∀ (z12 : Nat) (kx : Nat) (ct2 : Nat → Nat) (H : Heap) (locs : List Loc) (ls : Array Slot), cl bb - kx < z12 → (∀ j, ct2 j ≤ 65535) → (kx ≤ cl bb) → (zCov cl a5 a7 fc a9 bb ct2 kx) → va_P (dC, dI) vwCl (rW h0 r cI cJ cZ v0 a1 (nI tp) (nI bs) (fun j => nI (cl j)) a5 a6 a7 (fun j => nI (fc j)) a9 (fun j => nI (mb j)) a11 a12 a13 a14 a15 a16 a17 a18 a19 a20 (nI az) v22 v23 v24 v25 v26 (nI bb) (fun j => nI (ct2 j)) (nI us) a30 a31 a32 a33 a34 a35 a36 a37 (fun j => nI (pil j)) (fun j => nI (rwv j)) (nI rl) v41 v42 v43 v44 v45) H → va_D A (rW h0 r cI cJ cZ v0 a1 (nI tp) (nI bs) (fun j => nI (cl j)) a5 a6 a7 (fun j => nI (fc j)) a9 (fun j => nI (mb j)) a11 a12 a13 a14 a15 a16 a17 a18 a19 a20 (nI az) v22 v23 v24 v25 v26 (nI bb) (fun j => nI (ct2 j)) (nI us) a30 a31 a32 a33 a34 a35 a36 a37 (fun j => nI (pil j)) (fun j => nI (rwv j)) (nI rl) v41 v42 v43 v44 v45) → va_S A s.heap H locs → lv_has ls 6 [(0, .ref h0), (1, .int (nI (cl bb))), (2, .int (nI kx))] → W p l e (headSpec zwX7_reckon { frames := 2, cells := 0, slots := 0, locals := 48 }).room s m (([.ref h0] : List Value).toArray) below meth c H locs 0 0 (MQ below (va_Qv (fun u : (Nat → Nat) × (Nat → Int32) × (Nat → Int32) => (zOK cl a5 a7 fc a9 (u.2.1) bb) ∧ (∀ j, (u.1) j ≤ 65535) ∧ (∀ j, j < 16 * bb → (u.2.1) j = a11 j)) (fun u t => zB dC dI (A) (rW h0 r cI cJ cZ v0 a1 (nI tp) (nI bs) (fun j => nI (cl j)) a5 a6 a7 (fun j => nI (fc j)) a9 (fun j => nI (mb j)) (u.2.1) (u.2.2) a13 a14 a15 a16 a17 a18 a19 a20 (nI az) v22 v23 v24 v25 v26 (nI bb) (fun j => nI ((u.1) j)) (nI us) a30 a31 a32 a33 a34 a35 a36 a37 (fun j => nI (pil j)) (fun j => nI (rwv j)) (nI rl) v41 v42 v43 v44 v45) [(cI, .int), (cJ, .long), (cZ, .boolean)] t) (A)) (([.ref h0] : List Value).toArray) s 0 0 A) (F0 m 12 ls []) := by
    intro z12
    induction z12 with
    | zero => intro kx ct2 H locs ls h9; exact absurd h9 (Nat.not_lt_zero _)
    | succ z12 ih12 =>
      intro kx ct2 H locs ls hm12 hbct2 i12_0 i12_1 hP hD hS hl
      refine lv_iload_n hx hb dX7_reckon_12 rfl (lv_at hl 2 rfl) ?_
      refine lv_iload_n hx hb dX7_reckon_13 rfl (lv_at hl 1 rfl) ?_
      refine lv_icmp_ge (tgt := 42) hx hb dX7_reckon_14 (by decide) (fun cp14 => ?_) (fun cp14 => ?_)
      · have qcp14 : (cl bb) ≤ kx := (nI_leI (a := cl bb) (b := kx) (by omega) (by omega)).mp cp14
        refine lv_iconst (v := 1) hx hb dX7_reckon_42 (by decide) ?_
        refine lv_istore_n (lv' := [(2, .int 1), (0, .ref h0), (1, .int (nI (cl bb)))]) hx hb dX7_reckon_43 rfl hl (by decide) rfl (fun ls hl => ?_)
        exact J44 _ 1 ct2 _ _ ls (Nat.lt_succ_self _) hbct2 (by omega) (by have h8 : kx = cl bb := (by omega); rw [h8] at i12_1; exact i12_1) (by intro h9; exact absurd h9 (by decide)) hP hD hS (lv_sub hl [1, 2, 0] rfl)
      · have qcp14 : ¬ (cl bb) ≤ kx := fun h9 => cp14 ((nI_leI (a := cl bb) (b := kx) (by omega) (by omega)).mpr h9)
        refine lv_aload_n hx hb dX7_reckon_17 rfl (lv_at hl 0 rfl) ?_
        refine va_get (D := (dC, dI)) (ci := 6) (v := .ref (r 28)) (C := RX7) (T := TX7) (N := 46) hx hb hts hiX7 hown hK hP 0 rfl rfl 28 (by decide) (hts (.fieldLink RX7 70 "LinkModelsModel" "comesTo" "[I") (by decide +kernel)) (fun _ h9 => h9) rfl dX7_reckon_18 ?_
        refine lv_iload_n hx hb dX7_reckon_21 rfl (lv_at hl 2 rfl) ?_
        refine lv_aload_n hx hb dX7_reckon_22 rfl (lv_at hl 0 rfl) ?_
        refine lv_bipush (v := 16) hx hb dX7_reckon_23 (by decide) ?_
        refine lv_aload_n hx hb dX7_reckon_25 rfl (lv_at hl 0 rfl) ?_
        refine va_get (D := (dC, dI)) (ci := 6) (v := .int (nI bb)) (C := RX7) (T := TX7) (N := 46) hx hb hts hiX7 hown hK hP 0 rfl rfl 27 (by decide) (hts (.fieldLink RX7 198 "LinkModelsModel" "b" "I") (by decide +kernel)) (fun _ h9 => h9) rfl dX7_reckon_26 ?_
        refine lv_imul hx hb dX7_reckon_29 ?_
        refine lv_topi (fun x50 ex50 => ?_)
        obtain rfl : x50 = nI (16 * bb) := by rw [ex50]; exact pk_mul (16) (bb)
        refine lv_iload_n hx hb dX7_reckon_30 rfl (lv_at hl 2 rfl) ?_
        refine lv_iadd hx hb dX7_reckon_31 ?_
        refine lv_topi (fun x51 ex51 => ?_)
        obtain rfl : x51 = nI ((16 * bb) + kx) := by rw [ex51]; exact nI_add (16 * bb) (kx)
        have hFc := z_freeW hD hS hA
        refine vp_callSi (W.runV (As := [.int (nI ((16 * bb) + kx))]) (rest := [.int (nI kx), .ref (r 28)]) ⟨hx, hb, hml, hown, hts⟩ (kX7_steps l dC dI h0 r cI cJ cZ v0 a1 tp bs cl a5 a6 a7 fc a9 mb a11 a12 a13 a14 a15 a16 a17 a18 a19 a20 az v22 v23 v24 v25 v26 bb ct2 us a30 a31 a32 a33 a34 a35 a36 a37 pil rwv rl v41 v42 v43 v44 v45 ⟨by omega, by omega, by omega, hcl, hfc, hmb, hbct2, hpil, hrwv⟩ ((16 * bb) + kx) (by first | omega | assumption | trivial) (by first | omega | assumption | trivial) H.size) (cwV 1 hts zgX7_reckon_X7_steps_241 rfl rfl rfl (by decide +kernel) ⟨(show 1 + 1 ≤ 2 by omega), (show 8 + (6 + 11) + 23 ≤ 48 by omega)⟩) (zVm (ci := 6) (q0 := 0) (q := (RX7, TX7, 46)) hK hP hD hL hS.2.1 hFc rfl rfl rfl) rfl rfl hl.1 rfl (lv_room (Nat.le_of_ble_eq_true rfl)) dX7_reckon_32 ⟨(show 0 + 0 ≤ 0 by omega), (show 0 + 0 ≤ 0 by omega)⟩) (fun r52 hw => ?_)
        have hw : (zN r52 (fun k => k ≤ 65535 ∧ ∀ p, p < 16 → zDep cl a5 a7 fc a9 bb ((16 * bb) + kx) p → k.testBit p = true)) := hw
        have w0r52 := hw
        obtain ⟨k53, hBk53, hQk53, rfl⟩ := w0r52
        have hk2 := hQk53.1
        refine va_iast hx hb hK hP hD hS 19 0 rfl rfl (vp_in_nI (show kx < 16 by omega) (by decide)) dX7_reckon_35 (fun H locs hP hD hS => ?_)
        obtain ⟨f54, ef54⟩ : ∃ g, g = z_up ct2 kx k53 := ⟨_, rfl⟩
        have hP : va_P (dC, dI) vwCl (rW h0 r cI cJ cZ v0 a1 (nI tp) (nI bs) (fun j => nI (cl j)) a5 a6 a7 (fun j => nI (fc j)) a9 (fun j => nI (mb j)) a11 a12 a13 a14 a15 a16 a17 a18 a19 a20 (nI az) v22 v23 v24 v25 v26 (nI bb) (fun j => nI (f54 j)) (nI us) a30 a31 a32 a33 a34 a35 a36 a37 (fun j => nI (pil j)) (fun j => nI (rwv j)) (nI rl) v41 v42 v43 v44 v45) H := by rw [ef54, ← z_upd (show kx < 2 ^ 31 by omega)]; exact hP
        have hD : va_D A (rW h0 r cI cJ cZ v0 a1 (nI tp) (nI bs) (fun j => nI (cl j)) a5 a6 a7 (fun j => nI (fc j)) a9 (fun j => nI (mb j)) a11 a12 a13 a14 a15 a16 a17 a18 a19 a20 (nI az) v22 v23 v24 v25 v26 (nI bb) (fun j => nI (f54 j)) (nI us) a30 a31 a32 a33 a34 a35 a36 a37 (fun j => nI (pil j)) (fun j => nI (rwv j)) (nI rl) v41 v42 v43 v44 v45) := by rw [ef54, ← z_upd (show kx < 2 ^ 31 by omega)]; exact hD
        have hbf54 : ∀ j, f54 j ≤ 65535 := by rw [ef54]; exact z_upb hbct2 (by omega)
        obtain ⟨x55, ex55⟩ : ∃ y : Int32, y = (nI kx) + 1 := ⟨_, rfl⟩
        refine lv_iinc (v := x55) (lv' := [(2, .int x55), (0, .ref h0), (1, .int (nI (cl bb)))]) hx hb dX7_reckon_36 hl (k := 2) rfl (by rw [ex55]; rfl) (by decide) rfl (fun ls hl => ?_)
        obtain rfl : x55 = nI (kx + 1) := by rw [ex55]; exact nI_add (kx) 1
        refine lv_goto (tgt := 12) hx hb dX7_reckon_39 (by decide) ?_
        exact ih12 (kx + 1) f54 _ _ ls (by omega) hbf54 (by omega) (by rw [ef54]; exact z_covn i12_1 hQk53.2) hP hD hS (lv_sub hl [1, 2, 0] rfl)
  refine lv_aload_n hx hb dX7_reckon_0 rfl (lv_at hl 0 rfl) ?_
  refine va_get (D := (dC, dI)) (ci := 6) (v := .ref (r 4)) (C := RX7) (T := TX7) (N := 46) hx hb hts hiX7 hown hK hP 0 rfl rfl 4 (by decide) (hts (.fieldLink RX7 17 "LinkModelsModel" "classes" "[I") (by decide +kernel)) (fun _ h9 => h9) rfl dX7_reckon_1 ?_
  refine lv_aload_n hx hb dX7_reckon_4 rfl (lv_at hl 0 rfl) ?_
  refine va_get (D := (dC, dI)) (ci := 6) (v := .int (nI bb)) (C := RX7) (T := TX7) (N := 46) hx hb hts hiX7 hown hK hP 0 rfl rfl 27 (by decide) (hts (.fieldLink RX7 198 "LinkModelsModel" "b" "I") (by decide +kernel)) (fun _ h9 => h9) rfl dX7_reckon_5 ?_
  refine va_iald hx hb hK hP 2 0 rfl rfl (vp_in_nI (show bb < 5 by omega) (by decide)) dX7_reckon_8 ?_
  refine lv_topi (fun x56 ex56 => ?_)
  obtain rfl : x56 = nI (cl bb) := by rw [ex56, nI_clamp (show bb < 2 ^ 31 by omega)]
  have hqx56 := hcl bb
  refine lv_istore_n (lv' := [(1, .int (nI (cl bb))), (0, .ref h0)]) hx hb dX7_reckon_9 rfl hl (by decide) rfl (fun ls hl => ?_)
  refine lv_iconst (v := 0) hx hb dX7_reckon_10 (by decide) ?_
  refine lv_istore_n (lv' := [(2, .int 0), (1, .int (nI (cl bb))), (0, .ref h0)]) hx hb dX7_reckon_11 rfl hl (by decide) rfl (fun ls hl => ?_)
  exact J12 _ 0 ct _ _ ls (Nat.lt_succ_self _) hct (by omega) (by intro j hj; omega) hP hD hS (lv_sub hl [2, 1, 0] rfl)
