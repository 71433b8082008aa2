theorem dX7_doing_0 : decode cX7_doing 0 = .ok (.aload_n 0, 1) := by decide +kernel
theorem dX7_doing_1 : decode cX7_doing 1 = .ok (.iload_n 1, 1) := by decide +kernel
theorem dX7_doing_2 : decode cX7_doing 2 = .ok (.invokevirtual 248, 3) := by decide +kernel
theorem dX7_doing_5 : decode cX7_doing 5 = .ok (.ifCond .eq 11, 3) := by decide +kernel
theorem dX7_doing_8 : decode cX7_doing 8 = .ok (.aload_n 0, 1) := by decide +kernel
theorem dX7_doing_9 : decode cX7_doing 9 = .ok (.iload_n 2, 1) := by decide +kernel
theorem dX7_doing_10 : decode cX7_doing 10 = .ok (.invokevirtual 306, 3) := by decide +kernel
theorem dX7_doing_13 : decode cX7_doing 13 = .ok (.ifCond .ne 6, 3) := by decide +kernel
theorem dX7_doing_16 : decode cX7_doing 16 = .ok (.bipush (-2), 2) := by decide +kernel
theorem dX7_doing_18 : decode cX7_doing 18 = .ok (.ireturn, 1) := by decide +kernel
theorem dX7_doing_19 : decode cX7_doing 19 = .ok (.aload_n 0, 1) := by decide +kernel
theorem dX7_doing_20 : decode cX7_doing 20 = .ok (.getfield 73, 3) := by decide +kernel
theorem dX7_doing_23 : decode cX7_doing 23 = .ok (.iload_n 2, 1) := by decide +kernel
theorem dX7_doing_24 : decode cX7_doing 24 = .ok (.iaload, 1) := by decide +kernel
theorem dX7_doing_25 : decode cX7_doing 25 = .ok (.iconst 4, 1) := by decide +kernel
theorem dX7_doing_26 : decode cX7_doing 26 = .ok (.if_icmp .eq 17, 3) := by decide +kernel
theorem dX7_doing_29 : decode cX7_doing 29 = .ok (.aload_n 0, 1) := by decide +kernel
theorem dX7_doing_30 : decode cX7_doing 30 = .ok (.getfield 73, 3) := by decide +kernel
theorem dX7_doing_33 : decode cX7_doing 33 = .ok (.iload_n 2, 1) := by decide +kernel
theorem dX7_doing_34 : decode cX7_doing 34 = .ok (.iaload, 1) := by decide +kernel
theorem dX7_doing_35 : decode cX7_doing 35 = .ok (.bipush 7, 2) := by decide +kernel
theorem dX7_doing_37 : decode cX7_doing 37 = .ok (.if_icmp .eq 6, 3) := by decide +kernel
theorem dX7_doing_40 : decode cX7_doing 40 = .ok (.bipush (-4), 2) := by decide +kernel
theorem dX7_doing_42 : decode cX7_doing 42 = .ok (.ireturn, 1) := by decide +kernel
theorem dX7_doing_43 : decode cX7_doing 43 = .ok (.aload_n 0, 1) := by decide +kernel
theorem dX7_doing_44 : decode cX7_doing 44 = .ok (.iload_n 1, 1) := by decide +kernel
theorem dX7_doing_45 : decode cX7_doing 45 = .ok (.iload_n 2, 1) := by decide +kernel
theorem dX7_doing_46 : decode cX7_doing 46 = .ok (.invokevirtual 309, 3) := by decide +kernel
theorem dX7_doing_49 : decode cX7_doing 49 = .ok (.istore 4, 2) := by decide +kernel
theorem dX7_doing_51 : decode cX7_doing 51 = .ok (.iload 4, 2) := by decide +kernel
theorem dX7_doing_53 : decode cX7_doing 53 = .ok (.ifCond .le 8, 3) := by decide +kernel
theorem dX7_doing_56 : decode cX7_doing 56 = .ok (.iload 4, 2) := by decide +kernel
theorem dX7_doing_58 : decode cX7_doing 58 = .ok (.goto 9, 3) := by decide +kernel
theorem dX7_doing_61 : decode cX7_doing 61 = .ok (.aload_n 0, 1) := by decide +kernel
theorem dX7_doing_62 : decode cX7_doing 62 = .ok (.iload_n 1, 1) := by decide +kernel
theorem dX7_doing_63 : decode cX7_doing 63 = .ok (.iload_n 3, 1) := by decide +kernel
theorem dX7_doing_64 : decode cX7_doing 64 = .ok (.invokevirtual 251, 3) := by decide +kernel
theorem dX7_doing_67 : decode cX7_doing 67 = .ok (.istore 4, 2) := by decide +kernel
theorem dX7_doing_69 : decode cX7_doing 69 = .ok (.iload 4, 2) := by decide +kernel
theorem dX7_doing_71 : decode cX7_doing 71 = .ok (.ifCond .le 9, 3) := by decide +kernel
theorem dX7_doing_74 : decode cX7_doing 74 = .ok (.bipush (-10), 2) := by decide +kernel
theorem dX7_doing_76 : decode cX7_doing 76 = .ok (.iload 4, 2) := by decide +kernel
theorem dX7_doing_78 : decode cX7_doing 78 = .ok (.isub, 1) := by decide +kernel
theorem dX7_doing_79 : decode cX7_doing 79 = .ok (.ireturn, 1) := by decide +kernel
theorem dX7_doing_80 : decode cX7_doing 80 = .ok (.aload_n 0, 1) := by decide +kernel
theorem dX7_doing_81 : decode cX7_doing 81 = .ok (.iload_n 1, 1) := by decide +kernel
theorem dX7_doing_82 : decode cX7_doing 82 = .ok (.iload_n 3, 1) := by decide +kernel
theorem dX7_doing_83 : decode cX7_doing 83 = .ok (.invokevirtual 201, 3) := by decide +kernel
theorem dX7_doing_86 : decode cX7_doing 86 = .ok (.istore 5, 2) := by decide +kernel
theorem dX7_doing_88 : decode cX7_doing 88 = .ok (.aload_n 0, 1) := by decide +kernel
theorem dX7_doing_89 : decode cX7_doing 89 = .ok (.iload_n 1, 1) := by decide +kernel
theorem dX7_doing_90 : decode cX7_doing 90 = .ok (.iload 5, 2) := by decide +kernel
theorem dX7_doing_92 : decode cX7_doing 92 = .ok (.aload_n 0, 1) := by decide +kernel
theorem dX7_doing_93 : decode cX7_doing 93 = .ok (.iload_n 1, 1) := by decide +kernel
theorem dX7_doing_94 : decode cX7_doing 94 = .ok (.aload_n 0, 1) := by decide +kernel
theorem dX7_doing_95 : decode cX7_doing 95 = .ok (.getfield 79, 3) := by decide +kernel
theorem dX7_doing_98 : decode cX7_doing 98 = .ok (.iload_n 2, 1) := by decide +kernel
theorem dX7_doing_99 : decode cX7_doing 99 = .ok (.iaload, 1) := by decide +kernel
theorem dX7_doing_100 : decode cX7_doing 100 = .ok (.invokevirtual 201, 3) := by decide +kernel
theorem dX7_doing_103 : decode cX7_doing 103 = .ok (.invokevirtual 256, 3) := by decide +kernel
theorem dX7_doing_106 : decode cX7_doing 106 = .ok (.ifCond .ne 6, 3) := by decide +kernel
theorem dX7_doing_109 : decode cX7_doing 109 = .ok (.bipush (-14), 2) := by decide +kernel
theorem dX7_doing_111 : decode cX7_doing 111 = .ok (.ireturn, 1) := by decide +kernel
theorem dX7_doing_112 : decode cX7_doing 112 = .ok (.aload_n 0, 1) := by decide +kernel
theorem dX7_doing_113 : decode cX7_doing 113 = .ok (.getfield 48, 3) := by decide +kernel
theorem dX7_doing_116 : decode cX7_doing 116 = .ok (.aload_n 0, 1) := by decide +kernel
theorem dX7_doing_117 : decode cX7_doing 117 = .ok (.getfield 296, 3) := by decide +kernel
theorem dX7_doing_120 : decode cX7_doing 120 = .ok (.iaload, 1) := by decide +kernel
theorem dX7_doing_121 : decode cX7_doing 121 = .ok (.iconst 2, 1) := by decide +kernel
theorem dX7_doing_122 : decode cX7_doing 122 = .ok (.iand, 1) := by decide +kernel
theorem dX7_doing_123 : decode cX7_doing 123 = .ok (.ifCond .eq 28, 3) := by decide +kernel
theorem dX7_doing_126 : decode cX7_doing 126 = .ok (.aload_n 0, 1) := by decide +kernel
theorem dX7_doing_127 : decode cX7_doing 127 = .ok (.getfield 48, 3) := by decide +kernel
theorem dX7_doing_130 : decode cX7_doing 130 = .ok (.aload_n 0, 1) := by decide +kernel
theorem dX7_doing_131 : decode cX7_doing 131 = .ok (.getfield 296, 3) := by decide +kernel
theorem dX7_doing_134 : decode cX7_doing 134 = .ok (.iaload, 1) := by decide +kernel
theorem dX7_doing_135 : decode cX7_doing 135 = .ok (.bipush 8, 2) := by decide +kernel
theorem dX7_doing_137 : decode cX7_doing 137 = .ok (.iand, 1) := by decide +kernel
theorem dX7_doing_138 : decode cX7_doing 138 = .ok (.ifCond .eq 8, 3) := by decide +kernel
theorem dX7_doing_141 : decode cX7_doing 141 = .ok (.bipush (-20), 2) := by decide +kernel
theorem dX7_doing_143 : decode cX7_doing 143 = .ok (.goto 7, 3) := by decide +kernel
theorem dX7_doing_146 : decode cX7_doing 146 = .ok (.aload_n 0, 1) := by decide +kernel
theorem dX7_doing_147 : decode cX7_doing 147 = .ok (.getfield 296, 3) := by decide +kernel
theorem dX7_doing_150 : decode cX7_doing 150 = .ok (.ireturn, 1) := by decide +kernel
theorem dX7_doing_151 : decode cX7_doing 151 = .ok (.bipush 16, 2) := by decide +kernel
theorem dX7_doing_153 : decode cX7_doing 153 = .ok (.iload_n 1, 1) := by decide +kernel
theorem dX7_doing_154 : decode cX7_doing 154 = .ok (.imul, 1) := by decide +kernel
theorem dX7_doing_155 : decode cX7_doing 155 = .ok (.iload 5, 2) := by decide +kernel
theorem dX7_doing_157 : decode cX7_doing 157 = .ok (.iadd, 1) := by decide +kernel
theorem dX7_doing_158 : decode cX7_doing 158 = .ok (.istore 6, 2) := by decide +kernel
theorem dX7_doing_160 : decode cX7_doing 160 = .ok (.iload 6, 2) := by decide +kernel
theorem dX7_doing_162 : decode cX7_doing 162 = .ok (.istore 7, 2) := by decide +kernel
theorem dX7_doing_164 : decode cX7_doing 164 = .ok (.iload 7, 2) := by decide +kernel
theorem dX7_doing_166 : decode cX7_doing 166 = .ok (.ifCond .lt 66, 3) := by decide +kernel
theorem dX7_doing_169 : decode cX7_doing 169 = .ok (.aload_n 0, 1) := by decide +kernel
theorem dX7_doing_170 : decode cX7_doing 170 = .ok (.iload 7, 2) := by decide +kernel
theorem dX7_doing_172 : decode cX7_doing 172 = .ok (.iload_n 2, 1) := by decide +kernel
theorem dX7_doing_173 : decode cX7_doing 173 = .ok (.iconst 1, 1) := by decide +kernel
theorem dX7_doing_174 : decode cX7_doing 174 = .ok (.invokevirtual 288, 3) := by decide +kernel
theorem dX7_doing_177 : decode cX7_doing 177 = .ok (.istore 8, 2) := by decide +kernel
theorem dX7_doing_179 : decode cX7_doing 179 = .ok (.iload 8, 2) := by decide +kernel
theorem dX7_doing_181 : decode cX7_doing 181 = .ok (.ifCond .lt 24, 3) := by decide +kernel
theorem dX7_doing_184 : decode cX7_doing 184 = .ok (.aload_n 0, 1) := by decide +kernel
theorem dX7_doing_185 : decode cX7_doing 185 = .ok (.getfield 48, 3) := by decide +kernel
theorem dX7_doing_188 : decode cX7_doing 188 = .ok (.iload 8, 2) := by decide +kernel
theorem dX7_doing_190 : decode cX7_doing 190 = .ok (.iaload, 1) := by decide +kernel
theorem dX7_doing_191 : decode cX7_doing 191 = .ok (.bipush 8, 2) := by decide +kernel
theorem dX7_doing_193 : decode cX7_doing 193 = .ok (.iand, 1) := by decide +kernel
theorem dX7_doing_194 : decode cX7_doing 194 = .ok (.ifCond .eq 8, 3) := by decide +kernel
theorem dX7_doing_197 : decode cX7_doing 197 = .ok (.bipush (-20), 2) := by decide +kernel
theorem dX7_doing_199 : decode cX7_doing 199 = .ok (.goto 5, 3) := by decide +kernel
theorem dX7_doing_202 : decode cX7_doing 202 = .ok (.iload 8, 2) := by decide +kernel
theorem dX7_doing_204 : decode cX7_doing 204 = .ok (.ireturn, 1) := by decide +kernel
theorem dX7_doing_205 : decode cX7_doing 205 = .ok (.aload_n 0, 1) := by decide +kernel
theorem dX7_doing_206 : decode cX7_doing 206 = .ok (.getfield 23, 3) := by decide +kernel
theorem dX7_doing_209 : decode cX7_doing 209 = .ok (.iload 6, 2) := by decide +kernel
theorem dX7_doing_211 : decode cX7_doing 211 = .ok (.iaload, 1) := by decide +kernel
theorem dX7_doing_212 : decode cX7_doing 212 = .ok (.iconst 1, 1) := by decide +kernel
theorem dX7_doing_213 : decode cX7_doing 213 = .ok (.if_icmp .ne 7, 3) := by decide +kernel
theorem dX7_doing_216 : decode cX7_doing 216 = .ok (.iconst (-1), 1) := by decide +kernel
theorem dX7_doing_217 : decode cX7_doing 217 = .ok (.goto 10, 3) := by decide +kernel
theorem dX7_doing_220 : decode cX7_doing 220 = .ok (.aload_n 0, 1) := by decide +kernel
theorem dX7_doing_221 : decode cX7_doing 221 = .ok (.iload_n 1, 1) := by decide +kernel
theorem dX7_doing_222 : decode cX7_doing 222 = .ok (.iload 7, 2) := by decide +kernel
theorem dX7_doing_224 : decode cX7_doing 224 = .ok (.invokevirtual 276, 3) := by decide +kernel
theorem dX7_doing_227 : decode cX7_doing 227 = .ok (.istore 7, 2) := by decide +kernel
theorem dX7_doing_229 : decode cX7_doing 229 = .ok (.goto (-65), 3) := by decide +kernel
theorem dX7_doing_232 : decode cX7_doing 232 = .ok (.aload_n 0, 1) := by decide +kernel
theorem dX7_doing_233 : decode cX7_doing 233 = .ok (.iload_n 1, 1) := by decide +kernel
theorem dX7_doing_234 : decode cX7_doing 234 = .ok (.iload 6, 2) := by decide +kernel
theorem dX7_doing_236 : decode cX7_doing 236 = .ok (.iload_n 2, 1) := by decide +kernel
theorem dX7_doing_237 : decode cX7_doing 237 = .ok (.invokevirtual 292, 3) := by decide +kernel
theorem dX7_doing_240 : decode cX7_doing 240 = .ok (.aload_n 0, 1) := by decide +kernel
theorem dX7_doing_241 : decode cX7_doing 241 = .ok (.getfield 279, 3) := by decide +kernel
theorem dX7_doing_244 : decode cX7_doing 244 = .ok (.iconst 1, 1) := by decide +kernel
theorem dX7_doing_245 : decode cX7_doing 245 = .ok (.if_icmp .le 8, 3) := by decide +kernel
theorem dX7_doing_248 : decode cX7_doing 248 = .ok (.bipush (-14), 2) := by decide +kernel
theorem dX7_doing_250 : decode cX7_doing 250 = .ok (.goto 20, 3) := by decide +kernel
theorem dX7_doing_253 : decode cX7_doing 253 = .ok (.aload_n 0, 1) := by decide +kernel
theorem dX7_doing_254 : decode cX7_doing 254 = .ok (.getfield 279, 3) := by decide +kernel
theorem dX7_doing_257 : decode cX7_doing 257 = .ok (.iconst 1, 1) := by decide +kernel
theorem dX7_doing_258 : decode cX7_doing 258 = .ok (.if_icmp .ne 10, 3) := by decide +kernel
theorem dX7_doing_261 : decode cX7_doing 261 = .ok (.aload_n 0, 1) := by decide +kernel
theorem dX7_doing_262 : decode cX7_doing 262 = .ok (.getfield 282, 3) := by decide +kernel
theorem dX7_doing_265 : decode cX7_doing 265 = .ok (.goto 5, 3) := by decide +kernel
theorem dX7_doing_268 : decode cX7_doing 268 = .ok (.bipush (-20), 2) := by decide +kernel
theorem dX7_doing_270 : decode cX7_doing 270 = .ok (.ireturn, 1) := by decide +kernel
def zwX7_doing : List Cond := .code yX7_doing cX7_doing 9 (some .int) :: ([.fieldLink RX7 279 "LinkModelsModel" "bodies" "I", .fieldLink RX7 282 "LinkModelsModel" "bodied" "I", .fieldLink RX7 23 "LinkModelsModel" "sort" "[I", .fieldLink RX7 48 "LinkModelsModel" "marks" "[I", .fieldLink RX7 79 "LinkModelsModel" "owner" "[I", .fieldLink RX7 296 "LinkModelsModel" "linked" "I", .fieldLink RX7 73 "LinkModelsModel" "useKind" "[I", .methodLink RX7 292 yX7_findFaces, .instanceMethod yX7_findFaces, .selects RX7 yX7_findFaces yX7_findFaces, .initialized RX7, .code yX7_findFaces cX7_findFaces 8 none, .fieldLink RX7 266 "LinkModelsModel" "rowLong" "I", .fieldLink RX7 285 "LinkModelsModel" "firstOne" "I", .fieldLink RX7 100 "LinkModelsModel" "row" "[I", .methodLink RX7 288 yX7_methodIn, .instanceMethod yX7_methodIn, .selects RX7 yX7_methodIn yX7_methodIn, .code yX7_methodIn cX7_methodIn 6 (some .int), .fieldLink RX7 51 "LinkModelsModel" "isMethod" "[Z", .fieldLink RX7 44 "LinkModelsModel" "word" "[J", .fieldLink RX7 82 "LinkModelsModel" "useWord" "[J", .fieldLink RX7 35 "LinkModelsModel" "members" "[I", .fieldLink RX7 61 "LinkModelsModel" "many" "[I", .fieldLink RX7 85 "LinkModelsModel" "useMany" "[I", .fieldLink RX7 67 "LinkModelsModel" "second" "[I", .fieldLink RX7 91 "LinkModelsModel" "useSecond" "[I", .fieldLink RX7 64 "LinkModelsModel" "first" "[I", .fieldLink RX7 88 "LinkModelsModel" "useFirst" "[I", .methodLink RX7 256 yX7_isOf, .instanceMethod yX7_isOf, .selects RX7 yX7_isOf yX7_isOf, .code yX7_isOf cX7_isOf 4 (some .boolean), .fieldLink RX7 41 "LinkModelsModel" "ofAll" "[I", .methodLink RX7 272 yX7_faceRow, .instanceMethod yX7_faceRow, .selects RX7 yX7_faceRow yX7_faceRow, .code yX7_faceRow cX7_faceRow 8 none, .fieldLink RX7 97 "LinkModelsModel" "pile" "[I", .fieldLink RX7 32 "LinkModelsModel" "face" "[I", .fieldLink RX7 29 "LinkModelsModel" "faces" "[I", .methodLink RX7 201 yX7_place, .instanceMethod yX7_place, .selects RX7 yX7_place yX7_place, .code yX7_place cX7_place 4 (some .int), .fieldLink RX7 17 "LinkModelsModel" "classes" "[I", .fieldLink RX7 20 "LinkModelsModel" "className" "[I", .methodLink RX7 276 yX7_aboveOf, .instanceMethod yX7_aboveOf, .selects RX7 yX7_aboveOf yX7_aboveOf, .code yX7_aboveOf cX7_aboveOf 3 (some .int), .fieldLink RX7 26 "LinkModelsModel" "above" "[I", .methodLink RX7 309 yX7_links, .instanceMethod yX7_links, .selects RX7 yX7_links yX7_links, .code yX7_links cX7_links 9 (some .int), .fieldLink RX7 76 "LinkModelsModel" "caller" "[I", .methodLink RX7 251 yX7_errorOf, .instanceMethod yX7_errorOf, .selects RX7 yX7_errorOf yX7_errorOf, .code yX7_errorOf cX7_errorOf 4 (some .int), .fieldLink RX7 38 "LinkModelsModel" "error" "[I", .methodLink RX7 303 yX7_findMethod, .instanceMethod yX7_findMethod, .selects RX7 yX7_findMethod yX7_findMethod, .code yX7_findMethod cX7_findMethod 6 (some .int), .methodLink RX7 299 yX7_findField, .instanceMethod yX7_findField, .selects RX7 yX7_findField yX7_findField, .code yX7_findField cX7_findField 7 (some .int), .methodLink RX7 269 yX7_fieldIn, .instanceMethod yX7_fieldIn, .selects RX7 yX7_fieldIn yX7_fieldIn, .code yX7_fieldIn cX7_fieldIn 4 (some .int), .methodLink RX7 248 yX7_isBuild, .instanceMethod yX7_isBuild, .selects RX7 yX7_isBuild yX7_isBuild, .code yX7_isBuild cX7_isBuild 2 (some .boolean), .fieldLink RX7 232 "LinkModelsModel" "builds" "I", .methodLink RX7 105 yX7_in, .static yX7_in, .code yX7_in cX7_in 6 (some .boolean), .methodLink RX7 306 yX7_isUse, .instanceMethod yX7_isUse, .selects RX7 yX7_isUse yX7_isUse, .code yX7_isUse cX7_isUse 2 (some .boolean), .fieldLink RX7 263 "LinkModelsModel" "uses" "I"] ++ wsX70)
theorem zgX7_doing_X7_findFaces_292 : GoodIn zwX7_doing (wsV RX7 292 RX7 yX7_findFaces zwX7_findFaces) := goodIn_app (goodIn_r _ [8, 9, 10, 11] rfl (by decide +kernel)) (goodIn_ca (goodIn_r _ [12, 13, 14, 4, 1, 2, 15, 3, 16, 17, 18, 11, 19, 20, 21, 22, 23, 24, 25, 26, 27, 28, 29, 30, 31, 32, 33, 34, 35, 36, 37, 38, 39, 40, 41, 42, 43, 44, 45, 46, 47, 48, 49, 50, 51, 52] rfl (by decide +kernel)) (zgt zg7))
theorem zgX7_doing_X7_methodIn_288 : GoodIn zwX7_doing (wsV RX7 288 RX7 yX7_methodIn zwX7_methodIn) := goodIn_app (goodIn_r _ [16, 17, 18, 11] rfl (by decide +kernel)) (goodIn_ca (goodIn_r _ [19, 20, 21, 22, 4, 23, 24, 25, 26, 27, 28, 29] rfl (by decide +kernel)) (zgt zg7))
theorem zgX7_doing_X7_aboveOf_276 : GoodIn zwX7_doing (wsV RX7 276 RX7 yX7_aboveOf zwX7_aboveOf) := goodIn_app (goodIn_r _ [48, 49, 50, 11] rfl (by decide +kernel)) (goodIn_ca (goodIn_r _ [51, 52, 42, 43, 44, 11, 45, 46, 47] rfl (by decide +kernel)) (zgt zg7))
theorem zgX7_doing_X7_links_309 : GoodIn zwX7_doing (wsV RX7 309 RX7 yX7_links zwX7_links) := goodIn_app (goodIn_r _ [53, 54, 55, 11] rfl (by decide +kernel)) (goodIn_ca (goodIn_r _ [56, 6, 57, 5, 7, 3, 4, 58, 59, 60, 11, 61, 62, 42, 43, 44, 45, 46, 47, 63, 64, 65, 66, 1, 14, 2, 8, 9, 10, 12, 13, 15, 16, 17, 18, 19, 20, 21, 22, 23, 24, 25, 26, 27, 28, 29, 30, 31, 32, 33, 34, 35, 36, 37, 38, 39, 40, 41, 48, 49, 50, 51, 52, 67, 68, 69, 70, 71, 72, 73, 74] rfl (by decide +kernel)) (zgt zg7))
theorem zgX7_doing_X7_errorOf_251 : GoodIn zwX7_doing (wsV RX7 251 RX7 yX7_errorOf zwX7_errorOf) := goodIn_app (goodIn_r _ [58, 59, 60, 11] rfl (by decide +kernel)) (goodIn_ca (goodIn_r _ [61, 62, 42, 43, 44, 11, 45, 46, 47] rfl (by decide +kernel)) (zgt zg7))
theorem zgX7_doing_X7_place_201 : GoodIn zwX7_doing (wsV RX7 201 RX7 yX7_place zwX7_place) := goodIn_app (goodIn_r _ [42, 43, 44, 11] rfl (by decide +kernel)) (goodIn_ca (goodIn_r _ [45, 46, 47] rfl (by decide +kernel)) (zgt zg7))
theorem zgX7_doing_X7_isOf_256 : GoodIn zwX7_doing (wsV RX7 256 RX7 yX7_isOf zwX7_isOf) := goodIn_app (goodIn_r _ [30, 31, 32, 11] rfl (by decide +kernel)) (goodIn_ca (goodIn_r _ [33, 34] rfl (by decide +kernel)) (zgt zg7))
theorem zgX7_doing_X7_isBuild_248 : GoodIn zwX7_doing (wsV RX7 248 RX7 yX7_isBuild zwX7_isBuild) := goodIn_app (goodIn_r _ [75, 76, 77, 11] rfl (by decide +kernel)) (goodIn_ca (goodIn_r _ [78, 79, 80, 81, 11, 82] rfl (by decide +kernel)) (zgt zg7))
theorem zgX7_doing_X7_isUse_306 : GoodIn zwX7_doing (wsV RX7 306 RX7 yX7_isUse zwX7_isUse) := goodIn_app (goodIn_r _ [83, 84, 85, 11] rfl (by decide +kernel)) (goodIn_ca (goodIn_r _ [86, 87, 80, 81, 11, 82] rfl (by decide +kernel)) (zgt zg7))
set_option maxHeartbeats 4000000 in
set_option maxRecDepth 100000 in
theorem kX7_doing (l : Launch) (dC : Nat → ClassId) (dI : Nat → Nat → Nat) (h0 : Nat) (r : Nat → Nat) (cI : ClassId) (cJ : ClassId) (cZ : ClassId) (v0 : Int32) (a1 : Nat → Int32) (tp : Nat) (bs : Nat) (cl : Nat → Nat) (a5 : Nat → Int32) (a6 : Nat → Int32) (a7 : Nat → Int32) (fc : Nat → Nat) (a9 : Nat → Int32) (mb : Nat → Nat) (a11 : Nat → Int32) (a12 : Nat → Int32) (a13 : Nat → Int64) (a14 : Nat → Int32) (a15 : Nat → Int32) (a16 : Nat → Int32) (a17 : Nat → Int32) (a18 : Nat → Int32) (a19 : Nat → Int32) (a20 : Nat → Int32) (az : Nat) (v22 : Int32) (v23 : Int32) (v24 : Int64) (v25 : Int32) (v26 : Int32) (bb : Nat) (ct : Nat → Nat) (us : Nat) (a30 : Nat → Int32) (a31 : Nat → Int32) (a32 : Nat → Int32) (a33 : Nat → Int64) (a34 : Nat → Int32) (a35 : Nat → Int32) (a36 : Nat → Int32) (a37 : Nat → Int32) (pil : Nat → Nat) (rwv : Nat → Nat) (rl : Nat) (v41 : Int32) (v42 : Int32) (v43 : Int32) (v44 : Int32) (v45 : Int32) (hI : rWI tp bs cl fc mb az bb ct us pil rwv rl) (xb : Int32) (xu : Int32) (rc : Int32) (hp0 : ∀ bd, bd < bs → zOK cl a5 a7 fc a9 a11 bd) (sz : Nat) : Met l yX7_doing zwX7_doing ({ frames := 5, cells := 0, slots := 0, locals := 130 }) (zPm dC dI [.ref h0, .int xb, .int xu, .int rc] sz (rW h0 r cI cJ cZ v0 a1 (nI tp) (nI bs) (fun j => nI (cl j)) a5 a6 a7 (fun j => nI (fc j)) a9 (fun j => nI (mb j)) a11 a12 a13 a14 a15 a16 a17 a18 a19 a20 (nI az) v22 v23 v24 v25 v26 (nI bb) (fun j => nI (ct j)) (nI us) a30 a31 a32 a33 a34 a35 a36 a37 (fun j => nI (pil j)) (fun j => nI (rwv j)) (nI rl) v41 v42 v43 v44 v45) [(cI, .int), (cJ, .long), (cZ, .boolean)]) (va_Qi (fun (r : Int32) (u : Nat × (Nat → Nat) × (Nat → Nat) × Int32 × Int32 × Int32 × Int32) => (∀ j, (u.2.1) j ≤ 15) ∧ (∀ j, (u.2.2.1) j ≤ 15)) (fun u t => zB dC dI (va_A (rW h0 r cI cJ cZ v0 a1 (nI tp) (nI bs) (fun j => nI (cl j)) a5 a6 a7 (fun j => nI (fc j)) a9 (fun j => nI (mb j)) a11 a12 a13 a14 a15 a16 a17 a18 a19 a20 (nI az) v22 v23 v24 v25 v26 (nI bb) (fun j => nI (ct j)) (nI us) a30 a31 a32 a33 a34 a35 a36 a37 (fun j => nI (pil j)) (fun j => nI (rwv j)) (nI rl) v41 v42 v43 v44 v45) sz) (rW h0 r cI cJ cZ v0 a1 (nI tp) (nI bs) (fun j => nI (cl j)) a5 a6 a7 (fun j => nI (fc j)) a9 (fun j => nI (mb j)) a11 a12 a13 a14 a15 a16 a17 a18 a19 a20 (nI az) v22 v23 v24 v25 v26 (nI bb) (fun j => nI (ct j)) (nI us) a30 a31 a32 a33 a34 a35 a36 a37 (fun j => nI ((u.2.1) j)) (fun j => nI ((u.2.2.1) j)) (nI (u.1)) v41 (u.2.2.2.2.2.2) (u.2.2.2.1) (u.2.2.2.2.1) (u.2.2.2.2.2.1)) [(cI, .int), (cJ, .long), (cZ, .boolean)] t) (va_A (rW h0 r cI cJ cZ v0 a1 (nI tp) (nI bs) (fun j => nI (cl j)) a5 a6 a7 (fun j => nI (fc j)) a9 (fun j => nI (mb j)) a11 a12 a13 a14 a15 a16 a17 a18 a19 a20 (nI az) v22 v23 v24 v25 v26 (nI bb) (fun j => nI (ct j)) (nI us) a30 a31 a32 a33 a34 a35 a36 a37 (fun j => nI (pil j)) (fun j => nI (rwv j)) (nI rl) v41 v42 v43 v44 v45) sz)) 0 0 (va_A (rW h0 r cI cJ cZ v0 a1 (nI tp) (nI bs) (fun j => nI (cl j)) a5 a6 a7 (fun j => nI (fc j)) a9 (fun j => nI (mb j)) a11 a12 a13 a14 a15 a16 a17 a18 a19 a20 (nI az) v22 v23 v24 v25 v26 (nI bb) (fun j => nI (ct j)) (nI us) a30 a31 a32 a33 a34 a35 a36 a37 (fun j => nI (pil j)) (fun j => nI (rwv j)) (nI rl) v41 v42 v43 v44 v45) sz) := by
  refine Met.ofW (cc := cX7_doing) (maxL := 9) (ret := (some .int)) (by decide) rfl ?_
  intro p e s m args below meth c s₁ B hml hv
  obtain ⟨rfl, hsz, hP, hK, hD0, hL0⟩ := hv
  have hx := B.exec
  have hb := B.bytes
  have hr := B.returns
  have hts := atoms_spec (ws := zwX7_doing) B.pre
  have hown : s.vm.findClass RX7 = some m.cls := findClass_of_methodNamed B.named
  have hiX7 : ∀ w ∈ wsX70, w ∈ zwX7_doing := (fun _ h => List.mem_cons_of_mem _ (List.mem_append_right _ h))
  obtain ⟨htp, hbs, hus, hcl, hfc, hmb, hct, hpil, hrwv⟩ := hI
  subst hsz
  have hD := hD0.self (sz := s.heap.size)
  generalize hAe : va_A (rW h0 r cI cJ cZ v0 a1 (nI tp) (nI bs) (fun j => nI (cl j)) a5 a6 a7 (fun j => nI (fc j)) a9 (fun j => nI (mb j)) a11 a12 a13 a14 a15 a16 a17 a18 a19 a20 (nI az) v22 v23 v24 v25 v26 (nI bb) (fun j => nI (ct j)) (nI us) a30 a31 a32 a33 a34 a35 a36 a37 (fun j => nI (pil j)) (fun j => nI (rwv j)) (nI rl) v41 v42 v43 v44 v45) s.heap.size = A at hD hL0 ⊢
  have hA : ∀ q : Nat, s.heap.size ≤ q → A q := fun q h => by rw [← hAe]; exact Or.inr h
  have hS : va_S A s.heap s.heap [] := va_S.rf
  have hL := hL0
  have hl := lv_entry ([.ref h0, .int xb, .int xu, .int rc]) (n := 9) (Nat.le_of_ble_eq_true rfl)
  rw [lg_entry_eq]
  generalize (lg_sl ([.ref h0, .int xb, .int xu, .int rc]) ++ List.replicate (9 - (lg_sl ([.ref h0, .int xb, .int xu, .int rc])).length) Slot.unset).toArray = ls at hl ⊢
  have hl : lv_has ls 9 [(0, .ref h0), (1, .int xb), (2, .int xu), (3, .int rc)] := hl
  have J164 : ∀ (z164 : Nat) (rk : Nat → Nat) (rz : Nat) (bd : Nat) (uu : Nat) (c6 : Nat) (dd : Int32) (rl2 : Nat) (pil2 : Nat → Nat) (rwv2 : Nat → Nat) (b0 : Int32) (b1 : Int32) (b2 : Int32) (lk : Int32) (H : Heap) (locs : List Loc) (ls : Array Slot), rz < z164 → (∀ j, pil2 j ≤ 15) → (∀ j, rwv2 j ≤ 15) → (zM dd (fun k => zGd cl a11 bd k ∧ rk (k - 16 * bd) < rz)) → (bd < bs) → (uu < us) → (zOKr cl a5 a7 fc a9 a11 bd rk) → (zGd cl a11 bd c6) → va_P (dC, dI) vwCl (rW h0 r cI cJ cZ v0 a1 (nI tp) (nI bs) (fun j => nI (cl j)) a5 a6 a7 (fun j => nI (fc j)) a9 (fun j => nI (mb j)) a11 a12 a13 a14 a15 a16 a17 a18 a19 a20 (nI az) v22 v23 v24 v25 v26 (nI bb) (fun j => nI (ct j)) (nI us) a30 a31 a32 a33 a34 a35 a36 a37 (fun j => nI (pil2 j)) (fun j => nI (rwv2 j)) (nI rl2) v41 lk b0 b1 b2) H → va_D A (rW h0 r cI cJ cZ v0 a1 (nI tp) (nI bs) (fun j => nI (cl j)) a5 a6 a7 (fun j => nI (fc j)) a9 (fun j => nI (mb j)) a11 a12 a13 a14 a15 a16 a17 a18 a19 a20 (nI az) v22 v23 v24 v25 v26 (nI bb) (fun j => nI (ct j)) (nI us) a30 a31 a32 a33 a34 a35 a36 a37 (fun j => nI (pil2 j)) (fun j => nI (rwv2 j)) (nI rl2) v41 lk b0 b1 b2) → va_S A s.heap H locs → lv_has ls 9 [(0, .ref h0), (1, .int (nI bd)), (2, .int (nI uu)), (6, .int (nI c6)), (7, .int dd)] → W p l e (headSpec zwX7_doing { frames := 5, cells := 0, slots := 0, locals := 130 }).room s m (([.ref h0, .int xb, .int xu, .int rc] : List Value).toArray) below meth c H locs 0 0 (MQ below (va_Qi (fun (r : Int32) (u : Nat × (Nat → Nat) × (Nat → Nat) × Int32 × Int32 × Int32 × Int32) => (∀ j, (u.2.1) j ≤ 15) ∧ (∀ j, (u.2.2.1) j ≤ 15)) (fun u t => zB dC dI (A) (rW h0 r cI cJ cZ v0 a1 (nI tp) (nI bs) (fun j => nI (cl j)) a5 a6 a7 (fun j => nI (fc j)) a9 (fun j => nI (mb j)) a11 a12 a13 a14 a15 a16 a17 a18 a19 a20 (nI az) v22 v23 v24 v25 v26 (nI bb) (fun j => nI (ct j)) (nI us) a30 a31 a32 a33 a34 a35 a36 a37 (fun j => nI ((u.2.1) j)) (fun j => nI ((u.2.2.1) j)) (nI (u.1)) v41 (u.2.2.2.2.2.2) (u.2.2.2.1) (u.2.2.2.2.1) (u.2.2.2.2.2.1)) [(cI, .int), (cJ, .long), (cZ, .boolean)] t) (A)) (([.ref h0, .int xb, .int xu, .int rc] : List Value).toArray) s 0 0 A) (F0 m 164 ls []) := by
    intro z164
    induction z164 with
    | zero => intro rk rz bd uu c6 dd rl2 pil2 rwv2 b0 b1 b2 lk H locs ls h9; exact absurd h9 (Nat.not_lt_zero _)
    | succ z164 ih164 =>
      intro rk rz bd uu c6 dd rl2 pil2 rwv2 b0 b1 b2 lk H locs ls hm164 hbpil2 hbrwv2 hm164_dd i164_0 i164_1 i164_2 i164_3 hP hD hS hl
      have hcl6 := zGd.lt i164_3 (hcl bd) (by omega)
      refine lv_iload hx hb dX7_doing_164 (lv_at hl 4 rfl) ?_
      refine lv_if_lt (tgt := 232) hx hb dX7_doing_166 (by decide) (fun cp166 => ?_) (fun cp166 => ?_)
      · obtain rfl : dd = -1 := zM.neg hm164_dd cp166
        refine lv_aload_n hx hb dX7_doing_232 rfl (lv_at hl 0 rfl) ?_
        refine lv_iload_n hx hb dX7_doing_233 rfl (lv_at hl 1 rfl) ?_
        refine lv_iload hx hb dX7_doing_234 (lv_at hl 3 rfl) ?_
        refine lv_iload_n hx hb dX7_doing_236 rfl (lv_at hl 2 rfl) ?_
        have hFc := z_freeW hD hS hA
        refine va_callv (va_runV (As := [.int (nI bd), .int (nI c6), .int (nI uu)]) (rest := []) ⟨hx, hb, hml, hown, hts⟩ (kX7_findFaces l dC dI h0 r cI cJ cZ v0 a1 tp bs cl a5 a6 a7 fc a9 mb a11 a12 a13 a14 a15 a16 a17 a18 a19 a20 az v22 v23 v24 v25 v26 bb ct us a30 a31 a32 a33 a34 a35 a36 a37 pil2 rwv2 rl2 v41 lk b0 b1 b2 ⟨by omega, by omega, by omega, hcl, hfc, hmb, hct, hbpil2, hbrwv2⟩ rk bd c6 uu (by omega) (by omega) (by exact i164_2) (by exact i164_3) H.size) (cwV 3 hts zgX7_doing_X7_findFaces_292 rfl rfl rfl (by decide +kernel) ⟨(show 2 + 1 ≤ 5 by omega), (show 8 + (8 + 11) + 50 ≤ 130 by omega)⟩) (zVm (ci := 6) (q0 := 0) (q := (RX7, TX7, 46)) hK hP hD hL hS.2.1 hFc rfl rfl rfl) rfl rfl hl.1 rfl (lv_room (Nat.le_of_ble_eq_true rfl)) dX7_doing_237 ⟨(show 0 + 0 ≤ 0 by omega), (show 0 + 0 ≤ 0 by omega)⟩) hS (fun q _ h => hFc q h) hFc (fun u8 t H1 locs ht hvm hw hB hz1 hk1 hS => ?_)
        obtain ⟨o2, o3, o4, o5, o6, o7⟩ := u8
        obtain ⟨hP, hK9, hD⟩ := hB
        rw [ht] at hP
        have hD := hD.weaken (fun k q _ h => hFc q.1 h)
        generalize H1 = H at hP hS
        have hP : va_P (dC, dI) vwCl (rW h0 r cI cJ cZ v0 a1 (nI tp) (nI bs) (fun j => nI (cl j)) a5 a6 a7 (fun j => nI (fc j)) a9 (fun j => nI (mb j)) a11 a12 a13 a14 a15 a16 a17 a18 a19 a20 (nI az) v22 v23 v24 v25 v26 (nI bb) (fun j => nI (ct j)) (nI us) a30 a31 a32 a33 a34 a35 a36 a37 (fun j => nI (o3 j)) (fun j => nI (o4 j)) (nI o2) v41 lk o5 o6 o7) H := hP
        have hD : va_D A (rW h0 r cI cJ cZ v0 a1 (nI tp) (nI bs) (fun j => nI (cl j)) a5 a6 a7 (fun j => nI (fc j)) a9 (fun j => nI (mb j)) a11 a12 a13 a14 a15 a16 a17 a18 a19 a20 (nI az) v22 v23 v24 v25 v26 (nI bb) (fun j => nI (ct j)) (nI us) a30 a31 a32 a33 a34 a35 a36 a37 (fun j => nI (o3 j)) (fun j => nI (o4 j)) (nI o2) v41 lk o5 o6 o7) := hD
        have hw : (zM o6 (fun k => k < 960)) ∧ (zM o7 (fun k => k < 960)) ∧ (∀ j, o3 j ≤ 15) ∧ (∀ j, o4 j ≤ 15) := hw
        obtain ⟨w0r1, w1r1, hbo3, hbo4⟩ := hw
        refine lv_aload_n hx hb dX7_doing_240 rfl (lv_at hl 0 rfl) ?_
        refine va_get (D := (dC, dI)) (ci := 6) (v := .int o5) (C := RX7) (T := TX7) (N := 46) hx hb hts hiX7 hown hK hP 0 rfl rfl 43 (by decide) (hts (.fieldLink RX7 279 "LinkModelsModel" "bodies" "I") (by decide +kernel)) (fun _ h9 => h9) rfl dX7_doing_241 ?_
        refine lv_iconst (v := 1) hx hb dX7_doing_244 (by decide) ?_
        refine lv_icmp_le (tgt := 253) hx hb dX7_doing_245 (by decide) (fun cp245 => ?_) (fun cp245 => ?_)
        · refine lv_aload_n hx hb dX7_doing_253 rfl (lv_at hl 0 rfl) ?_
          refine va_get (D := (dC, dI)) (ci := 6) (v := .int o5) (C := RX7) (T := TX7) (N := 46) hx hb hts hiX7 hown hK hP 0 rfl rfl 43 (by decide) (hts (.fieldLink RX7 279 "LinkModelsModel" "bodies" "I") (by decide +kernel)) (fun _ h9 => h9) rfl dX7_doing_254 ?_
          refine lv_iconst (v := 1) hx hb dX7_doing_257 (by decide) ?_
          refine lv_icmp_ne (tgt := 268) hx hb dX7_doing_258 (by decide) (fun cp258 => ?_) (fun cp258 => ?_)
          · refine lv_bipush (v := (-20)) hx hb dX7_doing_268 (by decide) ?_
            have hP9 : va_P (dC, dI) vwCl (rW h0 r cI cJ cZ v0 a1 (nI tp) (nI bs) (fun j => nI (cl j)) a5 a6 a7 (fun j => nI (fc j)) a9 (fun j => nI (mb j)) a11 a12 a13 a14 a15 a16 a17 a18 a19 a20 (nI az) v22 v23 v24 v25 v26 (nI bb) (fun j => nI (ct j)) (nI us) a30 a31 a32 a33 a34 a35 a36 a37 (fun j => nI (o3 j)) (fun j => nI (o4 j)) (nI o2) v41 lk o5 o6 o7) H := hP
            have hD9 : va_D A (rW h0 r cI cJ cZ v0 a1 (nI tp) (nI bs) (fun j => nI (cl j)) a5 a6 a7 (fun j => nI (fc j)) a9 (fun j => nI (mb j)) a11 a12 a13 a14 a15 a16 a17 a18 a19 a20 (nI az) v22 v23 v24 v25 v26 (nI bb) (fun j => nI (ct j)) (nI us) a30 a31 a32 a33 a34 a35 a36 a37 (fun j => nI (o3 j)) (fun j => nI (o4 j)) (nI o2) v41 lk o5 o6 o7) := hD
            exact W.iret (v := (-20 : Int32)) hx hb hr (fun t ht hW => ⟨⟨(-20 : Int32), (o2, o3, o4, o5, o6, o7, lk), rfl, ⟨hbo3, hbo4⟩, by rw [ht]; exact hP9, va_K.moved hW.alike hK, hD9⟩, hS.F ht⟩) hS.2.2 dX7_doing_270
          · refine lv_aload_n hx hb dX7_doing_261 rfl (lv_at hl 0 rfl) ?_
            refine va_get (D := (dC, dI)) (ci := 6) (v := .int o6) (C := RX7) (T := TX7) (N := 46) hx hb hts hiX7 hown hK hP 0 rfl rfl 44 (by decide) (hts (.fieldLink RX7 282 "LinkModelsModel" "bodied" "I") (by decide +kernel)) (fun _ h9 => h9) rfl dX7_doing_262 ?_
            refine lv_goto (tgt := 270) hx hb dX7_doing_265 (by decide) ?_
            have hP9 : va_P (dC, dI) vwCl (rW h0 r cI cJ cZ v0 a1 (nI tp) (nI bs) (fun j => nI (cl j)) a5 a6 a7 (fun j => nI (fc j)) a9 (fun j => nI (mb j)) a11 a12 a13 a14 a15 a16 a17 a18 a19 a20 (nI az) v22 v23 v24 v25 v26 (nI bb) (fun j => nI (ct j)) (nI us) a30 a31 a32 a33 a34 a35 a36 a37 (fun j => nI (o3 j)) (fun j => nI (o4 j)) (nI o2) v41 lk o5 o6 o7) H := hP
            have hD9 : va_D A (rW h0 r cI cJ cZ v0 a1 (nI tp) (nI bs) (fun j => nI (cl j)) a5 a6 a7 (fun j => nI (fc j)) a9 (fun j => nI (mb j)) a11 a12 a13 a14 a15 a16 a17 a18 a19 a20 (nI az) v22 v23 v24 v25 v26 (nI bb) (fun j => nI (ct j)) (nI us) a30 a31 a32 a33 a34 a35 a36 a37 (fun j => nI (o3 j)) (fun j => nI (o4 j)) (nI o2) v41 lk o5 o6 o7) := hD
            exact W.iret (v := o6) hx hb hr (fun t ht hW => ⟨⟨o6, (o2, o3, o4, o5, o6, o7, lk), rfl, ⟨hbo3, hbo4⟩, by rw [ht]; exact hP9, va_K.moved hW.alike hK, hD9⟩, hS.F ht⟩) hS.2.2 dX7_doing_270
        · refine lv_bipush (v := (-14)) hx hb dX7_doing_248 (by decide) ?_
          refine lv_goto (tgt := 270) hx hb dX7_doing_250 (by decide) ?_
          have hP9 : va_P (dC, dI) vwCl (rW h0 r cI cJ cZ v0 a1 (nI tp) (nI bs) (fun j => nI (cl j)) a5 a6 a7 (fun j => nI (fc j)) a9 (fun j => nI (mb j)) a11 a12 a13 a14 a15 a16 a17 a18 a19 a20 (nI az) v22 v23 v24 v25 v26 (nI bb) (fun j => nI (ct j)) (nI us) a30 a31 a32 a33 a34 a35 a36 a37 (fun j => nI (o3 j)) (fun j => nI (o4 j)) (nI o2) v41 lk o5 o6 o7) H := hP
          have hD9 : va_D A (rW h0 r cI cJ cZ v0 a1 (nI tp) (nI bs) (fun j => nI (cl j)) a5 a6 a7 (fun j => nI (fc j)) a9 (fun j => nI (mb j)) a11 a12 a13 a14 a15 a16 a17 a18 a19 a20 (nI az) v22 v23 v24 v25 v26 (nI bb) (fun j => nI (ct j)) (nI us) a30 a31 a32 a33 a34 a35 a36 a37 (fun j => nI (o3 j)) (fun j => nI (o4 j)) (nI o2) v41 lk o5 o6 o7) := hD
          exact W.iret (v := (-14 : Int32)) hx hb hr (fun t ht hW => ⟨⟨(-14 : Int32), (o2, o3, o4, o5, o6, o7, lk), rfl, ⟨hbo3, hbo4⟩, by rw [ht]; exact hP9, va_K.moved hW.alike hK, hD9⟩, hS.F ht⟩) hS.2.2 dX7_doing_270
      · obtain ⟨k9, hBk9, hQk9, rfl⟩ := zM.pos hm164_dd cp166
        have hklk9 := zGd.lt hQk9.1 (hcl bd) (by omega)
        refine lv_aload_n hx hb dX7_doing_169 rfl (lv_at hl 0 rfl) ?_
        refine lv_iload hx hb dX7_doing_170 (lv_at hl 4 rfl) ?_
        refine lv_iload_n hx hb dX7_doing_172 rfl (lv_at hl 2 rfl) ?_
        refine lv_iconst (v := 1) hx hb dX7_doing_173 (by decide) ?_
        have hFc := z_freeW hD hS hA
        refine vp_callSi (W.runV (As := [.int (nI k9), .int (nI uu), .int 1]) (rest := []) ⟨hx, hb, hml, hown, hts⟩ (kX7_methodIn l dC dI h0 r cI cJ cZ v0 a1 tp bs cl a5 a6 a7 fc a9 mb a11 a12 a13 a14 a15 a16 a17 a18 a19 a20 az v22 v23 v24 v25 v26 bb ct us a30 a31 a32 a33 a34 a35 a36 a37 pil2 rwv2 rl2 v41 lk b0 b1 b2 ⟨by omega, by omega, by omega, hcl, hfc, hmb, hct, hbpil2, hbrwv2⟩ k9 uu (1 : Int32) (by first | omega | assumption | trivial) (by first | omega | assumption | trivial) H.size) (cwV 3 hts zgX7_doing_X7_methodIn_288 rfl rfl rfl (by decide +kernel) ⟨(show 0 + 1 ≤ 5 by omega), (show 8 + (6 + 11) + 0 ≤ 130 by omega)⟩) (zVm (ci := 6) (q0 := 0) (q := (RX7, TX7, 46)) hK hP hD hL hS.2.1 hFc rfl rfl rfl) rfl rfl hl.1 rfl (lv_room (Nat.le_of_ble_eq_true rfl)) dX7_doing_174 ⟨(show 0 + 0 ≤ 0 by omega), (show 0 + 0 ≤ 0 by omega)⟩) (fun r10 hw => ?_)
        have hw : (zM r10 (fun k => k < 960)) := hw
        have w0r10 := hw
        refine lv_istore (lv' := [(8, .int r10), (0, .ref h0), (1, .int (nI bd)), (2, .int (nI uu)), (6, .int (nI c6)), (7, .int (nI k9))]) hx hb dX7_doing_177 hl (by decide) rfl (fun ls hl => ?_)
        refine lv_iload hx hb dX7_doing_179 (lv_at hl 0 rfl) ?_
        refine lv_if_lt (tgt := 205) hx hb dX7_doing_181 (by decide) (fun cp181 => ?_) (fun cp181 => ?_)
        · obtain rfl : r10 = -1 := zM.neg w0r10 cp181
          refine lv_aload_n hx hb dX7_doing_205 rfl (lv_at hl 1 rfl) ?_
          refine va_get (D := (dC, dI)) (ci := 6) (v := .ref (r 6)) (C := RX7) (T := TX7) (N := 46) hx hb hts hiX7 hown hK hP 0 rfl rfl 6 (by decide) (hts (.fieldLink RX7 23 "LinkModelsModel" "sort" "[I") (by decide +kernel)) (fun _ h9 => h9) rfl dX7_doing_206 ?_
          refine lv_iload hx hb dX7_doing_209 (lv_at hl 4 rfl) ?_
          refine va_iald hx hb hK hP 4 0 rfl rfl (vp_in_nI (show c6 < 80 by omega) (by decide)) dX7_doing_211 ?_
          refine lv_topi (fun x11 ex11 => ?_)
          obtain rfl : x11 = a6 c6 := by rw [ex11, nI_clamp (show c6 < 2 ^ 31 by omega)]
          refine lv_iconst (v := 1) hx hb dX7_doing_212 (by decide) ?_
          refine lv_icmp_ne (tgt := 220) hx hb dX7_doing_213 (by decide) (fun cp213 => ?_) (fun cp213 => ?_)
          · refine lv_aload_n hx hb dX7_doing_220 rfl (lv_at hl 1 rfl) ?_
            refine lv_iload_n hx hb dX7_doing_221 rfl (lv_at hl 2 rfl) ?_
            refine lv_iload hx hb dX7_doing_222 (lv_at hl 5 rfl) ?_
            have hFc := z_freeW hD hS hA
            refine vp_callSi (W.runV (As := [.int (nI bd), .int (nI k9)]) (rest := []) ⟨hx, hb, hml, hown, hts⟩ (kX7_aboveOf l dC dI h0 r cI cJ cZ v0 a1 tp bs cl a5 a6 a7 fc a9 mb a11 a12 a13 a14 a15 a16 a17 a18 a19 a20 az v22 v23 v24 v25 v26 bb ct us a30 a31 a32 a33 a34 a35 a36 a37 pil2 rwv2 rl2 v41 lk b0 b1 b2 ⟨by omega, by omega, by omega, hcl, hfc, hmb, hct, hbpil2, hbrwv2⟩ rk bd k9 (by omega) (by exact i164_2) (by exact hQk9.1) H.size) (cwV 2 hts zgX7_doing_X7_aboveOf_276 rfl rfl rfl (by decide +kernel) ⟨(show 1 + 1 ≤ 5 by omega), (show 8 + (3 + 11) + 23 ≤ 130 by omega)⟩) (zVm (ci := 6) (q0 := 0) (q := (RX7, TX7, 46)) hK hP hD hL hS.2.1 hFc rfl rfl rfl) rfl rfl hl.1 rfl (lv_room (Nat.le_of_ble_eq_true rfl)) dX7_doing_224 ⟨(show 0 + 0 ≤ 0 by omega), (show 0 + 0 ≤ 0 by omega)⟩) (fun r12 hw => ?_)
            have hw : (zM r12 (fun k => zGd cl a11 bd k ∧ rk (k - 16 * bd) < rk (k9 - 16 * bd))) := hw
            have w0r12 := hw
            refine lv_istore (lv' := [(7, .int r12), (8, .int (-1)), (0, .ref h0), (1, .int (nI bd)), (2, .int (nI uu)), (6, .int (nI c6))]) hx hb dX7_doing_227 hl (by decide) rfl (fun ls hl => ?_)
            refine lv_goto (tgt := 164) hx hb dX7_doing_229 (by decide) ?_
            exact ih164 rk (rk (k9 - 16 * bd)) bd uu c6 r12 rl2 pil2 rwv2 b0 b1 b2 lk _ _ ls (by omega) hbpil2 hbrwv2 (zM.imp w0r12 (fun k hk hq => by first | exact hq | trivial | omega)) (by omega) (by omega) (by exact i164_2) (by exact i164_3) hP hD hS (lv_sub hl [2, 3, 4, 5, 0] rfl)
          · refine lv_iconst (v := (-1)) hx hb dX7_doing_216 (by decide) ?_
            refine lv_goto (tgt := 227) hx hb dX7_doing_217 (by decide) ?_
            refine lv_istore (lv' := [(7, .int (-1)), (8, .int (-1)), (0, .ref h0), (1, .int (nI bd)), (2, .int (nI uu)), (6, .int (nI c6))]) hx hb dX7_doing_227 hl (by decide) rfl (fun ls hl => ?_)
            refine lv_goto (tgt := 164) hx hb dX7_doing_229 (by decide) ?_
            exact ih164 rk (rk (k9 - 16 * bd)) bd uu c6 (-1 : Int32) rl2 pil2 rwv2 b0 b1 b2 lk _ _ ls (by omega) hbpil2 hbrwv2 (Or.inl rfl) (by omega) (by omega) (by exact i164_2) (by exact i164_3) hP hD hS (lv_sub hl [2, 3, 4, 5, 0] rfl)
        · obtain ⟨k13, hBk13, hQk13, rfl⟩ := zM.pos w0r10 cp181
          refine lv_aload_n hx hb dX7_doing_184 rfl (lv_at hl 1 rfl) ?_
          refine va_get (D := (dC, dI)) (ci := 6) (v := .ref (r 14)) (C := RX7) (T := TX7) (N := 46) hx hb hts hiX7 hown hK hP 0 rfl rfl 14 (by decide) (hts (.fieldLink RX7 48 "LinkModelsModel" "marks" "[I") (by decide +kernel)) (fun _ h9 => h9) rfl dX7_doing_185 ?_
          refine lv_iload hx hb dX7_doing_188 (lv_at hl 0 rfl) ?_
          refine va_iald hx hb hK hP 12 0 rfl rfl (vp_in_nI (show k13 < 960 by omega) (by decide)) dX7_doing_190 ?_
          refine lv_topi (fun x14 ex14 => ?_)
          obtain rfl : x14 = a14 k13 := by rw [ex14, nI_clamp (show k13 < 2 ^ 31 by omega)]
          refine lv_bipush (v := 8) hx hb dX7_doing_191 (by decide) ?_
          refine lv_iand hx hb dX7_doing_193 ?_
          refine lv_topi (fun x15 ex15 => ?_)
          refine lv_if_eq (tgt := 202) hx hb dX7_doing_194 (by decide) (fun cp194 => ?_) (fun cp194 => ?_)
          · refine lv_iload hx hb dX7_doing_202 (lv_at hl 0 rfl) ?_
            have hP9 : va_P (dC, dI) vwCl (rW h0 r cI cJ cZ v0 a1 (nI tp) (nI bs) (fun j => nI (cl j)) a5 a6 a7 (fun j => nI (fc j)) a9 (fun j => nI (mb j)) a11 a12 a13 a14 a15 a16 a17 a18 a19 a20 (nI az) v22 v23 v24 v25 v26 (nI bb) (fun j => nI (ct j)) (nI us) a30 a31 a32 a33 a34 a35 a36 a37 (fun j => nI (pil2 j)) (fun j => nI (rwv2 j)) (nI rl2) v41 lk b0 b1 b2) H := hP
            have hD9 : va_D A (rW h0 r cI cJ cZ v0 a1 (nI tp) (nI bs) (fun j => nI (cl j)) a5 a6 a7 (fun j => nI (fc j)) a9 (fun j => nI (mb j)) a11 a12 a13 a14 a15 a16 a17 a18 a19 a20 (nI az) v22 v23 v24 v25 v26 (nI bb) (fun j => nI (ct j)) (nI us) a30 a31 a32 a33 a34 a35 a36 a37 (fun j => nI (pil2 j)) (fun j => nI (rwv2 j)) (nI rl2) v41 lk b0 b1 b2) := hD
            exact W.iret (v := (nI k13)) hx hb hr (fun t ht hW => ⟨⟨(nI k13), (rl2, pil2, rwv2, b0, b1, b2, lk), rfl, ⟨hbpil2, hbrwv2⟩, by rw [ht]; exact hP9, va_K.moved hW.alike hK, hD9⟩, hS.F ht⟩) hS.2.2 dX7_doing_204
          · refine lv_bipush (v := (-20)) hx hb dX7_doing_197 (by decide) ?_
            refine lv_goto (tgt := 204) hx hb dX7_doing_199 (by decide) ?_
            have hP9 : va_P (dC, dI) vwCl (rW h0 r cI cJ cZ v0 a1 (nI tp) (nI bs) (fun j => nI (cl j)) a5 a6 a7 (fun j => nI (fc j)) a9 (fun j => nI (mb j)) a11 a12 a13 a14 a15 a16 a17 a18 a19 a20 (nI az) v22 v23 v24 v25 v26 (nI bb) (fun j => nI (ct j)) (nI us) a30 a31 a32 a33 a34 a35 a36 a37 (fun j => nI (pil2 j)) (fun j => nI (rwv2 j)) (nI rl2) v41 lk b0 b1 b2) H := hP
            have hD9 : va_D A (rW h0 r cI cJ cZ v0 a1 (nI tp) (nI bs) (fun j => nI (cl j)) a5 a6 a7 (fun j => nI (fc j)) a9 (fun j => nI (mb j)) a11 a12 a13 a14 a15 a16 a17 a18 a19 a20 (nI az) v22 v23 v24 v25 v26 (nI bb) (fun j => nI (ct j)) (nI us) a30 a31 a32 a33 a34 a35 a36 a37 (fun j => nI (pil2 j)) (fun j => nI (rwv2 j)) (nI rl2) v41 lk b0 b1 b2) := hD
            exact W.iret (v := (-20 : Int32)) hx hb hr (fun t ht hW => ⟨⟨(-20 : Int32), (rl2, pil2, rwv2, b0, b1, b2, lk), rfl, ⟨hbpil2, hbrwv2⟩, by rw [ht]; exact hP9, va_K.moved hW.alike hK, hD9⟩, hS.F ht⟩) hS.2.2 dX7_doing_204
  have J43 : ∀ (bd : Nat) (uu : Nat) (H : Heap) (locs : List Loc) (ls : Array Slot), (bd < bs) → (uu < us) → (a30 uu = 4 ∨ a30 uu = 7) → va_P (dC, dI) vwCl (rW h0 r cI cJ cZ v0 a1 (nI tp) (nI bs) (fun j => nI (cl j)) a5 a6 a7 (fun j => nI (fc j)) a9 (fun j => nI (mb j)) a11 a12 a13 a14 a15 a16 a17 a18 a19 a20 (nI az) v22 v23 v24 v25 v26 (nI bb) (fun j => nI (ct j)) (nI us) a30 a31 a32 a33 a34 a35 a36 a37 (fun j => nI (pil j)) (fun j => nI (rwv j)) (nI rl) v41 v42 v43 v44 v45) H → va_D A (rW h0 r cI cJ cZ v0 a1 (nI tp) (nI bs) (fun j => nI (cl j)) a5 a6 a7 (fun j => nI (fc j)) a9 (fun j => nI (mb j)) a11 a12 a13 a14 a15 a16 a17 a18 a19 a20 (nI az) v22 v23 v24 v25 v26 (nI bb) (fun j => nI (ct j)) (nI us) a30 a31 a32 a33 a34 a35 a36 a37 (fun j => nI (pil j)) (fun j => nI (rwv j)) (nI rl) v41 v42 v43 v44 v45) → va_S A s.heap H locs → lv_has ls 9 [(0, .ref h0), (1, .int (nI bd)), (2, .int (nI uu)), (3, .int rc)] → W p l e (headSpec zwX7_doing { frames := 5, cells := 0, slots := 0, locals := 130 }).room s m (([.ref h0, .int xb, .int xu, .int rc] : List Value).toArray) below meth c H locs 0 0 (MQ below (va_Qi (fun (r : Int32) (u : Nat × (Nat → Nat) × (Nat → Nat) × Int32 × Int32 × Int32 × Int32) => (∀ j, (u.2.1) j ≤ 15) ∧ (∀ j, (u.2.2.1) j ≤ 15)) (fun u t => zB dC dI (A) (rW h0 r cI cJ cZ v0 a1 (nI tp) (nI bs) (fun j => nI (cl j)) a5 a6 a7 (fun j => nI (fc j)) a9 (fun j => nI (mb j)) a11 a12 a13 a14 a15 a16 a17 a18 a19 a20 (nI az) v22 v23 v24 v25 v26 (nI bb) (fun j => nI (ct j)) (nI us) a30 a31 a32 a33 a34 a35 a36 a37 (fun j => nI ((u.2.1) j)) (fun j => nI ((u.2.2.1) j)) (nI (u.1)) v41 (u.2.2.2.2.2.2) (u.2.2.2.1) (u.2.2.2.2.1) (u.2.2.2.2.2.1)) [(cI, .int), (cJ, .long), (cZ, .boolean)] t) (A)) (([.ref h0, .int xb, .int xu, .int rc] : List Value).toArray) s 0 0 A) (F0 m 43 ls []) := by
    intro bd uu H locs ls i43_0 i43_1 i43_2 hP hD hS hl
    refine lv_aload_n hx hb dX7_doing_43 rfl (lv_at hl 0 rfl) ?_
    refine lv_iload_n hx hb dX7_doing_44 rfl (lv_at hl 1 rfl) ?_
    refine lv_iload_n hx hb dX7_doing_45 rfl (lv_at hl 2 rfl) ?_
    have hFc := z_freeW hD hS hA
    refine va_calli (va_runV (As := [.int (nI bd), .int (nI uu)]) (rest := []) ⟨hx, hb, hml, hown, hts⟩ (kX7_links l dC dI h0 r cI cJ cZ v0 a1 tp bs cl a5 a6 a7 fc a9 mb a11 a12 a13 a14 a15 a16 a17 a18 a19 a20 az v22 v23 v24 v25 v26 bb ct us a30 a31 a32 a33 a34 a35 a36 a37 pil rwv rl v41 v42 v43 v44 v45 ⟨by omega, by omega, by omega, hcl, hfc, hmb, hct, hpil, hrwv⟩ bd uu (by first | omega | assumption | trivial) (by first | omega | assumption | trivial) (by exact hp0) H.size) (cwV 2 hts zgX7_doing_X7_links_309 rfl rfl rfl (by decide +kernel) ⟨(show 4 + 1 ≤ 5 by omega), (show 8 + (9 + 11) + 102 ≤ 130 by omega)⟩) (zVm (ci := 6) (q0 := 0) (q := (RX7, TX7, 46)) hK hP hD hL hS.2.1 hFc rfl rfl rfl) rfl rfl hl.1 rfl (lv_room (Nat.le_of_ble_eq_true rfl)) dX7_doing_46 ⟨(show 0 + 0 ≤ 0 by omega), (show 0 + 0 ≤ 0 by omega)⟩) hS (fun q _ h => hFc q h) hFc (fun r16 u24 t H1 locs ht hvm hw hB hz1 hk1 hS => ?_)
    obtain ⟨o17, o18, o19, o20, o21, o22, o23⟩ := u24
    obtain ⟨hP, hK9, hD⟩ := hB
    rw [ht] at hP
    have hD := hD.weaken (fun k q _ h => hFc q.1 h)
    generalize H1 = H at hP hS
    have hP : va_P (dC, dI) vwCl (rW h0 r cI cJ cZ v0 a1 (nI tp) (nI bs) (fun j => nI (cl j)) a5 a6 a7 (fun j => nI (fc j)) a9 (fun j => nI (mb j)) a11 a12 a13 a14 a15 a16 a17 a18 a19 a20 (nI az) v22 v23 v24 v25 v26 (nI bb) (fun j => nI (ct j)) (nI us) a30 a31 a32 a33 a34 a35 a36 a37 (fun j => nI (o18 j)) (fun j => nI (o19 j)) (nI o17) v41 o23 o20 o21 o22) H := hP
    have hD : va_D A (rW h0 r cI cJ cZ v0 a1 (nI tp) (nI bs) (fun j => nI (cl j)) a5 a6 a7 (fun j => nI (fc j)) a9 (fun j => nI (mb j)) a11 a12 a13 a14 a15 a16 a17 a18 a19 a20 (nI az) v22 v23 v24 v25 v26 (nI bb) (fun j => nI (ct j)) (nI us) a30 a31 a32 a33 a34 a35 a36 a37 (fun j => nI (o18 j)) (fun j => nI (o19 j)) (nI o17) v41 o23 o20 o21 o22) := hD
    have hw : (zM o23 (fun k => k < 960)) ∧ (0 < r16 ∨ 7 < a30 uu ∨ ∃ k, k < 960 ∧ o23 = nI k) ∧ (7 < a30 uu → o23 = -1) ∧ (∀ j, o18 j ≤ 15) ∧ (∀ j, o19 j ≤ 15) := hw
    obtain ⟨w0r16, w1r16, w2r16, hbo18, hbo19⟩ := hw
    refine lv_istore (lv' := [(4, .int r16), (0, .ref h0), (1, .int (nI bd)), (2, .int (nI uu)), (3, .int rc)]) hx hb dX7_doing_49 hl (by decide) rfl (fun ls hl => ?_)
    refine lv_iload hx hb dX7_doing_51 (lv_at hl 0 rfl) ?_
    refine lv_if_le (tgt := 61) hx hb dX7_doing_53 (by decide) (fun cp53 => ?_) (fun cp53 => ?_)
    · refine lv_aload_n hx hb dX7_doing_61 rfl (lv_at hl 1 rfl) ?_
      refine lv_iload_n hx hb dX7_doing_62 rfl (lv_at hl 2 rfl) ?_
      refine lv_iload_n hx hb dX7_doing_63 rfl (lv_at hl 4 rfl) ?_
      have hFc := z_freeW hD hS hA
      refine vp_callSi (W.runV (As := [.int (nI bd), .int rc]) (rest := []) ⟨hx, hb, hml, hown, hts⟩ (kX7_errorOf l dC dI h0 r cI cJ cZ v0 a1 tp bs cl a5 a6 a7 fc a9 mb a11 a12 a13 a14 a15 a16 a17 a18 a19 a20 az v22 v23 v24 v25 v26 bb ct us a30 a31 a32 a33 a34 a35 a36 a37 o18 o19 o17 v41 o23 o20 o21 o22 ⟨by omega, by omega, by omega, hcl, hfc, hmb, hct, hbo18, hbo19⟩ bd rc (by first | omega | assumption | trivial) H.size) (cwV 2 hts zgX7_doing_X7_errorOf_251 rfl rfl rfl (by decide +kernel) ⟨(show 1 + 1 ≤ 5 by omega), (show 8 + (4 + 11) + 23 ≤ 130 by omega)⟩) (zVm (ci := 6) (q0 := 0) (q := (RX7, TX7, 46)) hK hP hD hL hS.2.1 hFc rfl rfl rfl) rfl rfl hl.1 rfl (lv_room (Nat.le_of_ble_eq_true rfl)) dX7_doing_64 ⟨(show 0 + 0 ≤ 0 by omega), (show 0 + 0 ≤ 0 by omega)⟩) (fun r25 hw => ?_)
      have hw : (zEr cl a5 a11 bd rc r25) := hw
      have w0r25 := hw
      refine lv_istore (lv' := [(4, .int r25), (0, .ref h0), (1, .int (nI bd)), (2, .int (nI uu)), (3, .int rc)]) hx hb dX7_doing_67 hl (by decide) rfl (fun ls hl => ?_)
      refine lv_iload hx hb dX7_doing_69 (lv_at hl 0 rfl) ?_
      refine lv_if_le (tgt := 80) hx hb dX7_doing_71 (by decide) (fun cp71 => ?_) (fun cp71 => ?_)
      · obtain ⟨c8, hac8, hbc8, hcc8⟩ := z_er (hp0 bd i43_0) w0r25 (Int32.not_lt.mpr cp71)
        have hclb := hcl bd
        obtain ⟨rk, hrk⟩ := hp0 bd i43_0
        have hg9 : zGd cl a11 bd (16 * bd + c8) := zGd.mk hac8 hcc8
        have hr9 : rk (16 * bd + c8 - 16 * bd) < rk c8 + 1 := by rw [Nat.add_sub_cancel_left]; exact Nat.lt_succ_self _
        obtain ⟨l9, hl9, rfl⟩ := (w1r16.resolve_left (Int32.not_lt.mpr cp53)).resolve_left (fun h9 => i43_2.elim (fun q => by rw [q] at h9; exact absurd h9 (by decide)) (fun q => by rw [q] at h9; exact absurd h9 (by decide)))
        refine lv_aload_n hx hb dX7_doing_80 rfl (lv_at hl 1 rfl) ?_
        refine lv_iload_n hx hb dX7_doing_81 rfl (lv_at hl 2 rfl) ?_
        refine lv_iload_n hx hb dX7_doing_82 rfl (lv_at hl 4 rfl) ?_
        have hFc := z_freeW hD hS hA
        refine vp_callSi (W.runV (As := [.int (nI bd), .int rc]) (rest := []) ⟨hx, hb, hml, hown, hts⟩ (kX7_place l dC dI h0 r cI cJ cZ v0 a1 tp bs cl a5 a6 a7 fc a9 mb a11 a12 a13 a14 a15 a16 a17 a18 a19 a20 az v22 v23 v24 v25 v26 bb ct us a30 a31 a32 a33 a34 a35 a36 a37 o18 o19 o17 v41 (nI l9) o20 o21 o22 ⟨by omega, by omega, by omega, hcl, hfc, hmb, hct, hbo18, hbo19⟩ bd rc (by first | omega | assumption | trivial) H.size) (cwV 2 hts zgX7_doing_X7_place_201 rfl rfl rfl (by decide +kernel) ⟨(show 0 + 1 ≤ 5 by omega), (show 8 + (4 + 11) + 0 ≤ 130 by omega)⟩) (zVm (ci := 6) (q0 := 0) (q := (RX7, TX7, 46)) hK hP hD hL hS.2.1 hFc rfl rfl rfl) rfl rfl hl.1 rfl (lv_room (Nat.le_of_ble_eq_true rfl)) dX7_doing_83 ⟨(show 0 + 0 ≤ 0 by omega), (show 0 + 0 ≤ 0 by omega)⟩) (fun r26 hw => ?_)
        have hw : (zM r26 (fun k => k < cl bd)) ∧ (zPl a5 (16 * bd) (cl bd) rc r26) := hw
        obtain ⟨w0r26, w1r26⟩ := hw
        obtain rfl : r26 = nI c8 := w1r26.uniq hbc8
        refine lv_istore (lv' := [(5, .int (nI c8)), (4, .int r25), (0, .ref h0), (1, .int (nI bd)), (2, .int (nI uu)), (3, .int rc)]) hx hb dX7_doing_86 hl (by decide) rfl (fun ls hl => ?_)
        refine lv_aload_n hx hb dX7_doing_88 rfl (lv_at hl 2 rfl) ?_
        refine lv_iload_n hx hb dX7_doing_89 rfl (lv_at hl 3 rfl) ?_
        refine lv_iload hx hb dX7_doing_90 (lv_at hl 0 rfl) ?_
        refine lv_aload_n hx hb dX7_doing_92 rfl (lv_at hl 2 rfl) ?_
        refine lv_iload_n hx hb dX7_doing_93 rfl (lv_at hl 3 rfl) ?_
        refine lv_aload_n hx hb dX7_doing_94 rfl (lv_at hl 2 rfl) ?_
        refine va_get (D := (dC, dI)) (ci := 6) (v := .ref (r 32)) (C := RX7) (T := TX7) (N := 46) hx hb hts hiX7 hown hK hP 0 rfl rfl 32 (by decide) (hts (.fieldLink RX7 79 "LinkModelsModel" "owner" "[I") (by decide +kernel)) (fun _ h9 => h9) rfl dX7_doing_95 ?_
        refine lv_iload_n hx hb dX7_doing_98 rfl (lv_at hl 4 rfl) ?_
        refine va_iald hx hb hK hP 22 0 rfl rfl (vp_in_nI (show uu < 40 by omega) (by decide)) dX7_doing_99 ?_
        refine lv_topi (fun x27 ex27 => ?_)
        obtain rfl : x27 = a32 uu := by rw [ex27, nI_clamp (show uu < 2 ^ 31 by omega)]
        have hFc := z_freeW hD hS hA
        refine vp_callSi (W.runV (As := [.int (nI bd), .int (a32 uu)]) (rest := [.int (nI c8), .int (nI bd), .ref h0]) ⟨hx, hb, hml, hown, hts⟩ (kX7_place l dC dI h0 r cI cJ cZ v0 a1 tp bs cl a5 a6 a7 fc a9 mb a11 a12 a13 a14 a15 a16 a17 a18 a19 a20 az v22 v23 v24 v25 v26 bb ct us a30 a31 a32 a33 a34 a35 a36 a37 o18 o19 o17 v41 (nI l9) o20 o21 o22 ⟨by omega, by omega, by omega, hcl, hfc, hmb, hct, hbo18, hbo19⟩ bd (a32 uu) (by first | omega | assumption | trivial) H.size) (cwV 2 hts zgX7_doing_X7_place_201 rfl rfl rfl (by decide +kernel) ⟨(show 0 + 1 ≤ 5 by omega), (show 8 + (4 + 11) + 0 ≤ 130 by omega)⟩) (zVm (ci := 6) (q0 := 0) (q := (RX7, TX7, 46)) hK hP hD hL hS.2.1 hFc rfl rfl rfl) rfl rfl hl.1 rfl (lv_room (Nat.le_of_ble_eq_true rfl)) dX7_doing_100 ⟨(show 0 + 0 ≤ 0 by omega), (show 0 + 0 ≤ 0 by omega)⟩) (fun r28 hw => ?_)
        have hw : (zM r28 (fun k => k < cl bd)) ∧ (zPl a5 (16 * bd) (cl bd) ((a32 uu)) r28) := hw
        obtain ⟨w0r28, w1r28⟩ := hw
        have hFc := z_freeW hD hS hA
        refine vp_callSi (W.runV (As := [.int (nI bd), .int (nI c8), .int r28]) (rest := []) ⟨hx, hb, hml, hown, hts⟩ (kX7_isOf l dC dI h0 r cI cJ cZ v0 a1 tp bs cl a5 a6 a7 fc a9 mb a11 a12 a13 a14 a15 a16 a17 a18 a19 a20 az v22 v23 v24 v25 v26 bb ct us a30 a31 a32 a33 a34 a35 a36 a37 o18 o19 o17 v41 (nI l9) o20 o21 o22 ⟨by omega, by omega, by omega, hcl, hfc, hmb, hct, hbo18, hbo19⟩ bd c8 r28 (by first | omega | assumption | trivial) (by first | omega | assumption | trivial) H.size) (cwV 3 hts zgX7_doing_X7_isOf_256 rfl rfl rfl (by decide +kernel) ⟨(show 0 + 1 ≤ 5 by omega), (show 8 + (4 + 11) + 0 ≤ 130 by omega)⟩) (zVm (ci := 6) (q0 := 0) (q := (RX7, TX7, 46)) hK hP hD hL hS.2.1 hFc rfl rfl rfl) rfl rfl hl.1 rfl (lv_room (Nat.le_of_ble_eq_true rfl)) dX7_doing_103 ⟨(show 0 + 0 ≤ 0 by omega), (show 0 + 0 ≤ 0 by omega)⟩) (fun r29 hw => ?_)
        have hw : (r29 = 0 ∨ r29 = 1) := hw
        have w0r29 := hw
        refine lv_if_ne (tgt := 112) hx hb dX7_doing_106 (by decide) (fun cp106 => ?_) (fun cp106 => ?_)
        · refine lv_aload_n hx hb dX7_doing_112 rfl (lv_at hl 2 rfl) ?_
          refine va_get (D := (dC, dI)) (ci := 6) (v := .ref (r 14)) (C := RX7) (T := TX7) (N := 46) hx hb hts hiX7 hown hK hP 0 rfl rfl 14 (by decide) (hts (.fieldLink RX7 48 "LinkModelsModel" "marks" "[I") (by decide +kernel)) (fun _ h9 => h9) rfl dX7_doing_113 ?_
          refine lv_aload_n hx hb dX7_doing_116 rfl (lv_at hl 2 rfl) ?_
          refine va_get (D := (dC, dI)) (ci := 6) (v := .int (nI l9)) (C := RX7) (T := TX7) (N := 46) hx hb hts hiX7 hown hK hP 0 rfl rfl 42 (by decide) (hts (.fieldLink RX7 296 "LinkModelsModel" "linked" "I") (by decide +kernel)) (fun _ h9 => h9) rfl dX7_doing_117 ?_
          refine va_iald hx hb hK hP 12 0 rfl rfl (vp_in_nI (show l9 < 960 by omega) (by decide)) dX7_doing_120 ?_
          refine lv_topi (fun x30 ex30 => ?_)
          obtain rfl : x30 = a14 l9 := by rw [ex30, nI_clamp (show l9 < 2 ^ 31 by omega)]
          refine lv_iconst (v := 2) hx hb dX7_doing_121 (by decide) ?_
          refine lv_iand hx hb dX7_doing_122 ?_
          refine lv_topi (fun x31 ex31 => ?_)
          refine lv_if_eq (tgt := 151) hx hb dX7_doing_123 (by decide) (fun cp123 => ?_) (fun cp123 => ?_)
          · refine lv_bipush (v := 16) hx hb dX7_doing_151 (by decide) ?_
            refine lv_iload_n hx hb dX7_doing_153 rfl (lv_at hl 3 rfl) ?_
            refine lv_imul hx hb dX7_doing_154 ?_
            refine lv_topi (fun x32 ex32 => ?_)
            obtain rfl : x32 = nI (16 * bd) := by rw [ex32]; exact pk_mul (16) (bd)
            refine lv_iload hx hb dX7_doing_155 (lv_at hl 0 rfl) ?_
            refine lv_iadd hx hb dX7_doing_157 ?_
            refine lv_topi (fun x33 ex33 => ?_)
            obtain rfl : x33 = nI ((16 * bd) + c8) := by rw [ex33]; exact nI_add (16 * bd) (c8)
            refine lv_istore (lv' := [(6, .int (nI ((16 * bd) + c8))), (5, .int (nI c8)), (4, .int r25), (0, .ref h0), (1, .int (nI bd)), (2, .int (nI uu)), (3, .int rc)]) hx hb dX7_doing_158 hl (by decide) rfl (fun ls hl => ?_)
            refine lv_iload hx hb dX7_doing_160 (lv_at hl 0 rfl) ?_
            refine lv_istore (lv' := [(7, .int (nI ((16 * bd) + c8))), (6, .int (nI ((16 * bd) + c8))), (5, .int (nI c8)), (4, .int r25), (0, .ref h0), (1, .int (nI bd)), (2, .int (nI uu)), (3, .int rc)]) hx hb dX7_doing_162 hl (by decide) rfl (fun ls hl => ?_)
            exact J164 _ rk (rk c8 + 1) bd uu ((16 * bd) + c8) (nI ((16 * bd) + c8)) o17 o18 o19 o20 o21 o22 (nI l9) _ _ ls (Nat.lt_succ_self _) hbo18 hbo19 (zM.mk (by omega) (by first | trivial | omega | assumption | (refine ⟨?_, ?_⟩ <;> first | trivial | omega | assumption))) (by omega) (by omega) (by exact hrk) (by exact zGd.mk hac8 hcc8) hP hD hS (lv_sub hl [4, 5, 6, 1, 0] rfl)
          · refine lv_aload_n hx hb dX7_doing_126 rfl (lv_at hl 2 rfl) ?_
            refine va_get (D := (dC, dI)) (ci := 6) (v := .ref (r 14)) (C := RX7) (T := TX7) (N := 46) hx hb hts hiX7 hown hK hP 0 rfl rfl 14 (by decide) (hts (.fieldLink RX7 48 "LinkModelsModel" "marks" "[I") (by decide +kernel)) (fun _ h9 => h9) rfl dX7_doing_127 ?_
            refine lv_aload_n hx hb dX7_doing_130 rfl (lv_at hl 2 rfl) ?_
            refine va_get (D := (dC, dI)) (ci := 6) (v := .int (nI l9)) (C := RX7) (T := TX7) (N := 46) hx hb hts hiX7 hown hK hP 0 rfl rfl 42 (by decide) (hts (.fieldLink RX7 296 "LinkModelsModel" "linked" "I") (by decide +kernel)) (fun _ h9 => h9) rfl dX7_doing_131 ?_
            refine va_iald hx hb hK hP 12 0 rfl rfl (vp_in_nI (show l9 < 960 by omega) (by decide)) dX7_doing_134 ?_
            refine lv_topi (fun x34 ex34 => ?_)
            obtain rfl : x34 = a14 l9 := by rw [ex34, nI_clamp (show l9 < 2 ^ 31 by omega)]
            refine lv_bipush (v := 8) hx hb dX7_doing_135 (by decide) ?_
            refine lv_iand hx hb dX7_doing_137 ?_
            refine lv_topi (fun x35 ex35 => ?_)
            refine lv_if_eq (tgt := 146) hx hb dX7_doing_138 (by decide) (fun cp138 => ?_) (fun cp138 => ?_)
            · refine lv_aload_n hx hb dX7_doing_146 rfl (lv_at hl 2 rfl) ?_
              refine va_get (D := (dC, dI)) (ci := 6) (v := .int (nI l9)) (C := RX7) (T := TX7) (N := 46) hx hb hts hiX7 hown hK hP 0 rfl rfl 42 (by decide) (hts (.fieldLink RX7 296 "LinkModelsModel" "linked" "I") (by decide +kernel)) (fun _ h9 => h9) rfl dX7_doing_147 ?_
              have hP9 : va_P (dC, dI) vwCl (rW h0 r cI cJ cZ v0 a1 (nI tp) (nI bs) (fun j => nI (cl j)) a5 a6 a7 (fun j => nI (fc j)) a9 (fun j => nI (mb j)) a11 a12 a13 a14 a15 a16 a17 a18 a19 a20 (nI az) v22 v23 v24 v25 v26 (nI bb) (fun j => nI (ct j)) (nI us) a30 a31 a32 a33 a34 a35 a36 a37 (fun j => nI (o18 j)) (fun j => nI (o19 j)) (nI o17) v41 (nI l9) o20 o21 o22) H := hP
              have hD9 : va_D A (rW h0 r cI cJ cZ v0 a1 (nI tp) (nI bs) (fun j => nI (cl j)) a5 a6 a7 (fun j => nI (fc j)) a9 (fun j => nI (mb j)) a11 a12 a13 a14 a15 a16 a17 a18 a19 a20 (nI az) v22 v23 v24 v25 v26 (nI bb) (fun j => nI (ct j)) (nI us) a30 a31 a32 a33 a34 a35 a36 a37 (fun j => nI (o18 j)) (fun j => nI (o19 j)) (nI o17) v41 (nI l9) o20 o21 o22) := hD
              exact W.iret (v := (nI l9)) hx hb hr (fun t ht hW => ⟨⟨(nI l9), (o17, o18, o19, o20, o21, o22, (nI l9)), rfl, ⟨hbo18, hbo19⟩, by rw [ht]; exact hP9, va_K.moved hW.alike hK, hD9⟩, hS.F ht⟩) hS.2.2 dX7_doing_150
            · refine lv_bipush (v := (-20)) hx hb dX7_doing_141 (by decide) ?_
              refine lv_goto (tgt := 150) hx hb dX7_doing_143 (by decide) ?_
              have hP9 : va_P (dC, dI) vwCl (rW h0 r cI cJ cZ v0 a1 (nI tp) (nI bs) (fun j => nI (cl j)) a5 a6 a7 (fun j => nI (fc j)) a9 (fun j => nI (mb j)) a11 a12 a13 a14 a15 a16 a17 a18 a19 a20 (nI az) v22 v23 v24 v25 v26 (nI bb) (fun j => nI (ct j)) (nI us) a30 a31 a32 a33 a34 a35 a36 a37 (fun j => nI (o18 j)) (fun j => nI (o19 j)) (nI o17) v41 (nI l9) o20 o21 o22) H := hP
              have hD9 : va_D A (rW h0 r cI cJ cZ v0 a1 (nI tp) (nI bs) (fun j => nI (cl j)) a5 a6 a7 (fun j => nI (fc j)) a9 (fun j => nI (mb j)) a11 a12 a13 a14 a15 a16 a17 a18 a19 a20 (nI az) v22 v23 v24 v25 v26 (nI bb) (fun j => nI (ct j)) (nI us) a30 a31 a32 a33 a34 a35 a36 a37 (fun j => nI (o18 j)) (fun j => nI (o19 j)) (nI o17) v41 (nI l9) o20 o21 o22) := hD
              exact W.iret (v := (-20 : Int32)) hx hb hr (fun t ht hW => ⟨⟨(-20 : Int32), (o17, o18, o19, o20, o21, o22, (nI l9)), rfl, ⟨hbo18, hbo19⟩, by rw [ht]; exact hP9, va_K.moved hW.alike hK, hD9⟩, hS.F ht⟩) hS.2.2 dX7_doing_150
        · refine lv_bipush (v := (-14)) hx hb dX7_doing_109 (by decide) ?_
          have hP9 : va_P (dC, dI) vwCl (rW h0 r cI cJ cZ v0 a1 (nI tp) (nI bs) (fun j => nI (cl j)) a5 a6 a7 (fun j => nI (fc j)) a9 (fun j => nI (mb j)) a11 a12 a13 a14 a15 a16 a17 a18 a19 a20 (nI az) v22 v23 v24 v25 v26 (nI bb) (fun j => nI (ct j)) (nI us) a30 a31 a32 a33 a34 a35 a36 a37 (fun j => nI (o18 j)) (fun j => nI (o19 j)) (nI o17) v41 (nI l9) o20 o21 o22) H := hP
          have hD9 : va_D A (rW h0 r cI cJ cZ v0 a1 (nI tp) (nI bs) (fun j => nI (cl j)) a5 a6 a7 (fun j => nI (fc j)) a9 (fun j => nI (mb j)) a11 a12 a13 a14 a15 a16 a17 a18 a19 a20 (nI az) v22 v23 v24 v25 v26 (nI bb) (fun j => nI (ct j)) (nI us) a30 a31 a32 a33 a34 a35 a36 a37 (fun j => nI (o18 j)) (fun j => nI (o19 j)) (nI o17) v41 (nI l9) o20 o21 o22) := hD
          exact W.iret (v := (-14 : Int32)) hx hb hr (fun t ht hW => ⟨⟨(-14 : Int32), (o17, o18, o19, o20, o21, o22, (nI l9)), rfl, ⟨hbo18, hbo19⟩, by rw [ht]; exact hP9, va_K.moved hW.alike hK, hD9⟩, hS.F ht⟩) hS.2.2 dX7_doing_111
      · refine lv_bipush (v := (-10)) hx hb dX7_doing_74 (by decide) ?_
        refine lv_iload hx hb dX7_doing_76 (lv_at hl 0 rfl) ?_
        refine lv_isub hx hb dX7_doing_78 ?_
        refine lv_topi (fun x36 ex36 => ?_)
        have hP9 : va_P (dC, dI) vwCl (rW h0 r cI cJ cZ v0 a1 (nI tp) (nI bs) (fun j => nI (cl j)) a5 a6 a7 (fun j => nI (fc j)) a9 (fun j => nI (mb j)) a11 a12 a13 a14 a15 a16 a17 a18 a19 a20 (nI az) v22 v23 v24 v25 v26 (nI bb) (fun j => nI (ct j)) (nI us) a30 a31 a32 a33 a34 a35 a36 a37 (fun j => nI (o18 j)) (fun j => nI (o19 j)) (nI o17) v41 o23 o20 o21 o22) H := hP
        have hD9 : va_D A (rW h0 r cI cJ cZ v0 a1 (nI tp) (nI bs) (fun j => nI (cl j)) a5 a6 a7 (fun j => nI (fc j)) a9 (fun j => nI (mb j)) a11 a12 a13 a14 a15 a16 a17 a18 a19 a20 (nI az) v22 v23 v24 v25 v26 (nI bb) (fun j => nI (ct j)) (nI us) a30 a31 a32 a33 a34 a35 a36 a37 (fun j => nI (o18 j)) (fun j => nI (o19 j)) (nI o17) v41 o23 o20 o21 o22) := hD
        exact W.iret (v := x36) hx hb hr (fun t ht hW => ⟨⟨x36, (o17, o18, o19, o20, o21, o22, o23), rfl, ⟨hbo18, hbo19⟩, by rw [ht]; exact hP9, va_K.moved hW.alike hK, hD9⟩, hS.F ht⟩) hS.2.2 dX7_doing_79
    · refine lv_iload hx hb dX7_doing_56 (lv_at hl 0 rfl) ?_
      refine lv_goto (tgt := 67) hx hb dX7_doing_58 (by decide) ?_
      refine lv_istore (lv' := [(4, .int r16), (0, .ref h0), (1, .int (nI bd)), (2, .int (nI uu)), (3, .int rc)]) hx hb dX7_doing_67 hl (by decide) rfl (fun ls hl => ?_)
      refine lv_iload hx hb dX7_doing_69 (lv_at hl 0 rfl) ?_
      refine lv_if_le (tgt := 80) hx hb dX7_doing_71 (by decide) (fun c9 => absurd c9 (cp53)) (fun _ => ?_)
      refine lv_bipush (v := (-10)) hx hb dX7_doing_74 (by decide) ?_
      refine lv_iload hx hb dX7_doing_76 (lv_at hl 0 rfl) ?_
      refine lv_isub hx hb dX7_doing_78 ?_
      refine lv_topi (fun x37 ex37 => ?_)
      have hP9 : va_P (dC, dI) vwCl (rW h0 r cI cJ cZ v0 a1 (nI tp) (nI bs) (fun j => nI (cl j)) a5 a6 a7 (fun j => nI (fc j)) a9 (fun j => nI (mb j)) a11 a12 a13 a14 a15 a16 a17 a18 a19 a20 (nI az) v22 v23 v24 v25 v26 (nI bb) (fun j => nI (ct j)) (nI us) a30 a31 a32 a33 a34 a35 a36 a37 (fun j => nI (o18 j)) (fun j => nI (o19 j)) (nI o17) v41 o23 o20 o21 o22) H := hP
      have hD9 : va_D A (rW h0 r cI cJ cZ v0 a1 (nI tp) (nI bs) (fun j => nI (cl j)) a5 a6 a7 (fun j => nI (fc j)) a9 (fun j => nI (mb j)) a11 a12 a13 a14 a15 a16 a17 a18 a19 a20 (nI az) v22 v23 v24 v25 v26 (nI bb) (fun j => nI (ct j)) (nI us) a30 a31 a32 a33 a34 a35 a36 a37 (fun j => nI (o18 j)) (fun j => nI (o19 j)) (nI o17) v41 o23 o20 o21 o22) := hD
      exact W.iret (v := x37) hx hb hr (fun t ht hW => ⟨⟨x37, (o17, o18, o19, o20, o21, o22, o23), rfl, ⟨hbo18, hbo19⟩, by rw [ht]; exact hP9, va_K.moved hW.alike hK, hD9⟩, hS.F ht⟩) hS.2.2 dX7_doing_79
  refine lv_aload_n hx hb dX7_doing_0 rfl (lv_at hl 0 rfl) ?_
  refine lv_iload_n hx hb dX7_doing_1 rfl (lv_at hl 1 rfl) ?_
  have hFc := z_freeW hD hS hA
  refine vp_callSi (W.runV (As := [.int xb]) (rest := []) ⟨hx, hb, hml, hown, hts⟩ (kX7_isBuild l dC dI h0 r cI cJ cZ v0 a1 tp bs cl a5 a6 a7 fc a9 mb a11 a12 a13 a14 a15 a16 a17 a18 a19 a20 az v22 v23 v24 v25 v26 bb ct us a30 a31 a32 a33 a34 a35 a36 a37 pil rwv rl v41 v42 v43 v44 v45 ⟨by omega, by omega, by omega, hcl, hfc, hmb, hct, hpil, hrwv⟩ xb s.heap.size) (cwV 1 hts zgX7_doing_X7_isBuild_248 rfl rfl rfl (by decide +kernel) ⟨(show 1 + 1 ≤ 5 by omega), (show 8 + (2 + 11) + 25 ≤ 130 by omega)⟩) (zVm (ci := 6) (q0 := 0) (q := (RX7, TX7, 46)) hK hP hD hL hS.2.1 hFc rfl rfl rfl) rfl rfl hl.1 rfl (lv_room (Nat.le_of_ble_eq_true rfl)) dX7_doing_2 ⟨(show 0 + 0 ≤ 0 by omega), (show 0 + 0 ≤ 0 by omega)⟩) (fun r38 hw => ?_)
  have hw : (r38 = 0 ∨ r38 = 1) ∧ (r38 = 1 → ∃ k, k < bs ∧ xb = nI k) := hw
  obtain ⟨w0r38, w1r38⟩ := hw
  refine lv_if_eq (tgt := 16) hx hb dX7_doing_5 (by decide) (fun cp5 => ?_) (fun cp5 => ?_)
  · refine lv_bipush (v := (-2)) hx hb dX7_doing_16 (by decide) ?_
    have hP9 : va_P (dC, dI) vwCl (rW h0 r cI cJ cZ v0 a1 (nI tp) (nI bs) (fun j => nI (cl j)) a5 a6 a7 (fun j => nI (fc j)) a9 (fun j => nI (mb j)) a11 a12 a13 a14 a15 a16 a17 a18 a19 a20 (nI az) v22 v23 v24 v25 v26 (nI bb) (fun j => nI (ct j)) (nI us) a30 a31 a32 a33 a34 a35 a36 a37 (fun j => nI (pil j)) (fun j => nI (rwv j)) (nI rl) v41 v42 v43 v44 v45) s.heap := hP
    have hD9 : va_D A (rW h0 r cI cJ cZ v0 a1 (nI tp) (nI bs) (fun j => nI (cl j)) a5 a6 a7 (fun j => nI (fc j)) a9 (fun j => nI (mb j)) a11 a12 a13 a14 a15 a16 a17 a18 a19 a20 (nI az) v22 v23 v24 v25 v26 (nI bb) (fun j => nI (ct j)) (nI us) a30 a31 a32 a33 a34 a35 a36 a37 (fun j => nI (pil j)) (fun j => nI (rwv j)) (nI rl) v41 v42 v43 v44 v45) := hD
    exact W.iret (v := (-2 : Int32)) hx hb hr (fun t ht hW => ⟨⟨(-2 : Int32), (rl, pil, rwv, v43, v44, v45, v42), rfl, ⟨hpil, hrwv⟩, by rw [ht]; exact hP9, va_K.moved hW.alike hK, hD9⟩, hS.F ht⟩) hS.2.2 dX7_doing_18
  · obtain ⟨k39, hBk39, rfl⟩ := w1r38 (w0r38.resolve_left cp5)
    refine lv_aload_n hx hb dX7_doing_8 rfl (lv_at hl 0 rfl) ?_
    refine lv_iload_n hx hb dX7_doing_9 rfl (lv_at hl 2 rfl) ?_
    have hFc := z_freeW hD hS hA
    refine vp_callSi (W.runV (As := [.int xu]) (rest := []) ⟨hx, hb, hml, hown, hts⟩ (kX7_isUse l dC dI h0 r cI cJ cZ v0 a1 tp bs cl a5 a6 a7 fc a9 mb a11 a12 a13 a14 a15 a16 a17 a18 a19 a20 az v22 v23 v24 v25 v26 bb ct us a30 a31 a32 a33 a34 a35 a36 a37 pil rwv rl v41 v42 v43 v44 v45 ⟨by omega, by omega, by omega, hcl, hfc, hmb, hct, hpil, hrwv⟩ xu s.heap.size) (cwV 1 hts zgX7_doing_X7_isUse_306 rfl rfl rfl (by decide +kernel) ⟨(show 1 + 1 ≤ 5 by omega), (show 8 + (2 + 11) + 25 ≤ 130 by omega)⟩) (zVm (ci := 6) (q0 := 0) (q := (RX7, TX7, 46)) hK hP hD hL hS.2.1 hFc rfl rfl rfl) rfl rfl hl.1 rfl (lv_room (Nat.le_of_ble_eq_true rfl)) dX7_doing_10 ⟨(show 0 + 0 ≤ 0 by omega), (show 0 + 0 ≤ 0 by omega)⟩) (fun r40 hw => ?_)
    have hw : (r40 = 0 ∨ r40 = 1) ∧ (r40 = 1 → ∃ k, k < us ∧ xu = nI k) := hw
    obtain ⟨w0r40, w1r40⟩ := hw
    refine lv_if_ne (tgt := 19) hx hb dX7_doing_13 (by decide) (fun cp13 => ?_) (fun cp13 => ?_)
    · obtain ⟨k41, hBk41, rfl⟩ := w1r40 (w0r40.resolve_left cp13)
      refine lv_aload_n hx hb dX7_doing_19 rfl (lv_at hl 0 rfl) ?_
      refine va_get (D := (dC, dI)) (ci := 6) (v := .ref (r 30)) (C := RX7) (T := TX7) (N := 46) hx hb hts hiX7 hown hK hP 0 rfl rfl 30 (by decide) (hts (.fieldLink RX7 73 "LinkModelsModel" "useKind" "[I") (by decide +kernel)) (fun _ h9 => h9) rfl dX7_doing_20 ?_
      refine lv_iload_n hx hb dX7_doing_23 rfl (lv_at hl 2 rfl) ?_
      refine va_iald hx hb hK hP 20 0 rfl rfl (vp_in_nI (show k41 < 40 by omega) (by decide)) dX7_doing_24 ?_
      refine lv_topi (fun x42 ex42 => ?_)
      obtain rfl : x42 = a30 k41 := by rw [ex42, nI_clamp (show k41 < 2 ^ 31 by omega)]
      refine lv_iconst (v := 4) hx hb dX7_doing_25 (by decide) ?_
      refine lv_icmp_eq (tgt := 43) hx hb dX7_doing_26 (by decide) (fun cp26 => ?_) (fun cp26 => ?_)
      · exact J43 k39 k41 _ _ ls  (by first | omega | exact Or.inl cp26 | exact Or.inr cp37) (by first | omega | exact Or.inl cp26 | exact Or.inr cp37) (by first | omega | exact Or.inl cp26 | exact Or.inr cp37) hP hD hS (lv_sub hl [0, 1, 2, 3] rfl)
      · refine lv_aload_n hx hb dX7_doing_29 rfl (lv_at hl 0 rfl) ?_
        refine va_get (D := (dC, dI)) (ci := 6) (v := .ref (r 30)) (C := RX7) (T := TX7) (N := 46) hx hb hts hiX7 hown hK hP 0 rfl rfl 30 (by decide) (hts (.fieldLink RX7 73 "LinkModelsModel" "useKind" "[I") (by decide +kernel)) (fun _ h9 => h9) rfl dX7_doing_30 ?_
        refine lv_iload_n hx hb dX7_doing_33 rfl (lv_at hl 2 rfl) ?_
        refine va_iald hx hb hK hP 20 0 rfl rfl (vp_in_nI (show k41 < 40 by omega) (by decide)) dX7_doing_34 ?_
        refine lv_topi (fun x43 ex43 => ?_)
        obtain rfl : x43 = a30 k41 := by rw [ex43, nI_clamp (show k41 < 2 ^ 31 by omega)]
        refine lv_bipush (v := 7) hx hb dX7_doing_35 (by decide) ?_
        refine lv_icmp_eq (tgt := 43) hx hb dX7_doing_37 (by decide) (fun cp37 => ?_) (fun cp37 => ?_)
        · exact J43 k39 k41 _ _ ls  (by first | omega | exact Or.inl cp26 | exact Or.inr cp37) (by first | omega | exact Or.inl cp26 | exact Or.inr cp37) (by first | omega | exact Or.inl cp26 | exact Or.inr cp37) hP hD hS (lv_sub hl [0, 1, 2, 3] rfl)
        · refine lv_bipush (v := (-4)) hx hb dX7_doing_40 (by decide) ?_
          have hP9 : va_P (dC, dI) vwCl (rW h0 r cI cJ cZ v0 a1 (nI tp) (nI bs) (fun j => nI (cl j)) a5 a6 a7 (fun j => nI (fc j)) a9 (fun j => nI (mb j)) a11 a12 a13 a14 a15 a16 a17 a18 a19 a20 (nI az) v22 v23 v24 v25 v26 (nI bb) (fun j => nI (ct j)) (nI us) a30 a31 a32 a33 a34 a35 a36 a37 (fun j => nI (pil j)) (fun j => nI (rwv j)) (nI rl) v41 v42 v43 v44 v45) s.heap := hP
          have hD9 : va_D A (rW h0 r cI cJ cZ v0 a1 (nI tp) (nI bs) (fun j => nI (cl j)) a5 a6 a7 (fun j => nI (fc j)) a9 (fun j => nI (mb j)) a11 a12 a13 a14 a15 a16 a17 a18 a19 a20 (nI az) v22 v23 v24 v25 v26 (nI bb) (fun j => nI (ct j)) (nI us) a30 a31 a32 a33 a34 a35 a36 a37 (fun j => nI (pil j)) (fun j => nI (rwv j)) (nI rl) v41 v42 v43 v44 v45) := hD
          exact W.iret (v := (-4 : Int32)) hx hb hr (fun t ht hW => ⟨⟨(-4 : Int32), (rl, pil, rwv, v43, v44, v45, v42), rfl, ⟨hpil, hrwv⟩, by rw [ht]; exact hP9, va_K.moved hW.alike hK, hD9⟩, hS.F ht⟩) hS.2.2 dX7_doing_42
    · refine lv_bipush (v := (-2)) hx hb dX7_doing_16 (by decide) ?_
      have hP9 : va_P (dC, dI) vwCl (rW h0 r cI cJ cZ v0 a1 (nI tp) (nI bs) (fun j => nI (cl j)) a5 a6 a7 (fun j => nI (fc j)) a9 (fun j => nI (mb j)) a11 a12 a13 a14 a15 a16 a17 a18 a19 a20 (nI az) v22 v23 v24 v25 v26 (nI bb) (fun j => nI (ct j)) (nI us) a30 a31 a32 a33 a34 a35 a36 a37 (fun j => nI (pil j)) (fun j => nI (rwv j)) (nI rl) v41 v42 v43 v44 v45) s.heap := hP
      have hD9 : va_D A (rW h0 r cI cJ cZ v0 a1 (nI tp) (nI bs) (fun j => nI (cl j)) a5 a6 a7 (fun j => nI (fc j)) a9 (fun j => nI (mb j)) a11 a12 a13 a14 a15 a16 a17 a18 a19 a20 (nI az) v22 v23 v24 v25 v26 (nI bb) (fun j => nI (ct j)) (nI us) a30 a31 a32 a33 a34 a35 a36 a37 (fun j => nI (pil j)) (fun j => nI (rwv j)) (nI rl) v41 v42 v43 v44 v45) := hD
      exact W.iret (v := (-2 : Int32)) hx hb hr (fun t ht hW => ⟨⟨(-2 : Int32), (rl, pil, rwv, v43, v44, v45, v42), rfl, ⟨hpil, hrwv⟩, by rw [ht]; exact hP9, va_K.moved hW.alike hK, hD9⟩, hS.F ht⟩) hS.2.2 dX7_doing_18
theorem dX7_done_0 : decode cX7_done 0 = .ok (.aload_n 0, 1) := by decide +kernel
theorem dX7_done_1 : decode cX7_done 1 = .ok (.iconst 0, 1) := by decide +kernel
theorem dX7_done_2 : decode cX7_done 2 = .ok (.putfield 1, 3) := by decide +kernel
theorem dX7_done_5 : decode cX7_done 5 = .ok (.aload_n 0, 1) := by decide +kernel
theorem dX7_done_6 : decode cX7_done 6 = .ok (.iload_n 1, 1) := by decide +kernel
theorem dX7_done_7 : decode cX7_done 7 = .ok (.iload_n 2, 1) := by decide +kernel
theorem dX7_done_8 : decode cX7_done 8 = .ok (.iload_n 3, 1) := by decide +kernel
theorem dX7_done_9 : decode cX7_done 9 = .ok (.invokevirtual 312, 3) := by decide +kernel
theorem dX7_done_12 : decode cX7_done 12 = .ok (.istore 4, 2) := by decide +kernel
theorem dX7_done_14 : decode cX7_done 14 = .ok (.iload 4, 2) := by decide +kernel
theorem dX7_done_16 : decode cX7_done 16 = .ok (.ifCond .ge 8, 3) := by decide +kernel
theorem dX7_done_19 : decode cX7_done 19 = .ok (.iload 4, 2) := by decide +kernel
theorem dX7_done_21 : decode cX7_done 21 = .ok (.goto 11, 3) := by decide +kernel
theorem dX7_done_24 : decode cX7_done 24 = .ok (.iload 4, 2) := by decide +kernel
theorem dX7_done_26 : decode cX7_done 26 = .ok (.bipush 12, 2) := by decide +kernel
theorem dX7_done_28 : decode cX7_done 28 = .ok (.idiv, 1) := by decide +kernel
theorem dX7_done_29 : decode cX7_done 29 = .ok (.bipush 16, 2) := by decide +kernel
theorem dX7_done_31 : decode cX7_done 31 = .ok (.irem, 1) := by decide +kernel
theorem dX7_done_32 : decode cX7_done 32 = .ok (.ireturn, 1) := by decide +kernel
def zwX7_done : List Cond := .code yX7_done cX7_done 5 (some .int) :: ([.fieldLink RX7 1 "LinkModelsModel" "thrown" "I", .methodLink RX7 312 yX7_doing, .instanceMethod yX7_doing, .selects RX7 yX7_doing yX7_doing, .initialized RX7, .code yX7_doing cX7_doing 9 (some .int), .fieldLink RX7 279 "LinkModelsModel" "bodies" "I", .fieldLink RX7 282 "LinkModelsModel" "bodied" "I", .fieldLink RX7 23 "LinkModelsModel" "sort" "[I", .fieldLink RX7 48 "LinkModelsModel" "marks" "[I", .fieldLink RX7 79 "LinkModelsModel" "owner" "[I", .fieldLink RX7 296 "LinkModelsModel" "linked" "I", .fieldLink RX7 73 "LinkModelsModel" "useKind" "[I", .methodLink RX7 292 yX7_findFaces, .instanceMethod yX7_findFaces, .selects RX7 yX7_findFaces yX7_findFaces, .code yX7_findFaces cX7_findFaces 8 none, .fieldLink RX7 266 "LinkModelsModel" "rowLong" "I", .fieldLink RX7 285 "LinkModelsModel" "firstOne" "I", .fieldLink RX7 100 "LinkModelsModel" "row" "[I", .methodLink RX7 288 yX7_methodIn, .instanceMethod yX7_methodIn, .selects RX7 yX7_methodIn yX7_methodIn, .code yX7_methodIn cX7_methodIn 6 (some .int), .fieldLink RX7 51 "LinkModelsModel" "isMethod" "[Z", .fieldLink RX7 44 "LinkModelsModel" "word" "[J", .fieldLink RX7 82 "LinkModelsModel" "useWord" "[J", .fieldLink RX7 35 "LinkModelsModel" "members" "[I", .fieldLink RX7 61 "LinkModelsModel" "many" "[I", .fieldLink RX7 85 "LinkModelsModel" "useMany" "[I", .fieldLink RX7 67 "LinkModelsModel" "second" "[I", .fieldLink RX7 91 "LinkModelsModel" "useSecond" "[I", .fieldLink RX7 64 "LinkModelsModel" "first" "[I", .fieldLink RX7 88 "LinkModelsModel" "useFirst" "[I", .methodLink RX7 256 yX7_isOf, .instanceMethod yX7_isOf, .selects RX7 yX7_isOf yX7_isOf, .code yX7_isOf cX7_isOf 4 (some .boolean), .fieldLink RX7 41 "LinkModelsModel" "ofAll" "[I", .methodLink RX7 272 yX7_faceRow, .instanceMethod yX7_faceRow, .selects RX7 yX7_faceRow yX7_faceRow, .code yX7_faceRow cX7_faceRow 8 none, .fieldLink RX7 97 "LinkModelsModel" "pile" "[I", .fieldLink RX7 32 "LinkModelsModel" "face" "[I", .fieldLink RX7 29 "LinkModelsModel" "faces" "[I", .methodLink RX7 201 yX7_place, .instanceMethod yX7_place, .selects RX7 yX7_place yX7_place, .code yX7_place cX7_place 4 (some .int), .fieldLink RX7 17 "LinkModelsModel" "classes" "[I", .fieldLink RX7 20 "LinkModelsModel" "className" "[I", .methodLink RX7 276 yX7_aboveOf, .instanceMethod yX7_aboveOf, .selects RX7 yX7_aboveOf yX7_aboveOf, .code yX7_aboveOf cX7_aboveOf 3 (some .int), .fieldLink RX7 26 "LinkModelsModel" "above" "[I", .methodLink RX7 309 yX7_links, .instanceMethod yX7_links, .selects RX7 yX7_links yX7_links, .code yX7_links cX7_links 9 (some .int), .fieldLink RX7 76 "LinkModelsModel" "caller" "[I", .methodLink RX7 251 yX7_errorOf, .instanceMethod yX7_errorOf, .selects RX7 yX7_errorOf yX7_errorOf, .code yX7_errorOf cX7_errorOf 4 (some .int), .fieldLink RX7 38 "LinkModelsModel" "error" "[I", .methodLink RX7 303 yX7_findMethod, .instanceMethod yX7_findMethod, .selects RX7 yX7_findMethod yX7_findMethod, .code yX7_findMethod cX7_findMethod 6 (some .int), .methodLink RX7 299 yX7_findField, .instanceMethod yX7_findField, .selects RX7 yX7_findField yX7_findField, .code yX7_findField cX7_findField 7 (some .int), .methodLink RX7 269 yX7_fieldIn, .instanceMethod yX7_fieldIn, .selects RX7 yX7_fieldIn yX7_fieldIn, .code yX7_fieldIn cX7_fieldIn 4 (some .int), .methodLink RX7 248 yX7_isBuild, .instanceMethod yX7_isBuild, .selects RX7 yX7_isBuild yX7_isBuild, .code yX7_isBuild cX7_isBuild 2 (some .boolean), .fieldLink RX7 232 "LinkModelsModel" "builds" "I", .methodLink RX7 105 yX7_in, .static yX7_in, .code yX7_in cX7_in 6 (some .boolean), .methodLink RX7 306 yX7_isUse, .instanceMethod yX7_isUse, .selects RX7 yX7_isUse yX7_isUse, .code yX7_isUse cX7_isUse 2 (some .boolean), .fieldLink RX7 263 "LinkModelsModel" "uses" "I"] ++ wsX70)
theorem zgX7_done_X7_doing_312 : GoodIn zwX7_done (wsV RX7 312 RX7 yX7_doing zwX7_doing) := goodIn_app (goodIn_r _ [2, 3, 4, 5] rfl (by decide +kernel)) (goodIn_ca (goodIn_r _ [6, 7, 8, 9, 10, 11, 12, 13, 14, 15, 16, 5, 17, 18, 19, 20, 21, 22, 23, 24, 25, 26, 27, 28, 29, 30, 31, 32, 33, 34, 35, 36, 37, 38, 39, 40, 41, 42, 43, 44, 45, 46, 47, 48, 49, 50, 51, 52, 53, 54, 55, 56, 57, 58, 59, 60, 61, 62, 63, 64, 65, 66, 67, 68, 69, 70, 71, 72, 73, 74, 75, 76, 77, 78, 79, 80, 81, 82, 83, 84, 85, 86, 87, 88, 89, 90, 91, 92] rfl (by decide +kernel)) (zgt zg7))
set_option maxHeartbeats 4000000 in
set_option maxRecDepth 100000 in
theorem kX7_done (l : Launch) (dC : Nat → ClassId) (dI : Nat → Nat → Nat) (h0 : Nat) (r : Nat → Nat) (cI : ClassId) (cJ : ClassId) (cZ : ClassId) (v0 : Int32) (a1 : Nat → Int32) (tp : Nat) (bs : Nat) (cl : Nat → Nat) (a5 : Nat → Int32) (a6 : Nat → Int32) (a7 : Nat → Int32) (fc : Nat → Nat) (a9 : Nat → Int32) (mb : Nat → Nat) (a11 : Nat → Int32) (a12 : Nat → Int32) (a13 : Nat → Int64) (a14 : Nat → Int32) (a15 : Nat → Int32) (a16 : Nat → Int32) (a17 : Nat → Int32) (a18 : Nat → Int32) (a19 : Nat → Int32) (a20 : Nat → Int32) (az : Nat) (v22 : Int32) (v23 : Int32) (v24 : Int64) (v25 : Int32) (v26 : Int32) (bb : Nat) (ct : Nat → Nat) (us : Nat) (a30 : Nat → Int32) (a31 : Nat → Int32) (a32 : Nat → Int32) (a33 : Nat → Int64) (a34 : Nat → Int32) (a35 : Nat → Int32) (a36 : Nat → Int32) (a37 : Nat → Int32) (pil : Nat → Nat) (rwv : Nat → Nat) (rl : Nat) (v41 : Int32) (v42 : Int32) (v43 : Int32) (v44 : Int32) (v45 : Int32) (hI : rWI tp bs cl fc mb az bb ct us pil rwv rl) (xb : Int32) (xu : Int32) (rc : Int32) (hp0 : ∀ bd, bd < bs → zOK cl a5 a7 fc a9 a11 bd) (sz : Nat) : Met l yX7_done zwX7_done ({ frames := 6, cells := 0, slots := 0, locals := 158 }) (zPm dC dI [.ref h0, .int xb, .int xu, .int rc] sz (rW h0 r cI cJ cZ v0 a1 (nI tp) (nI bs) (fun j => nI (cl j)) a5 a6 a7 (fun j => nI (fc j)) a9 (fun j => nI (mb j)) a11 a12 a13 a14 a15 a16 a17 a18 a19 a20 (nI az) v22 v23 v24 v25 v26 (nI bb) (fun j => nI (ct j)) (nI us) a30 a31 a32 a33 a34 a35 a36 a37 (fun j => nI (pil j)) (fun j => nI (rwv j)) (nI rl) v41 v42 v43 v44 v45) [(cI, .int), (cJ, .long), (cZ, .boolean)]) (va_Qi (fun (r : Int32) (u : Int32 × Nat × (Nat → Nat) × (Nat → Nat) × Int32 × Int32 × Int32 × Int32) => (∀ j, (u.2.2.1) j ≤ 15) ∧ (∀ j, (u.2.2.2.1) j ≤ 15)) (fun u t => zB dC dI (va_A (rW h0 r cI cJ cZ v0 a1 (nI tp) (nI bs) (fun j => nI (cl j)) a5 a6 a7 (fun j => nI (fc j)) a9 (fun j => nI (mb j)) a11 a12 a13 a14 a15 a16 a17 a18 a19 a20 (nI az) v22 v23 v24 v25 v26 (nI bb) (fun j => nI (ct j)) (nI us) a30 a31 a32 a33 a34 a35 a36 a37 (fun j => nI (pil j)) (fun j => nI (rwv j)) (nI rl) v41 v42 v43 v44 v45) sz) (rW h0 r cI cJ cZ (u.1) a1 (nI tp) (nI bs) (fun j => nI (cl j)) a5 a6 a7 (fun j => nI (fc j)) a9 (fun j => nI (mb j)) a11 a12 a13 a14 a15 a16 a17 a18 a19 a20 (nI az) v22 v23 v24 v25 v26 (nI bb) (fun j => nI (ct j)) (nI us) a30 a31 a32 a33 a34 a35 a36 a37 (fun j => nI ((u.2.2.1) j)) (fun j => nI ((u.2.2.2.1) j)) (nI (u.2.1)) v41 (u.2.2.2.2.2.2.2) (u.2.2.2.2.1) (u.2.2.2.2.2.1) (u.2.2.2.2.2.2.1)) [(cI, .int), (cJ, .long), (cZ, .boolean)] t) (va_A (rW h0 r cI cJ cZ v0 a1 (nI tp) (nI bs) (fun j => nI (cl j)) a5 a6 a7 (fun j => nI (fc j)) a9 (fun j => nI (mb j)) a11 a12 a13 a14 a15 a16 a17 a18 a19 a20 (nI az) v22 v23 v24 v25 v26 (nI bb) (fun j => nI (ct j)) (nI us) a30 a31 a32 a33 a34 a35 a36 a37 (fun j => nI (pil j)) (fun j => nI (rwv j)) (nI rl) v41 v42 v43 v44 v45) sz)) 0 0 (va_A (rW h0 r cI cJ cZ v0 a1 (nI tp) (nI bs) (fun j => nI (cl j)) a5 a6 a7 (fun j => nI (fc j)) a9 (fun j => nI (mb j)) a11 a12 a13 a14 a15 a16 a17 a18 a19 a20 (nI az) v22 v23 v24 v25 v26 (nI bb) (fun j => nI (ct j)) (nI us) a30 a31 a32 a33 a34 a35 a36 a37 (fun j => nI (pil j)) (fun j => nI (rwv j)) (nI rl) v41 v42 v43 v44 v45) sz) := by
  refine Met.ofW (cc := cX7_done) (maxL := 5) (ret := (some .int)) (by decide) rfl ?_
  intro p e s m args below meth c s₁ B hml hv
  obtain ⟨rfl, hsz, hP, hK, hD0, hL0⟩ := hv
  have hx := B.exec
  have hb := B.bytes
  have hr := B.returns
  have hts := atoms_spec (ws := zwX7_done) B.pre
  have hown : s.vm.findClass RX7 = some m.cls := findClass_of_methodNamed B.named
  have hiX7 : ∀ w ∈ wsX70, w ∈ zwX7_done := (fun _ h => List.mem_cons_of_mem _ (List.mem_append_right _ h))
  obtain ⟨htp, hbs, hus, hcl, hfc, hmb, hct, hpil, hrwv⟩ := hI
  subst hsz
  have hD := hD0.self (sz := s.heap.size)
  generalize hAe : va_A (rW h0 r cI cJ cZ v0 a1 (nI tp) (nI bs) (fun j => nI (cl j)) a5 a6 a7 (fun j => nI (fc j)) a9 (fun j => nI (mb j)) a11 a12 a13 a14 a15 a16 a17 a18 a19 a20 (nI az) v22 v23 v24 v25 v26 (nI bb) (fun j => nI (ct j)) (nI us) a30 a31 a32 a33 a34 a35 a36 a37 (fun j => nI (pil j)) (fun j => nI (rwv j)) (nI rl) v41 v42 v43 v44 v45) s.heap.size = A at hD hL0 ⊢
  have hA : ∀ q : Nat, s.heap.size ≤ q → A q := fun q h => by rw [← hAe]; exact Or.inr h
  have hS : va_S A s.heap s.heap [] := va_S.rf
  have hL := hL0
  have hl := lv_entry ([.ref h0, .int xb, .int xu, .int rc]) (n := 5) (Nat.le_of_ble_eq_true rfl)
  rw [lg_entry_eq]
  generalize (lg_sl ([.ref h0, .int xb, .int xu, .int rc]) ++ List.replicate (5 - (lg_sl ([.ref h0, .int xb, .int xu, .int rc])).length) Slot.unset).toArray = ls at hl ⊢
  have hl : lv_has ls 5 [(0, .ref h0), (1, .int xb), (2, .int xu), (3, .int rc)] := hl
  refine lv_aload_n hx hb dX7_done_0 rfl (lv_at hl 0 rfl) ?_
  refine lv_iconst (v := 0) hx hb dX7_done_1 (by decide) ?_
  refine va_put (D := (dC, dI)) (ci := 6) (v := .int 0) (ty := (.int)) (C := RX7) (T := TX7) (N := 46) hx hb hts hiX7 tyX7 tyX7_ok nmX7 hown hK hP hD hS 0 rfl rfl 0 (by decide) (hts (.fieldLink RX7 1 "LinkModelsModel" "thrown" "I") (by decide +kernel)) (fun _ h9 => h9) rfl (by decide +kernel) rfl rfl (Nat.le_of_ble_eq_true rfl) dX7_done_2 (fun H locs hP hD hS => ?_)
  have hP : va_P (dC, dI) vwCl (rW h0 r cI cJ cZ 0 a1 (nI tp) (nI bs) (fun j => nI (cl j)) a5 a6 a7 (fun j => nI (fc j)) a9 (fun j => nI (mb j)) a11 a12 a13 a14 a15 a16 a17 a18 a19 a20 (nI az) v22 v23 v24 v25 v26 (nI bb) (fun j => nI (ct j)) (nI us) a30 a31 a32 a33 a34 a35 a36 a37 (fun j => nI (pil j)) (fun j => nI (rwv j)) (nI rl) v41 v42 v43 v44 v45) H := hP
  have hD : va_D A (rW h0 r cI cJ cZ 0 a1 (nI tp) (nI bs) (fun j => nI (cl j)) a5 a6 a7 (fun j => nI (fc j)) a9 (fun j => nI (mb j)) a11 a12 a13 a14 a15 a16 a17 a18 a19 a20 (nI az) v22 v23 v24 v25 v26 (nI bb) (fun j => nI (ct j)) (nI us) a30 a31 a32 a33 a34 a35 a36 a37 (fun j => nI (pil j)) (fun j => nI (rwv j)) (nI rl) v41 v42 v43 v44 v45) := hD
  refine lv_aload_n hx hb dX7_done_5 rfl (lv_at hl 0 rfl) ?_
  refine lv_iload_n hx hb dX7_done_6 rfl (lv_at hl 1 rfl) ?_
  refine lv_iload_n hx hb dX7_done_7 rfl (lv_at hl 2 rfl) ?_
  refine lv_iload_n hx hb dX7_done_8 rfl (lv_at hl 3 rfl) ?_
  have hFc := z_freeW hD hS hA
  refine va_calli (va_runV (As := [.int xb, .int xu, .int rc]) (rest := []) ⟨hx, hb, hml, hown, hts⟩ (kX7_doing l dC dI h0 r cI cJ cZ 0 a1 tp bs cl a5 a6 a7 fc a9 mb a11 a12 a13 a14 a15 a16 a17 a18 a19 a20 az v22 v23 v24 v25 v26 bb ct us a30 a31 a32 a33 a34 a35 a36 a37 pil rwv rl v41 v42 v43 v44 v45 ⟨by omega, by omega, by omega, hcl, hfc, hmb, hct, hpil, hrwv⟩ xb xu rc (by exact hp0) H.size) (cwV 3 hts zgX7_done_X7_doing_312 rfl rfl rfl (by decide +kernel) ⟨(show 5 + 1 ≤ 6 by omega), (show 8 + (9 + 11) + 130 ≤ 158 by omega)⟩) (zVm (ci := 6) (q0 := 0) (q := (RX7, TX7, 46)) hK hP hD hL hS.2.1 hFc rfl rfl rfl) rfl rfl hl.1 rfl (lv_room (Nat.le_of_ble_eq_true rfl)) dX7_done_9 ⟨(show 0 + 0 ≤ 0 by omega), (show 0 + 0 ≤ 0 by omega)⟩) hS (fun q _ h => hFc q h) hFc (fun r1 u9 t H1 locs ht hvm hw hB hz1 hk1 hS => ?_)
  obtain ⟨o2, o3, o4, o5, o6, o7, o8⟩ := u9
  obtain ⟨hP, hK9, hD⟩ := hB
  rw [ht] at hP
  have hD := hD.weaken (fun k q _ h => hFc q.1 h)
  generalize H1 = H at hP hS
  have hP : va_P (dC, dI) vwCl (rW h0 r cI cJ cZ 0 a1 (nI tp) (nI bs) (fun j => nI (cl j)) a5 a6 a7 (fun j => nI (fc j)) a9 (fun j => nI (mb j)) a11 a12 a13 a14 a15 a16 a17 a18 a19 a20 (nI az) v22 v23 v24 v25 v26 (nI bb) (fun j => nI (ct j)) (nI us) a30 a31 a32 a33 a34 a35 a36 a37 (fun j => nI (o3 j)) (fun j => nI (o4 j)) (nI o2) v41 o8 o5 o6 o7) H := hP
  have hD : va_D A (rW h0 r cI cJ cZ 0 a1 (nI tp) (nI bs) (fun j => nI (cl j)) a5 a6 a7 (fun j => nI (fc j)) a9 (fun j => nI (mb j)) a11 a12 a13 a14 a15 a16 a17 a18 a19 a20 (nI az) v22 v23 v24 v25 v26 (nI bb) (fun j => nI (ct j)) (nI us) a30 a31 a32 a33 a34 a35 a36 a37 (fun j => nI (o3 j)) (fun j => nI (o4 j)) (nI o2) v41 o8 o5 o6 o7) := hD
  have hw : (∀ j, o3 j ≤ 15) ∧ (∀ j, o4 j ≤ 15) := hw
  obtain ⟨hbo3, hbo4⟩ := hw
  refine lv_istore (lv' := [(4, .int r1), (0, .ref h0), (1, .int xb), (2, .int xu), (3, .int rc)]) hx hb dX7_done_12 hl (by decide) rfl (fun ls hl => ?_)
  refine lv_iload hx hb dX7_done_14 (lv_at hl 0 rfl) ?_
  refine lv_if_ge (tgt := 24) hx hb dX7_done_16 (by decide) (fun cp16 => ?_) (fun cp16 => ?_)
  · refine lv_iload hx hb dX7_done_24 (lv_at hl 0 rfl) ?_
    refine lv_bipush (v := 12) hx hb dX7_done_26 (by decide) ?_
    refine lv_idiv hx hb dX7_done_28 (by decide) ?_
    refine lv_topi (fun x10 ex10 => ?_)
    refine lv_bipush (v := 16) hx hb dX7_done_29 (by decide) ?_
    refine lv_irem hx hb dX7_done_31 (by decide) ?_
    refine lv_topi (fun x11 ex11 => ?_)
    have hP9 : va_P (dC, dI) vwCl (rW h0 r cI cJ cZ 0 a1 (nI tp) (nI bs) (fun j => nI (cl j)) a5 a6 a7 (fun j => nI (fc j)) a9 (fun j => nI (mb j)) a11 a12 a13 a14 a15 a16 a17 a18 a19 a20 (nI az) v22 v23 v24 v25 v26 (nI bb) (fun j => nI (ct j)) (nI us) a30 a31 a32 a33 a34 a35 a36 a37 (fun j => nI (o3 j)) (fun j => nI (o4 j)) (nI o2) v41 o8 o5 o6 o7) H := hP
    have hD9 : va_D A (rW h0 r cI cJ cZ 0 a1 (nI tp) (nI bs) (fun j => nI (cl j)) a5 a6 a7 (fun j => nI (fc j)) a9 (fun j => nI (mb j)) a11 a12 a13 a14 a15 a16 a17 a18 a19 a20 (nI az) v22 v23 v24 v25 v26 (nI bb) (fun j => nI (ct j)) (nI us) a30 a31 a32 a33 a34 a35 a36 a37 (fun j => nI (o3 j)) (fun j => nI (o4 j)) (nI o2) v41 o8 o5 o6 o7) := hD
    exact W.iret (v := x11) hx hb hr (fun t ht hW => ⟨⟨x11, (0, o2, o3, o4, o5, o6, o7, o8), rfl, ⟨hbo3, hbo4⟩, by rw [ht]; exact hP9, va_K.moved hW.alike hK, hD9⟩, hS.F ht⟩) hS.2.2 dX7_done_32
  · refine lv_iload hx hb dX7_done_19 (lv_at hl 0 rfl) ?_
    refine lv_goto (tgt := 32) hx hb dX7_done_21 (by decide) ?_
    have hP9 : va_P (dC, dI) vwCl (rW h0 r cI cJ cZ 0 a1 (nI tp) (nI bs) (fun j => nI (cl j)) a5 a6 a7 (fun j => nI (fc j)) a9 (fun j => nI (mb j)) a11 a12 a13 a14 a15 a16 a17 a18 a19 a20 (nI az) v22 v23 v24 v25 v26 (nI bb) (fun j => nI (ct j)) (nI us) a30 a31 a32 a33 a34 a35 a36 a37 (fun j => nI (o3 j)) (fun j => nI (o4 j)) (nI o2) v41 o8 o5 o6 o7) H := hP
    have hD9 : va_D A (rW h0 r cI cJ cZ 0 a1 (nI tp) (nI bs) (fun j => nI (cl j)) a5 a6 a7 (fun j => nI (fc j)) a9 (fun j => nI (mb j)) a11 a12 a13 a14 a15 a16 a17 a18 a19 a20 (nI az) v22 v23 v24 v25 v26 (nI bb) (fun j => nI (ct j)) (nI us) a30 a31 a32 a33 a34 a35 a36 a37 (fun j => nI (o3 j)) (fun j => nI (o4 j)) (nI o2) v41 o8 o5 o6 o7) := hD
    exact W.iret (v := r1) hx hb hr (fun t ht hW => ⟨⟨r1, (0, o2, o3, o4, o5, o6, o7, o8), rfl, ⟨hbo3, hbo4⟩, by rw [ht]; exact hP9, va_K.moved hW.alike hK, hD9⟩, hS.F ht⟩) hS.2.2 dX7_done_32
theorem dX7_doneMember_0 : decode cX7_doneMember 0 = .ok (.aload_n 0, 1) := by decide +kernel
theorem dX7_doneMember_1 : decode cX7_doneMember 1 = .ok (.iconst 0, 1) := by decide +kernel
theorem dX7_doneMember_2 : decode cX7_doneMember 2 = .ok (.putfield 1, 3) := by decide +kernel
theorem dX7_doneMember_5 : decode cX7_doneMember 5 = .ok (.aload_n 0, 1) := by decide +kernel
theorem dX7_doneMember_6 : decode cX7_doneMember 6 = .ok (.iload_n 1, 1) := by decide +kernel
theorem dX7_doneMember_7 : decode cX7_doneMember 7 = .ok (.iload_n 2, 1) := by decide +kernel
theorem dX7_doneMember_8 : decode cX7_doneMember 8 = .ok (.iload_n 3, 1) := by decide +kernel
theorem dX7_doneMember_9 : decode cX7_doneMember 9 = .ok (.invokevirtual 312, 3) := by decide +kernel
theorem dX7_doneMember_12 : decode cX7_doneMember 12 = .ok (.istore 4, 2) := by decide +kernel
theorem dX7_doneMember_14 : decode cX7_doneMember 14 = .ok (.iload 4, 2) := by decide +kernel
theorem dX7_doneMember_16 : decode cX7_doneMember 16 = .ok (.ifCond .ge 8, 3) := by decide +kernel
theorem dX7_doneMember_19 : decode cX7_doneMember 19 = .ok (.iload 4, 2) := by decide +kernel
theorem dX7_doneMember_21 : decode cX7_doneMember 21 = .ok (.goto 8, 3) := by decide +kernel
theorem dX7_doneMember_24 : decode cX7_doneMember 24 = .ok (.iload 4, 2) := by decide +kernel
theorem dX7_doneMember_26 : decode cX7_doneMember 26 = .ok (.bipush 12, 2) := by decide +kernel
theorem dX7_doneMember_28 : decode cX7_doneMember 28 = .ok (.irem, 1) := by decide +kernel
theorem dX7_doneMember_29 : decode cX7_doneMember 29 = .ok (.ireturn, 1) := by decide +kernel
def zwX7_doneMember : List Cond := .code yX7_doneMember cX7_doneMember 5 (some .int) :: ([.fieldLink RX7 1 "LinkModelsModel" "thrown" "I", .methodLink RX7 312 yX7_doing, .instanceMethod yX7_doing, .selects RX7 yX7_doing yX7_doing, .initialized RX7, .code yX7_doing cX7_doing 9 (some .int), .fieldLink RX7 279 "LinkModelsModel" "bodies" "I", .fieldLink RX7 282 "LinkModelsModel" "bodied" "I", .fieldLink RX7 23 "LinkModelsModel" "sort" "[I", .fieldLink RX7 48 "LinkModelsModel" "marks" "[I", .fieldLink RX7 79 "LinkModelsModel" "owner" "[I", .fieldLink RX7 296 "LinkModelsModel" "linked" "I", .fieldLink RX7 73 "LinkModelsModel" "useKind" "[I", .methodLink RX7 292 yX7_findFaces, .instanceMethod yX7_findFaces, .selects RX7 yX7_findFaces yX7_findFaces, .code yX7_findFaces cX7_findFaces 8 none, .fieldLink RX7 266 "LinkModelsModel" "rowLong" "I", .fieldLink RX7 285 "LinkModelsModel" "firstOne" "I", .fieldLink RX7 100 "LinkModelsModel" "row" "[I", .methodLink RX7 288 yX7_methodIn, .instanceMethod yX7_methodIn, .selects RX7 yX7_methodIn yX7_methodIn, .code yX7_methodIn cX7_methodIn 6 (some .int), .fieldLink RX7 51 "LinkModelsModel" "isMethod" "[Z", .fieldLink RX7 44 "LinkModelsModel" "word" "[J", .fieldLink RX7 82 "LinkModelsModel" "useWord" "[J", .fieldLink RX7 35 "LinkModelsModel" "members" "[I", .fieldLink RX7 61 "LinkModelsModel" "many" "[I", .fieldLink RX7 85 "LinkModelsModel" "useMany" "[I", .fieldLink RX7 67 "LinkModelsModel" "second" "[I", .fieldLink RX7 91 "LinkModelsModel" "useSecond" "[I", .fieldLink RX7 64 "LinkModelsModel" "first" "[I", .fieldLink RX7 88 "LinkModelsModel" "useFirst" "[I", .methodLink RX7 256 yX7_isOf, .instanceMethod yX7_isOf, .selects RX7 yX7_isOf yX7_isOf, .code yX7_isOf cX7_isOf 4 (some .boolean), .fieldLink RX7 41 "LinkModelsModel" "ofAll" "[I", .methodLink RX7 272 yX7_faceRow, .instanceMethod yX7_faceRow, .selects RX7 yX7_faceRow yX7_faceRow, .code yX7_faceRow cX7_faceRow 8 none, .fieldLink RX7 97 "LinkModelsModel" "pile" "[I", .fieldLink RX7 32 "LinkModelsModel" "face" "[I", .fieldLink RX7 29 "LinkModelsModel" "faces" "[I", .methodLink RX7 201 yX7_place, .instanceMethod yX7_place, .selects RX7 yX7_place yX7_place, .code yX7_place cX7_place 4 (some .int), .fieldLink RX7 17 "LinkModelsModel" "classes" "[I", .fieldLink RX7 20 "LinkModelsModel" "className" "[I", .methodLink RX7 276 yX7_aboveOf, .instanceMethod yX7_aboveOf, .selects RX7 yX7_aboveOf yX7_aboveOf, .code yX7_aboveOf cX7_aboveOf 3 (some .int), .fieldLink RX7 26 "LinkModelsModel" "above" "[I", .methodLink RX7 309 yX7_links, .instanceMethod yX7_links, .selects RX7 yX7_links yX7_links, .code yX7_links cX7_links 9 (some .int), .fieldLink RX7 76 "LinkModelsModel" "caller" "[I", .methodLink RX7 251 yX7_errorOf, .instanceMethod yX7_errorOf, .selects RX7 yX7_errorOf yX7_errorOf, .code yX7_errorOf cX7_errorOf 4 (some .int), .fieldLink RX7 38 "LinkModelsModel" "error" "[I", .methodLink RX7 303 yX7_findMethod, .instanceMethod yX7_findMethod, .selects RX7 yX7_findMethod yX7_findMethod, .code yX7_findMethod cX7_findMethod 6 (some .int), .methodLink RX7 299 yX7_findField, .instanceMethod yX7_findField, .selects RX7 yX7_findField yX7_findField, .code yX7_findField cX7_findField 7 (some .int), .methodLink RX7 269 yX7_fieldIn, .instanceMethod yX7_fieldIn, .selects RX7 yX7_fieldIn yX7_fieldIn, .code yX7_fieldIn cX7_fieldIn 4 (some .int), .methodLink RX7 248 yX7_isBuild, .instanceMethod yX7_isBuild, .selects RX7 yX7_isBuild yX7_isBuild, .code yX7_isBuild cX7_isBuild 2 (some .boolean), .fieldLink RX7 232 "LinkModelsModel" "builds" "I", .methodLink RX7 105 yX7_in, .static yX7_in, .code yX7_in cX7_in 6 (some .boolean), .methodLink RX7 306 yX7_isUse, .instanceMethod yX7_isUse, .selects RX7 yX7_isUse yX7_isUse, .code yX7_isUse cX7_isUse 2 (some .boolean), .fieldLink RX7 263 "LinkModelsModel" "uses" "I"] ++ wsX70)
theorem zgX7_doneMember_X7_doing_312 : GoodIn zwX7_doneMember (wsV RX7 312 RX7 yX7_doing zwX7_doing) := goodIn_app (goodIn_r _ [2, 3, 4, 5] rfl (by decide +kernel)) (goodIn_ca (goodIn_r _ [6, 7, 8, 9, 10, 11, 12, 13, 14, 15, 16, 5, 17, 18, 19, 20, 21, 22, 23, 24, 25, 26, 27, 28, 29, 30, 31, 32, 33, 34, 35, 36, 37, 38, 39, 40, 41, 42, 43, 44, 45, 46, 47, 48, 49, 50, 51, 52, 53, 54, 55, 56, 57, 58, 59, 60, 61, 62, 63, 64, 65, 66, 67, 68, 69, 70, 71, 72, 73, 74, 75, 76, 77, 78, 79, 80, 81, 82, 83, 84, 85, 86, 87, 88, 89, 90, 91, 92] rfl (by decide +kernel)) (zgt zg7))
set_option maxHeartbeats 4000000 in
set_option maxRecDepth 100000 in
theorem kX7_doneMember (l : Launch) (dC : Nat → ClassId) (dI : Nat → Nat → Nat) (h0 : Nat) (r : Nat → Nat) (cI : ClassId) (cJ : ClassId) (cZ : ClassId) (v0 : Int32) (a1 : Nat → Int32) (tp : Nat) (bs : Nat) (cl : Nat → Nat) (a5 : Nat → Int32) (a6 : Nat → Int32) (a7 : Nat → Int32) (fc : Nat → Nat) (a9 : Nat → Int32) (mb : Nat → Nat) (a11 : Nat → Int32) (a12 : Nat → Int32) (a13 : Nat → Int64) (a14 : Nat → Int32) (a15 : Nat → Int32) (a16 : Nat → Int32) (a17 : Nat → Int32) (a18 : Nat → Int32) (a19 : Nat → Int32) (a20 : Nat → Int32) (az : Nat) (v22 : Int32) (v23 : Int32) (v24 : Int64) (v25 : Int32) (v26 : Int32) (bb : Nat) (ct : Nat → Nat) (us : Nat) (a30 : Nat → Int32) (a31 : Nat → Int32) (a32 : Nat → Int32) (a33 : Nat → Int64) (a34 : Nat → Int32) (a35 : Nat → Int32) (a36 : Nat → Int32) (a37 : Nat → Int32) (pil : Nat → Nat) (rwv : Nat → Nat) (rl : Nat) (v41 : Int32) (v42 : Int32) (v43 : Int32) (v44 : Int32) (v45 : Int32) (hI : rWI tp bs cl fc mb az bb ct us pil rwv rl) (xb : Int32) (xu : Int32) (rc : Int32) (hp0 : ∀ bd, bd < bs → zOK cl a5 a7 fc a9 a11 bd) (sz : Nat) : Met l yX7_doneMember zwX7_doneMember ({ frames := 6, cells := 0, slots := 0, locals := 158 }) (zPm dC dI [.ref h0, .int xb, .int xu, .int rc] sz (rW h0 r cI cJ cZ v0 a1 (nI tp) (nI bs) (fun j => nI (cl j)) a5 a6 a7 (fun j => nI (fc j)) a9 (fun j => nI (mb j)) a11 a12 a13 a14 a15 a16 a17 a18 a19 a20 (nI az) v22 v23 v24 v25 v26 (nI bb) (fun j => nI (ct j)) (nI us) a30 a31 a32 a33 a34 a35 a36 a37 (fun j => nI (pil j)) (fun j => nI (rwv j)) (nI rl) v41 v42 v43 v44 v45) [(cI, .int), (cJ, .long), (cZ, .boolean)]) (va_Qi (fun (r : Int32) (u : Int32 × Nat × (Nat → Nat) × (Nat → Nat) × Int32 × Int32 × Int32 × Int32) => (∀ j, (u.2.2.1) j ≤ 15) ∧ (∀ j, (u.2.2.2.1) j ≤ 15)) (fun u t => zB dC dI (va_A (rW h0 r cI cJ cZ v0 a1 (nI tp) (nI bs) (fun j => nI (cl j)) a5 a6 a7 (fun j => nI (fc j)) a9 (fun j => nI (mb j)) a11 a12 a13 a14 a15 a16 a17 a18 a19 a20 (nI az) v22 v23 v24 v25 v26 (nI bb) (fun j => nI (ct j)) (nI us) a30 a31 a32 a33 a34 a35 a36 a37 (fun j => nI (pil j)) (fun j => nI (rwv j)) (nI rl) v41 v42 v43 v44 v45) sz) (rW h0 r cI cJ cZ (u.1) a1 (nI tp) (nI bs) (fun j => nI (cl j)) a5 a6 a7 (fun j => nI (fc j)) a9 (fun j => nI (mb j)) a11 a12 a13 a14 a15 a16 a17 a18 a19 a20 (nI az) v22 v23 v24 v25 v26 (nI bb) (fun j => nI (ct j)) (nI us) a30 a31 a32 a33 a34 a35 a36 a37 (fun j => nI ((u.2.2.1) j)) (fun j => nI ((u.2.2.2.1) j)) (nI (u.2.1)) v41 (u.2.2.2.2.2.2.2) (u.2.2.2.2.1) (u.2.2.2.2.2.1) (u.2.2.2.2.2.2.1)) [(cI, .int), (cJ, .long), (cZ, .boolean)] t) (va_A (rW h0 r cI cJ cZ v0 a1 (nI tp) (nI bs) (fun j => nI (cl j)) a5 a6 a7 (fun j => nI (fc j)) a9 (fun j => nI (mb j)) a11 a12 a13 a14 a15 a16 a17 a18 a19 a20 (nI az) v22 v23 v24 v25 v26 (nI bb) (fun j => nI (ct j)) (nI us) a30 a31 a32 a33 a34 a35 a36 a37 (fun j => nI (pil j)) (fun j => nI (rwv j)) (nI rl) v41 v42 v43 v44 v45) sz)) 0 0 (va_A (rW h0 r cI cJ cZ v0 a1 (nI tp) (nI bs) (fun j => nI (cl j)) a5 a6 a7 (fun j => nI (fc j)) a9 (fun j => nI (mb j)) a11 a12 a13 a14 a15 a16 a17 a18 a19 a20 (nI az) v22 v23 v24 v25 v26 (nI bb) (fun j => nI (ct j)) (nI us) a30 a31 a32 a33 a34 a35 a36 a37 (fun j => nI (pil j)) (fun j => nI (rwv j)) (nI rl) v41 v42 v43 v44 v45) sz) := by
  refine Met.ofW (cc := cX7_doneMember) (maxL := 5) (ret := (some .int)) (by decide) rfl ?_
  intro p e s m args below meth c s₁ B hml hv
  obtain ⟨rfl, hsz, hP, hK, hD0, hL0⟩ := hv
  have hx := B.exec
  have hb := B.bytes
  have hr := B.returns
  have hts := atoms_spec (ws := zwX7_doneMember) B.pre
  have hown : s.vm.findClass RX7 = some m.cls := findClass_of_methodNamed B.named
  have hiX7 : ∀ w ∈ wsX70, w ∈ zwX7_doneMember := (fun _ h => List.mem_cons_of_mem _ (List.mem_append_right _ h))
  obtain ⟨htp, hbs, hus, hcl, hfc, hmb, hct, hpil, hrwv⟩ := hI
  subst hsz
  have hD := hD0.self (sz := s.heap.size)
  generalize hAe : va_A (rW h0 r cI cJ cZ v0 a1 (nI tp) (nI bs) (fun j => nI (cl j)) a5 a6 a7 (fun j => nI (fc j)) a9 (fun j => nI (mb j)) a11 a12 a13 a14 a15 a16 a17 a18 a19 a20 (nI az) v22 v23 v24 v25 v26 (nI bb) (fun j => nI (ct j)) (nI us) a30 a31 a32 a33 a34 a35 a36 a37 (fun j => nI (pil j)) (fun j => nI (rwv j)) (nI rl) v41 v42 v43 v44 v45) s.heap.size = A at hD hL0 ⊢
  have hA : ∀ q : Nat, s.heap.size ≤ q → A q := fun q h => by rw [← hAe]; exact Or.inr h
  have hS : va_S A s.heap s.heap [] := va_S.rf
  have hL := hL0
  have hl := lv_entry ([.ref h0, .int xb, .int xu, .int rc]) (n := 5) (Nat.le_of_ble_eq_true rfl)
  rw [lg_entry_eq]
  generalize (lg_sl ([.ref h0, .int xb, .int xu, .int rc]) ++ List.replicate (5 - (lg_sl ([.ref h0, .int xb, .int xu, .int rc])).length) Slot.unset).toArray = ls at hl ⊢
  have hl : lv_has ls 5 [(0, .ref h0), (1, .int xb), (2, .int xu), (3, .int rc)] := hl
  refine lv_aload_n hx hb dX7_doneMember_0 rfl (lv_at hl 0 rfl) ?_
  refine lv_iconst (v := 0) hx hb dX7_doneMember_1 (by decide) ?_
  refine va_put (D := (dC, dI)) (ci := 6) (v := .int 0) (ty := (.int)) (C := RX7) (T := TX7) (N := 46) hx hb hts hiX7 tyX7 tyX7_ok nmX7 hown hK hP hD hS 0 rfl rfl 0 (by decide) (hts (.fieldLink RX7 1 "LinkModelsModel" "thrown" "I") (by decide +kernel)) (fun _ h9 => h9) rfl (by decide +kernel) rfl rfl (Nat.le_of_ble_eq_true rfl) dX7_doneMember_2 (fun H locs hP hD hS => ?_)
  have hP : va_P (dC, dI) vwCl (rW h0 r cI cJ cZ 0 a1 (nI tp) (nI bs) (fun j => nI (cl j)) a5 a6 a7 (fun j => nI (fc j)) a9 (fun j => nI (mb j)) a11 a12 a13 a14 a15 a16 a17 a18 a19 a20 (nI az) v22 v23 v24 v25 v26 (nI bb) (fun j => nI (ct j)) (nI us) a30 a31 a32 a33 a34 a35 a36 a37 (fun j => nI (pil j)) (fun j => nI (rwv j)) (nI rl) v41 v42 v43 v44 v45) H := hP
  have hD : va_D A (rW h0 r cI cJ cZ 0 a1 (nI tp) (nI bs) (fun j => nI (cl j)) a5 a6 a7 (fun j => nI (fc j)) a9 (fun j => nI (mb j)) a11 a12 a13 a14 a15 a16 a17 a18 a19 a20 (nI az) v22 v23 v24 v25 v26 (nI bb) (fun j => nI (ct j)) (nI us) a30 a31 a32 a33 a34 a35 a36 a37 (fun j => nI (pil j)) (fun j => nI (rwv j)) (nI rl) v41 v42 v43 v44 v45) := hD
  refine lv_aload_n hx hb dX7_doneMember_5 rfl (lv_at hl 0 rfl) ?_
  refine lv_iload_n hx hb dX7_doneMember_6 rfl (lv_at hl 1 rfl) ?_
  refine lv_iload_n hx hb dX7_doneMember_7 rfl (lv_at hl 2 rfl) ?_
  refine lv_iload_n hx hb dX7_doneMember_8 rfl (lv_at hl 3 rfl) ?_
  have hFc := z_freeW hD hS hA
  refine va_calli (va_runV (As := [.int xb, .int xu, .int rc]) (rest := []) ⟨hx, hb, hml, hown, hts⟩ (kX7_doing l dC dI h0 r cI cJ cZ 0 a1 tp bs cl a5 a6 a7 fc a9 mb a11 a12 a13 a14 a15 a16 a17 a18 a19 a20 az v22 v23 v24 v25 v26 bb ct us a30 a31 a32 a33 a34 a35 a36 a37 pil rwv rl v41 v42 v43 v44 v45 ⟨by omega, by omega, by omega, hcl, hfc, hmb, hct, hpil, hrwv⟩ xb xu rc (by exact hp0) H.size) (cwV 3 hts zgX7_doneMember_X7_doing_312 rfl rfl rfl (by decide +kernel) ⟨(show 5 + 1 ≤ 6 by omega), (show 8 + (9 + 11) + 130 ≤ 158 by omega)⟩) (zVm (ci := 6) (q0 := 0) (q := (RX7, TX7, 46)) hK hP hD hL hS.2.1 hFc rfl rfl rfl) rfl rfl hl.1 rfl (lv_room (Nat.le_of_ble_eq_true rfl)) dX7_doneMember_9 ⟨(show 0 + 0 ≤ 0 by omega), (show 0 + 0 ≤ 0 by omega)⟩) hS (fun q _ h => hFc q h) hFc (fun r1 u9 t H1 locs ht hvm hw hB hz1 hk1 hS => ?_)
  obtain ⟨o2, o3, o4, o5, o6, o7, o8⟩ := u9
  obtain ⟨hP, hK9, hD⟩ := hB
  rw [ht] at hP
  have hD := hD.weaken (fun k q _ h => hFc q.1 h)
  generalize H1 = H at hP hS
  have hP : va_P (dC, dI) vwCl (rW h0 r cI cJ cZ 0 a1 (nI tp) (nI bs) (fun j => nI (cl j)) a5 a6 a7 (fun j => nI (fc j)) a9 (fun j => nI (mb j)) a11 a12 a13 a14 a15 a16 a17 a18 a19 a20 (nI az) v22 v23 v24 v25 v26 (nI bb) (fun j => nI (ct j)) (nI us) a30 a31 a32 a33 a34 a35 a36 a37 (fun j => nI (o3 j)) (fun j => nI (o4 j)) (nI o2) v41 o8 o5 o6 o7) H := hP
  have hD : va_D A (rW h0 r cI cJ cZ 0 a1 (nI tp) (nI bs) (fun j => nI (cl j)) a5 a6 a7 (fun j => nI (fc j)) a9 (fun j => nI (mb j)) a11 a12 a13 a14 a15 a16 a17 a18 a19 a20 (nI az) v22 v23 v24 v25 v26 (nI bb) (fun j => nI (ct j)) (nI us) a30 a31 a32 a33 a34 a35 a36 a37 (fun j => nI (o3 j)) (fun j => nI (o4 j)) (nI o2) v41 o8 o5 o6 o7) := hD
  have hw : (∀ j, o3 j ≤ 15) ∧ (∀ j, o4 j ≤ 15) := hw
  obtain ⟨hbo3, hbo4⟩ := hw
  refine lv_istore (lv' := [(4, .int r1), (0, .ref h0), (1, .int xb), (2, .int xu), (3, .int rc)]) hx hb dX7_doneMember_12 hl (by decide) rfl (fun ls hl => ?_)
  refine lv_iload hx hb dX7_doneMember_14 (lv_at hl 0 rfl) ?_
  refine lv_if_ge (tgt := 24) hx hb dX7_doneMember_16 (by decide) (fun cp16 => ?_) (fun cp16 => ?_)
  · refine lv_iload hx hb dX7_doneMember_24 (lv_at hl 0 rfl) ?_
    refine lv_bipush (v := 12) hx hb dX7_doneMember_26 (by decide) ?_
    refine lv_irem hx hb dX7_doneMember_28 (by decide) ?_
    refine lv_topi (fun x10 ex10 => ?_)
    have hP9 : va_P (dC, dI) vwCl (rW h0 r cI cJ cZ 0 a1 (nI tp) (nI bs) (fun j => nI (cl j)) a5 a6 a7 (fun j => nI (fc j)) a9 (fun j => nI (mb j)) a11 a12 a13 a14 a15 a16 a17 a18 a19 a20 (nI az) v22 v23 v24 v25 v26 (nI bb) (fun j => nI (ct j)) (nI us) a30 a31 a32 a33 a34 a35 a36 a37 (fun j => nI (o3 j)) (fun j => nI (o4 j)) (nI o2) v41 o8 o5 o6 o7) H := hP
    have hD9 : va_D A (rW h0 r cI cJ cZ 0 a1 (nI tp) (nI bs) (fun j => nI (cl j)) a5 a6 a7 (fun j => nI (fc j)) a9 (fun j => nI (mb j)) a11 a12 a13 a14 a15 a16 a17 a18 a19 a20 (nI az) v22 v23 v24 v25 v26 (nI bb) (fun j => nI (ct j)) (nI us) a30 a31 a32 a33 a34 a35 a36 a37 (fun j => nI (o3 j)) (fun j => nI (o4 j)) (nI o2) v41 o8 o5 o6 o7) := hD
    exact W.iret (v := x10) hx hb hr (fun t ht hW => ⟨⟨x10, (0, o2, o3, o4, o5, o6, o7, o8), rfl, ⟨hbo3, hbo4⟩, by rw [ht]; exact hP9, va_K.moved hW.alike hK, hD9⟩, hS.F ht⟩) hS.2.2 dX7_doneMember_29
  · refine lv_iload hx hb dX7_doneMember_19 (lv_at hl 0 rfl) ?_
    refine lv_goto (tgt := 29) hx hb dX7_doneMember_21 (by decide) ?_
    have hP9 : va_P (dC, dI) vwCl (rW h0 r cI cJ cZ 0 a1 (nI tp) (nI bs) (fun j => nI (cl j)) a5 a6 a7 (fun j => nI (fc j)) a9 (fun j => nI (mb j)) a11 a12 a13 a14 a15 a16 a17 a18 a19 a20 (nI az) v22 v23 v24 v25 v26 (nI bb) (fun j => nI (ct j)) (nI us) a30 a31 a32 a33 a34 a35 a36 a37 (fun j => nI (o3 j)) (fun j => nI (o4 j)) (nI o2) v41 o8 o5 o6 o7) H := hP
    have hD9 : va_D A (rW h0 r cI cJ cZ 0 a1 (nI tp) (nI bs) (fun j => nI (cl j)) a5 a6 a7 (fun j => nI (fc j)) a9 (fun j => nI (mb j)) a11 a12 a13 a14 a15 a16 a17 a18 a19 a20 (nI az) v22 v23 v24 v25 v26 (nI bb) (fun j => nI (ct j)) (nI us) a30 a31 a32 a33 a34 a35 a36 a37 (fun j => nI (o3 j)) (fun j => nI (o4 j)) (nI o2) v41 o8 o5 o6 o7) := hD
    exact W.iret (v := r1) hx hb hr (fun t ht hW => ⟨⟨r1, (0, o2, o3, o4, o5, o6, o7, o8), rfl, ⟨hbo3, hbo4⟩, by rw [ht]; exact hP9, va_K.moved hW.alike hK, hD9⟩, hS.F ht⟩) hS.2.2 dX7_doneMember_29
