/-- a number that is a place of a member -/
def zEx9 (x : Int32) : Prop := ∃ k : Nat, k < 960 ∧ x = nI k
theorem zEx9.mk {k : Nat} (h : k < 960) : zEx9 (nI k) := ⟨k, h, rfl⟩
theorem dX7_findFaces_0 : decode cX7_findFaces 0 = .ok (.aload_n 0, 1) := by decide +kernel
theorem dX7_findFaces_1 : decode cX7_findFaces 1 = .ok (.iconst 0, 1) := by decide +kernel
theorem dX7_findFaces_2 : decode cX7_findFaces 2 = .ok (.putfield 266, 3) := by decide +kernel
theorem dX7_findFaces_5 : decode cX7_findFaces 5 = .ok (.iload_n 2, 1) := by decide +kernel
theorem dX7_findFaces_6 : decode cX7_findFaces 6 = .ok (.istore 4, 2) := by decide +kernel
theorem dX7_findFaces_8 : decode cX7_findFaces 8 = .ok (.iload 4, 2) := by decide +kernel
theorem dX7_findFaces_10 : decode cX7_findFaces 10 = .ok (.ifCond .lt 36, 3) := by decide +kernel
theorem dX7_findFaces_13 : decode cX7_findFaces 13 = .ok (.aload_n 0, 1) := by decide +kernel
theorem dX7_findFaces_14 : decode cX7_findFaces 14 = .ok (.iload_n 1, 1) := by decide +kernel
theorem dX7_findFaces_15 : decode cX7_findFaces 15 = .ok (.iload 4, 2) := by decide +kernel
theorem dX7_findFaces_17 : decode cX7_findFaces 17 = .ok (.invokevirtual 272, 3) := by decide +kernel
theorem dX7_findFaces_20 : decode cX7_findFaces 20 = .ok (.aload_n 0, 1) := by decide +kernel
theorem dX7_findFaces_21 : decode cX7_findFaces 21 = .ok (.getfield 23, 3) := by decide +kernel
theorem dX7_findFaces_24 : decode cX7_findFaces 24 = .ok (.iload_n 2, 1) := by decide +kernel
theorem dX7_findFaces_25 : decode cX7_findFaces 25 = .ok (.iaload, 1) := by decide +kernel
theorem dX7_findFaces_26 : decode cX7_findFaces 26 = .ok (.iconst 1, 1) := by decide +kernel
theorem dX7_findFaces_27 : decode cX7_findFaces 27 = .ok (.if_icmp .ne 7, 3) := by decide +kernel
theorem dX7_findFaces_30 : decode cX7_findFaces 30 = .ok (.iconst (-1), 1) := by decide +kernel
theorem dX7_findFaces_31 : decode cX7_findFaces 31 = .ok (.goto 10, 3) := by decide +kernel
theorem dX7_findFaces_34 : decode cX7_findFaces 34 = .ok (.aload_n 0, 1) := by decide +kernel
theorem dX7_findFaces_35 : decode cX7_findFaces 35 = .ok (.iload_n 1, 1) := by decide +kernel
theorem dX7_findFaces_36 : decode cX7_findFaces 36 = .ok (.iload 4, 2) := by decide +kernel
theorem dX7_findFaces_38 : decode cX7_findFaces 38 = .ok (.invokevirtual 276, 3) := by decide +kernel
theorem dX7_findFaces_41 : decode cX7_findFaces 41 = .ok (.istore 4, 2) := by decide +kernel
theorem dX7_findFaces_43 : decode cX7_findFaces 43 = .ok (.goto (-35), 3) := by decide +kernel
theorem dX7_findFaces_46 : decode cX7_findFaces 46 = .ok (.aload_n 0, 1) := by decide +kernel
theorem dX7_findFaces_47 : decode cX7_findFaces 47 = .ok (.iconst 0, 1) := by decide +kernel
theorem dX7_findFaces_48 : decode cX7_findFaces 48 = .ok (.putfield 279, 3) := by decide +kernel
theorem dX7_findFaces_51 : decode cX7_findFaces 51 = .ok (.aload_n 0, 1) := by decide +kernel
theorem dX7_findFaces_52 : decode cX7_findFaces 52 = .ok (.iconst (-1), 1) := by decide +kernel
theorem dX7_findFaces_53 : decode cX7_findFaces 53 = .ok (.putfield 282, 3) := by decide +kernel
theorem dX7_findFaces_56 : decode cX7_findFaces 56 = .ok (.aload_n 0, 1) := by decide +kernel
theorem dX7_findFaces_57 : decode cX7_findFaces 57 = .ok (.iconst (-1), 1) := by decide +kernel
theorem dX7_findFaces_58 : decode cX7_findFaces 58 = .ok (.putfield 285, 3) := by decide +kernel
theorem dX7_findFaces_61 : decode cX7_findFaces 61 = .ok (.iconst 0, 1) := by decide +kernel
theorem dX7_findFaces_62 : decode cX7_findFaces 62 = .ok (.istore 4, 2) := by decide +kernel
theorem dX7_findFaces_64 : decode cX7_findFaces 64 = .ok (.iload 4, 2) := by decide +kernel
theorem dX7_findFaces_66 : decode cX7_findFaces 66 = .ok (.aload_n 0, 1) := by decide +kernel
theorem dX7_findFaces_67 : decode cX7_findFaces 67 = .ok (.getfield 266, 3) := by decide +kernel
theorem dX7_findFaces_70 : decode cX7_findFaces 70 = .ok (.if_icmp .ge 175, 3) := by decide +kernel
theorem dX7_findFaces_73 : decode cX7_findFaces 73 = .ok (.aload_n 0, 1) := by decide +kernel
theorem dX7_findFaces_74 : decode cX7_findFaces 74 = .ok (.bipush 16, 2) := by decide +kernel
theorem dX7_findFaces_76 : decode cX7_findFaces 76 = .ok (.iload_n 1, 1) := by decide +kernel
theorem dX7_findFaces_77 : decode cX7_findFaces 77 = .ok (.imul, 1) := by decide +kernel
theorem dX7_findFaces_78 : decode cX7_findFaces 78 = .ok (.aload_n 0, 1) := by decide +kernel
theorem dX7_findFaces_79 : decode cX7_findFaces 79 = .ok (.getfield 100, 3) := by decide +kernel
theorem dX7_findFaces_82 : decode cX7_findFaces 82 = .ok (.iload 4, 2) := by decide +kernel
theorem dX7_findFaces_84 : decode cX7_findFaces 84 = .ok (.iaload, 1) := by decide +kernel
theorem dX7_findFaces_85 : decode cX7_findFaces 85 = .ok (.iadd, 1) := by decide +kernel
theorem dX7_findFaces_86 : decode cX7_findFaces 86 = .ok (.iload_n 3, 1) := by decide +kernel
theorem dX7_findFaces_87 : decode cX7_findFaces 87 = .ok (.iconst 1, 1) := by decide +kernel
theorem dX7_findFaces_88 : decode cX7_findFaces 88 = .ok (.invokevirtual 288, 3) := by decide +kernel
theorem dX7_findFaces_91 : decode cX7_findFaces 91 = .ok (.istore 5, 2) := by decide +kernel
theorem dX7_findFaces_93 : decode cX7_findFaces 93 = .ok (.iload 5, 2) := by decide +kernel
theorem dX7_findFaces_95 : decode cX7_findFaces 95 = .ok (.ifCond .lt 7, 3) := by decide +kernel
theorem dX7_findFaces_98 : decode cX7_findFaces 98 = .ok (.iconst 1, 1) := by decide +kernel
theorem dX7_findFaces_99 : decode cX7_findFaces 99 = .ok (.goto 4, 3) := by decide +kernel
theorem dX7_findFaces_102 : decode cX7_findFaces 102 = .ok (.iconst 0, 1) := by decide +kernel
theorem dX7_findFaces_103 : decode cX7_findFaces 103 = .ok (.istore 6, 2) := by decide +kernel
theorem dX7_findFaces_105 : decode cX7_findFaces 105 = .ok (.iconst 0, 1) := by decide +kernel
theorem dX7_findFaces_106 : decode cX7_findFaces 106 = .ok (.istore 7, 2) := by decide +kernel
theorem dX7_findFaces_108 : decode cX7_findFaces 108 = .ok (.iload 7, 2) := by decide +kernel
theorem dX7_findFaces_110 : decode cX7_findFaces 110 = .ok (.aload_n 0, 1) := by decide +kernel
theorem dX7_findFaces_111 : decode cX7_findFaces 111 = .ok (.getfield 266, 3) := by decide +kernel
theorem dX7_findFaces_114 : decode cX7_findFaces 114 = .ok (.if_icmp .ge 71, 3) := by decide +kernel
theorem dX7_findFaces_117 : decode cX7_findFaces 117 = .ok (.iload 6, 2) := by decide +kernel
theorem dX7_findFaces_119 : decode cX7_findFaces 119 = .ok (.ifCond .eq 66, 3) := by decide +kernel
theorem dX7_findFaces_122 : decode cX7_findFaces 122 = .ok (.iload 7, 2) := by decide +kernel
theorem dX7_findFaces_124 : decode cX7_findFaces 124 = .ok (.iload 4, 2) := by decide +kernel
theorem dX7_findFaces_126 : decode cX7_findFaces 126 = .ok (.if_icmp .eq 46, 3) := by decide +kernel
theorem dX7_findFaces_129 : decode cX7_findFaces 129 = .ok (.aload_n 0, 1) := by decide +kernel
theorem dX7_findFaces_130 : decode cX7_findFaces 130 = .ok (.bipush 16, 2) := by decide +kernel
theorem dX7_findFaces_132 : decode cX7_findFaces 132 = .ok (.iload_n 1, 1) := by decide +kernel
theorem dX7_findFaces_133 : decode cX7_findFaces 133 = .ok (.imul, 1) := by decide +kernel
theorem dX7_findFaces_134 : decode cX7_findFaces 134 = .ok (.aload_n 0, 1) := by decide +kernel
theorem dX7_findFaces_135 : decode cX7_findFaces 135 = .ok (.getfield 100, 3) := by decide +kernel
theorem dX7_findFaces_138 : decode cX7_findFaces 138 = .ok (.iload 7, 2) := by decide +kernel
theorem dX7_findFaces_140 : decode cX7_findFaces 140 = .ok (.iaload, 1) := by decide +kernel
theorem dX7_findFaces_141 : decode cX7_findFaces 141 = .ok (.iadd, 1) := by decide +kernel
theorem dX7_findFaces_142 : decode cX7_findFaces 142 = .ok (.iload_n 3, 1) := by decide +kernel
theorem dX7_findFaces_143 : decode cX7_findFaces 143 = .ok (.iconst 1, 1) := by decide +kernel
theorem dX7_findFaces_144 : decode cX7_findFaces 144 = .ok (.invokevirtual 288, 3) := by decide +kernel
theorem dX7_findFaces_147 : decode cX7_findFaces 147 = .ok (.ifCond .lt 25, 3) := by decide +kernel
theorem dX7_findFaces_150 : decode cX7_findFaces 150 = .ok (.aload_n 0, 1) := by decide +kernel
theorem dX7_findFaces_151 : decode cX7_findFaces 151 = .ok (.iload_n 1, 1) := by decide +kernel
theorem dX7_findFaces_152 : decode cX7_findFaces 152 = .ok (.aload_n 0, 1) := by decide +kernel
theorem dX7_findFaces_153 : decode cX7_findFaces 153 = .ok (.getfield 100, 3) := by decide +kernel
theorem dX7_findFaces_156 : decode cX7_findFaces 156 = .ok (.iload 7, 2) := by decide +kernel
theorem dX7_findFaces_158 : decode cX7_findFaces 158 = .ok (.iaload, 1) := by decide +kernel
theorem dX7_findFaces_159 : decode cX7_findFaces 159 = .ok (.aload_n 0, 1) := by decide +kernel
theorem dX7_findFaces_160 : decode cX7_findFaces 160 = .ok (.getfield 100, 3) := by decide +kernel
theorem dX7_findFaces_163 : decode cX7_findFaces 163 = .ok (.iload 4, 2) := by decide +kernel
theorem dX7_findFaces_165 : decode cX7_findFaces 165 = .ok (.iaload, 1) := by decide +kernel
theorem dX7_findFaces_166 : decode cX7_findFaces 166 = .ok (.invokevirtual 256, 3) := by decide +kernel
theorem dX7_findFaces_169 : decode cX7_findFaces 169 = .ok (.ifCond .ne 7, 3) := by decide +kernel
theorem dX7_findFaces_172 : decode cX7_findFaces 172 = .ok (.iconst 1, 1) := by decide +kernel
theorem dX7_findFaces_173 : decode cX7_findFaces 173 = .ok (.goto 4, 3) := by decide +kernel
theorem dX7_findFaces_176 : decode cX7_findFaces 176 = .ok (.iconst 0, 1) := by decide +kernel
theorem dX7_findFaces_177 : decode cX7_findFaces 177 = .ok (.istore 6, 2) := by decide +kernel
theorem dX7_findFaces_179 : decode cX7_findFaces 179 = .ok (.iinc 7 1, 3) := by decide +kernel
theorem dX7_findFaces_182 : decode cX7_findFaces 182 = .ok (.goto (-74), 3) := by decide +kernel
theorem dX7_findFaces_185 : decode cX7_findFaces 185 = .ok (.iload 6, 2) := by decide +kernel
theorem dX7_findFaces_187 : decode cX7_findFaces 187 = .ok (.ifCond .eq 52, 3) := by decide +kernel
theorem dX7_findFaces_190 : decode cX7_findFaces 190 = .ok (.aload_n 0, 1) := by decide +kernel
theorem dX7_findFaces_191 : decode cX7_findFaces 191 = .ok (.aload_n 0, 1) := by decide +kernel
theorem dX7_findFaces_192 : decode cX7_findFaces 192 = .ok (.getfield 285, 3) := by decide +kernel
theorem dX7_findFaces_195 : decode cX7_findFaces 195 = .ok (.ifCond .ge 8, 3) := by decide +kernel
theorem dX7_findFaces_198 : decode cX7_findFaces 198 = .ok (.iload 5, 2) := by decide +kernel
theorem dX7_findFaces_200 : decode cX7_findFaces 200 = .ok (.goto 7, 3) := by decide +kernel
theorem dX7_findFaces_203 : decode cX7_findFaces 203 = .ok (.aload_n 0, 1) := by decide +kernel
theorem dX7_findFaces_204 : decode cX7_findFaces 204 = .ok (.getfield 285, 3) := by decide +kernel
theorem dX7_findFaces_207 : decode cX7_findFaces 207 = .ok (.putfield 285, 3) := by decide +kernel
theorem dX7_findFaces_210 : decode cX7_findFaces 210 = .ok (.aload_n 0, 1) := by decide +kernel
theorem dX7_findFaces_211 : decode cX7_findFaces 211 = .ok (.getfield 48, 3) := by decide +kernel
theorem dX7_findFaces_214 : decode cX7_findFaces 214 = .ok (.iload 5, 2) := by decide +kernel
theorem dX7_findFaces_216 : decode cX7_findFaces 216 = .ok (.iaload, 1) := by decide +kernel
theorem dX7_findFaces_217 : decode cX7_findFaces 217 = .ok (.bipush 8, 2) := by decide +kernel
theorem dX7_findFaces_219 : decode cX7_findFaces 219 = .ok (.iand, 1) := by decide +kernel
theorem dX7_findFaces_220 : decode cX7_findFaces 220 = .ok (.ifCond .ne 19, 3) := by decide +kernel
theorem dX7_findFaces_223 : decode cX7_findFaces 223 = .ok (.aload_n 0, 1) := by decide +kernel
theorem dX7_findFaces_224 : decode cX7_findFaces 224 = .ok (.dup, 1) := by decide +kernel
theorem dX7_findFaces_225 : decode cX7_findFaces 225 = .ok (.getfield 279, 3) := by decide +kernel
theorem dX7_findFaces_228 : decode cX7_findFaces 228 = .ok (.iconst 1, 1) := by decide +kernel
theorem dX7_findFaces_229 : decode cX7_findFaces 229 = .ok (.iadd, 1) := by decide +kernel
theorem dX7_findFaces_230 : decode cX7_findFaces 230 = .ok (.putfield 279, 3) := by decide +kernel
theorem dX7_findFaces_233 : decode cX7_findFaces 233 = .ok (.aload_n 0, 1) := by decide +kernel
theorem dX7_findFaces_234 : decode cX7_findFaces 234 = .ok (.iload 5, 2) := by decide +kernel
theorem dX7_findFaces_236 : decode cX7_findFaces 236 = .ok (.putfield 282, 3) := by decide +kernel
theorem dX7_findFaces_239 : decode cX7_findFaces 239 = .ok (.iinc 4 1, 3) := by decide +kernel
theorem dX7_findFaces_242 : decode cX7_findFaces 242 = .ok (.goto (-178), 3) := by decide +kernel
theorem dX7_findFaces_245 : decode cX7_findFaces 245 = .ok (.return_, 1) := by decide +kernel
def zwX7_findFaces : List Cond := .code yX7_findFaces cX7_findFaces 8 none :: ([.fieldLink RX7 266 "LinkModelsModel" "rowLong" "I", .fieldLink RX7 285 "LinkModelsModel" "firstOne" "I", .fieldLink RX7 48 "LinkModelsModel" "marks" "[I", .fieldLink RX7 279 "LinkModelsModel" "bodies" "I", .fieldLink RX7 282 "LinkModelsModel" "bodied" "I", .fieldLink RX7 100 "LinkModelsModel" "row" "[I", .fieldLink RX7 23 "LinkModelsModel" "sort" "[I", .methodLink RX7 288 yX7_methodIn, .instanceMethod yX7_methodIn, .selects RX7 yX7_methodIn yX7_methodIn, .initialized RX7, .code yX7_methodIn cX7_methodIn 6 (some .int), .fieldLink RX7 51 "LinkModelsModel" "isMethod" "[Z", .fieldLink RX7 44 "LinkModelsModel" "word" "[J", .fieldLink RX7 82 "LinkModelsModel" "useWord" "[J", .fieldLink RX7 35 "LinkModelsModel" "members" "[I", .fieldLink RX7 61 "LinkModelsModel" "many" "[I", .fieldLink RX7 85 "LinkModelsModel" "useMany" "[I", .fieldLink RX7 67 "LinkModelsModel" "second" "[I", .fieldLink RX7 91 "LinkModelsModel" "useSecond" "[I", .fieldLink RX7 64 "LinkModelsModel" "first" "[I", .fieldLink RX7 88 "LinkModelsModel" "useFirst" "[I", .methodLink RX7 256 yX7_isOf, .instanceMethod yX7_isOf, .selects RX7 yX7_isOf yX7_isOf, .code yX7_isOf cX7_isOf 4 (some .boolean), .fieldLink RX7 41 "LinkModelsModel" "ofAll" "[I", .methodLink RX7 272 yX7_faceRow, .instanceMethod yX7_faceRow, .selects RX7 yX7_faceRow yX7_faceRow, .code yX7_faceRow cX7_faceRow 8 none, .fieldLink RX7 97 "LinkModelsModel" "pile" "[I", .fieldLink RX7 32 "LinkModelsModel" "face" "[I", .fieldLink RX7 29 "LinkModelsModel" "faces" "[I", .methodLink RX7 201 yX7_place, .instanceMethod yX7_place, .selects RX7 yX7_place yX7_place, .code yX7_place cX7_place 4 (some .int), .fieldLink RX7 17 "LinkModelsModel" "classes" "[I", .fieldLink RX7 20 "LinkModelsModel" "className" "[I", .methodLink RX7 276 yX7_aboveOf, .instanceMethod yX7_aboveOf, .selects RX7 yX7_aboveOf yX7_aboveOf, .code yX7_aboveOf cX7_aboveOf 3 (some .int), .fieldLink RX7 26 "LinkModelsModel" "above" "[I"] ++ wsX70)
theorem zgX7_findFaces_X7_methodIn_288 : GoodIn zwX7_findFaces (wsV RX7 288 RX7 yX7_methodIn zwX7_methodIn) := goodIn_app (goodIn_r _ [8, 9, 10, 11] rfl (by decide +kernel)) (goodIn_ca (goodIn_r _ [12, 13, 14, 15, 3, 16, 17, 18, 19, 20, 21, 22] rfl (by decide +kernel)) (zgt zg7))
theorem zgX7_findFaces_X7_isOf_256 : GoodIn zwX7_findFaces (wsV RX7 256 RX7 yX7_isOf zwX7_isOf) := goodIn_app (goodIn_r _ [23, 24, 25, 11] rfl (by decide +kernel)) (goodIn_ca (goodIn_r _ [26, 27] rfl (by decide +kernel)) (zgt zg7))
theorem zgX7_findFaces_X7_faceRow_272 : GoodIn zwX7_findFaces (wsV RX7 272 RX7 yX7_faceRow zwX7_faceRow) := goodIn_app (goodIn_r _ [28, 29, 30, 11] rfl (by decide +kernel)) (goodIn_ca (goodIn_r _ [31, 32, 33, 1, 6, 34, 35, 36, 37, 11, 38, 39, 40] rfl (by decide +kernel)) (zgt zg7))
theorem zgX7_findFaces_X7_aboveOf_276 : GoodIn zwX7_findFaces (wsV RX7 276 RX7 yX7_aboveOf zwX7_aboveOf) := goodIn_app (goodIn_r _ [41, 42, 43, 11] rfl (by decide +kernel)) (goodIn_ca (goodIn_r _ [44, 45, 35, 36, 37, 11, 38, 39, 40] rfl (by decide +kernel)) (zgt zg7))
set_option maxHeartbeats 4000000 in
set_option maxRecDepth 100000 in
theorem kX7_findFaces (l : Launch) (dC : Nat → ClassId) (dI : Nat → Nat → Nat) (h0 : Nat) (r : Nat → Nat) (cI : ClassId) (cJ : ClassId) (cZ : ClassId) (v0 : Int32) (a1 : Nat → Int32) (tp : Nat) (bs : Nat) (cl : Nat → Nat) (a5 : Nat → Int32) (a6 : Nat → Int32) (a7 : Nat → Int32) (fc : Nat → Nat) (a9 : Nat → Int32) (mb : Nat → Nat) (a11 : Nat → Int32) (a12 : Nat → Int32) (a13 : Nat → Int64) (a14 : Nat → Int32) (a15 : Nat → Int32) (a16 : Nat → Int32) (a17 : Nat → Int32) (a18 : Nat → Int32) (a19 : Nat → Int32) (a20 : Nat → Int32) (az : Nat) (v22 : Int32) (v23 : Int32) (v24 : Int64) (v25 : Int32) (v26 : Int32) (bb : Nat) (ct : Nat → Nat) (us : Nat) (a30 : Nat → Int32) (a31 : Nat → Int32) (a32 : Nat → Int32) (a33 : Nat → Int64) (a34 : Nat → Int32) (a35 : Nat → Int32) (a36 : Nat → Int32) (a37 : Nat → Int32) (pil : Nat → Nat) (rwv : Nat → Nat) (rl : Nat) (v41 : Int32) (v42 : Int32) (v43 : Int32) (v44 : Int32) (v45 : Int32) (hI : rWI tp bs cl fc mb az bb ct us pil rwv rl) (rk : Nat → Nat) (bd : Nat) (ci : Nat) (uu : Nat) (hp0 : bd < 5) (hp1 : uu < 40) (hp2 : zOKr cl a5 a7 fc a9 a11 bd rk) (hp3 : zGd cl a11 bd ci) (sz : Nat) : Met l yX7_findFaces zwX7_findFaces ({ frames := 2, cells := 0, slots := 0, locals := 50 }) (zPm dC dI [.ref h0, .int (nI bd), .int (nI ci), .int (nI uu)] sz (rW h0 r cI cJ cZ v0 a1 (nI tp) (nI bs) (fun j => nI (cl j)) a5 a6 a7 (fun j => nI (fc j)) a9 (fun j => nI (mb j)) a11 a12 a13 a14 a15 a16 a17 a18 a19 a20 (nI az) v22 v23 v24 v25 v26 (nI bb) (fun j => nI (ct j)) (nI us) a30 a31 a32 a33 a34 a35 a36 a37 (fun j => nI (pil j)) (fun j => nI (rwv j)) (nI rl) v41 v42 v43 v44 v45) [(cI, .int), (cJ, .long), (cZ, .boolean)]) (va_Qv (fun u : Nat × (Nat → Nat) × (Nat → Nat) × Int32 × Int32 × Int32 => (zM (u.2.2.2.2.1) (fun k => k < 960)) ∧ (zM (u.2.2.2.2.2) (fun k => k < 960)) ∧ (∀ j, (u.2.1) j ≤ 15) ∧ (∀ j, (u.2.2.1) j ≤ 15)) (fun u t => zB dC dI (va_A (rW h0 r cI cJ cZ v0 a1 (nI tp) (nI bs) (fun j => nI (cl j)) a5 a6 a7 (fun j => nI (fc j)) a9 (fun j => nI (mb j)) a11 a12 a13 a14 a15 a16 a17 a18 a19 a20 (nI az) v22 v23 v24 v25 v26 (nI bb) (fun j => nI (ct j)) (nI us) a30 a31 a32 a33 a34 a35 a36 a37 (fun j => nI (pil j)) (fun j => nI (rwv j)) (nI rl) v41 v42 v43 v44 v45) sz) (rW h0 r cI cJ cZ v0 a1 (nI tp) (nI bs) (fun j => nI (cl j)) a5 a6 a7 (fun j => nI (fc j)) a9 (fun j => nI (mb j)) a11 a12 a13 a14 a15 a16 a17 a18 a19 a20 (nI az) v22 v23 v24 v25 v26 (nI bb) (fun j => nI (ct j)) (nI us) a30 a31 a32 a33 a34 a35 a36 a37 (fun j => nI ((u.2.1) j)) (fun j => nI ((u.2.2.1) j)) (nI (u.1)) v41 v42 (u.2.2.2.1) (u.2.2.2.2.1) (u.2.2.2.2.2)) [(cI, .int), (cJ, .long), (cZ, .boolean)] t) (va_A (rW h0 r cI cJ cZ v0 a1 (nI tp) (nI bs) (fun j => nI (cl j)) a5 a6 a7 (fun j => nI (fc j)) a9 (fun j => nI (mb j)) a11 a12 a13 a14 a15 a16 a17 a18 a19 a20 (nI az) v22 v23 v24 v25 v26 (nI bb) (fun j => nI (ct j)) (nI us) a30 a31 a32 a33 a34 a35 a36 a37 (fun j => nI (pil j)) (fun j => nI (rwv j)) (nI rl) v41 v42 v43 v44 v45) sz)) 0 0 (va_A (rW h0 r cI cJ cZ v0 a1 (nI tp) (nI bs) (fun j => nI (cl j)) a5 a6 a7 (fun j => nI (fc j)) a9 (fun j => nI (mb j)) a11 a12 a13 a14 a15 a16 a17 a18 a19 a20 (nI az) v22 v23 v24 v25 v26 (nI bb) (fun j => nI (ct j)) (nI us) a30 a31 a32 a33 a34 a35 a36 a37 (fun j => nI (pil j)) (fun j => nI (rwv j)) (nI rl) v41 v42 v43 v44 v45) sz) := by
  refine Met.ofW (cc := cX7_findFaces) (maxL := 8) (ret := none) (by decide) rfl ?_
  intro p e s m args below meth c s₁ B hml hv
  obtain ⟨rfl, hsz, hP, hK, hD0, hL0⟩ := hv
  have hx := B.exec
  have hb := B.bytes
  have hr := B.returns
  have hts := atoms_spec (ws := zwX7_findFaces) B.pre
  have hown : s.vm.findClass RX7 = some m.cls := findClass_of_methodNamed B.named
  have hiX7 : ∀ w ∈ wsX70, w ∈ zwX7_findFaces := (fun _ h => List.mem_cons_of_mem _ (List.mem_append_right _ h))
  obtain ⟨htp, hbs, hus, hcl, hfc, hmb, hct, hpil, hrwv⟩ := hI
  subst hsz
  have hD := hD0.self (sz := s.heap.size)
  generalize hAe : va_A (rW h0 r cI cJ cZ v0 a1 (nI tp) (nI bs) (fun j => nI (cl j)) a5 a6 a7 (fun j => nI (fc j)) a9 (fun j => nI (mb j)) a11 a12 a13 a14 a15 a16 a17 a18 a19 a20 (nI az) v22 v23 v24 v25 v26 (nI bb) (fun j => nI (ct j)) (nI us) a30 a31 a32 a33 a34 a35 a36 a37 (fun j => nI (pil j)) (fun j => nI (rwv j)) (nI rl) v41 v42 v43 v44 v45) s.heap.size = A at hD hL0 ⊢
  have hA : ∀ q : Nat, s.heap.size ≤ q → A q := fun q h => by rw [← hAe]; exact Or.inr h
  have hS : va_S A s.heap s.heap [] := va_S.rf
  have hL := hL0
  have hclb := hcl bd
  have hcil := zGd.lt hp3 hclb hp0
  have hl := lv_entry ([.ref h0, .int (nI bd), .int (nI ci), .int (nI uu)]) (n := 8) (Nat.le_of_ble_eq_true rfl)
  rw [lg_entry_eq]
  generalize (lg_sl ([.ref h0, .int (nI bd), .int (nI ci), .int (nI uu)]) ++ List.replicate (8 - (lg_sl ([.ref h0, .int (nI bd), .int (nI ci), .int (nI uu)])).length) Slot.unset).toArray = ls at hl ⊢
  have hl : lv_has ls 8 [(0, .ref h0), (1, .int (nI bd)), (2, .int (nI ci)), (3, .int (nI uu))] := hl
  have J64 : ∀ (z64 : Nat) (kk : Nat) (rl2 : Nat) (pil2 : Nat → Nat) (rwv2 : Nat → Nat) (b0 : Int32) (b1 : Int32) (b2 : Int32) (H : Heap) (locs : List Loc) (ls : Array Slot), rl2 - kk < z64 → (∀ j, pil2 j ≤ 15) → (∀ j, rwv2 j ≤ 15) → (kk ≤ rl2) → (zRow cl a11 bd rwv2 rl2) → (zM b1 (fun k => k < 960)) → (zM b2 (fun k => k < 960)) → va_P (dC, dI) vwCl (rW h0 r cI cJ cZ v0 a1 (nI tp) (nI bs) (fun j => nI (cl j)) a5 a6 a7 (fun j => nI (fc j)) a9 (fun j => nI (mb j)) a11 a12 a13 a14 a15 a16 a17 a18 a19 a20 (nI az) v22 v23 v24 v25 v26 (nI bb) (fun j => nI (ct j)) (nI us) a30 a31 a32 a33 a34 a35 a36 a37 (fun j => nI (pil2 j)) (fun j => nI (rwv2 j)) (nI rl2) v41 v42 b0 b1 b2) H → va_D A (rW h0 r cI cJ cZ v0 a1 (nI tp) (nI bs) (fun j => nI (cl j)) a5 a6 a7 (fun j => nI (fc j)) a9 (fun j => nI (mb j)) a11 a12 a13 a14 a15 a16 a17 a18 a19 a20 (nI az) v22 v23 v24 v25 v26 (nI bb) (fun j => nI (ct j)) (nI us) a30 a31 a32 a33 a34 a35 a36 a37 (fun j => nI (pil2 j)) (fun j => nI (rwv2 j)) (nI rl2) v41 v42 b0 b1 b2) → va_S A s.heap H locs → lv_has ls 8 [(0, .ref h0), (1, .int (nI bd)), (2, .int (nI ci)), (3, .int (nI uu)), (4, .int (nI kk))] → W p l e (headSpec zwX7_findFaces { frames := 2, cells := 0, slots := 0, locals := 50 }).room s m (([.ref h0, .int (nI bd), .int (nI ci), .int (nI uu)] : List Value).toArray) below meth c H locs 0 0 (MQ below (va_Qv (fun u : Nat × (Nat → Nat) × (Nat → Nat) × Int32 × Int32 × Int32 => (zM (u.2.2.2.2.1) (fun k => k < 960)) ∧ (zM (u.2.2.2.2.2) (fun k => k < 960)) ∧ (∀ j, (u.2.1) j ≤ 15) ∧ (∀ j, (u.2.2.1) j ≤ 15)) (fun u t => zB dC dI (A) (rW h0 r cI cJ cZ v0 a1 (nI tp) (nI bs) (fun j => nI (cl j)) a5 a6 a7 (fun j => nI (fc j)) a9 (fun j => nI (mb j)) a11 a12 a13 a14 a15 a16 a17 a18 a19 a20 (nI az) v22 v23 v24 v25 v26 (nI bb) (fun j => nI (ct j)) (nI us) a30 a31 a32 a33 a34 a35 a36 a37 (fun j => nI ((u.2.1) j)) (fun j => nI ((u.2.2.1) j)) (nI (u.1)) v41 v42 (u.2.2.2.1) (u.2.2.2.2.1) (u.2.2.2.2.2)) [(cI, .int), (cJ, .long), (cZ, .boolean)] t) (A)) (([.ref h0, .int (nI bd), .int (nI ci), .int (nI uu)] : List Value).toArray) s 0 0 A) (F0 m 64 ls []) := by
    intro z64
    induction z64 with
    | zero => intro kk rl2 pil2 rwv2 b0 b1 b2 H locs ls h9; exact absurd h9 (Nat.not_lt_zero _)
    | succ z64 ih64 =>
      intro kk rl2 pil2 rwv2 b0 b1 b2 H locs ls hm64 hbpil2 hbrwv2 i64_0 i64_1 i64_2 i64_3 hP hD hS hl
      have hrl9 := i64_1.le
      have J108 : ∀ (z108 : Nat) (m5 : Int32) (lf : Nat) (jx : Nat) (H : Heap) (locs : List Loc) (ls : Array Slot), rl2 - jx < z108 → (zM m5 (fun k => k < 960)) → (jx ≤ rl2) → (lf ≤ 1) → (lf = 0 ∨ zEx9 m5) → (kk < rl2) → va_P (dC, dI) vwCl (rW h0 r cI cJ cZ v0 a1 (nI tp) (nI bs) (fun j => nI (cl j)) a5 a6 a7 (fun j => nI (fc j)) a9 (fun j => nI (mb j)) a11 a12 a13 a14 a15 a16 a17 a18 a19 a20 (nI az) v22 v23 v24 v25 v26 (nI bb) (fun j => nI (ct j)) (nI us) a30 a31 a32 a33 a34 a35 a36 a37 (fun j => nI (pil2 j)) (fun j => nI (rwv2 j)) (nI rl2) v41 v42 b0 b1 b2) H → va_D A (rW h0 r cI cJ cZ v0 a1 (nI tp) (nI bs) (fun j => nI (cl j)) a5 a6 a7 (fun j => nI (fc j)) a9 (fun j => nI (mb j)) a11 a12 a13 a14 a15 a16 a17 a18 a19 a20 (nI az) v22 v23 v24 v25 v26 (nI bb) (fun j => nI (ct j)) (nI us) a30 a31 a32 a33 a34 a35 a36 a37 (fun j => nI (pil2 j)) (fun j => nI (rwv2 j)) (nI rl2) v41 v42 b0 b1 b2) → va_S A s.heap H locs → lv_has ls 8 [(0, .ref h0), (1, .int (nI bd)), (2, .int (nI ci)), (3, .int (nI uu)), (4, .int (nI kk)), (5, .int m5), (6, .int (nI lf)), (7, .int (nI jx))] → W p l e (headSpec zwX7_findFaces { frames := 2, cells := 0, slots := 0, locals := 50 }).room s m (([.ref h0, .int (nI bd), .int (nI ci), .int (nI uu)] : List Value).toArray) below meth c H locs 0 0 (MQ below (va_Qv (fun u : Nat × (Nat → Nat) × (Nat → Nat) × Int32 × Int32 × Int32 => (zM (u.2.2.2.2.1) (fun k => k < 960)) ∧ (zM (u.2.2.2.2.2) (fun k => k < 960)) ∧ (∀ j, (u.2.1) j ≤ 15) ∧ (∀ j, (u.2.2.1) j ≤ 15)) (fun u t => zB dC dI (A) (rW h0 r cI cJ cZ v0 a1 (nI tp) (nI bs) (fun j => nI (cl j)) a5 a6 a7 (fun j => nI (fc j)) a9 (fun j => nI (mb j)) a11 a12 a13 a14 a15 a16 a17 a18 a19 a20 (nI az) v22 v23 v24 v25 v26 (nI bb) (fun j => nI (ct j)) (nI us) a30 a31 a32 a33 a34 a35 a36 a37 (fun j => nI ((u.2.1) j)) (fun j => nI ((u.2.2.1) j)) (nI (u.1)) v41 v42 (u.2.2.2.1) (u.2.2.2.2.1) (u.2.2.2.2.2)) [(cI, .int), (cJ, .long), (cZ, .boolean)] t) (A)) (([.ref h0, .int (nI bd), .int (nI ci), .int (nI uu)] : List Value).toArray) s 0 0 A) (F0 m 108 ls []) := by
        intro z108
        induction z108 with
        | zero => intro m5 lf jx H locs ls h9; exact absurd h9 (Nat.not_lt_zero _)
        | succ z108 ih108 =>
          intro m5 lf jx H locs ls hm108 hm108_m5 i108_0 i108_1 i108_2 i108_3 hP hD hS hl
          refine lv_iload hx hb dX7_findFaces_108 (lv_at hl 7 rfl) ?_
          refine lv_aload_n hx hb dX7_findFaces_110 rfl (lv_at hl 0 rfl) ?_
          refine va_get (D := (dC, dI)) (ci := 6) (v := .int (nI rl2)) (C := RX7) (T := TX7) (N := 46) hx hb hts hiX7 hown hK hP 0 rfl rfl 40 (by decide) (hts (.fieldLink RX7 266 "LinkModelsModel" "rowLong" "I") (by decide +kernel)) (fun _ h9 => h9) rfl dX7_findFaces_111 ?_
          refine lv_icmp_ge (tgt := 185) hx hb dX7_findFaces_114 (by decide) (fun cp114 => ?_) (fun cp114 => ?_)
          · have qcp114 : rl2 ≤ jx := (nI_leI (a := rl2) (b := jx) (by omega) (by omega)).mp cp114
            refine lv_iload hx hb dX7_findFaces_185 (lv_at hl 6 rfl) ?_
            refine lv_if_eq (tgt := 239) hx hb dX7_findFaces_187 (by decide) (fun cp187 => ?_) (fun cp187 => ?_)
            · have qcp187 : lf = 0 := (nI_eq (a := lf) (b := 0) (by omega) (by omega)).mp cp187
              obtain ⟨x1, ex1⟩ : ∃ y : Int32, y = (nI kk) + 1 := ⟨_, rfl⟩
              refine lv_iinc (v := x1) (lv' := [(4, .int x1), (0, .ref h0), (1, .int (nI bd)), (2, .int (nI ci)), (3, .int (nI uu)), (5, .int m5), (6, .int (nI lf)), (7, .int (nI jx))]) hx hb dX7_findFaces_239 hl (k := 4) rfl (by rw [ex1]; rfl) (by decide) rfl (fun ls hl => ?_)
              obtain rfl : x1 = nI (kk + 1) := by rw [ex1]; exact nI_add (kk) 1
              refine lv_goto (tgt := 64) hx hb dX7_findFaces_242 (by decide) ?_
              exact ih64 (kk + 1) rl2 pil2 rwv2 b0 b1 b2 _ _ ls (by omega) hbpil2 hbrwv2 (by omega) (by exact i64_1) (by exact (zM.imp i64_2 (fun k hk hq => by first | exact hq | trivial | omega))) (by exact (zM.imp i64_3 (fun k hk hq => by first | exact hq | trivial | omega))) hP hD hS (lv_sub hl [1, 2, 3, 4, 0] rfl)
            · have qcp187 : ¬ lf = 0 := fun h9 => cp187 ((nI_eq (a := lf) (b := 0) (by omega) (by omega)).mpr h9)
              obtain ⟨m9, hm9, rfl⟩ := i108_2.resolve_left qcp187
              refine lv_aload_n hx hb dX7_findFaces_190 rfl (lv_at hl 0 rfl) ?_
              refine lv_aload_n hx hb dX7_findFaces_191 rfl (lv_at hl 0 rfl) ?_
              refine va_get (D := (dC, dI)) (ci := 6) (v := .int b2) (C := RX7) (T := TX7) (N := 46) hx hb hts hiX7 hown hK hP 0 rfl rfl 45 (by decide) (hts (.fieldLink RX7 285 "LinkModelsModel" "firstOne" "I") (by decide +kernel)) (fun _ h9 => h9) rfl dX7_findFaces_192 ?_
              refine lv_if_ge (tgt := 203) hx hb dX7_findFaces_195 (by decide) (fun cp195 => ?_) (fun cp195 => ?_)
              · obtain ⟨k2, hBk2, hQk2, rfl⟩ := zM.pos' i64_3 cp195
                refine lv_aload_n hx hb dX7_findFaces_203 rfl (lv_at hl 0 rfl) ?_
                refine va_get (D := (dC, dI)) (ci := 6) (v := .int (nI k2)) (C := RX7) (T := TX7) (N := 46) hx hb hts hiX7 hown hK hP 0 rfl rfl 45 (by decide) (hts (.fieldLink RX7 285 "LinkModelsModel" "firstOne" "I") (by decide +kernel)) (fun _ h9 => h9) rfl dX7_findFaces_204 ?_
                refine va_put (D := (dC, dI)) (ci := 6) (v := .int (nI k2)) (ty := (.int)) (C := RX7) (T := TX7) (N := 46) hx hb hts hiX7 tyX7 tyX7_ok nmX7 hown hK hP hD hS 0 rfl rfl 45 (by decide) (hts (.fieldLink RX7 285 "LinkModelsModel" "firstOne" "I") (by decide +kernel)) (fun _ h9 => h9) rfl (by decide +kernel) rfl rfl (Nat.le_of_ble_eq_true rfl) dX7_findFaces_207 (fun H locs hP hD hS => ?_)
                have hP : va_P (dC, dI) vwCl (rW h0 r cI cJ cZ v0 a1 (nI tp) (nI bs) (fun j => nI (cl j)) a5 a6 a7 (fun j => nI (fc j)) a9 (fun j => nI (mb j)) a11 a12 a13 a14 a15 a16 a17 a18 a19 a20 (nI az) v22 v23 v24 v25 v26 (nI bb) (fun j => nI (ct j)) (nI us) a30 a31 a32 a33 a34 a35 a36 a37 (fun j => nI (pil2 j)) (fun j => nI (rwv2 j)) (nI rl2) v41 v42 b0 b1 (nI k2)) H := hP
                have hD : va_D A (rW h0 r cI cJ cZ v0 a1 (nI tp) (nI bs) (fun j => nI (cl j)) a5 a6 a7 (fun j => nI (fc j)) a9 (fun j => nI (mb j)) a11 a12 a13 a14 a15 a16 a17 a18 a19 a20 (nI az) v22 v23 v24 v25 v26 (nI bb) (fun j => nI (ct j)) (nI us) a30 a31 a32 a33 a34 a35 a36 a37 (fun j => nI (pil2 j)) (fun j => nI (rwv2 j)) (nI rl2) v41 v42 b0 b1 (nI k2)) := hD
                refine lv_aload_n hx hb dX7_findFaces_210 rfl (lv_at hl 0 rfl) ?_
                refine va_get (D := (dC, dI)) (ci := 6) (v := .ref (r 14)) (C := RX7) (T := TX7) (N := 46) hx hb hts hiX7 hown hK hP 0 rfl rfl 14 (by decide) (hts (.fieldLink RX7 48 "LinkModelsModel" "marks" "[I") (by decide +kernel)) (fun _ h9 => h9) rfl dX7_findFaces_211 ?_
                refine lv_iload hx hb dX7_findFaces_214 (lv_at hl 5 rfl) ?_
                refine va_iald hx hb hK hP 12 0 rfl rfl (vp_in_nI (show m9 < 960 by omega) (by decide)) dX7_findFaces_216 ?_
                refine lv_topi (fun x3 ex3 => ?_)
                obtain rfl : x3 = a14 m9 := by rw [ex3, nI_clamp (show m9 < 2 ^ 31 by omega)]
                refine lv_bipush (v := 8) hx hb dX7_findFaces_217 (by decide) ?_
                refine lv_iand hx hb dX7_findFaces_219 ?_
                refine lv_topi (fun x4 ex4 => ?_)
                refine lv_if_ne (tgt := 239) hx hb dX7_findFaces_220 (by decide) (fun cp220 => ?_) (fun cp220 => ?_)
                · obtain ⟨x5, ex5⟩ : ∃ y : Int32, y = (nI kk) + 1 := ⟨_, rfl⟩
                  refine lv_iinc (v := x5) (lv' := [(4, .int x5), (0, .ref h0), (1, .int (nI bd)), (2, .int (nI ci)), (3, .int (nI uu)), (5, .int (nI m9)), (6, .int (nI lf)), (7, .int (nI jx))]) hx hb dX7_findFaces_239 hl (k := 4) rfl (by rw [ex5]; rfl) (by decide) rfl (fun ls hl => ?_)
                  obtain rfl : x5 = nI (kk + 1) := by rw [ex5]; exact nI_add (kk) 1
                  refine lv_goto (tgt := 64) hx hb dX7_findFaces_242 (by decide) ?_
                  exact ih64 (kk + 1) rl2 pil2 rwv2 b0 b1 (nI k2) _ _ ls (by omega) hbpil2 hbrwv2 (by omega) (by exact i64_1) (by exact (zM.imp i64_2 (fun k hk hq => by first | exact hq | trivial | omega))) (by exact (zM.mk (by omega) (by first | trivial | omega | assumption | (refine ⟨?_, ?_⟩ <;> first | trivial | omega | assumption)))) hP hD hS (lv_sub hl [1, 2, 3, 4, 0] rfl)
                · refine lv_aload_n hx hb dX7_findFaces_223 rfl (lv_at hl 0 rfl) ?_
                  refine lv_dup hx hb dX7_findFaces_224 rfl ?_
                  refine va_get (D := (dC, dI)) (ci := 6) (v := .int b0) (C := RX7) (T := TX7) (N := 46) hx hb hts hiX7 hown hK hP 0 rfl rfl 43 (by decide) (hts (.fieldLink RX7 279 "LinkModelsModel" "bodies" "I") (by decide +kernel)) (fun _ h9 => h9) rfl dX7_findFaces_225 ?_
                  refine lv_iconst (v := 1) hx hb dX7_findFaces_228 (by decide) ?_
                  refine lv_iadd hx hb dX7_findFaces_229 ?_
                  refine lv_topi (fun x6 ex6 => ?_)
                  refine va_put (D := (dC, dI)) (ci := 6) (v := .int x6) (ty := (.int)) (C := RX7) (T := TX7) (N := 46) hx hb hts hiX7 tyX7 tyX7_ok nmX7 hown hK hP hD hS 0 rfl rfl 43 (by decide) (hts (.fieldLink RX7 279 "LinkModelsModel" "bodies" "I") (by decide +kernel)) (fun _ h9 => h9) rfl (by decide +kernel) rfl rfl (Nat.le_of_ble_eq_true rfl) dX7_findFaces_230 (fun H locs hP hD hS => ?_)
                  have hP : va_P (dC, dI) vwCl (rW h0 r cI cJ cZ v0 a1 (nI tp) (nI bs) (fun j => nI (cl j)) a5 a6 a7 (fun j => nI (fc j)) a9 (fun j => nI (mb j)) a11 a12 a13 a14 a15 a16 a17 a18 a19 a20 (nI az) v22 v23 v24 v25 v26 (nI bb) (fun j => nI (ct j)) (nI us) a30 a31 a32 a33 a34 a35 a36 a37 (fun j => nI (pil2 j)) (fun j => nI (rwv2 j)) (nI rl2) v41 v42 x6 b1 (nI k2)) H := hP
                  have hD : va_D A (rW h0 r cI cJ cZ v0 a1 (nI tp) (nI bs) (fun j => nI (cl j)) a5 a6 a7 (fun j => nI (fc j)) a9 (fun j => nI (mb j)) a11 a12 a13 a14 a15 a16 a17 a18 a19 a20 (nI az) v22 v23 v24 v25 v26 (nI bb) (fun j => nI (ct j)) (nI us) a30 a31 a32 a33 a34 a35 a36 a37 (fun j => nI (pil2 j)) (fun j => nI (rwv2 j)) (nI rl2) v41 v42 x6 b1 (nI k2)) := hD
                  refine lv_aload_n hx hb dX7_findFaces_233 rfl (lv_at hl 0 rfl) ?_
                  refine lv_iload hx hb dX7_findFaces_234 (lv_at hl 5 rfl) ?_
                  refine va_put (D := (dC, dI)) (ci := 6) (v := .int (nI m9)) (ty := (.int)) (C := RX7) (T := TX7) (N := 46) hx hb hts hiX7 tyX7 tyX7_ok nmX7 hown hK hP hD hS 0 rfl rfl 44 (by decide) (hts (.fieldLink RX7 282 "LinkModelsModel" "bodied" "I") (by decide +kernel)) (fun _ h9 => h9) rfl (by decide +kernel) rfl rfl (Nat.le_of_ble_eq_true rfl) dX7_findFaces_236 (fun H locs hP hD hS => ?_)
                  have hP : va_P (dC, dI) vwCl (rW h0 r cI cJ cZ v0 a1 (nI tp) (nI bs) (fun j => nI (cl j)) a5 a6 a7 (fun j => nI (fc j)) a9 (fun j => nI (mb j)) a11 a12 a13 a14 a15 a16 a17 a18 a19 a20 (nI az) v22 v23 v24 v25 v26 (nI bb) (fun j => nI (ct j)) (nI us) a30 a31 a32 a33 a34 a35 a36 a37 (fun j => nI (pil2 j)) (fun j => nI (rwv2 j)) (nI rl2) v41 v42 x6 (nI m9) (nI k2)) H := hP
                  have hD : va_D A (rW h0 r cI cJ cZ v0 a1 (nI tp) (nI bs) (fun j => nI (cl j)) a5 a6 a7 (fun j => nI (fc j)) a9 (fun j => nI (mb j)) a11 a12 a13 a14 a15 a16 a17 a18 a19 a20 (nI az) v22 v23 v24 v25 v26 (nI bb) (fun j => nI (ct j)) (nI us) a30 a31 a32 a33 a34 a35 a36 a37 (fun j => nI (pil2 j)) (fun j => nI (rwv2 j)) (nI rl2) v41 v42 x6 (nI m9) (nI k2)) := hD
                  obtain ⟨x7, ex7⟩ : ∃ y : Int32, y = (nI kk) + 1 := ⟨_, rfl⟩
                  refine lv_iinc (v := x7) (lv' := [(4, .int x7), (0, .ref h0), (1, .int (nI bd)), (2, .int (nI ci)), (3, .int (nI uu)), (5, .int (nI m9)), (6, .int (nI lf)), (7, .int (nI jx))]) hx hb dX7_findFaces_239 hl (k := 4) rfl (by rw [ex7]; rfl) (by decide) rfl (fun ls hl => ?_)
                  obtain rfl : x7 = nI (kk + 1) := by rw [ex7]; exact nI_add (kk) 1
                  refine lv_goto (tgt := 64) hx hb dX7_findFaces_242 (by decide) ?_
                  exact ih64 (kk + 1) rl2 pil2 rwv2 x6 (nI m9) (nI k2) _ _ ls (by omega) hbpil2 hbrwv2 (by omega) (by exact i64_1) (by exact (zM.mk (by omega) (by first | trivial | omega | assumption | (refine ⟨?_, ?_⟩ <;> first | trivial | omega | assumption)))) (by exact (zM.mk (by omega) (by first | trivial | omega | assumption | (refine ⟨?_, ?_⟩ <;> first | trivial | omega | assumption)))) hP hD hS (lv_sub hl [1, 2, 3, 4, 0] rfl)
              · obtain rfl : b2 = -1 := zM.neg' i64_3 cp195
                refine lv_iload hx hb dX7_findFaces_198 (lv_at hl 5 rfl) ?_
                refine lv_goto (tgt := 207) hx hb dX7_findFaces_200 (by decide) ?_
                refine va_put (D := (dC, dI)) (ci := 6) (v := .int (nI m9)) (ty := (.int)) (C := RX7) (T := TX7) (N := 46) hx hb hts hiX7 tyX7 tyX7_ok nmX7 hown hK hP hD hS 0 rfl rfl 45 (by decide) (hts (.fieldLink RX7 285 "LinkModelsModel" "firstOne" "I") (by decide +kernel)) (fun _ h9 => h9) rfl (by decide +kernel) rfl rfl (Nat.le_of_ble_eq_true rfl) dX7_findFaces_207 (fun H locs hP hD hS => ?_)
                have hP : va_P (dC, dI) vwCl (rW h0 r cI cJ cZ v0 a1 (nI tp) (nI bs) (fun j => nI (cl j)) a5 a6 a7 (fun j => nI (fc j)) a9 (fun j => nI (mb j)) a11 a12 a13 a14 a15 a16 a17 a18 a19 a20 (nI az) v22 v23 v24 v25 v26 (nI bb) (fun j => nI (ct j)) (nI us) a30 a31 a32 a33 a34 a35 a36 a37 (fun j => nI (pil2 j)) (fun j => nI (rwv2 j)) (nI rl2) v41 v42 b0 b1 (nI m9)) H := hP
                have hD : va_D A (rW h0 r cI cJ cZ v0 a1 (nI tp) (nI bs) (fun j => nI (cl j)) a5 a6 a7 (fun j => nI (fc j)) a9 (fun j => nI (mb j)) a11 a12 a13 a14 a15 a16 a17 a18 a19 a20 (nI az) v22 v23 v24 v25 v26 (nI bb) (fun j => nI (ct j)) (nI us) a30 a31 a32 a33 a34 a35 a36 a37 (fun j => nI (pil2 j)) (fun j => nI (rwv2 j)) (nI rl2) v41 v42 b0 b1 (nI m9)) := hD
                refine lv_aload_n hx hb dX7_findFaces_210 rfl (lv_at hl 0 rfl) ?_
                refine va_get (D := (dC, dI)) (ci := 6) (v := .ref (r 14)) (C := RX7) (T := TX7) (N := 46) hx hb hts hiX7 hown hK hP 0 rfl rfl 14 (by decide) (hts (.fieldLink RX7 48 "LinkModelsModel" "marks" "[I") (by decide +kernel)) (fun _ h9 => h9) rfl dX7_findFaces_211 ?_
                refine lv_iload hx hb dX7_findFaces_214 (lv_at hl 5 rfl) ?_
                refine va_iald hx hb hK hP 12 0 rfl rfl (vp_in_nI (show m9 < 960 by omega) (by decide)) dX7_findFaces_216 ?_
                refine lv_topi (fun x8 ex8 => ?_)
                obtain rfl : x8 = a14 m9 := by rw [ex8, nI_clamp (show m9 < 2 ^ 31 by omega)]
                refine lv_bipush (v := 8) hx hb dX7_findFaces_217 (by decide) ?_
                refine lv_iand hx hb dX7_findFaces_219 ?_
                refine lv_topi (fun x9 ex9 => ?_)
                refine lv_if_ne (tgt := 239) hx hb dX7_findFaces_220 (by decide) (fun cp220 => ?_) (fun cp220 => ?_)
                · obtain ⟨x10, ex10⟩ : ∃ y : Int32, y = (nI kk) + 1 := ⟨_, rfl⟩
                  refine lv_iinc (v := x10) (lv' := [(4, .int x10), (0, .ref h0), (1, .int (nI bd)), (2, .int (nI ci)), (3, .int (nI uu)), (5, .int (nI m9)), (6, .int (nI lf)), (7, .int (nI jx))]) hx hb dX7_findFaces_239 hl (k := 4) rfl (by rw [ex10]; rfl) (by decide) rfl (fun ls hl => ?_)
                  obtain rfl : x10 = nI (kk + 1) := by rw [ex10]; exact nI_add (kk) 1
                  refine lv_goto (tgt := 64) hx hb dX7_findFaces_242 (by decide) ?_
                  exact ih64 (kk + 1) rl2 pil2 rwv2 b0 b1 (nI m9) _ _ ls (by omega) hbpil2 hbrwv2 (by omega) (by exact i64_1) (by exact (zM.imp i64_2 (fun k hk hq => by first | exact hq | trivial | omega))) (by exact (zM.mk (by omega) (by first | trivial | omega | assumption | (refine ⟨?_, ?_⟩ <;> first | trivial | omega | assumption)))) hP hD hS (lv_sub hl [1, 2, 3, 4, 0] rfl)
                · refine lv_aload_n hx hb dX7_findFaces_223 rfl (lv_at hl 0 rfl) ?_
                  refine lv_dup hx hb dX7_findFaces_224 rfl ?_
                  refine va_get (D := (dC, dI)) (ci := 6) (v := .int b0) (C := RX7) (T := TX7) (N := 46) hx hb hts hiX7 hown hK hP 0 rfl rfl 43 (by decide) (hts (.fieldLink RX7 279 "LinkModelsModel" "bodies" "I") (by decide +kernel)) (fun _ h9 => h9) rfl dX7_findFaces_225 ?_
                  refine lv_iconst (v := 1) hx hb dX7_findFaces_228 (by decide) ?_
                  refine lv_iadd hx hb dX7_findFaces_229 ?_
                  refine lv_topi (fun x11 ex11 => ?_)
                  refine va_put (D := (dC, dI)) (ci := 6) (v := .int x11) (ty := (.int)) (C := RX7) (T := TX7) (N := 46) hx hb hts hiX7 tyX7 tyX7_ok nmX7 hown hK hP hD hS 0 rfl rfl 43 (by decide) (hts (.fieldLink RX7 279 "LinkModelsModel" "bodies" "I") (by decide +kernel)) (fun _ h9 => h9) rfl (by decide +kernel) rfl rfl (Nat.le_of_ble_eq_true rfl) dX7_findFaces_230 (fun H locs hP hD hS => ?_)
                  have hP : va_P (dC, dI) vwCl (rW h0 r cI cJ cZ v0 a1 (nI tp) (nI bs) (fun j => nI (cl j)) a5 a6 a7 (fun j => nI (fc j)) a9 (fun j => nI (mb j)) a11 a12 a13 a14 a15 a16 a17 a18 a19 a20 (nI az) v22 v23 v24 v25 v26 (nI bb) (fun j => nI (ct j)) (nI us) a30 a31 a32 a33 a34 a35 a36 a37 (fun j => nI (pil2 j)) (fun j => nI (rwv2 j)) (nI rl2) v41 v42 x11 b1 (nI m9)) H := hP
                  have hD : va_D A (rW h0 r cI cJ cZ v0 a1 (nI tp) (nI bs) (fun j => nI (cl j)) a5 a6 a7 (fun j => nI (fc j)) a9 (fun j => nI (mb j)) a11 a12 a13 a14 a15 a16 a17 a18 a19 a20 (nI az) v22 v23 v24 v25 v26 (nI bb) (fun j => nI (ct j)) (nI us) a30 a31 a32 a33 a34 a35 a36 a37 (fun j => nI (pil2 j)) (fun j => nI (rwv2 j)) (nI rl2) v41 v42 x11 b1 (nI m9)) := hD
                  refine lv_aload_n hx hb dX7_findFaces_233 rfl (lv_at hl 0 rfl) ?_
                  refine lv_iload hx hb dX7_findFaces_234 (lv_at hl 5 rfl) ?_
                  refine va_put (D := (dC, dI)) (ci := 6) (v := .int (nI m9)) (ty := (.int)) (C := RX7) (T := TX7) (N := 46) hx hb hts hiX7 tyX7 tyX7_ok nmX7 hown hK hP hD hS 0 rfl rfl 44 (by decide) (hts (.fieldLink RX7 282 "LinkModelsModel" "bodied" "I") (by decide +kernel)) (fun _ h9 => h9) rfl (by decide +kernel) rfl rfl (Nat.le_of_ble_eq_true rfl) dX7_findFaces_236 (fun H locs hP hD hS => ?_)
                  have hP : va_P (dC, dI) vwCl (rW h0 r cI cJ cZ v0 a1 (nI tp) (nI bs) (fun j => nI (cl j)) a5 a6 a7 (fun j => nI (fc j)) a9 (fun j => nI (mb j)) a11 a12 a13 a14 a15 a16 a17 a18 a19 a20 (nI az) v22 v23 v24 v25 v26 (nI bb) (fun j => nI (ct j)) (nI us) a30 a31 a32 a33 a34 a35 a36 a37 (fun j => nI (pil2 j)) (fun j => nI (rwv2 j)) (nI rl2) v41 v42 x11 (nI m9) (nI m9)) H := hP
                  have hD : va_D A (rW h0 r cI cJ cZ v0 a1 (nI tp) (nI bs) (fun j => nI (cl j)) a5 a6 a7 (fun j => nI (fc j)) a9 (fun j => nI (mb j)) a11 a12 a13 a14 a15 a16 a17 a18 a19 a20 (nI az) v22 v23 v24 v25 v26 (nI bb) (fun j => nI (ct j)) (nI us) a30 a31 a32 a33 a34 a35 a36 a37 (fun j => nI (pil2 j)) (fun j => nI (rwv2 j)) (nI rl2) v41 v42 x11 (nI m9) (nI m9)) := hD
                  obtain ⟨x12, ex12⟩ : ∃ y : Int32, y = (nI kk) + 1 := ⟨_, rfl⟩
                  refine lv_iinc (v := x12) (lv' := [(4, .int x12), (0, .ref h0), (1, .int (nI bd)), (2, .int (nI ci)), (3, .int (nI uu)), (5, .int (nI m9)), (6, .int (nI lf)), (7, .int (nI jx))]) hx hb dX7_findFaces_239 hl (k := 4) rfl (by rw [ex12]; rfl) (by decide) rfl (fun ls hl => ?_)
                  obtain rfl : x12 = nI (kk + 1) := by rw [ex12]; exact nI_add (kk) 1
                  refine lv_goto (tgt := 64) hx hb dX7_findFaces_242 (by decide) ?_
                  exact ih64 (kk + 1) rl2 pil2 rwv2 x11 (nI m9) (nI m9) _ _ ls (by omega) hbpil2 hbrwv2 (by omega) (by exact i64_1) (by exact (zM.mk (by omega) (by first | trivial | omega | assumption | (refine ⟨?_, ?_⟩ <;> first | trivial | omega | assumption)))) (by exact (zM.mk (by omega) (by first | trivial | omega | assumption | (refine ⟨?_, ?_⟩ <;> first | trivial | omega | assumption)))) hP hD hS (lv_sub hl [1, 2, 3, 4, 0] rfl)
          · have qcp114 : ¬ rl2 ≤ jx := fun h9 => cp114 ((nI_leI (a := rl2) (b := jx) (by omega) (by omega)).mpr h9)
            refine lv_iload hx hb dX7_findFaces_117 (lv_at hl 6 rfl) ?_
            refine lv_if_eq (tgt := 185) hx hb dX7_findFaces_119 (by decide) (fun cp119 => ?_) (fun cp119 => ?_)
            · have qcp119 : lf = 0 := (nI_eq (a := lf) (b := 0) (by omega) (by omega)).mp cp119
              refine lv_iload hx hb dX7_findFaces_185 (lv_at hl 6 rfl) ?_
              refine lv_if_eq (tgt := 239) hx hb dX7_findFaces_187 (by decide) (fun cp187 => ?_) (fun cp187 => ?_)
              · have qcp187 : lf = 0 := (nI_eq (a := lf) (b := 0) (by omega) (by omega)).mp cp187
                obtain ⟨x13, ex13⟩ : ∃ y : Int32, y = (nI kk) + 1 := ⟨_, rfl⟩
                refine lv_iinc (v := x13) (lv' := [(4, .int x13), (0, .ref h0), (1, .int (nI bd)), (2, .int (nI ci)), (3, .int (nI uu)), (5, .int m5), (6, .int (nI lf)), (7, .int (nI jx))]) hx hb dX7_findFaces_239 hl (k := 4) rfl (by rw [ex13]; rfl) (by decide) rfl (fun ls hl => ?_)
                obtain rfl : x13 = nI (kk + 1) := by rw [ex13]; exact nI_add (kk) 1
                refine lv_goto (tgt := 64) hx hb dX7_findFaces_242 (by decide) ?_
                exact ih64 (kk + 1) rl2 pil2 rwv2 b0 b1 b2 _ _ ls (by omega) hbpil2 hbrwv2 (by omega) (by exact i64_1) (by exact (zM.imp i64_2 (fun k hk hq => by first | exact hq | trivial | omega))) (by exact (zM.imp i64_3 (fun k hk hq => by first | exact hq | trivial | omega))) hP hD hS (lv_sub hl [1, 2, 3, 4, 0] rfl)
              · have qcp187 : ¬ lf = 0 := fun h9 => cp187 ((nI_eq (a := lf) (b := 0) (by omega) (by omega)).mpr h9)
                obtain ⟨m9, hm9, rfl⟩ := i108_2.resolve_left qcp187
                refine lv_aload_n hx hb dX7_findFaces_190 rfl (lv_at hl 0 rfl) ?_
                refine lv_aload_n hx hb dX7_findFaces_191 rfl (lv_at hl 0 rfl) ?_
                refine va_get (D := (dC, dI)) (ci := 6) (v := .int b2) (C := RX7) (T := TX7) (N := 46) hx hb hts hiX7 hown hK hP 0 rfl rfl 45 (by decide) (hts (.fieldLink RX7 285 "LinkModelsModel" "firstOne" "I") (by decide +kernel)) (fun _ h9 => h9) rfl dX7_findFaces_192 ?_
                refine lv_if_ge (tgt := 203) hx hb dX7_findFaces_195 (by decide) (fun cp195 => ?_) (fun cp195 => ?_)
                · obtain ⟨k14, hBk14, hQk14, rfl⟩ := zM.pos' i64_3 cp195
                  refine lv_aload_n hx hb dX7_findFaces_203 rfl (lv_at hl 0 rfl) ?_
                  refine va_get (D := (dC, dI)) (ci := 6) (v := .int (nI k14)) (C := RX7) (T := TX7) (N := 46) hx hb hts hiX7 hown hK hP 0 rfl rfl 45 (by decide) (hts (.fieldLink RX7 285 "LinkModelsModel" "firstOne" "I") (by decide +kernel)) (fun _ h9 => h9) rfl dX7_findFaces_204 ?_
                  refine va_put (D := (dC, dI)) (ci := 6) (v := .int (nI k14)) (ty := (.int)) (C := RX7) (T := TX7) (N := 46) hx hb hts hiX7 tyX7 tyX7_ok nmX7 hown hK hP hD hS 0 rfl rfl 45 (by decide) (hts (.fieldLink RX7 285 "LinkModelsModel" "firstOne" "I") (by decide +kernel)) (fun _ h9 => h9) rfl (by decide +kernel) rfl rfl (Nat.le_of_ble_eq_true rfl) dX7_findFaces_207 (fun H locs hP hD hS => ?_)
                  have hP : va_P (dC, dI) vwCl (rW h0 r cI cJ cZ v0 a1 (nI tp) (nI bs) (fun j => nI (cl j)) a5 a6 a7 (fun j => nI (fc j)) a9 (fun j => nI (mb j)) a11 a12 a13 a14 a15 a16 a17 a18 a19 a20 (nI az) v22 v23 v24 v25 v26 (nI bb) (fun j => nI (ct j)) (nI us) a30 a31 a32 a33 a34 a35 a36 a37 (fun j => nI (pil2 j)) (fun j => nI (rwv2 j)) (nI rl2) v41 v42 b0 b1 (nI k14)) H := hP
                  have hD : va_D A (rW h0 r cI cJ cZ v0 a1 (nI tp) (nI bs) (fun j => nI (cl j)) a5 a6 a7 (fun j => nI (fc j)) a9 (fun j => nI (mb j)) a11 a12 a13 a14 a15 a16 a17 a18 a19 a20 (nI az) v22 v23 v24 v25 v26 (nI bb) (fun j => nI (ct j)) (nI us) a30 a31 a32 a33 a34 a35 a36 a37 (fun j => nI (pil2 j)) (fun j => nI (rwv2 j)) (nI rl2) v41 v42 b0 b1 (nI k14)) := hD
                  refine lv_aload_n hx hb dX7_findFaces_210 rfl (lv_at hl 0 rfl) ?_
                  refine va_get (D := (dC, dI)) (ci := 6) (v := .ref (r 14)) (C := RX7) (T := TX7) (N := 46) hx hb hts hiX7 hown hK hP 0 rfl rfl 14 (by decide) (hts (.fieldLink RX7 48 "LinkModelsModel" "marks" "[I") (by decide +kernel)) (fun _ h9 => h9) rfl dX7_findFaces_211 ?_
                  refine lv_iload hx hb dX7_findFaces_214 (lv_at hl 5 rfl) ?_
                  refine va_iald hx hb hK hP 12 0 rfl rfl (vp_in_nI (show m9 < 960 by omega) (by decide)) dX7_findFaces_216 ?_
                  refine lv_topi (fun x15 ex15 => ?_)
                  obtain rfl : x15 = a14 m9 := by rw [ex15, nI_clamp (show m9 < 2 ^ 31 by omega)]
                  refine lv_bipush (v := 8) hx hb dX7_findFaces_217 (by decide) ?_
                  refine lv_iand hx hb dX7_findFaces_219 ?_
                  refine lv_topi (fun x16 ex16 => ?_)
                  refine lv_if_ne (tgt := 239) hx hb dX7_findFaces_220 (by decide) (fun cp220 => ?_) (fun cp220 => ?_)
                  · obtain ⟨x17, ex17⟩ : ∃ y : Int32, y = (nI kk) + 1 := ⟨_, rfl⟩
                    refine lv_iinc (v := x17) (lv' := [(4, .int x17), (0, .ref h0), (1, .int (nI bd)), (2, .int (nI ci)), (3, .int (nI uu)), (5, .int (nI m9)), (6, .int (nI lf)), (7, .int (nI jx))]) hx hb dX7_findFaces_239 hl (k := 4) rfl (by rw [ex17]; rfl) (by decide) rfl (fun ls hl => ?_)
                    obtain rfl : x17 = nI (kk + 1) := by rw [ex17]; exact nI_add (kk) 1
                    refine lv_goto (tgt := 64) hx hb dX7_findFaces_242 (by decide) ?_
                    exact ih64 (kk + 1) rl2 pil2 rwv2 b0 b1 (nI k14) _ _ ls (by omega) hbpil2 hbrwv2 (by omega) (by exact i64_1) (by exact (zM.imp i64_2 (fun k hk hq => by first | exact hq | trivial | omega))) (by exact (zM.mk (by omega) (by first | trivial | omega | assumption | (refine ⟨?_, ?_⟩ <;> first | trivial | omega | assumption)))) hP hD hS (lv_sub hl [1, 2, 3, 4, 0] rfl)
                  · refine lv_aload_n hx hb dX7_findFaces_223 rfl (lv_at hl 0 rfl) ?_
                    refine lv_dup hx hb dX7_findFaces_224 rfl ?_
                    refine va_get (D := (dC, dI)) (ci := 6) (v := .int b0) (C := RX7) (T := TX7) (N := 46) hx hb hts hiX7 hown hK hP 0 rfl rfl 43 (by decide) (hts (.fieldLink RX7 279 "LinkModelsModel" "bodies" "I") (by decide +kernel)) (fun _ h9 => h9) rfl dX7_findFaces_225 ?_
                    refine lv_iconst (v := 1) hx hb dX7_findFaces_228 (by decide) ?_
                    refine lv_iadd hx hb dX7_findFaces_229 ?_
                    refine lv_topi (fun x18 ex18 => ?_)
                    refine va_put (D := (dC, dI)) (ci := 6) (v := .int x18) (ty := (.int)) (C := RX7) (T := TX7) (N := 46) hx hb hts hiX7 tyX7 tyX7_ok nmX7 hown hK hP hD hS 0 rfl rfl 43 (by decide) (hts (.fieldLink RX7 279 "LinkModelsModel" "bodies" "I") (by decide +kernel)) (fun _ h9 => h9) rfl (by decide +kernel) rfl rfl (Nat.le_of_ble_eq_true rfl) dX7_findFaces_230 (fun H locs hP hD hS => ?_)
                    have hP : va_P (dC, dI) vwCl (rW h0 r cI cJ cZ v0 a1 (nI tp) (nI bs) (fun j => nI (cl j)) a5 a6 a7 (fun j => nI (fc j)) a9 (fun j => nI (mb j)) a11 a12 a13 a14 a15 a16 a17 a18 a19 a20 (nI az) v22 v23 v24 v25 v26 (nI bb) (fun j => nI (ct j)) (nI us) a30 a31 a32 a33 a34 a35 a36 a37 (fun j => nI (pil2 j)) (fun j => nI (rwv2 j)) (nI rl2) v41 v42 x18 b1 (nI k14)) H := hP
                    have hD : va_D A (rW h0 r cI cJ cZ v0 a1 (nI tp) (nI bs) (fun j => nI (cl j)) a5 a6 a7 (fun j => nI (fc j)) a9 (fun j => nI (mb j)) a11 a12 a13 a14 a15 a16 a17 a18 a19 a20 (nI az) v22 v23 v24 v25 v26 (nI bb) (fun j => nI (ct j)) (nI us) a30 a31 a32 a33 a34 a35 a36 a37 (fun j => nI (pil2 j)) (fun j => nI (rwv2 j)) (nI rl2) v41 v42 x18 b1 (nI k14)) := hD
                    refine lv_aload_n hx hb dX7_findFaces_233 rfl (lv_at hl 0 rfl) ?_
                    refine lv_iload hx hb dX7_findFaces_234 (lv_at hl 5 rfl) ?_
                    refine va_put (D := (dC, dI)) (ci := 6) (v := .int (nI m9)) (ty := (.int)) (C := RX7) (T := TX7) (N := 46) hx hb hts hiX7 tyX7 tyX7_ok nmX7 hown hK hP hD hS 0 rfl rfl 44 (by decide) (hts (.fieldLink RX7 282 "LinkModelsModel" "bodied" "I") (by decide +kernel)) (fun _ h9 => h9) rfl (by decide +kernel) rfl rfl (Nat.le_of_ble_eq_true rfl) dX7_findFaces_236 (fun H locs hP hD hS => ?_)
                    have hP : va_P (dC, dI) vwCl (rW h0 r cI cJ cZ v0 a1 (nI tp) (nI bs) (fun j => nI (cl j)) a5 a6 a7 (fun j => nI (fc j)) a9 (fun j => nI (mb j)) a11 a12 a13 a14 a15 a16 a17 a18 a19 a20 (nI az) v22 v23 v24 v25 v26 (nI bb) (fun j => nI (ct j)) (nI us) a30 a31 a32 a33 a34 a35 a36 a37 (fun j => nI (pil2 j)) (fun j => nI (rwv2 j)) (nI rl2) v41 v42 x18 (nI m9) (nI k14)) H := hP
                    have hD : va_D A (rW h0 r cI cJ cZ v0 a1 (nI tp) (nI bs) (fun j => nI (cl j)) a5 a6 a7 (fun j => nI (fc j)) a9 (fun j => nI (mb j)) a11 a12 a13 a14 a15 a16 a17 a18 a19 a20 (nI az) v22 v23 v24 v25 v26 (nI bb) (fun j => nI (ct j)) (nI us) a30 a31 a32 a33 a34 a35 a36 a37 (fun j => nI (pil2 j)) (fun j => nI (rwv2 j)) (nI rl2) v41 v42 x18 (nI m9) (nI k14)) := hD
                    obtain ⟨x19, ex19⟩ : ∃ y : Int32, y = (nI kk) + 1 := ⟨_, rfl⟩
                    refine lv_iinc (v := x19) (lv' := [(4, .int x19), (0, .ref h0), (1, .int (nI bd)), (2, .int (nI ci)), (3, .int (nI uu)), (5, .int (nI m9)), (6, .int (nI lf)), (7, .int (nI jx))]) hx hb dX7_findFaces_239 hl (k := 4) rfl (by rw [ex19]; rfl) (by decide) rfl (fun ls hl => ?_)
                    obtain rfl : x19 = nI (kk + 1) := by rw [ex19]; exact nI_add (kk) 1
                    refine lv_goto (tgt := 64) hx hb dX7_findFaces_242 (by decide) ?_
                    exact ih64 (kk + 1) rl2 pil2 rwv2 x18 (nI m9) (nI k14) _ _ ls (by omega) hbpil2 hbrwv2 (by omega) (by exact i64_1) (by exact (zM.mk (by omega) (by first | trivial | omega | assumption | (refine ⟨?_, ?_⟩ <;> first | trivial | omega | assumption)))) (by exact (zM.mk (by omega) (by first | trivial | omega | assumption | (refine ⟨?_, ?_⟩ <;> first | trivial | omega | assumption)))) hP hD hS (lv_sub hl [1, 2, 3, 4, 0] rfl)
                · obtain rfl : b2 = -1 := zM.neg' i64_3 cp195
                  refine lv_iload hx hb dX7_findFaces_198 (lv_at hl 5 rfl) ?_
                  refine lv_goto (tgt := 207) hx hb dX7_findFaces_200 (by decide) ?_
                  refine va_put (D := (dC, dI)) (ci := 6) (v := .int (nI m9)) (ty := (.int)) (C := RX7) (T := TX7) (N := 46) hx hb hts hiX7 tyX7 tyX7_ok nmX7 hown hK hP hD hS 0 rfl rfl 45 (by decide) (hts (.fieldLink RX7 285 "LinkModelsModel" "firstOne" "I") (by decide +kernel)) (fun _ h9 => h9) rfl (by decide +kernel) rfl rfl (Nat.le_of_ble_eq_true rfl) dX7_findFaces_207 (fun H locs hP hD hS => ?_)
                  have hP : va_P (dC, dI) vwCl (rW h0 r cI cJ cZ v0 a1 (nI tp) (nI bs) (fun j => nI (cl j)) a5 a6 a7 (fun j => nI (fc j)) a9 (fun j => nI (mb j)) a11 a12 a13 a14 a15 a16 a17 a18 a19 a20 (nI az) v22 v23 v24 v25 v26 (nI bb) (fun j => nI (ct j)) (nI us) a30 a31 a32 a33 a34 a35 a36 a37 (fun j => nI (pil2 j)) (fun j => nI (rwv2 j)) (nI rl2) v41 v42 b0 b1 (nI m9)) H := hP
                  have hD : va_D A (rW h0 r cI cJ cZ v0 a1 (nI tp) (nI bs) (fun j => nI (cl j)) a5 a6 a7 (fun j => nI (fc j)) a9 (fun j => nI (mb j)) a11 a12 a13 a14 a15 a16 a17 a18 a19 a20 (nI az) v22 v23 v24 v25 v26 (nI bb) (fun j => nI (ct j)) (nI us) a30 a31 a32 a33 a34 a35 a36 a37 (fun j => nI (pil2 j)) (fun j => nI (rwv2 j)) (nI rl2) v41 v42 b0 b1 (nI m9)) := hD
                  refine lv_aload_n hx hb dX7_findFaces_210 rfl (lv_at hl 0 rfl) ?_
                  refine va_get (D := (dC, dI)) (ci := 6) (v := .ref (r 14)) (C := RX7) (T := TX7) (N := 46) hx hb hts hiX7 hown hK hP 0 rfl rfl 14 (by decide) (hts (.fieldLink RX7 48 "LinkModelsModel" "marks" "[I") (by decide +kernel)) (fun _ h9 => h9) rfl dX7_findFaces_211 ?_
                  refine lv_iload hx hb dX7_findFaces_214 (lv_at hl 5 rfl) ?_
                  refine va_iald hx hb hK hP 12 0 rfl rfl (vp_in_nI (show m9 < 960 by omega) (by decide)) dX7_findFaces_216 ?_
                  refine lv_topi (fun x20 ex20 => ?_)
                  obtain rfl : x20 = a14 m9 := by rw [ex20, nI_clamp (show m9 < 2 ^ 31 by omega)]
                  refine lv_bipush (v := 8) hx hb dX7_findFaces_217 (by decide) ?_
                  refine lv_iand hx hb dX7_findFaces_219 ?_
                  refine lv_topi (fun x21 ex21 => ?_)
                  refine lv_if_ne (tgt := 239) hx hb dX7_findFaces_220 (by decide) (fun cp220 => ?_) (fun cp220 => ?_)
                  · obtain ⟨x22, ex22⟩ : ∃ y : Int32, y = (nI kk) + 1 := ⟨_, rfl⟩
                    refine lv_iinc (v := x22) (lv' := [(4, .int x22), (0, .ref h0), (1, .int (nI bd)), (2, .int (nI ci)), (3, .int (nI uu)), (5, .int (nI m9)), (6, .int (nI lf)), (7, .int (nI jx))]) hx hb dX7_findFaces_239 hl (k := 4) rfl (by rw [ex22]; rfl) (by decide) rfl (fun ls hl => ?_)
                    obtain rfl : x22 = nI (kk + 1) := by rw [ex22]; exact nI_add (kk) 1
                    refine lv_goto (tgt := 64) hx hb dX7_findFaces_242 (by decide) ?_
                    exact ih64 (kk + 1) rl2 pil2 rwv2 b0 b1 (nI m9) _ _ ls (by omega) hbpil2 hbrwv2 (by omega) (by exact i64_1) (by exact (zM.imp i64_2 (fun k hk hq => by first | exact hq | trivial | omega))) (by exact (zM.mk (by omega) (by first | trivial | omega | assumption | (refine ⟨?_, ?_⟩ <;> first | trivial | omega | assumption)))) hP hD hS (lv_sub hl [1, 2, 3, 4, 0] rfl)
                  · refine lv_aload_n hx hb dX7_findFaces_223 rfl (lv_at hl 0 rfl) ?_
                    refine lv_dup hx hb dX7_findFaces_224 rfl ?_
                    refine va_get (D := (dC, dI)) (ci := 6) (v := .int b0) (C := RX7) (T := TX7) (N := 46) hx hb hts hiX7 hown hK hP 0 rfl rfl 43 (by decide) (hts (.fieldLink RX7 279 "LinkModelsModel" "bodies" "I") (by decide +kernel)) (fun _ h9 => h9) rfl dX7_findFaces_225 ?_
                    refine lv_iconst (v := 1) hx hb dX7_findFaces_228 (by decide) ?_
                    refine lv_iadd hx hb dX7_findFaces_229 ?_
                    refine lv_topi (fun x23 ex23 => ?_)
                    refine va_put (D := (dC, dI)) (ci := 6) (v := .int x23) (ty := (.int)) (C := RX7) (T := TX7) (N := 46) hx hb hts hiX7 tyX7 tyX7_ok nmX7 hown hK hP hD hS 0 rfl rfl 43 (by decide) (hts (.fieldLink RX7 279 "LinkModelsModel" "bodies" "I") (by decide +kernel)) (fun _ h9 => h9) rfl (by decide +kernel) rfl rfl (Nat.le_of_ble_eq_true rfl) dX7_findFaces_230 (fun H locs hP hD hS => ?_)
                    have hP : va_P (dC, dI) vwCl (rW h0 r cI cJ cZ v0 a1 (nI tp) (nI bs) (fun j => nI (cl j)) a5 a6 a7 (fun j => nI (fc j)) a9 (fun j => nI (mb j)) a11 a12 a13 a14 a15 a16 a17 a18 a19 a20 (nI az) v22 v23 v24 v25 v26 (nI bb) (fun j => nI (ct j)) (nI us) a30 a31 a32 a33 a34 a35 a36 a37 (fun j => nI (pil2 j)) (fun j => nI (rwv2 j)) (nI rl2) v41 v42 x23 b1 (nI m9)) H := hP
                    have hD : va_D A (rW h0 r cI cJ cZ v0 a1 (nI tp) (nI bs) (fun j => nI (cl j)) a5 a6 a7 (fun j => nI (fc j)) a9 (fun j => nI (mb j)) a11 a12 a13 a14 a15 a16 a17 a18 a19 a20 (nI az) v22 v23 v24 v25 v26 (nI bb) (fun j => nI (ct j)) (nI us) a30 a31 a32 a33 a34 a35 a36 a37 (fun j => nI (pil2 j)) (fun j => nI (rwv2 j)) (nI rl2) v41 v42 x23 b1 (nI m9)) := hD
                    refine lv_aload_n hx hb dX7_findFaces_233 rfl (lv_at hl 0 rfl) ?_
                    refine lv_iload hx hb dX7_findFaces_234 (lv_at hl 5 rfl) ?_
                    refine va_put (D := (dC, dI)) (ci := 6) (v := .int (nI m9)) (ty := (.int)) (C := RX7) (T := TX7) (N := 46) hx hb hts hiX7 tyX7 tyX7_ok nmX7 hown hK hP hD hS 0 rfl rfl 44 (by decide) (hts (.fieldLink RX7 282 "LinkModelsModel" "bodied" "I") (by decide +kernel)) (fun _ h9 => h9) rfl (by decide +kernel) rfl rfl (Nat.le_of_ble_eq_true rfl) dX7_findFaces_236 (fun H locs hP hD hS => ?_)
                    have hP : va_P (dC, dI) vwCl (rW h0 r cI cJ cZ v0 a1 (nI tp) (nI bs) (fun j => nI (cl j)) a5 a6 a7 (fun j => nI (fc j)) a9 (fun j => nI (mb j)) a11 a12 a13 a14 a15 a16 a17 a18 a19 a20 (nI az) v22 v23 v24 v25 v26 (nI bb) (fun j => nI (ct j)) (nI us) a30 a31 a32 a33 a34 a35 a36 a37 (fun j => nI (pil2 j)) (fun j => nI (rwv2 j)) (nI rl2) v41 v42 x23 (nI m9) (nI m9)) H := hP
                    have hD : va_D A (rW h0 r cI cJ cZ v0 a1 (nI tp) (nI bs) (fun j => nI (cl j)) a5 a6 a7 (fun j => nI (fc j)) a9 (fun j => nI (mb j)) a11 a12 a13 a14 a15 a16 a17 a18 a19 a20 (nI az) v22 v23 v24 v25 v26 (nI bb) (fun j => nI (ct j)) (nI us) a30 a31 a32 a33 a34 a35 a36 a37 (fun j => nI (pil2 j)) (fun j => nI (rwv2 j)) (nI rl2) v41 v42 x23 (nI m9) (nI m9)) := hD
                    obtain ⟨x24, ex24⟩ : ∃ y : Int32, y = (nI kk) + 1 := ⟨_, rfl⟩
                    refine lv_iinc (v := x24) (lv' := [(4, .int x24), (0, .ref h0), (1, .int (nI bd)), (2, .int (nI ci)), (3, .int (nI uu)), (5, .int (nI m9)), (6, .int (nI lf)), (7, .int (nI jx))]) hx hb dX7_findFaces_239 hl (k := 4) rfl (by rw [ex24]; rfl) (by decide) rfl (fun ls hl => ?_)
                    obtain rfl : x24 = nI (kk + 1) := by rw [ex24]; exact nI_add (kk) 1
                    refine lv_goto (tgt := 64) hx hb dX7_findFaces_242 (by decide) ?_
                    exact ih64 (kk + 1) rl2 pil2 rwv2 x23 (nI m9) (nI m9) _ _ ls (by omega) hbpil2 hbrwv2 (by omega) (by exact i64_1) (by exact (zM.mk (by omega) (by first | trivial | omega | assumption | (refine ⟨?_, ?_⟩ <;> first | trivial | omega | assumption)))) (by exact (zM.mk (by omega) (by first | trivial | omega | assumption | (refine ⟨?_, ?_⟩ <;> first | trivial | omega | assumption)))) hP hD hS (lv_sub hl [1, 2, 3, 4, 0] rfl)
            · have qcp119 : ¬ lf = 0 := fun h9 => cp119 ((nI_eq (a := lf) (b := 0) (by omega) (by omega)).mpr h9)
              refine lv_iload hx hb dX7_findFaces_122 (lv_at hl 7 rfl) ?_
              refine lv_iload hx hb dX7_findFaces_124 (lv_at hl 4 rfl) ?_
              refine lv_icmp_eq (tgt := 172) hx hb dX7_findFaces_126 (by decide) (fun cp126 => ?_) (fun cp126 => ?_)
              · have qcp126 : jx = kk := (nI_eq (a := jx) (b := kk) (by omega) (by omega)).mp cp126
                refine lv_iconst (v := 1) hx hb dX7_findFaces_172 (by decide) ?_
                refine lv_goto (tgt := 177) hx hb dX7_findFaces_173 (by decide) ?_
                refine lv_istore (lv' := [(6, .int 1), (0, .ref h0), (1, .int (nI bd)), (2, .int (nI ci)), (3, .int (nI uu)), (4, .int (nI kk)), (5, .int m5), (7, .int (nI jx))]) hx hb dX7_findFaces_177 hl (by decide) rfl (fun ls hl => ?_)
                obtain ⟨x25, ex25⟩ : ∃ y : Int32, y = (nI jx) + 1 := ⟨_, rfl⟩
                refine lv_iinc (v := x25) (lv' := [(7, .int x25), (6, .int 1), (0, .ref h0), (1, .int (nI bd)), (2, .int (nI ci)), (3, .int (nI uu)), (4, .int (nI kk)), (5, .int m5)]) hx hb dX7_findFaces_179 hl (k := 7) rfl (by rw [ex25]; rfl) (by decide) rfl (fun ls hl => ?_)
                obtain rfl : x25 = nI (jx + 1) := by rw [ex25]; exact nI_add (jx) 1
                refine lv_goto (tgt := 108) hx hb dX7_findFaces_182 (by decide) ?_
                exact ih108 m5 1 (jx + 1) _ _ ls (by omega) (zM.imp hm108_m5 (fun k hk hq => by first | exact hq | trivial | omega)) (by omega) (by omega) (by first | exact Or.inl rfl | exact Or.inr (i108_2.resolve_left qcp119)) (by omega) hP hD hS (lv_sub hl [2, 3, 4, 5, 6, 7, 1, 0] rfl)
              · have qcp126 : ¬ jx = kk := fun h9 => cp126 ((nI_eq (a := jx) (b := kk) (by omega) (by omega)).mpr h9)
                refine lv_aload_n hx hb dX7_findFaces_129 rfl (lv_at hl 0 rfl) ?_
                refine lv_bipush (v := 16) hx hb dX7_findFaces_130 (by decide) ?_
                refine lv_iload_n hx hb dX7_findFaces_132 rfl (lv_at hl 1 rfl) ?_
                refine lv_imul hx hb dX7_findFaces_133 ?_
                refine lv_topi (fun x26 ex26 => ?_)
                obtain rfl : x26 = nI (16 * bd) := by rw [ex26]; exact pk_mul (16) (bd)
                refine lv_aload_n hx hb dX7_findFaces_134 rfl (lv_at hl 0 rfl) ?_
                refine va_get (D := (dC, dI)) (ci := 6) (v := .ref (r 39)) (C := RX7) (T := TX7) (N := 46) hx hb hts hiX7 hown hK hP 0 rfl rfl 39 (by decide) (hts (.fieldLink RX7 100 "LinkModelsModel" "row" "[I") (by decide +kernel)) (fun _ h9 => h9) rfl dX7_findFaces_135 ?_
                refine lv_iload hx hb dX7_findFaces_138 (lv_at hl 7 rfl) ?_
                refine va_iald hx hb hK hP 29 0 rfl rfl (vp_in_nI (show jx < 16 by omega) (by decide)) dX7_findFaces_140 ?_
                refine lv_topi (fun x27 ex27 => ?_)
                obtain rfl : x27 = nI (rwv2 jx) := by rw [ex27, nI_clamp (show jx < 2 ^ 31 by omega)]
                have hqx27 := hbrwv2 jx
                refine lv_iadd hx hb dX7_findFaces_141 ?_
                refine lv_topi (fun x28 ex28 => ?_)
                obtain rfl : x28 = nI ((16 * bd) + (rwv2 jx)) := by rw [ex28]; exact nI_add (16 * bd) (rwv2 jx)
                refine lv_iload_n hx hb dX7_findFaces_142 rfl (lv_at hl 3 rfl) ?_
                refine lv_iconst (v := 1) hx hb dX7_findFaces_143 (by decide) ?_
                have hFc := z_freeW hD hS hA
                refine vp_callSi (W.runV (As := [.int (nI ((16 * bd) + (rwv2 jx))), .int (nI uu), .int 1]) (rest := []) ⟨hx, hb, hml, hown, hts⟩ (kX7_methodIn l dC dI h0 r cI cJ cZ v0 a1 tp bs cl a5 a6 a7 fc a9 mb a11 a12 a13 a14 a15 a16 a17 a18 a19 a20 az v22 v23 v24 v25 v26 bb ct us a30 a31 a32 a33 a34 a35 a36 a37 pil2 rwv2 rl2 v41 v42 b0 b1 b2 ⟨by omega, by omega, by omega, hcl, hfc, hmb, hct, hbpil2, hbrwv2⟩ ((16 * bd) + (rwv2 jx)) uu (1 : Int32) (by first | omega | assumption | trivial) (by first | omega | assumption | trivial) H.size) (cwV 3 hts zgX7_findFaces_X7_methodIn_288 rfl rfl rfl (by decide +kernel) ⟨(show 0 + 1 ≤ 2 by omega), (show 8 + (6 + 11) + 0 ≤ 50 by omega)⟩) (zVm (ci := 6) (q0 := 0) (q := (RX7, TX7, 46)) hK hP hD hL hS.2.1 hFc rfl rfl rfl) rfl rfl hl.1 rfl (lv_room (Nat.le_of_ble_eq_true rfl)) dX7_findFaces_144 ⟨(show 0 + 0 ≤ 0 by omega), (show 0 + 0 ≤ 0 by omega)⟩) (fun r29 hw => ?_)
                have hw : (zM r29 (fun k => k < 960)) := hw
                have w0r29 := hw
                refine lv_if_lt (tgt := 172) hx hb dX7_findFaces_147 (by decide) (fun cp147 => ?_) (fun cp147 => ?_)
                · obtain rfl : r29 = -1 := zM.neg w0r29 cp147
                  refine lv_iconst (v := 1) hx hb dX7_findFaces_172 (by decide) ?_
                  refine lv_goto (tgt := 177) hx hb dX7_findFaces_173 (by decide) ?_
                  refine lv_istore (lv' := [(6, .int 1), (0, .ref h0), (1, .int (nI bd)), (2, .int (nI ci)), (3, .int (nI uu)), (4, .int (nI kk)), (5, .int m5), (7, .int (nI jx))]) hx hb dX7_findFaces_177 hl (by decide) rfl (fun ls hl => ?_)
                  obtain ⟨x30, ex30⟩ : ∃ y : Int32, y = (nI jx) + 1 := ⟨_, rfl⟩
                  refine lv_iinc (v := x30) (lv' := [(7, .int x30), (6, .int 1), (0, .ref h0), (1, .int (nI bd)), (2, .int (nI ci)), (3, .int (nI uu)), (4, .int (nI kk)), (5, .int m5)]) hx hb dX7_findFaces_179 hl (k := 7) rfl (by rw [ex30]; rfl) (by decide) rfl (fun ls hl => ?_)
                  obtain rfl : x30 = nI (jx + 1) := by rw [ex30]; exact nI_add (jx) 1
                  refine lv_goto (tgt := 108) hx hb dX7_findFaces_182 (by decide) ?_
                  exact ih108 m5 1 (jx + 1) _ _ ls (by omega) (zM.imp hm108_m5 (fun k hk hq => by first | exact hq | trivial | omega)) (by omega) (by omega) (by first | exact Or.inl rfl | exact Or.inr (i108_2.resolve_left qcp119)) (by omega) hP hD hS (lv_sub hl [2, 3, 4, 5, 6, 7, 1, 0] rfl)
                · obtain ⟨k31, hBk31, hQk31, rfl⟩ := zM.pos w0r29 cp147
                  refine lv_aload_n hx hb dX7_findFaces_150 rfl (lv_at hl 0 rfl) ?_
                  refine lv_iload_n hx hb dX7_findFaces_151 rfl (lv_at hl 1 rfl) ?_
                  refine lv_aload_n hx hb dX7_findFaces_152 rfl (lv_at hl 0 rfl) ?_
                  refine va_get (D := (dC, dI)) (ci := 6) (v := .ref (r 39)) (C := RX7) (T := TX7) (N := 46) hx hb hts hiX7 hown hK hP 0 rfl rfl 39 (by decide) (hts (.fieldLink RX7 100 "LinkModelsModel" "row" "[I") (by decide +kernel)) (fun _ h9 => h9) rfl dX7_findFaces_153 ?_
                  refine lv_iload hx hb dX7_findFaces_156 (lv_at hl 7 rfl) ?_
                  refine va_iald hx hb hK hP 29 0 rfl rfl (vp_in_nI (show jx < 16 by omega) (by decide)) dX7_findFaces_158 ?_
                  refine lv_topi (fun x32 ex32 => ?_)
                  obtain rfl : x32 = nI (rwv2 jx) := by rw [ex32, nI_clamp (show jx < 2 ^ 31 by omega)]
                  have hqx32 := hbrwv2 jx
                  refine lv_aload_n hx hb dX7_findFaces_159 rfl (lv_at hl 0 rfl) ?_
                  refine va_get (D := (dC, dI)) (ci := 6) (v := .ref (r 39)) (C := RX7) (T := TX7) (N := 46) hx hb hts hiX7 hown hK hP 0 rfl rfl 39 (by decide) (hts (.fieldLink RX7 100 "LinkModelsModel" "row" "[I") (by decide +kernel)) (fun _ h9 => h9) rfl dX7_findFaces_160 ?_
                  refine lv_iload hx hb dX7_findFaces_163 (lv_at hl 4 rfl) ?_
                  refine va_iald hx hb hK hP 29 0 rfl rfl (vp_in_nI (show kk < 16 by omega) (by decide)) dX7_findFaces_165 ?_
                  refine lv_topi (fun x33 ex33 => ?_)
                  obtain rfl : x33 = nI (rwv2 kk) := by rw [ex33, nI_clamp (show kk < 2 ^ 31 by omega)]
                  have hqx33 := hbrwv2 kk
                  have hFc := z_freeW hD hS hA
                  refine vp_callSi (W.runV (As := [.int (nI bd), .int (nI (rwv2 jx)), .int (nI (rwv2 kk))]) (rest := []) ⟨hx, hb, hml, hown, hts⟩ (kX7_isOf l dC dI h0 r cI cJ cZ v0 a1 tp bs cl a5 a6 a7 fc a9 mb a11 a12 a13 a14 a15 a16 a17 a18 a19 a20 az v22 v23 v24 v25 v26 bb ct us a30 a31 a32 a33 a34 a35 a36 a37 pil2 rwv2 rl2 v41 v42 b0 b1 b2 ⟨by omega, by omega, by omega, hcl, hfc, hmb, hct, hbpil2, hbrwv2⟩ bd (rwv2 jx) (nI (rwv2 kk)) (by first | omega | assumption | trivial) (by first | omega | assumption | trivial) H.size) (cwV 3 hts zgX7_findFaces_X7_isOf_256 rfl rfl rfl (by decide +kernel) ⟨(show 0 + 1 ≤ 2 by omega), (show 8 + (4 + 11) + 0 ≤ 50 by omega)⟩) (zVm (ci := 6) (q0 := 0) (q := (RX7, TX7, 46)) hK hP hD hL hS.2.1 hFc rfl rfl rfl) rfl rfl hl.1 rfl (lv_room (Nat.le_of_ble_eq_true rfl)) dX7_findFaces_166 ⟨(show 0 + 0 ≤ 0 by omega), (show 0 + 0 ≤ 0 by omega)⟩) (fun r34 hw => ?_)
                  have hw : (r34 = 0 ∨ r34 = 1) := hw
                  have w0r34 := hw
                  refine lv_if_ne (tgt := 176) hx hb dX7_findFaces_169 (by decide) (fun cp169 => ?_) (fun cp169 => ?_)
                  · refine lv_iconst (v := 0) hx hb dX7_findFaces_176 (by decide) ?_
                    refine lv_istore (lv' := [(6, .int 0), (0, .ref h0), (1, .int (nI bd)), (2, .int (nI ci)), (3, .int (nI uu)), (4, .int (nI kk)), (5, .int m5), (7, .int (nI jx))]) hx hb dX7_findFaces_177 hl (by decide) rfl (fun ls hl => ?_)
                    obtain ⟨x35, ex35⟩ : ∃ y : Int32, y = (nI jx) + 1 := ⟨_, rfl⟩
                    refine lv_iinc (v := x35) (lv' := [(7, .int x35), (6, .int 0), (0, .ref h0), (1, .int (nI bd)), (2, .int (nI ci)), (3, .int (nI uu)), (4, .int (nI kk)), (5, .int m5)]) hx hb dX7_findFaces_179 hl (k := 7) rfl (by rw [ex35]; rfl) (by decide) rfl (fun ls hl => ?_)
                    obtain rfl : x35 = nI (jx + 1) := by rw [ex35]; exact nI_add (jx) 1
                    refine lv_goto (tgt := 108) hx hb dX7_findFaces_182 (by decide) ?_
                    exact ih108 m5 0 (jx + 1) _ _ ls (by omega) (zM.imp hm108_m5 (fun k hk hq => by first | exact hq | trivial | omega)) (by omega) (by omega) (by first | exact Or.inl rfl | exact Or.inr (i108_2.resolve_left qcp119)) (by omega) hP hD hS (lv_sub hl [2, 3, 4, 5, 6, 7, 1, 0] rfl)
                  · refine lv_iconst (v := 1) hx hb dX7_findFaces_172 (by decide) ?_
                    refine lv_goto (tgt := 177) hx hb dX7_findFaces_173 (by decide) ?_
                    refine lv_istore (lv' := [(6, .int 1), (0, .ref h0), (1, .int (nI bd)), (2, .int (nI ci)), (3, .int (nI uu)), (4, .int (nI kk)), (5, .int m5), (7, .int (nI jx))]) hx hb dX7_findFaces_177 hl (by decide) rfl (fun ls hl => ?_)
                    obtain ⟨x36, ex36⟩ : ∃ y : Int32, y = (nI jx) + 1 := ⟨_, rfl⟩
                    refine lv_iinc (v := x36) (lv' := [(7, .int x36), (6, .int 1), (0, .ref h0), (1, .int (nI bd)), (2, .int (nI ci)), (3, .int (nI uu)), (4, .int (nI kk)), (5, .int m5)]) hx hb dX7_findFaces_179 hl (k := 7) rfl (by rw [ex36]; rfl) (by decide) rfl (fun ls hl => ?_)
                    obtain rfl : x36 = nI (jx + 1) := by rw [ex36]; exact nI_add (jx) 1
                    refine lv_goto (tgt := 108) hx hb dX7_findFaces_182 (by decide) ?_
                    exact ih108 m5 1 (jx + 1) _ _ ls (by omega) (zM.imp hm108_m5 (fun k hk hq => by first | exact hq | trivial | omega)) (by omega) (by omega) (by first | exact Or.inl rfl | exact Or.inr (i108_2.resolve_left qcp119)) (by omega) hP hD hS (lv_sub hl [2, 3, 4, 5, 6, 7, 1, 0] rfl)
      refine lv_iload hx hb dX7_findFaces_64 (lv_at hl 4 rfl) ?_
      refine lv_aload_n hx hb dX7_findFaces_66 rfl (lv_at hl 0 rfl) ?_
      refine va_get (D := (dC, dI)) (ci := 6) (v := .int (nI rl2)) (C := RX7) (T := TX7) (N := 46) hx hb hts hiX7 hown hK hP 0 rfl rfl 40 (by decide) (hts (.fieldLink RX7 266 "LinkModelsModel" "rowLong" "I") (by decide +kernel)) (fun _ h9 => h9) rfl dX7_findFaces_67 ?_
      refine lv_icmp_ge (tgt := 245) hx hb dX7_findFaces_70 (by decide) (fun cp70 => ?_) (fun cp70 => ?_)
      · have qcp70 : rl2 ≤ kk := (nI_leI (a := rl2) (b := kk) (by omega) (by omega)).mp cp70
        have hP9 : va_P (dC, dI) vwCl (rW h0 r cI cJ cZ v0 a1 (nI tp) (nI bs) (fun j => nI (cl j)) a5 a6 a7 (fun j => nI (fc j)) a9 (fun j => nI (mb j)) a11 a12 a13 a14 a15 a16 a17 a18 a19 a20 (nI az) v22 v23 v24 v25 v26 (nI bb) (fun j => nI (ct j)) (nI us) a30 a31 a32 a33 a34 a35 a36 a37 (fun j => nI (pil2 j)) (fun j => nI (rwv2 j)) (nI rl2) v41 v42 b0 b1 b2) H := hP
        have hD9 : va_D A (rW h0 r cI cJ cZ v0 a1 (nI tp) (nI bs) (fun j => nI (cl j)) a5 a6 a7 (fun j => nI (fc j)) a9 (fun j => nI (mb j)) a11 a12 a13 a14 a15 a16 a17 a18 a19 a20 (nI az) v22 v23 v24 v25 v26 (nI bb) (fun j => nI (ct j)) (nI us) a30 a31 a32 a33 a34 a35 a36 a37 (fun j => nI (pil2 j)) (fun j => nI (rwv2 j)) (nI rl2) v41 v42 b0 b1 b2) := hD
        exact W.vret hx hb hr (fun t ht hW => ⟨⟨(rl2, pil2, rwv2, b0, b1, b2), rfl, ⟨(by exact i64_2), (by exact i64_3), hbpil2, hbrwv2⟩, by rw [ht]; exact hP9, va_K.moved hW.alike hK, hD9⟩, hS.F ht⟩) hS.2.2 dX7_findFaces_245
      · have qcp70 : ¬ rl2 ≤ kk := fun h9 => cp70 ((nI_leI (a := rl2) (b := kk) (by omega) (by omega)).mpr h9)
        refine lv_aload_n hx hb dX7_findFaces_73 rfl (lv_at hl 0 rfl) ?_
        refine lv_bipush (v := 16) hx hb dX7_findFaces_74 (by decide) ?_
        refine lv_iload_n hx hb dX7_findFaces_76 rfl (lv_at hl 1 rfl) ?_
        refine lv_imul hx hb dX7_findFaces_77 ?_
        refine lv_topi (fun x37 ex37 => ?_)
        obtain rfl : x37 = nI (16 * bd) := by rw [ex37]; exact pk_mul (16) (bd)
        refine lv_aload_n hx hb dX7_findFaces_78 rfl (lv_at hl 0 rfl) ?_
        refine va_get (D := (dC, dI)) (ci := 6) (v := .ref (r 39)) (C := RX7) (T := TX7) (N := 46) hx hb hts hiX7 hown hK hP 0 rfl rfl 39 (by decide) (hts (.fieldLink RX7 100 "LinkModelsModel" "row" "[I") (by decide +kernel)) (fun _ h9 => h9) rfl dX7_findFaces_79 ?_
        refine lv_iload hx hb dX7_findFaces_82 (lv_at hl 4 rfl) ?_
        refine va_iald hx hb hK hP 29 0 rfl rfl (vp_in_nI (show kk < 16 by omega) (by decide)) dX7_findFaces_84 ?_
        refine lv_topi (fun x38 ex38 => ?_)
        obtain rfl : x38 = nI (rwv2 kk) := by rw [ex38, nI_clamp (show kk < 2 ^ 31 by omega)]
        have hqx38 := hbrwv2 kk
        refine lv_iadd hx hb dX7_findFaces_85 ?_
        refine lv_topi (fun x39 ex39 => ?_)
        obtain rfl : x39 = nI ((16 * bd) + (rwv2 kk)) := by rw [ex39]; exact nI_add (16 * bd) (rwv2 kk)
        refine lv_iload_n hx hb dX7_findFaces_86 rfl (lv_at hl 3 rfl) ?_
        refine lv_iconst (v := 1) hx hb dX7_findFaces_87 (by decide) ?_
        have hFc := z_freeW hD hS hA
        refine vp_callSi (W.runV (As := [.int (nI ((16 * bd) + (rwv2 kk))), .int (nI uu), .int 1]) (rest := []) ⟨hx, hb, hml, hown, hts⟩ (kX7_methodIn l dC dI h0 r cI cJ cZ v0 a1 tp bs cl a5 a6 a7 fc a9 mb a11 a12 a13 a14 a15 a16 a17 a18 a19 a20 az v22 v23 v24 v25 v26 bb ct us a30 a31 a32 a33 a34 a35 a36 a37 pil2 rwv2 rl2 v41 v42 b0 b1 b2 ⟨by omega, by omega, by omega, hcl, hfc, hmb, hct, hbpil2, hbrwv2⟩ ((16 * bd) + (rwv2 kk)) uu (1 : Int32) (by first | omega | assumption | trivial) (by first | omega | assumption | trivial) H.size) (cwV 3 hts zgX7_findFaces_X7_methodIn_288 rfl rfl rfl (by decide +kernel) ⟨(show 0 + 1 ≤ 2 by omega), (show 8 + (6 + 11) + 0 ≤ 50 by omega)⟩) (zVm (ci := 6) (q0 := 0) (q := (RX7, TX7, 46)) hK hP hD hL hS.2.1 hFc rfl rfl rfl) rfl rfl hl.1 rfl (lv_room (Nat.le_of_ble_eq_true rfl)) dX7_findFaces_88 ⟨(show 0 + 0 ≤ 0 by omega), (show 0 + 0 ≤ 0 by omega)⟩) (fun r40 hw => ?_)
        have hw : (zM r40 (fun k => k < 960)) := hw
        have w0r40 := hw
        refine lv_istore (lv' := [(5, .int r40), (0, .ref h0), (1, .int (nI bd)), (2, .int (nI ci)), (3, .int (nI uu)), (4, .int (nI kk))]) hx hb dX7_findFaces_91 hl (by decide) rfl (fun ls hl => ?_)
        refine lv_iload hx hb dX7_findFaces_93 (lv_at hl 0 rfl) ?_
        refine lv_if_lt (tgt := 102) hx hb dX7_findFaces_95 (by decide) (fun cp95 => ?_) (fun cp95 => ?_)
        · obtain rfl : r40 = -1 := zM.neg w0r40 cp95
          refine lv_iconst (v := 0) hx hb dX7_findFaces_102 (by decide) ?_
          refine lv_istore (lv' := [(6, .int 0), (5, .int (-1)), (0, .ref h0), (1, .int (nI bd)), (2, .int (nI ci)), (3, .int (nI uu)), (4, .int (nI kk))]) hx hb dX7_findFaces_103 hl (by decide) rfl (fun ls hl => ?_)
          refine lv_iconst (v := 0) hx hb dX7_findFaces_105 (by decide) ?_
          refine lv_istore (lv' := [(7, .int 0), (6, .int 0), (5, .int (-1)), (0, .ref h0), (1, .int (nI bd)), (2, .int (nI ci)), (3, .int (nI uu)), (4, .int (nI kk))]) hx hb dX7_findFaces_106 hl (by decide) rfl (fun ls hl => ?_)
          exact J108 _ (-1 : Int32) 0 0 _ _ ls (Nat.lt_succ_self _) (Or.inl rfl) (by omega) (by omega) (by first | exact Or.inl rfl | exact Or.inr (zEx9.mk hQ0)) (by omega) hP hD hS (lv_sub hl [3, 4, 5, 6, 7, 2, 1, 0] rfl)
        · obtain ⟨k41, hBk41, hQk41, rfl⟩ := zM.pos w0r40 cp95
          refine lv_iconst (v := 1) hx hb dX7_findFaces_98 (by decide) ?_
          refine lv_goto (tgt := 103) hx hb dX7_findFaces_99 (by decide) ?_
          refine lv_istore (lv' := [(6, .int 1), (5, .int (nI k41)), (0, .ref h0), (1, .int (nI bd)), (2, .int (nI ci)), (3, .int (nI uu)), (4, .int (nI kk))]) hx hb dX7_findFaces_103 hl (by decide) rfl (fun ls hl => ?_)
          refine lv_iconst (v := 0) hx hb dX7_findFaces_105 (by decide) ?_
          refine lv_istore (lv' := [(7, .int 0), (6, .int 1), (5, .int (nI k41)), (0, .ref h0), (1, .int (nI bd)), (2, .int (nI ci)), (3, .int (nI uu)), (4, .int (nI kk))]) hx hb dX7_findFaces_106 hl (by decide) rfl (fun ls hl => ?_)
          exact J108 _ (nI k41) 1 0 _ _ ls (Nat.lt_succ_self _) (zM.mk (by omega) (by first | trivial | omega | assumption | (refine ⟨?_, ?_⟩ <;> first | trivial | omega | assumption))) (by omega) (by omega) (by first | exact Or.inl rfl | exact Or.inr (zEx9.mk hQk41)) (by omega) hP hD hS (lv_sub hl [3, 4, 5, 6, 7, 2, 1, 0] rfl)
  have J8 : ∀ (z8 : Nat) (rz : Nat) (dd : Int32) (rl2 : Nat) (pil2 : Nat → Nat) (rwv2 : Nat → Nat) (H : Heap) (locs : List Loc) (ls : Array Slot), rz < z8 → (∀ j, pil2 j ≤ 15) → (∀ j, rwv2 j ≤ 15) → (zM dd (fun k => zGd cl a11 bd k ∧ rk (k - 16 * bd) < rz)) → (zRow cl a11 bd rwv2 rl2) → va_P (dC, dI) vwCl (rW h0 r cI cJ cZ v0 a1 (nI tp) (nI bs) (fun j => nI (cl j)) a5 a6 a7 (fun j => nI (fc j)) a9 (fun j => nI (mb j)) a11 a12 a13 a14 a15 a16 a17 a18 a19 a20 (nI az) v22 v23 v24 v25 v26 (nI bb) (fun j => nI (ct j)) (nI us) a30 a31 a32 a33 a34 a35 a36 a37 (fun j => nI (pil2 j)) (fun j => nI (rwv2 j)) (nI rl2) v41 v42 v43 v44 v45) H → va_D A (rW h0 r cI cJ cZ v0 a1 (nI tp) (nI bs) (fun j => nI (cl j)) a5 a6 a7 (fun j => nI (fc j)) a9 (fun j => nI (mb j)) a11 a12 a13 a14 a15 a16 a17 a18 a19 a20 (nI az) v22 v23 v24 v25 v26 (nI bb) (fun j => nI (ct j)) (nI us) a30 a31 a32 a33 a34 a35 a36 a37 (fun j => nI (pil2 j)) (fun j => nI (rwv2 j)) (nI rl2) v41 v42 v43 v44 v45) → va_S A s.heap H locs → lv_has ls 8 [(0, .ref h0), (1, .int (nI bd)), (2, .int (nI ci)), (3, .int (nI uu)), (4, .int dd)] → W p l e (headSpec zwX7_findFaces { frames := 2, cells := 0, slots := 0, locals := 50 }).room s m (([.ref h0, .int (nI bd), .int (nI ci), .int (nI uu)] : List Value).toArray) below meth c H locs 0 0 (MQ below (va_Qv (fun u : Nat × (Nat → Nat) × (Nat → Nat) × Int32 × Int32 × Int32 => (zM (u.2.2.2.2.1) (fun k => k < 960)) ∧ (zM (u.2.2.2.2.2) (fun k => k < 960)) ∧ (∀ j, (u.2.1) j ≤ 15) ∧ (∀ j, (u.2.2.1) j ≤ 15)) (fun u t => zB dC dI (A) (rW h0 r cI cJ cZ v0 a1 (nI tp) (nI bs) (fun j => nI (cl j)) a5 a6 a7 (fun j => nI (fc j)) a9 (fun j => nI (mb j)) a11 a12 a13 a14 a15 a16 a17 a18 a19 a20 (nI az) v22 v23 v24 v25 v26 (nI bb) (fun j => nI (ct j)) (nI us) a30 a31 a32 a33 a34 a35 a36 a37 (fun j => nI ((u.2.1) j)) (fun j => nI ((u.2.2.1) j)) (nI (u.1)) v41 v42 (u.2.2.2.1) (u.2.2.2.2.1) (u.2.2.2.2.2)) [(cI, .int), (cJ, .long), (cZ, .boolean)] t) (A)) (([.ref h0, .int (nI bd), .int (nI ci), .int (nI uu)] : List Value).toArray) s 0 0 A) (F0 m 8 ls []) := by
    intro z8
    induction z8 with
    | zero => intro rz dd rl2 pil2 rwv2 H locs ls h9; exact absurd h9 (Nat.not_lt_zero _)
    | succ z8 ih8 =>
      intro rz dd rl2 pil2 rwv2 H locs ls hm8 hbpil2 hbrwv2 hm8_dd i8_0 hP hD hS hl
      have hrl8 := i8_0.le
      refine lv_iload hx hb dX7_findFaces_8 (lv_at hl 4 rfl) ?_
      refine lv_if_lt (tgt := 46) hx hb dX7_findFaces_10 (by decide) (fun cp10 => ?_) (fun cp10 => ?_)
      · obtain rfl : dd = -1 := zM.neg hm8_dd cp10
        refine lv_aload_n hx hb dX7_findFaces_46 rfl (lv_at hl 0 rfl) ?_
        refine lv_iconst (v := 0) hx hb dX7_findFaces_47 (by decide) ?_
        refine va_put (D := (dC, dI)) (ci := 6) (v := .int 0) (ty := (.int)) (C := RX7) (T := TX7) (N := 46) hx hb hts hiX7 tyX7 tyX7_ok nmX7 hown hK hP hD hS 0 rfl rfl 43 (by decide) (hts (.fieldLink RX7 279 "LinkModelsModel" "bodies" "I") (by decide +kernel)) (fun _ h9 => h9) rfl (by decide +kernel) rfl rfl (Nat.le_of_ble_eq_true rfl) dX7_findFaces_48 (fun H locs hP hD hS => ?_)
        have hP : va_P (dC, dI) vwCl (rW h0 r cI cJ cZ v0 a1 (nI tp) (nI bs) (fun j => nI (cl j)) a5 a6 a7 (fun j => nI (fc j)) a9 (fun j => nI (mb j)) a11 a12 a13 a14 a15 a16 a17 a18 a19 a20 (nI az) v22 v23 v24 v25 v26 (nI bb) (fun j => nI (ct j)) (nI us) a30 a31 a32 a33 a34 a35 a36 a37 (fun j => nI (pil2 j)) (fun j => nI (rwv2 j)) (nI rl2) v41 v42 0 v44 v45) H := hP
        have hD : va_D A (rW h0 r cI cJ cZ v0 a1 (nI tp) (nI bs) (fun j => nI (cl j)) a5 a6 a7 (fun j => nI (fc j)) a9 (fun j => nI (mb j)) a11 a12 a13 a14 a15 a16 a17 a18 a19 a20 (nI az) v22 v23 v24 v25 v26 (nI bb) (fun j => nI (ct j)) (nI us) a30 a31 a32 a33 a34 a35 a36 a37 (fun j => nI (pil2 j)) (fun j => nI (rwv2 j)) (nI rl2) v41 v42 0 v44 v45) := hD
        refine lv_aload_n hx hb dX7_findFaces_51 rfl (lv_at hl 0 rfl) ?_
        refine lv_iconst (v := (-1)) hx hb dX7_findFaces_52 (by decide) ?_
        refine va_put (D := (dC, dI)) (ci := 6) (v := .int (-1)) (ty := (.int)) (C := RX7) (T := TX7) (N := 46) hx hb hts hiX7 tyX7 tyX7_ok nmX7 hown hK hP hD hS 0 rfl rfl 44 (by decide) (hts (.fieldLink RX7 282 "LinkModelsModel" "bodied" "I") (by decide +kernel)) (fun _ h9 => h9) rfl (by decide +kernel) rfl rfl (Nat.le_of_ble_eq_true rfl) dX7_findFaces_53 (fun H locs hP hD hS => ?_)
        have hP : va_P (dC, dI) vwCl (rW h0 r cI cJ cZ v0 a1 (nI tp) (nI bs) (fun j => nI (cl j)) a5 a6 a7 (fun j => nI (fc j)) a9 (fun j => nI (mb j)) a11 a12 a13 a14 a15 a16 a17 a18 a19 a20 (nI az) v22 v23 v24 v25 v26 (nI bb) (fun j => nI (ct j)) (nI us) a30 a31 a32 a33 a34 a35 a36 a37 (fun j => nI (pil2 j)) (fun j => nI (rwv2 j)) (nI rl2) v41 v42 0 (-1) v45) H := hP
        have hD : va_D A (rW h0 r cI cJ cZ v0 a1 (nI tp) (nI bs) (fun j => nI (cl j)) a5 a6 a7 (fun j => nI (fc j)) a9 (fun j => nI (mb j)) a11 a12 a13 a14 a15 a16 a17 a18 a19 a20 (nI az) v22 v23 v24 v25 v26 (nI bb) (fun j => nI (ct j)) (nI us) a30 a31 a32 a33 a34 a35 a36 a37 (fun j => nI (pil2 j)) (fun j => nI (rwv2 j)) (nI rl2) v41 v42 0 (-1) v45) := hD
        refine lv_aload_n hx hb dX7_findFaces_56 rfl (lv_at hl 0 rfl) ?_
        refine lv_iconst (v := (-1)) hx hb dX7_findFaces_57 (by decide) ?_
        refine va_put (D := (dC, dI)) (ci := 6) (v := .int (-1)) (ty := (.int)) (C := RX7) (T := TX7) (N := 46) hx hb hts hiX7 tyX7 tyX7_ok nmX7 hown hK hP hD hS 0 rfl rfl 45 (by decide) (hts (.fieldLink RX7 285 "LinkModelsModel" "firstOne" "I") (by decide +kernel)) (fun _ h9 => h9) rfl (by decide +kernel) rfl rfl (Nat.le_of_ble_eq_true rfl) dX7_findFaces_58 (fun H locs hP hD hS => ?_)
        have hP : va_P (dC, dI) vwCl (rW h0 r cI cJ cZ v0 a1 (nI tp) (nI bs) (fun j => nI (cl j)) a5 a6 a7 (fun j => nI (fc j)) a9 (fun j => nI (mb j)) a11 a12 a13 a14 a15 a16 a17 a18 a19 a20 (nI az) v22 v23 v24 v25 v26 (nI bb) (fun j => nI (ct j)) (nI us) a30 a31 a32 a33 a34 a35 a36 a37 (fun j => nI (pil2 j)) (fun j => nI (rwv2 j)) (nI rl2) v41 v42 0 (-1) (-1)) H := hP
        have hD : va_D A (rW h0 r cI cJ cZ v0 a1 (nI tp) (nI bs) (fun j => nI (cl j)) a5 a6 a7 (fun j => nI (fc j)) a9 (fun j => nI (mb j)) a11 a12 a13 a14 a15 a16 a17 a18 a19 a20 (nI az) v22 v23 v24 v25 v26 (nI bb) (fun j => nI (ct j)) (nI us) a30 a31 a32 a33 a34 a35 a36 a37 (fun j => nI (pil2 j)) (fun j => nI (rwv2 j)) (nI rl2) v41 v42 0 (-1) (-1)) := hD
        refine lv_iconst (v := 0) hx hb dX7_findFaces_61 (by decide) ?_
        refine lv_istore (lv' := [(4, .int 0), (0, .ref h0), (1, .int (nI bd)), (2, .int (nI ci)), (3, .int (nI uu))]) hx hb dX7_findFaces_62 hl (by decide) rfl (fun ls hl => ?_)
        exact J64 _ 0 rl2 pil2 rwv2 0 (-1) (-1) _ _ ls (Nat.lt_succ_self _) hbpil2 hbrwv2 (by omega) (by exact i8_0) (by exact (Or.inl rfl)) (by exact (Or.inl rfl)) hP hD hS (lv_sub hl [1, 2, 3, 4, 0] rfl)
      · obtain ⟨k42, hBk42, hQk42, rfl⟩ := zM.pos hm8_dd cp10
        have hklk42 := zGd.lt hQk42.1 hclb hp0
        refine lv_aload_n hx hb dX7_findFaces_13 rfl (lv_at hl 0 rfl) ?_
        refine lv_iload_n hx hb dX7_findFaces_14 rfl (lv_at hl 1 rfl) ?_
        refine lv_iload hx hb dX7_findFaces_15 (lv_at hl 4 rfl) ?_
        have hFc := z_freeW hD hS hA
        refine va_callv (va_runV (As := [.int (nI bd), .int (nI k42)]) (rest := []) ⟨hx, hb, hml, hown, hts⟩ (kX7_faceRow l dC dI h0 r cI cJ cZ v0 a1 tp bs cl a5 a6 a7 fc a9 mb a11 a12 a13 a14 a15 a16 a17 a18 a19 a20 az v22 v23 v24 v25 v26 bb ct us a30 a31 a32 a33 a34 a35 a36 a37 pil2 rwv2 rl2 v41 v42 v43 v44 v45 ⟨by omega, by omega, by omega, hcl, hfc, hmb, hct, hbpil2, hbrwv2⟩ rk bd k42 (by first | omega | assumption | trivial) (by exact hp2) (by exact hQk42.1) (by exact i8_0) H.size) (cwV 2 hts zgX7_findFaces_X7_faceRow_272 rfl rfl rfl (by decide +kernel) ⟨(show 1 + 1 ≤ 2 by omega), (show 8 + (8 + 11) + 23 ≤ 50 by omega)⟩) (zVm (ci := 6) (q0 := 0) (q := (RX7, TX7, 46)) hK hP hD hL hS.2.1 hFc rfl rfl rfl) rfl rfl hl.1 rfl (lv_room (Nat.le_of_ble_eq_true rfl)) dX7_findFaces_17 ⟨(show 0 + 0 ≤ 0 by omega), (show 0 + 0 ≤ 0 by omega)⟩) hS (fun q _ h => hFc q h) hFc (fun u47 t H1 locs ht hvm hw hB hz1 hk1 hS => ?_)
        obtain ⟨o44, o45, o46⟩ := u47
        obtain ⟨hP, hK9, hD⟩ := hB
        rw [ht] at hP
        have hD := hD.weaken (fun k q _ h => hFc q.1 h)
        generalize H1 = H at hP hS
        have hP : va_P (dC, dI) vwCl (rW h0 r cI cJ cZ v0 a1 (nI tp) (nI bs) (fun j => nI (cl j)) a5 a6 a7 (fun j => nI (fc j)) a9 (fun j => nI (mb j)) a11 a12 a13 a14 a15 a16 a17 a18 a19 a20 (nI az) v22 v23 v24 v25 v26 (nI bb) (fun j => nI (ct j)) (nI us) a30 a31 a32 a33 a34 a35 a36 a37 (fun j => nI (o45 j)) (fun j => nI (o46 j)) (nI o44) v41 v42 v43 v44 v45) H := hP
        have hD : va_D A (rW h0 r cI cJ cZ v0 a1 (nI tp) (nI bs) (fun j => nI (cl j)) a5 a6 a7 (fun j => nI (fc j)) a9 (fun j => nI (mb j)) a11 a12 a13 a14 a15 a16 a17 a18 a19 a20 (nI az) v22 v23 v24 v25 v26 (nI bb) (fun j => nI (ct j)) (nI us) a30 a31 a32 a33 a34 a35 a36 a37 (fun j => nI (o45 j)) (fun j => nI (o46 j)) (nI o44) v41 v42 v43 v44 v45) := hD
        have hw : (zRow cl a11 bd o46 o44) ∧ (∀ j, o45 j ≤ 15) ∧ (∀ j, o46 j ≤ 15) := hw
        obtain ⟨w0r43, hbo45, hbo46⟩ := hw
        refine lv_aload_n hx hb dX7_findFaces_20 rfl (lv_at hl 0 rfl) ?_
        refine va_get (D := (dC, dI)) (ci := 6) (v := .ref (r 6)) (C := RX7) (T := TX7) (N := 46) hx hb hts hiX7 hown hK hP 0 rfl rfl 6 (by decide) (hts (.fieldLink RX7 23 "LinkModelsModel" "sort" "[I") (by decide +kernel)) (fun _ h9 => h9) rfl dX7_findFaces_21 ?_
        refine lv_iload_n hx hb dX7_findFaces_24 rfl (lv_at hl 2 rfl) ?_
        refine va_iald hx hb hK hP 4 0 rfl rfl (vp_in_nI (show ci < 80 by omega) (by decide)) dX7_findFaces_25 ?_
        refine lv_topi (fun x48 ex48 => ?_)
        obtain rfl : x48 = a6 ci := by rw [ex48, nI_clamp (show ci < 2 ^ 31 by omega)]
        refine lv_iconst (v := 1) hx hb dX7_findFaces_26 (by decide) ?_
        refine lv_icmp_ne (tgt := 34) hx hb dX7_findFaces_27 (by decide) (fun cp27 => ?_) (fun cp27 => ?_)
        · refine lv_aload_n hx hb dX7_findFaces_34 rfl (lv_at hl 0 rfl) ?_
          refine lv_iload_n hx hb dX7_findFaces_35 rfl (lv_at hl 1 rfl) ?_
          refine lv_iload hx hb dX7_findFaces_36 (lv_at hl 4 rfl) ?_
          have hFc := z_freeW hD hS hA
          refine vp_callSi (W.runV (As := [.int (nI bd), .int (nI k42)]) (rest := []) ⟨hx, hb, hml, hown, hts⟩ (kX7_aboveOf l dC dI h0 r cI cJ cZ v0 a1 tp bs cl a5 a6 a7 fc a9 mb a11 a12 a13 a14 a15 a16 a17 a18 a19 a20 az v22 v23 v24 v25 v26 bb ct us a30 a31 a32 a33 a34 a35 a36 a37 o45 o46 o44 v41 v42 v43 v44 v45 ⟨by omega, by omega, by omega, hcl, hfc, hmb, hct, hbo45, hbo46⟩ rk bd k42 (by first | omega | assumption | trivial) (by exact hp2) (by exact hQk42.1) H.size) (cwV 2 hts zgX7_findFaces_X7_aboveOf_276 rfl rfl rfl (by decide +kernel) ⟨(show 1 + 1 ≤ 2 by omega), (show 8 + (3 + 11) + 23 ≤ 50 by omega)⟩) (zVm (ci := 6) (q0 := 0) (q := (RX7, TX7, 46)) hK hP hD hL hS.2.1 hFc rfl rfl rfl) rfl rfl hl.1 rfl (lv_room (Nat.le_of_ble_eq_true rfl)) dX7_findFaces_38 ⟨(show 0 + 0 ≤ 0 by omega), (show 0 + 0 ≤ 0 by omega)⟩) (fun r49 hw => ?_)
          have hw : (zM r49 (fun k => zGd cl a11 bd k ∧ rk (k - 16 * bd) < rk (k42 - 16 * bd))) := hw
          have w0r49 := hw
          refine lv_istore (lv' := [(4, .int r49), (0, .ref h0), (1, .int (nI bd)), (2, .int (nI ci)), (3, .int (nI uu))]) hx hb dX7_findFaces_41 hl (by decide) rfl (fun ls hl => ?_)
          refine lv_goto (tgt := 8) hx hb dX7_findFaces_43 (by decide) ?_
          exact ih8 (rk (k42 - 16 * bd)) r49 o44 o45 o46 _ _ ls (by omega) hbo45 hbo46 (zM.imp w0r49 (fun k hk hq => by first | exact hq | trivial | omega)) (by exact w0r43) hP hD hS (lv_sub hl [1, 2, 3, 4, 0] rfl)
        · refine lv_iconst (v := (-1)) hx hb dX7_findFaces_30 (by decide) ?_
          refine lv_goto (tgt := 41) hx hb dX7_findFaces_31 (by decide) ?_
          refine lv_istore (lv' := [(4, .int (-1)), (0, .ref h0), (1, .int (nI bd)), (2, .int (nI ci)), (3, .int (nI uu))]) hx hb dX7_findFaces_41 hl (by decide) rfl (fun ls hl => ?_)
          refine lv_goto (tgt := 8) hx hb dX7_findFaces_43 (by decide) ?_
          exact ih8 (rk (k42 - 16 * bd)) (-1 : Int32) o44 o45 o46 _ _ ls (by omega) hbo45 hbo46 (Or.inl rfl) (by exact w0r43) hP hD hS (lv_sub hl [1, 2, 3, 4, 0] rfl)
  refine lv_aload_n hx hb dX7_findFaces_0 rfl (lv_at hl 0 rfl) ?_
  refine lv_iconst (v := 0) hx hb dX7_findFaces_1 (by decide) ?_
  refine va_put (D := (dC, dI)) (ci := 6) (v := .int 0) (ty := (.int)) (C := RX7) (T := TX7) (N := 46) hx hb hts hiX7 tyX7 tyX7_ok nmX7 hown hK hP hD hS 0 rfl rfl 40 (by decide) (hts (.fieldLink RX7 266 "LinkModelsModel" "rowLong" "I") (by decide +kernel)) (fun _ h9 => h9) rfl (by decide +kernel) rfl rfl (Nat.le_of_ble_eq_true rfl) dX7_findFaces_2 (fun H locs hP hD hS => ?_)
  have hP : va_P (dC, dI) vwCl (rW h0 r cI cJ cZ v0 a1 (nI tp) (nI bs) (fun j => nI (cl j)) a5 a6 a7 (fun j => nI (fc j)) a9 (fun j => nI (mb j)) a11 a12 a13 a14 a15 a16 a17 a18 a19 a20 (nI az) v22 v23 v24 v25 v26 (nI bb) (fun j => nI (ct j)) (nI us) a30 a31 a32 a33 a34 a35 a36 a37 (fun j => nI (pil j)) (fun j => nI (rwv j)) 0 v41 v42 v43 v44 v45) H := hP
  have hD : va_D A (rW h0 r cI cJ cZ v0 a1 (nI tp) (nI bs) (fun j => nI (cl j)) a5 a6 a7 (fun j => nI (fc j)) a9 (fun j => nI (mb j)) a11 a12 a13 a14 a15 a16 a17 a18 a19 a20 (nI az) v22 v23 v24 v25 v26 (nI bb) (fun j => nI (ct j)) (nI us) a30 a31 a32 a33 a34 a35 a36 a37 (fun j => nI (pil j)) (fun j => nI (rwv j)) 0 v41 v42 v43 v44 v45) := hD
  refine lv_iload_n hx hb dX7_findFaces_5 rfl (lv_at hl 2 rfl) ?_
  refine lv_istore (lv' := [(4, .int (nI ci)), (0, .ref h0), (1, .int (nI bd)), (2, .int (nI ci)), (3, .int (nI uu))]) hx hb dX7_findFaces_6 hl (by decide) rfl (fun ls hl => ?_)
  exact J8 _ (rk (ci - 16 * bd) + 1) (nI ci) 0 pil rwv _ _ ls (Nat.lt_succ_self _) hpil hrwv (zM.mk (by omega) (by first | trivial | omega | assumption | (refine ⟨?_, ?_⟩ <;> first | trivial | omega | assumption))) (by exact zRow.nil) hP hD hS (lv_sub hl [1, 2, 3, 4, 0] rfl)
theorem dX7_findMethod_0 : decode cX7_findMethod 0 = .ok (.iload_n 2, 1) := by decide +kernel
theorem dX7_findMethod_1 : decode cX7_findMethod 1 = .ok (.istore 4, 2) := by decide +kernel
theorem dX7_findMethod_3 : decode cX7_findMethod 3 = .ok (.iload 4, 2) := by decide +kernel
theorem dX7_findMethod_5 : decode cX7_findMethod 5 = .ok (.ifCond .lt 47, 3) := by decide +kernel
theorem dX7_findMethod_8 : decode cX7_findMethod 8 = .ok (.aload_n 0, 1) := by decide +kernel
theorem dX7_findMethod_9 : decode cX7_findMethod 9 = .ok (.iload 4, 2) := by decide +kernel
theorem dX7_findMethod_11 : decode cX7_findMethod 11 = .ok (.iload_n 3, 1) := by decide +kernel
theorem dX7_findMethod_12 : decode cX7_findMethod 12 = .ok (.iconst 0, 1) := by decide +kernel
theorem dX7_findMethod_13 : decode cX7_findMethod 13 = .ok (.invokevirtual 288, 3) := by decide +kernel
theorem dX7_findMethod_16 : decode cX7_findMethod 16 = .ok (.istore 5, 2) := by decide +kernel
theorem dX7_findMethod_18 : decode cX7_findMethod 18 = .ok (.iload 5, 2) := by decide +kernel
theorem dX7_findMethod_20 : decode cX7_findMethod 20 = .ok (.ifCond .lt 6, 3) := by decide +kernel
theorem dX7_findMethod_23 : decode cX7_findMethod 23 = .ok (.iload 5, 2) := by decide +kernel
theorem dX7_findMethod_25 : decode cX7_findMethod 25 = .ok (.ireturn, 1) := by decide +kernel
theorem dX7_findMethod_26 : decode cX7_findMethod 26 = .ok (.aload_n 0, 1) := by decide +kernel
theorem dX7_findMethod_27 : decode cX7_findMethod 27 = .ok (.getfield 23, 3) := by decide +kernel
theorem dX7_findMethod_30 : decode cX7_findMethod 30 = .ok (.iload_n 2, 1) := by decide +kernel
theorem dX7_findMethod_31 : decode cX7_findMethod 31 = .ok (.iaload, 1) := by decide +kernel
theorem dX7_findMethod_32 : decode cX7_findMethod 32 = .ok (.iconst 1, 1) := by decide +kernel
theorem dX7_findMethod_33 : decode cX7_findMethod 33 = .ok (.if_icmp .ne 7, 3) := by decide +kernel
theorem dX7_findMethod_36 : decode cX7_findMethod 36 = .ok (.iconst (-1), 1) := by decide +kernel
theorem dX7_findMethod_37 : decode cX7_findMethod 37 = .ok (.goto 10, 3) := by decide +kernel
theorem dX7_findMethod_40 : decode cX7_findMethod 40 = .ok (.aload_n 0, 1) := by decide +kernel
theorem dX7_findMethod_41 : decode cX7_findMethod 41 = .ok (.iload_n 1, 1) := by decide +kernel
theorem dX7_findMethod_42 : decode cX7_findMethod 42 = .ok (.iload 4, 2) := by decide +kernel
theorem dX7_findMethod_44 : decode cX7_findMethod 44 = .ok (.invokevirtual 276, 3) := by decide +kernel
theorem dX7_findMethod_47 : decode cX7_findMethod 47 = .ok (.istore 4, 2) := by decide +kernel
theorem dX7_findMethod_49 : decode cX7_findMethod 49 = .ok (.goto (-46), 3) := by decide +kernel
theorem dX7_findMethod_52 : decode cX7_findMethod 52 = .ok (.aload_n 0, 1) := by decide +kernel
theorem dX7_findMethod_53 : decode cX7_findMethod 53 = .ok (.iload_n 1, 1) := by decide +kernel
theorem dX7_findMethod_54 : decode cX7_findMethod 54 = .ok (.iload_n 2, 1) := by decide +kernel
theorem dX7_findMethod_55 : decode cX7_findMethod 55 = .ok (.iload_n 3, 1) := by decide +kernel
theorem dX7_findMethod_56 : decode cX7_findMethod 56 = .ok (.invokevirtual 292, 3) := by decide +kernel
theorem dX7_findMethod_59 : decode cX7_findMethod 59 = .ok (.aload_n 0, 1) := by decide +kernel
theorem dX7_findMethod_60 : decode cX7_findMethod 60 = .ok (.getfield 279, 3) := by decide +kernel
theorem dX7_findMethod_63 : decode cX7_findMethod 63 = .ok (.iconst 1, 1) := by decide +kernel
theorem dX7_findMethod_64 : decode cX7_findMethod 64 = .ok (.if_icmp .ne 10, 3) := by decide +kernel
theorem dX7_findMethod_67 : decode cX7_findMethod 67 = .ok (.aload_n 0, 1) := by decide +kernel
theorem dX7_findMethod_68 : decode cX7_findMethod 68 = .ok (.getfield 282, 3) := by decide +kernel
theorem dX7_findMethod_71 : decode cX7_findMethod 71 = .ok (.goto 7, 3) := by decide +kernel
theorem dX7_findMethod_74 : decode cX7_findMethod 74 = .ok (.aload_n 0, 1) := by decide +kernel
theorem dX7_findMethod_75 : decode cX7_findMethod 75 = .ok (.getfield 285, 3) := by decide +kernel
theorem dX7_findMethod_78 : decode cX7_findMethod 78 = .ok (.ireturn, 1) := by decide +kernel
def zwX7_findMethod : List Cond := .code yX7_findMethod cX7_findMethod 6 (some .int) :: ([.fieldLink RX7 279 "LinkModelsModel" "bodies" "I", .fieldLink RX7 285 "LinkModelsModel" "firstOne" "I", .fieldLink RX7 282 "LinkModelsModel" "bodied" "I", .fieldLink RX7 23 "LinkModelsModel" "sort" "[I", .methodLink RX7 292 yX7_findFaces, .instanceMethod yX7_findFaces, .selects RX7 yX7_findFaces yX7_findFaces, .initialized RX7, .code yX7_findFaces cX7_findFaces 8 none, .fieldLink RX7 266 "LinkModelsModel" "rowLong" "I", .fieldLink RX7 48 "LinkModelsModel" "marks" "[I", .fieldLink RX7 100 "LinkModelsModel" "row" "[I", .methodLink RX7 288 yX7_methodIn, .instanceMethod yX7_methodIn, .selects RX7 yX7_methodIn yX7_methodIn, .code yX7_methodIn cX7_methodIn 6 (some .int), .fieldLink RX7 51 "LinkModelsModel" "isMethod" "[Z", .fieldLink RX7 44 "LinkModelsModel" "word" "[J", .fieldLink RX7 82 "LinkModelsModel" "useWord" "[J", .fieldLink RX7 35 "LinkModelsModel" "members" "[I", .fieldLink RX7 61 "LinkModelsModel" "many" "[I", .fieldLink RX7 85 "LinkModelsModel" "useMany" "[I", .fieldLink RX7 67 "LinkModelsModel" "second" "[I", .fieldLink RX7 91 "LinkModelsModel" "useSecond" "[I", .fieldLink RX7 64 "LinkModelsModel" "first" "[I", .fieldLink RX7 88 "LinkModelsModel" "useFirst" "[I", .methodLink RX7 256 yX7_isOf, .instanceMethod yX7_isOf, .selects RX7 yX7_isOf yX7_isOf, .code yX7_isOf cX7_isOf 4 (some .boolean), .fieldLink RX7 41 "LinkModelsModel" "ofAll" "[I", .methodLink RX7 272 yX7_faceRow, .instanceMethod yX7_faceRow, .selects RX7 yX7_faceRow yX7_faceRow, .code yX7_faceRow cX7_faceRow 8 none, .fieldLink RX7 97 "LinkModelsModel" "pile" "[I", .fieldLink RX7 32 "LinkModelsModel" "face" "[I", .fieldLink RX7 29 "LinkModelsModel" "faces" "[I", .methodLink RX7 201 yX7_place, .instanceMethod yX7_place, .selects RX7 yX7_place yX7_place, .code yX7_place cX7_place 4 (some .int), .fieldLink RX7 17 "LinkModelsModel" "classes" "[I", .fieldLink RX7 20 "LinkModelsModel" "className" "[I", .methodLink RX7 276 yX7_aboveOf, .instanceMethod yX7_aboveOf, .selects RX7 yX7_aboveOf yX7_aboveOf, .code yX7_aboveOf cX7_aboveOf 3 (some .int), .fieldLink RX7 26 "LinkModelsModel" "above" "[I"] ++ wsX70)
theorem zgX7_findMethod_X7_findFaces_292 : GoodIn zwX7_findMethod (wsV RX7 292 RX7 yX7_findFaces zwX7_findFaces) := goodIn_app (goodIn_r _ [5, 6, 7, 8] rfl (by decide +kernel)) (goodIn_ca (goodIn_r _ [9, 10, 2, 11, 1, 3, 12, 4, 13, 14, 15, 8, 16, 17, 18, 19, 20, 21, 22, 23, 24, 25, 26, 27, 28, 29, 30, 31, 32, 33, 34, 35, 36, 37, 38, 39, 40, 41, 42, 43, 44, 45, 46, 47, 48, 49] rfl (by decide +kernel)) (zgt zg7))
theorem zgX7_findMethod_X7_methodIn_288 : GoodIn zwX7_findMethod (wsV RX7 288 RX7 yX7_methodIn zwX7_methodIn) := goodIn_app (goodIn_r _ [13, 14, 15, 8] rfl (by decide +kernel)) (goodIn_ca (goodIn_r _ [16, 17, 18, 19, 11, 20, 21, 22, 23, 24, 25, 26] rfl (by decide +kernel)) (zgt zg7))
theorem zgX7_findMethod_X7_aboveOf_276 : GoodIn zwX7_findMethod (wsV RX7 276 RX7 yX7_aboveOf zwX7_aboveOf) := goodIn_app (goodIn_r _ [45, 46, 47, 8] rfl (by decide +kernel)) (goodIn_ca (goodIn_r _ [48, 49, 39, 40, 41, 8, 42, 43, 44] rfl (by decide +kernel)) (zgt zg7))
set_option maxHeartbeats 4000000 in
set_option maxRecDepth 100000 in
theorem kX7_findMethod (l : Launch) (dC : Nat → ClassId) (dI : Nat → Nat → Nat) (h0 : Nat) (r : Nat → Nat) (cI : ClassId) (cJ : ClassId) (cZ : ClassId) (v0 : Int32) (a1 : Nat → Int32) (tp : Nat) (bs : Nat) (cl : Nat → Nat) (a5 : Nat → Int32) (a6 : Nat → Int32) (a7 : Nat → Int32) (fc : Nat → Nat) (a9 : Nat → Int32) (mb : Nat → Nat) (a11 : Nat → Int32) (a12 : Nat → Int32) (a13 : Nat → Int64) (a14 : Nat → Int32) (a15 : Nat → Int32) (a16 : Nat → Int32) (a17 : Nat → Int32) (a18 : Nat → Int32) (a19 : Nat → Int32) (a20 : Nat → Int32) (az : Nat) (v22 : Int32) (v23 : Int32) (v24 : Int64) (v25 : Int32) (v26 : Int32) (bb : Nat) (ct : Nat → Nat) (us : Nat) (a30 : Nat → Int32) (a31 : Nat → Int32) (a32 : Nat → Int32) (a33 : Nat → Int64) (a34 : Nat → Int32) (a35 : Nat → Int32) (a36 : Nat → Int32) (a37 : Nat → Int32) (pil : Nat → Nat) (rwv : Nat → Nat) (rl : Nat) (v41 : Int32) (v42 : Int32) (v43 : Int32) (v44 : Int32) (v45 : Int32) (hI : rWI tp bs cl fc mb az bb ct us pil rwv rl) (rk : Nat → Nat) (bd : Nat) (ci : Nat) (uu : Nat) (hp0 : bd < 5) (hp1 : uu < 40) (hp2 : zOKr cl a5 a7 fc a9 a11 bd rk) (hp3 : zGd cl a11 bd ci) (sz : Nat) : Met l yX7_findMethod zwX7_findMethod ({ frames := 3, cells := 0, slots := 0, locals := 77 }) (zPm dC dI [.ref h0, .int (nI bd), .int (nI ci), .int (nI uu)] sz (rW h0 r cI cJ cZ v0 a1 (nI tp) (nI bs) (fun j => nI (cl j)) a5 a6 a7 (fun j => nI (fc j)) a9 (fun j => nI (mb j)) a11 a12 a13 a14 a15 a16 a17 a18 a19 a20 (nI az) v22 v23 v24 v25 v26 (nI bb) (fun j => nI (ct j)) (nI us) a30 a31 a32 a33 a34 a35 a36 a37 (fun j => nI (pil j)) (fun j => nI (rwv j)) (nI rl) v41 v42 v43 v44 v45) [(cI, .int), (cJ, .long), (cZ, .boolean)]) (va_Qi (fun (r : Int32) (u : Nat × (Nat → Nat) × (Nat → Nat) × Int32 × Int32 × Int32) => (zM r (fun k => k < 960)) ∧ (∀ j, (u.2.1) j ≤ 15) ∧ (∀ j, (u.2.2.1) j ≤ 15)) (fun u t => zB dC dI (va_A (rW h0 r cI cJ cZ v0 a1 (nI tp) (nI bs) (fun j => nI (cl j)) a5 a6 a7 (fun j => nI (fc j)) a9 (fun j => nI (mb j)) a11 a12 a13 a14 a15 a16 a17 a18 a19 a20 (nI az) v22 v23 v24 v25 v26 (nI bb) (fun j => nI (ct j)) (nI us) a30 a31 a32 a33 a34 a35 a36 a37 (fun j => nI (pil j)) (fun j => nI (rwv j)) (nI rl) v41 v42 v43 v44 v45) sz) (rW h0 r cI cJ cZ v0 a1 (nI tp) (nI bs) (fun j => nI (cl j)) a5 a6 a7 (fun j => nI (fc j)) a9 (fun j => nI (mb j)) a11 a12 a13 a14 a15 a16 a17 a18 a19 a20 (nI az) v22 v23 v24 v25 v26 (nI bb) (fun j => nI (ct j)) (nI us) a30 a31 a32 a33 a34 a35 a36 a37 (fun j => nI ((u.2.1) j)) (fun j => nI ((u.2.2.1) j)) (nI (u.1)) v41 v42 (u.2.2.2.1) (u.2.2.2.2.1) (u.2.2.2.2.2)) [(cI, .int), (cJ, .long), (cZ, .boolean)] t) (va_A (rW h0 r cI cJ cZ v0 a1 (nI tp) (nI bs) (fun j => nI (cl j)) a5 a6 a7 (fun j => nI (fc j)) a9 (fun j => nI (mb j)) a11 a12 a13 a14 a15 a16 a17 a18 a19 a20 (nI az) v22 v23 v24 v25 v26 (nI bb) (fun j => nI (ct j)) (nI us) a30 a31 a32 a33 a34 a35 a36 a37 (fun j => nI (pil j)) (fun j => nI (rwv j)) (nI rl) v41 v42 v43 v44 v45) sz)) 0 0 (va_A (rW h0 r cI cJ cZ v0 a1 (nI tp) (nI bs) (fun j => nI (cl j)) a5 a6 a7 (fun j => nI (fc j)) a9 (fun j => nI (mb j)) a11 a12 a13 a14 a15 a16 a17 a18 a19 a20 (nI az) v22 v23 v24 v25 v26 (nI bb) (fun j => nI (ct j)) (nI us) a30 a31 a32 a33 a34 a35 a36 a37 (fun j => nI (pil j)) (fun j => nI (rwv j)) (nI rl) v41 v42 v43 v44 v45) sz) := by
  refine Met.ofW (cc := cX7_findMethod) (maxL := 6) (ret := (some .int)) (by decide) rfl ?_
  intro p e s m args below meth c s₁ B hml hv
  obtain ⟨rfl, hsz, hP, hK, hD0, hL0⟩ := hv
  have hx := B.exec
  have hb := B.bytes
  have hr := B.returns
  have hts := atoms_spec (ws := zwX7_findMethod) B.pre
  have hown : s.vm.findClass RX7 = some m.cls := findClass_of_methodNamed B.named
  have hiX7 : ∀ w ∈ wsX70, w ∈ zwX7_findMethod := (fun _ h => List.mem_cons_of_mem _ (List.mem_append_right _ h))
  obtain ⟨htp, hbs, hus, hcl, hfc, hmb, hct, hpil, hrwv⟩ := hI
  subst hsz
  have hD := hD0.self (sz := s.heap.size)
  generalize hAe : va_A (rW h0 r cI cJ cZ v0 a1 (nI tp) (nI bs) (fun j => nI (cl j)) a5 a6 a7 (fun j => nI (fc j)) a9 (fun j => nI (mb j)) a11 a12 a13 a14 a15 a16 a17 a18 a19 a20 (nI az) v22 v23 v24 v25 v26 (nI bb) (fun j => nI (ct j)) (nI us) a30 a31 a32 a33 a34 a35 a36 a37 (fun j => nI (pil j)) (fun j => nI (rwv j)) (nI rl) v41 v42 v43 v44 v45) s.heap.size = A at hD hL0 ⊢
  have hA : ∀ q : Nat, s.heap.size ≤ q → A q := fun q h => by rw [← hAe]; exact Or.inr h
  have hS : va_S A s.heap s.heap [] := va_S.rf
  have hL := hL0
  have hclb := hcl bd
  have hcil := zGd.lt hp3 hclb hp0
  have hl := lv_entry ([.ref h0, .int (nI bd), .int (nI ci), .int (nI uu)]) (n := 6) (Nat.le_of_ble_eq_true rfl)
  rw [lg_entry_eq]
  generalize (lg_sl ([.ref h0, .int (nI bd), .int (nI ci), .int (nI uu)]) ++ List.replicate (6 - (lg_sl ([.ref h0, .int (nI bd), .int (nI ci), .int (nI uu)])).length) Slot.unset).toArray = ls at hl ⊢
  have hl : lv_has ls 6 [(0, .ref h0), (1, .int (nI bd)), (2, .int (nI ci)), (3, .int (nI uu))] := hl
  have J3 : ∀ (z3 : Nat) (rz : Nat) (dd : Int32) (H : Heap) (locs : List Loc) (ls : Array Slot), rz < z3 → (zM dd (fun k => zGd cl a11 bd k ∧ rk (k - 16 * bd) < rz)) → va_P (dC, dI) vwCl (rW h0 r cI cJ cZ v0 a1 (nI tp) (nI bs) (fun j => nI (cl j)) a5 a6 a7 (fun j => nI (fc j)) a9 (fun j => nI (mb j)) a11 a12 a13 a14 a15 a16 a17 a18 a19 a20 (nI az) v22 v23 v24 v25 v26 (nI bb) (fun j => nI (ct j)) (nI us) a30 a31 a32 a33 a34 a35 a36 a37 (fun j => nI (pil j)) (fun j => nI (rwv j)) (nI rl) v41 v42 v43 v44 v45) H → va_D A (rW h0 r cI cJ cZ v0 a1 (nI tp) (nI bs) (fun j => nI (cl j)) a5 a6 a7 (fun j => nI (fc j)) a9 (fun j => nI (mb j)) a11 a12 a13 a14 a15 a16 a17 a18 a19 a20 (nI az) v22 v23 v24 v25 v26 (nI bb) (fun j => nI (ct j)) (nI us) a30 a31 a32 a33 a34 a35 a36 a37 (fun j => nI (pil j)) (fun j => nI (rwv j)) (nI rl) v41 v42 v43 v44 v45) → va_S A s.heap H locs → lv_has ls 6 [(0, .ref h0), (1, .int (nI bd)), (2, .int (nI ci)), (3, .int (nI uu)), (4, .int dd)] → W p l e (headSpec zwX7_findMethod { frames := 3, cells := 0, slots := 0, locals := 77 }).room s m (([.ref h0, .int (nI bd), .int (nI ci), .int (nI uu)] : List Value).toArray) below meth c H locs 0 0 (MQ below (va_Qi (fun (r : Int32) (u : Nat × (Nat → Nat) × (Nat → Nat) × Int32 × Int32 × Int32) => (zM r (fun k => k < 960)) ∧ (∀ j, (u.2.1) j ≤ 15) ∧ (∀ j, (u.2.2.1) j ≤ 15)) (fun u t => zB dC dI (A) (rW h0 r cI cJ cZ v0 a1 (nI tp) (nI bs) (fun j => nI (cl j)) a5 a6 a7 (fun j => nI (fc j)) a9 (fun j => nI (mb j)) a11 a12 a13 a14 a15 a16 a17 a18 a19 a20 (nI az) v22 v23 v24 v25 v26 (nI bb) (fun j => nI (ct j)) (nI us) a30 a31 a32 a33 a34 a35 a36 a37 (fun j => nI ((u.2.1) j)) (fun j => nI ((u.2.2.1) j)) (nI (u.1)) v41 v42 (u.2.2.2.1) (u.2.2.2.2.1) (u.2.2.2.2.2)) [(cI, .int), (cJ, .long), (cZ, .boolean)] t) (A)) (([.ref h0, .int (nI bd), .int (nI ci), .int (nI uu)] : List Value).toArray) s 0 0 A) (F0 m 3 ls []) := by
    intro z3
    induction z3 with
    | zero => intro rz dd H locs ls h9; exact absurd h9 (Nat.not_lt_zero _)
    | succ z3 ih3 =>
      intro rz dd H locs ls hm3 hm3_dd hP hD hS hl
      refine lv_iload hx hb dX7_findMethod_3 (lv_at hl 4 rfl) ?_
      refine lv_if_lt (tgt := 52) hx hb dX7_findMethod_5 (by decide) (fun cp5 => ?_) (fun cp5 => ?_)
      · obtain rfl : dd = -1 := zM.neg hm3_dd cp5
        refine lv_aload_n hx hb dX7_findMethod_52 rfl (lv_at hl 0 rfl) ?_
        refine lv_iload_n hx hb dX7_findMethod_53 rfl (lv_at hl 1 rfl) ?_
        refine lv_iload_n hx hb dX7_findMethod_54 rfl (lv_at hl 2 rfl) ?_
        refine lv_iload_n hx hb dX7_findMethod_55 rfl (lv_at hl 3 rfl) ?_
        have hFc := z_freeW hD hS hA
        refine va_callv (va_runV (As := [.int (nI bd), .int (nI ci), .int (nI uu)]) (rest := []) ⟨hx, hb, hml, hown, hts⟩ (kX7_findFaces l dC dI h0 r cI cJ cZ v0 a1 tp bs cl a5 a6 a7 fc a9 mb a11 a12 a13 a14 a15 a16 a17 a18 a19 a20 az v22 v23 v24 v25 v26 bb ct us a30 a31 a32 a33 a34 a35 a36 a37 pil rwv rl v41 v42 v43 v44 v45 ⟨by omega, by omega, by omega, hcl, hfc, hmb, hct, hpil, hrwv⟩ rk bd ci uu (by first | omega | assumption | trivial) (by first | omega | assumption | trivial) (by exact hp2) (by exact hp3) H.size) (cwV 3 hts zgX7_findMethod_X7_findFaces_292 rfl rfl rfl (by decide +kernel) ⟨(show 2 + 1 ≤ 3 by omega), (show 8 + (8 + 11) + 50 ≤ 77 by omega)⟩) (zVm (ci := 6) (q0 := 0) (q := (RX7, TX7, 46)) hK hP hD hL hS.2.1 hFc rfl rfl rfl) rfl rfl hl.1 rfl (lv_room (Nat.le_of_ble_eq_true rfl)) dX7_findMethod_56 ⟨(show 0 + 0 ≤ 0 by omega), (show 0 + 0 ≤ 0 by omega)⟩) hS (fun q _ h => hFc q h) hFc (fun u8 t H1 locs ht hvm hw hB hz1 hk1 hS => ?_)
        obtain ⟨o2, o3, o4, o5, o6, o7⟩ := u8
        obtain ⟨hP, hK9, hD⟩ := hB
        rw [ht] at hP
        have hD := hD.weaken (fun k q _ h => hFc q.1 h)
        generalize H1 = H at hP hS
        have hP : va_P (dC, dI) vwCl (rW h0 r cI cJ cZ v0 a1 (nI tp) (nI bs) (fun j => nI (cl j)) a5 a6 a7 (fun j => nI (fc j)) a9 (fun j => nI (mb j)) a11 a12 a13 a14 a15 a16 a17 a18 a19 a20 (nI az) v22 v23 v24 v25 v26 (nI bb) (fun j => nI (ct j)) (nI us) a30 a31 a32 a33 a34 a35 a36 a37 (fun j => nI (o3 j)) (fun j => nI (o4 j)) (nI o2) v41 v42 o5 o6 o7) H := hP
        have hD : va_D A (rW h0 r cI cJ cZ v0 a1 (nI tp) (nI bs) (fun j => nI (cl j)) a5 a6 a7 (fun j => nI (fc j)) a9 (fun j => nI (mb j)) a11 a12 a13 a14 a15 a16 a17 a18 a19 a20 (nI az) v22 v23 v24 v25 v26 (nI bb) (fun j => nI (ct j)) (nI us) a30 a31 a32 a33 a34 a35 a36 a37 (fun j => nI (o3 j)) (fun j => nI (o4 j)) (nI o2) v41 v42 o5 o6 o7) := hD
        have hw : (zM o6 (fun k => k < 960)) ∧ (zM o7 (fun k => k < 960)) ∧ (∀ j, o3 j ≤ 15) ∧ (∀ j, o4 j ≤ 15) := hw
        obtain ⟨w0r1, w1r1, hbo3, hbo4⟩ := hw
        refine lv_aload_n hx hb dX7_findMethod_59 rfl (lv_at hl 0 rfl) ?_
        refine va_get (D := (dC, dI)) (ci := 6) (v := .int o5) (C := RX7) (T := TX7) (N := 46) hx hb hts hiX7 hown hK hP 0 rfl rfl 43 (by decide) (hts (.fieldLink RX7 279 "LinkModelsModel" "bodies" "I") (by decide +kernel)) (fun _ h9 => h9) rfl dX7_findMethod_60 ?_
        refine lv_iconst (v := 1) hx hb dX7_findMethod_63 (by decide) ?_
        refine lv_icmp_ne (tgt := 74) hx hb dX7_findMethod_64 (by decide) (fun cp64 => ?_) (fun cp64 => ?_)
        · refine lv_aload_n hx hb dX7_findMethod_74 rfl (lv_at hl 0 rfl) ?_
          refine va_get (D := (dC, dI)) (ci := 6) (v := .int o7) (C := RX7) (T := TX7) (N := 46) hx hb hts hiX7 hown hK hP 0 rfl rfl 45 (by decide) (hts (.fieldLink RX7 285 "LinkModelsModel" "firstOne" "I") (by decide +kernel)) (fun _ h9 => h9) rfl dX7_findMethod_75 ?_
          have hP9 : va_P (dC, dI) vwCl (rW h0 r cI cJ cZ v0 a1 (nI tp) (nI bs) (fun j => nI (cl j)) a5 a6 a7 (fun j => nI (fc j)) a9 (fun j => nI (mb j)) a11 a12 a13 a14 a15 a16 a17 a18 a19 a20 (nI az) v22 v23 v24 v25 v26 (nI bb) (fun j => nI (ct j)) (nI us) a30 a31 a32 a33 a34 a35 a36 a37 (fun j => nI (o3 j)) (fun j => nI (o4 j)) (nI o2) v41 v42 o5 o6 o7) H := hP
          have hD9 : va_D A (rW h0 r cI cJ cZ v0 a1 (nI tp) (nI bs) (fun j => nI (cl j)) a5 a6 a7 (fun j => nI (fc j)) a9 (fun j => nI (mb j)) a11 a12 a13 a14 a15 a16 a17 a18 a19 a20 (nI az) v22 v23 v24 v25 v26 (nI bb) (fun j => nI (ct j)) (nI us) a30 a31 a32 a33 a34 a35 a36 a37 (fun j => nI (o3 j)) (fun j => nI (o4 j)) (nI o2) v41 v42 o5 o6 o7) := hD
          exact W.iret (v := o7) hx hb hr (fun t ht hW => ⟨⟨o7, (o2, o3, o4, o5, o6, o7), rfl, ⟨(zM.imp w1r1 (fun k hk hq => by first | exact hq | trivial | omega)), hbo3, hbo4⟩, by rw [ht]; exact hP9, va_K.moved hW.alike hK, hD9⟩, hS.F ht⟩) hS.2.2 dX7_findMethod_78
        · refine lv_aload_n hx hb dX7_findMethod_67 rfl (lv_at hl 0 rfl) ?_
          refine va_get (D := (dC, dI)) (ci := 6) (v := .int o6) (C := RX7) (T := TX7) (N := 46) hx hb hts hiX7 hown hK hP 0 rfl rfl 44 (by decide) (hts (.fieldLink RX7 282 "LinkModelsModel" "bodied" "I") (by decide +kernel)) (fun _ h9 => h9) rfl dX7_findMethod_68 ?_
          refine lv_goto (tgt := 78) hx hb dX7_findMethod_71 (by decide) ?_
          have hP9 : va_P (dC, dI) vwCl (rW h0 r cI cJ cZ v0 a1 (nI tp) (nI bs) (fun j => nI (cl j)) a5 a6 a7 (fun j => nI (fc j)) a9 (fun j => nI (mb j)) a11 a12 a13 a14 a15 a16 a17 a18 a19 a20 (nI az) v22 v23 v24 v25 v26 (nI bb) (fun j => nI (ct j)) (nI us) a30 a31 a32 a33 a34 a35 a36 a37 (fun j => nI (o3 j)) (fun j => nI (o4 j)) (nI o2) v41 v42 o5 o6 o7) H := hP
          have hD9 : va_D A (rW h0 r cI cJ cZ v0 a1 (nI tp) (nI bs) (fun j => nI (cl j)) a5 a6 a7 (fun j => nI (fc j)) a9 (fun j => nI (mb j)) a11 a12 a13 a14 a15 a16 a17 a18 a19 a20 (nI az) v22 v23 v24 v25 v26 (nI bb) (fun j => nI (ct j)) (nI us) a30 a31 a32 a33 a34 a35 a36 a37 (fun j => nI (o3 j)) (fun j => nI (o4 j)) (nI o2) v41 v42 o5 o6 o7) := hD
          exact W.iret (v := o6) hx hb hr (fun t ht hW => ⟨⟨o6, (o2, o3, o4, o5, o6, o7), rfl, ⟨(zM.imp w0r1 (fun k hk hq => by first | exact hq | trivial | omega)), hbo3, hbo4⟩, by rw [ht]; exact hP9, va_K.moved hW.alike hK, hD9⟩, hS.F ht⟩) hS.2.2 dX7_findMethod_78
      · obtain ⟨k9, hBk9, hQk9, rfl⟩ := zM.pos hm3_dd cp5
        have hklk9 := zGd.lt hQk9.1 hclb hp0
        refine lv_aload_n hx hb dX7_findMethod_8 rfl (lv_at hl 0 rfl) ?_
        refine lv_iload hx hb dX7_findMethod_9 (lv_at hl 4 rfl) ?_
        refine lv_iload_n hx hb dX7_findMethod_11 rfl (lv_at hl 3 rfl) ?_
        refine lv_iconst (v := 0) hx hb dX7_findMethod_12 (by decide) ?_
        have hFc := z_freeW hD hS hA
        refine vp_callSi (W.runV (As := [.int (nI k9), .int (nI uu), .int 0]) (rest := []) ⟨hx, hb, hml, hown, hts⟩ (kX7_methodIn l dC dI h0 r cI cJ cZ v0 a1 tp bs cl a5 a6 a7 fc a9 mb a11 a12 a13 a14 a15 a16 a17 a18 a19 a20 az v22 v23 v24 v25 v26 bb ct us a30 a31 a32 a33 a34 a35 a36 a37 pil rwv rl v41 v42 v43 v44 v45 ⟨by omega, by omega, by omega, hcl, hfc, hmb, hct, hpil, hrwv⟩ k9 uu (0 : Int32) (by first | omega | assumption | trivial) (by first | omega | assumption | trivial) H.size) (cwV 3 hts zgX7_findMethod_X7_methodIn_288 rfl rfl rfl (by decide +kernel) ⟨(show 0 + 1 ≤ 3 by omega), (show 8 + (6 + 11) + 0 ≤ 77 by omega)⟩) (zVm (ci := 6) (q0 := 0) (q := (RX7, TX7, 46)) hK hP hD hL hS.2.1 hFc rfl rfl rfl) rfl rfl hl.1 rfl (lv_room (Nat.le_of_ble_eq_true rfl)) dX7_findMethod_13 ⟨(show 0 + 0 ≤ 0 by omega), (show 0 + 0 ≤ 0 by omega)⟩) (fun r10 hw => ?_)
        have hw : (zM r10 (fun k => k < 960)) := hw
        have w0r10 := hw
        refine lv_istore (lv' := [(5, .int r10), (0, .ref h0), (1, .int (nI bd)), (2, .int (nI ci)), (3, .int (nI uu)), (4, .int (nI k9))]) hx hb dX7_findMethod_16 hl (by decide) rfl (fun ls hl => ?_)
        refine lv_iload hx hb dX7_findMethod_18 (lv_at hl 0 rfl) ?_
        refine lv_if_lt (tgt := 26) hx hb dX7_findMethod_20 (by decide) (fun cp20 => ?_) (fun cp20 => ?_)
        · obtain rfl : r10 = -1 := zM.neg w0r10 cp20
          refine lv_aload_n hx hb dX7_findMethod_26 rfl (lv_at hl 1 rfl) ?_
          refine va_get (D := (dC, dI)) (ci := 6) (v := .ref (r 6)) (C := RX7) (T := TX7) (N := 46) hx hb hts hiX7 hown hK hP 0 rfl rfl 6 (by decide) (hts (.fieldLink RX7 23 "LinkModelsModel" "sort" "[I") (by decide +kernel)) (fun _ h9 => h9) rfl dX7_findMethod_27 ?_
          refine lv_iload_n hx hb dX7_findMethod_30 rfl (lv_at hl 3 rfl) ?_
          refine va_iald hx hb hK hP 4 0 rfl rfl (vp_in_nI (show ci < 80 by omega) (by decide)) dX7_findMethod_31 ?_
          refine lv_topi (fun x11 ex11 => ?_)
          obtain rfl : x11 = a6 ci := by rw [ex11, nI_clamp (show ci < 2 ^ 31 by omega)]
          refine lv_iconst (v := 1) hx hb dX7_findMethod_32 (by decide) ?_
          refine lv_icmp_ne (tgt := 40) hx hb dX7_findMethod_33 (by decide) (fun cp33 => ?_) (fun cp33 => ?_)
          · refine lv_aload_n hx hb dX7_findMethod_40 rfl (lv_at hl 1 rfl) ?_
            refine lv_iload_n hx hb dX7_findMethod_41 rfl (lv_at hl 2 rfl) ?_
            refine lv_iload hx hb dX7_findMethod_42 (lv_at hl 5 rfl) ?_
            have hFc := z_freeW hD hS hA
            refine vp_callSi (W.runV (As := [.int (nI bd), .int (nI k9)]) (rest := []) ⟨hx, hb, hml, hown, hts⟩ (kX7_aboveOf l dC dI h0 r cI cJ cZ v0 a1 tp bs cl a5 a6 a7 fc a9 mb a11 a12 a13 a14 a15 a16 a17 a18 a19 a20 az v22 v23 v24 v25 v26 bb ct us a30 a31 a32 a33 a34 a35 a36 a37 pil rwv rl v41 v42 v43 v44 v45 ⟨by omega, by omega, by omega, hcl, hfc, hmb, hct, hpil, hrwv⟩ rk bd k9 (by first | omega | assumption | trivial) (by exact hp2) (by exact hQk9.1) H.size) (cwV 2 hts zgX7_findMethod_X7_aboveOf_276 rfl rfl rfl (by decide +kernel) ⟨(show 1 + 1 ≤ 3 by omega), (show 8 + (3 + 11) + 23 ≤ 77 by omega)⟩) (zVm (ci := 6) (q0 := 0) (q := (RX7, TX7, 46)) hK hP hD hL hS.2.1 hFc rfl rfl rfl) rfl rfl hl.1 rfl (lv_room (Nat.le_of_ble_eq_true rfl)) dX7_findMethod_44 ⟨(show 0 + 0 ≤ 0 by omega), (show 0 + 0 ≤ 0 by omega)⟩) (fun r12 hw => ?_)
            have hw : (zM r12 (fun k => zGd cl a11 bd k ∧ rk (k - 16 * bd) < rk (k9 - 16 * bd))) := hw
            have w0r12 := hw
            refine lv_istore (lv' := [(4, .int r12), (5, .int (-1)), (0, .ref h0), (1, .int (nI bd)), (2, .int (nI ci)), (3, .int (nI uu))]) hx hb dX7_findMethod_47 hl (by decide) rfl (fun ls hl => ?_)
            refine lv_goto (tgt := 3) hx hb dX7_findMethod_49 (by decide) ?_
            exact ih3 (rk (k9 - 16 * bd)) r12 _ _ ls (by omega) (zM.imp w0r12 (fun k hk hq => by first | exact hq | trivial | omega)) hP hD hS (lv_sub hl [2, 3, 4, 5, 0] rfl)
          · refine lv_iconst (v := (-1)) hx hb dX7_findMethod_36 (by decide) ?_
            refine lv_goto (tgt := 47) hx hb dX7_findMethod_37 (by decide) ?_
            refine lv_istore (lv' := [(4, .int (-1)), (5, .int (-1)), (0, .ref h0), (1, .int (nI bd)), (2, .int (nI ci)), (3, .int (nI uu))]) hx hb dX7_findMethod_47 hl (by decide) rfl (fun ls hl => ?_)
            refine lv_goto (tgt := 3) hx hb dX7_findMethod_49 (by decide) ?_
            exact ih3 (rk (k9 - 16 * bd)) (-1 : Int32) _ _ ls (by omega) (Or.inl rfl) hP hD hS (lv_sub hl [2, 3, 4, 5, 0] rfl)
        · obtain ⟨k13, hBk13, hQk13, rfl⟩ := zM.pos w0r10 cp20
          refine lv_iload hx hb dX7_findMethod_23 (lv_at hl 0 rfl) ?_
          have hP9 : va_P (dC, dI) vwCl (rW h0 r cI cJ cZ v0 a1 (nI tp) (nI bs) (fun j => nI (cl j)) a5 a6 a7 (fun j => nI (fc j)) a9 (fun j => nI (mb j)) a11 a12 a13 a14 a15 a16 a17 a18 a19 a20 (nI az) v22 v23 v24 v25 v26 (nI bb) (fun j => nI (ct j)) (nI us) a30 a31 a32 a33 a34 a35 a36 a37 (fun j => nI (pil j)) (fun j => nI (rwv j)) (nI rl) v41 v42 v43 v44 v45) H := hP
          have hD9 : va_D A (rW h0 r cI cJ cZ v0 a1 (nI tp) (nI bs) (fun j => nI (cl j)) a5 a6 a7 (fun j => nI (fc j)) a9 (fun j => nI (mb j)) a11 a12 a13 a14 a15 a16 a17 a18 a19 a20 (nI az) v22 v23 v24 v25 v26 (nI bb) (fun j => nI (ct j)) (nI us) a30 a31 a32 a33 a34 a35 a36 a37 (fun j => nI (pil j)) (fun j => nI (rwv j)) (nI rl) v41 v42 v43 v44 v45) := hD
          exact W.iret (v := (nI k13)) hx hb hr (fun t ht hW => ⟨⟨(nI k13), (rl, pil, rwv, v43, v44, v45), rfl, ⟨(zM.mk (by omega) (by first | trivial | omega | assumption | (refine ⟨?_, ?_⟩ <;> first | trivial | omega | assumption))), hpil, hrwv⟩, by rw [ht]; exact hP9, va_K.moved hW.alike hK, hD9⟩, hS.F ht⟩) hS.2.2 dX7_findMethod_25
  refine lv_iload_n hx hb dX7_findMethod_0 rfl (lv_at hl 2 rfl) ?_
  refine lv_istore (lv' := [(4, .int (nI ci)), (0, .ref h0), (1, .int (nI bd)), (2, .int (nI ci)), (3, .int (nI uu))]) hx hb dX7_findMethod_1 hl (by decide) rfl (fun ls hl => ?_)
  exact J3 _ (rk (ci - 16 * bd) + 1) (nI ci) _ _ ls (Nat.lt_succ_self _) (zM.mk (by omega) (by first | trivial | omega | assumption | (refine ⟨?_, ?_⟩ <;> first | trivial | omega | assumption))) hP hD hS (lv_sub hl [1, 2, 3, 4, 0] rfl)
