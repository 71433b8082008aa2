theorem zPl.cong {cn cn2 : Nat → Int32} {b n : Nat} {nm x : Int32} (h : zPl cn b n nm x) (e : ∀ j, j < n → cn2 (b + j) = cn (b + j)) : zPl cn2 b n nm x := by
  rcases h with ⟨h1, h2⟩ | ⟨k, h1, h2, h3, h4⟩
  · exact Or.inl ⟨h1, fun j hj => by rw [e j hj]; exact h2 j hj⟩
  · exact Or.inr ⟨k, h1, h2, by rw [e k h1]; exact h3, fun j hj => by rw [e j (by omega)]; exact h4 j hj⟩
/-- what is settled of a build stays, while a later one is read -/
theorem z_okcong {cl cl2 fc fc2 : Nat → Nat} {cn cn2 ab ab2 fa fa2 er er2 : Nat → Int32} {bs bd : Nat} (h : zOK cl cn ab fc fa er bd) (hbd : bd < bs) (hc : ∀ j, cl j ≤ 16) (hf : ∀ j, fc j ≤ 3) (h1 : ∀ j, j ≠ bs → cl2 j = cl j) (h2 : ∀ j, j < 16 * bs → cn2 j = cn j) (h3 : ∀ j, j < 16 * bs → ab2 j = ab j) (h4 : ∀ j, j < 16 * bs → fc2 j = fc j) (h5 : ∀ j, j < 48 * bs → fa2 j = fa j) (h6 : ∀ j, j < 16 * bs → er2 j = er j) : zOK cl2 cn2 ab2 fc2 fa2 er2 bd := by
  obtain ⟨rk, h⟩ := h
  have e1 := h1 bd (by omega)
  have e2 := hc bd
  refine ⟨rk, fun c hcc => ?_⟩
  rw [e1] at hcc
  have hl : 16 * bd + c < 16 * bs := by omega
  obtain ⟨g1, g2⟩ := h c hcc
  rw [h6 _ hl]
  refine ⟨g1, fun h0 => ?_⟩
  obtain ⟨k1, k2⟩ := g2 h0
  refine ⟨fun ha => ?_, fun k hk => ?_⟩
  · rw [h3 _ hl] at ha ⊢
    obtain ⟨p, p1, p2, p3, p4⟩ := k1 ha
    rw [e1]
    exact ⟨p, p1, p2.cong (fun j hj => h2 _ (by omega)), by rw [h6 _ (by omega)]; exact p3, p4⟩
  · rw [h4 _ hl] at hk
    have e3 := hf (16 * bd + c)
    obtain ⟨p, p1, p2, p3, p4⟩ := k2 k hk
    rw [e1, h5 _ (by omega)]
    exact ⟨p, p1, p2.cong (fun j hj => h2 _ (by omega)), by rw [h6 _ (by omega)]; exact p3, p4⟩
theorem dX7_build_0 : decode cX7_build 0 = .ok (.aload_n 0, 1) := by decide +kernel
theorem dX7_build_1 : decode cX7_build 1 = .ok (.iconst 0, 1) := by decide +kernel
theorem dX7_build_2 : decode cX7_build 2 = .ok (.putfield 1, 3) := by decide +kernel
theorem dX7_build_5 : decode cX7_build 5 = .ok (.aload_n 0, 1) := by decide +kernel
theorem dX7_build_6 : decode cX7_build 6 = .ok (.getfield 232, 3) := by decide +kernel
theorem dX7_build_9 : decode cX7_build 9 = .ok (.iconst 5, 1) := by decide +kernel
theorem dX7_build_10 : decode cX7_build 10 = .ok (.if_icmp .ne 11, 3) := by decide +kernel
theorem dX7_build_13 : decode cX7_build 13 = .ok (.aload_n 0, 1) := by decide +kernel
theorem dX7_build_14 : decode cX7_build 14 = .ok (.iconst 0, 1) := by decide +kernel
theorem dX7_build_15 : decode cX7_build 15 = .ok (.putfield 109, 3) := by decide +kernel
theorem dX7_build_18 : decode cX7_build 18 = .ok (.bipush (-5), 2) := by decide +kernel
theorem dX7_build_20 : decode cX7_build 20 = .ok (.ireturn, 1) := by decide +kernel
theorem dX7_build_21 : decode cX7_build 21 = .ok (.aload_n 0, 1) := by decide +kernel
theorem dX7_build_22 : decode cX7_build 22 = .ok (.aload_n 0, 1) := by decide +kernel
theorem dX7_build_23 : decode cX7_build 23 = .ok (.getfield 232, 3) := by decide +kernel
theorem dX7_build_26 : decode cX7_build 26 = .ok (.putfield 198, 3) := by decide +kernel
theorem dX7_build_29 : decode cX7_build 29 = .ok (.aload_n 0, 1) := by decide +kernel
theorem dX7_build_30 : decode cX7_build 30 = .ok (.getfield 17, 3) := by decide +kernel
theorem dX7_build_33 : decode cX7_build 33 = .ok (.aload_n 0, 1) := by decide +kernel
theorem dX7_build_34 : decode cX7_build 34 = .ok (.getfield 198, 3) := by decide +kernel
theorem dX7_build_37 : decode cX7_build 37 = .ok (.iconst 0, 1) := by decide +kernel
theorem dX7_build_38 : decode cX7_build 38 = .ok (.iastore, 1) := by decide +kernel
theorem dX7_build_39 : decode cX7_build 39 = .ok (.aload_n 0, 1) := by decide +kernel
theorem dX7_build_40 : decode cX7_build 40 = .ok (.iconst 0, 1) := by decide +kernel
theorem dX7_build_41 : decode cX7_build 41 = .ok (.putfield 126, 3) := by decide +kernel
theorem dX7_build_44 : decode cX7_build 44 = .ok (.aload_n 0, 1) := by decide +kernel
theorem dX7_build_45 : decode cX7_build 45 = .ok (.iconst 0, 1) := by decide +kernel
theorem dX7_build_46 : decode cX7_build 46 = .ok (.putfield 155, 3) := by decide +kernel
theorem dX7_build_49 : decode cX7_build 49 = .ok (.aload_n 0, 1) := by decide +kernel
theorem dX7_build_50 : decode cX7_build 50 = .ok (.invokevirtual 195, 3) := by decide +kernel
theorem dX7_build_53 : decode cX7_build 53 = .ok (.iconst 1, 1) := by decide +kernel
theorem dX7_build_54 : decode cX7_build 54 = .ok (.istore_n 1, 1) := by decide +kernel
theorem dX7_build_55 : decode cX7_build 55 = .ok (.iload_n 1, 1) := by decide +kernel
theorem dX7_build_56 : decode cX7_build 56 = .ok (.ifCond .eq 18, 3) := by decide +kernel
theorem dX7_build_59 : decode cX7_build 59 = .ok (.aload_n 0, 1) := by decide +kernel
theorem dX7_build_60 : decode cX7_build 60 = .ok (.getfield 136, 3) := by decide +kernel
theorem dX7_build_63 : decode cX7_build 63 = .ok (.ifCond .eq 11, 3) := by decide +kernel
theorem dX7_build_66 : decode cX7_build 66 = .ok (.aload_n 0, 1) := by decide +kernel
theorem dX7_build_67 : decode cX7_build 67 = .ok (.invokevirtual 235, 3) := by decide +kernel
theorem dX7_build_70 : decode cX7_build 70 = .ok (.istore_n 1, 1) := by decide +kernel
theorem dX7_build_71 : decode cX7_build 71 = .ok (.goto (-16), 3) := by decide +kernel
theorem dX7_build_74 : decode cX7_build 74 = .ok (.aload_n 0, 1) := by decide +kernel
theorem dX7_build_75 : decode cX7_build 75 = .ok (.iconst 0, 1) := by decide +kernel
theorem dX7_build_76 : decode cX7_build 76 = .ok (.putfield 109, 3) := by decide +kernel
theorem dX7_build_79 : decode cX7_build 79 = .ok (.iload_n 1, 1) := by decide +kernel
theorem dX7_build_80 : decode cX7_build 80 = .ok (.ifCond .ne 21, 3) := by decide +kernel
theorem dX7_build_83 : decode cX7_build 83 = .ok (.sipush (-10000), 3) := by decide +kernel
theorem dX7_build_86 : decode cX7_build 86 = .ok (.sipush 1000, 3) := by decide +kernel
theorem dX7_build_89 : decode cX7_build 89 = .ok (.aload_n 0, 1) := by decide +kernel
theorem dX7_build_90 : decode cX7_build 90 = .ok (.getfield 155, 3) := by decide +kernel
theorem dX7_build_93 : decode cX7_build 93 = .ok (.imul, 1) := by decide +kernel
theorem dX7_build_94 : decode cX7_build 94 = .ok (.isub, 1) := by decide +kernel
theorem dX7_build_95 : decode cX7_build 95 = .ok (.aload_n 0, 1) := by decide +kernel
theorem dX7_build_96 : decode cX7_build 96 = .ok (.getfield 158, 3) := by decide +kernel
theorem dX7_build_99 : decode cX7_build 99 = .ok (.isub, 1) := by decide +kernel
theorem dX7_build_100 : decode cX7_build 100 = .ok (.ireturn, 1) := by decide +kernel
theorem dX7_build_101 : decode cX7_build 101 = .ok (.aload_n 0, 1) := by decide +kernel
theorem dX7_build_102 : decode cX7_build 102 = .ok (.invokevirtual 238, 3) := by decide +kernel
theorem dX7_build_105 : decode cX7_build 105 = .ok (.aload_n 0, 1) := by decide +kernel
theorem dX7_build_106 : decode cX7_build 106 = .ok (.dup, 1) := by decide +kernel
theorem dX7_build_107 : decode cX7_build 107 = .ok (.getfield 232, 3) := by decide +kernel
theorem dX7_build_110 : decode cX7_build 110 = .ok (.iconst 1, 1) := by decide +kernel
theorem dX7_build_111 : decode cX7_build 111 = .ok (.iadd, 1) := by decide +kernel
theorem dX7_build_112 : decode cX7_build 112 = .ok (.putfield 232, 3) := by decide +kernel
theorem dX7_build_115 : decode cX7_build 115 = .ok (.aload_n 0, 1) := by decide +kernel
theorem dX7_build_116 : decode cX7_build 116 = .ok (.getfield 232, 3) := by decide +kernel
theorem dX7_build_119 : decode cX7_build 119 = .ok (.iconst 1, 1) := by decide +kernel
theorem dX7_build_120 : decode cX7_build 120 = .ok (.isub, 1) := by decide +kernel
theorem dX7_build_121 : decode cX7_build 121 = .ok (.ireturn, 1) := by decide +kernel
def zwX7_build : List Cond := .code yX7_build cX7_build 2 (some .int) :: ([.fieldLink RX7 109 "LinkModelsModel" "taped" "I", .fieldLink RX7 232 "LinkModelsModel" "builds" "I", .fieldLink RX7 155 "LinkModelsModel" "fault" "I", .fieldLink RX7 158 "LinkModelsModel" "faultAt" "I", .fieldLink RX7 136 "LinkModelsModel" "token" "I", .fieldLink RX7 1 "LinkModelsModel" "thrown" "I", .fieldLink RX7 198 "LinkModelsModel" "b" "I", .fieldLink RX7 17 "LinkModelsModel" "classes" "[I", .fieldLink RX7 126 "LinkModelsModel" "at" "I", .methodLink RX7 238 yX7_reckon, .instanceMethod yX7_reckon, .selects RX7 yX7_reckon yX7_reckon, .initialized RX7, .code yX7_reckon cX7_reckon 6 none, .fieldLink RX7 38 "LinkModelsModel" "error" "[I", .fieldLink RX7 70 "LinkModelsModel" "comesTo" "[I", .fieldLink RX7 41 "LinkModelsModel" "ofAll" "[I", .methodLink RX7 245 yX7_errorNow, .instanceMethod yX7_errorNow, .selects RX7 yX7_errorNow yX7_errorNow, .code yX7_errorNow cX7_errorNow 6 (some .int), .fieldLink RX7 29 "LinkModelsModel" "faces" "[I", .fieldLink RX7 32 "LinkModelsModel" "face" "[I", .fieldLink RX7 23 "LinkModelsModel" "sort" "[I", .fieldLink RX7 26 "LinkModelsModel" "above" "[I", .methodLink RX7 201 yX7_place, .instanceMethod yX7_place, .selects RX7 yX7_place yX7_place, .code yX7_place cX7_place 4 (some .int), .fieldLink RX7 20 "LinkModelsModel" "className" "[I", .methodLink RX7 241 yX7_steps, .instanceMethod yX7_steps, .selects RX7 yX7_steps yX7_steps, .code yX7_steps cX7_steps 6 (some .int), .methodLink RX7 235 yX7_oneClass, .instanceMethod yX7_oneClass, .selects RX7 yX7_oneClass yX7_oneClass, .code yX7_oneClass cX7_oneClass 5 (some .boolean), .fieldLink RX7 132 "LinkModelsModel" "value" "J", .fieldLink RX7 161 "LinkModelsModel" "CLASS" "J", .fieldLink RX7 35 "LinkModelsModel" "members" "[I", .fieldLink RX7 180 "LinkModelsModel" "FACE_WORD" "J", .fieldLink RX7 189 "LinkModelsModel" "ABSTRACT_WORD" "J", .fieldLink RX7 168 "LinkModelsModel" "FINAL_WORD" "J", .methodLink RX7 195 yX7_next, .instanceMethod yX7_next, .selects RX7 yX7_next yX7_next, .code yX7_next cX7_next 2 none, .fieldLink RX7 129 "LinkModelsModel" "tokenAt" "I", .constantLong RX7 153 (10), .constantLong RX7 118 (48), .fieldLink RX7 13 "LinkModelsModel" "tape" "[I", .methodLink RX7 139 yX7_here, .instanceMethod yX7_here, .selects RX7 yX7_here yX7_here, .code yX7_here cX7_here 1 (some .int), .methodLink RX7 143 yX7_isBig, .static yX7_isBig, .code yX7_isBig cX7_isBig 1 (some .boolean), .constantLong RX7 114 (65), .constantLong RX7 116 (90), .methodLink RX7 105 yX7_in, .static yX7_in, .code yX7_in cX7_in 6 (some .boolean), .methodLink RX7 147 yX7_isDigit, .static yX7_isDigit, .code yX7_isDigit cX7_isDigit 1 (some .boolean), .constantLong RX7 120 (57), .methodLink RX7 150 yX7_isSmall, .static yX7_isSmall, .code yX7_isSmall cX7_isSmall 1 (some .boolean), .constantLong RX7 122 (97), .constantLong RX7 124 (122), .methodLink RX7 208 yX7_oneMember, .instanceMethod yX7_oneMember, .selects RX7 yX7_oneMember yX7_oneMember, .code yX7_oneMember cX7_oneMember 8 (some .boolean), .fieldLink RX7 44 "LinkModelsModel" "word" "[J", .fieldLink RX7 48 "LinkModelsModel" "marks" "[I", .fieldLink RX7 51 "LinkModelsModel" "isMethod" "[Z", .fieldLink RX7 55 "LinkModelsModel" "isConstant" "[Z", .fieldLink RX7 61 "LinkModelsModel" "many" "[I", .fieldLink RX7 58 "LinkModelsModel" "number" "[I", .fieldLink RX7 183 "LinkModelsModel" "STATIC_WORD" "J", .fieldLink RX7 186 "LinkModelsModel" "HIDDEN_WORD" "J", .methodLink RX7 205 yX7_takes, .instanceMethod yX7_takes, .selects RX7 yX7_takes yX7_takes, .code yX7_takes cX7_takes 2 (some .boolean), .methodLink RX7 192 yX7_fails, .instanceMethod yX7_fails, .selects RX7 yX7_fails yX7_fails, .code yX7_fails cX7_fails 2 (some .boolean), .methodLink RX7 211 yX7_isType, .instanceMethod yX7_isType, .selects RX7 yX7_isType yX7_isType, .code yX7_isType cX7_isType 1 (some .boolean), .fieldLink RX7 171 "LinkModelsModel" "INT" "J", .fieldLink RX7 174 "LinkModelsModel" "LONG" "J", .fieldLink RX7 177 "LinkModelsModel" "VOID" "J", .methodLink RX7 164 yX7_isWord, .instanceMethod yX7_isWord, .selects RX7 yX7_isWord yX7_isWord, .code yX7_isWord cX7_isWord 3 (some .boolean), .methodLink RX7 215 yX7_typeNow, .instanceMethod yX7_typeNow, .selects RX7 yX7_typeNow yX7_typeNow, .code yX7_typeNow cX7_typeNow 1 (some .int), .methodLink RX7 218 yX7_isKept, .instanceMethod yX7_isKept, .selects RX7 yX7_isKept yX7_isKept, .code yX7_isKept cX7_isKept 1 (some .boolean), .methodLink RX7 225 yX7_field, .instanceMethod yX7_field, .selects RX7 yX7_field yX7_field, .code yX7_field cX7_field 4 (some .boolean), .methodLink RX7 229 yX7_isThere, .instanceMethod yX7_isThere, .selects RX7 yX7_isThere yX7_isThere, .code yX7_isThere cX7_isThere 5 (some .boolean), .fieldLink RX7 67 "LinkModelsModel" "second" "[I", .fieldLink RX7 64 "LinkModelsModel" "first" "[I", .methodLink RX7 221 yX7_method, .instanceMethod yX7_method, .selects RX7 yX7_method yX7_method, .code yX7_method cX7_method 4 (some .boolean)] ++ wsX70)
theorem zgX7_build_X7_reckon_238 : GoodIn zwX7_build (wsV RX7 238 RX7 yX7_reckon zwX7_reckon) := goodIn_app (goodIn_r _ [10, 11, 12, 13] rfl (by decide +kernel)) (goodIn_ca (goodIn_r _ [14, 15, 7, 16, 17, 8, 18, 19, 20, 13, 21, 22, 23, 24, 25, 26, 27, 28, 29, 30, 31, 32, 33, 34] rfl (by decide +kernel)) (zgt zg7))
theorem zgX7_build_X7_oneClass_235 : GoodIn zwX7_build (wsV RX7 235 RX7 yX7_oneClass zwX7_oneClass) := goodIn_app (goodIn_r _ [35, 36, 37, 13] rfl (by decide +kernel)) (goodIn_ca (goodIn_r _ [38, 5, 8, 7, 22, 23, 39, 40, 30, 24, 25, 41, 42, 43, 44, 45, 46, 47, 13, 48, 9, 49, 1, 50, 51, 52, 53, 54, 55, 56, 57, 58, 59, 60, 61, 62, 63, 64, 65, 66, 67, 68, 69, 70, 71, 72, 73, 74, 75, 76, 77, 78, 79, 80, 81, 82, 83, 84, 85, 86, 87, 88, 89, 90, 91, 92, 93, 3, 4, 94, 95, 96, 97, 98, 99, 100, 101, 102, 103, 104, 105, 106, 107, 108, 109, 110, 111, 112, 113, 114, 115, 116, 117, 118, 119, 120, 121, 122, 123, 124, 125, 126, 26, 27, 28, 29] rfl (by decide +kernel)) (zgt zg7))
theorem zgX7_build_X7_next_195 : GoodIn zwX7_build (wsV RX7 195 RX7 yX7_next zwX7_next) := goodIn_app (goodIn_r _ [45, 46, 47, 13] rfl (by decide +kernel)) (goodIn_ca (goodIn_r _ [48, 9, 49, 5, 1, 39, 50, 51, 52, 53, 54, 55, 13, 56, 57, 58, 59, 60, 61, 62, 63, 64, 65, 66, 67, 68, 69, 70, 71, 72, 73] rfl (by decide +kernel)) (zgt zg7))
set_option maxHeartbeats 4000000 in
set_option maxRecDepth 100000 in
theorem kX7_build (l : Launch) (dC : Nat → ClassId) (dI : Nat → Nat → Nat) (h0 : Nat) (r : Nat → Nat) (cI : ClassId) (cJ : ClassId) (cZ : ClassId) (v0 : Int32) (a1 : Nat → Int32) (tp : Nat) (bs : Nat) (cl : Nat → Nat) (a5 : Nat → Int32) (a6 : Nat → Int32) (a7 : Nat → Int32) (fc : Nat → Nat) (a9 : Nat → Int32) (mb : Nat → Nat) (a11 : Nat → Int32) (a12 : Nat → Int32) (a13 : Nat → Int64) (a14 : Nat → Int32) (a15 : Nat → Int32) (a16 : Nat → Int32) (a17 : Nat → Int32) (a18 : Nat → Int32) (a19 : Nat → Int32) (a20 : Nat → Int32) (az : Nat) (v22 : Int32) (v23 : Int32) (v24 : Int64) (v25 : Int32) (v26 : Int32) (bb : Nat) (ct : Nat → Nat) (us : Nat) (a30 : Nat → Int32) (a31 : Nat → Int32) (a32 : Nat → Int32) (a33 : Nat → Int64) (a34 : Nat → Int32) (a35 : Nat → Int32) (a36 : Nat → Int32) (a37 : Nat → Int32) (pil : Nat → Nat) (rwv : Nat → Nat) (rl : Nat) (v41 : Int32) (v42 : Int32) (v43 : Int32) (v44 : Int32) (v45 : Int32) (hI : rWI tp bs cl fc mb az bb ct us pil rwv rl) (hp0 : ∀ bd, bd < bs → zOK cl a5 a7 fc a9 a11 bd) (sz : Nat) : Met l yX7_build zwX7_build ({ frames := 6, cells := 0, slots := 0, locals := 140 }) (zPm dC dI [.ref h0] sz (rW h0 r cI cJ cZ v0 a1 (nI tp) (nI bs) (fun j => nI (cl j)) a5 a6 a7 (fun j => nI (fc j)) a9 (fun j => nI (mb j)) a11 a12 a13 a14 a15 a16 a17 a18 a19 a20 (nI az) v22 v23 v24 v25 v26 (nI bb) (fun j => nI (ct j)) (nI us) a30 a31 a32 a33 a34 a35 a36 a37 (fun j => nI (pil j)) (fun j => nI (rwv j)) (nI rl) v41 v42 v43 v44 v45) [(cI, .int), (cJ, .long), (cZ, .boolean)]) (va_Qi (fun (r : Int32) (u : Nat × Nat × Int32 × Nat × (Nat → Nat) × Nat × Int32 × Int32 × Int64 × Int32 × Int32 × (Nat → Int32) × (Nat → Int32) × (Nat → Int32) × (Nat → Nat) × (Nat → Int32) × (Nat → Int64) × (Nat → Int32) × (Nat → Int32) × (Nat → Int32) × (Nat → Int32) × (Nat → Int32) × (Nat → Int32) × (Nat → Int32) × (Nat → Nat) × (Nat → Nat) × (Nat → Int32) × (Nat → Int32)) => ((u.1) = 0) ∧ ((u.2.1) ≤ 5) ∧ (∀ bd, bd < (u.2.1) → zOK (u.2.2.2.2.1) (u.2.2.2.2.2.2.2.2.2.2.2.1) (u.2.2.2.2.2.2.2.2.2.2.2.2.2.1) (u.2.2.2.2.2.2.2.2.2.2.2.2.2.2.1) (u.2.2.2.2.2.2.2.2.2.2.2.2.2.2.2.1) (u.2.2.2.2.2.2.2.2.2.2.2.2.2.2.2.2.2.2.2.2.2.2.2.2.2.2.1) bd) ∧ (∀ j, (u.2.2.2.2.1) j ≤ 16) ∧ (∀ j, j ≠ bs → (u.2.2.2.2.1) j = cl j) ∧ (∀ j, j < 16 * bs → (u.2.2.2.2.2.2.2.2.2.2.2.1) j = a5 j) ∧ (∀ j, j < 16 * bs → (u.2.2.2.2.2.2.2.2.2.2.2.2.2.1) j = a7 j) ∧ (∀ j, (u.2.2.2.2.2.2.2.2.2.2.2.2.2.2.1) j ≤ 3) ∧ (∀ j, j < 16 * bs → (u.2.2.2.2.2.2.2.2.2.2.2.2.2.2.1) j = fc j) ∧ (∀ j, j < 48 * bs → (u.2.2.2.2.2.2.2.2.2.2.2.2.2.2.2.1) j = a9 j) ∧ (∀ j, (u.2.2.2.2.2.2.2.2.2.2.2.2.2.2.2.2.2.2.2.2.2.2.2.2.1) j ≤ 12) ∧ (∀ j, (u.2.2.2.2.2.2.2.2.2.2.2.2.2.2.2.2.2.2.2.2.2.2.2.2.2.1) j ≤ 65535) ∧ (∀ j, j < 16 * bs → (u.2.2.2.2.2.2.2.2.2.2.2.2.2.2.2.2.2.2.2.2.2.2.2.2.2.2.1) j = a11 j)) (fun u t => zB dC dI (va_A (rW h0 r cI cJ cZ v0 a1 (nI tp) (nI bs) (fun j => nI (cl j)) a5 a6 a7 (fun j => nI (fc j)) a9 (fun j => nI (mb j)) a11 a12 a13 a14 a15 a16 a17 a18 a19 a20 (nI az) v22 v23 v24 v25 v26 (nI bb) (fun j => nI (ct j)) (nI us) a30 a31 a32 a33 a34 a35 a36 a37 (fun j => nI (pil j)) (fun j => nI (rwv j)) (nI rl) v41 v42 v43 v44 v45) sz) (rW h0 r cI cJ cZ (u.2.2.1) a1 (nI (u.1)) (nI (u.2.1)) (fun j => nI ((u.2.2.2.2.1) j)) (u.2.2.2.2.2.2.2.2.2.2.2.1) (u.2.2.2.2.2.2.2.2.2.2.2.2.1) (u.2.2.2.2.2.2.2.2.2.2.2.2.2.1) (fun j => nI ((u.2.2.2.2.2.2.2.2.2.2.2.2.2.2.1) j)) (u.2.2.2.2.2.2.2.2.2.2.2.2.2.2.2.1) (fun j => nI ((u.2.2.2.2.2.2.2.2.2.2.2.2.2.2.2.2.2.2.2.2.2.2.2.2.1) j)) (u.2.2.2.2.2.2.2.2.2.2.2.2.2.2.2.2.2.2.2.2.2.2.2.2.2.2.1) (u.2.2.2.2.2.2.2.2.2.2.2.2.2.2.2.2.2.2.2.2.2.2.2.2.2.2.2) (u.2.2.2.2.2.2.2.2.2.2.2.2.2.2.2.2.1) (u.2.2.2.2.2.2.2.2.2.2.2.2.2.2.2.2.2.1) (u.2.2.2.2.2.2.2.2.2.2.2.2.2.2.2.2.2.2.2.2.1) (u.2.2.2.2.2.2.2.2.2.2.2.2.2.2.2.2.2.2.1) (u.2.2.2.2.2.2.2.2.2.2.2.2.2.2.2.2.2.2.2.1) (u.2.2.2.2.2.2.2.2.2.2.2.2.2.2.2.2.2.2.2.2.2.1) (u.2.2.2.2.2.2.2.2.2.2.2.2.2.2.2.2.2.2.2.2.2.2.1) (u.2.2.2.2.2.2.2.2.2.2.2.2.2.2.2.2.2.2.2.2.2.2.2.1) (nI (u.2.2.2.2.2.1)) (u.2.2.2.2.2.2.1) (u.2.2.2.2.2.2.2.1) (u.2.2.2.2.2.2.2.2.1) (u.2.2.2.2.2.2.2.2.2.1) (u.2.2.2.2.2.2.2.2.2.2.1) (nI (u.2.2.2.1)) (fun j => nI ((u.2.2.2.2.2.2.2.2.2.2.2.2.2.2.2.2.2.2.2.2.2.2.2.2.2.1) j)) (nI us) a30 a31 a32 a33 a34 a35 a36 a37 (fun j => nI (pil j)) (fun j => nI (rwv j)) (nI rl) v41 v42 v43 v44 v45) [(cI, .int), (cJ, .long), (cZ, .boolean)] t) (va_A (rW h0 r cI cJ cZ v0 a1 (nI tp) (nI bs) (fun j => nI (cl j)) a5 a6 a7 (fun j => nI (fc j)) a9 (fun j => nI (mb j)) a11 a12 a13 a14 a15 a16 a17 a18 a19 a20 (nI az) v22 v23 v24 v25 v26 (nI bb) (fun j => nI (ct j)) (nI us) a30 a31 a32 a33 a34 a35 a36 a37 (fun j => nI (pil j)) (fun j => nI (rwv j)) (nI rl) v41 v42 v43 v44 v45) sz)) 0 0 (va_A (rW h0 r cI cJ cZ v0 a1 (nI tp) (nI bs) (fun j => nI (cl j)) a5 a6 a7 (fun j => nI (fc j)) a9 (fun j => nI (mb j)) a11 a12 a13 a14 a15 a16 a17 a18 a19 a20 (nI az) v22 v23 v24 v25 v26 (nI bb) (fun j => nI (ct j)) (nI us) a30 a31 a32 a33 a34 a35 a36 a37 (fun j => nI (pil j)) (fun j => nI (rwv j)) (nI rl) v41 v42 v43 v44 v45) sz) := by
  refine Met.ofW (cc := cX7_build) (maxL := 2) (ret := (some .int)) (by decide) rfl ?_
  intro p e s m args below meth c s₁ B hml hv
  obtain ⟨rfl, hsz, hP, hK, hD0, hL0⟩ := hv
  have hx := B.exec
  have hb := B.bytes
  have hr := B.returns
  have hts := atoms_spec (ws := zwX7_build) B.pre
  have hown : s.vm.findClass RX7 = some m.cls := findClass_of_methodNamed B.named
  have hiX7 : ∀ w ∈ wsX70, w ∈ zwX7_build := (fun _ h => List.mem_cons_of_mem _ (List.mem_append_right _ h))
  obtain ⟨htp, hbs, hus, hcl, hfc, hmb, hct, hpil, hrwv⟩ := hI
  subst hsz
  have hD := hD0.self (sz := s.heap.size)
  generalize hAe : va_A (rW h0 r cI cJ cZ v0 a1 (nI tp) (nI bs) (fun j => nI (cl j)) a5 a6 a7 (fun j => nI (fc j)) a9 (fun j => nI (mb j)) a11 a12 a13 a14 a15 a16 a17 a18 a19 a20 (nI az) v22 v23 v24 v25 v26 (nI bb) (fun j => nI (ct j)) (nI us) a30 a31 a32 a33 a34 a35 a36 a37 (fun j => nI (pil j)) (fun j => nI (rwv j)) (nI rl) v41 v42 v43 v44 v45) s.heap.size = A at hD hL0 ⊢
  have hA : ∀ q : Nat, s.heap.size ≤ q → A q := fun q h => by rw [← hAe]; exact Or.inr h
  have hS : va_S A s.heap s.heap [] := va_S.rf
  have hL := hL0
  have hl := lv_entry ([.ref h0]) (n := 2) (Nat.le_of_ble_eq_true rfl)
  rw [lg_entry_eq]
  generalize (lg_sl ([.ref h0]) ++ List.replicate (2 - (lg_sl ([.ref h0])).length) Slot.unset).toArray = ls at hl ⊢
  have hl : lv_has ls 2 [(0, .ref h0)] := hl
  have J55 : ∀ (z55 : Nat) (gd : Nat) (th : Int32) (bq : Nat) (cl2 : Nat → Nat) (i2 : Nat) (tk : Int32) (ta : Int32) (vl : Int64) (fo : Int32) (fp : Int32) (d1 : Nat → Int32) (d2 : Nat → Int32) (d3 : Nat → Int32) (fc2 : Nat → Nat) (d4 : Nat → Int32) (b7 : Nat → Int64) (b8 : Nat → Int32) (b1 : Nat → Int32) (b2 : Nat → Int32) (b3 : Nat → Int32) (b4 : Nat → Int32) (b5 : Nat → Int32) (b6 : Nat → Int32) (mb2 : Nat → Nat) (H : Heap) (locs : List Loc) (ls : Array Slot), 2 * (tp - i2) + gd < z55 → (∀ j, cl2 j ≤ 16) → (∀ j, j ≠ bs → cl2 j = cl j) → (∀ j, j < 16 * bs → d1 j = a5 j) → (∀ j, j < 16 * bs → d3 j = a7 j) → (∀ j, fc2 j ≤ 3) → (∀ j, j < 16 * bs → fc2 j = fc j) → (∀ j, j < 48 * bs → d4 j = a9 j) → (∀ j, mb2 j ≤ 12) → (i2 ≤ tp) → (gd ≤ 1) → (bq = bs) → (bs < 5) → va_P (dC, dI) vwCl (rW h0 r cI cJ cZ th a1 (nI tp) (nI bs) (fun j => nI (cl2 j)) d1 d2 d3 (fun j => nI (fc2 j)) d4 (fun j => nI (mb2 j)) a11 a12 b7 b8 b3 b1 b2 b4 b5 b6 (nI i2) tk ta vl fo fp (nI bq) (fun j => nI (ct j)) (nI us) a30 a31 a32 a33 a34 a35 a36 a37 (fun j => nI (pil j)) (fun j => nI (rwv j)) (nI rl) v41 v42 v43 v44 v45) H → va_D A (rW h0 r cI cJ cZ th a1 (nI tp) (nI bs) (fun j => nI (cl2 j)) d1 d2 d3 (fun j => nI (fc2 j)) d4 (fun j => nI (mb2 j)) a11 a12 b7 b8 b3 b1 b2 b4 b5 b6 (nI i2) tk ta vl fo fp (nI bq) (fun j => nI (ct j)) (nI us) a30 a31 a32 a33 a34 a35 a36 a37 (fun j => nI (pil j)) (fun j => nI (rwv j)) (nI rl) v41 v42 v43 v44 v45) → va_S A s.heap H locs → lv_has ls 2 [(0, .ref h0), (1, .int (nI gd))] → W p l e (headSpec zwX7_build { frames := 6, cells := 0, slots := 0, locals := 140 }).room s m (([.ref h0] : List Value).toArray) below meth c H locs 0 0 (MQ below (va_Qi (fun (r : Int32) (u : Nat × Nat × Int32 × Nat × (Nat → Nat) × Nat × Int32 × Int32 × Int64 × Int32 × Int32 × (Nat → Int32) × (Nat → Int32) × (Nat → Int32) × (Nat → Nat) × (Nat → Int32) × (Nat → Int64) × (Nat → Int32) × (Nat → Int32) × (Nat → Int32) × (Nat → Int32) × (Nat → Int32) × (Nat → Int32) × (Nat → Int32) × (Nat → Nat) × (Nat → Nat) × (Nat → Int32) × (Nat → Int32)) => ((u.1) = 0) ∧ ((u.2.1) ≤ 5) ∧ (∀ bd, bd < (u.2.1) → zOK (u.2.2.2.2.1) (u.2.2.2.2.2.2.2.2.2.2.2.1) (u.2.2.2.2.2.2.2.2.2.2.2.2.2.1) (u.2.2.2.2.2.2.2.2.2.2.2.2.2.2.1) (u.2.2.2.2.2.2.2.2.2.2.2.2.2.2.2.1) (u.2.2.2.2.2.2.2.2.2.2.2.2.2.2.2.2.2.2.2.2.2.2.2.2.2.2.1) bd) ∧ (∀ j, (u.2.2.2.2.1) j ≤ 16) ∧ (∀ j, j ≠ bs → (u.2.2.2.2.1) j = cl j) ∧ (∀ j, j < 16 * bs → (u.2.2.2.2.2.2.2.2.2.2.2.1) j = a5 j) ∧ (∀ j, j < 16 * bs → (u.2.2.2.2.2.2.2.2.2.2.2.2.2.1) j = a7 j) ∧ (∀ j, (u.2.2.2.2.2.2.2.2.2.2.2.2.2.2.1) j ≤ 3) ∧ (∀ j, j < 16 * bs → (u.2.2.2.2.2.2.2.2.2.2.2.2.2.2.1) j = fc j) ∧ (∀ j, j < 48 * bs → (u.2.2.2.2.2.2.2.2.2.2.2.2.2.2.2.1) j = a9 j) ∧ (∀ j, (u.2.2.2.2.2.2.2.2.2.2.2.2.2.2.2.2.2.2.2.2.2.2.2.2.1) j ≤ 12) ∧ (∀ j, (u.2.2.2.2.2.2.2.2.2.2.2.2.2.2.2.2.2.2.2.2.2.2.2.2.2.1) j ≤ 65535) ∧ (∀ j, j < 16 * bs → (u.2.2.2.2.2.2.2.2.2.2.2.2.2.2.2.2.2.2.2.2.2.2.2.2.2.2.1) j = a11 j)) (fun u t => zB dC dI (A) (rW h0 r cI cJ cZ (u.2.2.1) a1 (nI (u.1)) (nI (u.2.1)) (fun j => nI ((u.2.2.2.2.1) j)) (u.2.2.2.2.2.2.2.2.2.2.2.1) (u.2.2.2.2.2.2.2.2.2.2.2.2.1) (u.2.2.2.2.2.2.2.2.2.2.2.2.2.1) (fun j => nI ((u.2.2.2.2.2.2.2.2.2.2.2.2.2.2.1) j)) (u.2.2.2.2.2.2.2.2.2.2.2.2.2.2.2.1) (fun j => nI ((u.2.2.2.2.2.2.2.2.2.2.2.2.2.2.2.2.2.2.2.2.2.2.2.2.1) j)) (u.2.2.2.2.2.2.2.2.2.2.2.2.2.2.2.2.2.2.2.2.2.2.2.2.2.2.1) (u.2.2.2.2.2.2.2.2.2.2.2.2.2.2.2.2.2.2.2.2.2.2.2.2.2.2.2) (u.2.2.2.2.2.2.2.2.2.2.2.2.2.2.2.2.1) (u.2.2.2.2.2.2.2.2.2.2.2.2.2.2.2.2.2.1) (u.2.2.2.2.2.2.2.2.2.2.2.2.2.2.2.2.2.2.2.2.1) (u.2.2.2.2.2.2.2.2.2.2.2.2.2.2.2.2.2.2.1) (u.2.2.2.2.2.2.2.2.2.2.2.2.2.2.2.2.2.2.2.1) (u.2.2.2.2.2.2.2.2.2.2.2.2.2.2.2.2.2.2.2.2.2.1) (u.2.2.2.2.2.2.2.2.2.2.2.2.2.2.2.2.2.2.2.2.2.2.1) (u.2.2.2.2.2.2.2.2.2.2.2.2.2.2.2.2.2.2.2.2.2.2.2.1) (nI (u.2.2.2.2.2.1)) (u.2.2.2.2.2.2.1) (u.2.2.2.2.2.2.2.1) (u.2.2.2.2.2.2.2.2.1) (u.2.2.2.2.2.2.2.2.2.1) (u.2.2.2.2.2.2.2.2.2.2.1) (nI (u.2.2.2.1)) (fun j => nI ((u.2.2.2.2.2.2.2.2.2.2.2.2.2.2.2.2.2.2.2.2.2.2.2.2.2.1) j)) (nI us) a30 a31 a32 a33 a34 a35 a36 a37 (fun j => nI (pil j)) (fun j => nI (rwv j)) (nI rl) v41 v42 v43 v44 v45) [(cI, .int), (cJ, .long), (cZ, .boolean)] t) (A)) (([.ref h0] : List Value).toArray) s 0 0 A) (F0 m 55 ls []) := by
    intro z55
    induction z55 with
    | zero => intro gd th bq cl2 i2 tk ta vl fo fp d1 d2 d3 fc2 d4 b7 b8 b1 b2 b3 b4 b5 b6 mb2 H locs ls h9; exact absurd h9 (Nat.not_lt_zero _)
    | succ z55 ih55 =>
      intro gd th bq cl2 i2 tk ta vl fo fp d1 d2 d3 fc2 d4 b7 b8 b1 b2 b3 b4 b5 b6 mb2 H locs ls hm55 hbcl2 hfrcl2 hfrd1 hfrd3 hbfc2 hfrfc2 hfrd4 hbmb2 i55_0 i55_1 i55_2 i55_3 hP hD hS hl
      refine lv_iload_n hx hb dX7_build_55 rfl (lv_at hl 1 rfl) ?_
      refine lv_if_eq (tgt := 74) hx hb dX7_build_56 (by decide) (fun cp56 => ?_) (fun cp56 => ?_)
      · have qcp56 : gd = 0 := (nI_eq (a := gd) (b := 0) (by omega) (by omega)).mp cp56
        refine lv_aload_n hx hb dX7_build_74 rfl (lv_at hl 0 rfl) ?_
        refine lv_iconst (v := 0) hx hb dX7_build_75 (by decide) ?_
        refine va_put (D := (dC, dI)) (ci := 6) (v := .int 0) (ty := (.int)) (C := RX7) (T := TX7) (N := 46) hx hb hts hiX7 tyX7 tyX7_ok nmX7 hown hK hP hD hS 0 rfl rfl 2 (by decide) (hts (.fieldLink RX7 109 "LinkModelsModel" "taped" "I") (by decide +kernel)) (fun _ h9 => h9) rfl (by decide +kernel) rfl rfl (Nat.le_of_ble_eq_true rfl) dX7_build_76 (fun H locs hP hD hS => ?_)
        have hP : va_P (dC, dI) vwCl (rW h0 r cI cJ cZ th a1 0 (nI bs) (fun j => nI (cl2 j)) d1 d2 d3 (fun j => nI (fc2 j)) d4 (fun j => nI (mb2 j)) a11 a12 b7 b8 b3 b1 b2 b4 b5 b6 (nI i2) tk ta vl fo fp (nI bq) (fun j => nI (ct j)) (nI us) a30 a31 a32 a33 a34 a35 a36 a37 (fun j => nI (pil j)) (fun j => nI (rwv j)) (nI rl) v41 v42 v43 v44 v45) H := hP
        have hD : va_D A (rW h0 r cI cJ cZ th a1 0 (nI bs) (fun j => nI (cl2 j)) d1 d2 d3 (fun j => nI (fc2 j)) d4 (fun j => nI (mb2 j)) a11 a12 b7 b8 b3 b1 b2 b4 b5 b6 (nI i2) tk ta vl fo fp (nI bq) (fun j => nI (ct j)) (nI us) a30 a31 a32 a33 a34 a35 a36 a37 (fun j => nI (pil j)) (fun j => nI (rwv j)) (nI rl) v41 v42 v43 v44 v45) := hD
        refine lv_iload_n hx hb dX7_build_79 rfl (lv_at hl 1 rfl) ?_
        refine lv_if_ne (tgt := 101) hx hb dX7_build_80 (by decide) (fun cp80 => ?_) (fun cp80 => ?_)
        · have qcp80 : ¬ gd = 0 := fun h9 => cp80 ((nI_eq (a := gd) (b := 0) (by omega) (by omega)).mpr h9)
          refine lv_aload_n hx hb dX7_build_101 rfl (lv_at hl 0 rfl) ?_
          have hFc := z_freeW hD hS hA
          refine va_callv (va_runV (As := []) (rest := []) ⟨hx, hb, hml, hown, hts⟩ (kX7_reckon l dC dI h0 r cI cJ cZ th a1 0 bs cl2 d1 d2 d3 fc2 d4 mb2 a11 a12 b7 b8 b3 b1 b2 b4 b5 b6 i2 tk ta vl fo fp bq ct us a30 a31 a32 a33 a34 a35 a36 a37 pil rwv rl v41 v42 v43 v44 v45 ⟨by omega, by omega, by omega, hbcl2, hbfc2, hbmb2, hct, hpil, hrwv⟩ (by first | omega | assumption | trivial) H.size) (cwV 0 hts zgX7_build_X7_reckon_238 rfl rfl rfl (by decide +kernel) ⟨(show 2 + 1 ≤ 6 by omega), (show 8 + (6 + 11) + 48 ≤ 140 by omega)⟩) (zVm (ci := 6) (q0 := 0) (q := (RX7, TX7, 46)) hK hP hD hL hS.2.1 hFc rfl rfl rfl) rfl rfl hl.1 rfl (lv_room (Nat.le_of_ble_eq_true rfl)) dX7_build_102 ⟨(show 0 + 0 ≤ 0 by omega), (show 0 + 0 ≤ 0 by omega)⟩) hS (fun q _ h => hFc q h) hFc (fun u5 t H1 locs ht hvm hw hB hz1 hk1 hS => ?_)
          obtain ⟨o2, o3, o4⟩ := u5
          obtain ⟨hP, hK9, hD⟩ := hB
          rw [ht] at hP
          have hD := hD.weaken (fun k q _ h => hFc q.1 h)
          generalize H1 = H at hP hS
          have hP : va_P (dC, dI) vwCl (rW h0 r cI cJ cZ th a1 0 (nI bs) (fun j => nI (cl2 j)) d1 d2 d3 (fun j => nI (fc2 j)) d4 (fun j => nI (mb2 j)) o3 o4 b7 b8 b3 b1 b2 b4 b5 b6 (nI i2) tk ta vl fo fp (nI bq) (fun j => nI (o2 j)) (nI us) a30 a31 a32 a33 a34 a35 a36 a37 (fun j => nI (pil j)) (fun j => nI (rwv j)) (nI rl) v41 v42 v43 v44 v45) H := hP
          have hD : va_D A (rW h0 r cI cJ cZ th a1 0 (nI bs) (fun j => nI (cl2 j)) d1 d2 d3 (fun j => nI (fc2 j)) d4 (fun j => nI (mb2 j)) o3 o4 b7 b8 b3 b1 b2 b4 b5 b6 (nI i2) tk ta vl fo fp (nI bq) (fun j => nI (o2 j)) (nI us) a30 a31 a32 a33 a34 a35 a36 a37 (fun j => nI (pil j)) (fun j => nI (rwv j)) (nI rl) v41 v42 v43 v44 v45) := hD
          have hw : (zOK cl2 d1 d3 fc2 d4 o3 bq) ∧ (∀ j, o2 j ≤ 65535) ∧ (∀ j, j < 16 * bq → o3 j = a11 j) := hw
          obtain ⟨w0r1, hbo2, hfro3⟩ := hw
          have hfrxo3 : ∀ j, j < 16 * bs → o3 j = a11 j := fun j hj => (hfro3 j (by first | exact hj | omega)).trans rfl
          refine lv_aload_n hx hb dX7_build_105 rfl (lv_at hl 0 rfl) ?_
          refine lv_dup hx hb dX7_build_106 rfl ?_
          refine va_get (D := (dC, dI)) (ci := 6) (v := .int (nI bs)) (C := RX7) (T := TX7) (N := 46) hx hb hts hiX7 hown hK hP 0 rfl rfl 3 (by decide) (hts (.fieldLink RX7 232 "LinkModelsModel" "builds" "I") (by decide +kernel)) (fun _ h9 => h9) rfl dX7_build_107 ?_
          refine lv_iconst (v := 1) hx hb dX7_build_110 (by decide) ?_
          refine lv_iadd hx hb dX7_build_111 ?_
          refine lv_topi (fun x6 ex6 => ?_)
          obtain rfl : x6 = nI (bs + 1) := by rw [ex6]; exact nI_add (bs) (1)
          refine va_put (D := (dC, dI)) (ci := 6) (v := .int (nI (bs + 1))) (ty := (.int)) (C := RX7) (T := TX7) (N := 46) hx hb hts hiX7 tyX7 tyX7_ok nmX7 hown hK hP hD hS 0 rfl rfl 3 (by decide) (hts (.fieldLink RX7 232 "LinkModelsModel" "builds" "I") (by decide +kernel)) (fun _ h9 => h9) rfl (by decide +kernel) rfl rfl (Nat.le_of_ble_eq_true rfl) dX7_build_112 (fun H locs hP hD hS => ?_)
          have hP : va_P (dC, dI) vwCl (rW h0 r cI cJ cZ th a1 0 (nI (bs + 1)) (fun j => nI (cl2 j)) d1 d2 d3 (fun j => nI (fc2 j)) d4 (fun j => nI (mb2 j)) o3 o4 b7 b8 b3 b1 b2 b4 b5 b6 (nI i2) tk ta vl fo fp (nI bq) (fun j => nI (o2 j)) (nI us) a30 a31 a32 a33 a34 a35 a36 a37 (fun j => nI (pil j)) (fun j => nI (rwv j)) (nI rl) v41 v42 v43 v44 v45) H := hP
          have hD : va_D A (rW h0 r cI cJ cZ th a1 0 (nI (bs + 1)) (fun j => nI (cl2 j)) d1 d2 d3 (fun j => nI (fc2 j)) d4 (fun j => nI (mb2 j)) o3 o4 b7 b8 b3 b1 b2 b4 b5 b6 (nI i2) tk ta vl fo fp (nI bq) (fun j => nI (o2 j)) (nI us) a30 a31 a32 a33 a34 a35 a36 a37 (fun j => nI (pil j)) (fun j => nI (rwv j)) (nI rl) v41 v42 v43 v44 v45) := hD
          refine lv_aload_n hx hb dX7_build_115 rfl (lv_at hl 0 rfl) ?_
          refine va_get (D := (dC, dI)) (ci := 6) (v := .int (nI (bs + 1))) (C := RX7) (T := TX7) (N := 46) hx hb hts hiX7 hown hK hP 0 rfl rfl 3 (by decide) (hts (.fieldLink RX7 232 "LinkModelsModel" "builds" "I") (by decide +kernel)) (fun _ h9 => h9) rfl dX7_build_116 ?_
          refine lv_iconst (v := 1) hx hb dX7_build_119 (by decide) ?_
          refine lv_isub hx hb dX7_build_120 ?_
          refine lv_topi (fun x7 ex7 => ?_)
          obtain rfl : x7 = nI ((bs + 1) - 1) := by rw [ex7]; exact pk_sub (show 1 ≤ bs + 1 by omega)
          have hP9 : va_P (dC, dI) vwCl (rW h0 r cI cJ cZ th a1 0 (nI (bs + 1)) (fun j => nI (cl2 j)) d1 d2 d3 (fun j => nI (fc2 j)) d4 (fun j => nI (mb2 j)) o3 o4 b7 b8 b3 b1 b2 b4 b5 b6 (nI i2) tk ta vl fo fp (nI bq) (fun j => nI (o2 j)) (nI us) a30 a31 a32 a33 a34 a35 a36 a37 (fun j => nI (pil j)) (fun j => nI (rwv j)) (nI rl) v41 v42 v43 v44 v45) H := hP
          have hD9 : va_D A (rW h0 r cI cJ cZ th a1 0 (nI (bs + 1)) (fun j => nI (cl2 j)) d1 d2 d3 (fun j => nI (fc2 j)) d4 (fun j => nI (mb2 j)) o3 o4 b7 b8 b3 b1 b2 b4 b5 b6 (nI i2) tk ta vl fo fp (nI bq) (fun j => nI (o2 j)) (nI us) a30 a31 a32 a33 a34 a35 a36 a37 (fun j => nI (pil j)) (fun j => nI (rwv j)) (nI rl) v41 v42 v43 v44 v45) := hD
          exact W.iret (v := (nI ((bs + 1) - 1))) hx hb hr (fun t ht hW => ⟨⟨(nI ((bs + 1) - 1)), (0, (bs + 1), th, bq, cl2, i2, tk, ta, vl, fo, fp, d1, d2, d3, fc2, d4, b7, b8, b1, b2, b3, b4, b5, b6, mb2, o2, o3, o4), rfl, ⟨(by rfl), (by show bs + 1 ≤ 5; omega), (by intro bd h9; have h9 : bd < bs + 1 := h9; rcases Nat.lt_or_ge bd bs with h8 | h8; (exact z_okcong (hp0 bd h8) h8 hcl hfc hfrcl2 hfrd1 hfrd3 hfrfc2 hfrd4 hfrxo3); (rw [show bd = bq by omega]; exact w0r1)), hbcl2, hfrcl2, hfrd1, hfrd3, hbfc2, hfrfc2, hfrd4, hbmb2, hbo2, hfrxo3⟩, by rw [ht]; exact hP9, va_K.moved hW.alike hK, hD9⟩, hS.F ht⟩) hS.2.2 dX7_build_121
        · have qcp80 : gd = 0 := (nI_eq (a := gd) (b := 0) (by omega) (by omega)).mp cp80
          refine lv_sipush (v := (-10000)) hx hb dX7_build_83 (by decide) ?_
          refine lv_sipush (v := 1000) hx hb dX7_build_86 (by decide) ?_
          refine lv_aload_n hx hb dX7_build_89 rfl (lv_at hl 0 rfl) ?_
          refine va_get (D := (dC, dI)) (ci := 6) (v := .int fo) (C := RX7) (T := TX7) (N := 46) hx hb hts hiX7 hown hK hP 0 rfl rfl 25 (by decide) (hts (.fieldLink RX7 155 "LinkModelsModel" "fault" "I") (by decide +kernel)) (fun _ h9 => h9) rfl dX7_build_90 ?_
          refine lv_imul hx hb dX7_build_93 ?_
          refine lv_topi (fun x8 ex8 => ?_)
          refine lv_isub hx hb dX7_build_94 ?_
          refine lv_topi (fun x9 ex9 => ?_)
          refine lv_aload_n hx hb dX7_build_95 rfl (lv_at hl 0 rfl) ?_
          refine va_get (D := (dC, dI)) (ci := 6) (v := .int fp) (C := RX7) (T := TX7) (N := 46) hx hb hts hiX7 hown hK hP 0 rfl rfl 26 (by decide) (hts (.fieldLink RX7 158 "LinkModelsModel" "faultAt" "I") (by decide +kernel)) (fun _ h9 => h9) rfl dX7_build_96 ?_
          refine lv_isub hx hb dX7_build_99 ?_
          refine lv_topi (fun x10 ex10 => ?_)
          have hP9 : va_P (dC, dI) vwCl (rW h0 r cI cJ cZ th a1 0 (nI bs) (fun j => nI (cl2 j)) d1 d2 d3 (fun j => nI (fc2 j)) d4 (fun j => nI (mb2 j)) a11 a12 b7 b8 b3 b1 b2 b4 b5 b6 (nI i2) tk ta vl fo fp (nI bq) (fun j => nI (ct j)) (nI us) a30 a31 a32 a33 a34 a35 a36 a37 (fun j => nI (pil j)) (fun j => nI (rwv j)) (nI rl) v41 v42 v43 v44 v45) H := hP
          have hD9 : va_D A (rW h0 r cI cJ cZ th a1 0 (nI bs) (fun j => nI (cl2 j)) d1 d2 d3 (fun j => nI (fc2 j)) d4 (fun j => nI (mb2 j)) a11 a12 b7 b8 b3 b1 b2 b4 b5 b6 (nI i2) tk ta vl fo fp (nI bq) (fun j => nI (ct j)) (nI us) a30 a31 a32 a33 a34 a35 a36 a37 (fun j => nI (pil j)) (fun j => nI (rwv j)) (nI rl) v41 v42 v43 v44 v45) := hD
          exact W.iret (v := x10) hx hb hr (fun t ht hW => ⟨⟨x10, (0, bs, th, bq, cl2, i2, tk, ta, vl, fo, fp, d1, d2, d3, fc2, d4, b7, b8, b1, b2, b3, b4, b5, b6, mb2, ct, a11, a12), rfl, ⟨(by rfl), (by omega), (by intro bd h8; exact z_okcong (hp0 bd h8) h8 hcl hfc hfrcl2 hfrd1 hfrd3 hfrfc2 hfrd4 (fun _ _ => rfl)), hbcl2, hfrcl2, hfrd1, hfrd3, hbfc2, hfrfc2, hfrd4, hbmb2, hct, (fun _ _ => rfl)⟩, by rw [ht]; exact hP9, va_K.moved hW.alike hK, hD9⟩, hS.F ht⟩) hS.2.2 dX7_build_100
      · have qcp56 : ¬ gd = 0 := fun h9 => cp56 ((nI_eq (a := gd) (b := 0) (by omega) (by omega)).mpr h9)
        refine lv_aload_n hx hb dX7_build_59 rfl (lv_at hl 0 rfl) ?_
        refine va_get (D := (dC, dI)) (ci := 6) (v := .int tk) (C := RX7) (T := TX7) (N := 46) hx hb hts hiX7 hown hK hP 0 rfl rfl 22 (by decide) (hts (.fieldLink RX7 136 "LinkModelsModel" "token" "I") (by decide +kernel)) (fun _ h9 => h9) rfl dX7_build_60 ?_
        refine lv_if_eq (tgt := 74) hx hb dX7_build_63 (by decide) (fun cp63 => ?_) (fun cp63 => ?_)
        · refine lv_aload_n hx hb dX7_build_74 rfl (lv_at hl 0 rfl) ?_
          refine lv_iconst (v := 0) hx hb dX7_build_75 (by decide) ?_
          refine va_put (D := (dC, dI)) (ci := 6) (v := .int 0) (ty := (.int)) (C := RX7) (T := TX7) (N := 46) hx hb hts hiX7 tyX7 tyX7_ok nmX7 hown hK hP hD hS 0 rfl rfl 2 (by decide) (hts (.fieldLink RX7 109 "LinkModelsModel" "taped" "I") (by decide +kernel)) (fun _ h9 => h9) rfl (by decide +kernel) rfl rfl (Nat.le_of_ble_eq_true rfl) dX7_build_76 (fun H locs hP hD hS => ?_)
          have hP : va_P (dC, dI) vwCl (rW h0 r cI cJ cZ th a1 0 (nI bs) (fun j => nI (cl2 j)) d1 d2 d3 (fun j => nI (fc2 j)) d4 (fun j => nI (mb2 j)) a11 a12 b7 b8 b3 b1 b2 b4 b5 b6 (nI i2) tk ta vl fo fp (nI bq) (fun j => nI (ct j)) (nI us) a30 a31 a32 a33 a34 a35 a36 a37 (fun j => nI (pil j)) (fun j => nI (rwv j)) (nI rl) v41 v42 v43 v44 v45) H := hP
          have hD : va_D A (rW h0 r cI cJ cZ th a1 0 (nI bs) (fun j => nI (cl2 j)) d1 d2 d3 (fun j => nI (fc2 j)) d4 (fun j => nI (mb2 j)) a11 a12 b7 b8 b3 b1 b2 b4 b5 b6 (nI i2) tk ta vl fo fp (nI bq) (fun j => nI (ct j)) (nI us) a30 a31 a32 a33 a34 a35 a36 a37 (fun j => nI (pil j)) (fun j => nI (rwv j)) (nI rl) v41 v42 v43 v44 v45) := hD
          refine lv_iload_n hx hb dX7_build_79 rfl (lv_at hl 1 rfl) ?_
          refine lv_if_ne (tgt := 101) hx hb dX7_build_80 (by decide) (fun cp80 => ?_) (fun cp80 => ?_)
          · have qcp80 : ¬ gd = 0 := fun h9 => cp80 ((nI_eq (a := gd) (b := 0) (by omega) (by omega)).mpr h9)
            refine lv_aload_n hx hb dX7_build_101 rfl (lv_at hl 0 rfl) ?_
            have hFc := z_freeW hD hS hA
            refine va_callv (va_runV (As := []) (rest := []) ⟨hx, hb, hml, hown, hts⟩ (kX7_reckon l dC dI h0 r cI cJ cZ th a1 0 bs cl2 d1 d2 d3 fc2 d4 mb2 a11 a12 b7 b8 b3 b1 b2 b4 b5 b6 i2 tk ta vl fo fp bq ct us a30 a31 a32 a33 a34 a35 a36 a37 pil rwv rl v41 v42 v43 v44 v45 ⟨by omega, by omega, by omega, hbcl2, hbfc2, hbmb2, hct, hpil, hrwv⟩ (by first | omega | assumption | trivial) H.size) (cwV 0 hts zgX7_build_X7_reckon_238 rfl rfl rfl (by decide +kernel) ⟨(show 2 + 1 ≤ 6 by omega), (show 8 + (6 + 11) + 48 ≤ 140 by omega)⟩) (zVm (ci := 6) (q0 := 0) (q := (RX7, TX7, 46)) hK hP hD hL hS.2.1 hFc rfl rfl rfl) rfl rfl hl.1 rfl (lv_room (Nat.le_of_ble_eq_true rfl)) dX7_build_102 ⟨(show 0 + 0 ≤ 0 by omega), (show 0 + 0 ≤ 0 by omega)⟩) hS (fun q _ h => hFc q h) hFc (fun u15 t H1 locs ht hvm hw hB hz1 hk1 hS => ?_)
            obtain ⟨o12, o13, o14⟩ := u15
            obtain ⟨hP, hK9, hD⟩ := hB
            rw [ht] at hP
            have hD := hD.weaken (fun k q _ h => hFc q.1 h)
            generalize H1 = H at hP hS
            have hP : va_P (dC, dI) vwCl (rW h0 r cI cJ cZ th a1 0 (nI bs) (fun j => nI (cl2 j)) d1 d2 d3 (fun j => nI (fc2 j)) d4 (fun j => nI (mb2 j)) o13 o14 b7 b8 b3 b1 b2 b4 b5 b6 (nI i2) tk ta vl fo fp (nI bq) (fun j => nI (o12 j)) (nI us) a30 a31 a32 a33 a34 a35 a36 a37 (fun j => nI (pil j)) (fun j => nI (rwv j)) (nI rl) v41 v42 v43 v44 v45) H := hP
            have hD : va_D A (rW h0 r cI cJ cZ th a1 0 (nI bs) (fun j => nI (cl2 j)) d1 d2 d3 (fun j => nI (fc2 j)) d4 (fun j => nI (mb2 j)) o13 o14 b7 b8 b3 b1 b2 b4 b5 b6 (nI i2) tk ta vl fo fp (nI bq) (fun j => nI (o12 j)) (nI us) a30 a31 a32 a33 a34 a35 a36 a37 (fun j => nI (pil j)) (fun j => nI (rwv j)) (nI rl) v41 v42 v43 v44 v45) := hD
            have hw : (zOK cl2 d1 d3 fc2 d4 o13 bq) ∧ (∀ j, o12 j ≤ 65535) ∧ (∀ j, j < 16 * bq → o13 j = a11 j) := hw
            obtain ⟨w0r11, hbo12, hfro13⟩ := hw
            have hfrxo13 : ∀ j, j < 16 * bs → o13 j = a11 j := fun j hj => (hfro13 j (by first | exact hj | omega)).trans rfl
            refine lv_aload_n hx hb dX7_build_105 rfl (lv_at hl 0 rfl) ?_
            refine lv_dup hx hb dX7_build_106 rfl ?_
            refine va_get (D := (dC, dI)) (ci := 6) (v := .int (nI bs)) (C := RX7) (T := TX7) (N := 46) hx hb hts hiX7 hown hK hP 0 rfl rfl 3 (by decide) (hts (.fieldLink RX7 232 "LinkModelsModel" "builds" "I") (by decide +kernel)) (fun _ h9 => h9) rfl dX7_build_107 ?_
            refine lv_iconst (v := 1) hx hb dX7_build_110 (by decide) ?_
            refine lv_iadd hx hb dX7_build_111 ?_
            refine lv_topi (fun x16 ex16 => ?_)
            obtain rfl : x16 = nI (bs + 1) := by rw [ex16]; exact nI_add (bs) (1)
            refine va_put (D := (dC, dI)) (ci := 6) (v := .int (nI (bs + 1))) (ty := (.int)) (C := RX7) (T := TX7) (N := 46) hx hb hts hiX7 tyX7 tyX7_ok nmX7 hown hK hP hD hS 0 rfl rfl 3 (by decide) (hts (.fieldLink RX7 232 "LinkModelsModel" "builds" "I") (by decide +kernel)) (fun _ h9 => h9) rfl (by decide +kernel) rfl rfl (Nat.le_of_ble_eq_true rfl) dX7_build_112 (fun H locs hP hD hS => ?_)
            have hP : va_P (dC, dI) vwCl (rW h0 r cI cJ cZ th a1 0 (nI (bs + 1)) (fun j => nI (cl2 j)) d1 d2 d3 (fun j => nI (fc2 j)) d4 (fun j => nI (mb2 j)) o13 o14 b7 b8 b3 b1 b2 b4 b5 b6 (nI i2) tk ta vl fo fp (nI bq) (fun j => nI (o12 j)) (nI us) a30 a31 a32 a33 a34 a35 a36 a37 (fun j => nI (pil j)) (fun j => nI (rwv j)) (nI rl) v41 v42 v43 v44 v45) H := hP
            have hD : va_D A (rW h0 r cI cJ cZ th a1 0 (nI (bs + 1)) (fun j => nI (cl2 j)) d1 d2 d3 (fun j => nI (fc2 j)) d4 (fun j => nI (mb2 j)) o13 o14 b7 b8 b3 b1 b2 b4 b5 b6 (nI i2) tk ta vl fo fp (nI bq) (fun j => nI (o12 j)) (nI us) a30 a31 a32 a33 a34 a35 a36 a37 (fun j => nI (pil j)) (fun j => nI (rwv j)) (nI rl) v41 v42 v43 v44 v45) := hD
            refine lv_aload_n hx hb dX7_build_115 rfl (lv_at hl 0 rfl) ?_
            refine va_get (D := (dC, dI)) (ci := 6) (v := .int (nI (bs + 1))) (C := RX7) (T := TX7) (N := 46) hx hb hts hiX7 hown hK hP 0 rfl rfl 3 (by decide) (hts (.fieldLink RX7 232 "LinkModelsModel" "builds" "I") (by decide +kernel)) (fun _ h9 => h9) rfl dX7_build_116 ?_
            refine lv_iconst (v := 1) hx hb dX7_build_119 (by decide) ?_
            refine lv_isub hx hb dX7_build_120 ?_
            refine lv_topi (fun x17 ex17 => ?_)
            obtain rfl : x17 = nI ((bs + 1) - 1) := by rw [ex17]; exact pk_sub (show 1 ≤ bs + 1 by omega)
            have hP9 : va_P (dC, dI) vwCl (rW h0 r cI cJ cZ th a1 0 (nI (bs + 1)) (fun j => nI (cl2 j)) d1 d2 d3 (fun j => nI (fc2 j)) d4 (fun j => nI (mb2 j)) o13 o14 b7 b8 b3 b1 b2 b4 b5 b6 (nI i2) tk ta vl fo fp (nI bq) (fun j => nI (o12 j)) (nI us) a30 a31 a32 a33 a34 a35 a36 a37 (fun j => nI (pil j)) (fun j => nI (rwv j)) (nI rl) v41 v42 v43 v44 v45) H := hP
            have hD9 : va_D A (rW h0 r cI cJ cZ th a1 0 (nI (bs + 1)) (fun j => nI (cl2 j)) d1 d2 d3 (fun j => nI (fc2 j)) d4 (fun j => nI (mb2 j)) o13 o14 b7 b8 b3 b1 b2 b4 b5 b6 (nI i2) tk ta vl fo fp (nI bq) (fun j => nI (o12 j)) (nI us) a30 a31 a32 a33 a34 a35 a36 a37 (fun j => nI (pil j)) (fun j => nI (rwv j)) (nI rl) v41 v42 v43 v44 v45) := hD
            exact W.iret (v := (nI ((bs + 1) - 1))) hx hb hr (fun t ht hW => ⟨⟨(nI ((bs + 1) - 1)), (0, (bs + 1), th, bq, cl2, i2, tk, ta, vl, fo, fp, d1, d2, d3, fc2, d4, b7, b8, b1, b2, b3, b4, b5, b6, mb2, o12, o13, o14), rfl, ⟨(by rfl), (by show bs + 1 ≤ 5; omega), (by intro bd h9; have h9 : bd < bs + 1 := h9; rcases Nat.lt_or_ge bd bs with h8 | h8; (exact z_okcong (hp0 bd h8) h8 hcl hfc hfrcl2 hfrd1 hfrd3 hfrfc2 hfrd4 hfrxo13); (rw [show bd = bq by omega]; exact w0r11)), hbcl2, hfrcl2, hfrd1, hfrd3, hbfc2, hfrfc2, hfrd4, hbmb2, hbo12, hfrxo13⟩, by rw [ht]; exact hP9, va_K.moved hW.alike hK, hD9⟩, hS.F ht⟩) hS.2.2 dX7_build_121
          · have qcp80 : gd = 0 := (nI_eq (a := gd) (b := 0) (by omega) (by omega)).mp cp80
            refine lv_sipush (v := (-10000)) hx hb dX7_build_83 (by decide) ?_
            refine lv_sipush (v := 1000) hx hb dX7_build_86 (by decide) ?_
            refine lv_aload_n hx hb dX7_build_89 rfl (lv_at hl 0 rfl) ?_
            refine va_get (D := (dC, dI)) (ci := 6) (v := .int fo) (C := RX7) (T := TX7) (N := 46) hx hb hts hiX7 hown hK hP 0 rfl rfl 25 (by decide) (hts (.fieldLink RX7 155 "LinkModelsModel" "fault" "I") (by decide +kernel)) (fun _ h9 => h9) rfl dX7_build_90 ?_
            refine lv_imul hx hb dX7_build_93 ?_
            refine lv_topi (fun x18 ex18 => ?_)
            refine lv_isub hx hb dX7_build_94 ?_
            refine lv_topi (fun x19 ex19 => ?_)
            refine lv_aload_n hx hb dX7_build_95 rfl (lv_at hl 0 rfl) ?_
            refine va_get (D := (dC, dI)) (ci := 6) (v := .int fp) (C := RX7) (T := TX7) (N := 46) hx hb hts hiX7 hown hK hP 0 rfl rfl 26 (by decide) (hts (.fieldLink RX7 158 "LinkModelsModel" "faultAt" "I") (by decide +kernel)) (fun _ h9 => h9) rfl dX7_build_96 ?_
            refine lv_isub hx hb dX7_build_99 ?_
            refine lv_topi (fun x20 ex20 => ?_)
            have hP9 : va_P (dC, dI) vwCl (rW h0 r cI cJ cZ th a1 0 (nI bs) (fun j => nI (cl2 j)) d1 d2 d3 (fun j => nI (fc2 j)) d4 (fun j => nI (mb2 j)) a11 a12 b7 b8 b3 b1 b2 b4 b5 b6 (nI i2) tk ta vl fo fp (nI bq) (fun j => nI (ct j)) (nI us) a30 a31 a32 a33 a34 a35 a36 a37 (fun j => nI (pil j)) (fun j => nI (rwv j)) (nI rl) v41 v42 v43 v44 v45) H := hP
            have hD9 : va_D A (rW h0 r cI cJ cZ th a1 0 (nI bs) (fun j => nI (cl2 j)) d1 d2 d3 (fun j => nI (fc2 j)) d4 (fun j => nI (mb2 j)) a11 a12 b7 b8 b3 b1 b2 b4 b5 b6 (nI i2) tk ta vl fo fp (nI bq) (fun j => nI (ct j)) (nI us) a30 a31 a32 a33 a34 a35 a36 a37 (fun j => nI (pil j)) (fun j => nI (rwv j)) (nI rl) v41 v42 v43 v44 v45) := hD
            exact W.iret (v := x20) hx hb hr (fun t ht hW => ⟨⟨x20, (0, bs, th, bq, cl2, i2, tk, ta, vl, fo, fp, d1, d2, d3, fc2, d4, b7, b8, b1, b2, b3, b4, b5, b6, mb2, ct, a11, a12), rfl, ⟨(by rfl), (by omega), (by intro bd h8; exact z_okcong (hp0 bd h8) h8 hcl hfc hfrcl2 hfrd1 hfrd3 hfrfc2 hfrd4 (fun _ _ => rfl)), hbcl2, hfrcl2, hfrd1, hfrd3, hbfc2, hfrfc2, hfrd4, hbmb2, hct, (fun _ _ => rfl)⟩, by rw [ht]; exact hP9, va_K.moved hW.alike hK, hD9⟩, hS.F ht⟩) hS.2.2 dX7_build_100
        · refine lv_aload_n hx hb dX7_build_66 rfl (lv_at hl 0 rfl) ?_
          have hFc := z_freeW hD hS hA
          refine va_calli (va_runV (As := []) (rest := []) ⟨hx, hb, hml, hown, hts⟩ (kX7_oneClass l dC dI h0 r cI cJ cZ th a1 tp bs cl2 d1 d2 d3 fc2 d4 mb2 a11 a12 b7 b8 b3 b1 b2 b4 b5 b6 i2 tk ta vl fo fp bq ct us a30 a31 a32 a33 a34 a35 a36 a37 pil rwv rl v41 v42 v43 v44 v45 ⟨by omega, by omega, by omega, hbcl2, hbfc2, hbmb2, hct, hpil, hrwv⟩ (by first | omega | assumption | trivial) (by first | omega | assumption | trivial) H.size) (cwV 0 hts zgX7_build_X7_oneClass_235 rfl rfl rfl (by decide +kernel) ⟨(show 5 + 1 ≤ 6 by omega), (show 8 + (5 + 11) + 116 ≤ 140 by omega)⟩) (zVm (ci := 6) (q0 := 0) (q := (RX7, TX7, 46)) hK hP hD hL hS.2.1 hFc rfl rfl rfl) rfl rfl hl.1 rfl (lv_room (Nat.le_of_ble_eq_true rfl)) dX7_build_67 ⟨(show 0 + 0 ≤ 0 by omega), (show 0 + 0 ≤ 0 by omega)⟩) hS (fun q _ h => hFc q h) hFc (fun r21 u43 t H1 locs ht hvm hw hB hz1 hk1 hS => ?_)
          obtain ⟨o22, o23, o24, o25, o26, o27, o28, o29, o30, o31, o32, o33, o34, o35, o36, o37, o38, o39, o40, o41, o42⟩ := u43
          obtain ⟨hP, hK9, hD⟩ := hB
          rw [ht] at hP
          have hD := hD.weaken (fun k q _ h => hFc q.1 h)
          generalize H1 = H at hP hS
          have hP : va_P (dC, dI) vwCl (rW h0 r cI cJ cZ th a1 (nI tp) (nI bs) (fun j => nI (o42 j)) o28 o29 o30 (fun j => nI (o31 j)) o32 (fun j => nI (o41 j)) a11 a12 o33 o34 o37 o35 o36 o38 o39 o40 (nI o22) o23 o24 o25 o26 o27 (nI bq) (fun j => nI (ct j)) (nI us) a30 a31 a32 a33 a34 a35 a36 a37 (fun j => nI (pil j)) (fun j => nI (rwv j)) (nI rl) v41 v42 v43 v44 v45) H := hP
          have hD : va_D A (rW h0 r cI cJ cZ th a1 (nI tp) (nI bs) (fun j => nI (o42 j)) o28 o29 o30 (fun j => nI (o31 j)) o32 (fun j => nI (o41 j)) a11 a12 o33 o34 o37 o35 o36 o38 o39 o40 (nI o22) o23 o24 o25 o26 o27 (nI bq) (fun j => nI (ct j)) (nI us) a30 a31 a32 a33 a34 a35 a36 a37 (fun j => nI (pil j)) (fun j => nI (rwv j)) (nI rl) v41 v42 v43 v44 v45) := hD
          have hw : (r21 = 0 ∨ r21 = 1) ∧ (i2 ≤ o22) ∧ (o22 ≤ tp) ∧ (r21 = 1 → i2 < o22) ∧ (∀ j, j < 16 * bq → o28 j = d1 j) ∧ (∀ j, j < 16 * bq → o30 j = d3 j) ∧ (∀ j, o31 j ≤ 3) ∧ (∀ j, j < 16 * bq → o31 j = fc2 j) ∧ (∀ j, j < 48 * bq → o32 j = d4 j) ∧ (∀ j, o41 j ≤ 12) ∧ (∀ j, o42 j ≤ 16) ∧ (∀ j, j ≠ bq → o42 j = cl2 j) := hw
          obtain ⟨w0r21, w1r21, w2r21, w3r21, hfro28, hfro30, hbo31, hfro31, hfro32, hbo41, hbo42, hfro42⟩ := hw
          have hfrxo28 : ∀ j, j < 16 * bs → o28 j = a5 j := fun j hj => (hfro28 j (by first | exact hj | omega)).trans (hfrd1 j hj)
          have hfrxo30 : ∀ j, j < 16 * bs → o30 j = a7 j := fun j hj => (hfro30 j (by first | exact hj | omega)).trans (hfrd3 j hj)
          have hfrxo31 : ∀ j, j < 16 * bs → o31 j = fc j := fun j hj => (hfro31 j (by first | exact hj | omega)).trans (hfrfc2 j hj)
          have hfrxo32 : ∀ j, j < 48 * bs → o32 j = a9 j := fun j hj => (hfro32 j (by first | exact hj | omega)).trans (hfrd4 j hj)
          have hfrxo42 : ∀ j, j ≠ bs → o42 j = cl j := fun j hj => (hfro42 j (by first | exact hj | omega)).trans (hfrcl2 j hj)
          rcases w0r21 with rfl | rfl
          · refine lv_istore_n (lv' := [(1, .int 0), (0, .ref h0)]) hx hb dX7_build_70 rfl hl (by decide) rfl (fun ls hl => ?_)
            refine lv_goto (tgt := 55) hx hb dX7_build_71 (by decide) ?_
            exact ih55 0 th bq o42 o22 o23 o24 o25 o26 o27 o28 o29 o30 o31 o32 o33 o34 o35 o36 o37 o38 o39 o40 o41 _ _ ls (by omega) hbo42 hfrxo42 hfrxo28 hfrxo30 hbo31 hfrxo31 hfrxo32 hbo41 (by first | omega | assumption | trivial) (by first | omega | assumption | trivial) (by first | omega | assumption | trivial) (by first | omega | assumption | trivial) hP hD hS (lv_sub hl [1, 0] rfl)
          · have w9 := w3r21 rfl
            refine lv_istore_n (lv' := [(1, .int 1), (0, .ref h0)]) hx hb dX7_build_70 rfl hl (by decide) rfl (fun ls hl => ?_)
            refine lv_goto (tgt := 55) hx hb dX7_build_71 (by decide) ?_
            exact ih55 1 th bq o42 o22 o23 o24 o25 o26 o27 o28 o29 o30 o31 o32 o33 o34 o35 o36 o37 o38 o39 o40 o41 _ _ ls (by omega) hbo42 hfrxo42 hfrxo28 hfrxo30 hbo31 hfrxo31 hfrxo32 hbo41 (by first | omega | assumption | trivial) (by first | omega | assumption | trivial) (by first | omega | assumption | trivial) (by first | omega | assumption | trivial) hP hD hS (lv_sub hl [1, 0] rfl)
  refine lv_aload_n hx hb dX7_build_0 rfl (lv_at hl 0 rfl) ?_
  refine lv_iconst (v := 0) hx hb dX7_build_1 (by decide) ?_
  refine va_put (D := (dC, dI)) (ci := 6) (v := .int 0) (ty := (.int)) (C := RX7) (T := TX7) (N := 46) hx hb hts hiX7 tyX7 tyX7_ok nmX7 hown hK hP hD hS 0 rfl rfl 0 (by decide) (hts (.fieldLink RX7 1 "LinkModelsModel" "thrown" "I") (by decide +kernel)) (fun _ h9 => h9) rfl (by decide +kernel) rfl rfl (Nat.le_of_ble_eq_true rfl) dX7_build_2 (fun H locs hP hD hS => ?_)
  have hP : va_P (dC, dI) vwCl (rW h0 r cI cJ cZ 0 a1 (nI tp) (nI bs) (fun j => nI (cl j)) a5 a6 a7 (fun j => nI (fc j)) a9 (fun j => nI (mb j)) a11 a12 a13 a14 a15 a16 a17 a18 a19 a20 (nI az) v22 v23 v24 v25 v26 (nI bb) (fun j => nI (ct j)) (nI us) a30 a31 a32 a33 a34 a35 a36 a37 (fun j => nI (pil j)) (fun j => nI (rwv j)) (nI rl) v41 v42 v43 v44 v45) H := hP
  have hD : va_D A (rW h0 r cI cJ cZ 0 a1 (nI tp) (nI bs) (fun j => nI (cl j)) a5 a6 a7 (fun j => nI (fc j)) a9 (fun j => nI (mb j)) a11 a12 a13 a14 a15 a16 a17 a18 a19 a20 (nI az) v22 v23 v24 v25 v26 (nI bb) (fun j => nI (ct j)) (nI us) a30 a31 a32 a33 a34 a35 a36 a37 (fun j => nI (pil j)) (fun j => nI (rwv j)) (nI rl) v41 v42 v43 v44 v45) := hD
  refine lv_aload_n hx hb dX7_build_5 rfl (lv_at hl 0 rfl) ?_
  refine va_get (D := (dC, dI)) (ci := 6) (v := .int (nI bs)) (C := RX7) (T := TX7) (N := 46) hx hb hts hiX7 hown hK hP 0 rfl rfl 3 (by decide) (hts (.fieldLink RX7 232 "LinkModelsModel" "builds" "I") (by decide +kernel)) (fun _ h9 => h9) rfl dX7_build_6 ?_
  refine lv_iconst (v := 5) hx hb dX7_build_9 (by decide) ?_
  refine lv_icmp_ne (tgt := 21) hx hb dX7_build_10 (by decide) (fun cp10 => ?_) (fun cp10 => ?_)
  · have qcp10 : ¬ bs = 5 := fun h9 => cp10 ((nI_eq (a := bs) (b := 5) (by omega) (by omega)).mpr h9)
    refine lv_aload_n hx hb dX7_build_21 rfl (lv_at hl 0 rfl) ?_
    refine lv_aload_n hx hb dX7_build_22 rfl (lv_at hl 0 rfl) ?_
    refine va_get (D := (dC, dI)) (ci := 6) (v := .int (nI bs)) (C := RX7) (T := TX7) (N := 46) hx hb hts hiX7 hown hK hP 0 rfl rfl 3 (by decide) (hts (.fieldLink RX7 232 "LinkModelsModel" "builds" "I") (by decide +kernel)) (fun _ h9 => h9) rfl dX7_build_23 ?_
    refine va_put (D := (dC, dI)) (ci := 6) (v := .int (nI bs)) (ty := (.int)) (C := RX7) (T := TX7) (N := 46) hx hb hts hiX7 tyX7 tyX7_ok nmX7 hown hK hP hD hS 0 rfl rfl 27 (by decide) (hts (.fieldLink RX7 198 "LinkModelsModel" "b" "I") (by decide +kernel)) (fun _ h9 => h9) rfl (by decide +kernel) rfl rfl (Nat.le_of_ble_eq_true rfl) dX7_build_26 (fun H locs hP hD hS => ?_)
    have hP : va_P (dC, dI) vwCl (rW h0 r cI cJ cZ 0 a1 (nI tp) (nI bs) (fun j => nI (cl j)) a5 a6 a7 (fun j => nI (fc j)) a9 (fun j => nI (mb j)) a11 a12 a13 a14 a15 a16 a17 a18 a19 a20 (nI az) v22 v23 v24 v25 v26 (nI bs) (fun j => nI (ct j)) (nI us) a30 a31 a32 a33 a34 a35 a36 a37 (fun j => nI (pil j)) (fun j => nI (rwv j)) (nI rl) v41 v42 v43 v44 v45) H := hP
    have hD : va_D A (rW h0 r cI cJ cZ 0 a1 (nI tp) (nI bs) (fun j => nI (cl j)) a5 a6 a7 (fun j => nI (fc j)) a9 (fun j => nI (mb j)) a11 a12 a13 a14 a15 a16 a17 a18 a19 a20 (nI az) v22 v23 v24 v25 v26 (nI bs) (fun j => nI (ct j)) (nI us) a30 a31 a32 a33 a34 a35 a36 a37 (fun j => nI (pil j)) (fun j => nI (rwv j)) (nI rl) v41 v42 v43 v44 v45) := hD
    refine lv_aload_n hx hb dX7_build_29 rfl (lv_at hl 0 rfl) ?_
    refine va_get (D := (dC, dI)) (ci := 6) (v := .ref (r 4)) (C := RX7) (T := TX7) (N := 46) hx hb hts hiX7 hown hK hP 0 rfl rfl 4 (by decide) (hts (.fieldLink RX7 17 "LinkModelsModel" "classes" "[I") (by decide +kernel)) (fun _ h9 => h9) rfl dX7_build_30 ?_
    refine lv_aload_n hx hb dX7_build_33 rfl (lv_at hl 0 rfl) ?_
    refine va_get (D := (dC, dI)) (ci := 6) (v := .int (nI bs)) (C := RX7) (T := TX7) (N := 46) hx hb hts hiX7 hown hK hP 0 rfl rfl 27 (by decide) (hts (.fieldLink RX7 198 "LinkModelsModel" "b" "I") (by decide +kernel)) (fun _ h9 => h9) rfl dX7_build_34 ?_
    refine lv_iconst (v := 0) hx hb dX7_build_37 (by decide) ?_
    refine va_iast hx hb hK hP hD hS 2 0 rfl rfl (vp_in_nI (show bs < 5 by omega) (by decide)) dX7_build_38 (fun H locs hP hD hS => ?_)
    obtain ⟨f44, ef44⟩ : ∃ g, g = z_up cl bs 0 := ⟨_, rfl⟩
    have hP : va_P (dC, dI) vwCl (rW h0 r cI cJ cZ 0 a1 (nI tp) (nI bs) (fun j => nI (f44 j)) a5 a6 a7 (fun j => nI (fc j)) a9 (fun j => nI (mb j)) a11 a12 a13 a14 a15 a16 a17 a18 a19 a20 (nI az) v22 v23 v24 v25 v26 (nI bs) (fun j => nI (ct j)) (nI us) a30 a31 a32 a33 a34 a35 a36 a37 (fun j => nI (pil j)) (fun j => nI (rwv j)) (nI rl) v41 v42 v43 v44 v45) H := by rw [ef44, ← z_upd (show bs < 2 ^ 31 by omega)]; exact hP
    have hD : va_D A (rW h0 r cI cJ cZ 0 a1 (nI tp) (nI bs) (fun j => nI (f44 j)) a5 a6 a7 (fun j => nI (fc j)) a9 (fun j => nI (mb j)) a11 a12 a13 a14 a15 a16 a17 a18 a19 a20 (nI az) v22 v23 v24 v25 v26 (nI bs) (fun j => nI (ct j)) (nI us) a30 a31 a32 a33 a34 a35 a36 a37 (fun j => nI (pil j)) (fun j => nI (rwv j)) (nI rl) v41 v42 v43 v44 v45) := by rw [ef44, ← z_upd (show bs < 2 ^ 31 by omega)]; exact hD
    have hbf44 : ∀ j, f44 j ≤ 16 := by rw [ef44]; exact z_upb hcl (by omega)
    have hfrf44 : ∀ j, j ≠ bs → f44 j = cl j := fun j hj => by rw [ef44, z_upn (by omega)]
    refine lv_aload_n hx hb dX7_build_39 rfl (lv_at hl 0 rfl) ?_
    refine lv_iconst (v := 0) hx hb dX7_build_40 (by decide) ?_
    refine va_put (D := (dC, dI)) (ci := 6) (v := .int 0) (ty := (.int)) (C := RX7) (T := TX7) (N := 46) hx hb hts hiX7 tyX7 tyX7_ok nmX7 hown hK hP hD hS 0 rfl rfl 21 (by decide) (hts (.fieldLink RX7 126 "LinkModelsModel" "at" "I") (by decide +kernel)) (fun _ h9 => h9) rfl (by decide +kernel) rfl rfl (Nat.le_of_ble_eq_true rfl) dX7_build_41 (fun H locs hP hD hS => ?_)
    have hP : va_P (dC, dI) vwCl (rW h0 r cI cJ cZ 0 a1 (nI tp) (nI bs) (fun j => nI (f44 j)) a5 a6 a7 (fun j => nI (fc j)) a9 (fun j => nI (mb j)) a11 a12 a13 a14 a15 a16 a17 a18 a19 a20 0 v22 v23 v24 v25 v26 (nI bs) (fun j => nI (ct j)) (nI us) a30 a31 a32 a33 a34 a35 a36 a37 (fun j => nI (pil j)) (fun j => nI (rwv j)) (nI rl) v41 v42 v43 v44 v45) H := hP
    have hD : va_D A (rW h0 r cI cJ cZ 0 a1 (nI tp) (nI bs) (fun j => nI (f44 j)) a5 a6 a7 (fun j => nI (fc j)) a9 (fun j => nI (mb j)) a11 a12 a13 a14 a15 a16 a17 a18 a19 a20 0 v22 v23 v24 v25 v26 (nI bs) (fun j => nI (ct j)) (nI us) a30 a31 a32 a33 a34 a35 a36 a37 (fun j => nI (pil j)) (fun j => nI (rwv j)) (nI rl) v41 v42 v43 v44 v45) := hD
    refine lv_aload_n hx hb dX7_build_44 rfl (lv_at hl 0 rfl) ?_
    refine lv_iconst (v := 0) hx hb dX7_build_45 (by decide) ?_
    refine va_put (D := (dC, dI)) (ci := 6) (v := .int 0) (ty := (.int)) (C := RX7) (T := TX7) (N := 46) hx hb hts hiX7 tyX7 tyX7_ok nmX7 hown hK hP hD hS 0 rfl rfl 25 (by decide) (hts (.fieldLink RX7 155 "LinkModelsModel" "fault" "I") (by decide +kernel)) (fun _ h9 => h9) rfl (by decide +kernel) rfl rfl (Nat.le_of_ble_eq_true rfl) dX7_build_46 (fun H locs hP hD hS => ?_)
    have hP : va_P (dC, dI) vwCl (rW h0 r cI cJ cZ 0 a1 (nI tp) (nI bs) (fun j => nI (f44 j)) a5 a6 a7 (fun j => nI (fc j)) a9 (fun j => nI (mb j)) a11 a12 a13 a14 a15 a16 a17 a18 a19 a20 0 v22 v23 v24 0 v26 (nI bs) (fun j => nI (ct j)) (nI us) a30 a31 a32 a33 a34 a35 a36 a37 (fun j => nI (pil j)) (fun j => nI (rwv j)) (nI rl) v41 v42 v43 v44 v45) H := hP
    have hD : va_D A (rW h0 r cI cJ cZ 0 a1 (nI tp) (nI bs) (fun j => nI (f44 j)) a5 a6 a7 (fun j => nI (fc j)) a9 (fun j => nI (mb j)) a11 a12 a13 a14 a15 a16 a17 a18 a19 a20 0 v22 v23 v24 0 v26 (nI bs) (fun j => nI (ct j)) (nI us) a30 a31 a32 a33 a34 a35 a36 a37 (fun j => nI (pil j)) (fun j => nI (rwv j)) (nI rl) v41 v42 v43 v44 v45) := hD
    refine lv_aload_n hx hb dX7_build_49 rfl (lv_at hl 0 rfl) ?_
    have hFc := z_freeW hD hS hA
    refine va_callv (va_runV (As := []) (rest := []) ⟨hx, hb, hml, hown, hts⟩ (kX7_next l dC dI h0 r cI cJ cZ 0 a1 tp bs f44 a5 a6 a7 fc a9 mb a11 a12 a13 a14 a15 a16 a17 a18 a19 a20 0 v22 v23 v24 0 v26 bs ct us a30 a31 a32 a33 a34 a35 a36 a37 pil rwv rl v41 v42 v43 v44 v45 ⟨by omega, by omega, by omega, hbf44, hfc, hmb, hct, hpil, hrwv⟩ (by first | omega | assumption | trivial) H.size) (cwV 0 hts zgX7_build_X7_next_195 rfl rfl rfl (by decide +kernel) ⟨(show 2 + 1 ≤ 6 by omega), (show 8 + (2 + 11) + 45 ≤ 140 by omega)⟩) (zVm (ci := 6) (q0 := 0) (q := (RX7, TX7, 46)) hK hP hD hL hS.2.1 hFc rfl rfl rfl) rfl rfl hl.1 rfl (lv_room (Nat.le_of_ble_eq_true rfl)) dX7_build_50 ⟨(show 0 + 0 ≤ 0 by omega), (show 0 + 0 ≤ 0 by omega)⟩) hS (fun q _ h => hFc q h) hFc (fun u50 t H1 locs ht hvm hw hB hz1 hk1 hS => ?_)
    obtain ⟨o46, o47, o48, o49⟩ := u50
    obtain ⟨hP, hK9, hD⟩ := hB
    rw [ht] at hP
    have hD := hD.weaken (fun k q _ h => hFc q.1 h)
    generalize H1 = H at hP hS
    have hP : va_P (dC, dI) vwCl (rW h0 r cI cJ cZ 0 a1 (nI tp) (nI bs) (fun j => nI (f44 j)) a5 a6 a7 (fun j => nI (fc j)) a9 (fun j => nI (mb j)) a11 a12 a13 a14 a15 a16 a17 a18 a19 a20 (nI o46) o47 o48 o49 0 v26 (nI bs) (fun j => nI (ct j)) (nI us) a30 a31 a32 a33 a34 a35 a36 a37 (fun j => nI (pil j)) (fun j => nI (rwv j)) (nI rl) v41 v42 v43 v44 v45) H := hP
    have hD : va_D A (rW h0 r cI cJ cZ 0 a1 (nI tp) (nI bs) (fun j => nI (f44 j)) a5 a6 a7 (fun j => nI (fc j)) a9 (fun j => nI (mb j)) a11 a12 a13 a14 a15 a16 a17 a18 a19 a20 (nI o46) o47 o48 o49 0 v26 (nI bs) (fun j => nI (ct j)) (nI us) a30 a31 a32 a33 a34 a35 a36 a37 (fun j => nI (pil j)) (fun j => nI (rwv j)) (nI rl) v41 v42 v43 v44 v45) := hD
    have hw : (0 ≤ o46) ∧ (o46 ≤ tp) ∧ (¬ o47 = 0 → 0 < o46) := hw
    obtain ⟨w0r45, w1r45, w2r45⟩ := hw
    refine lv_iconst (v := 1) hx hb dX7_build_53 (by decide) ?_
    refine lv_istore_n (lv' := [(1, .int 1), (0, .ref h0)]) hx hb dX7_build_54 rfl hl (by decide) rfl (fun ls hl => ?_)
    exact J55 _ 1 0 bs f44 o46 o47 o48 o49 0 v26 a5 a6 a7 fc a9 a13 a14 a16 a17 a15 a18 a19 a20 mb _ _ ls (Nat.lt_succ_self _) hbf44 hfrf44 (fun _ _ => rfl) (fun _ _ => rfl) hfc (fun _ _ => rfl) (fun _ _ => rfl) hmb (by first | omega | assumption | trivial) (by first | omega | assumption | trivial) (by first | omega | assumption | trivial) (by first | omega | assumption | trivial) hP hD hS (lv_sub hl [1, 0] rfl)
  · have qcp10 : bs = 5 := (nI_eq (a := bs) (b := 5) (by omega) (by omega)).mp cp10
    refine lv_aload_n hx hb dX7_build_13 rfl (lv_at hl 0 rfl) ?_
    refine lv_iconst (v := 0) hx hb dX7_build_14 (by decide) ?_
    refine va_put (D := (dC, dI)) (ci := 6) (v := .int 0) (ty := (.int)) (C := RX7) (T := TX7) (N := 46) hx hb hts hiX7 tyX7 tyX7_ok nmX7 hown hK hP hD hS 0 rfl rfl 2 (by decide) (hts (.fieldLink RX7 109 "LinkModelsModel" "taped" "I") (by decide +kernel)) (fun _ h9 => h9) rfl (by decide +kernel) rfl rfl (Nat.le_of_ble_eq_true rfl) dX7_build_15 (fun H locs hP hD hS => ?_)
    have hP : va_P (dC, dI) vwCl (rW h0 r cI cJ cZ 0 a1 0 (nI bs) (fun j => nI (cl j)) a5 a6 a7 (fun j => nI (fc j)) a9 (fun j => nI (mb j)) a11 a12 a13 a14 a15 a16 a17 a18 a19 a20 (nI az) v22 v23 v24 v25 v26 (nI bb) (fun j => nI (ct j)) (nI us) a30 a31 a32 a33 a34 a35 a36 a37 (fun j => nI (pil j)) (fun j => nI (rwv j)) (nI rl) v41 v42 v43 v44 v45) H := hP
    have hD : va_D A (rW h0 r cI cJ cZ 0 a1 0 (nI bs) (fun j => nI (cl j)) a5 a6 a7 (fun j => nI (fc j)) a9 (fun j => nI (mb j)) a11 a12 a13 a14 a15 a16 a17 a18 a19 a20 (nI az) v22 v23 v24 v25 v26 (nI bb) (fun j => nI (ct j)) (nI us) a30 a31 a32 a33 a34 a35 a36 a37 (fun j => nI (pil j)) (fun j => nI (rwv j)) (nI rl) v41 v42 v43 v44 v45) := hD
    refine lv_bipush (v := (-5)) hx hb dX7_build_18 (by decide) ?_
    have hP9 : va_P (dC, dI) vwCl (rW h0 r cI cJ cZ 0 a1 0 (nI bs) (fun j => nI (cl j)) a5 a6 a7 (fun j => nI (fc j)) a9 (fun j => nI (mb j)) a11 a12 a13 a14 a15 a16 a17 a18 a19 a20 (nI az) v22 v23 v24 v25 v26 (nI bb) (fun j => nI (ct j)) (nI us) a30 a31 a32 a33 a34 a35 a36 a37 (fun j => nI (pil j)) (fun j => nI (rwv j)) (nI rl) v41 v42 v43 v44 v45) H := hP
    have hD9 : va_D A (rW h0 r cI cJ cZ 0 a1 0 (nI bs) (fun j => nI (cl j)) a5 a6 a7 (fun j => nI (fc j)) a9 (fun j => nI (mb j)) a11 a12 a13 a14 a15 a16 a17 a18 a19 a20 (nI az) v22 v23 v24 v25 v26 (nI bb) (fun j => nI (ct j)) (nI us) a30 a31 a32 a33 a34 a35 a36 a37 (fun j => nI (pil j)) (fun j => nI (rwv j)) (nI rl) v41 v42 v43 v44 v45) := hD
    exact W.iret (v := (-5 : Int32)) hx hb hr (fun t ht hW => ⟨⟨(-5 : Int32), (0, bs, 0, bb, cl, az, v22, v23, v24, v25, v26, a5, a6, a7, fc, a9, a13, a14, a16, a17, a15, a18, a19, a20, mb, ct, a11, a12), rfl, ⟨(by rfl), (by omega), (by exact hp0), hcl, (fun _ _ => rfl), (fun _ _ => rfl), (fun _ _ => rfl), hfc, (fun _ _ => rfl), (fun _ _ => rfl), hmb, hct, (fun _ _ => rfl)⟩, by rw [ht]; exact hP9, va_K.moved hW.alike hK, hD9⟩, hS.F ht⟩) hS.2.2 dX7_build_20
