theorem dX2_readsMember_0 : decode cX2_readsMember 0 = .ok (.aload_n 0, 1) := by decide +kernel
theorem dX2_readsMember_1 : decode cX2_readsMember 1 = .ok (.invokevirtual 101, 3) := by decide +kernel
theorem dX2_readsMember_4 : decode cX2_readsMember 4 = .ok (.ifCond .ne 17, 3) := by decide +kernel
theorem dX2_readsMember_7 : decode cX2_readsMember 7 = .ok (.aload_n 0, 1) := by decide +kernel
theorem dX2_readsMember_8 : decode cX2_readsMember 8 = .ok (.invokevirtual 104, 3) := by decide +kernel
theorem dX2_readsMember_11 : decode cX2_readsMember 11 = .ok (.iconst (-1), 1) := by decide +kernel
theorem dX2_readsMember_12 : decode cX2_readsMember 12 = .ok (.if_icmp .ne 9, 3) := by decide +kernel
theorem dX2_readsMember_15 : decode cX2_readsMember 15 = .ok (.aload_n 0, 1) := by decide +kernel
theorem dX2_readsMember_16 : decode cX2_readsMember 16 = .ok (.iconst 1, 1) := by decide +kernel
theorem dX2_readsMember_17 : decode cX2_readsMember 17 = .ok (.invokevirtual 67, 3) := by decide +kernel
theorem dX2_readsMember_20 : decode cX2_readsMember 20 = .ok (.ireturn, 1) := by decide +kernel
theorem dX2_readsMember_21 : decode cX2_readsMember 21 = .ok (.aload_n 1, 1) := by decide +kernel
theorem dX2_readsMember_22 : decode cX2_readsMember 22 = .ok (.invokevirtual 107, 3) := by decide +kernel
theorem dX2_readsMember_25 : decode cX2_readsMember 25 = .ok (.ifCond .eq 9, 3) := by decide +kernel
theorem dX2_readsMember_28 : decode cX2_readsMember 28 = .ok (.aload_n 0, 1) := by decide +kernel
theorem dX2_readsMember_29 : decode cX2_readsMember 29 = .ok (.iconst 2, 1) := by decide +kernel
theorem dX2_readsMember_30 : decode cX2_readsMember 30 = .ok (.invokevirtual 67, 3) := by decide +kernel
theorem dX2_readsMember_33 : decode cX2_readsMember 33 = .ok (.ireturn, 1) := by decide +kernel
theorem dX2_readsMember_34 : decode cX2_readsMember 34 = .ok (.aload_n 0, 1) := by decide +kernel
theorem dX2_readsMember_35 : decode cX2_readsMember 35 = .ok (.invokevirtual 111, 3) := by decide +kernel
theorem dX2_readsMember_38 : decode cX2_readsMember 38 = .ok (.ifCond .ne 5, 3) := by decide +kernel
theorem dX2_readsMember_41 : decode cX2_readsMember 41 = .ok (.iconst 0, 1) := by decide +kernel
theorem dX2_readsMember_42 : decode cX2_readsMember 42 = .ok (.ireturn, 1) := by decide +kernel
theorem dX2_readsMember_43 : decode cX2_readsMember 43 = .ok (.aload_n 0, 1) := by decide +kernel
theorem dX2_readsMember_44 : decode cX2_readsMember 44 = .ok (.aload_n 0, 1) := by decide +kernel
theorem dX2_readsMember_45 : decode cX2_readsMember 45 = .ok (.invokevirtual 104, 3) := by decide +kernel
theorem dX2_readsMember_48 : decode cX2_readsMember 48 = .ok (.putfield 114, 3) := by decide +kernel
theorem dX2_readsMember_51 : decode cX2_readsMember 51 = .ok (.aload_n 0, 1) := by decide +kernel
theorem dX2_readsMember_52 : decode cX2_readsMember 52 = .ok (.getfield 114, 3) := by decide +kernel
theorem dX2_readsMember_55 : decode cX2_readsMember 55 = .ok (.iconst (-1), 1) := by decide +kernel
theorem dX2_readsMember_56 : decode cX2_readsMember 56 = .ok (.if_icmp .ne 9, 3) := by decide +kernel
theorem dX2_readsMember_59 : decode cX2_readsMember 59 = .ok (.aload_n 0, 1) := by decide +kernel
theorem dX2_readsMember_60 : decode cX2_readsMember 60 = .ok (.iconst 1, 1) := by decide +kernel
theorem dX2_readsMember_61 : decode cX2_readsMember 61 = .ok (.invokevirtual 67, 3) := by decide +kernel
theorem dX2_readsMember_64 : decode cX2_readsMember 64 = .ok (.ireturn, 1) := by decide +kernel
theorem dX2_readsMember_65 : decode cX2_readsMember 65 = .ok (.aload_n 0, 1) := by decide +kernel
theorem dX2_readsMember_66 : decode cX2_readsMember 66 = .ok (.getfield 14, 3) := by decide +kernel
theorem dX2_readsMember_69 : decode cX2_readsMember 69 = .ok (.invokevirtual 54, 3) := by decide +kernel
theorem dX2_readsMember_72 : decode cX2_readsMember 72 = .ok (.aload_n 0, 1) := by decide +kernel
theorem dX2_readsMember_73 : decode cX2_readsMember 73 = .ok (.invokevirtual 117, 3) := by decide +kernel
theorem dX2_readsMember_76 : decode cX2_readsMember 76 = .ok (.ifCond .ne 9, 3) := by decide +kernel
theorem dX2_readsMember_79 : decode cX2_readsMember 79 = .ok (.aload_n 0, 1) := by decide +kernel
theorem dX2_readsMember_80 : decode cX2_readsMember 80 = .ok (.iconst 1, 1) := by decide +kernel
theorem dX2_readsMember_81 : decode cX2_readsMember 81 = .ok (.invokevirtual 67, 3) := by decide +kernel
theorem dX2_readsMember_84 : decode cX2_readsMember 84 = .ok (.ireturn, 1) := by decide +kernel
theorem dX2_readsMember_85 : decode cX2_readsMember 85 = .ok (.aload_n 0, 1) := by decide +kernel
theorem dX2_readsMember_86 : decode cX2_readsMember 86 = .ok (.getfield 23, 3) := by decide +kernel
theorem dX2_readsMember_89 : decode cX2_readsMember 89 = .ok (.aload_n 0, 1) := by decide +kernel
theorem dX2_readsMember_90 : decode cX2_readsMember 90 = .ok (.getfield 14, 3) := by decide +kernel
theorem dX2_readsMember_93 : decode cX2_readsMember 93 = .ok (.getfield 74, 3) := by decide +kernel
theorem dX2_readsMember_96 : decode cX2_readsMember 96 = .ok (.invokevirtual 120, 3) := by decide +kernel
theorem dX2_readsMember_99 : decode cX2_readsMember 99 = .ok (.aload_n 0, 1) := by decide +kernel
theorem dX2_readsMember_100 : decode cX2_readsMember 100 = .ok (.getfield 14, 3) := by decide +kernel
theorem dX2_readsMember_103 : decode cX2_readsMember 103 = .ok (.invokevirtual 54, 3) := by decide +kernel
theorem dX2_readsMember_106 : decode cX2_readsMember 106 = .ok (.aload_n 0, 1) := by decide +kernel
theorem dX2_readsMember_107 : decode cX2_readsMember 107 = .ok (.getfield 14, 3) := by decide +kernel
theorem dX2_readsMember_110 : decode cX2_readsMember 110 = .ok (.bipush 40, 2) := by decide +kernel
theorem dX2_readsMember_112 : decode cX2_readsMember 112 = .ok (.invokevirtual 47, 3) := by decide +kernel
theorem dX2_readsMember_115 : decode cX2_readsMember 115 = .ok (.ifCond .eq 11, 3) := by decide +kernel
theorem dX2_readsMember_118 : decode cX2_readsMember 118 = .ok (.aload_n 0, 1) := by decide +kernel
theorem dX2_readsMember_119 : decode cX2_readsMember 119 = .ok (.aload_n 1, 1) := by decide +kernel
theorem dX2_readsMember_120 : decode cX2_readsMember 120 = .ok (.invokevirtual 124, 3) := by decide +kernel
theorem dX2_readsMember_123 : decode cX2_readsMember 123 = .ok (.goto 8, 3) := by decide +kernel
theorem dX2_readsMember_126 : decode cX2_readsMember 126 = .ok (.aload_n 0, 1) := by decide +kernel
theorem dX2_readsMember_127 : decode cX2_readsMember 127 = .ok (.aload_n 1, 1) := by decide +kernel
theorem dX2_readsMember_128 : decode cX2_readsMember 128 = .ok (.invokevirtual 127, 3) := by decide +kernel
theorem dX2_readsMember_131 : decode cX2_readsMember 131 = .ok (.ireturn, 1) := by decide +kernel
def zwX2_readsMember : List Cond := .code yX2_readsMember cX2_readsMember 2 (some .boolean) :: ([.fieldLink RX2 114 "LinkModels$Reader" "type" "I", .fieldLink RX2 14 "LinkModels$Reader" "tokens" "LLinkModels$Tokens;", .fieldLink RX2 23 "LinkModels$Reader" "signature" "LLinkModels$Signature;", .fieldLink RX2 74 "LinkModels$Tokens" "value" "J", .methodLink RX2 107 yX0_isFilled, .instanceMethod yX0_isFilled, .selects RX0 yX0_isFilled yX0_isFilled, .initialized RX0, .code yX0_isFilled cX0_isFilled 1 (some .boolean), .fieldLink RX0 27 "LinkModels$Build" "memberCounts" "[I", .fieldLink RX0 61 "LinkModels$Build" "classCount" "I", .methodLink RX2 111 yX2_readsMarks, .instanceMethod yX2_readsMarks, .selects RX2 yX2_readsMarks yX2_readsMarks, .initialized RX2, .code yX2_readsMarks cX2_readsMarks 4 (some .boolean), .fieldLink RX2 130 "LinkModels$Reader" "marks" "I", .methodLink RX2 54 yX4_step, .instanceMethod yX4_step, .selects RX4 yX4_step yX4_step, .initialized RX4, .code yX4_step cX4_step 2 none, .fieldLink RX4 23 "LinkModels$Tokens" "behind" "I", .fieldLink RX4 29 "LinkModels$Tokens" "start" "I", .fieldLink RX4 40 "LinkModels$Tokens" "sort" "I", .fieldLink RX4 19 "LinkModels$Tokens" "length" "I", .fieldLink RX4 7 "LinkModels$Tokens" "tape" "[B", .fieldLink RX4 32 "LinkModels$Tokens" "value" "J", .methodLink RX4 51 yX4_longest, .instanceMethod yX4_longest, .selects RX4 yX4_longest yX4_longest, .code yX4_longest cX4_longest 1 (some .int), .methodLink RX4 43 yX4_take, .instanceMethod yX4_take, .selects RX4 yX4_take yX4_take, .code yX4_take cX4_take 2 none, .constantLong RX4 55 (10), .methodLink RX4 36 yX4_sortOf, .static yX4_sortOf, .code yX4_sortOf cX4_sortOf 1 (some .int), .methodLink RX4 47 yX4_joins, .instanceMethod yX4_joins, .selects RX4 yX4_joins yX4_joins, .code yX4_joins cX4_joins 2 (some .boolean), .methodLink RX2 101 yX2_markHere, .instanceMethod yX2_markHere, .selects RX2 yX2_markHere yX2_markHere, .code yX2_markHere cX2_markHere 1 (some .int), .constantLong RX2 160 (126943688419683), .constantLong RX2 162 (114801865155950), .constantLong RX2 158 (439855505772), .constantLong RX2 156 (7017298113369039732), .methodLink RX2 63 yX4_isWord, .instanceMethod yX4_isWord, .selects RX4 yX4_isWord yX4_isWord, .code yX4_isWord cX4_isWord 3 (some .boolean), .methodLink RX2 67 yX2_refuse, .instanceMethod yX2_refuse, .selects RX2 yX2_refuse yX2_refuse, .code yX2_refuse cX2_refuse 2 (some .boolean), .fieldLink RX2 27 "LinkModels$Reader" "fault" "I", .methodLink RX2 104 yX2_typeHere, .instanceMethod yX2_typeHere, .selects RX2 yX2_typeHere yX2_typeHere, .code yX2_typeHere cX2_typeHere 1 (some .int), .fieldLink RX2 40 "LinkModels$Tokens" "sort" "I", .constantLong RX2 164 (6909556), .constantLong RX2 166 (1819242087), .constantLong RX2 168 (1987012964), .methodLink RX2 117 yX2_isMemberWordHere, .instanceMethod yX2_isMemberWordHere, .selects RX2 yX2_isMemberWordHere yX2_isMemberWordHere, .code yX2_isMemberWordHere cX2_isMemberWordHere 1 (some .boolean), .constantLong RX2 61 (427020088179), .methodLink RX2 120 yX3_begin, .instanceMethod yX3_begin, .selects RX3 yX3_begin yX3_begin, .initialized RX3, .code yX3_begin cX3_begin 3 none, .fieldLink RX3 7 "LinkModels$Signature" "word" "J", .fieldLink RX3 13 "LinkModels$Signature" "typeCount" "I", .fieldLink RX3 17 "LinkModels$Signature" "first" "I", .fieldLink RX3 20 "LinkModels$Signature" "second" "I", .methodLink RX2 47 yX4_isSign, .instanceMethod yX4_isSign, .selects RX4 yX4_isSign yX4_isSign, .code yX4_isSign cX4_isSign 2 (some .boolean), .methodLink RX2 127 yX2_readsField, .instanceMethod yX2_readsField, .selects RX2 yX2_readsField yX2_readsField, .code yX2_readsField cX2_readsField 4 (some .boolean), .fieldLink RX2 71 "LinkModels$Build" "classCount" "I", .fieldLink RX2 133 "LinkModels$Signature" "word" "J", .methodLink RX2 140 yX0_addMember, .instanceMethod yX0_addMember, .selects RX0 yX0_addMember yX0_addMember, .code yX0_addMember cX0_addMember 6 none, .fieldLink RX0 30 "LinkModels$Build" "memberMarks" "[I", .fieldLink RX0 33 "LinkModels$Build" "words" "[J", .fieldLink RX0 65 "LinkModels$Signature" "word" "J", .fieldLink RX0 37 "LinkModels$Build" "typeCounts" "[I", .fieldLink RX0 71 "LinkModels$Signature" "typeCount" "I", .fieldLink RX0 40 "LinkModels$Build" "firsts" "[I", .fieldLink RX0 74 "LinkModels$Signature" "first" "I", .fieldLink RX0 43 "LinkModels$Build" "seconds" "[I", .fieldLink RX0 77 "LinkModels$Signature" "second" "I", .fieldLink RX0 46 "LinkModels$Build" "numbers" "[I", .methodLink RX2 92 yX2_passes, .instanceMethod yX2_passes, .selects RX2 yX2_passes yX2_passes, .code yX2_passes cX2_passes 2 (some .boolean), .methodLink RX2 136 yX0_fieldIn, .instanceMethod yX0_fieldIn, .selects RX0 yX0_fieldIn yX0_fieldIn, .code yX0_fieldIn cX0_fieldIn 5 (some .int), .methodLink RX0 82 yX0_has, .instanceMethod yX0_has, .selects RX0 yX0_has yX0_has, .code yX0_has cX0_has 3 (some .boolean), .methodLink RX2 124 yX2_readsMethod, .instanceMethod yX2_readsMethod, .selects RX2 yX2_readsMethod yX2_readsMethod, .code yX2_readsMethod cX2_readsMethod 2 (some .boolean), .methodLink RX2 147 yX0_methodIn, .instanceMethod yX0_methodIn, .selects RX0 yX0_methodIn yX0_methodIn, .code yX0_methodIn cX0_methodIn 5 (some .int), .methodLink RX2 144 yX2_readsTypes, .instanceMethod yX2_readsTypes, .selects RX2 yX2_readsTypes yX2_readsTypes, .code yX2_readsTypes cX2_readsTypes 4 (some .boolean), .methodLink RX2 151 yX3_add, .instanceMethod yX3_add, .selects RX3 yX3_add yX3_add, .code yX3_add cX3_add 2 none] ++ wsX20 ++ wsX40 ++ wsX00 ++ wsX30)
set_option maxRecDepth 100000 in
theorem zgX2_readsMember_X0_isFilled_107 : GoodIn zwX2_readsMember (wsV RX2 107 RX0 yX0_isFilled zwX0_isFilled) := goodIn_app (goodIn_r _ [5, 6, 7, 8] rfl (by decide +kernel)) (goodIn_app (goodIn_r _ [9, 10, 11] rfl (by decide +kernel)) (fun w hw => ⟨(List.mem_cons_of_mem _ (List.mem_append_left _ (List.mem_append_right _ hw))), good_of_word (List.all_eq_true.mp zgX0 w hw)⟩))
set_option maxRecDepth 100000 in
theorem zgX2_readsMember_X2_readsMarks_111 : GoodIn zwX2_readsMember (wsV RX2 111 RX2 yX2_readsMarks zwX2_readsMarks) := goodIn_app (goodIn_r _ [12, 13, 14, 15] rfl (by decide +kernel)) (goodIn_app (goodIn_app (goodIn_r _ [16, 17, 2, 18, 19, 20, 21, 22, 23, 24, 25, 26, 27, 28, 29, 30, 31, 32, 33, 34, 35, 36, 37, 38, 39, 40, 41, 42, 43, 44, 45, 46, 47, 15, 48, 49, 50, 51, 52, 53, 54, 55, 56, 57, 58, 59, 60, 61] rfl (by decide +kernel)) (fun w hw => ⟨(List.mem_cons_of_mem _ (List.mem_append_left _ (List.mem_append_left _ (List.mem_append_left _ (List.mem_append_right _ hw))))), good_of_word (List.all_eq_true.mp zgX2 w hw)⟩)) (fun w hw => ⟨(List.mem_cons_of_mem _ (List.mem_append_left _ (List.mem_append_left _ (List.mem_append_right _ hw)))), good_of_word (List.all_eq_true.mp zgX4 w hw)⟩))
set_option maxRecDepth 100000 in
theorem zgX2_readsMember_X2_typeHere_104 : GoodIn zwX2_readsMember (wsV RX2 104 RX2 yX2_typeHere zwX2_typeHere) := goodIn_app (goodIn_r _ [62, 63, 64, 15] rfl (by decide +kernel)) (goodIn_app (goodIn_app (goodIn_r _ [65, 2, 66, 67, 68, 69, 4, 53, 54, 55, 21, 56, 25, 28] rfl (by decide +kernel)) (fun w hw => ⟨(List.mem_cons_of_mem _ (List.mem_append_left _ (List.mem_append_left _ (List.mem_append_left _ (List.mem_append_right _ hw))))), good_of_word (List.all_eq_true.mp zgX2 w hw)⟩)) (fun w hw => ⟨(List.mem_cons_of_mem _ (List.mem_append_left _ (List.mem_append_left _ (List.mem_append_right _ hw)))), good_of_word (List.all_eq_true.mp zgX4 w hw)⟩))
set_option maxRecDepth 100000 in
theorem zgX2_readsMember_X4_step_54 : GoodIn zwX2_readsMember (wsV RX2 54 RX4 yX4_step zwX4_step) := goodIn_app (goodIn_r _ [18, 19, 20, 21] rfl (by decide +kernel)) (goodIn_app (goodIn_r _ [22, 23, 24, 25, 26, 27, 28, 29, 30, 31, 21, 32, 33, 34, 35, 36, 37, 38, 39, 40, 41, 42, 43, 44] rfl (by decide +kernel)) (fun w hw => ⟨(List.mem_cons_of_mem _ (List.mem_append_left _ (List.mem_append_left _ (List.mem_append_right _ hw)))), good_of_word (List.all_eq_true.mp zgX4 w hw)⟩))
set_option maxRecDepth 100000 in
theorem zgX2_readsMember_X2_isMemberWordHere_117 : GoodIn zwX2_readsMember (wsV RX2 117 RX2 yX2_isMemberWordHere zwX2_isMemberWordHere) := goodIn_app (goodIn_r _ [70, 71, 72, 15] rfl (by decide +kernel)) (goodIn_app (goodIn_app (goodIn_r _ [73, 2, 66, 74, 53, 54, 55, 21, 56, 25, 28, 45, 46, 47, 15, 48, 49, 50, 51, 52, 62, 63, 64, 65, 67, 68, 69, 4] rfl (by decide +kernel)) (fun w hw => ⟨(List.mem_cons_of_mem _ (List.mem_append_left _ (List.mem_append_left _ (List.mem_append_left _ (List.mem_append_right _ hw))))), good_of_word (List.all_eq_true.mp zgX2 w hw)⟩)) (fun w hw => ⟨(List.mem_cons_of_mem _ (List.mem_append_left _ (List.mem_append_left _ (List.mem_append_right _ hw)))), good_of_word (List.all_eq_true.mp zgX4 w hw)⟩))
set_option maxRecDepth 100000 in
theorem zgX2_readsMember_X3_begin_120 : GoodIn zwX2_readsMember (wsV RX2 120 RX3 yX3_begin zwX3_begin) := goodIn_app (goodIn_r _ [75, 76, 77, 78] rfl (by decide +kernel)) (goodIn_app (goodIn_r _ [79, 80, 81, 82, 83] rfl (by decide +kernel)) (fun w hw => ⟨(List.mem_cons_of_mem _ (List.mem_append_right _ hw)), good_of_word (List.all_eq_true.mp zgX3 w hw)⟩))
set_option maxRecDepth 100000 in
theorem zgX2_readsMember_X4_isSign_47 : GoodIn zwX2_readsMember (wsV RX2 47 RX4 yX4_isSign zwX4_isSign) := goodIn_app (goodIn_r _ [84, 85, 86, 21] rfl (by decide +kernel)) (goodIn_app (goodIn_r _ [87, 25, 28] rfl (by decide +kernel)) (fun w hw => ⟨(List.mem_cons_of_mem _ (List.mem_append_left _ (List.mem_append_left _ (List.mem_append_right _ hw)))), good_of_word (List.all_eq_true.mp zgX4 w hw)⟩))
set_option maxRecDepth 100000 in
theorem zgX2_readsMember_X2_readsField_127 : GoodIn zwX2_readsMember (wsV RX2 127 RX2 yX2_readsField zwX2_readsField) := goodIn_app (goodIn_r _ [88, 89, 90, 15] rfl (by decide +kernel)) (goodIn_app (goodIn_app (goodIn_app (goodIn_app (goodIn_r _ [91, 17, 3, 92, 93, 1, 2, 66, 4, 94, 95, 96, 8, 97, 11, 10, 98, 99, 100, 101, 102, 103, 104, 105, 106, 107, 108, 109, 110, 15, 111, 84, 85, 86, 21, 87, 25, 28, 18, 19, 20, 22, 23, 24, 26, 27, 29, 30, 31, 32, 33, 34, 35, 36, 37, 38, 39, 40, 41, 42, 43, 44, 57, 58, 59, 60, 61, 112, 113, 114, 115, 116, 117, 118, 119] rfl (by decide +kernel)) (fun w hw => ⟨(List.mem_cons_of_mem _ (List.mem_append_left _ (List.mem_append_left _ (List.mem_append_left _ (List.mem_append_right _ hw))))), good_of_word (List.all_eq_true.mp zgX2 w hw)⟩)) (fun w hw => ⟨(List.mem_cons_of_mem _ (List.mem_append_left _ (List.mem_append_right _ hw))), good_of_word (List.all_eq_true.mp zgX0 w hw)⟩)) (fun w hw => ⟨(List.mem_cons_of_mem _ (List.mem_append_right _ hw)), good_of_word (List.all_eq_true.mp zgX3 w hw)⟩)) (fun w hw => ⟨(List.mem_cons_of_mem _ (List.mem_append_left _ (List.mem_append_left _ (List.mem_append_right _ hw)))), good_of_word (List.all_eq_true.mp zgX4 w hw)⟩))
set_option maxRecDepth 100000 in
theorem zgX2_readsMember_X2_readsMethod_124 : GoodIn zwX2_readsMember (wsV RX2 124 RX2 yX2_readsMethod zwX2_readsMethod) := goodIn_app (goodIn_r _ [120, 121, 122, 15] rfl (by decide +kernel)) (goodIn_app (goodIn_app (goodIn_app (goodIn_app (goodIn_r _ [123, 92, 3, 17, 2, 124, 125, 126, 8, 127, 101, 102, 103, 104, 105, 106, 10, 99, 100, 98, 94, 95, 96, 97, 11, 107, 18, 19, 20, 21, 22, 23, 24, 25, 26, 27, 28, 29, 30, 31, 32, 33, 34, 35, 36, 37, 38, 39, 40, 41, 42, 43, 44, 108, 109, 110, 15, 111, 84, 85, 86, 87, 57, 58, 59, 60, 61, 128, 129, 130, 131, 62, 63, 64, 65, 66, 67, 68, 69, 4, 53, 54, 55, 56, 132, 133, 134, 78, 135, 81, 83, 82] rfl (by decide +kernel)) (fun w hw => ⟨(List.mem_cons_of_mem _ (List.mem_append_left _ (List.mem_append_right _ hw))), good_of_word (List.all_eq_true.mp zgX0 w hw)⟩)) (fun w hw => ⟨(List.mem_cons_of_mem _ (List.mem_append_left _ (List.mem_append_left _ (List.mem_append_left _ (List.mem_append_right _ hw))))), good_of_word (List.all_eq_true.mp zgX2 w hw)⟩)) (fun w hw => ⟨(List.mem_cons_of_mem _ (List.mem_append_right _ hw)), good_of_word (List.all_eq_true.mp zgX3 w hw)⟩)) (fun w hw => ⟨(List.mem_cons_of_mem _ (List.mem_append_left _ (List.mem_append_left _ (List.mem_append_right _ hw)))), good_of_word (List.all_eq_true.mp zgX4 w hw)⟩))
set_option maxRecDepth 100000 in
theorem zgX2_readsMember_X2_refuse_67 : GoodIn zwX2_readsMember (wsV RX2 67 RX2 yX2_refuse zwX2_refuse) := goodIn_app (goodIn_r _ [57, 58, 59, 15] rfl (by decide +kernel)) (goodIn_app (goodIn_r _ [60, 61] rfl (by decide +kernel)) (fun w hw => ⟨(List.mem_cons_of_mem _ (List.mem_append_left _ (List.mem_append_left _ (List.mem_append_left _ (List.mem_append_right _ hw))))), good_of_word (List.all_eq_true.mp zgX2 w hw)⟩))
set_option maxRecDepth 100000 in
theorem zgX2_readsMember_X2_markHere_101 : GoodIn zwX2_readsMember (wsV RX2 101 RX2 yX2_markHere zwX2_markHere) := goodIn_app (goodIn_r _ [45, 46, 47, 15] rfl (by decide +kernel)) (goodIn_app (goodIn_app (goodIn_r _ [48, 2, 49, 50, 51, 52, 53, 54, 55, 21, 56, 25, 28] rfl (by decide +kernel)) (fun w hw => ⟨(List.mem_cons_of_mem _ (List.mem_append_left _ (List.mem_append_left _ (List.mem_append_left _ (List.mem_append_right _ hw))))), good_of_word (List.all_eq_true.mp zgX2 w hw)⟩)) (fun w hw => ⟨(List.mem_cons_of_mem _ (List.mem_append_left _ (List.mem_append_left _ (List.mem_append_right _ hw)))), good_of_word (List.all_eq_true.mp zgX4 w hw)⟩))
set_option maxHeartbeats 4000000 in
set_option maxRecDepth 100000 in
theorem kX2_readsMember (l : Launch) (dC : Nat → ClassId) (dI : Nat → Nat → Nat) (bh : Nat) (br : Nat → Nat) (rh : Nat) (th : Nat) (tb : Nat) (sh : Nat) (cI : ClassId) (cJ : ClassId) (cB : ClassId) (cc : Nat) (nA : Nat → Int32) (mA : Nat → Int32) (aA : Nat → Int32) (fcA : Nat → Nat) (fA : Nat → Int32) (mcA : Nat → Nat) (mmA : Nat → Int32) (wA : Nat → Int64) (tcA : Nat → Int32) (g1A : Nat → Int32) (g2A : Nat → Int32) (nuA : Nat → Int32) (erA : Nat → Nat) (reA : Nat → Int32) (liA : Nat → Nat) (lcA : Nat → Nat) (rm : Int32) (ry : Int32) (rf : Int32) (tl : Nat) (ta : Nat) (ts : Int32) (so : Int32) (tv : Int64) (tpA : Nat → Int32) (sw : Int64) (st : Int32) (sf : Int32) (sq : Int32) (hI : kWI cc fcA mcA erA liA lcA tl ta) (hp0 : 1 ≤ cc) (sz : Nat) : Met l yX2_readsMember zwX2_readsMember ({ frames := 4, cells := 0, slots := 0, locals := 86 }) (zPk dC dI [.ref rh, .ref bh] sz (kW bh br rh th tb sh cI cJ cB (nI cc) nA mA aA (fun j => nI (fcA j)) fA (fun j => nI (mcA j)) mmA wA tcA g1A g2A nuA (fun j => nI (erA j)) reA (fun j => nI (liA j)) (fun j => nI (lcA j)) rm ry rf (nI tl) (nI ta) ts so tv tpA sw st sf sq) [(cI, .int), (cJ, .long), (cB, .byte)]) (va_Qi (fun (r : Int32) (u : Nat × Int32 × Int32 × Int64 × Int32 × Int32 × Int32 × Int64 × Int32 × Int32 × Int32 × (Nat → Nat) × (Nat → Int32) × (Nat → Int64) × (Nat → Int32) × (Nat → Int32) × (Nat → Int32) × (Nat → Int32)) => (r = 0 ∨ r = 1) ∧ ((u.1) ≤ tl) ∧ (∀ j, (u.2.2.2.2.2.2.2.2.2.2.2.1) j ≤ 12)) (fun u t => zB dC dI (va_A (kW bh br rh th tb sh cI cJ cB (nI cc) nA mA aA (fun j => nI (fcA j)) fA (fun j => nI (mcA j)) mmA wA tcA g1A g2A nuA (fun j => nI (erA j)) reA (fun j => nI (liA j)) (fun j => nI (lcA j)) rm ry rf (nI tl) (nI ta) ts so tv tpA sw st sf sq) sz) (kW bh br rh th tb sh cI cJ cB (nI cc) nA mA aA (fun j => nI (fcA j)) fA (fun j => nI ((u.2.2.2.2.2.2.2.2.2.2.2.1) j)) (u.2.2.2.2.2.2.2.2.2.2.2.2.1) (u.2.2.2.2.2.2.2.2.2.2.2.2.2.1) (u.2.2.2.2.2.2.2.2.2.2.2.2.2.2.1) (u.2.2.2.2.2.2.2.2.2.2.2.2.2.2.2.1) (u.2.2.2.2.2.2.2.2.2.2.2.2.2.2.2.2.1) (u.2.2.2.2.2.2.2.2.2.2.2.2.2.2.2.2.2) (fun j => nI (erA j)) reA (fun j => nI (liA j)) (fun j => nI (lcA j)) (u.2.2.2.2.2.1) (u.2.2.2.2.2.2.1) (u.2.2.2.2.1) (nI tl) (nI (u.1)) (u.2.1) (u.2.2.1) (u.2.2.2.1) tpA (u.2.2.2.2.2.2.2.1) (u.2.2.2.2.2.2.2.2.1) (u.2.2.2.2.2.2.2.2.2.1) (u.2.2.2.2.2.2.2.2.2.2.1)) [(cI, .int), (cJ, .long), (cB, .byte)] t) (va_A (kW bh br rh th tb sh cI cJ cB (nI cc) nA mA aA (fun j => nI (fcA j)) fA (fun j => nI (mcA j)) mmA wA tcA g1A g2A nuA (fun j => nI (erA j)) reA (fun j => nI (liA j)) (fun j => nI (lcA j)) rm ry rf (nI tl) (nI ta) ts so tv tpA sw st sf sq) sz)) 0 0 (va_A (kW bh br rh th tb sh cI cJ cB (nI cc) nA mA aA (fun j => nI (fcA j)) fA (fun j => nI (mcA j)) mmA wA tcA g1A g2A nuA (fun j => nI (erA j)) reA (fun j => nI (liA j)) (fun j => nI (lcA j)) rm ry rf (nI tl) (nI ta) ts so tv tpA sw st sf sq) sz) := by
  refine Met.ofW (cc := cX2_readsMember) (maxL := 2) (ret := (some .boolean)) (by decide) rfl ?_
  intro p e s m args below meth c s₁ B hml hv
  obtain ⟨rfl, hsz, hP, hK, hD0, hE⟩ := hv
  have hx := B.exec
  have hb := B.bytes
  have hr := B.returns
  have hts := atoms_spec (ws := zwX2_readsMember) B.pre
  have hown : s.vm.findClass RX2 = some m.cls := findClass_of_methodNamed B.named
  have hiX2 : ∀ w ∈ wsX20, w ∈ zwX2_readsMember := (fun w hw => (List.mem_cons_of_mem _ (List.mem_append_left _ (List.mem_append_left _ (List.mem_append_left _ (List.mem_append_right _ hw))))))
  have hiX4 : ∀ w ∈ wsX40, w ∈ zwX2_readsMember := (fun w hw => (List.mem_cons_of_mem _ (List.mem_append_left _ (List.mem_append_left _ (List.mem_append_right _ hw)))))
  obtain ⟨hcc, htl, hta, hfcA, hmcA, herA, hliA, hlcA⟩ := hI
  subst hsz
  have hD := hD0.self (sz := s.heap.size)
  generalize hAe : va_A (kW bh br rh th tb sh cI cJ cB (nI cc) nA mA aA (fun j => nI (fcA j)) fA (fun j => nI (mcA j)) mmA wA tcA g1A g2A nuA (fun j => nI (erA j)) reA (fun j => nI (liA j)) (fun j => nI (lcA j)) rm ry rf (nI tl) (nI ta) ts so tv tpA sw st sf sq) s.heap.size = A at hD ⊢
  have hA : ∀ q : Nat, s.heap.size ≤ q → A q := fun q h => by rw [← hAe]; exact Or.inr h
  have hS : va_S A s.heap s.heap [] := va_S.rf
  have hl := lv_entry ([.ref rh, .ref bh]) (n := 2) (Nat.le_of_ble_eq_true rfl)
  rw [lg_entry_eq]
  generalize (lg_sl ([.ref rh, .ref bh]) ++ List.replicate (2 - (lg_sl ([.ref rh, .ref bh])).length) Slot.unset).toArray = ls at hl ⊢
  have hl : lv_has ls 2 [(0, .ref rh), (1, .ref bh)] := hl
  have J21 : ∀  (H : Heap) (locs : List Loc) (ls : Array Slot), va_P (dC, dI) vwCl (kW bh br rh th tb sh cI cJ cB (nI cc) nA mA aA (fun j => nI (fcA j)) fA (fun j => nI (mcA j)) mmA wA tcA g1A g2A nuA (fun j => nI (erA j)) reA (fun j => nI (liA j)) (fun j => nI (lcA j)) rm ry rf (nI tl) (nI ta) ts so tv tpA sw st sf sq) H → va_D A (kW bh br rh th tb sh cI cJ cB (nI cc) nA mA aA (fun j => nI (fcA j)) fA (fun j => nI (mcA j)) mmA wA tcA g1A g2A nuA (fun j => nI (erA j)) reA (fun j => nI (liA j)) (fun j => nI (lcA j)) rm ry rf (nI tl) (nI ta) ts so tv tpA sw st sf sq) → va_S A s.heap H locs → lv_has ls 2 [(0, .ref rh), (1, .ref bh)] → W p l e (headSpec zwX2_readsMember { frames := 4, cells := 0, slots := 0, locals := 86 }).room s m (([.ref rh, .ref bh] : List Value).toArray) below meth c H locs 0 0 (MQ below (va_Qi (fun (r : Int32) (u : Nat × Int32 × Int32 × Int64 × Int32 × Int32 × Int32 × Int64 × Int32 × Int32 × Int32 × (Nat → Nat) × (Nat → Int32) × (Nat → Int64) × (Nat → Int32) × (Nat → Int32) × (Nat → Int32) × (Nat → Int32)) => (r = 0 ∨ r = 1) ∧ ((u.1) ≤ tl) ∧ (∀ j, (u.2.2.2.2.2.2.2.2.2.2.2.1) j ≤ 12)) (fun u t => zB dC dI (A) (kW bh br rh th tb sh cI cJ cB (nI cc) nA mA aA (fun j => nI (fcA j)) fA (fun j => nI ((u.2.2.2.2.2.2.2.2.2.2.2.1) j)) (u.2.2.2.2.2.2.2.2.2.2.2.2.1) (u.2.2.2.2.2.2.2.2.2.2.2.2.2.1) (u.2.2.2.2.2.2.2.2.2.2.2.2.2.2.1) (u.2.2.2.2.2.2.2.2.2.2.2.2.2.2.2.1) (u.2.2.2.2.2.2.2.2.2.2.2.2.2.2.2.2.1) (u.2.2.2.2.2.2.2.2.2.2.2.2.2.2.2.2.2) (fun j => nI (erA j)) reA (fun j => nI (liA j)) (fun j => nI (lcA j)) (u.2.2.2.2.2.1) (u.2.2.2.2.2.2.1) (u.2.2.2.2.1) (nI tl) (nI (u.1)) (u.2.1) (u.2.2.1) (u.2.2.2.1) tpA (u.2.2.2.2.2.2.2.1) (u.2.2.2.2.2.2.2.2.1) (u.2.2.2.2.2.2.2.2.2.1) (u.2.2.2.2.2.2.2.2.2.2.1)) [(cI, .int), (cJ, .long), (cB, .byte)] t) (A)) (([.ref rh, .ref bh] : List Value).toArray) s 0 0 A) (F0 m 21 ls []) := by
    intro  H locs ls  hP hD hS hl
    refine lv_aload_n hx hb dX2_readsMember_21 rfl (lv_at hl 1 rfl) ?_
    refine vp_callSi (W.runV (As := []) (rest := []) ⟨hx, hb, hml, hown, hts⟩ (kX0_isFilled l dC dI bh br cI cJ cB cc nA mA aA fcA fA mcA mmA wA tcA g1A g2A nuA erA reA liA lcA ⟨by omega, hfcA, hmcA, herA, hliA, hlcA⟩ (by first | omega | assumption | trivial)) (cwV 0 hts zgX2_readsMember_X0_isFilled_107 rfl rfl rfl (by decide +kernel) ⟨(show 0 + 1 ≤ 4 by omega), (show 8 + (1 + 11) + 0 ≤ 86 by omega)⟩) (zVq (ci := 0) (q0 := 0) (q := (RX0, TX0, 17)) hK (hP.sub (ws' := (bW bh br cI cJ cB (nI cc) nA mA aA (fun j => nI (fcA j)) fA (fun j => nI (mcA j)) mmA wA tcA g1A g2A nuA (fun j => nI (erA j)) reA (fun j => nI (liA j)) (fun j => nI (lcA j)))) [0, 1, 2, 3, 4, 5, 6, 7, 8, 9, 10, 11, 12, 13, 14, 15, 16] rfl) hE rfl rfl rfl) rfl rfl hl.1 rfl (lv_room (Nat.le_of_ble_eq_true rfl)) dX2_readsMember_22 ⟨(show 0 + 0 ≤ 0 by omega), (show 0 + 0 ≤ 0 by omega)⟩) (fun r1 hw => ?_)
    have hw : (r1 = 0 ∨ r1 = 1) ∧ (r1 = 0 → mcA (cc - 1) ≤ 11) := hw
    obtain ⟨w0r1, w1r1⟩ := hw
    refine lv_if_eq (tgt := 34) hx hb dX2_readsMember_25 (by decide) (fun cp25 => ?_) (fun cp25 => ?_)
    · have hmf := w1r1 cp25
      refine lv_aload_n hx hb dX2_readsMember_34 rfl (lv_at hl 0 rfl) ?_
      have hFc := z_freeW hD hS hA
      refine va_calli (va_runV (As := []) (rest := []) ⟨hx, hb, hml, hown, hts⟩ (kX2_readsMarks l dC dI bh br rh th tb sh cI cJ cB cc nA mA aA fcA fA mcA mmA wA tcA g1A g2A nuA erA reA liA lcA rm ry rf tl ta ts so tv tpA sw st sf sq ⟨by omega, by omega, by omega, hfcA, hmcA, herA, hliA, hlcA⟩ H.size) (cwV 0 hts zgX2_readsMember_X2_readsMarks_111 rfl rfl rfl (by decide +kernel) ⟨(show 2 + 1 ≤ 4 by omega), (show 8 + (4 + 11) + 42 ≤ 86 by omega)⟩) (zVk (ci := 1) (q0 := 17) (q := (RX2, TX2, 5)) hK hP hD hE rfl rfl rfl) rfl rfl hl.1 rfl (lv_room (Nat.le_of_ble_eq_true rfl)) dX2_readsMember_35 ⟨(show 0 + 0 ≤ 0 by omega), (show 0 + 0 ≤ 0 by omega)⟩) hS (fun q _ h => hFc q h) hFc (fun r2 u9 t H1 locs ht hvm hw hB hz1 hk1 hS => ?_)
      obtain ⟨o3, o4, o5, o6, o7, o8⟩ := u9
      obtain ⟨hP, hK9, hD⟩ := hB
      rw [ht] at hP
      have hD := hD.weaken (fun k q _ h => hFc q.1 h)
      generalize H1 = H at hP hS
      have hP : va_P (dC, dI) vwCl (kW bh br rh th tb sh cI cJ cB (nI cc) nA mA aA (fun j => nI (fcA j)) fA (fun j => nI (mcA j)) mmA wA tcA g1A g2A nuA (fun j => nI (erA j)) reA (fun j => nI (liA j)) (fun j => nI (lcA j)) o8 ry o7 (nI tl) (nI o3) o4 o5 o6 tpA sw st sf sq) H := hP
      have hD : va_D A (kW bh br rh th tb sh cI cJ cB (nI cc) nA mA aA (fun j => nI (fcA j)) fA (fun j => nI (mcA j)) mmA wA tcA g1A g2A nuA (fun j => nI (erA j)) reA (fun j => nI (liA j)) (fun j => nI (lcA j)) o8 ry o7 (nI tl) (nI o3) o4 o5 o6 tpA sw st sf sq) := hD
      have hw : (r2 = 0 ∨ r2 = 1) ∧ (o3 ≤ tl) := hw
      obtain ⟨w0r2, w1r2⟩ := hw
      refine lv_if_ne (tgt := 43) hx hb dX2_readsMember_38 (by decide) (fun cp38 => ?_) (fun cp38 => ?_)
      · refine lv_aload_n hx hb dX2_readsMember_43 rfl (lv_at hl 0 rfl) ?_
        refine lv_aload_n hx hb dX2_readsMember_44 rfl (lv_at hl 0 rfl) ?_
        refine vp_callSi (W.runV (As := []) (rest := [.ref rh]) ⟨hx, hb, hml, hown, hts⟩ (kX2_typeHere l dC dI rh th tb sh cI cJ cB o8 ry o7 tl o3 o4 o5 o6 tpA sw st sf sq ⟨by omega, by omega⟩) (cwV 0 hts zgX2_readsMember_X2_typeHere_104 rfl rfl rfl (by decide +kernel) ⟨(show 1 + 1 ≤ 4 by omega), (show 8 + (1 + 11) + 22 ≤ 86 by omega)⟩) (zVq (ci := 1) (q0 := 0) (q := (RX2, TX2, 5)) hK (hP.sub (ws' := (rdW rh th tb sh cI cJ cB o8 ry o7 (nI tl) (nI o3) o4 o5 o6 tpA sw st sf sq)) [17, 18, 19, 20] rfl) hE rfl rfl rfl) rfl rfl hl.1 rfl (lv_room (Nat.le_of_ble_eq_true rfl)) dX2_readsMember_45 ⟨(show 0 + 0 ≤ 0 by omega), (show 0 + 0 ≤ 0 by omega)⟩) (fun r10 hw => ?_)
        have hw : (True) := hw
        have w0r10 := hw
        refine va_put (D := (dC, dI)) (ci := 1) (v := .int r10) (ty := (.int)) (C := RX2) (T := TX2) (N := 5) hx hb hts hiX2 tyX2 tyX2_ok nmX2 hown hK hP hD hS 17 rfl rfl 3 (by decide) (hts (.fieldLink RX2 114 "LinkModels$Reader" "type" "I") (by decide +kernel)) (fun _ h9 => h9) rfl (by decide +kernel) rfl rfl (Nat.le_of_ble_eq_true rfl) dX2_readsMember_48 (fun H locs hP hD hS => ?_)
        have hP : va_P (dC, dI) vwCl (kW bh br rh th tb sh cI cJ cB (nI cc) nA mA aA (fun j => nI (fcA j)) fA (fun j => nI (mcA j)) mmA wA tcA g1A g2A nuA (fun j => nI (erA j)) reA (fun j => nI (liA j)) (fun j => nI (lcA j)) o8 r10 o7 (nI tl) (nI o3) o4 o5 o6 tpA sw st sf sq) H := hP
        have hD : va_D A (kW bh br rh th tb sh cI cJ cB (nI cc) nA mA aA (fun j => nI (fcA j)) fA (fun j => nI (mcA j)) mmA wA tcA g1A g2A nuA (fun j => nI (erA j)) reA (fun j => nI (liA j)) (fun j => nI (lcA j)) o8 r10 o7 (nI tl) (nI o3) o4 o5 o6 tpA sw st sf sq) := hD
        refine lv_aload_n hx hb dX2_readsMember_51 rfl (lv_at hl 0 rfl) ?_
        refine va_get (D := (dC, dI)) (ci := 1) (v := .int r10) (C := RX2) (T := TX2) (N := 5) hx hb hts hiX2 hown hK hP 17 rfl rfl 3 (by decide) (hts (.fieldLink RX2 114 "LinkModels$Reader" "type" "I") (by decide +kernel)) (fun _ h9 => h9) rfl dX2_readsMember_52 ?_
        refine lv_iconst (v := (-1)) hx hb dX2_readsMember_55 (by decide) ?_
        refine lv_icmp_ne (tgt := 65) hx hb dX2_readsMember_56 (by decide) (fun cp56 => ?_) (fun cp56 => ?_)
        · refine lv_aload_n hx hb dX2_readsMember_65 rfl (lv_at hl 0 rfl) ?_
          refine va_get (D := (dC, dI)) (ci := 1) (v := .ref th) (C := RX2) (T := TX2) (N := 5) hx hb hts hiX2 hown hK hP 17 rfl rfl 0 (by decide) (hts (.fieldLink RX2 14 "LinkModels$Reader" "tokens" "LLinkModels$Tokens;") (by decide +kernel)) (fun _ h9 => h9) rfl dX2_readsMember_66 ?_
          have hFc := z_freeW hD hS hA
          refine va_callv (va_runV (As := []) (rest := []) ⟨hx, hb, hml, hown, hts⟩ (kX4_step l dC dI bh br rh th tb sh cI cJ cB cc nA mA aA fcA fA mcA mmA wA tcA g1A g2A nuA erA reA liA lcA o8 r10 o7 tl o3 o4 o5 o6 tpA sw st sf sq ⟨by omega, by omega, by omega, hfcA, hmcA, herA, hliA, hlcA⟩ H.size) (cwV 0 hts zgX2_readsMember_X4_step_54 rfl rfl rfl (by decide +kernel) ⟨(show 1 + 1 ≤ 4 by omega), (show 8 + (2 + 11) + 21 ≤ 86 by omega)⟩) (zVk (ci := 3) (q0 := 18) (q := (RX4, TX4, 6)) hK hP hD hE rfl rfl rfl) rfl rfl hl.1 rfl (lv_room (Nat.le_of_ble_eq_true rfl)) dX2_readsMember_69 ⟨(show 0 + 0 ≤ 0 by omega), (show 0 + 0 ≤ 0 by omega)⟩) hS (fun q _ h => hFc q h) hFc (fun u16 t H1 locs ht hvm hw hB hz1 hk1 hS => ?_)
          obtain ⟨o12, o13, o14, o15⟩ := u16
          obtain ⟨hP, hK9, hD⟩ := hB
          rw [ht] at hP
          have hD := hD.weaken (fun k q _ h => hFc q.1 h)
          generalize H1 = H at hP hS
          have hP : va_P (dC, dI) vwCl (kW bh br rh th tb sh cI cJ cB (nI cc) nA mA aA (fun j => nI (fcA j)) fA (fun j => nI (mcA j)) mmA wA tcA g1A g2A nuA (fun j => nI (erA j)) reA (fun j => nI (liA j)) (fun j => nI (lcA j)) o8 r10 o7 (nI tl) (nI o12) o13 o14 o15 tpA sw st sf sq) H := hP
          have hD : va_D A (kW bh br rh th tb sh cI cJ cB (nI cc) nA mA aA (fun j => nI (fcA j)) fA (fun j => nI (mcA j)) mmA wA tcA g1A g2A nuA (fun j => nI (erA j)) reA (fun j => nI (liA j)) (fun j => nI (lcA j)) o8 r10 o7 (nI tl) (nI o12) o13 o14 o15 tpA sw st sf sq) := hD
          have hw : (o3 ≤ o12) ∧ (o12 ≤ tl) := hw
          obtain ⟨w0r11, w1r11⟩ := hw
          refine lv_aload_n hx hb dX2_readsMember_72 rfl (lv_at hl 0 rfl) ?_
          refine vp_callSi (W.runV (As := []) (rest := []) ⟨hx, hb, hml, hown, hts⟩ (kX2_isMemberWordHere l dC dI rh th tb sh cI cJ cB o8 r10 o7 tl o12 o13 o14 o15 tpA sw st sf sq ⟨by omega, by omega⟩) (cwV 0 hts zgX2_readsMember_X2_isMemberWordHere_117 rfl rfl rfl (by decide +kernel) ⟨(show 2 + 1 ≤ 4 by omega), (show 8 + (1 + 11) + 42 ≤ 86 by omega)⟩) (zVq (ci := 1) (q0 := 0) (q := (RX2, TX2, 5)) hK (hP.sub (ws' := (rdW rh th tb sh cI cJ cB o8 r10 o7 (nI tl) (nI o12) o13 o14 o15 tpA sw st sf sq)) [17, 18, 19, 20] rfl) hE rfl rfl rfl) rfl rfl hl.1 rfl (lv_room (Nat.le_of_ble_eq_true rfl)) dX2_readsMember_73 ⟨(show 0 + 0 ≤ 0 by omega), (show 0 + 0 ≤ 0 by omega)⟩) (fun r17 hw => ?_)
          have hw : (r17 = 0 ∨ r17 = 1) := hw
          have w0r17 := hw
          refine lv_if_ne (tgt := 85) hx hb dX2_readsMember_76 (by decide) (fun cp76 => ?_) (fun cp76 => ?_)
          · refine lv_aload_n hx hb dX2_readsMember_85 rfl (lv_at hl 0 rfl) ?_
            refine va_get (D := (dC, dI)) (ci := 1) (v := .ref sh) (C := RX2) (T := TX2) (N := 5) hx hb hts hiX2 hown hK hP 17 rfl rfl 1 (by decide) (hts (.fieldLink RX2 23 "LinkModels$Reader" "signature" "LLinkModels$Signature;") (by decide +kernel)) (fun _ h9 => h9) rfl dX2_readsMember_86 ?_
            refine lv_aload_n hx hb dX2_readsMember_89 rfl (lv_at hl 0 rfl) ?_
            refine va_get (D := (dC, dI)) (ci := 1) (v := .ref th) (C := RX2) (T := TX2) (N := 5) hx hb hts hiX2 hown hK hP 17 rfl rfl 0 (by decide) (hts (.fieldLink RX2 14 "LinkModels$Reader" "tokens" "LLinkModels$Tokens;") (by decide +kernel)) (fun _ h9 => h9) rfl dX2_readsMember_90 ?_
            refine va_get (D := (dC, dI)) (ci := 3) (v := .long o15) (C := RX4) (T := TX4) (N := 6) hx hb hts hiX4 hown hK hP 18 rfl rfl 5 (by decide) (hts (.fieldLink RX2 74 "LinkModels$Tokens" "value" "J") (by decide +kernel)) (fun _ h9 => h9) rfl dX2_readsMember_93 ?_
            have hPc := hP.sub (ws' := (sgW sh cI cJ cB sw st sf sq)) [20] rfl
            have hDc := hD.sub (ws' := (sgW sh cI cJ cB sw st sf sq)) [20] (by decide) rfl
            have hFc := va_free (wc := (sgW sh cI cJ cB sw st sf sq)) hD hS hA [20] rfl
            refine va_callv (va_runV (As := [.long o15]) (rest := []) ⟨hx, hb, hml, hown, hts⟩ (kX3_begin l dC dI sh cI cJ cB sw st sf sq o15 H.size) (cwV 1 hts zgX2_readsMember_X3_begin_120 rfl rfl rfl (by decide +kernel) ⟨(show 0 + 1 ≤ 4 by omega), (show 8 + (3 + 11) + 0 ≤ 86 by omega)⟩) (zVk (ci := 2) (q0 := 0) (q := (RX3, TX3, 4)) hK hPc hDc hE rfl rfl rfl) rfl rfl hl.1 rfl (lv_room (Nat.le_of_ble_eq_true rfl)) dX2_readsMember_96 ⟨(show 0 + 0 ≤ 0 by omega), (show 0 + 0 ≤ 0 by omega)⟩) hS (fun q _ h => hFc q h) hFc (fun u23 t H1 locs ht hvm hw hB hz1 hk1 hS => ?_)
            obtain ⟨o19, o20, o21, o22⟩ := u23
            obtain ⟨hP1, hK9, hD1⟩ := hB
            rw [ht] at hP1
            obtain ⟨hP, hD⟩ := va_join (wr := [(bh, .inr (0, [.int (nI cc), .ref (br 1), .ref (br 2), .ref (br 3), .ref (br 4), .ref (br 5), .ref (br 6), .ref (br 7), .ref (br 8), .ref (br 9), .ref (br 10), .ref (br 11), .ref (br 12), .ref (br 13), .ref (br 14), .ref (br 15), .ref (br 16)])), (br 1, .inl (cI, 16, .inl nA)), (br 2, .inl (cI, 16, .inl mA)), (br 3, .inl (cI, 16, .inl aA)), (br 4, .inl (cI, 16, .inl (fun j => nI (fcA j)))), (br 5, .inl (cI, 48, .inl fA)), (br 6, .inl (cI, 16, .inl (fun j => nI (mcA j)))), (br 7, .inl (cI, 208, .inl mmA)), (br 8, .inl (cJ, 208, .inr (.inl wA))), (br 9, .inl (cI, 208, .inl tcA)), (br 10, .inl (cI, 208, .inl g1A)), (br 11, .inl (cI, 208, .inl g2A)), (br 12, .inl (cI, 208, .inl nuA)), (br 13, .inl (cI, 16, .inl (fun j => nI (erA j)))), (br 14, .inl (cI, 16, .inl reA)), (br 15, .inl (cI, 256, .inl (fun j => nI (liA j)))), (br 16, .inl (cI, 16, .inl (fun j => nI (lcA j)))), (rh, .inr (1, [.ref th, .ref sh, .int o8, .int r10, .int o7])), (th, .inr (3, [.ref tb, .int (nI tl), .int (nI o12), .int o13, .int o14, .long o15])), (tb, .inl (cB, 800, .inl tpA))]) (w1 := (sgW sh cI cJ cB o19 o20 o21 o22)) hP hD [20] [0, 1, 2, 3, 4, 5, 6, 7, 8, 9, 10, 11, 12, 13, 14, 15, 16, 17, 18, 19] rfl rfl (by decide) (by decide) hk1 hFc hP1 hD1
            have hP := hP.sub (ws' := (kW bh br rh th tb sh cI cJ cB (nI cc) nA mA aA (fun j => nI (fcA j)) fA (fun j => nI (mcA j)) mmA wA tcA g1A g2A nuA (fun j => nI (erA j)) reA (fun j => nI (liA j)) (fun j => nI (lcA j)) o8 r10 o7 (nI tl) (nI o12) o13 o14 o15 tpA o19 o20 o21 o22)) [0, 1, 2, 3, 4, 5, 6, 7, 8, 9, 10, 11, 12, 13, 14, 15, 16, 17, 18, 19, 20] rfl
            have hD := hD.sub (ws' := (kW bh br rh th tb sh cI cJ cB (nI cc) nA mA aA (fun j => nI (fcA j)) fA (fun j => nI (mcA j)) mmA wA tcA g1A g2A nuA (fun j => nI (erA j)) reA (fun j => nI (liA j)) (fun j => nI (lcA j)) o8 r10 o7 (nI tl) (nI o12) o13 o14 o15 tpA o19 o20 o21 o22)) [0, 1, 2, 3, 4, 5, 6, 7, 8, 9, 10, 11, 12, 13, 14, 15, 16, 17, 18, 19, 20] (by decide) rfl
            generalize H1 = H at hP hS
            have hw : (True) := hw
            have w0r18 := hw
            refine lv_aload_n hx hb dX2_readsMember_99 rfl (lv_at hl 0 rfl) ?_
            refine va_get (D := (dC, dI)) (ci := 1) (v := .ref th) (C := RX2) (T := TX2) (N := 5) hx hb hts hiX2 hown hK hP 17 rfl rfl 0 (by decide) (hts (.fieldLink RX2 14 "LinkModels$Reader" "tokens" "LLinkModels$Tokens;") (by decide +kernel)) (fun _ h9 => h9) rfl dX2_readsMember_100 ?_
            have hFc := z_freeW hD hS hA
            refine va_callv (va_runV (As := []) (rest := []) ⟨hx, hb, hml, hown, hts⟩ (kX4_step l dC dI bh br rh th tb sh cI cJ cB cc nA mA aA fcA fA mcA mmA wA tcA g1A g2A nuA erA reA liA lcA o8 r10 o7 tl o12 o13 o14 o15 tpA o19 o20 o21 o22 ⟨by omega, by omega, by omega, hfcA, hmcA, herA, hliA, hlcA⟩ H.size) (cwV 0 hts zgX2_readsMember_X4_step_54 rfl rfl rfl (by decide +kernel) ⟨(show 1 + 1 ≤ 4 by omega), (show 8 + (2 + 11) + 21 ≤ 86 by omega)⟩) (zVk (ci := 3) (q0 := 18) (q := (RX4, TX4, 6)) hK hP hD hE rfl rfl rfl) rfl rfl hl.1 rfl (lv_room (Nat.le_of_ble_eq_true rfl)) dX2_readsMember_103 ⟨(show 0 + 0 ≤ 0 by omega), (show 0 + 0 ≤ 0 by omega)⟩) hS (fun q _ h => hFc q h) hFc (fun u29 t H1 locs ht hvm hw hB hz1 hk1 hS => ?_)
            obtain ⟨o25, o26, o27, o28⟩ := u29
            obtain ⟨hP, hK9, hD⟩ := hB
            rw [ht] at hP
            have hD := hD.weaken (fun k q _ h => hFc q.1 h)
            generalize H1 = H at hP hS
            have hP : va_P (dC, dI) vwCl (kW bh br rh th tb sh cI cJ cB (nI cc) nA mA aA (fun j => nI (fcA j)) fA (fun j => nI (mcA j)) mmA wA tcA g1A g2A nuA (fun j => nI (erA j)) reA (fun j => nI (liA j)) (fun j => nI (lcA j)) o8 r10 o7 (nI tl) (nI o25) o26 o27 o28 tpA o19 o20 o21 o22) H := hP
            have hD : va_D A (kW bh br rh th tb sh cI cJ cB (nI cc) nA mA aA (fun j => nI (fcA j)) fA (fun j => nI (mcA j)) mmA wA tcA g1A g2A nuA (fun j => nI (erA j)) reA (fun j => nI (liA j)) (fun j => nI (lcA j)) o8 r10 o7 (nI tl) (nI o25) o26 o27 o28 tpA o19 o20 o21 o22) := hD
            have hw : (o12 ≤ o25) ∧ (o25 ≤ tl) := hw
            obtain ⟨w0r24, w1r24⟩ := hw
            refine lv_aload_n hx hb dX2_readsMember_106 rfl (lv_at hl 0 rfl) ?_
            refine va_get (D := (dC, dI)) (ci := 1) (v := .ref th) (C := RX2) (T := TX2) (N := 5) hx hb hts hiX2 hown hK hP 17 rfl rfl 0 (by decide) (hts (.fieldLink RX2 14 "LinkModels$Reader" "tokens" "LLinkModels$Tokens;") (by decide +kernel)) (fun _ h9 => h9) rfl dX2_readsMember_107 ?_
            refine lv_bipush (v := 40) hx hb dX2_readsMember_110 (by decide) ?_
            refine vp_callSi (W.runV (As := [.int 40]) (rest := []) ⟨hx, hb, hml, hown, hts⟩ (kX4_isSign l dC dI rh th tb sh cI cJ cB o8 r10 o7 tl o25 o26 o27 o28 tpA o19 o20 o21 o22 ⟨by omega, by omega⟩ (40 : Int32)) (cwV 1 hts zgX2_readsMember_X4_isSign_47 rfl rfl rfl (by decide +kernel) ⟨(show 0 + 1 ≤ 4 by omega), (show 8 + (2 + 11) + 0 ≤ 86 by omega)⟩) (zVq (ci := 3) (q0 := 1) (q := (RX4, TX4, 6)) hK (hP.sub (ws' := (rdW rh th tb sh cI cJ cB o8 r10 o7 (nI tl) (nI o25) o26 o27 o28 tpA o19 o20 o21 o22)) [17, 18, 19, 20] rfl) hE rfl rfl rfl) rfl rfl hl.1 rfl (lv_room (Nat.le_of_ble_eq_true rfl)) dX2_readsMember_112 ⟨(show 0 + 0 ≤ 0 by omega), (show 0 + 0 ≤ 0 by omega)⟩) (fun r30 hw => ?_)
            have hw : (r30 = 0 ∨ r30 = 1) := hw
            have w0r30 := hw
            refine lv_if_eq (tgt := 126) hx hb dX2_readsMember_115 (by decide) (fun cp115 => ?_) (fun cp115 => ?_)
            · refine lv_aload_n hx hb dX2_readsMember_126 rfl (lv_at hl 0 rfl) ?_
              refine lv_aload_n hx hb dX2_readsMember_127 rfl (lv_at hl 1 rfl) ?_
              have hFc := z_freeW hD hS hA
              refine va_calli (va_runV (As := [.ref bh]) (rest := []) ⟨hx, hb, hml, hown, hts⟩ (kX2_readsField l dC dI bh br rh th tb sh cI cJ cB cc nA mA aA fcA fA mcA mmA wA tcA g1A g2A nuA erA reA liA lcA o8 r10 o7 tl o25 o26 o27 o28 tpA o19 o20 o21 o22 ⟨by omega, by omega, by omega, hfcA, hmcA, herA, hliA, hlcA⟩ (by first | omega | assumption | trivial) (by first | omega | assumption | trivial) H.size) (cwV 1 hts zgX2_readsMember_X2_readsField_127 rfl rfl rfl (by decide +kernel) ⟨(show 3 + 1 ≤ 4 by omega), (show 8 + (4 + 11) + 63 ≤ 86 by omega)⟩) (zVk (ci := 1) (q0 := 17) (q := (RX2, TX2, 5)) hK hP hD hE rfl rfl rfl) rfl rfl hl.1 rfl (lv_room (Nat.le_of_ble_eq_true rfl)) dX2_readsMember_128 ⟨(show 0 + 0 ≤ 0 by omega), (show 0 + 0 ≤ 0 by omega)⟩) hS (fun q _ h => hFc q h) hFc (fun r31 u45 t H1 locs ht hvm hw hB hz1 hk1 hS => ?_)
              obtain ⟨o32, o33, o34, o35, o36, o37, o38, o39, o40, o41, o42, o43, o44⟩ := u45
              obtain ⟨hP, hK9, hD⟩ := hB
              rw [ht] at hP
              have hD := hD.weaken (fun k q _ h => hFc q.1 h)
              generalize H1 = H at hP hS
              have hP : va_P (dC, dI) vwCl (kW bh br rh th tb sh cI cJ cB (nI cc) nA mA aA (fun j => nI (fcA j)) fA (fun j => nI (o38 j)) o39 o40 o41 o42 o43 o44 (fun j => nI (erA j)) reA (fun j => nI (liA j)) (fun j => nI (lcA j)) o37 r10 o36 (nI tl) (nI o32) o33 o34 o35 tpA o19 o20 o21 o22) H := hP
              have hD : va_D A (kW bh br rh th tb sh cI cJ cB (nI cc) nA mA aA (fun j => nI (fcA j)) fA (fun j => nI (o38 j)) o39 o40 o41 o42 o43 o44 (fun j => nI (erA j)) reA (fun j => nI (liA j)) (fun j => nI (lcA j)) o37 r10 o36 (nI tl) (nI o32) o33 o34 o35 tpA o19 o20 o21 o22) := hD
              have hw : (r31 = 0 ∨ r31 = 1) ∧ (o32 ≤ tl) ∧ (∀ j, o38 j ≤ 12) := hw
              obtain ⟨w0r31, w1r31, hbo38⟩ := hw
              have hP9 : va_P (dC, dI) vwCl (kW bh br rh th tb sh cI cJ cB (nI cc) nA mA aA (fun j => nI (fcA j)) fA (fun j => nI (o38 j)) o39 o40 o41 o42 o43 o44 (fun j => nI (erA j)) reA (fun j => nI (liA j)) (fun j => nI (lcA j)) o37 r10 o36 (nI tl) (nI o32) o33 o34 o35 tpA o19 o20 o21 o22) H := hP
              have hD9 : va_D A (kW bh br rh th tb sh cI cJ cB (nI cc) nA mA aA (fun j => nI (fcA j)) fA (fun j => nI (o38 j)) o39 o40 o41 o42 o43 o44 (fun j => nI (erA j)) reA (fun j => nI (liA j)) (fun j => nI (lcA j)) o37 r10 o36 (nI tl) (nI o32) o33 o34 o35 tpA o19 o20 o21 o22) := hD
              exact W.zret (v := r31) hx hb hr (z_nb w0r31) (fun t ht hW => ⟨⟨r31, (o32, o33, o34, o35, o36, o37, r10, o19, o20, o21, o22, o38, o39, o40, o41, o42, o43, o44), rfl, ⟨w0r31, (show o32 ≤ tl from (by first | omega | assumption | trivial)), hbo38⟩, by rw [ht]; exact hP9, va_K.moved hW.alike hK, hD9⟩, hS.F ht⟩) hS.2.2 dX2_readsMember_131
            · refine lv_aload_n hx hb dX2_readsMember_118 rfl (lv_at hl 0 rfl) ?_
              refine lv_aload_n hx hb dX2_readsMember_119 rfl (lv_at hl 1 rfl) ?_
              have hFc := z_freeW hD hS hA
              refine va_calli (va_runV (As := [.ref bh]) (rest := []) ⟨hx, hb, hml, hown, hts⟩ (kX2_readsMethod l dC dI bh br rh th tb sh cI cJ cB cc nA mA aA fcA fA mcA mmA wA tcA g1A g2A nuA erA reA liA lcA o8 r10 o7 tl o25 o26 o27 o28 tpA o19 o20 o21 o22 ⟨by omega, by omega, by omega, hfcA, hmcA, herA, hliA, hlcA⟩ (by first | omega | assumption | trivial) (by first | omega | assumption | trivial) H.size) (cwV 1 hts zgX2_readsMember_X2_readsMethod_124 rfl rfl rfl (by decide +kernel) ⟨(show 3 + 1 ≤ 4 by omega), (show 8 + (2 + 11) + 65 ≤ 86 by omega)⟩) (zVk (ci := 1) (q0 := 17) (q := (RX2, TX2, 5)) hK hP hD hE rfl rfl rfl) rfl rfl hl.1 rfl (lv_room (Nat.le_of_ble_eq_true rfl)) dX2_readsMember_120 ⟨(show 0 + 0 ≤ 0 by omega), (show 0 + 0 ≤ 0 by omega)⟩) hS (fun q _ h => hFc q h) hFc (fun r46 u62 t H1 locs ht hvm hw hB hz1 hk1 hS => ?_)
              obtain ⟨o47, o48, o49, o50, o51, o52, o53, o54, o55, o56, o57, o58, o59, o60, o61⟩ := u62
              obtain ⟨hP, hK9, hD⟩ := hB
              rw [ht] at hP
              have hD := hD.weaken (fun k q _ h => hFc q.1 h)
              generalize H1 = H at hP hS
              have hP : va_P (dC, dI) vwCl (kW bh br rh th tb sh cI cJ cB (nI cc) nA mA aA (fun j => nI (fcA j)) fA (fun j => nI (o55 j)) o56 o57 o58 o59 o60 o61 (fun j => nI (erA j)) reA (fun j => nI (liA j)) (fun j => nI (lcA j)) o8 r10 o51 (nI tl) (nI o47) o48 o49 o50 tpA o19 o52 o53 o54) H := hP
              have hD : va_D A (kW bh br rh th tb sh cI cJ cB (nI cc) nA mA aA (fun j => nI (fcA j)) fA (fun j => nI (o55 j)) o56 o57 o58 o59 o60 o61 (fun j => nI (erA j)) reA (fun j => nI (liA j)) (fun j => nI (lcA j)) o8 r10 o51 (nI tl) (nI o47) o48 o49 o50 tpA o19 o52 o53 o54) := hD
              have hw : (r46 = 0 ∨ r46 = 1) ∧ (o47 ≤ tl) ∧ (∀ j, o55 j ≤ 12) := hw
              obtain ⟨w0r46, w1r46, hbo55⟩ := hw
              refine lv_goto (tgt := 131) hx hb dX2_readsMember_123 (by decide) ?_
              have hP9 : va_P (dC, dI) vwCl (kW bh br rh th tb sh cI cJ cB (nI cc) nA mA aA (fun j => nI (fcA j)) fA (fun j => nI (o55 j)) o56 o57 o58 o59 o60 o61 (fun j => nI (erA j)) reA (fun j => nI (liA j)) (fun j => nI (lcA j)) o8 r10 o51 (nI tl) (nI o47) o48 o49 o50 tpA o19 o52 o53 o54) H := hP
              have hD9 : va_D A (kW bh br rh th tb sh cI cJ cB (nI cc) nA mA aA (fun j => nI (fcA j)) fA (fun j => nI (o55 j)) o56 o57 o58 o59 o60 o61 (fun j => nI (erA j)) reA (fun j => nI (liA j)) (fun j => nI (lcA j)) o8 r10 o51 (nI tl) (nI o47) o48 o49 o50 tpA o19 o52 o53 o54) := hD
              exact W.zret (v := r46) hx hb hr (z_nb w0r46) (fun t ht hW => ⟨⟨r46, (o47, o48, o49, o50, o51, o8, r10, o19, o52, o53, o54, o55, o56, o57, o58, o59, o60, o61), rfl, ⟨w0r46, (show o47 ≤ tl from (by first | omega | assumption | trivial)), hbo55⟩, by rw [ht]; exact hP9, va_K.moved hW.alike hK, hD9⟩, hS.F ht⟩) hS.2.2 dX2_readsMember_131
          · refine lv_aload_n hx hb dX2_readsMember_79 rfl (lv_at hl 0 rfl) ?_
            refine lv_iconst (v := 1) hx hb dX2_readsMember_80 (by decide) ?_
            have hFc := z_freeW hD hS hA
            refine va_calli (va_runV (As := [.int 1]) (rest := []) ⟨hx, hb, hml, hown, hts⟩ (kX2_refuse l dC dI bh br rh th tb sh cI cJ cB cc nA mA aA fcA fA mcA mmA wA tcA g1A g2A nuA erA reA liA lcA o8 r10 o7 tl o12 o13 o14 o15 tpA sw st sf sq ⟨by omega, by omega, by omega, hfcA, hmcA, herA, hliA, hlcA⟩ (1 : Int32) H.size) (cwV 1 hts zgX2_readsMember_X2_refuse_67 rfl rfl rfl (by decide +kernel) ⟨(show 0 + 1 ≤ 4 by omega), (show 8 + (2 + 11) + 0 ≤ 86 by omega)⟩) (zVk (ci := 1) (q0 := 17) (q := (RX2, TX2, 5)) hK hP hD hE rfl rfl rfl) rfl rfl hl.1 rfl (lv_room (Nat.le_of_ble_eq_true rfl)) dX2_readsMember_81 ⟨(show 0 + 0 ≤ 0 by omega), (show 0 + 0 ≤ 0 by omega)⟩) hS (fun q _ h => hFc q h) hFc (fun r63 o64 t H1 locs ht hvm hw hB hz1 hk1 hS => ?_)
            obtain ⟨hP, hK9, hD⟩ := hB
            rw [ht] at hP
            have hD := hD.weaken (fun k q _ h => hFc q.1 h)
            generalize H1 = H at hP hS
            have hP : va_P (dC, dI) vwCl (kW bh br rh th tb sh cI cJ cB (nI cc) nA mA aA (fun j => nI (fcA j)) fA (fun j => nI (mcA j)) mmA wA tcA g1A g2A nuA (fun j => nI (erA j)) reA (fun j => nI (liA j)) (fun j => nI (lcA j)) o8 r10 o64 (nI tl) (nI o12) o13 o14 o15 tpA sw st sf sq) H := hP
            have hD : va_D A (kW bh br rh th tb sh cI cJ cB (nI cc) nA mA aA (fun j => nI (fcA j)) fA (fun j => nI (mcA j)) mmA wA tcA g1A g2A nuA (fun j => nI (erA j)) reA (fun j => nI (liA j)) (fun j => nI (lcA j)) o8 r10 o64 (nI tl) (nI o12) o13 o14 o15 tpA sw st sf sq) := hD
            have hw : (r63 = 0 ∨ r63 = 1) ∧ (r63 = 0) := hw
            obtain ⟨w0r63, w1r63⟩ := hw
            subst w1r63
            have hP9 : va_P (dC, dI) vwCl (kW bh br rh th tb sh cI cJ cB (nI cc) nA mA aA (fun j => nI (fcA j)) fA (fun j => nI (mcA j)) mmA wA tcA g1A g2A nuA (fun j => nI (erA j)) reA (fun j => nI (liA j)) (fun j => nI (lcA j)) o8 r10 o64 (nI tl) (nI o12) o13 o14 o15 tpA sw st sf sq) H := hP
            have hD9 : va_D A (kW bh br rh th tb sh cI cJ cB (nI cc) nA mA aA (fun j => nI (fcA j)) fA (fun j => nI (mcA j)) mmA wA tcA g1A g2A nuA (fun j => nI (erA j)) reA (fun j => nI (liA j)) (fun j => nI (lcA j)) o8 r10 o64 (nI tl) (nI o12) o13 o14 o15 tpA sw st sf sq) := hD
            exact W.zret (v := (0 : Int32)) hx hb hr rfl (fun t ht hW => ⟨⟨(0 : Int32), (o12, o13, o14, o15, o64, o8, r10, sw, st, sf, sq, mcA, mmA, wA, tcA, g1A, g2A, nuA), rfl, ⟨(Or.inl rfl), (show o12 ≤ tl from (by first | omega | assumption | trivial)), hmcA⟩, by rw [ht]; exact hP9, va_K.moved hW.alike hK, hD9⟩, hS.F ht⟩) hS.2.2 dX2_readsMember_84
        · refine lv_aload_n hx hb dX2_readsMember_59 rfl (lv_at hl 0 rfl) ?_
          refine lv_iconst (v := 1) hx hb dX2_readsMember_60 (by decide) ?_
          have hFc := z_freeW hD hS hA
          refine va_calli (va_runV (As := [.int 1]) (rest := []) ⟨hx, hb, hml, hown, hts⟩ (kX2_refuse l dC dI bh br rh th tb sh cI cJ cB cc nA mA aA fcA fA mcA mmA wA tcA g1A g2A nuA erA reA liA lcA o8 r10 o7 tl o3 o4 o5 o6 tpA sw st sf sq ⟨by omega, by omega, by omega, hfcA, hmcA, herA, hliA, hlcA⟩ (1 : Int32) H.size) (cwV 1 hts zgX2_readsMember_X2_refuse_67 rfl rfl rfl (by decide +kernel) ⟨(show 0 + 1 ≤ 4 by omega), (show 8 + (2 + 11) + 0 ≤ 86 by omega)⟩) (zVk (ci := 1) (q0 := 17) (q := (RX2, TX2, 5)) hK hP hD hE rfl rfl rfl) rfl rfl hl.1 rfl (lv_room (Nat.le_of_ble_eq_true rfl)) dX2_readsMember_61 ⟨(show 0 + 0 ≤ 0 by omega), (show 0 + 0 ≤ 0 by omega)⟩) hS (fun q _ h => hFc q h) hFc (fun r65 o66 t H1 locs ht hvm hw hB hz1 hk1 hS => ?_)
          obtain ⟨hP, hK9, hD⟩ := hB
          rw [ht] at hP
          have hD := hD.weaken (fun k q _ h => hFc q.1 h)
          generalize H1 = H at hP hS
          have hP : va_P (dC, dI) vwCl (kW bh br rh th tb sh cI cJ cB (nI cc) nA mA aA (fun j => nI (fcA j)) fA (fun j => nI (mcA j)) mmA wA tcA g1A g2A nuA (fun j => nI (erA j)) reA (fun j => nI (liA j)) (fun j => nI (lcA j)) o8 r10 o66 (nI tl) (nI o3) o4 o5 o6 tpA sw st sf sq) H := hP
          have hD : va_D A (kW bh br rh th tb sh cI cJ cB (nI cc) nA mA aA (fun j => nI (fcA j)) fA (fun j => nI (mcA j)) mmA wA tcA g1A g2A nuA (fun j => nI (erA j)) reA (fun j => nI (liA j)) (fun j => nI (lcA j)) o8 r10 o66 (nI tl) (nI o3) o4 o5 o6 tpA sw st sf sq) := hD
          have hw : (r65 = 0 ∨ r65 = 1) ∧ (r65 = 0) := hw
          obtain ⟨w0r65, w1r65⟩ := hw
          subst w1r65
          have hP9 : va_P (dC, dI) vwCl (kW bh br rh th tb sh cI cJ cB (nI cc) nA mA aA (fun j => nI (fcA j)) fA (fun j => nI (mcA j)) mmA wA tcA g1A g2A nuA (fun j => nI (erA j)) reA (fun j => nI (liA j)) (fun j => nI (lcA j)) o8 r10 o66 (nI tl) (nI o3) o4 o5 o6 tpA sw st sf sq) H := hP
          have hD9 : va_D A (kW bh br rh th tb sh cI cJ cB (nI cc) nA mA aA (fun j => nI (fcA j)) fA (fun j => nI (mcA j)) mmA wA tcA g1A g2A nuA (fun j => nI (erA j)) reA (fun j => nI (liA j)) (fun j => nI (lcA j)) o8 r10 o66 (nI tl) (nI o3) o4 o5 o6 tpA sw st sf sq) := hD
          exact W.zret (v := (0 : Int32)) hx hb hr rfl (fun t ht hW => ⟨⟨(0 : Int32), (o3, o4, o5, o6, o66, o8, r10, sw, st, sf, sq, mcA, mmA, wA, tcA, g1A, g2A, nuA), rfl, ⟨(Or.inl rfl), (show o3 ≤ tl from (by first | omega | assumption | trivial)), hmcA⟩, by rw [ht]; exact hP9, va_K.moved hW.alike hK, hD9⟩, hS.F ht⟩) hS.2.2 dX2_readsMember_64
      · refine lv_iconst (v := 0) hx hb dX2_readsMember_41 (by decide) ?_
        have hP9 : va_P (dC, dI) vwCl (kW bh br rh th tb sh cI cJ cB (nI cc) nA mA aA (fun j => nI (fcA j)) fA (fun j => nI (mcA j)) mmA wA tcA g1A g2A nuA (fun j => nI (erA j)) reA (fun j => nI (liA j)) (fun j => nI (lcA j)) o8 ry o7 (nI tl) (nI o3) o4 o5 o6 tpA sw st sf sq) H := hP
        have hD9 : va_D A (kW bh br rh th tb sh cI cJ cB (nI cc) nA mA aA (fun j => nI (fcA j)) fA (fun j => nI (mcA j)) mmA wA tcA g1A g2A nuA (fun j => nI (erA j)) reA (fun j => nI (liA j)) (fun j => nI (lcA j)) o8 ry o7 (nI tl) (nI o3) o4 o5 o6 tpA sw st sf sq) := hD
        exact W.zret (v := (0 : Int32)) hx hb hr rfl (fun t ht hW => ⟨⟨(0 : Int32), (o3, o4, o5, o6, o7, o8, ry, sw, st, sf, sq, mcA, mmA, wA, tcA, g1A, g2A, nuA), rfl, ⟨(Or.inl rfl), (show o3 ≤ tl from (by first | omega | assumption | trivial)), hmcA⟩, by rw [ht]; exact hP9, va_K.moved hW.alike hK, hD9⟩, hS.F ht⟩) hS.2.2 dX2_readsMember_42
    · refine lv_aload_n hx hb dX2_readsMember_28 rfl (lv_at hl 0 rfl) ?_
      refine lv_iconst (v := 2) hx hb dX2_readsMember_29 (by decide) ?_
      have hFc := z_freeW hD hS hA
      refine va_calli (va_runV (As := [.int 2]) (rest := []) ⟨hx, hb, hml, hown, hts⟩ (kX2_refuse l dC dI bh br rh th tb sh cI cJ cB cc nA mA aA fcA fA mcA mmA wA tcA g1A g2A nuA erA reA liA lcA rm ry rf tl ta ts so tv tpA sw st sf sq ⟨by omega, by omega, by omega, hfcA, hmcA, herA, hliA, hlcA⟩ (2 : Int32) H.size) (cwV 1 hts zgX2_readsMember_X2_refuse_67 rfl rfl rfl (by decide +kernel) ⟨(show 0 + 1 ≤ 4 by omega), (show 8 + (2 + 11) + 0 ≤ 86 by omega)⟩) (zVk (ci := 1) (q0 := 17) (q := (RX2, TX2, 5)) hK hP hD hE rfl rfl rfl) rfl rfl hl.1 rfl (lv_room (Nat.le_of_ble_eq_true rfl)) dX2_readsMember_30 ⟨(show 0 + 0 ≤ 0 by omega), (show 0 + 0 ≤ 0 by omega)⟩) hS (fun q _ h => hFc q h) hFc (fun r67 o68 t H1 locs ht hvm hw hB hz1 hk1 hS => ?_)
      obtain ⟨hP, hK9, hD⟩ := hB
      rw [ht] at hP
      have hD := hD.weaken (fun k q _ h => hFc q.1 h)
      generalize H1 = H at hP hS
      have hP : va_P (dC, dI) vwCl (kW bh br rh th tb sh cI cJ cB (nI cc) nA mA aA (fun j => nI (fcA j)) fA (fun j => nI (mcA j)) mmA wA tcA g1A g2A nuA (fun j => nI (erA j)) reA (fun j => nI (liA j)) (fun j => nI (lcA j)) rm ry o68 (nI tl) (nI ta) ts so tv tpA sw st sf sq) H := hP
      have hD : va_D A (kW bh br rh th tb sh cI cJ cB (nI cc) nA mA aA (fun j => nI (fcA j)) fA (fun j => nI (mcA j)) mmA wA tcA g1A g2A nuA (fun j => nI (erA j)) reA (fun j => nI (liA j)) (fun j => nI (lcA j)) rm ry o68 (nI tl) (nI ta) ts so tv tpA sw st sf sq) := hD
      have hw : (r67 = 0 ∨ r67 = 1) ∧ (r67 = 0) := hw
      obtain ⟨w0r67, w1r67⟩ := hw
      subst w1r67
      have hP9 : va_P (dC, dI) vwCl (kW bh br rh th tb sh cI cJ cB (nI cc) nA mA aA (fun j => nI (fcA j)) fA (fun j => nI (mcA j)) mmA wA tcA g1A g2A nuA (fun j => nI (erA j)) reA (fun j => nI (liA j)) (fun j => nI (lcA j)) rm ry o68 (nI tl) (nI ta) ts so tv tpA sw st sf sq) H := hP
      have hD9 : va_D A (kW bh br rh th tb sh cI cJ cB (nI cc) nA mA aA (fun j => nI (fcA j)) fA (fun j => nI (mcA j)) mmA wA tcA g1A g2A nuA (fun j => nI (erA j)) reA (fun j => nI (liA j)) (fun j => nI (lcA j)) rm ry o68 (nI tl) (nI ta) ts so tv tpA sw st sf sq) := hD
      exact W.zret (v := (0 : Int32)) hx hb hr rfl (fun t ht hW => ⟨⟨(0 : Int32), (ta, ts, so, tv, o68, rm, ry, sw, st, sf, sq, mcA, mmA, wA, tcA, g1A, g2A, nuA), rfl, ⟨(Or.inl rfl), (show ta ≤ tl from (by first | omega | assumption | trivial)), hmcA⟩, by rw [ht]; exact hP9, va_K.moved hW.alike hK, hD9⟩, hS.F ht⟩) hS.2.2 dX2_readsMember_33
  refine lv_aload_n hx hb dX2_readsMember_0 rfl (lv_at hl 0 rfl) ?_
  refine vp_callSi (W.runV (As := []) (rest := []) ⟨hx, hb, hml, hown, hts⟩ (kX2_markHere l dC dI rh th tb sh cI cJ cB rm ry rf tl ta ts so tv tpA sw st sf sq ⟨by omega, by omega⟩) (cwV 0 hts zgX2_readsMember_X2_markHere_101 rfl rfl rfl (by decide +kernel) ⟨(show 1 + 1 ≤ 4 by omega), (show 8 + (1 + 11) + 22 ≤ 86 by omega)⟩) (zVq (ci := 1) (q0 := 0) (q := (RX2, TX2, 5)) hK (hP.sub (ws' := (rdW rh th tb sh cI cJ cB rm ry rf (nI tl) (nI ta) ts so tv tpA sw st sf sq)) [17, 18, 19, 20] rfl) hE rfl rfl rfl) rfl rfl hl.1 rfl (lv_room (Nat.le_of_ble_eq_true rfl)) dX2_readsMember_1 ⟨(show 0 + 0 ≤ 0 by omega), (show 0 + 0 ≤ 0 by omega)⟩) (fun r69 hw => ?_)
  have hw : (True) := hw
  have w0r69 := hw
  refine lv_if_ne (tgt := 21) hx hb dX2_readsMember_4 (by decide) (fun cp4 => ?_) (fun cp4 => ?_)
  · exact J21  _ _ ls  hP hD hS (lv_sub hl [0, 1] rfl)
  · refine lv_aload_n hx hb dX2_readsMember_7 rfl (lv_at hl 0 rfl) ?_
    refine vp_callSi (W.runV (As := []) (rest := []) ⟨hx, hb, hml, hown, hts⟩ (kX2_typeHere l dC dI rh th tb sh cI cJ cB rm ry rf tl ta ts so tv tpA sw st sf sq ⟨by omega, by omega⟩) (cwV 0 hts zgX2_readsMember_X2_typeHere_104 rfl rfl rfl (by decide +kernel) ⟨(show 1 + 1 ≤ 4 by omega), (show 8 + (1 + 11) + 22 ≤ 86 by omega)⟩) (zVq (ci := 1) (q0 := 0) (q := (RX2, TX2, 5)) hK (hP.sub (ws' := (rdW rh th tb sh cI cJ cB rm ry rf (nI tl) (nI ta) ts so tv tpA sw st sf sq)) [17, 18, 19, 20] rfl) hE rfl rfl rfl) rfl rfl hl.1 rfl (lv_room (Nat.le_of_ble_eq_true rfl)) dX2_readsMember_8 ⟨(show 0 + 0 ≤ 0 by omega), (show 0 + 0 ≤ 0 by omega)⟩) (fun r70 hw => ?_)
    have hw : (True) := hw
    have w0r70 := hw
    refine lv_iconst (v := (-1)) hx hb dX2_readsMember_11 (by decide) ?_
    refine lv_icmp_ne (tgt := 21) hx hb dX2_readsMember_12 (by decide) (fun cp12 => ?_) (fun cp12 => ?_)
    · exact J21  _ _ ls  hP hD hS (lv_sub hl [0, 1] rfl)
    · refine lv_aload_n hx hb dX2_readsMember_15 rfl (lv_at hl 0 rfl) ?_
      refine lv_iconst (v := 1) hx hb dX2_readsMember_16 (by decide) ?_
      have hFc := z_freeW hD hS hA
      refine va_calli (va_runV (As := [.int 1]) (rest := []) ⟨hx, hb, hml, hown, hts⟩ (kX2_refuse l dC dI bh br rh th tb sh cI cJ cB cc nA mA aA fcA fA mcA mmA wA tcA g1A g2A nuA erA reA liA lcA rm ry rf tl ta ts so tv tpA sw st sf sq ⟨by omega, by omega, by omega, hfcA, hmcA, herA, hliA, hlcA⟩ (1 : Int32) s.heap.size) (cwV 1 hts zgX2_readsMember_X2_refuse_67 rfl rfl rfl (by decide +kernel) ⟨(show 0 + 1 ≤ 4 by omega), (show 8 + (2 + 11) + 0 ≤ 86 by omega)⟩) (zVk (ci := 1) (q0 := 17) (q := (RX2, TX2, 5)) hK hP hD hE rfl rfl rfl) rfl rfl hl.1 rfl (lv_room (Nat.le_of_ble_eq_true rfl)) dX2_readsMember_17 ⟨(show 0 + 0 ≤ 0 by omega), (show 0 + 0 ≤ 0 by omega)⟩) hS (fun q _ h => hFc q h) hFc (fun r71 o72 t H1 locs ht hvm hw hB hz1 hk1 hS => ?_)
      obtain ⟨hP, hK9, hD⟩ := hB
      rw [ht] at hP
      have hD := hD.weaken (fun k q _ h => hFc q.1 h)
      generalize H1 = H at hP hS
      have hP : va_P (dC, dI) vwCl (kW bh br rh th tb sh cI cJ cB (nI cc) nA mA aA (fun j => nI (fcA j)) fA (fun j => nI (mcA j)) mmA wA tcA g1A g2A nuA (fun j => nI (erA j)) reA (fun j => nI (liA j)) (fun j => nI (lcA j)) rm ry o72 (nI tl) (nI ta) ts so tv tpA sw st sf sq) H := hP
      have hD : va_D A (kW bh br rh th tb sh cI cJ cB (nI cc) nA mA aA (fun j => nI (fcA j)) fA (fun j => nI (mcA j)) mmA wA tcA g1A g2A nuA (fun j => nI (erA j)) reA (fun j => nI (liA j)) (fun j => nI (lcA j)) rm ry o72 (nI tl) (nI ta) ts so tv tpA sw st sf sq) := hD
      have hw : (r71 = 0 ∨ r71 = 1) ∧ (r71 = 0) := hw
      obtain ⟨w0r71, w1r71⟩ := hw
      subst w1r71
      have hP9 : va_P (dC, dI) vwCl (kW bh br rh th tb sh cI cJ cB (nI cc) nA mA aA (fun j => nI (fcA j)) fA (fun j => nI (mcA j)) mmA wA tcA g1A g2A nuA (fun j => nI (erA j)) reA (fun j => nI (liA j)) (fun j => nI (lcA j)) rm ry o72 (nI tl) (nI ta) ts so tv tpA sw st sf sq) H := hP
      have hD9 : va_D A (kW bh br rh th tb sh cI cJ cB (nI cc) nA mA aA (fun j => nI (fcA j)) fA (fun j => nI (mcA j)) mmA wA tcA g1A g2A nuA (fun j => nI (erA j)) reA (fun j => nI (liA j)) (fun j => nI (lcA j)) rm ry o72 (nI tl) (nI ta) ts so tv tpA sw st sf sq) := hD
      exact W.zret (v := (0 : Int32)) hx hb hr rfl (fun t ht hW => ⟨⟨(0 : Int32), (ta, ts, so, tv, o72, rm, ry, sw, st, sf, sq, mcA, mmA, wA, tcA, g1A, g2A, nuA), rfl, ⟨(Or.inl rfl), (show ta ≤ tl from (by first | omega | assumption | trivial)), hmcA⟩, by rw [ht]; exact hP9, va_K.moved hW.alike hK, hD9⟩, hS.F ht⟩) hS.2.2 dX2_readsMember_20
theorem dX2_readsHead_0 : decode cX2_readsHead 0 = .ok (.aload_n 0, 1) := by decide +kernel
theorem dX2_readsHead_1 : decode cX2_readsHead 1 = .ok (.invokevirtual 57, 3) := by decide +kernel
theorem dX2_readsHead_4 : decode cX2_readsHead 4 = .ok (.istore_n 2, 1) := by decide +kernel
theorem dX2_readsHead_5 : decode cX2_readsHead 5 = .ok (.iload_n 2, 1) := by decide +kernel
theorem dX2_readsHead_6 : decode cX2_readsHead 6 = .ok (.ifCond .ne 22, 3) := by decide +kernel
theorem dX2_readsHead_9 : decode cX2_readsHead 9 = .ok (.aload_n 0, 1) := by decide +kernel
theorem dX2_readsHead_10 : decode cX2_readsHead 10 = .ok (.getfield 14, 3) := by decide +kernel
theorem dX2_readsHead_13 : decode cX2_readsHead 13 = .ok (.ldc2_w 61, 3) := by decide +kernel
theorem dX2_readsHead_16 : decode cX2_readsHead 16 = .ok (.invokevirtual 63, 3) := by decide +kernel
theorem dX2_readsHead_19 : decode cX2_readsHead 19 = .ok (.ifCond .ne 9, 3) := by decide +kernel
theorem dX2_readsHead_22 : decode cX2_readsHead 22 = .ok (.aload_n 0, 1) := by decide +kernel
theorem dX2_readsHead_23 : decode cX2_readsHead 23 = .ok (.iconst 1, 1) := by decide +kernel
theorem dX2_readsHead_24 : decode cX2_readsHead 24 = .ok (.invokevirtual 67, 3) := by decide +kernel
theorem dX2_readsHead_27 : decode cX2_readsHead 27 = .ok (.ireturn, 1) := by decide +kernel
theorem dX2_readsHead_28 : decode cX2_readsHead 28 = .ok (.aload_n 1, 1) := by decide +kernel
theorem dX2_readsHead_29 : decode cX2_readsHead 29 = .ok (.getfield 71, 3) := by decide +kernel
theorem dX2_readsHead_32 : decode cX2_readsHead 32 = .ok (.bipush 16, 2) := by decide +kernel
theorem dX2_readsHead_34 : decode cX2_readsHead 34 = .ok (.if_icmp .lt 9, 3) := by decide +kernel
theorem dX2_readsHead_37 : decode cX2_readsHead 37 = .ok (.aload_n 0, 1) := by decide +kernel
theorem dX2_readsHead_38 : decode cX2_readsHead 38 = .ok (.iconst 2, 1) := by decide +kernel
theorem dX2_readsHead_39 : decode cX2_readsHead 39 = .ok (.invokevirtual 67, 3) := by decide +kernel
theorem dX2_readsHead_42 : decode cX2_readsHead 42 = .ok (.ireturn, 1) := by decide +kernel
theorem dX2_readsHead_43 : decode cX2_readsHead 43 = .ok (.iload_n 2, 1) := by decide +kernel
theorem dX2_readsHead_44 : decode cX2_readsHead 44 = .ok (.ifCond .eq 10, 3) := by decide +kernel
theorem dX2_readsHead_47 : decode cX2_readsHead 47 = .ok (.aload_n 0, 1) := by decide +kernel
theorem dX2_readsHead_48 : decode cX2_readsHead 48 = .ok (.getfield 14, 3) := by decide +kernel
theorem dX2_readsHead_51 : decode cX2_readsHead 51 = .ok (.invokevirtual 54, 3) := by decide +kernel
theorem dX2_readsHead_54 : decode cX2_readsHead 54 = .ok (.aload_n 0, 1) := by decide +kernel
theorem dX2_readsHead_55 : decode cX2_readsHead 55 = .ok (.getfield 14, 3) := by decide +kernel
theorem dX2_readsHead_58 : decode cX2_readsHead 58 = .ok (.ldc2_w 61, 3) := by decide +kernel
theorem dX2_readsHead_61 : decode cX2_readsHead 61 = .ok (.invokevirtual 63, 3) := by decide +kernel
theorem dX2_readsHead_64 : decode cX2_readsHead 64 = .ok (.ifCond .ne 9, 3) := by decide +kernel
theorem dX2_readsHead_67 : decode cX2_readsHead 67 = .ok (.aload_n 0, 1) := by decide +kernel
theorem dX2_readsHead_68 : decode cX2_readsHead 68 = .ok (.iconst 1, 1) := by decide +kernel
theorem dX2_readsHead_69 : decode cX2_readsHead 69 = .ok (.invokevirtual 67, 3) := by decide +kernel
theorem dX2_readsHead_72 : decode cX2_readsHead 72 = .ok (.ireturn, 1) := by decide +kernel
theorem dX2_readsHead_73 : decode cX2_readsHead 73 = .ok (.aload_n 0, 1) := by decide +kernel
theorem dX2_readsHead_74 : decode cX2_readsHead 74 = .ok (.getfield 14, 3) := by decide +kernel
theorem dX2_readsHead_77 : decode cX2_readsHead 77 = .ok (.invokevirtual 54, 3) := by decide +kernel
theorem dX2_readsHead_80 : decode cX2_readsHead 80 = .ok (.aload_n 0, 1) := by decide +kernel
theorem dX2_readsHead_81 : decode cX2_readsHead 81 = .ok (.getfield 14, 3) := by decide +kernel
theorem dX2_readsHead_84 : decode cX2_readsHead 84 = .ok (.getfield 40, 3) := by decide +kernel
theorem dX2_readsHead_87 : decode cX2_readsHead 87 = .ok (.iconst 1, 1) := by decide +kernel
theorem dX2_readsHead_88 : decode cX2_readsHead 88 = .ok (.if_icmp .eq 9, 3) := by decide +kernel
theorem dX2_readsHead_91 : decode cX2_readsHead 91 = .ok (.aload_n 0, 1) := by decide +kernel
theorem dX2_readsHead_92 : decode cX2_readsHead 92 = .ok (.iconst 1, 1) := by decide +kernel
theorem dX2_readsHead_93 : decode cX2_readsHead 93 = .ok (.invokevirtual 67, 3) := by decide +kernel
theorem dX2_readsHead_96 : decode cX2_readsHead 96 = .ok (.ireturn, 1) := by decide +kernel
theorem dX2_readsHead_97 : decode cX2_readsHead 97 = .ok (.aload_n 1, 1) := by decide +kernel
theorem dX2_readsHead_98 : decode cX2_readsHead 98 = .ok (.aload_n 0, 1) := by decide +kernel
theorem dX2_readsHead_99 : decode cX2_readsHead 99 = .ok (.getfield 14, 3) := by decide +kernel
theorem dX2_readsHead_102 : decode cX2_readsHead 102 = .ok (.getfield 74, 3) := by decide +kernel
theorem dX2_readsHead_105 : decode cX2_readsHead 105 = .ok (.l2i, 1) := by decide +kernel
theorem dX2_readsHead_106 : decode cX2_readsHead 106 = .ok (.invokevirtual 78, 3) := by decide +kernel
theorem dX2_readsHead_109 : decode cX2_readsHead 109 = .ok (.iconst (-1), 1) := by decide +kernel
theorem dX2_readsHead_110 : decode cX2_readsHead 110 = .ok (.if_icmp .eq 9, 3) := by decide +kernel
theorem dX2_readsHead_113 : decode cX2_readsHead 113 = .ok (.aload_n 0, 1) := by decide +kernel
theorem dX2_readsHead_114 : decode cX2_readsHead 114 = .ok (.iconst 3, 1) := by decide +kernel
theorem dX2_readsHead_115 : decode cX2_readsHead 115 = .ok (.invokevirtual 67, 3) := by decide +kernel
theorem dX2_readsHead_118 : decode cX2_readsHead 118 = .ok (.ireturn, 1) := by decide +kernel
theorem dX2_readsHead_119 : decode cX2_readsHead 119 = .ok (.aload_n 1, 1) := by decide +kernel
theorem dX2_readsHead_120 : decode cX2_readsHead 120 = .ok (.aload_n 0, 1) := by decide +kernel
theorem dX2_readsHead_121 : decode cX2_readsHead 121 = .ok (.getfield 14, 3) := by decide +kernel
theorem dX2_readsHead_124 : decode cX2_readsHead 124 = .ok (.getfield 74, 3) := by decide +kernel
theorem dX2_readsHead_127 : decode cX2_readsHead 127 = .ok (.l2i, 1) := by decide +kernel
theorem dX2_readsHead_128 : decode cX2_readsHead 128 = .ok (.iload_n 2, 1) := by decide +kernel
theorem dX2_readsHead_129 : decode cX2_readsHead 129 = .ok (.invokevirtual 82, 3) := by decide +kernel
theorem dX2_readsHead_132 : decode cX2_readsHead 132 = .ok (.aload_n 0, 1) := by decide +kernel
theorem dX2_readsHead_133 : decode cX2_readsHead 133 = .ok (.getfield 14, 3) := by decide +kernel
theorem dX2_readsHead_136 : decode cX2_readsHead 136 = .ok (.invokevirtual 54, 3) := by decide +kernel
theorem dX2_readsHead_139 : decode cX2_readsHead 139 = .ok (.aload_n 0, 1) := by decide +kernel
theorem dX2_readsHead_140 : decode cX2_readsHead 140 = .ok (.aload_n 1, 1) := by decide +kernel
theorem dX2_readsHead_141 : decode cX2_readsHead 141 = .ok (.invokevirtual 86, 3) := by decide +kernel
theorem dX2_readsHead_144 : decode cX2_readsHead 144 = .ok (.ifCond .eq 24, 3) := by decide +kernel
theorem dX2_readsHead_147 : decode cX2_readsHead 147 = .ok (.aload_n 0, 1) := by decide +kernel
theorem dX2_readsHead_148 : decode cX2_readsHead 148 = .ok (.aload_n 1, 1) := by decide +kernel
theorem dX2_readsHead_149 : decode cX2_readsHead 149 = .ok (.invokevirtual 89, 3) := by decide +kernel
theorem dX2_readsHead_152 : decode cX2_readsHead 152 = .ok (.ifCond .eq 16, 3) := by decide +kernel
theorem dX2_readsHead_155 : decode cX2_readsHead 155 = .ok (.aload_n 0, 1) := by decide +kernel
theorem dX2_readsHead_156 : decode cX2_readsHead 156 = .ok (.bipush 123, 2) := by decide +kernel
theorem dX2_readsHead_158 : decode cX2_readsHead 158 = .ok (.invokevirtual 92, 3) := by decide +kernel
theorem dX2_readsHead_161 : decode cX2_readsHead 161 = .ok (.ifCond .eq 7, 3) := by decide +kernel
theorem dX2_readsHead_164 : decode cX2_readsHead 164 = .ok (.iconst 1, 1) := by decide +kernel
theorem dX2_readsHead_165 : decode cX2_readsHead 165 = .ok (.goto 4, 3) := by decide +kernel
theorem dX2_readsHead_168 : decode cX2_readsHead 168 = .ok (.iconst 0, 1) := by decide +kernel
theorem dX2_readsHead_169 : decode cX2_readsHead 169 = .ok (.ireturn, 1) := by decide +kernel
def zwX2_readsHead : List Cond := .code yX2_readsHead cX2_readsHead 3 (some .boolean) :: ([.fieldLink RX2 14 "LinkModels$Reader" "tokens" "LLinkModels$Tokens;", .constantLong RX2 61 (427020088179), .fieldLink RX2 40 "LinkModels$Tokens" "sort" "I", .fieldLink RX2 74 "LinkModels$Tokens" "value" "J", .fieldLink RX2 71 "LinkModels$Build" "classCount" "I", .methodLink RX2 63 yX4_isWord, .instanceMethod yX4_isWord, .selects RX4 yX4_isWord yX4_isWord, .initialized RX4, .code yX4_isWord cX4_isWord 3 (some .boolean), .fieldLink RX4 40 "LinkModels$Tokens" "sort" "I", .fieldLink RX4 32 "LinkModels$Tokens" "value" "J", .methodLink RX2 54 yX4_step, .instanceMethod yX4_step, .selects RX4 yX4_step yX4_step, .code yX4_step cX4_step 2 none, .fieldLink RX4 23 "LinkModels$Tokens" "behind" "I", .fieldLink RX4 29 "LinkModels$Tokens" "start" "I", .fieldLink RX4 19 "LinkModels$Tokens" "length" "I", .fieldLink RX4 7 "LinkModels$Tokens" "tape" "[B", .methodLink RX4 51 yX4_longest, .instanceMethod yX4_longest, .selects RX4 yX4_longest yX4_longest, .code yX4_longest cX4_longest 1 (some .int), .methodLink RX4 43 yX4_take, .instanceMethod yX4_take, .selects RX4 yX4_take yX4_take, .code yX4_take cX4_take 2 none, .constantLong RX4 55 (10), .methodLink RX4 36 yX4_sortOf, .static yX4_sortOf, .code yX4_sortOf cX4_sortOf 1 (some .int), .methodLink RX4 47 yX4_joins, .instanceMethod yX4_joins, .selects RX4 yX4_joins yX4_joins, .code yX4_joins cX4_joins 2 (some .boolean), .methodLink RX2 78 yX0_placeOf, .instanceMethod yX0_placeOf, .selects RX0 yX0_placeOf yX0_placeOf, .initialized RX0, .code yX0_placeOf cX0_placeOf 3 (some .int), .fieldLink RX0 61 "LinkModels$Build" "classCount" "I", .fieldLink RX0 11 "LinkModels$Build" "names" "[I", .methodLink RX2 82 yX0_addClass, .instanceMethod yX0_addClass, .selects RX0 yX0_addClass yX0_addClass, .code yX0_addClass cX0_addClass 3 none, .fieldLink RX0 15 "LinkModels$Build" "classMarks" "[I", .fieldLink RX0 18 "LinkModels$Build" "aboveNames" "[I", .fieldLink RX0 21 "LinkModels$Build" "faceCounts" "[I", .fieldLink RX0 27 "LinkModels$Build" "memberCounts" "[I", .methodLink RX2 86 yX2_readsAbove, .instanceMethod yX2_readsAbove, .selects RX2 yX2_readsAbove yX2_readsAbove, .initialized RX2, .code yX2_readsAbove cX2_readsAbove 2 (some .boolean), .methodLink RX2 47 yX4_isSign, .instanceMethod yX4_isSign, .selects RX4 yX4_isSign yX4_isSign, .code yX4_isSign cX4_isSign 2 (some .boolean), .methodLink RX2 95 yX0_setAbove, .instanceMethod yX0_setAbove, .selects RX0 yX0_setAbove yX0_setAbove, .code yX0_setAbove cX0_setAbove 2 none, .methodLink RX2 67 yX2_refuse, .instanceMethod yX2_refuse, .selects RX2 yX2_refuse yX2_refuse, .code yX2_refuse cX2_refuse 2 (some .boolean), .fieldLink RX2 27 "LinkModels$Reader" "fault" "I", .methodLink RX2 89 yX2_readsFaces, .instanceMethod yX2_readsFaces, .selects RX2 yX2_readsFaces yX2_readsFaces, .code yX2_readsFaces cX2_readsFaces 4 (some .boolean), .methodLink RX2 98 yX0_addFace, .instanceMethod yX0_addFace, .selects RX0 yX0_addFace yX0_addFace, .code yX0_addFace cX0_addFace 3 none, .fieldLink RX0 24 "LinkModels$Build" "faceNames" "[I", .methodLink RX2 92 yX2_passes, .instanceMethod yX2_passes, .selects RX2 yX2_passes yX2_passes, .code yX2_passes cX2_passes 2 (some .boolean), .methodLink RX2 57 yX2_classMarkHere, .instanceMethod yX2_classMarkHere, .selects RX2 yX2_classMarkHere yX2_classMarkHere, .code yX2_classMarkHere cX2_classMarkHere 1 (some .int), .constantLong RX2 154 (1717658469), .constantLong RX2 156 (7017298113369039732), .constantLong RX2 158 (439855505772)] ++ wsX20 ++ wsX40 ++ wsX00)
set_option maxRecDepth 100000 in
theorem zgX2_readsHead_X4_isWord_63 : GoodIn zwX2_readsHead (wsV RX2 63 RX4 yX4_isWord zwX4_isWord) := goodIn_app (goodIn_r _ [6, 7, 8, 9] rfl (by decide +kernel)) (goodIn_app (goodIn_r _ [10, 11, 12] rfl (by decide +kernel)) (fun w hw => ⟨(List.mem_cons_of_mem _ (List.mem_append_left _ (List.mem_append_right _ hw))), good_of_word (List.all_eq_true.mp zgX4 w hw)⟩))
set_option maxRecDepth 100000 in
theorem zgX2_readsHead_X4_step_54 : GoodIn zwX2_readsHead (wsV RX2 54 RX4 yX4_step zwX4_step) := goodIn_app (goodIn_r _ [13, 14, 15, 9] rfl (by decide +kernel)) (goodIn_app (goodIn_r _ [16, 17, 18, 11, 19, 20, 12, 21, 22, 23, 9, 24, 25, 26, 27, 28, 29, 30, 31, 32, 33, 34, 35, 36] rfl (by decide +kernel)) (fun w hw => ⟨(List.mem_cons_of_mem _ (List.mem_append_left _ (List.mem_append_right _ hw))), good_of_word (List.all_eq_true.mp zgX4 w hw)⟩))
set_option maxRecDepth 100000 in
theorem zgX2_readsHead_X0_placeOf_78 : GoodIn zwX2_readsHead (wsV RX2 78 RX0 yX0_placeOf zwX0_placeOf) := goodIn_app (goodIn_r _ [37, 38, 39, 40] rfl (by decide +kernel)) (goodIn_app (goodIn_r _ [41, 42, 43] rfl (by decide +kernel)) (fun w hw => ⟨(List.mem_cons_of_mem _ (List.mem_append_right _ hw)), good_of_word (List.all_eq_true.mp zgX0 w hw)⟩))
set_option maxRecDepth 100000 in
theorem zgX2_readsHead_X0_addClass_82 : GoodIn zwX2_readsHead (wsV RX2 82 RX0 yX0_addClass zwX0_addClass) := goodIn_app (goodIn_r _ [44, 45, 46, 40] rfl (by decide +kernel)) (goodIn_app (goodIn_r _ [47, 43, 42, 48, 49, 50, 51] rfl (by decide +kernel)) (fun w hw => ⟨(List.mem_cons_of_mem _ (List.mem_append_right _ hw)), good_of_word (List.all_eq_true.mp zgX0 w hw)⟩))
set_option maxRecDepth 100000 in
theorem zgX2_readsHead_X2_readsAbove_86 : GoodIn zwX2_readsHead (wsV RX2 86 RX2 yX2_readsAbove zwX2_readsAbove) := goodIn_app (goodIn_r _ [52, 53, 54, 55] rfl (by decide +kernel)) (goodIn_app (goodIn_app (goodIn_app (goodIn_r _ [56, 1, 3, 4, 57, 58, 59, 9, 60, 11, 12, 13, 14, 15, 16, 17, 18, 19, 20, 21, 22, 23, 24, 25, 26, 27, 28, 29, 30, 31, 32, 33, 34, 35, 36, 61, 62, 63, 40, 64, 49, 42, 65, 66, 67, 55, 68, 69] rfl (by decide +kernel)) (fun w hw => ⟨(List.mem_cons_of_mem _ (List.mem_append_left _ (List.mem_append_left _ (List.mem_append_right _ hw)))), good_of_word (List.all_eq_true.mp zgX2 w hw)⟩)) (fun w hw => ⟨(List.mem_cons_of_mem _ (List.mem_append_left _ (List.mem_append_right _ hw))), good_of_word (List.all_eq_true.mp zgX4 w hw)⟩)) (fun w hw => ⟨(List.mem_cons_of_mem _ (List.mem_append_right _ hw)), good_of_word (List.all_eq_true.mp zgX0 w hw)⟩))
set_option maxRecDepth 100000 in
theorem zgX2_readsHead_X2_readsFaces_89 : GoodIn zwX2_readsHead (wsV RX2 89 RX2 yX2_readsFaces zwX2_readsFaces) := goodIn_app (goodIn_r _ [70, 71, 72, 55] rfl (by decide +kernel)) (goodIn_app (goodIn_app (goodIn_app (goodIn_r _ [73, 1, 3, 4, 13, 14, 15, 9, 16, 17, 18, 11, 19, 20, 12, 21, 22, 23, 24, 25, 26, 27, 28, 29, 30, 31, 32, 33, 34, 35, 36, 74, 75, 76, 40, 77, 42, 78, 50, 57, 58, 59, 60, 65, 66, 67, 55, 68, 69] rfl (by decide +kernel)) (fun w hw => ⟨(List.mem_cons_of_mem _ (List.mem_append_left _ (List.mem_append_left _ (List.mem_append_right _ hw)))), good_of_word (List.all_eq_true.mp zgX2 w hw)⟩)) (fun w hw => ⟨(List.mem_cons_of_mem _ (List.mem_append_left _ (List.mem_append_right _ hw))), good_of_word (List.all_eq_true.mp zgX4 w hw)⟩)) (fun w hw => ⟨(List.mem_cons_of_mem _ (List.mem_append_right _ hw)), good_of_word (List.all_eq_true.mp zgX0 w hw)⟩))
set_option maxRecDepth 100000 in
theorem zgX2_readsHead_X2_passes_92 : GoodIn zwX2_readsHead (wsV RX2 92 RX2 yX2_passes zwX2_passes) := goodIn_app (goodIn_r _ [79, 80, 81, 55] rfl (by decide +kernel)) (goodIn_app (goodIn_app (goodIn_r _ [82, 1, 57, 58, 59, 9, 60, 11, 12, 13, 14, 15, 16, 17, 18, 19, 20, 21, 22, 23, 24, 25, 26, 27, 28, 29, 30, 31, 32, 33, 34, 35, 36, 65, 66, 67, 55, 68, 69] rfl (by decide +kernel)) (fun w hw => ⟨(List.mem_cons_of_mem _ (List.mem_append_left _ (List.mem_append_left _ (List.mem_append_right _ hw)))), good_of_word (List.all_eq_true.mp zgX2 w hw)⟩)) (fun w hw => ⟨(List.mem_cons_of_mem _ (List.mem_append_left _ (List.mem_append_right _ hw))), good_of_word (List.all_eq_true.mp zgX4 w hw)⟩))
set_option maxRecDepth 100000 in
theorem zgX2_readsHead_X2_refuse_67 : GoodIn zwX2_readsHead (wsV RX2 67 RX2 yX2_refuse zwX2_refuse) := goodIn_app (goodIn_r _ [65, 66, 67, 55] rfl (by decide +kernel)) (goodIn_app (goodIn_r _ [68, 69] rfl (by decide +kernel)) (fun w hw => ⟨(List.mem_cons_of_mem _ (List.mem_append_left _ (List.mem_append_left _ (List.mem_append_right _ hw)))), good_of_word (List.all_eq_true.mp zgX2 w hw)⟩))
set_option maxRecDepth 100000 in
theorem zgX2_readsHead_X2_classMarkHere_57 : GoodIn zwX2_readsHead (wsV RX2 57 RX2 yX2_classMarkHere zwX2_classMarkHere) := goodIn_app (goodIn_r _ [83, 84, 85, 55] rfl (by decide +kernel)) (goodIn_app (goodIn_app (goodIn_r _ [86, 1, 87, 88, 89, 6, 7, 8, 9, 10, 11, 12] rfl (by decide +kernel)) (fun w hw => ⟨(List.mem_cons_of_mem _ (List.mem_append_left _ (List.mem_append_left _ (List.mem_append_right _ hw)))), good_of_word (List.all_eq_true.mp zgX2 w hw)⟩)) (fun w hw => ⟨(List.mem_cons_of_mem _ (List.mem_append_left _ (List.mem_append_right _ hw))), good_of_word (List.all_eq_true.mp zgX4 w hw)⟩))
set_option maxHeartbeats 4000000 in
set_option maxRecDepth 100000 in
theorem kX2_readsHead (l : Launch) (dC : Nat → ClassId) (dI : Nat → Nat → Nat) (bh : Nat) (br : Nat → Nat) (rh : Nat) (th : Nat) (tb : Nat) (sh : Nat) (cI : ClassId) (cJ : ClassId) (cB : ClassId) (cc : Nat) (nA : Nat → Int32) (mA : Nat → Int32) (aA : Nat → Int32) (fcA : Nat → Nat) (fA : Nat → Int32) (mcA : Nat → Nat) (mmA : Nat → Int32) (wA : Nat → Int64) (tcA : Nat → Int32) (g1A : Nat → Int32) (g2A : Nat → Int32) (nuA : Nat → Int32) (erA : Nat → Nat) (reA : Nat → Int32) (liA : Nat → Nat) (lcA : Nat → Nat) (rm : Int32) (ry : Int32) (rf : Int32) (tl : Nat) (ta : Nat) (ts : Int32) (so : Int32) (tv : Int64) (tpA : Nat → Int32) (sw : Int64) (st : Int32) (sf : Int32) (sq : Int32) (hI : kWI cc fcA mcA erA liA lcA tl ta) (sz : Nat) : Met l yX2_readsHead zwX2_readsHead ({ frames := 3, cells := 0, slots := 0, locals := 65 }) (zPk dC dI [.ref rh, .ref bh] sz (kW bh br rh th tb sh cI cJ cB (nI cc) nA mA aA (fun j => nI (fcA j)) fA (fun j => nI (mcA j)) mmA wA tcA g1A g2A nuA (fun j => nI (erA j)) reA (fun j => nI (liA j)) (fun j => nI (lcA j)) rm ry rf (nI tl) (nI ta) ts so tv tpA sw st sf sq) [(cI, .int), (cJ, .long), (cB, .byte)]) (va_Qi (fun (r : Int32) (u : Nat × Int32 × Int32 × Int64 × Int32 × Nat × (Nat → Int32) × (Nat → Int32) × (Nat → Int32) × (Nat → Nat) × (Nat → Nat) × (Nat → Int32)) => (r = 0 ∨ r = 1) ∧ ((u.1) ≤ tl) ∧ ((u.2.2.2.2.2.1) ≤ 16) ∧ (r = 1 → 1 ≤ (u.2.2.2.2.2.1)) ∧ (∀ j, (u.2.2.2.2.2.2.2.2.2.1) j ≤ 3) ∧ (∀ j, (u.2.2.2.2.2.2.2.2.2.2.1) j ≤ 12)) (fun u t => zB dC dI (va_A (kW bh br rh th tb sh cI cJ cB (nI cc) nA mA aA (fun j => nI (fcA j)) fA (fun j => nI (mcA j)) mmA wA tcA g1A g2A nuA (fun j => nI (erA j)) reA (fun j => nI (liA j)) (fun j => nI (lcA j)) rm ry rf (nI tl) (nI ta) ts so tv tpA sw st sf sq) sz) (kW bh br rh th tb sh cI cJ cB (nI (u.2.2.2.2.2.1)) (u.2.2.2.2.2.2.1) (u.2.2.2.2.2.2.2.1) (u.2.2.2.2.2.2.2.2.1) (fun j => nI ((u.2.2.2.2.2.2.2.2.2.1) j)) (u.2.2.2.2.2.2.2.2.2.2.2) (fun j => nI ((u.2.2.2.2.2.2.2.2.2.2.1) j)) mmA wA tcA g1A g2A nuA (fun j => nI (erA j)) reA (fun j => nI (liA j)) (fun j => nI (lcA j)) rm ry (u.2.2.2.2.1) (nI tl) (nI (u.1)) (u.2.1) (u.2.2.1) (u.2.2.2.1) tpA sw st sf sq) [(cI, .int), (cJ, .long), (cB, .byte)] t) (va_A (kW bh br rh th tb sh cI cJ cB (nI cc) nA mA aA (fun j => nI (fcA j)) fA (fun j => nI (mcA j)) mmA wA tcA g1A g2A nuA (fun j => nI (erA j)) reA (fun j => nI (liA j)) (fun j => nI (lcA j)) rm ry rf (nI tl) (nI ta) ts so tv tpA sw st sf sq) sz)) 0 0 (va_A (kW bh br rh th tb sh cI cJ cB (nI cc) nA mA aA (fun j => nI (fcA j)) fA (fun j => nI (mcA j)) mmA wA tcA g1A g2A nuA (fun j => nI (erA j)) reA (fun j => nI (liA j)) (fun j => nI (lcA j)) rm ry rf (nI tl) (nI ta) ts so tv tpA sw st sf sq) sz) := by
  refine Met.ofW (cc := cX2_readsHead) (maxL := 3) (ret := (some .boolean)) (by decide) rfl ?_
  intro p e s m args below meth c s₁ B hml hv
  obtain ⟨rfl, hsz, hP, hK, hD0, hE⟩ := hv
  have hx := B.exec
  have hb := B.bytes
  have hr := B.returns
  have hts := atoms_spec (ws := zwX2_readsHead) B.pre
  have hown : s.vm.findClass RX2 = some m.cls := findClass_of_methodNamed B.named
  have hiX2 : ∀ w ∈ wsX20, w ∈ zwX2_readsHead := (fun w hw => (List.mem_cons_of_mem _ (List.mem_append_left _ (List.mem_append_left _ (List.mem_append_right _ hw)))))
  have hiX4 : ∀ w ∈ wsX40, w ∈ zwX2_readsHead := (fun w hw => (List.mem_cons_of_mem _ (List.mem_append_left _ (List.mem_append_right _ hw))))
  have hiX0 : ∀ w ∈ wsX00, w ∈ zwX2_readsHead := (fun w hw => (List.mem_cons_of_mem _ (List.mem_append_right _ hw)))
  obtain ⟨hcc, htl, hta, hfcA, hmcA, herA, hliA, hlcA⟩ := hI
  subst hsz
  have hD := hD0.self (sz := s.heap.size)
  generalize hAe : va_A (kW bh br rh th tb sh cI cJ cB (nI cc) nA mA aA (fun j => nI (fcA j)) fA (fun j => nI (mcA j)) mmA wA tcA g1A g2A nuA (fun j => nI (erA j)) reA (fun j => nI (liA j)) (fun j => nI (lcA j)) rm ry rf (nI tl) (nI ta) ts so tv tpA sw st sf sq) s.heap.size = A at hD ⊢
  have hA : ∀ q : Nat, s.heap.size ≤ q → A q := fun q h => by rw [← hAe]; exact Or.inr h
  have hS : va_S A s.heap s.heap [] := va_S.rf
  have hl := lv_entry ([.ref rh, .ref bh]) (n := 3) (Nat.le_of_ble_eq_true rfl)
  rw [lg_entry_eq]
  generalize (lg_sl ([.ref rh, .ref bh]) ++ List.replicate (3 - (lg_sl ([.ref rh, .ref bh])).length) Slot.unset).toArray = ls at hl ⊢
  have hl : lv_has ls 3 [(0, .ref rh), (1, .ref bh)] := hl
  have J54 : ∀ (mk : Int32) (b2 : Nat) (s2 : Int32) (so2 : Int32) (v2 : Int64) (H : Heap) (locs : List Loc) (ls : Array Slot), (b2 ≤ tl) → (cc < 16) → va_P (dC, dI) vwCl (kW bh br rh th tb sh cI cJ cB (nI cc) nA mA aA (fun j => nI (fcA j)) fA (fun j => nI (mcA j)) mmA wA tcA g1A g2A nuA (fun j => nI (erA j)) reA (fun j => nI (liA j)) (fun j => nI (lcA j)) rm ry rf (nI tl) (nI b2) s2 so2 v2 tpA sw st sf sq) H → va_D A (kW bh br rh th tb sh cI cJ cB (nI cc) nA mA aA (fun j => nI (fcA j)) fA (fun j => nI (mcA j)) mmA wA tcA g1A g2A nuA (fun j => nI (erA j)) reA (fun j => nI (liA j)) (fun j => nI (lcA j)) rm ry rf (nI tl) (nI b2) s2 so2 v2 tpA sw st sf sq) → va_S A s.heap H locs → lv_has ls 3 [(0, .ref rh), (1, .ref bh), (2, .int mk)] → W p l e (headSpec zwX2_readsHead { frames := 3, cells := 0, slots := 0, locals := 65 }).room s m (([.ref rh, .ref bh] : List Value).toArray) below meth c H locs 0 0 (MQ below (va_Qi (fun (r : Int32) (u : Nat × Int32 × Int32 × Int64 × Int32 × Nat × (Nat → Int32) × (Nat → Int32) × (Nat → Int32) × (Nat → Nat) × (Nat → Nat) × (Nat → Int32)) => (r = 0 ∨ r = 1) ∧ ((u.1) ≤ tl) ∧ ((u.2.2.2.2.2.1) ≤ 16) ∧ (r = 1 → 1 ≤ (u.2.2.2.2.2.1)) ∧ (∀ j, (u.2.2.2.2.2.2.2.2.2.1) j ≤ 3) ∧ (∀ j, (u.2.2.2.2.2.2.2.2.2.2.1) j ≤ 12)) (fun u t => zB dC dI (A) (kW bh br rh th tb sh cI cJ cB (nI (u.2.2.2.2.2.1)) (u.2.2.2.2.2.2.1) (u.2.2.2.2.2.2.2.1) (u.2.2.2.2.2.2.2.2.1) (fun j => nI ((u.2.2.2.2.2.2.2.2.2.1) j)) (u.2.2.2.2.2.2.2.2.2.2.2) (fun j => nI ((u.2.2.2.2.2.2.2.2.2.2.1) j)) mmA wA tcA g1A g2A nuA (fun j => nI (erA j)) reA (fun j => nI (liA j)) (fun j => nI (lcA j)) rm ry (u.2.2.2.2.1) (nI tl) (nI (u.1)) (u.2.1) (u.2.2.1) (u.2.2.2.1) tpA sw st sf sq) [(cI, .int), (cJ, .long), (cB, .byte)] t) (A)) (([.ref rh, .ref bh] : List Value).toArray) s 0 0 A) (F0 m 54 ls []) := by
    intro mk b2 s2 so2 v2 H locs ls i54_0 i54_1 hP hD hS hl
    refine lv_aload_n hx hb dX2_readsHead_54 rfl (lv_at hl 0 rfl) ?_
    refine va_get (D := (dC, dI)) (ci := 1) (v := .ref th) (C := RX2) (T := TX2) (N := 5) hx hb hts hiX2 hown hK hP 17 rfl rfl 0 (by decide) (hts (.fieldLink RX2 14 "LinkModels$Reader" "tokens" "LLinkModels$Tokens;") (by decide +kernel)) (fun _ h9 => h9) rfl dX2_readsHead_55 ?_
    refine lv_ldc2 (v := 427020088179) hx hb hown (hts (.constantLong RX2 61 (427020088179)) (by decide +kernel)) dX2_readsHead_58 ?_
    refine vp_callSi (W.runV (As := [.long 427020088179]) (rest := []) ⟨hx, hb, hml, hown, hts⟩ (kX4_isWord l dC dI rh th tb sh cI cJ cB rm ry rf tl b2 s2 so2 v2 tpA sw st sf sq ⟨by omega, by omega⟩ (427020088179 : Int64)) (cwV 1 hts zgX2_readsHead_X4_isWord_63 rfl rfl rfl (by decide +kernel) ⟨(show 0 + 1 ≤ 3 by omega), (show 8 + (3 + 11) + 0 ≤ 65 by omega)⟩) (zVq (ci := 3) (q0 := 1) (q := (RX4, TX4, 6)) hK (hP.sub (ws' := (rdW rh th tb sh cI cJ cB rm ry rf (nI tl) (nI b2) s2 so2 v2 tpA sw st sf sq)) [17, 18, 19, 20] rfl) hE rfl rfl rfl) rfl rfl hl.1 rfl (lv_room (Nat.le_of_ble_eq_true rfl)) dX2_readsHead_61 ⟨(show 0 + 0 ≤ 0 by omega), (show 0 + 0 ≤ 0 by omega)⟩) (fun r1 hw => ?_)
    have hw : (r1 = 0 ∨ r1 = 1) := hw
    have w0r1 := hw
    refine lv_if_ne (tgt := 73) hx hb dX2_readsHead_64 (by decide) (fun cp64 => ?_) (fun cp64 => ?_)
    · refine lv_aload_n hx hb dX2_readsHead_73 rfl (lv_at hl 0 rfl) ?_
      refine va_get (D := (dC, dI)) (ci := 1) (v := .ref th) (C := RX2) (T := TX2) (N := 5) hx hb hts hiX2 hown hK hP 17 rfl rfl 0 (by decide) (hts (.fieldLink RX2 14 "LinkModels$Reader" "tokens" "LLinkModels$Tokens;") (by decide +kernel)) (fun _ h9 => h9) rfl dX2_readsHead_74 ?_
      have hFc := z_freeW hD hS hA
      refine va_callv (va_runV (As := []) (rest := []) ⟨hx, hb, hml, hown, hts⟩ (kX4_step l dC dI bh br rh th tb sh cI cJ cB cc nA mA aA fcA fA mcA mmA wA tcA g1A g2A nuA erA reA liA lcA rm ry rf tl b2 s2 so2 v2 tpA sw st sf sq ⟨by omega, by omega, by omega, hfcA, hmcA, herA, hliA, hlcA⟩ H.size) (cwV 0 hts zgX2_readsHead_X4_step_54 rfl rfl rfl (by decide +kernel) ⟨(show 1 + 1 ≤ 3 by omega), (show 8 + (2 + 11) + 21 ≤ 65 by omega)⟩) (zVk (ci := 3) (q0 := 18) (q := (RX4, TX4, 6)) hK hP hD hE rfl rfl rfl) rfl rfl hl.1 rfl (lv_room (Nat.le_of_ble_eq_true rfl)) dX2_readsHead_77 ⟨(show 0 + 0 ≤ 0 by omega), (show 0 + 0 ≤ 0 by omega)⟩) hS (fun q _ h => hFc q h) hFc (fun u7 t H1 locs ht hvm hw hB hz1 hk1 hS => ?_)
      obtain ⟨o3, o4, o5, o6⟩ := u7
      obtain ⟨hP, hK9, hD⟩ := hB
      rw [ht] at hP
      have hD := hD.weaken (fun k q _ h => hFc q.1 h)
      generalize H1 = H at hP hS
      have hP : va_P (dC, dI) vwCl (kW bh br rh th tb sh cI cJ cB (nI cc) nA mA aA (fun j => nI (fcA j)) fA (fun j => nI (mcA j)) mmA wA tcA g1A g2A nuA (fun j => nI (erA j)) reA (fun j => nI (liA j)) (fun j => nI (lcA j)) rm ry rf (nI tl) (nI o3) o4 o5 o6 tpA sw st sf sq) H := hP
      have hD : va_D A (kW bh br rh th tb sh cI cJ cB (nI cc) nA mA aA (fun j => nI (fcA j)) fA (fun j => nI (mcA j)) mmA wA tcA g1A g2A nuA (fun j => nI (erA j)) reA (fun j => nI (liA j)) (fun j => nI (lcA j)) rm ry rf (nI tl) (nI o3) o4 o5 o6 tpA sw st sf sq) := hD
      have hw : (b2 ≤ o3) ∧ (o3 ≤ tl) := hw
      obtain ⟨w0r2, w1r2⟩ := hw
      refine lv_aload_n hx hb dX2_readsHead_80 rfl (lv_at hl 0 rfl) ?_
      refine va_get (D := (dC, dI)) (ci := 1) (v := .ref th) (C := RX2) (T := TX2) (N := 5) hx hb hts hiX2 hown hK hP 17 rfl rfl 0 (by decide) (hts (.fieldLink RX2 14 "LinkModels$Reader" "tokens" "LLinkModels$Tokens;") (by decide +kernel)) (fun _ h9 => h9) rfl dX2_readsHead_81 ?_
      refine va_get (D := (dC, dI)) (ci := 3) (v := .int o5) (C := RX4) (T := TX4) (N := 6) hx hb hts hiX4 hown hK hP 18 rfl rfl 4 (by decide) (hts (.fieldLink RX2 40 "LinkModels$Tokens" "sort" "I") (by decide +kernel)) (fun _ h9 => h9) rfl dX2_readsHead_84 ?_
      refine lv_iconst (v := 1) hx hb dX2_readsHead_87 (by decide) ?_
      refine lv_icmp_eq (tgt := 97) hx hb dX2_readsHead_88 (by decide) (fun cp88 => ?_) (fun cp88 => ?_)
      · refine lv_aload_n hx hb dX2_readsHead_97 rfl (lv_at hl 1 rfl) ?_
        refine lv_aload_n hx hb dX2_readsHead_98 rfl (lv_at hl 0 rfl) ?_
        refine va_get (D := (dC, dI)) (ci := 1) (v := .ref th) (C := RX2) (T := TX2) (N := 5) hx hb hts hiX2 hown hK hP 17 rfl rfl 0 (by decide) (hts (.fieldLink RX2 14 "LinkModels$Reader" "tokens" "LLinkModels$Tokens;") (by decide +kernel)) (fun _ h9 => h9) rfl dX2_readsHead_99 ?_
        refine va_get (D := (dC, dI)) (ci := 3) (v := .long o6) (C := RX4) (T := TX4) (N := 6) hx hb hts hiX4 hown hK hP 18 rfl rfl 5 (by decide) (hts (.fieldLink RX2 74 "LinkModels$Tokens" "value" "J") (by decide +kernel)) (fun _ h9 => h9) rfl dX2_readsHead_102 ?_
        refine lv_l2i hx hb dX2_readsHead_105 rfl ?_
        refine lv_topi (fun x8 ex8 => ?_)
        refine vp_callSi (W.runV (As := [.int x8]) (rest := []) ⟨hx, hb, hml, hown, hts⟩ (kX0_placeOf l dC dI bh br cI cJ cB cc nA mA aA fcA fA mcA mmA wA tcA g1A g2A nuA erA reA liA lcA ⟨by omega, hfcA, hmcA, herA, hliA, hlcA⟩ x8) (cwV 1 hts zgX2_readsHead_X0_placeOf_78 rfl rfl rfl (by decide +kernel) ⟨(show 0 + 1 ≤ 3 by omega), (show 8 + (3 + 11) + 0 ≤ 65 by omega)⟩) (zVq (ci := 0) (q0 := 0) (q := (RX0, TX0, 17)) hK (hP.sub (ws' := (bW bh br cI cJ cB (nI cc) nA mA aA (fun j => nI (fcA j)) fA (fun j => nI (mcA j)) mmA wA tcA g1A g2A nuA (fun j => nI (erA j)) reA (fun j => nI (liA j)) (fun j => nI (lcA j)))) [0, 1, 2, 3, 4, 5, 6, 7, 8, 9, 10, 11, 12, 13, 14, 15, 16] rfl) hE rfl rfl rfl) rfl rfl hl.1 rfl (lv_room (Nat.le_of_ble_eq_true rfl)) dX2_readsHead_106 ⟨(show 0 + 0 ≤ 0 by omega), (show 0 + 0 ≤ 0 by omega)⟩) (fun r9 hw => ?_)
        have hw : (zM r9 (fun k => k < cc)) := hw
        have w0r9 := hw
        refine lv_iconst (v := (-1)) hx hb dX2_readsHead_109 (by decide) ?_
        refine lv_icmp_eq (tgt := 119) hx hb dX2_readsHead_110 (by decide) (fun cp110 => ?_) (fun cp110 => ?_)
        · obtain rfl : r9 = -1 := cp110
          refine lv_aload_n hx hb dX2_readsHead_119 rfl (lv_at hl 1 rfl) ?_
          refine lv_aload_n hx hb dX2_readsHead_120 rfl (lv_at hl 0 rfl) ?_
          refine va_get (D := (dC, dI)) (ci := 1) (v := .ref th) (C := RX2) (T := TX2) (N := 5) hx hb hts hiX2 hown hK hP 17 rfl rfl 0 (by decide) (hts (.fieldLink RX2 14 "LinkModels$Reader" "tokens" "LLinkModels$Tokens;") (by decide +kernel)) (fun _ h9 => h9) rfl dX2_readsHead_121 ?_
          refine va_get (D := (dC, dI)) (ci := 3) (v := .long o6) (C := RX4) (T := TX4) (N := 6) hx hb hts hiX4 hown hK hP 18 rfl rfl 5 (by decide) (hts (.fieldLink RX2 74 "LinkModels$Tokens" "value" "J") (by decide +kernel)) (fun _ h9 => h9) rfl dX2_readsHead_124 ?_
          refine lv_l2i hx hb dX2_readsHead_127 rfl ?_
          refine lv_topi (fun x10 ex10 => ?_)
          refine lv_iload_n hx hb dX2_readsHead_128 rfl (lv_at hl 2 rfl) ?_
          have hFc := z_freeW hD hS hA
          refine va_callv (va_runV (As := [.int x10, .int mk]) (rest := []) ⟨hx, hb, hml, hown, hts⟩ (kX0_addClass l dC dI bh br rh th tb sh cI cJ cB cc nA mA aA fcA fA mcA mmA wA tcA g1A g2A nuA erA reA liA lcA rm ry rf tl o3 o4 o5 o6 tpA sw st sf sq ⟨by omega, by omega, by omega, hfcA, hmcA, herA, hliA, hlcA⟩ x10 mk (by first | omega | assumption | trivial) H.size) (cwV 2 hts zgX2_readsHead_X0_addClass_82 rfl rfl rfl (by decide +kernel) ⟨(show 0 + 1 ≤ 3 by omega), (show 8 + (3 + 11) + 0 ≤ 65 by omega)⟩) (zVk (ci := 0) (q0 := 0) (q := (RX0, TX0, 17)) hK hP hD hE rfl rfl rfl) rfl rfl hl.1 rfl (lv_room (Nat.le_of_ble_eq_true rfl)) dX2_readsHead_129 ⟨(show 0 + 0 ≤ 0 by omega), (show 0 + 0 ≤ 0 by omega)⟩) hS (fun q _ h => hFc q h) hFc (fun u18 t H1 locs ht hvm hw hB hz1 hk1 hS => ?_)
          obtain ⟨o12, o13, o14, o15, o16, o17⟩ := u18
          obtain ⟨hP, hK9, hD⟩ := hB
          rw [ht] at hP
          have hD := hD.weaken (fun k q _ h => hFc q.1 h)
          generalize H1 = H at hP hS
          have hP : va_P (dC, dI) vwCl (kW bh br rh th tb sh cI cJ cB (nI o12) o13 o14 o15 (fun j => nI (o16 j)) fA (fun j => nI (o17 j)) mmA wA tcA g1A g2A nuA (fun j => nI (erA j)) reA (fun j => nI (liA j)) (fun j => nI (lcA j)) rm ry rf (nI tl) (nI o3) o4 o5 o6 tpA sw st sf sq) H := hP
          have hD : va_D A (kW bh br rh th tb sh cI cJ cB (nI o12) o13 o14 o15 (fun j => nI (o16 j)) fA (fun j => nI (o17 j)) mmA wA tcA g1A g2A nuA (fun j => nI (erA j)) reA (fun j => nI (liA j)) (fun j => nI (lcA j)) rm ry rf (nI tl) (nI o3) o4 o5 o6 tpA sw st sf sq) := hD
          have hw : (o12 = cc + 1) ∧ (o16 (o12 - 1) = 0) ∧ (∀ j, o16 j ≤ 3) ∧ (∀ j, o17 j ≤ 12) := hw
          obtain ⟨w0r11, w1r11, hbo16, hbo17⟩ := hw
          refine lv_aload_n hx hb dX2_readsHead_132 rfl (lv_at hl 0 rfl) ?_
          refine va_get (D := (dC, dI)) (ci := 1) (v := .ref th) (C := RX2) (T := TX2) (N := 5) hx hb hts hiX2 hown hK hP 17 rfl rfl 0 (by decide) (hts (.fieldLink RX2 14 "LinkModels$Reader" "tokens" "LLinkModels$Tokens;") (by decide +kernel)) (fun _ h9 => h9) rfl dX2_readsHead_133 ?_
          have hFc := z_freeW hD hS hA
          refine va_callv (va_runV (As := []) (rest := []) ⟨hx, hb, hml, hown, hts⟩ (kX4_step l dC dI bh br rh th tb sh cI cJ cB o12 o13 o14 o15 o16 fA o17 mmA wA tcA g1A g2A nuA erA reA liA lcA rm ry rf tl o3 o4 o5 o6 tpA sw st sf sq ⟨by omega, by omega, by omega, hbo16, hbo17, herA, hliA, hlcA⟩ H.size) (cwV 0 hts zgX2_readsHead_X4_step_54 rfl rfl rfl (by decide +kernel) ⟨(show 1 + 1 ≤ 3 by omega), (show 8 + (2 + 11) + 21 ≤ 65 by omega)⟩) (zVk (ci := 3) (q0 := 18) (q := (RX4, TX4, 6)) hK hP hD hE rfl rfl rfl) rfl rfl hl.1 rfl (lv_room (Nat.le_of_ble_eq_true rfl)) dX2_readsHead_136 ⟨(show 0 + 0 ≤ 0 by omega), (show 0 + 0 ≤ 0 by omega)⟩) hS (fun q _ h => hFc q h) hFc (fun u24 t H1 locs ht hvm hw hB hz1 hk1 hS => ?_)
          obtain ⟨o20, o21, o22, o23⟩ := u24
          obtain ⟨hP, hK9, hD⟩ := hB
          rw [ht] at hP
          have hD := hD.weaken (fun k q _ h => hFc q.1 h)
          generalize H1 = H at hP hS
          have hP : va_P (dC, dI) vwCl (kW bh br rh th tb sh cI cJ cB (nI o12) o13 o14 o15 (fun j => nI (o16 j)) fA (fun j => nI (o17 j)) mmA wA tcA g1A g2A nuA (fun j => nI (erA j)) reA (fun j => nI (liA j)) (fun j => nI (lcA j)) rm ry rf (nI tl) (nI o20) o21 o22 o23 tpA sw st sf sq) H := hP
          have hD : va_D A (kW bh br rh th tb sh cI cJ cB (nI o12) o13 o14 o15 (fun j => nI (o16 j)) fA (fun j => nI (o17 j)) mmA wA tcA g1A g2A nuA (fun j => nI (erA j)) reA (fun j => nI (liA j)) (fun j => nI (lcA j)) rm ry rf (nI tl) (nI o20) o21 o22 o23 tpA sw st sf sq) := hD
          have hw : (o3 ≤ o20) ∧ (o20 ≤ tl) := hw
          obtain ⟨w0r19, w1r19⟩ := hw
          refine lv_aload_n hx hb dX2_readsHead_139 rfl (lv_at hl 0 rfl) ?_
          refine lv_aload_n hx hb dX2_readsHead_140 rfl (lv_at hl 1 rfl) ?_
          have hFc := z_freeW hD hS hA
          refine va_calli (va_runV (As := [.ref bh]) (rest := []) ⟨hx, hb, hml, hown, hts⟩ (kX2_readsAbove l dC dI bh br rh th tb sh cI cJ cB o12 o13 o14 o15 o16 fA o17 mmA wA tcA g1A g2A nuA erA reA liA lcA rm ry rf tl o20 o21 o22 o23 tpA sw st sf sq ⟨by omega, by omega, by omega, hbo16, hbo17, herA, hliA, hlcA⟩ (by first | omega | assumption | trivial) H.size) (cwV 1 hts zgX2_readsHead_X2_readsAbove_86 rfl rfl rfl (by decide +kernel) ⟨(show 2 + 1 ≤ 3 by omega), (show 8 + (2 + 11) + 42 ≤ 65 by omega)⟩) (zVk (ci := 1) (q0 := 17) (q := (RX2, TX2, 5)) hK hP hD hE rfl rfl rfl) rfl rfl hl.1 rfl (lv_room (Nat.le_of_ble_eq_true rfl)) dX2_readsHead_141 ⟨(show 0 + 0 ≤ 0 by omega), (show 0 + 0 ≤ 0 by omega)⟩) hS (fun q _ h => hFc q h) hFc (fun r25 u32 t H1 locs ht hvm hw hB hz1 hk1 hS => ?_)
          obtain ⟨o26, o27, o28, o29, o30, o31⟩ := u32
          obtain ⟨hP, hK9, hD⟩ := hB
          rw [ht] at hP
          have hD := hD.weaken (fun k q _ h => hFc q.1 h)
          generalize H1 = H at hP hS
          have hP : va_P (dC, dI) vwCl (kW bh br rh th tb sh cI cJ cB (nI o12) o13 o14 o31 (fun j => nI (o16 j)) fA (fun j => nI (o17 j)) mmA wA tcA g1A g2A nuA (fun j => nI (erA j)) reA (fun j => nI (liA j)) (fun j => nI (lcA j)) rm ry o30 (nI tl) (nI o26) o27 o28 o29 tpA sw st sf sq) H := hP
          have hD : va_D A (kW bh br rh th tb sh cI cJ cB (nI o12) o13 o14 o31 (fun j => nI (o16 j)) fA (fun j => nI (o17 j)) mmA wA tcA g1A g2A nuA (fun j => nI (erA j)) reA (fun j => nI (liA j)) (fun j => nI (lcA j)) rm ry o30 (nI tl) (nI o26) o27 o28 o29 tpA sw st sf sq) := hD
          have hw : (r25 = 0 ∨ r25 = 1) ∧ (o26 ≤ tl) := hw
          obtain ⟨w0r25, w1r25⟩ := hw
          refine lv_if_eq (tgt := 168) hx hb dX2_readsHead_144 (by decide) (fun cp144 => ?_) (fun cp144 => ?_)
          · refine lv_iconst (v := 0) hx hb dX2_readsHead_168 (by decide) ?_
            have hP9 : va_P (dC, dI) vwCl (kW bh br rh th tb sh cI cJ cB (nI o12) o13 o14 o31 (fun j => nI (o16 j)) fA (fun j => nI (o17 j)) mmA wA tcA g1A g2A nuA (fun j => nI (erA j)) reA (fun j => nI (liA j)) (fun j => nI (lcA j)) rm ry o30 (nI tl) (nI o26) o27 o28 o29 tpA sw st sf sq) H := hP
            have hD9 : va_D A (kW bh br rh th tb sh cI cJ cB (nI o12) o13 o14 o31 (fun j => nI (o16 j)) fA (fun j => nI (o17 j)) mmA wA tcA g1A g2A nuA (fun j => nI (erA j)) reA (fun j => nI (liA j)) (fun j => nI (lcA j)) rm ry o30 (nI tl) (nI o26) o27 o28 o29 tpA sw st sf sq) := hD
            exact W.zret (v := (0 : Int32)) hx hb hr rfl (fun t ht hW => ⟨⟨(0 : Int32), (o26, o27, o28, o29, o30, o12, o13, o14, o31, o16, o17, fA), rfl, ⟨(Or.inl rfl), (show o26 ≤ tl from (by omega)), (show o12 ≤ 16 from (by omega)), (show ((0 : Int32)) = 1 → 1 ≤ o12 from (by first | (intro h9; exact absurd h9 (by decide)) | (intro _; omega))), hbo16, hbo17⟩, by rw [ht]; exact hP9, va_K.moved hW.alike hK, hD9⟩, hS.F ht⟩) hS.2.2 dX2_readsHead_169
          · refine lv_aload_n hx hb dX2_readsHead_147 rfl (lv_at hl 0 rfl) ?_
            refine lv_aload_n hx hb dX2_readsHead_148 rfl (lv_at hl 1 rfl) ?_
            have hFc := z_freeW hD hS hA
            refine va_calli (va_runV (As := [.ref bh]) (rest := []) ⟨hx, hb, hml, hown, hts⟩ (kX2_readsFaces l dC dI bh br rh th tb sh cI cJ cB o12 o13 o14 o31 o16 fA o17 mmA wA tcA g1A g2A nuA erA reA liA lcA rm ry o30 tl o26 o27 o28 o29 tpA sw st sf sq ⟨by omega, by omega, by omega, hbo16, hbo17, herA, hliA, hlcA⟩ (by first | omega | assumption | trivial) (by first | omega | assumption | trivial) H.size) (cwV 1 hts zgX2_readsHead_X2_readsFaces_89 rfl rfl rfl (by decide +kernel) ⟨(show 2 + 1 ≤ 3 by omega), (show 8 + (4 + 11) + 42 ≤ 65 by omega)⟩) (zVk (ci := 1) (q0 := 17) (q := (RX2, TX2, 5)) hK hP hD hE rfl rfl rfl) rfl rfl hl.1 rfl (lv_room (Nat.le_of_ble_eq_true rfl)) dX2_readsHead_149 ⟨(show 0 + 0 ≤ 0 by omega), (show 0 + 0 ≤ 0 by omega)⟩) hS (fun q _ h => hFc q h) hFc (fun r33 u41 t H1 locs ht hvm hw hB hz1 hk1 hS => ?_)
            obtain ⟨o34, o35, o36, o37, o38, o39, o40⟩ := u41
            obtain ⟨hP, hK9, hD⟩ := hB
            rw [ht] at hP
            have hD := hD.weaken (fun k q _ h => hFc q.1 h)
            generalize H1 = H at hP hS
            have hP : va_P (dC, dI) vwCl (kW bh br rh th tb sh cI cJ cB (nI o12) o13 o14 o31 (fun j => nI (o40 j)) o39 (fun j => nI (o17 j)) mmA wA tcA g1A g2A nuA (fun j => nI (erA j)) reA (fun j => nI (liA j)) (fun j => nI (lcA j)) rm ry o38 (nI tl) (nI o34) o35 o36 o37 tpA sw st sf sq) H := hP
            have hD : va_D A (kW bh br rh th tb sh cI cJ cB (nI o12) o13 o14 o31 (fun j => nI (o40 j)) o39 (fun j => nI (o17 j)) mmA wA tcA g1A g2A nuA (fun j => nI (erA j)) reA (fun j => nI (liA j)) (fun j => nI (lcA j)) rm ry o38 (nI tl) (nI o34) o35 o36 o37 tpA sw st sf sq) := hD
            have hw : (r33 = 0 ∨ r33 = 1) ∧ (o34 ≤ tl) ∧ (∀ j, o40 j ≤ 3) := hw
            obtain ⟨w0r33, w1r33, hbo40⟩ := hw
            refine lv_if_eq (tgt := 168) hx hb dX2_readsHead_152 (by decide) (fun cp152 => ?_) (fun cp152 => ?_)
            · refine lv_iconst (v := 0) hx hb dX2_readsHead_168 (by decide) ?_
              have hP9 : va_P (dC, dI) vwCl (kW bh br rh th tb sh cI cJ cB (nI o12) o13 o14 o31 (fun j => nI (o40 j)) o39 (fun j => nI (o17 j)) mmA wA tcA g1A g2A nuA (fun j => nI (erA j)) reA (fun j => nI (liA j)) (fun j => nI (lcA j)) rm ry o38 (nI tl) (nI o34) o35 o36 o37 tpA sw st sf sq) H := hP
              have hD9 : va_D A (kW bh br rh th tb sh cI cJ cB (nI o12) o13 o14 o31 (fun j => nI (o40 j)) o39 (fun j => nI (o17 j)) mmA wA tcA g1A g2A nuA (fun j => nI (erA j)) reA (fun j => nI (liA j)) (fun j => nI (lcA j)) rm ry o38 (nI tl) (nI o34) o35 o36 o37 tpA sw st sf sq) := hD
              exact W.zret (v := (0 : Int32)) hx hb hr rfl (fun t ht hW => ⟨⟨(0 : Int32), (o34, o35, o36, o37, o38, o12, o13, o14, o31, o40, o17, o39), rfl, ⟨(Or.inl rfl), (show o34 ≤ tl from (by omega)), (show o12 ≤ 16 from (by omega)), (show ((0 : Int32)) = 1 → 1 ≤ o12 from (by first | (intro h9; exact absurd h9 (by decide)) | (intro _; omega))), hbo40, hbo17⟩, by rw [ht]; exact hP9, va_K.moved hW.alike hK, hD9⟩, hS.F ht⟩) hS.2.2 dX2_readsHead_169
            · refine lv_aload_n hx hb dX2_readsHead_155 rfl (lv_at hl 0 rfl) ?_
              refine lv_bipush (v := 123) hx hb dX2_readsHead_156 (by decide) ?_
              have hFc := z_freeW hD hS hA
              refine va_calli (va_runV (As := [.int 123]) (rest := []) ⟨hx, hb, hml, hown, hts⟩ (kX2_passes l dC dI bh br rh th tb sh cI cJ cB o12 o13 o14 o31 o40 o39 o17 mmA wA tcA g1A g2A nuA erA reA liA lcA rm ry o38 tl o34 o35 o36 o37 tpA sw st sf sq ⟨by omega, by omega, by omega, hbo40, hbo17, herA, hliA, hlcA⟩ (123 : Int32) H.size) (cwV 1 hts zgX2_readsHead_X2_passes_92 rfl rfl rfl (by decide +kernel) ⟨(show 2 + 1 ≤ 3 by omega), (show 8 + (2 + 11) + 42 ≤ 65 by omega)⟩) (zVk (ci := 1) (q0 := 17) (q := (RX2, TX2, 5)) hK hP hD hE rfl rfl rfl) rfl rfl hl.1 rfl (lv_room (Nat.le_of_ble_eq_true rfl)) dX2_readsHead_158 ⟨(show 0 + 0 ≤ 0 by omega), (show 0 + 0 ≤ 0 by omega)⟩) hS (fun q _ h => hFc q h) hFc (fun r42 u48 t H1 locs ht hvm hw hB hz1 hk1 hS => ?_)
              obtain ⟨o43, o44, o45, o46, o47⟩ := u48
              obtain ⟨hP, hK9, hD⟩ := hB
              rw [ht] at hP
              have hD := hD.weaken (fun k q _ h => hFc q.1 h)
              generalize H1 = H at hP hS
              have hP : va_P (dC, dI) vwCl (kW bh br rh th tb sh cI cJ cB (nI o12) o13 o14 o31 (fun j => nI (o40 j)) o39 (fun j => nI (o17 j)) mmA wA tcA g1A g2A nuA (fun j => nI (erA j)) reA (fun j => nI (liA j)) (fun j => nI (lcA j)) rm ry o47 (nI tl) (nI o43) o44 o45 o46 tpA sw st sf sq) H := hP
              have hD : va_D A (kW bh br rh th tb sh cI cJ cB (nI o12) o13 o14 o31 (fun j => nI (o40 j)) o39 (fun j => nI (o17 j)) mmA wA tcA g1A g2A nuA (fun j => nI (erA j)) reA (fun j => nI (liA j)) (fun j => nI (lcA j)) rm ry o47 (nI tl) (nI o43) o44 o45 o46 tpA sw st sf sq) := hD
              have hw : (r42 = 0 ∨ r42 = 1) ∧ (o43 ≤ tl) := hw
              obtain ⟨w0r42, w1r42⟩ := hw
              refine lv_if_eq (tgt := 168) hx hb dX2_readsHead_161 (by decide) (fun cp161 => ?_) (fun cp161 => ?_)
              · refine lv_iconst (v := 0) hx hb dX2_readsHead_168 (by decide) ?_
                have hP9 : va_P (dC, dI) vwCl (kW bh br rh th tb sh cI cJ cB (nI o12) o13 o14 o31 (fun j => nI (o40 j)) o39 (fun j => nI (o17 j)) mmA wA tcA g1A g2A nuA (fun j => nI (erA j)) reA (fun j => nI (liA j)) (fun j => nI (lcA j)) rm ry o47 (nI tl) (nI o43) o44 o45 o46 tpA sw st sf sq) H := hP
                have hD9 : va_D A (kW bh br rh th tb sh cI cJ cB (nI o12) o13 o14 o31 (fun j => nI (o40 j)) o39 (fun j => nI (o17 j)) mmA wA tcA g1A g2A nuA (fun j => nI (erA j)) reA (fun j => nI (liA j)) (fun j => nI (lcA j)) rm ry o47 (nI tl) (nI o43) o44 o45 o46 tpA sw st sf sq) := hD
                exact W.zret (v := (0 : Int32)) hx hb hr rfl (fun t ht hW => ⟨⟨(0 : Int32), (o43, o44, o45, o46, o47, o12, o13, o14, o31, o40, o17, o39), rfl, ⟨(Or.inl rfl), (show o43 ≤ tl from (by omega)), (show o12 ≤ 16 from (by omega)), (show ((0 : Int32)) = 1 → 1 ≤ o12 from (by first | (intro h9; exact absurd h9 (by decide)) | (intro _; omega))), hbo40, hbo17⟩, by rw [ht]; exact hP9, va_K.moved hW.alike hK, hD9⟩, hS.F ht⟩) hS.2.2 dX2_readsHead_169
              · refine lv_iconst (v := 1) hx hb dX2_readsHead_164 (by decide) ?_
                refine lv_goto (tgt := 169) hx hb dX2_readsHead_165 (by decide) ?_
                have hP9 : va_P (dC, dI) vwCl (kW bh br rh th tb sh cI cJ cB (nI o12) o13 o14 o31 (fun j => nI (o40 j)) o39 (fun j => nI (o17 j)) mmA wA tcA g1A g2A nuA (fun j => nI (erA j)) reA (fun j => nI (liA j)) (fun j => nI (lcA j)) rm ry o47 (nI tl) (nI o43) o44 o45 o46 tpA sw st sf sq) H := hP
                have hD9 : va_D A (kW bh br rh th tb sh cI cJ cB (nI o12) o13 o14 o31 (fun j => nI (o40 j)) o39 (fun j => nI (o17 j)) mmA wA tcA g1A g2A nuA (fun j => nI (erA j)) reA (fun j => nI (liA j)) (fun j => nI (lcA j)) rm ry o47 (nI tl) (nI o43) o44 o45 o46 tpA sw st sf sq) := hD
                exact W.zret (v := (1 : Int32)) hx hb hr rfl (fun t ht hW => ⟨⟨(1 : Int32), (o43, o44, o45, o46, o47, o12, o13, o14, o31, o40, o17, o39), rfl, ⟨(Or.inr rfl), (show o43 ≤ tl from (by omega)), (show o12 ≤ 16 from (by omega)), (show ((1 : Int32)) = 1 → 1 ≤ o12 from (by first | (intro h9; exact absurd h9 (by decide)) | (intro _; omega))), hbo40, hbo17⟩, by rw [ht]; exact hP9, va_K.moved hW.alike hK, hD9⟩, hS.F ht⟩) hS.2.2 dX2_readsHead_169
        · obtain ⟨k49, hBk49, hQk49, rfl⟩ := w0r9.resolve_left cp110
          refine lv_aload_n hx hb dX2_readsHead_113 rfl (lv_at hl 0 rfl) ?_
          refine lv_iconst (v := 3) hx hb dX2_readsHead_114 (by decide) ?_
          have hFc := z_freeW hD hS hA
          refine va_calli (va_runV (As := [.int 3]) (rest := []) ⟨hx, hb, hml, hown, hts⟩ (kX2_refuse l dC dI bh br rh th tb sh cI cJ cB cc nA mA aA fcA fA mcA mmA wA tcA g1A g2A nuA erA reA liA lcA rm ry rf tl o3 o4 o5 o6 tpA sw st sf sq ⟨by omega, by omega, by omega, hfcA, hmcA, herA, hliA, hlcA⟩ (3 : Int32) H.size) (cwV 1 hts zgX2_readsHead_X2_refuse_67 rfl rfl rfl (by decide +kernel) ⟨(show 0 + 1 ≤ 3 by omega), (show 8 + (2 + 11) + 0 ≤ 65 by omega)⟩) (zVk (ci := 1) (q0 := 17) (q := (RX2, TX2, 5)) hK hP hD hE rfl rfl rfl) rfl rfl hl.1 rfl (lv_room (Nat.le_of_ble_eq_true rfl)) dX2_readsHead_115 ⟨(show 0 + 0 ≤ 0 by omega), (show 0 + 0 ≤ 0 by omega)⟩) hS (fun q _ h => hFc q h) hFc (fun r50 o51 t H1 locs ht hvm hw hB hz1 hk1 hS => ?_)
          obtain ⟨hP, hK9, hD⟩ := hB
          rw [ht] at hP
          have hD := hD.weaken (fun k q _ h => hFc q.1 h)
          generalize H1 = H at hP hS
          have hP : va_P (dC, dI) vwCl (kW bh br rh th tb sh cI cJ cB (nI cc) nA mA aA (fun j => nI (fcA j)) fA (fun j => nI (mcA j)) mmA wA tcA g1A g2A nuA (fun j => nI (erA j)) reA (fun j => nI (liA j)) (fun j => nI (lcA j)) rm ry o51 (nI tl) (nI o3) o4 o5 o6 tpA sw st sf sq) H := hP
          have hD : va_D A (kW bh br rh th tb sh cI cJ cB (nI cc) nA mA aA (fun j => nI (fcA j)) fA (fun j => nI (mcA j)) mmA wA tcA g1A g2A nuA (fun j => nI (erA j)) reA (fun j => nI (liA j)) (fun j => nI (lcA j)) rm ry o51 (nI tl) (nI o3) o4 o5 o6 tpA sw st sf sq) := hD
          have hw : (r50 = 0 ∨ r50 = 1) ∧ (r50 = 0) := hw
          obtain ⟨w0r50, w1r50⟩ := hw
          subst w1r50
          have hP9 : va_P (dC, dI) vwCl (kW bh br rh th tb sh cI cJ cB (nI cc) nA mA aA (fun j => nI (fcA j)) fA (fun j => nI (mcA j)) mmA wA tcA g1A g2A nuA (fun j => nI (erA j)) reA (fun j => nI (liA j)) (fun j => nI (lcA j)) rm ry o51 (nI tl) (nI o3) o4 o5 o6 tpA sw st sf sq) H := hP
          have hD9 : va_D A (kW bh br rh th tb sh cI cJ cB (nI cc) nA mA aA (fun j => nI (fcA j)) fA (fun j => nI (mcA j)) mmA wA tcA g1A g2A nuA (fun j => nI (erA j)) reA (fun j => nI (liA j)) (fun j => nI (lcA j)) rm ry o51 (nI tl) (nI o3) o4 o5 o6 tpA sw st sf sq) := hD
          exact W.zret (v := (0 : Int32)) hx hb hr rfl (fun t ht hW => ⟨⟨(0 : Int32), (o3, o4, o5, o6, o51, cc, nA, mA, aA, fcA, mcA, fA), rfl, ⟨(Or.inl rfl), (show o3 ≤ tl from (by omega)), (show cc ≤ 16 from (by omega)), (show ((0 : Int32)) = 1 → 1 ≤ cc from (by first | (intro h9; exact absurd h9 (by decide)) | (intro _; omega))), hfcA, hmcA⟩, by rw [ht]; exact hP9, va_K.moved hW.alike hK, hD9⟩, hS.F ht⟩) hS.2.2 dX2_readsHead_118
      · refine lv_aload_n hx hb dX2_readsHead_91 rfl (lv_at hl 0 rfl) ?_
        refine lv_iconst (v := 1) hx hb dX2_readsHead_92 (by decide) ?_
        have hFc := z_freeW hD hS hA
        refine va_calli (va_runV (As := [.int 1]) (rest := []) ⟨hx, hb, hml, hown, hts⟩ (kX2_refuse l dC dI bh br rh th tb sh cI cJ cB cc nA mA aA fcA fA mcA mmA wA tcA g1A g2A nuA erA reA liA lcA rm ry rf tl o3 o4 o5 o6 tpA sw st sf sq ⟨by omega, by omega, by omega, hfcA, hmcA, herA, hliA, hlcA⟩ (1 : Int32) H.size) (cwV 1 hts zgX2_readsHead_X2_refuse_67 rfl rfl rfl (by decide +kernel) ⟨(show 0 + 1 ≤ 3 by omega), (show 8 + (2 + 11) + 0 ≤ 65 by omega)⟩) (zVk (ci := 1) (q0 := 17) (q := (RX2, TX2, 5)) hK hP hD hE rfl rfl rfl) rfl rfl hl.1 rfl (lv_room (Nat.le_of_ble_eq_true rfl)) dX2_readsHead_93 ⟨(show 0 + 0 ≤ 0 by omega), (show 0 + 0 ≤ 0 by omega)⟩) hS (fun q _ h => hFc q h) hFc (fun r52 o53 t H1 locs ht hvm hw hB hz1 hk1 hS => ?_)
        obtain ⟨hP, hK9, hD⟩ := hB
        rw [ht] at hP
        have hD := hD.weaken (fun k q _ h => hFc q.1 h)
        generalize H1 = H at hP hS
        have hP : va_P (dC, dI) vwCl (kW bh br rh th tb sh cI cJ cB (nI cc) nA mA aA (fun j => nI (fcA j)) fA (fun j => nI (mcA j)) mmA wA tcA g1A g2A nuA (fun j => nI (erA j)) reA (fun j => nI (liA j)) (fun j => nI (lcA j)) rm ry o53 (nI tl) (nI o3) o4 o5 o6 tpA sw st sf sq) H := hP
        have hD : va_D A (kW bh br rh th tb sh cI cJ cB (nI cc) nA mA aA (fun j => nI (fcA j)) fA (fun j => nI (mcA j)) mmA wA tcA g1A g2A nuA (fun j => nI (erA j)) reA (fun j => nI (liA j)) (fun j => nI (lcA j)) rm ry o53 (nI tl) (nI o3) o4 o5 o6 tpA sw st sf sq) := hD
        have hw : (r52 = 0 ∨ r52 = 1) ∧ (r52 = 0) := hw
        obtain ⟨w0r52, w1r52⟩ := hw
        subst w1r52
        have hP9 : va_P (dC, dI) vwCl (kW bh br rh th tb sh cI cJ cB (nI cc) nA mA aA (fun j => nI (fcA j)) fA (fun j => nI (mcA j)) mmA wA tcA g1A g2A nuA (fun j => nI (erA j)) reA (fun j => nI (liA j)) (fun j => nI (lcA j)) rm ry o53 (nI tl) (nI o3) o4 o5 o6 tpA sw st sf sq) H := hP
        have hD9 : va_D A (kW bh br rh th tb sh cI cJ cB (nI cc) nA mA aA (fun j => nI (fcA j)) fA (fun j => nI (mcA j)) mmA wA tcA g1A g2A nuA (fun j => nI (erA j)) reA (fun j => nI (liA j)) (fun j => nI (lcA j)) rm ry o53 (nI tl) (nI o3) o4 o5 o6 tpA sw st sf sq) := hD
        exact W.zret (v := (0 : Int32)) hx hb hr rfl (fun t ht hW => ⟨⟨(0 : Int32), (o3, o4, o5, o6, o53, cc, nA, mA, aA, fcA, mcA, fA), rfl, ⟨(Or.inl rfl), (show o3 ≤ tl from (by omega)), (show cc ≤ 16 from (by omega)), (show ((0 : Int32)) = 1 → 1 ≤ cc from (by first | (intro h9; exact absurd h9 (by decide)) | (intro _; omega))), hfcA, hmcA⟩, by rw [ht]; exact hP9, va_K.moved hW.alike hK, hD9⟩, hS.F ht⟩) hS.2.2 dX2_readsHead_96
    · refine lv_aload_n hx hb dX2_readsHead_67 rfl (lv_at hl 0 rfl) ?_
      refine lv_iconst (v := 1) hx hb dX2_readsHead_68 (by decide) ?_
      have hFc := z_freeW hD hS hA
      refine va_calli (va_runV (As := [.int 1]) (rest := []) ⟨hx, hb, hml, hown, hts⟩ (kX2_refuse l dC dI bh br rh th tb sh cI cJ cB cc nA mA aA fcA fA mcA mmA wA tcA g1A g2A nuA erA reA liA lcA rm ry rf tl b2 s2 so2 v2 tpA sw st sf sq ⟨by omega, by omega, by omega, hfcA, hmcA, herA, hliA, hlcA⟩ (1 : Int32) H.size) (cwV 1 hts zgX2_readsHead_X2_refuse_67 rfl rfl rfl (by decide +kernel) ⟨(show 0 + 1 ≤ 3 by omega), (show 8 + (2 + 11) + 0 ≤ 65 by omega)⟩) (zVk (ci := 1) (q0 := 17) (q := (RX2, TX2, 5)) hK hP hD hE rfl rfl rfl) rfl rfl hl.1 rfl (lv_room (Nat.le_of_ble_eq_true rfl)) dX2_readsHead_69 ⟨(show 0 + 0 ≤ 0 by omega), (show 0 + 0 ≤ 0 by omega)⟩) hS (fun q _ h => hFc q h) hFc (fun r54 o55 t H1 locs ht hvm hw hB hz1 hk1 hS => ?_)
      obtain ⟨hP, hK9, hD⟩ := hB
      rw [ht] at hP
      have hD := hD.weaken (fun k q _ h => hFc q.1 h)
      generalize H1 = H at hP hS
      have hP : va_P (dC, dI) vwCl (kW bh br rh th tb sh cI cJ cB (nI cc) nA mA aA (fun j => nI (fcA j)) fA (fun j => nI (mcA j)) mmA wA tcA g1A g2A nuA (fun j => nI (erA j)) reA (fun j => nI (liA j)) (fun j => nI (lcA j)) rm ry o55 (nI tl) (nI b2) s2 so2 v2 tpA sw st sf sq) H := hP
      have hD : va_D A (kW bh br rh th tb sh cI cJ cB (nI cc) nA mA aA (fun j => nI (fcA j)) fA (fun j => nI (mcA j)) mmA wA tcA g1A g2A nuA (fun j => nI (erA j)) reA (fun j => nI (liA j)) (fun j => nI (lcA j)) rm ry o55 (nI tl) (nI b2) s2 so2 v2 tpA sw st sf sq) := hD
      have hw : (r54 = 0 ∨ r54 = 1) ∧ (r54 = 0) := hw
      obtain ⟨w0r54, w1r54⟩ := hw
      subst w1r54
      have hP9 : va_P (dC, dI) vwCl (kW bh br rh th tb sh cI cJ cB (nI cc) nA mA aA (fun j => nI (fcA j)) fA (fun j => nI (mcA j)) mmA wA tcA g1A g2A nuA (fun j => nI (erA j)) reA (fun j => nI (liA j)) (fun j => nI (lcA j)) rm ry o55 (nI tl) (nI b2) s2 so2 v2 tpA sw st sf sq) H := hP
      have hD9 : va_D A (kW bh br rh th tb sh cI cJ cB (nI cc) nA mA aA (fun j => nI (fcA j)) fA (fun j => nI (mcA j)) mmA wA tcA g1A g2A nuA (fun j => nI (erA j)) reA (fun j => nI (liA j)) (fun j => nI (lcA j)) rm ry o55 (nI tl) (nI b2) s2 so2 v2 tpA sw st sf sq) := hD
      exact W.zret (v := (0 : Int32)) hx hb hr rfl (fun t ht hW => ⟨⟨(0 : Int32), (b2, s2, so2, v2, o55, cc, nA, mA, aA, fcA, mcA, fA), rfl, ⟨(Or.inl rfl), (show b2 ≤ tl from (by omega)), (show cc ≤ 16 from (by omega)), (show ((0 : Int32)) = 1 → 1 ≤ cc from (by first | (intro h9; exact absurd h9 (by decide)) | (intro _; omega))), hfcA, hmcA⟩, by rw [ht]; exact hP9, va_K.moved hW.alike hK, hD9⟩, hS.F ht⟩) hS.2.2 dX2_readsHead_72
  have J28 : ∀ (mk : Int32) (H : Heap) (locs : List Loc) (ls : Array Slot), va_P (dC, dI) vwCl (kW bh br rh th tb sh cI cJ cB (nI cc) nA mA aA (fun j => nI (fcA j)) fA (fun j => nI (mcA j)) mmA wA tcA g1A g2A nuA (fun j => nI (erA j)) reA (fun j => nI (liA j)) (fun j => nI (lcA j)) rm ry rf (nI tl) (nI ta) ts so tv tpA sw st sf sq) H → va_D A (kW bh br rh th tb sh cI cJ cB (nI cc) nA mA aA (fun j => nI (fcA j)) fA (fun j => nI (mcA j)) mmA wA tcA g1A g2A nuA (fun j => nI (erA j)) reA (fun j => nI (liA j)) (fun j => nI (lcA j)) rm ry rf (nI tl) (nI ta) ts so tv tpA sw st sf sq) → va_S A s.heap H locs → lv_has ls 3 [(0, .ref rh), (1, .ref bh), (2, .int mk)] → W p l e (headSpec zwX2_readsHead { frames := 3, cells := 0, slots := 0, locals := 65 }).room s m (([.ref rh, .ref bh] : List Value).toArray) below meth c H locs 0 0 (MQ below (va_Qi (fun (r : Int32) (u : Nat × Int32 × Int32 × Int64 × Int32 × Nat × (Nat → Int32) × (Nat → Int32) × (Nat → Int32) × (Nat → Nat) × (Nat → Nat) × (Nat → Int32)) => (r = 0 ∨ r = 1) ∧ ((u.1) ≤ tl) ∧ ((u.2.2.2.2.2.1) ≤ 16) ∧ (r = 1 → 1 ≤ (u.2.2.2.2.2.1)) ∧ (∀ j, (u.2.2.2.2.2.2.2.2.2.1) j ≤ 3) ∧ (∀ j, (u.2.2.2.2.2.2.2.2.2.2.1) j ≤ 12)) (fun u t => zB dC dI (A) (kW bh br rh th tb sh cI cJ cB (nI (u.2.2.2.2.2.1)) (u.2.2.2.2.2.2.1) (u.2.2.2.2.2.2.2.1) (u.2.2.2.2.2.2.2.2.1) (fun j => nI ((u.2.2.2.2.2.2.2.2.2.1) j)) (u.2.2.2.2.2.2.2.2.2.2.2) (fun j => nI ((u.2.2.2.2.2.2.2.2.2.2.1) j)) mmA wA tcA g1A g2A nuA (fun j => nI (erA j)) reA (fun j => nI (liA j)) (fun j => nI (lcA j)) rm ry (u.2.2.2.2.1) (nI tl) (nI (u.1)) (u.2.1) (u.2.2.1) (u.2.2.2.1) tpA sw st sf sq) [(cI, .int), (cJ, .long), (cB, .byte)] t) (A)) (([.ref rh, .ref bh] : List Value).toArray) s 0 0 A) (F0 m 28 ls []) := by
    intro mk H locs ls  hP hD hS hl
    refine lv_aload_n hx hb dX2_readsHead_28 rfl (lv_at hl 1 rfl) ?_
    refine va_get (D := (dC, dI)) (ci := 0) (v := .int (nI cc)) (C := RX0) (T := TX0) (N := 17) hx hb hts hiX0 hown hK hP 0 rfl rfl 0 (by decide) (hts (.fieldLink RX2 71 "LinkModels$Build" "classCount" "I") (by decide +kernel)) (fun _ h9 => h9) rfl dX2_readsHead_29 ?_
    refine lv_bipush (v := 16) hx hb dX2_readsHead_32 (by decide) ?_
    refine lv_icmp_lt (tgt := 43) hx hb dX2_readsHead_34 (by decide) (fun cp34 => ?_) (fun cp34 => ?_)
    · have qcp34 : cc < 16 := (nI_ltI (a := cc) (b := 16) (by omega) (by omega)).mp cp34
      refine lv_iload_n hx hb dX2_readsHead_43 rfl (lv_at hl 2 rfl) ?_
      refine lv_if_eq (tgt := 54) hx hb dX2_readsHead_44 (by decide) (fun cp44 => ?_) (fun cp44 => ?_)
      · exact J54 mk ta ts so tv _ _ ls  (by first | omega | assumption | trivial) (by first | omega | assumption | trivial) hP hD hS (lv_sub hl [0, 1, 2] rfl)
      · refine lv_aload_n hx hb dX2_readsHead_47 rfl (lv_at hl 0 rfl) ?_
        refine va_get (D := (dC, dI)) (ci := 1) (v := .ref th) (C := RX2) (T := TX2) (N := 5) hx hb hts hiX2 hown hK hP 17 rfl rfl 0 (by decide) (hts (.fieldLink RX2 14 "LinkModels$Reader" "tokens" "LLinkModels$Tokens;") (by decide +kernel)) (fun _ h9 => h9) rfl dX2_readsHead_48 ?_
        have hFc := z_freeW hD hS hA
        refine va_callv (va_runV (As := []) (rest := []) ⟨hx, hb, hml, hown, hts⟩ (kX4_step l dC dI bh br rh th tb sh cI cJ cB cc nA mA aA fcA fA mcA mmA wA tcA g1A g2A nuA erA reA liA lcA rm ry rf tl ta ts so tv tpA sw st sf sq ⟨by omega, by omega, by omega, hfcA, hmcA, herA, hliA, hlcA⟩ H.size) (cwV 0 hts zgX2_readsHead_X4_step_54 rfl rfl rfl (by decide +kernel) ⟨(show 1 + 1 ≤ 3 by omega), (show 8 + (2 + 11) + 21 ≤ 65 by omega)⟩) (zVk (ci := 3) (q0 := 18) (q := (RX4, TX4, 6)) hK hP hD hE rfl rfl rfl) rfl rfl hl.1 rfl (lv_room (Nat.le_of_ble_eq_true rfl)) dX2_readsHead_51 ⟨(show 0 + 0 ≤ 0 by omega), (show 0 + 0 ≤ 0 by omega)⟩) hS (fun q _ h => hFc q h) hFc (fun u61 t H1 locs ht hvm hw hB hz1 hk1 hS => ?_)
        obtain ⟨o57, o58, o59, o60⟩ := u61
        obtain ⟨hP, hK9, hD⟩ := hB
        rw [ht] at hP
        have hD := hD.weaken (fun k q _ h => hFc q.1 h)
        generalize H1 = H at hP hS
        have hP : va_P (dC, dI) vwCl (kW bh br rh th tb sh cI cJ cB (nI cc) nA mA aA (fun j => nI (fcA j)) fA (fun j => nI (mcA j)) mmA wA tcA g1A g2A nuA (fun j => nI (erA j)) reA (fun j => nI (liA j)) (fun j => nI (lcA j)) rm ry rf (nI tl) (nI o57) o58 o59 o60 tpA sw st sf sq) H := hP
        have hD : va_D A (kW bh br rh th tb sh cI cJ cB (nI cc) nA mA aA (fun j => nI (fcA j)) fA (fun j => nI (mcA j)) mmA wA tcA g1A g2A nuA (fun j => nI (erA j)) reA (fun j => nI (liA j)) (fun j => nI (lcA j)) rm ry rf (nI tl) (nI o57) o58 o59 o60 tpA sw st sf sq) := hD
        have hw : (ta ≤ o57) ∧ (o57 ≤ tl) := hw
        obtain ⟨w0r56, w1r56⟩ := hw
        exact J54 mk o57 o58 o59 o60 _ _ ls  (by first | omega | assumption | trivial) (by first | omega | assumption | trivial) hP hD hS (lv_sub hl [0, 1, 2] rfl)
    · have qcp34 : ¬ cc < 16 := fun h9 => cp34 ((nI_ltI (a := cc) (b := 16) (by omega) (by omega)).mpr h9)
      refine lv_aload_n hx hb dX2_readsHead_37 rfl (lv_at hl 0 rfl) ?_
      refine lv_iconst (v := 2) hx hb dX2_readsHead_38 (by decide) ?_
      have hFc := z_freeW hD hS hA
      refine va_calli (va_runV (As := [.int 2]) (rest := []) ⟨hx, hb, hml, hown, hts⟩ (kX2_refuse l dC dI bh br rh th tb sh cI cJ cB cc nA mA aA fcA fA mcA mmA wA tcA g1A g2A nuA erA reA liA lcA rm ry rf tl ta ts so tv tpA sw st sf sq ⟨by omega, by omega, by omega, hfcA, hmcA, herA, hliA, hlcA⟩ (2 : Int32) H.size) (cwV 1 hts zgX2_readsHead_X2_refuse_67 rfl rfl rfl (by decide +kernel) ⟨(show 0 + 1 ≤ 3 by omega), (show 8 + (2 + 11) + 0 ≤ 65 by omega)⟩) (zVk (ci := 1) (q0 := 17) (q := (RX2, TX2, 5)) hK hP hD hE rfl rfl rfl) rfl rfl hl.1 rfl (lv_room (Nat.le_of_ble_eq_true rfl)) dX2_readsHead_39 ⟨(show 0 + 0 ≤ 0 by omega), (show 0 + 0 ≤ 0 by omega)⟩) hS (fun q _ h => hFc q h) hFc (fun r62 o63 t H1 locs ht hvm hw hB hz1 hk1 hS => ?_)
      obtain ⟨hP, hK9, hD⟩ := hB
      rw [ht] at hP
      have hD := hD.weaken (fun k q _ h => hFc q.1 h)
      generalize H1 = H at hP hS
      have hP : va_P (dC, dI) vwCl (kW bh br rh th tb sh cI cJ cB (nI cc) nA mA aA (fun j => nI (fcA j)) fA (fun j => nI (mcA j)) mmA wA tcA g1A g2A nuA (fun j => nI (erA j)) reA (fun j => nI (liA j)) (fun j => nI (lcA j)) rm ry o63 (nI tl) (nI ta) ts so tv tpA sw st sf sq) H := hP
      have hD : va_D A (kW bh br rh th tb sh cI cJ cB (nI cc) nA mA aA (fun j => nI (fcA j)) fA (fun j => nI (mcA j)) mmA wA tcA g1A g2A nuA (fun j => nI (erA j)) reA (fun j => nI (liA j)) (fun j => nI (lcA j)) rm ry o63 (nI tl) (nI ta) ts so tv tpA sw st sf sq) := hD
      have hw : (r62 = 0 ∨ r62 = 1) ∧ (r62 = 0) := hw
      obtain ⟨w0r62, w1r62⟩ := hw
      subst w1r62
      have hP9 : va_P (dC, dI) vwCl (kW bh br rh th tb sh cI cJ cB (nI cc) nA mA aA (fun j => nI (fcA j)) fA (fun j => nI (mcA j)) mmA wA tcA g1A g2A nuA (fun j => nI (erA j)) reA (fun j => nI (liA j)) (fun j => nI (lcA j)) rm ry o63 (nI tl) (nI ta) ts so tv tpA sw st sf sq) H := hP
      have hD9 : va_D A (kW bh br rh th tb sh cI cJ cB (nI cc) nA mA aA (fun j => nI (fcA j)) fA (fun j => nI (mcA j)) mmA wA tcA g1A g2A nuA (fun j => nI (erA j)) reA (fun j => nI (liA j)) (fun j => nI (lcA j)) rm ry o63 (nI tl) (nI ta) ts so tv tpA sw st sf sq) := hD
      exact W.zret (v := (0 : Int32)) hx hb hr rfl (fun t ht hW => ⟨⟨(0 : Int32), (ta, ts, so, tv, o63, cc, nA, mA, aA, fcA, mcA, fA), rfl, ⟨(Or.inl rfl), (show ta ≤ tl from (by omega)), (show cc ≤ 16 from (by omega)), (show ((0 : Int32)) = 1 → 1 ≤ cc from (by first | (intro h9; exact absurd h9 (by decide)) | (intro _; omega))), hfcA, hmcA⟩, by rw [ht]; exact hP9, va_K.moved hW.alike hK, hD9⟩, hS.F ht⟩) hS.2.2 dX2_readsHead_42
  refine lv_aload_n hx hb dX2_readsHead_0 rfl (lv_at hl 0 rfl) ?_
  refine vp_callSi (W.runV (As := []) (rest := []) ⟨hx, hb, hml, hown, hts⟩ (kX2_classMarkHere l dC dI rh th tb sh cI cJ cB rm ry rf tl ta ts so tv tpA sw st sf sq ⟨by omega, by omega⟩) (cwV 0 hts zgX2_readsHead_X2_classMarkHere_57 rfl rfl rfl (by decide +kernel) ⟨(show 1 + 1 ≤ 3 by omega), (show 8 + (1 + 11) + 22 ≤ 65 by omega)⟩) (zVq (ci := 1) (q0 := 0) (q := (RX2, TX2, 5)) hK (hP.sub (ws' := (rdW rh th tb sh cI cJ cB rm ry rf (nI tl) (nI ta) ts so tv tpA sw st sf sq)) [17, 18, 19, 20] rfl) hE rfl rfl rfl) rfl rfl hl.1 rfl (lv_room (Nat.le_of_ble_eq_true rfl)) dX2_readsHead_1 ⟨(show 0 + 0 ≤ 0 by omega), (show 0 + 0 ≤ 0 by omega)⟩) (fun r64 hw => ?_)
  have hw : (True) := hw
  have w0r64 := hw
  refine lv_istore_n (lv' := [(2, .int r64), (0, .ref rh), (1, .ref bh)]) hx hb dX2_readsHead_4 rfl hl (by decide) rfl (fun ls hl => ?_)
  refine lv_iload_n hx hb dX2_readsHead_5 rfl (lv_at hl 0 rfl) ?_
  refine lv_if_ne (tgt := 28) hx hb dX2_readsHead_6 (by decide) (fun cp6 => ?_) (fun cp6 => ?_)
  · exact J28 r64 _ _ ls  hP hD hS (lv_sub hl [1, 2, 0] rfl)
  · refine lv_aload_n hx hb dX2_readsHead_9 rfl (lv_at hl 1 rfl) ?_
    refine va_get (D := (dC, dI)) (ci := 1) (v := .ref th) (C := RX2) (T := TX2) (N := 5) hx hb hts hiX2 hown hK hP 17 rfl rfl 0 (by decide) (hts (.fieldLink RX2 14 "LinkModels$Reader" "tokens" "LLinkModels$Tokens;") (by decide +kernel)) (fun _ h9 => h9) rfl dX2_readsHead_10 ?_
    refine lv_ldc2 (v := 427020088179) hx hb hown (hts (.constantLong RX2 61 (427020088179)) (by decide +kernel)) dX2_readsHead_13 ?_
    refine vp_callSi (W.runV (As := [.long 427020088179]) (rest := []) ⟨hx, hb, hml, hown, hts⟩ (kX4_isWord l dC dI rh th tb sh cI cJ cB rm ry rf tl ta ts so tv tpA sw st sf sq ⟨by omega, by omega⟩ (427020088179 : Int64)) (cwV 1 hts zgX2_readsHead_X4_isWord_63 rfl rfl rfl (by decide +kernel) ⟨(show 0 + 1 ≤ 3 by omega), (show 8 + (3 + 11) + 0 ≤ 65 by omega)⟩) (zVq (ci := 3) (q0 := 1) (q := (RX4, TX4, 6)) hK (hP.sub (ws' := (rdW rh th tb sh cI cJ cB rm ry rf (nI tl) (nI ta) ts so tv tpA sw st sf sq)) [17, 18, 19, 20] rfl) hE rfl rfl rfl) rfl rfl hl.1 rfl (lv_room (Nat.le_of_ble_eq_true rfl)) dX2_readsHead_16 ⟨(show 0 + 0 ≤ 0 by omega), (show 0 + 0 ≤ 0 by omega)⟩) (fun r65 hw => ?_)
    have hw : (r65 = 0 ∨ r65 = 1) := hw
    have w0r65 := hw
    refine lv_if_ne (tgt := 28) hx hb dX2_readsHead_19 (by decide) (fun cp19 => ?_) (fun cp19 => ?_)
    · exact J28 r64 _ _ ls  hP hD hS (lv_sub hl [1, 2, 0] rfl)
    · refine lv_aload_n hx hb dX2_readsHead_22 rfl (lv_at hl 1 rfl) ?_
      refine lv_iconst (v := 1) hx hb dX2_readsHead_23 (by decide) ?_
      have hFc := z_freeW hD hS hA
      refine va_calli (va_runV (As := [.int 1]) (rest := []) ⟨hx, hb, hml, hown, hts⟩ (kX2_refuse l dC dI bh br rh th tb sh cI cJ cB cc nA mA aA fcA fA mcA mmA wA tcA g1A g2A nuA erA reA liA lcA rm ry rf tl ta ts so tv tpA sw st sf sq ⟨by omega, by omega, by omega, hfcA, hmcA, herA, hliA, hlcA⟩ (1 : Int32) s.heap.size) (cwV 1 hts zgX2_readsHead_X2_refuse_67 rfl rfl rfl (by decide +kernel) ⟨(show 0 + 1 ≤ 3 by omega), (show 8 + (2 + 11) + 0 ≤ 65 by omega)⟩) (zVk (ci := 1) (q0 := 17) (q := (RX2, TX2, 5)) hK hP hD hE rfl rfl rfl) rfl rfl hl.1 rfl (lv_room (Nat.le_of_ble_eq_true rfl)) dX2_readsHead_24 ⟨(show 0 + 0 ≤ 0 by omega), (show 0 + 0 ≤ 0 by omega)⟩) hS (fun q _ h => hFc q h) hFc (fun r66 o67 t H1 locs ht hvm hw hB hz1 hk1 hS => ?_)
      obtain ⟨hP, hK9, hD⟩ := hB
      rw [ht] at hP
      have hD := hD.weaken (fun k q _ h => hFc q.1 h)
      generalize H1 = H at hP hS
      have hP : va_P (dC, dI) vwCl (kW bh br rh th tb sh cI cJ cB (nI cc) nA mA aA (fun j => nI (fcA j)) fA (fun j => nI (mcA j)) mmA wA tcA g1A g2A nuA (fun j => nI (erA j)) reA (fun j => nI (liA j)) (fun j => nI (lcA j)) rm ry o67 (nI tl) (nI ta) ts so tv tpA sw st sf sq) H := hP
      have hD : va_D A (kW bh br rh th tb sh cI cJ cB (nI cc) nA mA aA (fun j => nI (fcA j)) fA (fun j => nI (mcA j)) mmA wA tcA g1A g2A nuA (fun j => nI (erA j)) reA (fun j => nI (liA j)) (fun j => nI (lcA j)) rm ry o67 (nI tl) (nI ta) ts so tv tpA sw st sf sq) := hD
      have hw : (r66 = 0 ∨ r66 = 1) ∧ (r66 = 0) := hw
      obtain ⟨w0r66, w1r66⟩ := hw
      subst w1r66
      have hP9 : va_P (dC, dI) vwCl (kW bh br rh th tb sh cI cJ cB (nI cc) nA mA aA (fun j => nI (fcA j)) fA (fun j => nI (mcA j)) mmA wA tcA g1A g2A nuA (fun j => nI (erA j)) reA (fun j => nI (liA j)) (fun j => nI (lcA j)) rm ry o67 (nI tl) (nI ta) ts so tv tpA sw st sf sq) H := hP
      have hD9 : va_D A (kW bh br rh th tb sh cI cJ cB (nI cc) nA mA aA (fun j => nI (fcA j)) fA (fun j => nI (mcA j)) mmA wA tcA g1A g2A nuA (fun j => nI (erA j)) reA (fun j => nI (liA j)) (fun j => nI (lcA j)) rm ry o67 (nI tl) (nI ta) ts so tv tpA sw st sf sq) := hD
      exact W.zret (v := (0 : Int32)) hx hb hr rfl (fun t ht hW => ⟨⟨(0 : Int32), (ta, ts, so, tv, o67, cc, nA, mA, aA, fcA, mcA, fA), rfl, ⟨(Or.inl rfl), (show ta ≤ tl from (by omega)), (show cc ≤ 16 from (by omega)), (show ((0 : Int32)) = 1 → 1 ≤ cc from (by first | (intro h9; exact absurd h9 (by decide)) | (intro _; omega))), hfcA, hmcA⟩, by rw [ht]; exact hP9, va_K.moved hW.alike hK, hD9⟩, hS.F ht⟩) hS.2.2 dX2_readsHead_27
theorem dX2_reads_0 : decode cX2_reads 0 = .ok (.aload_n 0, 1) := by decide +kernel
theorem dX2_reads_1 : decode cX2_reads 1 = .ok (.iconst 0, 1) := by decide +kernel
theorem dX2_reads_2 : decode cX2_reads 2 = .ok (.putfield 27, 3) := by decide +kernel
theorem dX2_reads_5 : decode cX2_reads 5 = .ok (.aload_n 0, 1) := by decide +kernel
theorem dX2_reads_6 : decode cX2_reads 6 = .ok (.getfield 14, 3) := by decide +kernel
theorem dX2_reads_9 : decode cX2_reads 9 = .ok (.iload_n 2, 1) := by decide +kernel
theorem dX2_reads_10 : decode cX2_reads 10 = .ok (.invokevirtual 34, 3) := by decide +kernel
theorem dX2_reads_13 : decode cX2_reads 13 = .ok (.iconst 0, 1) := by decide +kernel
theorem dX2_reads_14 : decode cX2_reads 14 = .ok (.istore_n 3, 1) := by decide +kernel
theorem dX2_reads_15 : decode cX2_reads 15 = .ok (.iload_n 3, 1) := by decide +kernel
theorem dX2_reads_16 : decode cX2_reads 16 = .ok (.bipush 16, 2) := by decide +kernel
theorem dX2_reads_18 : decode cX2_reads 18 = .ok (.if_icmp .gt 74, 3) := by decide +kernel
theorem dX2_reads_21 : decode cX2_reads 21 = .ok (.aload_n 0, 1) := by decide +kernel
theorem dX2_reads_22 : decode cX2_reads 22 = .ok (.getfield 14, 3) := by decide +kernel
theorem dX2_reads_25 : decode cX2_reads 25 = .ok (.getfield 40, 3) := by decide +kernel
theorem dX2_reads_28 : decode cX2_reads 28 = .ok (.ifCond .eq 64, 3) := by decide +kernel
theorem dX2_reads_31 : decode cX2_reads 31 = .ok (.aload_n 0, 1) := by decide +kernel
theorem dX2_reads_32 : decode cX2_reads 32 = .ok (.aload_n 1, 1) := by decide +kernel
theorem dX2_reads_33 : decode cX2_reads 33 = .ok (.invokevirtual 43, 3) := by decide +kernel
theorem dX2_reads_36 : decode cX2_reads 36 = .ok (.ifCond .ne 5, 3) := by decide +kernel
theorem dX2_reads_39 : decode cX2_reads 39 = .ok (.iconst 0, 1) := by decide +kernel
theorem dX2_reads_40 : decode cX2_reads 40 = .ok (.ireturn, 1) := by decide +kernel
theorem dX2_reads_41 : decode cX2_reads 41 = .ok (.iconst 0, 1) := by decide +kernel
theorem dX2_reads_42 : decode cX2_reads 42 = .ok (.istore 4, 2) := by decide +kernel
theorem dX2_reads_44 : decode cX2_reads 44 = .ok (.iload 4, 2) := by decide +kernel
theorem dX2_reads_46 : decode cX2_reads 46 = .ok (.bipush 12, 2) := by decide +kernel
theorem dX2_reads_48 : decode cX2_reads 48 = .ok (.if_icmp .gt 31, 3) := by decide +kernel
theorem dX2_reads_51 : decode cX2_reads 51 = .ok (.aload_n 0, 1) := by decide +kernel
theorem dX2_reads_52 : decode cX2_reads 52 = .ok (.getfield 14, 3) := by decide +kernel
theorem dX2_reads_55 : decode cX2_reads 55 = .ok (.bipush 125, 2) := by decide +kernel
theorem dX2_reads_57 : decode cX2_reads 57 = .ok (.invokevirtual 47, 3) := by decide +kernel
theorem dX2_reads_60 : decode cX2_reads 60 = .ok (.ifCond .ne 19, 3) := by decide +kernel
theorem dX2_reads_63 : decode cX2_reads 63 = .ok (.aload_n 0, 1) := by decide +kernel
theorem dX2_reads_64 : decode cX2_reads 64 = .ok (.aload_n 1, 1) := by decide +kernel
theorem dX2_reads_65 : decode cX2_reads 65 = .ok (.invokevirtual 51, 3) := by decide +kernel
theorem dX2_reads_68 : decode cX2_reads 68 = .ok (.ifCond .ne 5, 3) := by decide +kernel
theorem dX2_reads_71 : decode cX2_reads 71 = .ok (.iconst 0, 1) := by decide +kernel
theorem dX2_reads_72 : decode cX2_reads 72 = .ok (.ireturn, 1) := by decide +kernel
theorem dX2_reads_73 : decode cX2_reads 73 = .ok (.iinc 4 1, 3) := by decide +kernel
theorem dX2_reads_76 : decode cX2_reads 76 = .ok (.goto (-32), 3) := by decide +kernel
theorem dX2_reads_79 : decode cX2_reads 79 = .ok (.aload_n 0, 1) := by decide +kernel
theorem dX2_reads_80 : decode cX2_reads 80 = .ok (.getfield 14, 3) := by decide +kernel
theorem dX2_reads_83 : decode cX2_reads 83 = .ok (.invokevirtual 54, 3) := by decide +kernel
theorem dX2_reads_86 : decode cX2_reads 86 = .ok (.iinc 3 1, 3) := by decide +kernel
theorem dX2_reads_89 : decode cX2_reads 89 = .ok (.goto (-74), 3) := by decide +kernel
theorem dX2_reads_92 : decode cX2_reads 92 = .ok (.iconst 1, 1) := by decide +kernel
theorem dX2_reads_93 : decode cX2_reads 93 = .ok (.ireturn, 1) := by decide +kernel
def zwX2_reads : List Cond := .code yX2_reads cX2_reads 5 (some .boolean) :: ([.fieldLink RX2 14 "LinkModels$Reader" "tokens" "LLinkModels$Tokens;", .fieldLink RX2 40 "LinkModels$Tokens" "sort" "I", .fieldLink RX2 27 "LinkModels$Reader" "fault" "I", .methodLink RX2 54 yX4_step, .instanceMethod yX4_step, .selects RX4 yX4_step yX4_step, .initialized RX4, .code yX4_step cX4_step 2 none, .fieldLink RX4 23 "LinkModels$Tokens" "behind" "I", .fieldLink RX4 29 "LinkModels$Tokens" "start" "I", .fieldLink RX4 40 "LinkModels$Tokens" "sort" "I", .fieldLink RX4 19 "LinkModels$Tokens" "length" "I", .fieldLink RX4 7 "LinkModels$Tokens" "tape" "[B", .fieldLink RX4 32 "LinkModels$Tokens" "value" "J", .methodLink RX4 51 yX4_longest, .instanceMethod yX4_longest, .selects RX4 yX4_longest yX4_longest, .code yX4_longest cX4_longest 1 (some .int), .methodLink RX4 43 yX4_take, .instanceMethod yX4_take, .selects RX4 yX4_take yX4_take, .code yX4_take cX4_take 2 none, .constantLong RX4 55 (10), .methodLink RX4 36 yX4_sortOf, .static yX4_sortOf, .code yX4_sortOf cX4_sortOf 1 (some .int), .methodLink RX4 47 yX4_joins, .instanceMethod yX4_joins, .selects RX4 yX4_joins yX4_joins, .code yX4_joins cX4_joins 2 (some .boolean), .methodLink RX2 47 yX4_isSign, .instanceMethod yX4_isSign, .selects RX4 yX4_isSign yX4_isSign, .code yX4_isSign cX4_isSign 2 (some .boolean), .methodLink RX2 51 yX2_readsMember, .instanceMethod yX2_readsMember, .selects RX2 yX2_readsMember yX2_readsMember, .initialized RX2, .code yX2_readsMember cX2_readsMember 2 (some .boolean), .fieldLink RX2 114 "LinkModels$Reader" "type" "I", .fieldLink RX2 23 "LinkModels$Reader" "signature" "LLinkModels$Signature;", .fieldLink RX2 74 "LinkModels$Tokens" "value" "J", .methodLink RX2 107 yX0_isFilled, .instanceMethod yX0_isFilled, .selects RX0 yX0_isFilled yX0_isFilled, .initialized RX0, .code yX0_isFilled cX0_isFilled 1 (some .boolean), .fieldLink RX0 27 "LinkModels$Build" "memberCounts" "[I", .fieldLink RX0 61 "LinkModels$Build" "classCount" "I", .methodLink RX2 111 yX2_readsMarks, .instanceMethod yX2_readsMarks, .selects RX2 yX2_readsMarks yX2_readsMarks, .code yX2_readsMarks cX2_readsMarks 4 (some .boolean), .fieldLink RX2 130 "LinkModels$Reader" "marks" "I", .methodLink RX2 101 yX2_markHere, .instanceMethod yX2_markHere, .selects RX2 yX2_markHere yX2_markHere, .code yX2_markHere cX2_markHere 1 (some .int), .constantLong RX2 160 (126943688419683), .constantLong RX2 162 (114801865155950), .constantLong RX2 158 (439855505772), .constantLong RX2 156 (7017298113369039732), .methodLink RX2 63 yX4_isWord, .instanceMethod yX4_isWord, .selects RX4 yX4_isWord yX4_isWord, .code yX4_isWord cX4_isWord 3 (some .boolean), .methodLink RX2 67 yX2_refuse, .instanceMethod yX2_refuse, .selects RX2 yX2_refuse yX2_refuse, .code yX2_refuse cX2_refuse 2 (some .boolean), .methodLink RX2 104 yX2_typeHere, .instanceMethod yX2_typeHere, .selects RX2 yX2_typeHere yX2_typeHere, .code yX2_typeHere cX2_typeHere 1 (some .int), .constantLong RX2 164 (6909556), .constantLong RX2 166 (1819242087), .constantLong RX2 168 (1987012964), .methodLink RX2 117 yX2_isMemberWordHere, .instanceMethod yX2_isMemberWordHere, .selects RX2 yX2_isMemberWordHere yX2_isMemberWordHere, .code yX2_isMemberWordHere cX2_isMemberWordHere 1 (some .boolean), .constantLong RX2 61 (427020088179), .methodLink RX2 120 yX3_begin, .instanceMethod yX3_begin, .selects RX3 yX3_begin yX3_begin, .initialized RX3, .code yX3_begin cX3_begin 3 none, .fieldLink RX3 7 "LinkModels$Signature" "word" "J", .fieldLink RX3 13 "LinkModels$Signature" "typeCount" "I", .fieldLink RX3 17 "LinkModels$Signature" "first" "I", .fieldLink RX3 20 "LinkModels$Signature" "second" "I", .methodLink RX2 127 yX2_readsField, .instanceMethod yX2_readsField, .selects RX2 yX2_readsField yX2_readsField, .code yX2_readsField cX2_readsField 4 (some .boolean), .fieldLink RX2 71 "LinkModels$Build" "classCount" "I", .fieldLink RX2 133 "LinkModels$Signature" "word" "J", .methodLink RX2 140 yX0_addMember, .instanceMethod yX0_addMember, .selects RX0 yX0_addMember yX0_addMember, .code yX0_addMember cX0_addMember 6 none, .fieldLink RX0 30 "LinkModels$Build" "memberMarks" "[I", .fieldLink RX0 33 "LinkModels$Build" "words" "[J", .fieldLink RX0 65 "LinkModels$Signature" "word" "J", .fieldLink RX0 37 "LinkModels$Build" "typeCounts" "[I", .fieldLink RX0 71 "LinkModels$Signature" "typeCount" "I", .fieldLink RX0 40 "LinkModels$Build" "firsts" "[I", .fieldLink RX0 74 "LinkModels$Signature" "first" "I", .fieldLink RX0 43 "LinkModels$Build" "seconds" "[I", .fieldLink RX0 77 "LinkModels$Signature" "second" "I", .fieldLink RX0 46 "LinkModels$Build" "numbers" "[I", .methodLink RX2 92 yX2_passes, .instanceMethod yX2_passes, .selects RX2 yX2_passes yX2_passes, .code yX2_passes cX2_passes 2 (some .boolean), .methodLink RX2 136 yX0_fieldIn, .instanceMethod yX0_fieldIn, .selects RX0 yX0_fieldIn yX0_fieldIn, .code yX0_fieldIn cX0_fieldIn 5 (some .int), .methodLink RX0 82 yX0_has, .instanceMethod yX0_has, .selects RX0 yX0_has yX0_has, .code yX0_has cX0_has 3 (some .boolean), .methodLink RX2 124 yX2_readsMethod, .instanceMethod yX2_readsMethod, .selects RX2 yX2_readsMethod yX2_readsMethod, .code yX2_readsMethod cX2_readsMethod 2 (some .boolean), .methodLink RX2 147 yX0_methodIn, .instanceMethod yX0_methodIn, .selects RX0 yX0_methodIn yX0_methodIn, .code yX0_methodIn cX0_methodIn 5 (some .int), .methodLink RX2 144 yX2_readsTypes, .instanceMethod yX2_readsTypes, .selects RX2 yX2_readsTypes yX2_readsTypes, .code yX2_readsTypes cX2_readsTypes 4 (some .boolean), .methodLink RX2 151 yX3_add, .instanceMethod yX3_add, .selects RX3 yX3_add yX3_add, .code yX3_add cX3_add 2 none, .methodLink RX2 43 yX2_readsHead, .instanceMethod yX2_readsHead, .selects RX2 yX2_readsHead yX2_readsHead, .code yX2_readsHead cX2_readsHead 3 (some .boolean), .methodLink RX2 78 yX0_placeOf, .instanceMethod yX0_placeOf, .selects RX0 yX0_placeOf yX0_placeOf, .code yX0_placeOf cX0_placeOf 3 (some .int), .fieldLink RX0 11 "LinkModels$Build" "names" "[I", .methodLink RX2 82 yX0_addClass, .instanceMethod yX0_addClass, .selects RX0 yX0_addClass yX0_addClass, .code yX0_addClass cX0_addClass 3 none, .fieldLink RX0 15 "LinkModels$Build" "classMarks" "[I", .fieldLink RX0 18 "LinkModels$Build" "aboveNames" "[I", .fieldLink RX0 21 "LinkModels$Build" "faceCounts" "[I", .methodLink RX2 86 yX2_readsAbove, .instanceMethod yX2_readsAbove, .selects RX2 yX2_readsAbove yX2_readsAbove, .code yX2_readsAbove cX2_readsAbove 2 (some .boolean), .methodLink RX2 95 yX0_setAbove, .instanceMethod yX0_setAbove, .selects RX0 yX0_setAbove yX0_setAbove, .code yX0_setAbove cX0_setAbove 2 none, .methodLink RX2 89 yX2_readsFaces, .instanceMethod yX2_readsFaces, .selects RX2 yX2_readsFaces yX2_readsFaces, .code yX2_readsFaces cX2_readsFaces 4 (some .boolean), .methodLink RX2 98 yX0_addFace, .instanceMethod yX0_addFace, .selects RX0 yX0_addFace yX0_addFace, .code yX0_addFace cX0_addFace 3 none, .fieldLink RX0 24 "LinkModels$Build" "faceNames" "[I", .methodLink RX2 57 yX2_classMarkHere, .instanceMethod yX2_classMarkHere, .selects RX2 yX2_classMarkHere yX2_classMarkHere, .code yX2_classMarkHere cX2_classMarkHere 1 (some .int), .constantLong RX2 154 (1717658469), .methodLink RX2 34 yX4_open, .instanceMethod yX4_open, .selects RX4 yX4_open yX4_open, .code yX4_open cX4_open 2 none, .methodLink RX4 13 Lib.Math.min.name, .static Lib.Math.min.name, .initialized "java/lang/Math", .code Lib.Math.min.name Lib.Math.min.code 2 (some .int), .methodLink RX4 26 yX4_step] ++ wsX20 ++ wsX40 ++ wsX00 ++ wsX30)
set_option maxRecDepth 100000 in
theorem zgX2_reads_X4_step_54 : GoodIn zwX2_reads (wsV RX2 54 RX4 yX4_step zwX4_step) := goodIn_app (goodIn_r _ [4, 5, 6, 7] rfl (by decide +kernel)) (goodIn_app (goodIn_r _ [8, 9, 10, 11, 12, 13, 14, 15, 16, 17, 7, 18, 19, 20, 21, 22, 23, 24, 25, 26, 27, 28, 29, 30] rfl (by decide +kernel)) (fun w hw => ⟨(List.mem_cons_of_mem _ (List.mem_append_left _ (List.mem_append_left _ (List.mem_append_right _ hw)))), good_of_word (List.all_eq_true.mp zgX4 w hw)⟩))
set_option maxRecDepth 100000 in
theorem zgX2_reads_X4_isSign_47 : GoodIn zwX2_reads (wsV RX2 47 RX4 yX4_isSign zwX4_isSign) := goodIn_app (goodIn_r _ [31, 32, 33, 7] rfl (by decide +kernel)) (goodIn_app (goodIn_r _ [34, 11, 14] rfl (by decide +kernel)) (fun w hw => ⟨(List.mem_cons_of_mem _ (List.mem_append_left _ (List.mem_append_left _ (List.mem_append_right _ hw)))), good_of_word (List.all_eq_true.mp zgX4 w hw)⟩))
set_option maxRecDepth 100000 in
theorem zgX2_reads_X2_readsMember_51 : GoodIn zwX2_reads (wsV RX2 51 RX2 yX2_readsMember zwX2_readsMember) := goodIn_app (goodIn_r _ [35, 36, 37, 38] rfl (by decide +kernel)) (goodIn_app (goodIn_app (goodIn_app (goodIn_app (goodIn_r _ [39, 40, 1, 41, 42, 43, 44, 45, 46, 47, 48, 49, 50, 51, 52, 38, 53, 54, 4, 5, 6, 7, 8, 9, 10, 11, 12, 13, 14, 15, 16, 17, 18, 19, 20, 21, 22, 23, 24, 25, 26, 27, 28, 29, 30, 55, 56, 57, 58, 59, 60, 61, 62, 63, 64, 65, 66, 67, 68, 69, 70, 3, 71, 72, 73, 74, 2, 75, 76, 77, 78, 79, 80, 81, 82, 83, 84, 85, 86, 87, 88, 89, 90, 91, 31, 32, 33, 34, 92, 93, 94, 95, 96, 97, 98, 99, 100, 101, 102, 103, 104, 105, 106, 107, 108, 109, 110, 111, 112, 113, 114, 115, 116, 117, 118, 119, 120, 121, 122, 123, 124, 125, 126, 127, 128, 129, 130, 131, 132, 133, 134, 135, 136, 137, 138, 139] rfl (by decide +kernel)) (fun w hw => ⟨(List.mem_cons_of_mem _ (List.mem_append_left _ (List.mem_append_left _ (List.mem_append_left _ (List.mem_append_right _ hw))))), good_of_word (List.all_eq_true.mp zgX2 w hw)⟩)) (fun w hw => ⟨(List.mem_cons_of_mem _ (List.mem_append_left _ (List.mem_append_left _ (List.mem_append_right _ hw)))), good_of_word (List.all_eq_true.mp zgX4 w hw)⟩)) (fun w hw => ⟨(List.mem_cons_of_mem _ (List.mem_append_left _ (List.mem_append_right _ hw))), good_of_word (List.all_eq_true.mp zgX0 w hw)⟩)) (fun w hw => ⟨(List.mem_cons_of_mem _ (List.mem_append_right _ hw)), good_of_word (List.all_eq_true.mp zgX3 w hw)⟩))
set_option maxRecDepth 100000 in
theorem zgX2_reads_X2_readsHead_43 : GoodIn zwX2_reads (wsV RX2 43 RX2 yX2_readsHead zwX2_readsHead) := goodIn_app (goodIn_r _ [140, 141, 142, 38] rfl (by decide +kernel)) (goodIn_app (goodIn_app (goodIn_app (goodIn_r _ [143, 1, 82, 2, 42, 96, 63, 64, 65, 7, 66, 11, 14, 4, 5, 6, 8, 9, 10, 12, 13, 15, 16, 17, 18, 19, 20, 21, 22, 23, 24, 25, 26, 27, 28, 29, 30, 144, 145, 146, 46, 147, 49, 148, 149, 150, 151, 152, 153, 154, 155, 48, 156, 157, 158, 38, 159, 31, 32, 33, 34, 160, 161, 162, 163, 67, 68, 69, 70, 3, 164, 165, 166, 167, 168, 169, 170, 171, 172, 112, 113, 114, 115, 173, 174, 175, 176, 177, 62, 61] rfl (by decide +kernel)) (fun w hw => ⟨(List.mem_cons_of_mem _ (List.mem_append_left _ (List.mem_append_left _ (List.mem_append_left _ (List.mem_append_right _ hw))))), good_of_word (List.all_eq_true.mp zgX2 w hw)⟩)) (fun w hw => ⟨(List.mem_cons_of_mem _ (List.mem_append_left _ (List.mem_append_left _ (List.mem_append_right _ hw)))), good_of_word (List.all_eq_true.mp zgX4 w hw)⟩)) (fun w hw => ⟨(List.mem_cons_of_mem _ (List.mem_append_left _ (List.mem_append_right _ hw))), good_of_word (List.all_eq_true.mp zgX0 w hw)⟩))
set_option maxRecDepth 100000 in
theorem zgX2_reads_X4_open_34 : GoodIn zwX2_reads (wsV RX2 34 RX4 yX4_open zwX4_open) := goodIn_app (goodIn_r _ [178, 179, 180, 7] rfl (by decide +kernel)) (goodIn_app (goodIn_r _ [181, 13, 182, 183, 184, 185, 12, 9, 186, 5, 6, 7, 8, 10, 11, 14, 15, 16, 17, 18, 19, 20, 21, 22, 23, 24, 25, 26, 27, 28, 29, 30] rfl (by decide +kernel)) (fun w hw => ⟨(List.mem_cons_of_mem _ (List.mem_append_left _ (List.mem_append_left _ (List.mem_append_right _ hw)))), good_of_word (List.all_eq_true.mp zgX4 w hw)⟩))
set_option maxHeartbeats 4000000 in
set_option maxRecDepth 100000 in
theorem kX2_reads (l : Launch) (dC : Nat → ClassId) (dI : Nat → Nat → Nat) (bh : Nat) (br : Nat → Nat) (rh : Nat) (th : Nat) (tb : Nat) (sh : Nat) (cI : ClassId) (cJ : ClassId) (cB : ClassId) (cc : Nat) (nA : Nat → Int32) (mA : Nat → Int32) (aA : Nat → Int32) (fcA : Nat → Nat) (fA : Nat → Int32) (mcA : Nat → Nat) (mmA : Nat → Int32) (wA : Nat → Int64) (tcA : Nat → Int32) (g1A : Nat → Int32) (g2A : Nat → Int32) (nuA : Nat → Int32) (erA : Nat → Nat) (reA : Nat → Int32) (liA : Nat → Nat) (lcA : Nat → Nat) (rm : Int32) (ry : Int32) (rf : Int32) (tl : Nat) (ta : Nat) (ts : Int32) (so : Int32) (tv : Int64) (tpA : Nat → Int32) (sw : Int64) (st : Int32) (sf : Int32) (sq : Int32) (hI : kWI cc fcA mcA erA liA lcA tl ta) (ln : Nat) (hp0 : ln ≤ 800) (sz : Nat) : Met l yX2_reads zwX2_reads ({ frames := 5, cells := 0, slots := 0, locals := 107 }) (zPk dC dI [.ref rh, .ref bh, .int (nI ln)] sz (kW bh br rh th tb sh cI cJ cB (nI cc) nA mA aA (fun j => nI (fcA j)) fA (fun j => nI (mcA j)) mmA wA tcA g1A g2A nuA (fun j => nI (erA j)) reA (fun j => nI (liA j)) (fun j => nI (lcA j)) rm ry rf (nI tl) (nI ta) ts so tv tpA sw st sf sq) [(cI, .int), (cJ, .long), (cB, .byte)]) (va_Qi (fun (r : Int32) (u : Nat × Nat × Int32 × Int32 × Int64 × Int32 × Int32 × Int32 × Int64 × Int32 × Int32 × Int32 × Nat × (Nat → Int32) × (Nat → Int32) × (Nat → Int32) × (Nat → Nat) × (Nat → Nat) × (Nat → Int32) × (Nat → Int32) × (Nat → Int64) × (Nat → Int32) × (Nat → Int32) × (Nat → Int32) × (Nat → Int32)) => (r = 0 ∨ r = 1) ∧ ((u.1) ≤ 800) ∧ ((u.2.1) ≤ (u.1)) ∧ ((u.2.2.2.2.2.2.2.2.2.2.2.2.1) ≤ 16) ∧ (∀ j, (u.2.2.2.2.2.2.2.2.2.2.2.2.2.2.2.2.1) j ≤ 3) ∧ (∀ j, (u.2.2.2.2.2.2.2.2.2.2.2.2.2.2.2.2.2.1) j ≤ 12)) (fun u t => zB dC dI (va_A (kW bh br rh th tb sh cI cJ cB (nI cc) nA mA aA (fun j => nI (fcA j)) fA (fun j => nI (mcA j)) mmA wA tcA g1A g2A nuA (fun j => nI (erA j)) reA (fun j => nI (liA j)) (fun j => nI (lcA j)) rm ry rf (nI tl) (nI ta) ts so tv tpA sw st sf sq) sz) (kW bh br rh th tb sh cI cJ cB (nI (u.2.2.2.2.2.2.2.2.2.2.2.2.1)) (u.2.2.2.2.2.2.2.2.2.2.2.2.2.1) (u.2.2.2.2.2.2.2.2.2.2.2.2.2.2.1) (u.2.2.2.2.2.2.2.2.2.2.2.2.2.2.2.1) (fun j => nI ((u.2.2.2.2.2.2.2.2.2.2.2.2.2.2.2.2.1) j)) (u.2.2.2.2.2.2.2.2.2.2.2.2.2.2.2.2.2.2.1) (fun j => nI ((u.2.2.2.2.2.2.2.2.2.2.2.2.2.2.2.2.2.1) j)) (u.2.2.2.2.2.2.2.2.2.2.2.2.2.2.2.2.2.2.2.1) (u.2.2.2.2.2.2.2.2.2.2.2.2.2.2.2.2.2.2.2.2.1) (u.2.2.2.2.2.2.2.2.2.2.2.2.2.2.2.2.2.2.2.2.2.1) (u.2.2.2.2.2.2.2.2.2.2.2.2.2.2.2.2.2.2.2.2.2.2.1) (u.2.2.2.2.2.2.2.2.2.2.2.2.2.2.2.2.2.2.2.2.2.2.2.1) (u.2.2.2.2.2.2.2.2.2.2.2.2.2.2.2.2.2.2.2.2.2.2.2.2) (fun j => nI (erA j)) reA (fun j => nI (liA j)) (fun j => nI (lcA j)) (u.2.2.2.2.2.2.1) (u.2.2.2.2.2.2.2.1) (u.2.2.2.2.2.1) (nI (u.1)) (nI (u.2.1)) (u.2.2.1) (u.2.2.2.1) (u.2.2.2.2.1) tpA (u.2.2.2.2.2.2.2.2.1) (u.2.2.2.2.2.2.2.2.2.1) (u.2.2.2.2.2.2.2.2.2.2.1) (u.2.2.2.2.2.2.2.2.2.2.2.1)) [(cI, .int), (cJ, .long), (cB, .byte)] t) (va_A (kW bh br rh th tb sh cI cJ cB (nI cc) nA mA aA (fun j => nI (fcA j)) fA (fun j => nI (mcA j)) mmA wA tcA g1A g2A nuA (fun j => nI (erA j)) reA (fun j => nI (liA j)) (fun j => nI (lcA j)) rm ry rf (nI tl) (nI ta) ts so tv tpA sw st sf sq) sz)) 0 0 (va_A (kW bh br rh th tb sh cI cJ cB (nI cc) nA mA aA (fun j => nI (fcA j)) fA (fun j => nI (mcA j)) mmA wA tcA g1A g2A nuA (fun j => nI (erA j)) reA (fun j => nI (liA j)) (fun j => nI (lcA j)) rm ry rf (nI tl) (nI ta) ts so tv tpA sw st sf sq) sz) := by
  refine Met.ofW (cc := cX2_reads) (maxL := 5) (ret := (some .boolean)) (by decide) rfl ?_
  intro p e s m args below meth c s₁ B hml hv
  obtain ⟨rfl, hsz, hP, hK, hD0, hE⟩ := hv
  have hx := B.exec
  have hb := B.bytes
  have hr := B.returns
  have hts := atoms_spec (ws := zwX2_reads) B.pre
  have hown : s.vm.findClass RX2 = some m.cls := findClass_of_methodNamed B.named
  have hiX2 : ∀ w ∈ wsX20, w ∈ zwX2_reads := (fun w hw => (List.mem_cons_of_mem _ (List.mem_append_left _ (List.mem_append_left _ (List.mem_append_left _ (List.mem_append_right _ hw))))))
  have hiX4 : ∀ w ∈ wsX40, w ∈ zwX2_reads := (fun w hw => (List.mem_cons_of_mem _ (List.mem_append_left _ (List.mem_append_left _ (List.mem_append_right _ hw)))))
  obtain ⟨hcc, htl, hta, hfcA, hmcA, herA, hliA, hlcA⟩ := hI
  subst hsz
  have hD := hD0.self (sz := s.heap.size)
  generalize hAe : va_A (kW bh br rh th tb sh cI cJ cB (nI cc) nA mA aA (fun j => nI (fcA j)) fA (fun j => nI (mcA j)) mmA wA tcA g1A g2A nuA (fun j => nI (erA j)) reA (fun j => nI (liA j)) (fun j => nI (lcA j)) rm ry rf (nI tl) (nI ta) ts so tv tpA sw st sf sq) s.heap.size = A at hD ⊢
  have hA : ∀ q : Nat, s.heap.size ≤ q → A q := fun q h => by rw [← hAe]; exact Or.inr h
  have hS : va_S A s.heap s.heap [] := va_S.rf
  have hl := lv_entry ([.ref rh, .ref bh, .int (nI ln)]) (n := 5) (Nat.le_of_ble_eq_true rfl)
  rw [lg_entry_eq]
  generalize (lg_sl ([.ref rh, .ref bh, .int (nI ln)]) ++ List.replicate (5 - (lg_sl ([.ref rh, .ref bh, .int (nI ln)])).length) Slot.unset).toArray = ls at hl ⊢
  have hl : lv_has ls 5 [(0, .ref rh), (1, .ref bh), (2, .int (nI ln))] := hl
  have J15 : ∀ (z15 : Nat) (ix : Nat) (l2 : Nat) (b2 : Nat) (s2 : Int32) (so2 : Int32) (v2 : Int64) (f2 : Int32) (m2 : Int32) (y2 : Int32) (w2 : Int64) (c2 : Int32) (q2 : Int32) (e2 : Int32) (cc2 : Nat) (n2 : Nat → Int32) (k2 : Nat → Int32) (a2 : Nat → Int32) (fc2 : Nat → Nat) (mc2 : Nat → Nat) (fn2 : Nat → Int32) (mm2 : Nat → Int32) (wo2 : Nat → Int64) (tc2 : Nat → Int32) (g12 : Nat → Int32) (g22 : Nat → Int32) (nu2 : Nat → Int32) (H : Heap) (locs : List Loc) (ls : Array Slot), 17 - ix < z15 → (∀ j, fc2 j ≤ 3) → (∀ j, mc2 j ≤ 12) → (ix ≤ 17) → (l2 ≤ 800) → (b2 ≤ l2) → (cc2 ≤ 16) → va_P (dC, dI) vwCl (kW bh br rh th tb sh cI cJ cB (nI cc2) n2 k2 a2 (fun j => nI (fc2 j)) fn2 (fun j => nI (mc2 j)) mm2 wo2 tc2 g12 g22 nu2 (fun j => nI (erA j)) reA (fun j => nI (liA j)) (fun j => nI (lcA j)) m2 y2 f2 (nI l2) (nI b2) s2 so2 v2 tpA w2 c2 q2 e2) H → va_D A (kW bh br rh th tb sh cI cJ cB (nI cc2) n2 k2 a2 (fun j => nI (fc2 j)) fn2 (fun j => nI (mc2 j)) mm2 wo2 tc2 g12 g22 nu2 (fun j => nI (erA j)) reA (fun j => nI (liA j)) (fun j => nI (lcA j)) m2 y2 f2 (nI l2) (nI b2) s2 so2 v2 tpA w2 c2 q2 e2) → va_S A s.heap H locs → lv_has ls 5 [(0, .ref rh), (1, .ref bh), (3, .int (nI ix))] → W p l e (headSpec zwX2_reads { frames := 5, cells := 0, slots := 0, locals := 107 }).room s m (([.ref rh, .ref bh, .int (nI ln)] : List Value).toArray) below meth c H locs 0 0 (MQ below (va_Qi (fun (r : Int32) (u : Nat × Nat × Int32 × Int32 × Int64 × Int32 × Int32 × Int32 × Int64 × Int32 × Int32 × Int32 × Nat × (Nat → Int32) × (Nat → Int32) × (Nat → Int32) × (Nat → Nat) × (Nat → Nat) × (Nat → Int32) × (Nat → Int32) × (Nat → Int64) × (Nat → Int32) × (Nat → Int32) × (Nat → Int32) × (Nat → Int32)) => (r = 0 ∨ r = 1) ∧ ((u.1) ≤ 800) ∧ ((u.2.1) ≤ (u.1)) ∧ ((u.2.2.2.2.2.2.2.2.2.2.2.2.1) ≤ 16) ∧ (∀ j, (u.2.2.2.2.2.2.2.2.2.2.2.2.2.2.2.2.1) j ≤ 3) ∧ (∀ j, (u.2.2.2.2.2.2.2.2.2.2.2.2.2.2.2.2.2.1) j ≤ 12)) (fun u t => zB dC dI (A) (kW bh br rh th tb sh cI cJ cB (nI (u.2.2.2.2.2.2.2.2.2.2.2.2.1)) (u.2.2.2.2.2.2.2.2.2.2.2.2.2.1) (u.2.2.2.2.2.2.2.2.2.2.2.2.2.2.1) (u.2.2.2.2.2.2.2.2.2.2.2.2.2.2.2.1) (fun j => nI ((u.2.2.2.2.2.2.2.2.2.2.2.2.2.2.2.2.1) j)) (u.2.2.2.2.2.2.2.2.2.2.2.2.2.2.2.2.2.2.1) (fun j => nI ((u.2.2.2.2.2.2.2.2.2.2.2.2.2.2.2.2.2.1) j)) (u.2.2.2.2.2.2.2.2.2.2.2.2.2.2.2.2.2.2.2.1) (u.2.2.2.2.2.2.2.2.2.2.2.2.2.2.2.2.2.2.2.2.1) (u.2.2.2.2.2.2.2.2.2.2.2.2.2.2.2.2.2.2.2.2.2.1) (u.2.2.2.2.2.2.2.2.2.2.2.2.2.2.2.2.2.2.2.2.2.2.1) (u.2.2.2.2.2.2.2.2.2.2.2.2.2.2.2.2.2.2.2.2.2.2.2.1) (u.2.2.2.2.2.2.2.2.2.2.2.2.2.2.2.2.2.2.2.2.2.2.2.2) (fun j => nI (erA j)) reA (fun j => nI (liA j)) (fun j => nI (lcA j)) (u.2.2.2.2.2.2.1) (u.2.2.2.2.2.2.2.1) (u.2.2.2.2.2.1) (nI (u.1)) (nI (u.2.1)) (u.2.2.1) (u.2.2.2.1) (u.2.2.2.2.1) tpA (u.2.2.2.2.2.2.2.2.1) (u.2.2.2.2.2.2.2.2.2.1) (u.2.2.2.2.2.2.2.2.2.2.1) (u.2.2.2.2.2.2.2.2.2.2.2.1)) [(cI, .int), (cJ, .long), (cB, .byte)] t) (A)) (([.ref rh, .ref bh, .int (nI ln)] : List Value).toArray) s 0 0 A) (F0 m 15 ls []) := by
    intro z15
    induction z15 with
    | zero => intro ix l2 b2 s2 so2 v2 f2 m2 y2 w2 c2 q2 e2 cc2 n2 k2 a2 fc2 mc2 fn2 mm2 wo2 tc2 g12 g22 nu2 H locs ls h9; exact absurd h9 (Nat.not_lt_zero _)
    | succ z15 ih15 =>
      intro ix l2 b2 s2 so2 v2 f2 m2 y2 w2 c2 q2 e2 cc2 n2 k2 a2 fc2 mc2 fn2 mm2 wo2 tc2 g12 g22 nu2 H locs ls hm15 hbfc2 hbmc2 i15_0 i15_1 i15_2 i15_3 hP hD hS hl
      have J44 : ∀ (z44 : Nat) (kx : Nat) (b2x : Nat) (s2x : Int32) (so2x : Int32) (v2x : Int64) (f2x : Int32) (m2x : Int32) (y2x : Int32) (w2x : Int64) (c2x : Int32) (q2x : Int32) (e2x : Int32) (cc2x : Nat) (n2x : Nat → Int32) (k2x : Nat → Int32) (a2x : Nat → Int32) (fc2x : Nat → Nat) (mc2x : Nat → Nat) (fn2x : Nat → Int32) (mm2x : Nat → Int32) (wo2x : Nat → Int64) (tc2x : Nat → Int32) (g12x : Nat → Int32) (g22x : Nat → Int32) (nu2x : Nat → Int32) (H : Heap) (locs : List Loc) (ls : Array Slot), 13 - kx < z44 → (∀ j, fc2x j ≤ 3) → (∀ j, mc2x j ≤ 12) → (kx ≤ 13) → (ix ≤ 16) → (b2x ≤ l2) → (cc2x ≤ 16) → (1 ≤ cc2x) → va_P (dC, dI) vwCl (kW bh br rh th tb sh cI cJ cB (nI cc2x) n2x k2x a2x (fun j => nI (fc2x j)) fn2x (fun j => nI (mc2x j)) mm2x wo2x tc2x g12x g22x nu2x (fun j => nI (erA j)) reA (fun j => nI (liA j)) (fun j => nI (lcA j)) m2x y2x f2x (nI l2) (nI b2x) s2x so2x v2x tpA w2x c2x q2x e2x) H → va_D A (kW bh br rh th tb sh cI cJ cB (nI cc2x) n2x k2x a2x (fun j => nI (fc2x j)) fn2x (fun j => nI (mc2x j)) mm2x wo2x tc2x g12x g22x nu2x (fun j => nI (erA j)) reA (fun j => nI (liA j)) (fun j => nI (lcA j)) m2x y2x f2x (nI l2) (nI b2x) s2x so2x v2x tpA w2x c2x q2x e2x) → va_S A s.heap H locs → lv_has ls 5 [(0, .ref rh), (1, .ref bh), (3, .int (nI ix)), (4, .int (nI kx))] → W p l e (headSpec zwX2_reads { frames := 5, cells := 0, slots := 0, locals := 107 }).room s m (([.ref rh, .ref bh, .int (nI ln)] : List Value).toArray) below meth c H locs 0 0 (MQ below (va_Qi (fun (r : Int32) (u : Nat × Nat × Int32 × Int32 × Int64 × Int32 × Int32 × Int32 × Int64 × Int32 × Int32 × Int32 × Nat × (Nat → Int32) × (Nat → Int32) × (Nat → Int32) × (Nat → Nat) × (Nat → Nat) × (Nat → Int32) × (Nat → Int32) × (Nat → Int64) × (Nat → Int32) × (Nat → Int32) × (Nat → Int32) × (Nat → Int32)) => (r = 0 ∨ r = 1) ∧ ((u.1) ≤ 800) ∧ ((u.2.1) ≤ (u.1)) ∧ ((u.2.2.2.2.2.2.2.2.2.2.2.2.1) ≤ 16) ∧ (∀ j, (u.2.2.2.2.2.2.2.2.2.2.2.2.2.2.2.2.1) j ≤ 3) ∧ (∀ j, (u.2.2.2.2.2.2.2.2.2.2.2.2.2.2.2.2.2.1) j ≤ 12)) (fun u t => zB dC dI (A) (kW bh br rh th tb sh cI cJ cB (nI (u.2.2.2.2.2.2.2.2.2.2.2.2.1)) (u.2.2.2.2.2.2.2.2.2.2.2.2.2.1) (u.2.2.2.2.2.2.2.2.2.2.2.2.2.2.1) (u.2.2.2.2.2.2.2.2.2.2.2.2.2.2.2.1) (fun j => nI ((u.2.2.2.2.2.2.2.2.2.2.2.2.2.2.2.2.1) j)) (u.2.2.2.2.2.2.2.2.2.2.2.2.2.2.2.2.2.2.1) (fun j => nI ((u.2.2.2.2.2.2.2.2.2.2.2.2.2.2.2.2.2.1) j)) (u.2.2.2.2.2.2.2.2.2.2.2.2.2.2.2.2.2.2.2.1) (u.2.2.2.2.2.2.2.2.2.2.2.2.2.2.2.2.2.2.2.2.1) (u.2.2.2.2.2.2.2.2.2.2.2.2.2.2.2.2.2.2.2.2.2.1) (u.2.2.2.2.2.2.2.2.2.2.2.2.2.2.2.2.2.2.2.2.2.2.1) (u.2.2.2.2.2.2.2.2.2.2.2.2.2.2.2.2.2.2.2.2.2.2.2.1) (u.2.2.2.2.2.2.2.2.2.2.2.2.2.2.2.2.2.2.2.2.2.2.2.2) (fun j => nI (erA j)) reA (fun j => nI (liA j)) (fun j => nI (lcA j)) (u.2.2.2.2.2.2.1) (u.2.2.2.2.2.2.2.1) (u.2.2.2.2.2.1) (nI (u.1)) (nI (u.2.1)) (u.2.2.1) (u.2.2.2.1) (u.2.2.2.2.1) tpA (u.2.2.2.2.2.2.2.2.1) (u.2.2.2.2.2.2.2.2.2.1) (u.2.2.2.2.2.2.2.2.2.2.1) (u.2.2.2.2.2.2.2.2.2.2.2.1)) [(cI, .int), (cJ, .long), (cB, .byte)] t) (A)) (([.ref rh, .ref bh, .int (nI ln)] : List Value).toArray) s 0 0 A) (F0 m 44 ls []) := by
        intro z44
        induction z44 with
        | zero => intro kx b2x s2x so2x v2x f2x m2x y2x w2x c2x q2x e2x cc2x n2x k2x a2x fc2x mc2x fn2x mm2x wo2x tc2x g12x g22x nu2x H locs ls h9; exact absurd h9 (Nat.not_lt_zero _)
        | succ z44 ih44 =>
          intro kx b2x s2x so2x v2x f2x m2x y2x w2x c2x q2x e2x cc2x n2x k2x a2x fc2x mc2x fn2x mm2x wo2x tc2x g12x g22x nu2x H locs ls hm44 hbfc2x hbmc2x i44_0 i44_1 i44_2 i44_3 i44_4 hP hD hS hl
          refine lv_iload hx hb dX2_reads_44 (lv_at hl 3 rfl) ?_
          refine lv_bipush (v := 12) hx hb dX2_reads_46 (by decide) ?_
          refine lv_icmp_gt (tgt := 79) hx hb dX2_reads_48 (by decide) (fun cp48 => ?_) (fun cp48 => ?_)
          · have qcp48 : 12 < kx := (nI_ltI (a := 12) (b := kx) (by omega) (by omega)).mp cp48
            refine lv_aload_n hx hb dX2_reads_79 rfl (lv_at hl 0 rfl) ?_
            refine va_get (D := (dC, dI)) (ci := 1) (v := .ref th) (C := RX2) (T := TX2) (N := 5) hx hb hts hiX2 hown hK hP 17 rfl rfl 0 (by decide) (hts (.fieldLink RX2 14 "LinkModels$Reader" "tokens" "LLinkModels$Tokens;") (by decide +kernel)) (fun _ h9 => h9) rfl dX2_reads_80 ?_
            have hFc := z_freeW hD hS hA
            refine va_callv (va_runV (As := []) (rest := []) ⟨hx, hb, hml, hown, hts⟩ (kX4_step l dC dI bh br rh th tb sh cI cJ cB cc2x n2x k2x a2x fc2x fn2x mc2x mm2x wo2x tc2x g12x g22x nu2x erA reA liA lcA m2x y2x f2x l2 b2x s2x so2x v2x tpA w2x c2x q2x e2x ⟨by omega, by omega, by omega, hbfc2x, hbmc2x, herA, hliA, hlcA⟩ H.size) (cwV 0 hts zgX2_reads_X4_step_54 rfl rfl rfl (by decide +kernel) ⟨(show 1 + 1 ≤ 5 by omega), (show 8 + (2 + 11) + 21 ≤ 107 by omega)⟩) (zVk (ci := 3) (q0 := 18) (q := (RX4, TX4, 6)) hK hP hD hE rfl rfl rfl) rfl rfl hl.1 rfl (lv_room (Nat.le_of_ble_eq_true rfl)) dX2_reads_83 ⟨(show 0 + 0 ≤ 0 by omega), (show 0 + 0 ≤ 0 by omega)⟩) hS (fun q _ h => hFc q h) hFc (fun u6 t H1 locs ht hvm hw hB hz1 hk1 hS => ?_)
            obtain ⟨o2, o3, o4, o5⟩ := u6
            obtain ⟨hP, hK9, hD⟩ := hB
            rw [ht] at hP
            have hD := hD.weaken (fun k q _ h => hFc q.1 h)
            generalize H1 = H at hP hS
            have hP : va_P (dC, dI) vwCl (kW bh br rh th tb sh cI cJ cB (nI cc2x) n2x k2x a2x (fun j => nI (fc2x j)) fn2x (fun j => nI (mc2x j)) mm2x wo2x tc2x g12x g22x nu2x (fun j => nI (erA j)) reA (fun j => nI (liA j)) (fun j => nI (lcA j)) m2x y2x f2x (nI l2) (nI o2) o3 o4 o5 tpA w2x c2x q2x e2x) H := hP
            have hD : va_D A (kW bh br rh th tb sh cI cJ cB (nI cc2x) n2x k2x a2x (fun j => nI (fc2x j)) fn2x (fun j => nI (mc2x j)) mm2x wo2x tc2x g12x g22x nu2x (fun j => nI (erA j)) reA (fun j => nI (liA j)) (fun j => nI (lcA j)) m2x y2x f2x (nI l2) (nI o2) o3 o4 o5 tpA w2x c2x q2x e2x) := hD
            have hw : (b2x ≤ o2) ∧ (o2 ≤ l2) := hw
            obtain ⟨w0r1, w1r1⟩ := hw
            obtain ⟨x7, ex7⟩ : ∃ y : Int32, y = (nI ix) + 1 := ⟨_, rfl⟩
            refine lv_iinc (v := x7) (lv' := [(3, .int x7), (0, .ref rh), (1, .ref bh), (4, .int (nI kx))]) hx hb dX2_reads_86 hl (k := 2) rfl (by rw [ex7]; rfl) (by decide) rfl (fun ls hl => ?_)
            obtain rfl : x7 = nI (ix + 1) := by rw [ex7]; exact nI_add (ix) 1
            refine lv_goto (tgt := 15) hx hb dX2_reads_89 (by decide) ?_
            exact ih15 (ix + 1) l2 o2 o3 o4 o5 f2x m2x y2x w2x c2x q2x e2x cc2x n2x k2x a2x fc2x mc2x fn2x mm2x wo2x tc2x g12x g22x nu2x _ _ ls (by omega) hbfc2x hbmc2x (by first | omega | assumption | trivial) (by first | omega | assumption | trivial) (by first | omega | assumption | trivial) (by first | omega | assumption | trivial) hP hD hS (lv_sub hl [1, 2, 0] rfl)
          · have qcp48 : ¬ 12 < kx := fun h9 => cp48 ((nI_ltI (a := 12) (b := kx) (by omega) (by omega)).mpr h9)
            refine lv_aload_n hx hb dX2_reads_51 rfl (lv_at hl 0 rfl) ?_
            refine va_get (D := (dC, dI)) (ci := 1) (v := .ref th) (C := RX2) (T := TX2) (N := 5) hx hb hts hiX2 hown hK hP 17 rfl rfl 0 (by decide) (hts (.fieldLink RX2 14 "LinkModels$Reader" "tokens" "LLinkModels$Tokens;") (by decide +kernel)) (fun _ h9 => h9) rfl dX2_reads_52 ?_
            refine lv_bipush (v := 125) hx hb dX2_reads_55 (by decide) ?_
            refine vp_callSi (W.runV (As := [.int 125]) (rest := []) ⟨hx, hb, hml, hown, hts⟩ (kX4_isSign l dC dI rh th tb sh cI cJ cB m2x y2x f2x l2 b2x s2x so2x v2x tpA w2x c2x q2x e2x ⟨by omega, by omega⟩ (125 : Int32)) (cwV 1 hts zgX2_reads_X4_isSign_47 rfl rfl rfl (by decide +kernel) ⟨(show 0 + 1 ≤ 5 by omega), (show 8 + (2 + 11) + 0 ≤ 107 by omega)⟩) (zVq (ci := 3) (q0 := 1) (q := (RX4, TX4, 6)) hK (hP.sub (ws' := (rdW rh th tb sh cI cJ cB m2x y2x f2x (nI l2) (nI b2x) s2x so2x v2x tpA w2x c2x q2x e2x)) [17, 18, 19, 20] rfl) hE rfl rfl rfl) rfl rfl hl.1 rfl (lv_room (Nat.le_of_ble_eq_true rfl)) dX2_reads_57 ⟨(show 0 + 0 ≤ 0 by omega), (show 0 + 0 ≤ 0 by omega)⟩) (fun r8 hw => ?_)
            have hw : (r8 = 0 ∨ r8 = 1) := hw
            have w0r8 := hw
            refine lv_if_ne (tgt := 79) hx hb dX2_reads_60 (by decide) (fun cp60 => ?_) (fun cp60 => ?_)
            · refine lv_aload_n hx hb dX2_reads_79 rfl (lv_at hl 0 rfl) ?_
              refine va_get (D := (dC, dI)) (ci := 1) (v := .ref th) (C := RX2) (T := TX2) (N := 5) hx hb hts hiX2 hown hK hP 17 rfl rfl 0 (by decide) (hts (.fieldLink RX2 14 "LinkModels$Reader" "tokens" "LLinkModels$Tokens;") (by decide +kernel)) (fun _ h9 => h9) rfl dX2_reads_80 ?_
              have hFc := z_freeW hD hS hA
              refine va_callv (va_runV (As := []) (rest := []) ⟨hx, hb, hml, hown, hts⟩ (kX4_step l dC dI bh br rh th tb sh cI cJ cB cc2x n2x k2x a2x fc2x fn2x mc2x mm2x wo2x tc2x g12x g22x nu2x erA reA liA lcA m2x y2x f2x l2 b2x s2x so2x v2x tpA w2x c2x q2x e2x ⟨by omega, by omega, by omega, hbfc2x, hbmc2x, herA, hliA, hlcA⟩ H.size) (cwV 0 hts zgX2_reads_X4_step_54 rfl rfl rfl (by decide +kernel) ⟨(show 1 + 1 ≤ 5 by omega), (show 8 + (2 + 11) + 21 ≤ 107 by omega)⟩) (zVk (ci := 3) (q0 := 18) (q := (RX4, TX4, 6)) hK hP hD hE rfl rfl rfl) rfl rfl hl.1 rfl (lv_room (Nat.le_of_ble_eq_true rfl)) dX2_reads_83 ⟨(show 0 + 0 ≤ 0 by omega), (show 0 + 0 ≤ 0 by omega)⟩) hS (fun q _ h => hFc q h) hFc (fun u14 t H1 locs ht hvm hw hB hz1 hk1 hS => ?_)
              obtain ⟨o10, o11, o12, o13⟩ := u14
              obtain ⟨hP, hK9, hD⟩ := hB
              rw [ht] at hP
              have hD := hD.weaken (fun k q _ h => hFc q.1 h)
              generalize H1 = H at hP hS
              have hP : va_P (dC, dI) vwCl (kW bh br rh th tb sh cI cJ cB (nI cc2x) n2x k2x a2x (fun j => nI (fc2x j)) fn2x (fun j => nI (mc2x j)) mm2x wo2x tc2x g12x g22x nu2x (fun j => nI (erA j)) reA (fun j => nI (liA j)) (fun j => nI (lcA j)) m2x y2x f2x (nI l2) (nI o10) o11 o12 o13 tpA w2x c2x q2x e2x) H := hP
              have hD : va_D A (kW bh br rh th tb sh cI cJ cB (nI cc2x) n2x k2x a2x (fun j => nI (fc2x j)) fn2x (fun j => nI (mc2x j)) mm2x wo2x tc2x g12x g22x nu2x (fun j => nI (erA j)) reA (fun j => nI (liA j)) (fun j => nI (lcA j)) m2x y2x f2x (nI l2) (nI o10) o11 o12 o13 tpA w2x c2x q2x e2x) := hD
              have hw : (b2x ≤ o10) ∧ (o10 ≤ l2) := hw
              obtain ⟨w0r9, w1r9⟩ := hw
              obtain ⟨x15, ex15⟩ : ∃ y : Int32, y = (nI ix) + 1 := ⟨_, rfl⟩
              refine lv_iinc (v := x15) (lv' := [(3, .int x15), (0, .ref rh), (1, .ref bh), (4, .int (nI kx))]) hx hb dX2_reads_86 hl (k := 2) rfl (by rw [ex15]; rfl) (by decide) rfl (fun ls hl => ?_)
              obtain rfl : x15 = nI (ix + 1) := by rw [ex15]; exact nI_add (ix) 1
              refine lv_goto (tgt := 15) hx hb dX2_reads_89 (by decide) ?_
              exact ih15 (ix + 1) l2 o10 o11 o12 o13 f2x m2x y2x w2x c2x q2x e2x cc2x n2x k2x a2x fc2x mc2x fn2x mm2x wo2x tc2x g12x g22x nu2x _ _ ls (by omega) hbfc2x hbmc2x (by first | omega | assumption | trivial) (by first | omega | assumption | trivial) (by first | omega | assumption | trivial) (by first | omega | assumption | trivial) hP hD hS (lv_sub hl [1, 2, 0] rfl)
            · refine lv_aload_n hx hb dX2_reads_63 rfl (lv_at hl 0 rfl) ?_
              refine lv_aload_n hx hb dX2_reads_64 rfl (lv_at hl 1 rfl) ?_
              have hFc := z_freeW hD hS hA
              refine va_calli (va_runV (As := [.ref bh]) (rest := []) ⟨hx, hb, hml, hown, hts⟩ (kX2_readsMember l dC dI bh br rh th tb sh cI cJ cB cc2x n2x k2x a2x fc2x fn2x mc2x mm2x wo2x tc2x g12x g22x nu2x erA reA liA lcA m2x y2x f2x l2 b2x s2x so2x v2x tpA w2x c2x q2x e2x ⟨by omega, by omega, by omega, hbfc2x, hbmc2x, herA, hliA, hlcA⟩ (by first | omega | assumption | trivial) H.size) (cwV 1 hts zgX2_reads_X2_readsMember_51 rfl rfl rfl (by decide +kernel) ⟨(show 4 + 1 ≤ 5 by omega), (show 8 + (2 + 11) + 86 ≤ 107 by omega)⟩) (zVk (ci := 1) (q0 := 17) (q := (RX2, TX2, 5)) hK hP hD hE rfl rfl rfl) rfl rfl hl.1 rfl (lv_room (Nat.le_of_ble_eq_true rfl)) dX2_reads_65 ⟨(show 0 + 0 ≤ 0 by omega), (show 0 + 0 ≤ 0 by omega)⟩) hS (fun q _ h => hFc q h) hFc (fun r16 u35 t H1 locs ht hvm hw hB hz1 hk1 hS => ?_)
              obtain ⟨o17, o18, o19, o20, o21, o22, o23, o24, o25, o26, o27, o28, o29, o30, o31, o32, o33, o34⟩ := u35
              obtain ⟨hP, hK9, hD⟩ := hB
              rw [ht] at hP
              have hD := hD.weaken (fun k q _ h => hFc q.1 h)
              generalize H1 = H at hP hS
              have hP : va_P (dC, dI) vwCl (kW bh br rh th tb sh cI cJ cB (nI cc2x) n2x k2x a2x (fun j => nI (fc2x j)) fn2x (fun j => nI (o28 j)) o29 o30 o31 o32 o33 o34 (fun j => nI (erA j)) reA (fun j => nI (liA j)) (fun j => nI (lcA j)) o22 o23 o21 (nI l2) (nI o17) o18 o19 o20 tpA o24 o25 o26 o27) H := hP
              have hD : va_D A (kW bh br rh th tb sh cI cJ cB (nI cc2x) n2x k2x a2x (fun j => nI (fc2x j)) fn2x (fun j => nI (o28 j)) o29 o30 o31 o32 o33 o34 (fun j => nI (erA j)) reA (fun j => nI (liA j)) (fun j => nI (lcA j)) o22 o23 o21 (nI l2) (nI o17) o18 o19 o20 tpA o24 o25 o26 o27) := hD
              have hw : (r16 = 0 ∨ r16 = 1) ∧ (o17 ≤ l2) ∧ (∀ j, o28 j ≤ 12) := hw
              obtain ⟨w0r16, w1r16, hbo28⟩ := hw
              refine lv_if_ne (tgt := 73) hx hb dX2_reads_68 (by decide) (fun cp68 => ?_) (fun cp68 => ?_)
              · obtain ⟨x36, ex36⟩ : ∃ y : Int32, y = (nI kx) + 1 := ⟨_, rfl⟩
                refine lv_iinc (v := x36) (lv' := [(4, .int x36), (0, .ref rh), (1, .ref bh), (3, .int (nI ix))]) hx hb dX2_reads_73 hl (k := 3) rfl (by rw [ex36]; rfl) (by decide) rfl (fun ls hl => ?_)
                obtain rfl : x36 = nI (kx + 1) := by rw [ex36]; exact nI_add (kx) 1
                refine lv_goto (tgt := 44) hx hb dX2_reads_76 (by decide) ?_
                exact ih44 (kx + 1) o17 o18 o19 o20 o21 o22 o23 o24 o25 o26 o27 cc2x n2x k2x a2x fc2x o28 fn2x o29 o30 o31 o32 o33 o34 _ _ ls (by omega) hbfc2x hbo28 (by first | omega | assumption | trivial) (by first | omega | assumption | trivial) (by first | omega | assumption | trivial) (by first | omega | assumption | trivial) (by first | omega | assumption | trivial) hP hD hS (lv_sub hl [1, 2, 3, 0] rfl)
              · refine lv_iconst (v := 0) hx hb dX2_reads_71 (by decide) ?_
                have hP9 : va_P (dC, dI) vwCl (kW bh br rh th tb sh cI cJ cB (nI cc2x) n2x k2x a2x (fun j => nI (fc2x j)) fn2x (fun j => nI (o28 j)) o29 o30 o31 o32 o33 o34 (fun j => nI (erA j)) reA (fun j => nI (liA j)) (fun j => nI (lcA j)) o22 o23 o21 (nI l2) (nI o17) o18 o19 o20 tpA o24 o25 o26 o27) H := hP
                have hD9 : va_D A (kW bh br rh th tb sh cI cJ cB (nI cc2x) n2x k2x a2x (fun j => nI (fc2x j)) fn2x (fun j => nI (o28 j)) o29 o30 o31 o32 o33 o34 (fun j => nI (erA j)) reA (fun j => nI (liA j)) (fun j => nI (lcA j)) o22 o23 o21 (nI l2) (nI o17) o18 o19 o20 tpA o24 o25 o26 o27) := hD
                exact W.zret (v := (0 : Int32)) hx hb hr rfl (fun t ht hW => ⟨⟨(0 : Int32), (l2, o17, o18, o19, o20, o21, o22, o23, o24, o25, o26, o27, cc2x, n2x, k2x, a2x, fc2x, o28, fn2x, o29, o30, o31, o32, o33, o34), rfl, ⟨(Or.inl rfl), (show l2 ≤ 800 from (by first | omega | assumption | trivial)), (show o17 ≤ l2 from (by first | omega | assumption | trivial)), (show cc2x ≤ 16 from (by first | omega | assumption | trivial)), hbfc2x, hbo28⟩, by rw [ht]; exact hP9, va_K.moved hW.alike hK, hD9⟩, hS.F ht⟩) hS.2.2 dX2_reads_72
      refine lv_iload_n hx hb dX2_reads_15 rfl (lv_at hl 2 rfl) ?_
      refine lv_bipush (v := 16) hx hb dX2_reads_16 (by decide) ?_
      refine lv_icmp_gt (tgt := 92) hx hb dX2_reads_18 (by decide) (fun cp18 => ?_) (fun cp18 => ?_)
      · have qcp18 : 16 < ix := (nI_ltI (a := 16) (b := ix) (by omega) (by omega)).mp cp18
        refine lv_iconst (v := 1) hx hb dX2_reads_92 (by decide) ?_
        have hP9 : va_P (dC, dI) vwCl (kW bh br rh th tb sh cI cJ cB (nI cc2) n2 k2 a2 (fun j => nI (fc2 j)) fn2 (fun j => nI (mc2 j)) mm2 wo2 tc2 g12 g22 nu2 (fun j => nI (erA j)) reA (fun j => nI (liA j)) (fun j => nI (lcA j)) m2 y2 f2 (nI l2) (nI b2) s2 so2 v2 tpA w2 c2 q2 e2) H := hP
        have hD9 : va_D A (kW bh br rh th tb sh cI cJ cB (nI cc2) n2 k2 a2 (fun j => nI (fc2 j)) fn2 (fun j => nI (mc2 j)) mm2 wo2 tc2 g12 g22 nu2 (fun j => nI (erA j)) reA (fun j => nI (liA j)) (fun j => nI (lcA j)) m2 y2 f2 (nI l2) (nI b2) s2 so2 v2 tpA w2 c2 q2 e2) := hD
        exact W.zret (v := (1 : Int32)) hx hb hr rfl (fun t ht hW => ⟨⟨(1 : Int32), (l2, b2, s2, so2, v2, f2, m2, y2, w2, c2, q2, e2, cc2, n2, k2, a2, fc2, mc2, fn2, mm2, wo2, tc2, g12, g22, nu2), rfl, ⟨(Or.inr rfl), (show l2 ≤ 800 from (by first | omega | assumption | trivial)), (show b2 ≤ l2 from (by first | omega | assumption | trivial)), (show cc2 ≤ 16 from (by first | omega | assumption | trivial)), hbfc2, hbmc2⟩, by rw [ht]; exact hP9, va_K.moved hW.alike hK, hD9⟩, hS.F ht⟩) hS.2.2 dX2_reads_93
      · have qcp18 : ¬ 16 < ix := fun h9 => cp18 ((nI_ltI (a := 16) (b := ix) (by omega) (by omega)).mpr h9)
        refine lv_aload_n hx hb dX2_reads_21 rfl (lv_at hl 0 rfl) ?_
        refine va_get (D := (dC, dI)) (ci := 1) (v := .ref th) (C := RX2) (T := TX2) (N := 5) hx hb hts hiX2 hown hK hP 17 rfl rfl 0 (by decide) (hts (.fieldLink RX2 14 "LinkModels$Reader" "tokens" "LLinkModels$Tokens;") (by decide +kernel)) (fun _ h9 => h9) rfl dX2_reads_22 ?_
        refine va_get (D := (dC, dI)) (ci := 3) (v := .int so2) (C := RX4) (T := TX4) (N := 6) hx hb hts hiX4 hown hK hP 18 rfl rfl 4 (by decide) (hts (.fieldLink RX2 40 "LinkModels$Tokens" "sort" "I") (by decide +kernel)) (fun _ h9 => h9) rfl dX2_reads_25 ?_
        refine lv_if_eq (tgt := 92) hx hb dX2_reads_28 (by decide) (fun cp28 => ?_) (fun cp28 => ?_)
        · refine lv_iconst (v := 1) hx hb dX2_reads_92 (by decide) ?_
          have hP9 : va_P (dC, dI) vwCl (kW bh br rh th tb sh cI cJ cB (nI cc2) n2 k2 a2 (fun j => nI (fc2 j)) fn2 (fun j => nI (mc2 j)) mm2 wo2 tc2 g12 g22 nu2 (fun j => nI (erA j)) reA (fun j => nI (liA j)) (fun j => nI (lcA j)) m2 y2 f2 (nI l2) (nI b2) s2 so2 v2 tpA w2 c2 q2 e2) H := hP
          have hD9 : va_D A (kW bh br rh th tb sh cI cJ cB (nI cc2) n2 k2 a2 (fun j => nI (fc2 j)) fn2 (fun j => nI (mc2 j)) mm2 wo2 tc2 g12 g22 nu2 (fun j => nI (erA j)) reA (fun j => nI (liA j)) (fun j => nI (lcA j)) m2 y2 f2 (nI l2) (nI b2) s2 so2 v2 tpA w2 c2 q2 e2) := hD
          exact W.zret (v := (1 : Int32)) hx hb hr rfl (fun t ht hW => ⟨⟨(1 : Int32), (l2, b2, s2, so2, v2, f2, m2, y2, w2, c2, q2, e2, cc2, n2, k2, a2, fc2, mc2, fn2, mm2, wo2, tc2, g12, g22, nu2), rfl, ⟨(Or.inr rfl), (show l2 ≤ 800 from (by first | omega | assumption | trivial)), (show b2 ≤ l2 from (by first | omega | assumption | trivial)), (show cc2 ≤ 16 from (by first | omega | assumption | trivial)), hbfc2, hbmc2⟩, by rw [ht]; exact hP9, va_K.moved hW.alike hK, hD9⟩, hS.F ht⟩) hS.2.2 dX2_reads_93
        · refine lv_aload_n hx hb dX2_reads_31 rfl (lv_at hl 0 rfl) ?_
          refine lv_aload_n hx hb dX2_reads_32 rfl (lv_at hl 1 rfl) ?_
          have hFc := z_freeW hD hS hA
          refine va_calli (va_runV (As := [.ref bh]) (rest := []) ⟨hx, hb, hml, hown, hts⟩ (kX2_readsHead l dC dI bh br rh th tb sh cI cJ cB cc2 n2 k2 a2 fc2 fn2 mc2 mm2 wo2 tc2 g12 g22 nu2 erA reA liA lcA m2 y2 f2 l2 b2 s2 so2 v2 tpA w2 c2 q2 e2 ⟨by omega, by omega, by omega, hbfc2, hbmc2, herA, hliA, hlcA⟩ H.size) (cwV 1 hts zgX2_reads_X2_readsHead_43 rfl rfl rfl (by decide +kernel) ⟨(show 3 + 1 ≤ 5 by omega), (show 8 + (3 + 11) + 65 ≤ 107 by omega)⟩) (zVk (ci := 1) (q0 := 17) (q := (RX2, TX2, 5)) hK hP hD hE rfl rfl rfl) rfl rfl hl.1 rfl (lv_room (Nat.le_of_ble_eq_true rfl)) dX2_reads_33 ⟨(show 0 + 0 ≤ 0 by omega), (show 0 + 0 ≤ 0 by omega)⟩) hS (fun q _ h => hFc q h) hFc (fun r37 u50 t H1 locs ht hvm hw hB hz1 hk1 hS => ?_)
          obtain ⟨o38, o39, o40, o41, o42, o43, o44, o45, o46, o47, o48, o49⟩ := u50
          obtain ⟨hP, hK9, hD⟩ := hB
          rw [ht] at hP
          have hD := hD.weaken (fun k q _ h => hFc q.1 h)
          generalize H1 = H at hP hS
          have hP : va_P (dC, dI) vwCl (kW bh br rh th tb sh cI cJ cB (nI o43) o44 o45 o46 (fun j => nI (o47 j)) o49 (fun j => nI (o48 j)) mm2 wo2 tc2 g12 g22 nu2 (fun j => nI (erA j)) reA (fun j => nI (liA j)) (fun j => nI (lcA j)) m2 y2 o42 (nI l2) (nI o38) o39 o40 o41 tpA w2 c2 q2 e2) H := hP
          have hD : va_D A (kW bh br rh th tb sh cI cJ cB (nI o43) o44 o45 o46 (fun j => nI (o47 j)) o49 (fun j => nI (o48 j)) mm2 wo2 tc2 g12 g22 nu2 (fun j => nI (erA j)) reA (fun j => nI (liA j)) (fun j => nI (lcA j)) m2 y2 o42 (nI l2) (nI o38) o39 o40 o41 tpA w2 c2 q2 e2) := hD
          have hw : (r37 = 0 ∨ r37 = 1) ∧ (o38 ≤ l2) ∧ (o43 ≤ 16) ∧ (r37 = 1 → 1 ≤ o43) ∧ (∀ j, o47 j ≤ 3) ∧ (∀ j, o48 j ≤ 12) := hw
          obtain ⟨w0r37, w1r37, w2r37, w3r37, hbo47, hbo48⟩ := hw
          refine lv_if_ne (tgt := 41) hx hb dX2_reads_36 (by decide) (fun cp36 => ?_) (fun cp36 => ?_)
          · have hc1 := w3r37 (w0r37.resolve_left cp36)
            refine lv_iconst (v := 0) hx hb dX2_reads_41 (by decide) ?_
            refine lv_istore (lv' := [(4, .int 0), (0, .ref rh), (1, .ref bh), (3, .int (nI ix))]) hx hb dX2_reads_42 hl (by decide) rfl (fun ls hl => ?_)
            exact J44 _ 0 o38 o39 o40 o41 o42 m2 y2 w2 c2 q2 e2 o43 o44 o45 o46 o47 o48 o49 mm2 wo2 tc2 g12 g22 nu2 _ _ ls (Nat.lt_succ_self _) hbo47 hbo48 (by first | omega | assumption | trivial) (by first | omega | assumption | trivial) (by first | omega | assumption | trivial) (by first | omega | assumption | trivial) (by first | omega | assumption | trivial) hP hD hS (lv_sub hl [1, 2, 3, 0] rfl)
          · refine lv_iconst (v := 0) hx hb dX2_reads_39 (by decide) ?_
            have hP9 : va_P (dC, dI) vwCl (kW bh br rh th tb sh cI cJ cB (nI o43) o44 o45 o46 (fun j => nI (o47 j)) o49 (fun j => nI (o48 j)) mm2 wo2 tc2 g12 g22 nu2 (fun j => nI (erA j)) reA (fun j => nI (liA j)) (fun j => nI (lcA j)) m2 y2 o42 (nI l2) (nI o38) o39 o40 o41 tpA w2 c2 q2 e2) H := hP
            have hD9 : va_D A (kW bh br rh th tb sh cI cJ cB (nI o43) o44 o45 o46 (fun j => nI (o47 j)) o49 (fun j => nI (o48 j)) mm2 wo2 tc2 g12 g22 nu2 (fun j => nI (erA j)) reA (fun j => nI (liA j)) (fun j => nI (lcA j)) m2 y2 o42 (nI l2) (nI o38) o39 o40 o41 tpA w2 c2 q2 e2) := hD
            exact W.zret (v := (0 : Int32)) hx hb hr rfl (fun t ht hW => ⟨⟨(0 : Int32), (l2, o38, o39, o40, o41, o42, m2, y2, w2, c2, q2, e2, o43, o44, o45, o46, o47, o48, o49, mm2, wo2, tc2, g12, g22, nu2), rfl, ⟨(Or.inl rfl), (show l2 ≤ 800 from (by first | omega | assumption | trivial)), (show o38 ≤ l2 from (by first | omega | assumption | trivial)), (show o43 ≤ 16 from (by first | omega | assumption | trivial)), hbo47, hbo48⟩, by rw [ht]; exact hP9, va_K.moved hW.alike hK, hD9⟩, hS.F ht⟩) hS.2.2 dX2_reads_40
  refine lv_aload_n hx hb dX2_reads_0 rfl (lv_at hl 0 rfl) ?_
  refine lv_iconst (v := 0) hx hb dX2_reads_1 (by decide) ?_
  refine va_put (D := (dC, dI)) (ci := 1) (v := .int 0) (ty := (.int)) (C := RX2) (T := TX2) (N := 5) hx hb hts hiX2 tyX2 tyX2_ok nmX2 hown hK hP hD hS 17 rfl rfl 4 (by decide) (hts (.fieldLink RX2 27 "LinkModels$Reader" "fault" "I") (by decide +kernel)) (fun _ h9 => h9) rfl (by decide +kernel) rfl rfl (Nat.le_of_ble_eq_true rfl) dX2_reads_2 (fun H locs hP hD hS => ?_)
  have hP : va_P (dC, dI) vwCl (kW bh br rh th tb sh cI cJ cB (nI cc) nA mA aA (fun j => nI (fcA j)) fA (fun j => nI (mcA j)) mmA wA tcA g1A g2A nuA (fun j => nI (erA j)) reA (fun j => nI (liA j)) (fun j => nI (lcA j)) rm ry 0 (nI tl) (nI ta) ts so tv tpA sw st sf sq) H := hP
  have hD : va_D A (kW bh br rh th tb sh cI cJ cB (nI cc) nA mA aA (fun j => nI (fcA j)) fA (fun j => nI (mcA j)) mmA wA tcA g1A g2A nuA (fun j => nI (erA j)) reA (fun j => nI (liA j)) (fun j => nI (lcA j)) rm ry 0 (nI tl) (nI ta) ts so tv tpA sw st sf sq) := hD
  refine lv_aload_n hx hb dX2_reads_5 rfl (lv_at hl 0 rfl) ?_
  refine va_get (D := (dC, dI)) (ci := 1) (v := .ref th) (C := RX2) (T := TX2) (N := 5) hx hb hts hiX2 hown hK hP 17 rfl rfl 0 (by decide) (hts (.fieldLink RX2 14 "LinkModels$Reader" "tokens" "LLinkModels$Tokens;") (by decide +kernel)) (fun _ h9 => h9) rfl dX2_reads_6 ?_
  refine lv_iload_n hx hb dX2_reads_9 rfl (lv_at hl 2 rfl) ?_
  have hFc := z_freeW hD hS hA
  refine va_callv (va_runV (As := [.int (nI ln)]) (rest := []) ⟨hx, hb, hml, hown, hts⟩ (kX4_open l dC dI bh br rh th tb sh cI cJ cB cc nA mA aA fcA fA mcA mmA wA tcA g1A g2A nuA erA reA liA lcA rm ry 0 tl ta ts so tv tpA sw st sf sq ⟨by omega, by omega, by omega, hfcA, hmcA, herA, hliA, hlcA⟩ ln (by first | omega | assumption | trivial) H.size) (cwV 1 hts zgX2_reads_X4_open_34 rfl rfl rfl (by decide +kernel) ⟨(show 2 + 1 ≤ 5 by omega), (show 8 + (2 + 11) + 42 ≤ 107 by omega)⟩) (zVk (ci := 3) (q0 := 18) (q := (RX4, TX4, 6)) hK hP hD hE rfl rfl rfl) rfl rfl hl.1 rfl (lv_room (Nat.le_of_ble_eq_true rfl)) dX2_reads_10 ⟨(show 0 + 0 ≤ 0 by omega), (show 0 + 0 ≤ 0 by omega)⟩) hS (fun q _ h => hFc q h) hFc (fun u57 t H1 locs ht hvm hw hB hz1 hk1 hS => ?_)
  obtain ⟨o52, o53, o54, o55, o56⟩ := u57
  obtain ⟨hP, hK9, hD⟩ := hB
  rw [ht] at hP
  have hD := hD.weaken (fun k q _ h => hFc q.1 h)
  generalize H1 = H at hP hS
  have hP : va_P (dC, dI) vwCl (kW bh br rh th tb sh cI cJ cB (nI cc) nA mA aA (fun j => nI (fcA j)) fA (fun j => nI (mcA j)) mmA wA tcA g1A g2A nuA (fun j => nI (erA j)) reA (fun j => nI (liA j)) (fun j => nI (lcA j)) rm ry 0 (nI o52) (nI o53) o54 o55 o56 tpA sw st sf sq) H := hP
  have hD : va_D A (kW bh br rh th tb sh cI cJ cB (nI cc) nA mA aA (fun j => nI (fcA j)) fA (fun j => nI (mcA j)) mmA wA tcA g1A g2A nuA (fun j => nI (erA j)) reA (fun j => nI (liA j)) (fun j => nI (lcA j)) rm ry 0 (nI o52) (nI o53) o54 o55 o56 tpA sw st sf sq) := hD
  have hw : (o52 = ln) ∧ (o53 ≤ ln) := hw
  obtain ⟨w0r51, w1r51⟩ := hw
  refine lv_iconst (v := 0) hx hb dX2_reads_13 (by decide) ?_
  refine lv_istore_n (lv' := [(3, .int 0), (0, .ref rh), (1, .ref bh), (2, .int (nI ln))]) hx hb dX2_reads_14 rfl hl (by decide) rfl (fun ls hl => ?_)
  exact J15 _ 0 o52 o53 o54 o55 o56 0 rm ry sw st sf sq cc nA mA aA fcA mcA fA mmA wA tcA g1A g2A nuA _ _ ls (Nat.lt_succ_self _) hfcA hmcA (by first | omega | assumption | trivial) (by first | omega | assumption | trivial) (by first | omega | assumption | trivial) (by first | omega | assumption | trivial) hP hD hS (lv_sub hl [1, 2, 0] rfl)
