def RX0 : String := "LinkModels$Build"
def TX0 : u_T := fun k => match k with
  | 0 => ("LinkModels$Build", "classCount", "I", false)
  | 1 => ("LinkModels$Build", "names", "[I", true)
  | 2 => ("LinkModels$Build", "classMarks", "[I", true)
  | 3 => ("LinkModels$Build", "aboveNames", "[I", true)
  | 4 => ("LinkModels$Build", "faceCounts", "[I", true)
  | 5 => ("LinkModels$Build", "faceNames", "[I", true)
  | 6 => ("LinkModels$Build", "memberCounts", "[I", true)
  | 7 => ("LinkModels$Build", "memberMarks", "[I", true)
  | 8 => ("LinkModels$Build", "words", "[J", true)
  | 9 => ("LinkModels$Build", "typeCounts", "[I", true)
  | 10 => ("LinkModels$Build", "firsts", "[I", true)
  | 11 => ("LinkModels$Build", "seconds", "[I", true)
  | 12 => ("LinkModels$Build", "numbers", "[I", true)
  | 13 => ("LinkModels$Build", "errors", "[I", true)
  | 14 => ("LinkModels$Build", "reached", "[I", true)
  | 15 => ("LinkModels$Build", "lines", "[I", true)
  | _ => ("LinkModels$Build", "lineCounts", "[I", true)
def tyX0 : Nat → FieldType := fun k => match k with
  | 0 => .int
  | 1 => .array .int
  | 2 => .array .int
  | 3 => .array .int
  | 4 => .array .int
  | 5 => .array .int
  | 6 => .array .int
  | 7 => .array .int
  | 8 => .array .long
  | 9 => .array .int
  | 10 => .array .int
  | 11 => .array .int
  | 12 => .array .int
  | 13 => .array .int
  | 14 => .array .int
  | 15 => .array .int
  | _ => .array .int
abbrev wsX00 : List Cond := u_ws RX0 TX0 17
theorem nmX0 : ∀ a, a < 17 → ∀ b, b < 17 → a ≠ b → (TX0 a).2.1 ≠ (TX0 b).2.1 := by decide +kernel
theorem tyX0_ok : ∀ k, k < 17 → parseFieldDescriptor (TX0 k).2.2.1 = some (tyX0 k) := by decide +kernel
abbrev cX0_init : ByteArray := prog_2_method_1_code
def yX0_init : MethodName := ⟨RX0, "<init>", "()V"⟩
abbrev cX0_addClass : ByteArray := prog_2_method_2_code
def yX0_addClass : MethodName := ⟨RX0, "addClass", "(II)V"⟩
abbrev cX0_setAbove : ByteArray := prog_2_method_3_code
def yX0_setAbove : MethodName := ⟨RX0, "setAbove", "(I)V"⟩
abbrev cX0_addFace : ByteArray := prog_2_method_4_code
def yX0_addFace : MethodName := ⟨RX0, "addFace", "(I)V"⟩
abbrev cX0_isFilled : ByteArray := prog_2_method_5_code
def yX0_isFilled : MethodName := ⟨RX0, "isFilled", "()Z"⟩
abbrev cX0_addMember : ByteArray := prog_2_method_6_code
def yX0_addMember : MethodName := ⟨RX0, "addMember", "(ILLinkModels$Signature;I)V"⟩
abbrev cX0_placeOf : ByteArray := prog_2_method_7_code
def yX0_placeOf : MethodName := ⟨RX0, "placeOf", "(I)I"⟩
abbrev cX0_errorAt : ByteArray := prog_2_method_8_code
def yX0_errorAt : MethodName := ⟨RX0, "errorAt", "(I)I"⟩
abbrev cX0_isFace : ByteArray := prog_2_method_9_code
def yX0_isFace : MethodName := ⟨RX0, "isFace", "(I)Z"⟩
abbrev cX0_isWhole : ByteArray := prog_2_method_10_code
def yX0_isWhole : MethodName := ⟨RX0, "isWhole", "(I)Z"⟩
abbrev cX0_isOf : ByteArray := prog_2_method_11_code
def yX0_isOf : MethodName := ⟨RX0, "isOf", "(II)Z"⟩
abbrev cX0_has : ByteArray := prog_2_method_12_code
def yX0_has : MethodName := ⟨RX0, "has", "(II)Z"⟩
abbrev cX0_numberAt : ByteArray := prog_2_method_13_code
def yX0_numberAt : MethodName := ⟨RX0, "numberAt", "(I)I"⟩
abbrev cX0_membersWith : ByteArray := prog_2_method_14_code
def yX0_membersWith : MethodName := ⟨RX0, "membersWith", "(II)I"⟩
abbrev cX0_fieldIn : ByteArray := prog_2_method_15_code
def yX0_fieldIn : MethodName := ⟨RX0, "fieldIn", "(IJ)I"⟩
abbrev cX0_methodIn : ByteArray := prog_2_method_16_code
def yX0_methodIn : MethodName := ⟨RX0, "methodIn", "(ILLinkModels$Signature;)I"⟩
abbrev cX0_fieldFrom : ByteArray := prog_2_method_17_code
def yX0_fieldFrom : MethodName := ⟨RX0, "fieldFrom", "(IJ)I"⟩
abbrev cX0_methodFrom : ByteArray := prog_2_method_18_code
def yX0_methodFrom : MethodName := ⟨RX0, "methodFrom", "(ILLinkModels$Signature;I)I"⟩
abbrev cX0_nearestFaces : ByteArray := prog_2_method_19_code
def yX0_nearestFaces : MethodName := ⟨RX0, "nearestFaces", "(ILLinkModels$Signature;)I"⟩
abbrev cX0_withBody : ByteArray := prog_2_method_20_code
def yX0_withBody : MethodName := ⟨RX0, "withBody", "(ILLinkModels$Signature;)I"⟩
abbrev cX0_firstMethodOf : ByteArray := prog_2_method_21_code
def yX0_firstMethodOf : MethodName := ⟨RX0, "firstMethodOf", "(IILLinkModels$Signature;)I"⟩
abbrev cX0_settle : ByteArray := prog_2_method_22_code
def yX0_settle : MethodName := ⟨RX0, "settle", "()V"⟩
abbrev cX0_traceWays : ByteArray := prog_2_method_23_code
def yX0_traceWays : MethodName := ⟨RX0, "traceWays", "()V"⟩
abbrev cX0_bitOf : ByteArray := prog_2_method_24_code
def yX0_bitOf : MethodName := ⟨RX0, "bitOf", "(I)I"⟩
abbrev cX0_settleClass : ByteArray := prog_2_method_25_code
def yX0_settleClass : MethodName := ⟨RX0, "settleClass", "(I)V"⟩
abbrev cX0_firstError : ByteArray := prog_2_method_26_code
def yX0_firstError : MethodName := ⟨RX0, "firstError", "(I)I"⟩
abbrev cX0_joinLine : ByteArray := prog_2_method_27_code
def yX0_joinLine : MethodName := ⟨RX0, "joinLine", "(II)V"⟩
abbrev cX0_isInLine : ByteArray := prog_2_method_28_code
def yX0_isInLine : MethodName := ⟨RX0, "isInLine", "(II)Z"⟩
def RX1 : String := "LinkModels$Linker"
def TX1 : u_T := fun k => match k with
  | _ => ("", "", "", false)
def tyX1 : Nat → FieldType := fun k => match k with
  | _ => .int
abbrev wsX10 : List Cond := u_ws RX1 TX1 0
theorem nmX1 : ∀ a, a < 0 → ∀ b, b < 0 → a ≠ b → (TX1 a).2.1 ≠ (TX1 b).2.1 := by decide +kernel
theorem tyX1_ok : ∀ k, k < 0 → parseFieldDescriptor (TX1 k).2.2.1 = some (tyX1 k) := by decide +kernel
abbrev cX1_failed : ByteArray := prog_3_method_2_code
def yX1_failed : MethodName := ⟨RX1, "failed", "(I)I"⟩
abbrev cX1_linked : ByteArray := prog_3_method_3_code
def yX1_linked : MethodName := ⟨RX1, "linked", "(LLinkModels$Build;LLinkModels$Use;)I"⟩
abbrev cX1_linkedField : ByteArray := prog_3_method_4_code
def yX1_linkedField : MethodName := ⟨RX1, "linkedField", "(LLinkModels$Build;LLinkModels$Use;II)I"⟩
abbrev cX1_linkedMethod : ByteArray := prog_3_method_5_code
def yX1_linkedMethod : MethodName := ⟨RX1, "linkedMethod", "(LLinkModels$Build;LLinkModels$Use;II)I"⟩
abbrev cX1_foundInFaces : ByteArray := prog_3_method_6_code
def yX1_foundInFaces : MethodName := ⟨RX1, "foundInFaces", "(LLinkModels$Build;LLinkModels$Signature;I)I"⟩
abbrev cX1_performed : ByteArray := prog_3_method_7_code
def yX1_performed : MethodName := ⟨RX1, "performed", "(LLinkModels$Build;LLinkModels$Use;II)I"⟩
abbrev cX1_performedByFaces : ByteArray := prog_3_method_8_code
def yX1_performedByFaces : MethodName := ⟨RX1, "performedByFaces", "(LLinkModels$Build;LLinkModels$Signature;I)I"⟩
abbrev cX1_tellApart : ByteArray := prog_3_method_9_code
def yX1_tellApart : MethodName := ⟨RX1, "tellApart", "(LLinkModels$Build;LLinkModels$Build;LLinkModels$Use;)Z"⟩
def RX2 : String := "LinkModels$Reader"
def TX2 : u_T := fun k => match k with
  | 0 => ("LinkModels$Reader", "tokens", "LLinkModels$Tokens;", true)
  | 1 => ("LinkModels$Reader", "signature", "LLinkModels$Signature;", true)
  | 2 => ("LinkModels$Reader", "marks", "I", false)
  | 3 => ("LinkModels$Reader", "type", "I", false)
  | _ => ("LinkModels$Reader", "fault", "I", false)
def tyX2 : Nat → FieldType := fun k => match k with
  | 0 => .object "LinkModels$Tokens"
  | 1 => .object "LinkModels$Signature"
  | 2 => .int
  | 3 => .int
  | _ => .int
abbrev wsX20 : List Cond := u_ws RX2 TX2 5
theorem nmX2 : ∀ a, a < 5 → ∀ b, b < 5 → a ≠ b → (TX2 a).2.1 ≠ (TX2 b).2.1 := by decide +kernel
theorem tyX2_ok : ∀ k, k < 5 → parseFieldDescriptor (TX2 k).2.2.1 = some (tyX2 k) := by decide +kernel
abbrev cX2_init : ByteArray := prog_4_method_1_code
def yX2_init : MethodName := ⟨RX2, "<init>", "([B)V"⟩
abbrev cX2_fault : ByteArray := prog_4_method_2_code
def yX2_fault : MethodName := ⟨RX2, "fault", "()I"⟩
abbrev cX2_place : ByteArray := prog_4_method_3_code
def yX2_place : MethodName := ⟨RX2, "place", "()I"⟩
abbrev cX2_reads : ByteArray := prog_4_method_4_code
def yX2_reads : MethodName := ⟨RX2, "reads", "(LLinkModels$Build;I)Z"⟩
abbrev cX2_refuse : ByteArray := prog_4_method_5_code
def yX2_refuse : MethodName := ⟨RX2, "refuse", "(I)Z"⟩
abbrev cX2_readsHead : ByteArray := prog_4_method_6_code
def yX2_readsHead : MethodName := ⟨RX2, "readsHead", "(LLinkModels$Build;)Z"⟩
abbrev cX2_readsAbove : ByteArray := prog_4_method_7_code
def yX2_readsAbove : MethodName := ⟨RX2, "readsAbove", "(LLinkModels$Build;)Z"⟩
abbrev cX2_readsFaces : ByteArray := prog_4_method_8_code
def yX2_readsFaces : MethodName := ⟨RX2, "readsFaces", "(LLinkModels$Build;)Z"⟩
abbrev cX2_readsMember : ByteArray := prog_4_method_9_code
def yX2_readsMember : MethodName := ⟨RX2, "readsMember", "(LLinkModels$Build;)Z"⟩
abbrev cX2_readsMarks : ByteArray := prog_4_method_10_code
def yX2_readsMarks : MethodName := ⟨RX2, "readsMarks", "()Z"⟩
abbrev cX2_readsField : ByteArray := prog_4_method_11_code
def yX2_readsField : MethodName := ⟨RX2, "readsField", "(LLinkModels$Build;)Z"⟩
abbrev cX2_readsMethod : ByteArray := prog_4_method_12_code
def yX2_readsMethod : MethodName := ⟨RX2, "readsMethod", "(LLinkModels$Build;)Z"⟩
abbrev cX2_readsTypes : ByteArray := prog_4_method_13_code
def yX2_readsTypes : MethodName := ⟨RX2, "readsTypes", "()Z"⟩
abbrev cX2_passes : ByteArray := prog_4_method_14_code
def yX2_passes : MethodName := ⟨RX2, "passes", "(C)Z"⟩
abbrev cX2_classMarkHere : ByteArray := prog_4_method_15_code
def yX2_classMarkHere : MethodName := ⟨RX2, "classMarkHere", "()I"⟩
abbrev cX2_markHere : ByteArray := prog_4_method_16_code
def yX2_markHere : MethodName := ⟨RX2, "markHere", "()I"⟩
abbrev cX2_typeHere : ByteArray := prog_4_method_17_code
def yX2_typeHere : MethodName := ⟨RX2, "typeHere", "()I"⟩
abbrev cX2_isMemberWordHere : ByteArray := prog_4_method_18_code
def yX2_isMemberWordHere : MethodName := ⟨RX2, "isMemberWordHere", "()Z"⟩
def RX3 : String := "LinkModels$Signature"
def TX3 : u_T := fun k => match k with
  | 0 => ("LinkModels$Signature", "word", "J", false)
  | 1 => ("LinkModels$Signature", "typeCount", "I", false)
  | 2 => ("LinkModels$Signature", "first", "I", false)
  | _ => ("LinkModels$Signature", "second", "I", false)
def tyX3 : Nat → FieldType := fun k => match k with
  | 0 => .long
  | 1 => .int
  | 2 => .int
  | _ => .int
abbrev wsX30 : List Cond := u_ws RX3 TX3 4
theorem nmX3 : ∀ a, a < 4 → ∀ b, b < 4 → a ≠ b → (TX3 a).2.1 ≠ (TX3 b).2.1 := by decide +kernel
theorem tyX3_ok : ∀ k, k < 4 → parseFieldDescriptor (TX3 k).2.2.1 = some (tyX3 k) := by decide +kernel
abbrev cX3_init : ByteArray := prog_5_method_1_code
def yX3_init : MethodName := ⟨RX3, "<init>", "()V"⟩
abbrev cX3_begin : ByteArray := prog_5_method_2_code
def yX3_begin : MethodName := ⟨RX3, "begin", "(J)V"⟩
abbrev cX3_add : ByteArray := prog_5_method_3_code
def yX3_add : MethodName := ⟨RX3, "add", "(I)V"⟩
def RX4 : String := "LinkModels$Tokens"
def TX4 : u_T := fun k => match k with
  | 0 => ("LinkModels$Tokens", "tape", "[B", true)
  | 1 => ("LinkModels$Tokens", "length", "I", false)
  | 2 => ("LinkModels$Tokens", "behind", "I", false)
  | 3 => ("LinkModels$Tokens", "start", "I", false)
  | 4 => ("LinkModels$Tokens", "sort", "I", false)
  | _ => ("LinkModels$Tokens", "value", "J", false)
def tyX4 : Nat → FieldType := fun k => match k with
  | 0 => .array .byte
  | 1 => .int
  | 2 => .int
  | 3 => .int
  | 4 => .int
  | _ => .long
abbrev wsX40 : List Cond := u_ws RX4 TX4 6
theorem nmX4 : ∀ a, a < 6 → ∀ b, b < 6 → a ≠ b → (TX4 a).2.1 ≠ (TX4 b).2.1 := by decide +kernel
theorem tyX4_ok : ∀ k, k < 6 → parseFieldDescriptor (TX4 k).2.2.1 = some (tyX4 k) := by decide +kernel
abbrev cX4_init : ByteArray := prog_6_method_1_code
def yX4_init : MethodName := ⟨RX4, "<init>", "([B)V"⟩
abbrev cX4_open : ByteArray := prog_6_method_2_code
def yX4_open : MethodName := ⟨RX4, "open", "(I)V"⟩
abbrev cX4_step : ByteArray := prog_6_method_3_code
def yX4_step : MethodName := ⟨RX4, "step", "()V"⟩
abbrev cX4_isSign : ByteArray := prog_6_method_4_code
def yX4_isSign : MethodName := ⟨RX4, "isSign", "(C)Z"⟩
abbrev cX4_isWord : ByteArray := prog_6_method_5_code
def yX4_isWord : MethodName := ⟨RX4, "isWord", "(J)Z"⟩
abbrev cX4_take : ByteArray := prog_6_method_6_code
def yX4_take : MethodName := ⟨RX4, "take", "(I)V"⟩
abbrev cX4_joins : ByteArray := prog_6_method_7_code
def yX4_joins : MethodName := ⟨RX4, "joins", "(I)Z"⟩
abbrev cX4_longest : ByteArray := prog_6_method_8_code
def yX4_longest : MethodName := ⟨RX4, "longest", "()I"⟩
abbrev cX4_sortOf : ByteArray := prog_6_method_9_code
def yX4_sortOf : MethodName := ⟨RX4, "sortOf", "(I)I"⟩
def RX5 : String := "LinkModels$Use"
def TX5 : u_T := fun k => match k with
  | 0 => ("LinkModels$Use", "kind", "I", true)
  | 1 => ("LinkModels$Use", "caller", "I", true)
  | 2 => ("LinkModels$Use", "owner", "I", true)
  | 3 => ("LinkModels$Use", "wanted", "LLinkModels$Signature;", true)
  | _ => ("LinkModels$Use", "copy", "I", false)
def tyX5 : Nat → FieldType := fun k => match k with
  | 0 => .int
  | 1 => .int
  | 2 => .int
  | 3 => .object "LinkModels$Signature"
  | _ => .int
abbrev wsX50 : List Cond := u_ws RX5 TX5 5
theorem nmX5 : ∀ a, a < 5 → ∀ b, b < 5 → a ≠ b → (TX5 a).2.1 ≠ (TX5 b).2.1 := by decide +kernel
theorem tyX5_ok : ∀ k, k < 5 → parseFieldDescriptor (TX5 k).2.2.1 = some (tyX5 k) := by decide +kernel
abbrev cX5_init : ByteArray := prog_7_method_1_code
def yX5_init : MethodName := ⟨RX5, "<init>", "(III)V"⟩
abbrev cX5_asksField : ByteArray := prog_7_method_2_code
def yX5_asksField : MethodName := ⟨RX5, "asksField", "()Z"⟩
abbrev cX5_puts : ByteArray := prog_7_method_3_code
def yX5_puts : MethodName := ⟨RX5, "puts", "()Z"⟩
abbrev cX5_asksStatic : ByteArray := prog_7_method_4_code
def yX5_asksStatic : MethodName := ⟨RX5, "asksStatic", "()Z"⟩
def RX6 : String := "LinkModels"
def TX6 : u_T := fun k => match k with
  | 0 => ("LinkModels", "tape", "[B", true)
  | 1 => ("LinkModels", "tapeLength", "I", false)
  | 2 => ("LinkModels", "builds", "[LLinkModels$Build;", true)
  | 3 => ("LinkModels", "buildCount", "I", false)
  | 4 => ("LinkModels", "uses", "[LLinkModels$Use;", true)
  | 5 => ("LinkModels", "useCount", "I", false)
  | _ => ("LinkModels", "reader", "LLinkModels$Reader;", true)
def tyX6 : Nat → FieldType := fun k => match k with
  | 0 => .array .byte
  | 1 => .int
  | 2 => .array (.object "LinkModels$Build")
  | 3 => .int
  | 4 => .array (.object "LinkModels$Use")
  | 5 => .int
  | _ => .object "LinkModels$Reader"
abbrev wsX60 : List Cond := u_ws RX6 TX6 7
theorem nmX6 : ∀ a, a < 7 → ∀ b, b < 7 → a ≠ b → (TX6 a).2.1 ≠ (TX6 b).2.1 := by decide +kernel
theorem tyX6_ok : ∀ k, k < 7 → parseFieldDescriptor (TX6 k).2.2.1 = some (tyX6 k) := by decide +kernel
abbrev cX6_init : ByteArray := prog_1_method_1_code
def yX6_init : MethodName := ⟨RX6, "<init>", "()V"⟩
abbrev cX6_feed : ByteArray := prog_1_method_2_code
def yX6_feed : MethodName := ⟨RX6, "feed", "(JI)I"⟩
abbrev cX6_build : ByteArray := prog_1_method_3_code
def yX6_build : MethodName := ⟨RX6, "build", "()I"⟩
abbrev cX6_defined : ByteArray := prog_1_method_4_code
def yX6_defined : MethodName := ⟨RX6, "defined", "(II)I"⟩
abbrev cX6_count : ByteArray := prog_1_method_5_code
def yX6_count : MethodName := ⟨RX6, "count", "(II)I"⟩
abbrev cX6_name : ByteArray := prog_1_method_6_code
def yX6_name : MethodName := ⟨RX6, "name", "(II)I"⟩
abbrev cX6_is : ByteArray := prog_1_method_7_code
def yX6_is : MethodName := ⟨RX6, "is", "(III)I"⟩
abbrev cX6_use : ByteArray := prog_1_method_8_code
def yX6_use : MethodName := ⟨RX6, "use", "(IIIJIII)I"⟩
abbrev cX6_link : ByteArray := prog_1_method_9_code
def yX6_link : MethodName := ⟨RX6, "link", "(II)I"⟩
abbrev cX6_member : ByteArray := prog_1_method_10_code
def yX6_member : MethodName := ⟨RX6, "member", "(II)I"⟩
abbrev cX6_done : ByteArray := prog_1_method_11_code
def yX6_done : MethodName := ⟨RX6, "done", "(III)I"⟩
abbrev cX6_doneMember : ByteArray := prog_1_method_12_code
def yX6_doneMember : MethodName := ⟨RX6, "doneMember", "(III)I"⟩
abbrev cX6_compile : ByteArray := prog_1_method_13_code
def yX6_compile : MethodName := ⟨RX6, "compile", "(II)I"⟩
abbrev cX6_copied : ByteArray := prog_1_method_14_code
def yX6_copied : MethodName := ⟨RX6, "copied", "(I)I"⟩
abbrev cX6_stale : ByteArray := prog_1_method_15_code
def yX6_stale : MethodName := ⟨RX6, "stale", "(II)I"⟩
abbrev cX6_changed : ByteArray := prog_1_method_16_code
def yX6_changed : MethodName := ⟨RX6, "changed", "(III)I"⟩
abbrev cX6_told : ByteArray := prog_1_method_17_code
def yX6_told : MethodName := ⟨RX6, "told", "(I)I"⟩
abbrev cX6_share : ByteArray := prog_1_method_18_code
def yX6_share : MethodName := ⟨RX6, "share", "(I)I"⟩
abbrev cX6_emptyBuild : ByteArray := prog_1_method_19_code
def yX6_emptyBuild : MethodName := ⟨RX6, "emptyBuild", "()LLinkModels$Build;"⟩
abbrev cX6_buildAt : ByteArray := prog_1_method_20_code
def yX6_buildAt : MethodName := ⟨RX6, "buildAt", "(I)LLinkModels$Build;"⟩
abbrev cX6_useAt : ByteArray := prog_1_method_21_code
def yX6_useAt : MethodName := ⟨RX6, "useAt", "(I)LLinkModels$Use;"⟩
abbrev cX6_linkedSpot : ByteArray := prog_1_method_22_code
def yX6_linkedSpot : MethodName := ⟨RX6, "linkedSpot", "(II)I"⟩
abbrev cX6_doneSpot : ByteArray := prog_1_method_23_code
def yX6_doneSpot : MethodName := ⟨RX6, "doneSpot", "(III)I"⟩
abbrev cX6_classOf : ByteArray := prog_1_method_24_code
def yX6_classOf : MethodName := ⟨RX6, "classOf", "(I)I"⟩
abbrev cX6_placeIn : ByteArray := prog_1_method_25_code
def yX6_placeIn : MethodName := ⟨RX6, "placeIn", "(I)I"⟩
def RX7 : String := "LinkModelsModel"
def TX7 : u_T := fun k => match k with
  | 0 => ("LinkModelsModel", "thrown", "I", false)
  | 1 => ("LinkModelsModel", "tape", "[I", true)
  | 2 => ("LinkModelsModel", "taped", "I", false)
  | 3 => ("LinkModelsModel", "builds", "I", false)
  | 4 => ("LinkModelsModel", "classes", "[I", true)
  | 5 => ("LinkModelsModel", "className", "[I", true)
  | 6 => ("LinkModelsModel", "sort", "[I", true)
  | 7 => ("LinkModelsModel", "above", "[I", true)
  | 8 => ("LinkModelsModel", "faces", "[I", true)
  | 9 => ("LinkModelsModel", "face", "[I", true)
  | 10 => ("LinkModelsModel", "members", "[I", true)
  | 11 => ("LinkModelsModel", "error", "[I", true)
  | 12 => ("LinkModelsModel", "ofAll", "[I", true)
  | 13 => ("LinkModelsModel", "word", "[J", true)
  | 14 => ("LinkModelsModel", "marks", "[I", true)
  | 15 => ("LinkModelsModel", "isMethod", "[Z", true)
  | 16 => ("LinkModelsModel", "isConstant", "[Z", true)
  | 17 => ("LinkModelsModel", "number", "[I", true)
  | 18 => ("LinkModelsModel", "many", "[I", true)
  | 19 => ("LinkModelsModel", "first", "[I", true)
  | 20 => ("LinkModelsModel", "second", "[I", true)
  | 21 => ("LinkModelsModel", "at", "I", false)
  | 22 => ("LinkModelsModel", "token", "I", false)
  | 23 => ("LinkModelsModel", "tokenAt", "I", false)
  | 24 => ("LinkModelsModel", "value", "J", false)
  | 25 => ("LinkModelsModel", "fault", "I", false)
  | 26 => ("LinkModelsModel", "faultAt", "I", false)
  | 27 => ("LinkModelsModel", "b", "I", false)
  | 28 => ("LinkModelsModel", "comesTo", "[I", true)
  | 29 => ("LinkModelsModel", "uses", "I", false)
  | 30 => ("LinkModelsModel", "useKind", "[I", true)
  | 31 => ("LinkModelsModel", "caller", "[I", true)
  | 32 => ("LinkModelsModel", "owner", "[I", true)
  | 33 => ("LinkModelsModel", "useWord", "[J", true)
  | 34 => ("LinkModelsModel", "useMany", "[I", true)
  | 35 => ("LinkModelsModel", "useFirst", "[I", true)
  | 36 => ("LinkModelsModel", "useSecond", "[I", true)
  | 37 => ("LinkModelsModel", "copy", "[I", true)
  | 38 => ("LinkModelsModel", "pile", "[I", true)
  | 39 => ("LinkModelsModel", "row", "[I", true)
  | 40 => ("LinkModelsModel", "rowLong", "I", false)
  | 41 => ("LinkModelsModel", "linkError", "I", false)
  | 42 => ("LinkModelsModel", "linked", "I", false)
  | 43 => ("LinkModelsModel", "bodies", "I", false)
  | 44 => ("LinkModelsModel", "bodied", "I", false)
  | _ => ("LinkModelsModel", "firstOne", "I", false)
def tyX7 : Nat → FieldType := fun k => match k with
  | 0 => .int
  | 1 => .array .int
  | 2 => .int
  | 3 => .int
  | 4 => .array .int
  | 5 => .array .int
  | 6 => .array .int
  | 7 => .array .int
  | 8 => .array .int
  | 9 => .array .int
  | 10 => .array .int
  | 11 => .array .int
  | 12 => .array .int
  | 13 => .array .long
  | 14 => .array .int
  | 15 => .array .boolean
  | 16 => .array .boolean
  | 17 => .array .int
  | 18 => .array .int
  | 19 => .array .int
  | 20 => .array .int
  | 21 => .int
  | 22 => .int
  | 23 => .int
  | 24 => .long
  | 25 => .int
  | 26 => .int
  | 27 => .int
  | 28 => .array .int
  | 29 => .int
  | 30 => .array .int
  | 31 => .array .int
  | 32 => .array .int
  | 33 => .array .long
  | 34 => .array .int
  | 35 => .array .int
  | 36 => .array .int
  | 37 => .array .int
  | 38 => .array .int
  | 39 => .array .int
  | 40 => .int
  | 41 => .int
  | 42 => .int
  | 43 => .int
  | 44 => .int
  | _ => .int
abbrev wsX70 : List Cond := u_ws RX7 TX7 46
theorem nmX7 : ∀ a, a < 46 → ∀ b, b < 46 → a ≠ b → (TX7 a).2.1 ≠ (TX7 b).2.1 := by decide +kernel
theorem tyX7_ok : ∀ k, k < 46 → parseFieldDescriptor (TX7 k).2.2.1 = some (tyX7 k) := by decide +kernel
abbrev cX7_thrown : ByteArray := prog_9_method_1_code
def yX7_thrown : MethodName := ⟨RX7, "thrown", "()I"⟩
abbrev cX7_init : ByteArray := prog_9_method_2_code
def yX7_init : MethodName := ⟨RX7, "<init>", "()V"⟩
abbrev cX7_in : ByteArray := prog_9_method_3_code
def yX7_in : MethodName := ⟨RX7, "in", "(JJJ)Z"⟩
abbrev cX7_feed : ByteArray := prog_9_method_4_code
def yX7_feed : MethodName := ⟨RX7, "feed", "(JI)I"⟩
abbrev cX7_isBig : ByteArray := prog_9_method_5_code
def yX7_isBig : MethodName := ⟨RX7, "isBig", "(I)Z"⟩
abbrev cX7_isDigit : ByteArray := prog_9_method_6_code
def yX7_isDigit : MethodName := ⟨RX7, "isDigit", "(I)Z"⟩
abbrev cX7_isSmall : ByteArray := prog_9_method_7_code
def yX7_isSmall : MethodName := ⟨RX7, "isSmall", "(I)Z"⟩
abbrev cX7_here : ByteArray := prog_9_method_8_code
def yX7_here : MethodName := ⟨RX7, "here", "()I"⟩
abbrev cX7_next : ByteArray := prog_9_method_9_code
def yX7_next : MethodName := ⟨RX7, "next", "()V"⟩
abbrev cX7_fails : ByteArray := prog_9_method_10_code
def yX7_fails : MethodName := ⟨RX7, "fails", "(I)Z"⟩
abbrev cX7_isWord : ByteArray := prog_9_method_12_code
def yX7_isWord : MethodName := ⟨RX7, "isWord", "(J)Z"⟩
abbrev cX7_isKept : ByteArray := prog_9_method_13_code
def yX7_isKept : MethodName := ⟨RX7, "isKept", "()Z"⟩
abbrev cX7_takes : ByteArray := prog_9_method_14_code
def yX7_takes : MethodName := ⟨RX7, "takes", "(I)Z"⟩
abbrev cX7_place : ByteArray := prog_9_method_15_code
def yX7_place : MethodName := ⟨RX7, "place", "(II)I"⟩
abbrev cX7_oneClass : ByteArray := prog_9_method_16_code
def yX7_oneClass : MethodName := ⟨RX7, "oneClass", "()Z"⟩
abbrev cX7_isType : ByteArray := prog_9_method_17_code
def yX7_isType : MethodName := ⟨RX7, "isType", "()Z"⟩
abbrev cX7_typeNow : ByteArray := prog_9_method_18_code
def yX7_typeNow : MethodName := ⟨RX7, "typeNow", "()I"⟩
abbrev cX7_isThere : ByteArray := prog_9_method_19_code
def yX7_isThere : MethodName := ⟨RX7, "isThere", "(II)Z"⟩
abbrev cX7_oneMember : ByteArray := prog_9_method_20_code
def yX7_oneMember : MethodName := ⟨RX7, "oneMember", "(I)Z"⟩
abbrev cX7_field : ByteArray := prog_9_method_21_code
def yX7_field : MethodName := ⟨RX7, "field", "(III)Z"⟩
abbrev cX7_method : ByteArray := prog_9_method_22_code
def yX7_method : MethodName := ⟨RX7, "method", "(II)Z"⟩
abbrev cX7_build : ByteArray := prog_9_method_23_code
def yX7_build : MethodName := ⟨RX7, "build", "()I"⟩
abbrev cX7_steps : ByteArray := prog_9_method_24_code
def yX7_steps : MethodName := ⟨RX7, "steps", "(I)I"⟩
abbrev cX7_reckon : ByteArray := prog_9_method_25_code
def yX7_reckon : MethodName := ⟨RX7, "reckon", "()V"⟩
abbrev cX7_errorNow : ByteArray := prog_9_method_26_code
def yX7_errorNow : MethodName := ⟨RX7, "errorNow", "(I)I"⟩
abbrev cX7_isBuild : ByteArray := prog_9_method_27_code
def yX7_isBuild : MethodName := ⟨RX7, "isBuild", "(I)Z"⟩
abbrev cX7_errorOf : ByteArray := prog_9_method_28_code
def yX7_errorOf : MethodName := ⟨RX7, "errorOf", "(II)I"⟩
abbrev cX7_defined : ByteArray := prog_9_method_29_code
def yX7_defined : MethodName := ⟨RX7, "defined", "(II)I"⟩
abbrev cX7_count : ByteArray := prog_9_method_30_code
def yX7_count : MethodName := ⟨RX7, "count", "(II)I"⟩
abbrev cX7_name : ByteArray := prog_9_method_31_code
def yX7_name : MethodName := ⟨RX7, "name", "(II)I"⟩
abbrev cX7_isOf : ByteArray := prog_9_method_32_code
def yX7_isOf : MethodName := ⟨RX7, "isOf", "(III)Z"⟩
abbrev cX7_is : ByteArray := prog_9_method_33_code
def yX7_is : MethodName := ⟨RX7, "is", "(III)I"⟩
abbrev cX7_use : ByteArray := prog_9_method_34_code
def yX7_use : MethodName := ⟨RX7, "use", "(IIIJIII)I"⟩
abbrev cX7_fieldIn : ByteArray := prog_9_method_35_code
def yX7_fieldIn : MethodName := ⟨RX7, "fieldIn", "(II)I"⟩
abbrev cX7_methodIn : ByteArray := prog_9_method_36_code
def yX7_methodIn : MethodName := ⟨RX7, "methodIn", "(IIZ)I"⟩
abbrev cX7_faceRow : ByteArray := prog_9_method_37_code
def yX7_faceRow : MethodName := ⟨RX7, "faceRow", "(II)V"⟩
abbrev cX7_aboveOf : ByteArray := prog_9_method_38_code
def yX7_aboveOf : MethodName := ⟨RX7, "aboveOf", "(II)I"⟩
abbrev cX7_findField : ByteArray := prog_9_method_39_code
def yX7_findField : MethodName := ⟨RX7, "findField", "(III)I"⟩
abbrev cX7_findFaces : ByteArray := prog_9_method_40_code
def yX7_findFaces : MethodName := ⟨RX7, "findFaces", "(III)V"⟩
abbrev cX7_findMethod : ByteArray := prog_9_method_41_code
def yX7_findMethod : MethodName := ⟨RX7, "findMethod", "(III)I"⟩
abbrev cX7_links : ByteArray := prog_9_method_42_code
def yX7_links : MethodName := ⟨RX7, "links", "(II)I"⟩
abbrev cX7_isUse : ByteArray := prog_9_method_43_code
def yX7_isUse : MethodName := ⟨RX7, "isUse", "(I)Z"⟩
abbrev cX7_link : ByteArray := prog_9_method_44_code
def yX7_link : MethodName := ⟨RX7, "link", "(II)I"⟩
abbrev cX7_member : ByteArray := prog_9_method_45_code
def yX7_member : MethodName := ⟨RX7, "member", "(II)I"⟩
abbrev cX7_doing : ByteArray := prog_9_method_46_code
def yX7_doing : MethodName := ⟨RX7, "doing", "(III)I"⟩
abbrev cX7_done : ByteArray := prog_9_method_47_code
def yX7_done : MethodName := ⟨RX7, "done", "(III)I"⟩
abbrev cX7_doneMember : ByteArray := prog_9_method_48_code
def yX7_doneMember : MethodName := ⟨RX7, "doneMember", "(III)I"⟩
abbrev cX7_compile : ByteArray := prog_9_method_49_code
def yX7_compile : MethodName := ⟨RX7, "compile", "(II)I"⟩
abbrev cX7_copied : ByteArray := prog_9_method_50_code
def yX7_copied : MethodName := ⟨RX7, "copied", "(I)I"⟩
abbrev cX7_stale : ByteArray := prog_9_method_51_code
def yX7_stale : MethodName := ⟨RX7, "stale", "(II)I"⟩
abbrev cX7_areApart : ByteArray := prog_9_method_52_code
def yX7_areApart : MethodName := ⟨RX7, "areApart", "(III)Z"⟩
abbrev cX7_changed : ByteArray := prog_9_method_53_code
def yX7_changed : MethodName := ⟨RX7, "changed", "(III)I"⟩
abbrev cX7_told : ByteArray := prog_9_method_54_code
def yX7_told : MethodName := ⟨RX7, "told", "(I)I"⟩
abbrev cX7_share : ByteArray := prog_9_method_55_code
def yX7_share : MethodName := ⟨RX7, "share", "(I)I"⟩
def RJ6 : String := "java/lang/Integer"
def TJ6 : u_T := fun k => match k with
  | _ => ("", "", "", false)
def tyJ6 : Nat → FieldType := fun k => match k with
  | _ => .int
abbrev wsJ60 : List Cond := u_ws RJ6 TJ6 0
theorem nmJ6 : ∀ a, a < 0 → ∀ b, b < 0 → a ≠ b → (TJ6 a).2.1 ≠ (TJ6 b).2.1 := by decide +kernel
theorem tyJ6_ok : ∀ k, k < 0 → parseFieldDescriptor (TJ6 k).2.2.1 = some (tyJ6 k) := by decide +kernel
abbrev cJ6_bitCount_0f7a4 : ByteArray := prog_13_method_49_code
def yJ6_bitCount_0f7a4 : MethodName := ⟨RJ6, "bitCount", "(I)I"⟩
def RJ9 : String := "java/lang/Math"
def TJ9 : u_T := fun k => match k with
  | _ => ("", "", "", false)
def tyJ9 : Nat → FieldType := fun k => match k with
  | _ => .int
abbrev wsJ90 : List Cond := u_ws RJ9 TJ9 0
theorem nmJ9 : ∀ a, a < 0 → ∀ b, b < 0 → a ≠ b → (TJ9 a).2.1 ≠ (TJ9 b).2.1 := by decide +kernel
theorem tyJ9_ok : ∀ k, k < 0 → parseFieldDescriptor (TJ9 k).2.2.1 = some (tyJ9 k) := by decide +kernel
abbrev cJ9_min_7cf53 : ByteArray := prog_14_method_69_code
def yJ9_min_7cf53 : MethodName := ⟨RJ9, "min", "(II)I"⟩
def RJ0 : String := "java/lang/String"
def TJ0 : u_T := fun k => match k with
  | _ => ("", "", "", false)
def tyJ0 : Nat → FieldType := fun k => match k with
  | _ => .int
abbrev wsJ00 : List Cond := u_ws RJ0 TJ0 0
theorem nmJ0 : ∀ a, a < 0 → ∀ b, b < 0 → a ≠ b → (TJ0 a).2.1 ≠ (TJ0 b).2.1 := by decide +kernel
theorem tyJ0_ok : ∀ k, k < 0 → parseFieldDescriptor (TJ0 k).2.2.1 = some (tyJ0 k) := by decide +kernel
def RL : String := "LinkModelsLaw"
abbrev cL_share : ByteArray := method_3_code
def yL_share : MethodName := ⟨RL, "share", "(LLinkModels;I[J)I"⟩
abbrev cL_law : ByteArray := code
def yL_law : MethodName := ⟨RL, "law", "([I)Z"⟩
theorem dX6_buildAt_0 : decode cX6_buildAt 0 = .ok (.iload_n 1, 1) := by decide +kernel
theorem dX6_buildAt_1 : decode cX6_buildAt 1 = .ok (.ifCond .lt 11, 3) := by decide +kernel
theorem dX6_buildAt_4 : decode cX6_buildAt 4 = .ok (.iload_n 1, 1) := by decide +kernel
theorem dX6_buildAt_5 : decode cX6_buildAt 5 = .ok (.aload_n 0, 1) := by decide +kernel
theorem dX6_buildAt_6 : decode cX6_buildAt 6 = .ok (.getfield 23, 3) := by decide +kernel
theorem dX6_buildAt_9 : decode cX6_buildAt 9 = .ok (.if_icmp .lt 7, 3) := by decide +kernel
theorem dX6_buildAt_12 : decode cX6_buildAt 12 = .ok (.aconst_null, 1) := by decide +kernel
theorem dX6_buildAt_13 : decode cX6_buildAt 13 = .ok (.goto 9, 3) := by decide +kernel
theorem dX6_buildAt_22 : decode cX6_buildAt 22 = .ok (.areturn, 1) := by decide +kernel
theorem dX6_changed_0 : decode cX6_changed 0 = .ok (.aload_n 0, 1) := by decide +kernel
theorem dX6_changed_1 : decode cX6_changed 1 = .ok (.iload_n 1, 1) := by decide +kernel
theorem dX6_changed_2 : decode cX6_changed 2 = .ok (.invokevirtual 62, 3) := by decide +kernel
theorem dX6_changed_5 : decode cX6_changed 5 = .ok (.astore 4, 2) := by decide +kernel
theorem dX6_changed_7 : decode cX6_changed 7 = .ok (.aload_n 0, 1) := by decide +kernel
theorem dX6_changed_8 : decode cX6_changed 8 = .ok (.iload_n 2, 1) := by decide +kernel
theorem dX6_changed_9 : decode cX6_changed 9 = .ok (.invokevirtual 62, 3) := by decide +kernel
theorem dX6_changed_12 : decode cX6_changed 12 = .ok (.astore 5, 2) := by decide +kernel
theorem dX6_changed_14 : decode cX6_changed 14 = .ok (.aload 4, 2) := by decide +kernel
theorem dX6_changed_16 : decode cX6_changed 16 = .ok (.ifnull 8, 3) := by decide +kernel
theorem dX6_changed_24 : decode cX6_changed 24 = .ok (.bipush (-2), 2) := by decide +kernel
theorem dX6_changed_26 : decode cX6_changed 26 = .ok (.ireturn, 1) := by decide +kernel
theorem dX6_classOf_0 : decode cX6_classOf 0 = .ok (.iload_n 0, 1) := by decide +kernel
theorem dX6_classOf_1 : decode cX6_classOf 1 = .ok (.ifCond .ge 7, 3) := by decide +kernel
theorem dX6_classOf_4 : decode cX6_classOf 4 = .ok (.iload_n 0, 1) := by decide +kernel
theorem dX6_classOf_5 : decode cX6_classOf 5 = .ok (.goto 7, 3) := by decide +kernel
theorem dX6_classOf_12 : decode cX6_classOf 12 = .ok (.ireturn, 1) := by decide +kernel
theorem dX6_compile_0 : decode cX6_compile 0 = .ok (.aload_n 0, 1) := by decide +kernel
theorem dX6_compile_1 : decode cX6_compile 1 = .ok (.iload_n 1, 1) := by decide +kernel
theorem dX6_compile_2 : decode cX6_compile 2 = .ok (.invokevirtual 62, 3) := by decide +kernel
theorem dX6_compile_5 : decode cX6_compile 5 = .ok (.astore_n 3, 1) := by decide +kernel
theorem dX6_compile_6 : decode cX6_compile 6 = .ok (.aload_n 0, 1) := by decide +kernel
theorem dX6_compile_7 : decode cX6_compile 7 = .ok (.iload_n 2, 1) := by decide +kernel
theorem dX6_compile_8 : decode cX6_compile 8 = .ok (.invokevirtual 123, 3) := by decide +kernel
theorem dX6_compile_11 : decode cX6_compile 11 = .ok (.astore 4, 2) := by decide +kernel
theorem dX6_compile_13 : decode cX6_compile 13 = .ok (.aload_n 3, 1) := by decide +kernel
theorem dX6_compile_14 : decode cX6_compile 14 = .ok (.ifnull 8, 3) := by decide +kernel
theorem dX6_compile_22 : decode cX6_compile 22 = .ok (.bipush (-2), 2) := by decide +kernel
theorem dX6_compile_24 : decode cX6_compile 24 = .ok (.ireturn, 1) := by decide +kernel
theorem dX6_copied_0 : decode cX6_copied 0 = .ok (.aload_n 0, 1) := by decide +kernel
theorem dX6_copied_1 : decode cX6_copied 1 = .ok (.iload_n 1, 1) := by decide +kernel
theorem dX6_copied_2 : decode cX6_copied 2 = .ok (.invokevirtual 123, 3) := by decide +kernel
theorem dX6_copied_5 : decode cX6_copied 5 = .ok (.astore_n 2, 1) := by decide +kernel
theorem dX6_copied_6 : decode cX6_copied 6 = .ok (.aload_n 2, 1) := by decide +kernel
theorem dX6_copied_7 : decode cX6_copied 7 = .ok (.ifnonnull 8, 3) := by decide +kernel
theorem dX6_copied_10 : decode cX6_copied 10 = .ok (.bipush (-2), 2) := by decide +kernel
theorem dX6_copied_12 : decode cX6_copied 12 = .ok (.goto 7, 3) := by decide +kernel
theorem dX6_copied_19 : decode cX6_copied 19 = .ok (.ireturn, 1) := by decide +kernel
theorem dX6_count_0 : decode cX6_count 0 = .ok (.aload_n 0, 1) := by decide +kernel
theorem dX6_count_1 : decode cX6_count 1 = .ok (.iload_n 1, 1) := by decide +kernel
theorem dX6_count_2 : decode cX6_count 2 = .ok (.invokevirtual 62, 3) := by decide +kernel
theorem dX6_count_5 : decode cX6_count 5 = .ok (.astore_n 3, 1) := by decide +kernel
theorem dX6_count_6 : decode cX6_count 6 = .ok (.aload_n 3, 1) := by decide +kernel
theorem dX6_count_7 : decode cX6_count 7 = .ok (.ifnonnull 6, 3) := by decide +kernel
theorem dX6_count_10 : decode cX6_count 10 = .ok (.bipush (-2), 2) := by decide +kernel
theorem dX6_count_12 : decode cX6_count 12 = .ok (.ireturn, 1) := by decide +kernel
theorem dX6_defined_0 : decode cX6_defined 0 = .ok (.aload_n 0, 1) := by decide +kernel
theorem dX6_defined_1 : decode cX6_defined 1 = .ok (.iload_n 1, 1) := by decide +kernel
theorem dX6_defined_2 : decode cX6_defined 2 = .ok (.invokevirtual 62, 3) := by decide +kernel
theorem dX6_defined_5 : decode cX6_defined 5 = .ok (.astore_n 3, 1) := by decide +kernel
theorem dX6_defined_6 : decode cX6_defined 6 = .ok (.aload_n 3, 1) := by decide +kernel
theorem dX6_defined_7 : decode cX6_defined 7 = .ok (.ifnonnull 6, 3) := by decide +kernel
theorem dX6_defined_10 : decode cX6_defined 10 = .ok (.bipush (-2), 2) := by decide +kernel
theorem dX6_defined_12 : decode cX6_defined 12 = .ok (.ireturn, 1) := by decide +kernel
theorem dX6_done_0 : decode cX6_done 0 = .ok (.aload_n 0, 1) := by decide +kernel
theorem dX6_done_1 : decode cX6_done 1 = .ok (.iload_n 1, 1) := by decide +kernel
theorem dX6_done_2 : decode cX6_done 2 = .ok (.iload_n 2, 1) := by decide +kernel
theorem dX6_done_3 : decode cX6_done 3 = .ok (.iload_n 3, 1) := by decide +kernel
theorem dX6_done_4 : decode cX6_done 4 = .ok (.invokevirtual 119, 3) := by decide +kernel
theorem dX6_done_7 : decode cX6_done 7 = .ok (.invokestatic 113, 3) := by decide +kernel
theorem dX6_done_10 : decode cX6_done 10 = .ok (.ireturn, 1) := by decide +kernel
theorem dX6_doneMember_0 : decode cX6_doneMember 0 = .ok (.aload_n 0, 1) := by decide +kernel
theorem dX6_doneMember_1 : decode cX6_doneMember 1 = .ok (.iload_n 1, 1) := by decide +kernel
theorem dX6_doneMember_2 : decode cX6_doneMember 2 = .ok (.iload_n 2, 1) := by decide +kernel
theorem dX6_doneMember_3 : decode cX6_doneMember 3 = .ok (.iload_n 3, 1) := by decide +kernel
theorem dX6_doneMember_4 : decode cX6_doneMember 4 = .ok (.invokevirtual 119, 3) := by decide +kernel
theorem dX6_doneMember_7 : decode cX6_doneMember 7 = .ok (.invokestatic 116, 3) := by decide +kernel
theorem dX6_doneMember_10 : decode cX6_doneMember 10 = .ok (.ireturn, 1) := by decide +kernel
theorem dX6_doneSpot_0 : decode cX6_doneSpot 0 = .ok (.aload_n 0, 1) := by decide +kernel
theorem dX6_doneSpot_1 : decode cX6_doneSpot 1 = .ok (.iload_n 1, 1) := by decide +kernel
theorem dX6_doneSpot_2 : decode cX6_doneSpot 2 = .ok (.invokevirtual 62, 3) := by decide +kernel
theorem dX6_doneSpot_5 : decode cX6_doneSpot 5 = .ok (.astore 4, 2) := by decide +kernel
theorem dX6_doneSpot_7 : decode cX6_doneSpot 7 = .ok (.aload_n 0, 1) := by decide +kernel
theorem dX6_doneSpot_8 : decode cX6_doneSpot 8 = .ok (.iload_n 2, 1) := by decide +kernel
theorem dX6_doneSpot_9 : decode cX6_doneSpot 9 = .ok (.invokevirtual 123, 3) := by decide +kernel
theorem dX6_doneSpot_12 : decode cX6_doneSpot 12 = .ok (.astore 5, 2) := by decide +kernel
theorem dX6_doneSpot_14 : decode cX6_doneSpot 14 = .ok (.aload 4, 2) := by decide +kernel
theorem dX6_doneSpot_16 : decode cX6_doneSpot 16 = .ok (.ifnull 8, 3) := by decide +kernel
theorem dX6_doneSpot_24 : decode cX6_doneSpot 24 = .ok (.bipush (-2), 2) := by decide +kernel
theorem dX6_doneSpot_26 : decode cX6_doneSpot 26 = .ok (.ireturn, 1) := by decide +kernel
theorem dX6_is_0 : decode cX6_is 0 = .ok (.aload_n 0, 1) := by decide +kernel
theorem dX6_is_1 : decode cX6_is 1 = .ok (.iload_n 1, 1) := by decide +kernel
theorem dX6_is_2 : decode cX6_is 2 = .ok (.invokevirtual 62, 3) := by decide +kernel
theorem dX6_is_5 : decode cX6_is 5 = .ok (.astore 4, 2) := by decide +kernel
theorem dX6_is_7 : decode cX6_is 7 = .ok (.aload 4, 2) := by decide +kernel
theorem dX6_is_9 : decode cX6_is 9 = .ok (.ifnonnull 6, 3) := by decide +kernel
theorem dX6_is_12 : decode cX6_is 12 = .ok (.bipush (-2), 2) := by decide +kernel
theorem dX6_is_14 : decode cX6_is 14 = .ok (.ireturn, 1) := by decide +kernel
theorem dX6_link_0 : decode cX6_link 0 = .ok (.aload_n 0, 1) := by decide +kernel
theorem dX6_link_1 : decode cX6_link 1 = .ok (.iload_n 1, 1) := by decide +kernel
theorem dX6_link_2 : decode cX6_link 2 = .ok (.iload_n 2, 1) := by decide +kernel
theorem dX6_link_3 : decode cX6_link 3 = .ok (.invokevirtual 110, 3) := by decide +kernel
theorem dX6_link_6 : decode cX6_link 6 = .ok (.invokestatic 113, 3) := by decide +kernel
theorem dX6_link_9 : decode cX6_link 9 = .ok (.ireturn, 1) := by decide +kernel
theorem dX6_linkedSpot_0 : decode cX6_linkedSpot 0 = .ok (.aload_n 0, 1) := by decide +kernel
theorem dX6_linkedSpot_1 : decode cX6_linkedSpot 1 = .ok (.iload_n 1, 1) := by decide +kernel
theorem dX6_linkedSpot_2 : decode cX6_linkedSpot 2 = .ok (.invokevirtual 62, 3) := by decide +kernel
theorem dX6_linkedSpot_5 : decode cX6_linkedSpot 5 = .ok (.astore_n 3, 1) := by decide +kernel
theorem dX6_linkedSpot_6 : decode cX6_linkedSpot 6 = .ok (.aload_n 0, 1) := by decide +kernel
theorem dX6_linkedSpot_7 : decode cX6_linkedSpot 7 = .ok (.iload_n 2, 1) := by decide +kernel
theorem dX6_linkedSpot_8 : decode cX6_linkedSpot 8 = .ok (.invokevirtual 123, 3) := by decide +kernel
theorem dX6_linkedSpot_11 : decode cX6_linkedSpot 11 = .ok (.astore 4, 2) := by decide +kernel
theorem dX6_linkedSpot_13 : decode cX6_linkedSpot 13 = .ok (.aload_n 3, 1) := by decide +kernel
theorem dX6_linkedSpot_14 : decode cX6_linkedSpot 14 = .ok (.ifnull 8, 3) := by decide +kernel
theorem dX6_linkedSpot_22 : decode cX6_linkedSpot 22 = .ok (.bipush (-2), 2) := by decide +kernel
theorem dX6_linkedSpot_24 : decode cX6_linkedSpot 24 = .ok (.ireturn, 1) := by decide +kernel
theorem dX6_member_0 : decode cX6_member 0 = .ok (.aload_n 0, 1) := by decide +kernel
theorem dX6_member_1 : decode cX6_member 1 = .ok (.iload_n 1, 1) := by decide +kernel
theorem dX6_member_2 : decode cX6_member 2 = .ok (.iload_n 2, 1) := by decide +kernel
theorem dX6_member_3 : decode cX6_member 3 = .ok (.invokevirtual 110, 3) := by decide +kernel
theorem dX6_member_6 : decode cX6_member 6 = .ok (.invokestatic 116, 3) := by decide +kernel
theorem dX6_member_9 : decode cX6_member 9 = .ok (.ireturn, 1) := by decide +kernel
theorem dX6_name_0 : decode cX6_name 0 = .ok (.aload_n 0, 1) := by decide +kernel
theorem dX6_name_1 : decode cX6_name 1 = .ok (.iload_n 1, 1) := by decide +kernel
theorem dX6_name_2 : decode cX6_name 2 = .ok (.invokevirtual 62, 3) := by decide +kernel
theorem dX6_name_5 : decode cX6_name 5 = .ok (.astore_n 3, 1) := by decide +kernel
theorem dX6_name_6 : decode cX6_name 6 = .ok (.aload_n 3, 1) := by decide +kernel
theorem dX6_name_7 : decode cX6_name 7 = .ok (.ifnonnull 6, 3) := by decide +kernel
theorem dX6_name_10 : decode cX6_name 10 = .ok (.bipush (-2), 2) := by decide +kernel
theorem dX6_name_12 : decode cX6_name 12 = .ok (.ireturn, 1) := by decide +kernel
theorem dX6_placeIn_0 : decode cX6_placeIn 0 = .ok (.iload_n 0, 1) := by decide +kernel
theorem dX6_placeIn_1 : decode cX6_placeIn 1 = .ok (.ifCond .ge 7, 3) := by decide +kernel
theorem dX6_placeIn_4 : decode cX6_placeIn 4 = .ok (.iload_n 0, 1) := by decide +kernel
theorem dX6_placeIn_5 : decode cX6_placeIn 5 = .ok (.goto 9, 3) := by decide +kernel
theorem dX6_placeIn_14 : decode cX6_placeIn 14 = .ok (.ireturn, 1) := by decide +kernel
theorem dX6_stale_0 : decode cX6_stale 0 = .ok (.aload_n 0, 1) := by decide +kernel
theorem dX6_stale_1 : decode cX6_stale 1 = .ok (.iload_n 1, 1) := by decide +kernel
theorem dX6_stale_2 : decode cX6_stale 2 = .ok (.invokevirtual 62, 3) := by decide +kernel
theorem dX6_stale_5 : decode cX6_stale 5 = .ok (.astore_n 3, 1) := by decide +kernel
theorem dX6_stale_6 : decode cX6_stale 6 = .ok (.aload_n 0, 1) := by decide +kernel
theorem dX6_stale_7 : decode cX6_stale 7 = .ok (.iload_n 2, 1) := by decide +kernel
theorem dX6_stale_8 : decode cX6_stale 8 = .ok (.invokevirtual 123, 3) := by decide +kernel
theorem dX6_stale_11 : decode cX6_stale 11 = .ok (.astore 4, 2) := by decide +kernel
theorem dX6_stale_13 : decode cX6_stale 13 = .ok (.aload_n 3, 1) := by decide +kernel
theorem dX6_stale_14 : decode cX6_stale 14 = .ok (.ifnull 8, 3) := by decide +kernel
theorem dX6_stale_22 : decode cX6_stale 22 = .ok (.bipush (-2), 2) := by decide +kernel
theorem dX6_stale_24 : decode cX6_stale 24 = .ok (.ireturn, 1) := by decide +kernel
theorem dX6_told_0 : decode cX6_told 0 = .ok (.iload_n 1, 1) := by decide +kernel
theorem dX6_told_1 : decode cX6_told 1 = .ok (.tableswitch 42 0 2 #[27, 32, 37], 27) := by decide +kernel
theorem dX6_told_28 : decode cX6_told 28 = .ok (.aload_n 0, 1) := by decide +kernel
theorem dX6_told_29 : decode cX6_told 29 = .ok (.getfield 13, 3) := by decide +kernel
theorem dX6_told_32 : decode cX6_told 32 = .ok (.ireturn, 1) := by decide +kernel
theorem dX6_told_33 : decode cX6_told 33 = .ok (.aload_n 0, 1) := by decide +kernel
theorem dX6_told_34 : decode cX6_told 34 = .ok (.getfield 23, 3) := by decide +kernel
theorem dX6_told_37 : decode cX6_told 37 = .ok (.ireturn, 1) := by decide +kernel
theorem dX6_told_38 : decode cX6_told 38 = .ok (.aload_n 0, 1) := by decide +kernel
theorem dX6_told_39 : decode cX6_told 39 = .ok (.getfield 32, 3) := by decide +kernel
theorem dX6_told_42 : decode cX6_told 42 = .ok (.ireturn, 1) := by decide +kernel
theorem dX6_told_43 : decode cX6_told 43 = .ok (.bipush (-3), 2) := by decide +kernel
theorem dX6_told_45 : decode cX6_told 45 = .ok (.ireturn, 1) := by decide +kernel
theorem dX6_useAt_0 : decode cX6_useAt 0 = .ok (.iload_n 1, 1) := by decide +kernel
theorem dX6_useAt_1 : decode cX6_useAt 1 = .ok (.ifCond .lt 11, 3) := by decide +kernel
theorem dX6_useAt_4 : decode cX6_useAt 4 = .ok (.iload_n 1, 1) := by decide +kernel
theorem dX6_useAt_5 : decode cX6_useAt 5 = .ok (.aload_n 0, 1) := by decide +kernel
theorem dX6_useAt_6 : decode cX6_useAt 6 = .ok (.getfield 32, 3) := by decide +kernel
theorem dX6_useAt_9 : decode cX6_useAt 9 = .ok (.if_icmp .lt 7, 3) := by decide +kernel
theorem dX6_useAt_12 : decode cX6_useAt 12 = .ok (.aconst_null, 1) := by decide +kernel
theorem dX6_useAt_13 : decode cX6_useAt 13 = .ok (.goto 9, 3) := by decide +kernel
theorem dX6_useAt_22 : decode cX6_useAt 22 = .ok (.areturn, 1) := by decide +kernel
theorem dX7_changed_0 : decode cX7_changed 0 = .ok (.aload_n 0, 1) := by decide +kernel
theorem dX7_changed_1 : decode cX7_changed 1 = .ok (.iconst 0, 1) := by decide +kernel
theorem dX7_changed_2 : decode cX7_changed 2 = .ok (.putfield 1, 3) := by decide +kernel
theorem dX7_changed_5 : decode cX7_changed 5 = .ok (.aload_n 0, 1) := by decide +kernel
theorem dX7_changed_6 : decode cX7_changed 6 = .ok (.iload_n 1, 1) := by decide +kernel
theorem dX7_changed_7 : decode cX7_changed 7 = .ok (.invokevirtual 248, 3) := by decide +kernel
theorem dX7_changed_10 : decode cX7_changed 10 = .ok (.ifCond .eq 11, 3) := by decide +kernel
theorem dX7_changed_21 : decode cX7_changed 21 = .ok (.bipush (-2), 2) := by decide +kernel
theorem dX7_changed_23 : decode cX7_changed 23 = .ok (.ireturn, 1) := by decide +kernel
theorem dX7_compile_0 : decode cX7_compile 0 = .ok (.aload_n 0, 1) := by decide +kernel
theorem dX7_compile_1 : decode cX7_compile 1 = .ok (.iconst 0, 1) := by decide +kernel
theorem dX7_compile_2 : decode cX7_compile 2 = .ok (.putfield 1, 3) := by decide +kernel
theorem dX7_compile_5 : decode cX7_compile 5 = .ok (.aload_n 0, 1) := by decide +kernel
theorem dX7_compile_6 : decode cX7_compile 6 = .ok (.iload_n 1, 1) := by decide +kernel
theorem dX7_compile_7 : decode cX7_compile 7 = .ok (.invokevirtual 248, 3) := by decide +kernel
theorem dX7_compile_10 : decode cX7_compile 10 = .ok (.ifCond .eq 11, 3) := by decide +kernel
theorem dX7_compile_21 : decode cX7_compile 21 = .ok (.bipush (-2), 2) := by decide +kernel
theorem dX7_compile_23 : decode cX7_compile 23 = .ok (.ireturn, 1) := by decide +kernel
theorem dX7_copied_0 : decode cX7_copied 0 = .ok (.aload_n 0, 1) := by decide +kernel
theorem dX7_copied_1 : decode cX7_copied 1 = .ok (.iconst 0, 1) := by decide +kernel
theorem dX7_copied_2 : decode cX7_copied 2 = .ok (.putfield 1, 3) := by decide +kernel
theorem dX7_copied_5 : decode cX7_copied 5 = .ok (.aload_n 0, 1) := by decide +kernel
theorem dX7_copied_6 : decode cX7_copied 6 = .ok (.iload_n 1, 1) := by decide +kernel
theorem dX7_copied_7 : decode cX7_copied 7 = .ok (.invokevirtual 306, 3) := by decide +kernel
theorem dX7_copied_10 : decode cX7_copied 10 = .ok (.ifCond .eq 12, 3) := by decide +kernel
theorem dX7_copied_22 : decode cX7_copied 22 = .ok (.bipush (-2), 2) := by decide +kernel
theorem dX7_copied_24 : decode cX7_copied 24 = .ok (.ireturn, 1) := by decide +kernel
theorem dX7_count_0 : decode cX7_count 0 = .ok (.aload_n 0, 1) := by decide +kernel
theorem dX7_count_1 : decode cX7_count 1 = .ok (.iconst 0, 1) := by decide +kernel
theorem dX7_count_2 : decode cX7_count 2 = .ok (.putfield 1, 3) := by decide +kernel
theorem dX7_count_5 : decode cX7_count 5 = .ok (.aload_n 0, 1) := by decide +kernel
theorem dX7_count_6 : decode cX7_count 6 = .ok (.iload_n 1, 1) := by decide +kernel
theorem dX7_count_7 : decode cX7_count 7 = .ok (.invokevirtual 248, 3) := by decide +kernel
theorem dX7_count_10 : decode cX7_count 10 = .ok (.ifCond .ne 6, 3) := by decide +kernel
theorem dX7_count_13 : decode cX7_count 13 = .ok (.bipush (-2), 2) := by decide +kernel
theorem dX7_count_15 : decode cX7_count 15 = .ok (.ireturn, 1) := by decide +kernel
theorem dX7_defined_0 : decode cX7_defined 0 = .ok (.aload_n 0, 1) := by decide +kernel
theorem dX7_defined_1 : decode cX7_defined 1 = .ok (.iconst 0, 1) := by decide +kernel
theorem dX7_defined_2 : decode cX7_defined 2 = .ok (.putfield 1, 3) := by decide +kernel
theorem dX7_defined_5 : decode cX7_defined 5 = .ok (.aload_n 0, 1) := by decide +kernel
theorem dX7_defined_6 : decode cX7_defined 6 = .ok (.iload_n 1, 1) := by decide +kernel
theorem dX7_defined_7 : decode cX7_defined 7 = .ok (.invokevirtual 248, 3) := by decide +kernel
theorem dX7_defined_10 : decode cX7_defined 10 = .ok (.ifCond .ne 6, 3) := by decide +kernel
theorem dX7_defined_13 : decode cX7_defined 13 = .ok (.bipush (-2), 2) := by decide +kernel
theorem dX7_defined_15 : decode cX7_defined 15 = .ok (.ireturn, 1) := by decide +kernel
theorem dX7_doing_0 : decode cX7_doing 0 = .ok (.aload_n 0, 1) := by decide +kernel
theorem dX7_doing_1 : decode cX7_doing 1 = .ok (.iload_n 1, 1) := by decide +kernel
theorem dX7_doing_2 : decode cX7_doing 2 = .ok (.invokevirtual 248, 3) := by decide +kernel
theorem dX7_doing_5 : decode cX7_doing 5 = .ok (.ifCond .eq 11, 3) := by decide +kernel
theorem dX7_doing_16 : decode cX7_doing 16 = .ok (.bipush (-2), 2) := by decide +kernel
theorem dX7_doing_18 : decode cX7_doing 18 = .ok (.ireturn, 1) := by decide +kernel
theorem dX7_done_0 : decode cX7_done 0 = .ok (.aload_n 0, 1) := by decide +kernel
theorem dX7_done_1 : decode cX7_done 1 = .ok (.iconst 0, 1) := by decide +kernel
theorem dX7_done_2 : decode cX7_done 2 = .ok (.putfield 1, 3) := by decide +kernel
theorem dX7_done_5 : decode cX7_done 5 = .ok (.aload_n 0, 1) := by decide +kernel
theorem dX7_done_6 : decode cX7_done 6 = .ok (.iload_n 1, 1) := by decide +kernel
theorem dX7_done_7 : decode cX7_done 7 = .ok (.iload_n 2, 1) := by decide +kernel
theorem dX7_done_8 : decode cX7_done 8 = .ok (.iload_n 3, 1) := by decide +kernel
theorem dX7_done_9 : decode cX7_done 9 = .ok (.invokevirtual 312, 3) := by decide +kernel
theorem dX7_done_12 : decode cX7_done 12 = .ok (.istore 4, 2) := by decide +kernel
theorem dX7_done_14 : decode cX7_done 14 = .ok (.iload 4, 2) := by decide +kernel
theorem dX7_done_16 : decode cX7_done 16 = .ok (.ifCond .ge 8, 3) := by decide +kernel
theorem dX7_done_19 : decode cX7_done 19 = .ok (.iload 4, 2) := by decide +kernel
theorem dX7_done_21 : decode cX7_done 21 = .ok (.goto 11, 3) := by decide +kernel
theorem dX7_done_32 : decode cX7_done 32 = .ok (.ireturn, 1) := by decide +kernel
theorem dX7_doneMember_0 : decode cX7_doneMember 0 = .ok (.aload_n 0, 1) := by decide +kernel
theorem dX7_doneMember_1 : decode cX7_doneMember 1 = .ok (.iconst 0, 1) := by decide +kernel
theorem dX7_doneMember_2 : decode cX7_doneMember 2 = .ok (.putfield 1, 3) := by decide +kernel
theorem dX7_doneMember_5 : decode cX7_doneMember 5 = .ok (.aload_n 0, 1) := by decide +kernel
theorem dX7_doneMember_6 : decode cX7_doneMember 6 = .ok (.iload_n 1, 1) := by decide +kernel
theorem dX7_doneMember_7 : decode cX7_doneMember 7 = .ok (.iload_n 2, 1) := by decide +kernel
theorem dX7_doneMember_8 : decode cX7_doneMember 8 = .ok (.iload_n 3, 1) := by decide +kernel
theorem dX7_doneMember_9 : decode cX7_doneMember 9 = .ok (.invokevirtual 312, 3) := by decide +kernel
theorem dX7_doneMember_12 : decode cX7_doneMember 12 = .ok (.istore 4, 2) := by decide +kernel
theorem dX7_doneMember_14 : decode cX7_doneMember 14 = .ok (.iload 4, 2) := by decide +kernel
theorem dX7_doneMember_16 : decode cX7_doneMember 16 = .ok (.ifCond .ge 8, 3) := by decide +kernel
theorem dX7_doneMember_19 : decode cX7_doneMember 19 = .ok (.iload 4, 2) := by decide +kernel
theorem dX7_doneMember_21 : decode cX7_doneMember 21 = .ok (.goto 8, 3) := by decide +kernel
theorem dX7_doneMember_29 : decode cX7_doneMember 29 = .ok (.ireturn, 1) := by decide +kernel
theorem dX7_in_0 : decode cX7_in 0 = .ok (.lload_n 0, 1) := by decide +kernel
theorem dX7_in_1 : decode cX7_in 1 = .ok (.lload_n 2, 1) := by decide +kernel
theorem dX7_in_2 : decode cX7_in 2 = .ok (.lcmp, 1) := by decide +kernel
theorem dX7_in_3 : decode cX7_in 3 = .ok (.ifCond .lt 14, 3) := by decide +kernel
theorem dX7_in_6 : decode cX7_in 6 = .ok (.lload_n 0, 1) := by decide +kernel
theorem dX7_in_7 : decode cX7_in 7 = .ok (.lload 4, 2) := by decide +kernel
theorem dX7_in_9 : decode cX7_in 9 = .ok (.lcmp, 1) := by decide +kernel
theorem dX7_in_10 : decode cX7_in 10 = .ok (.ifCond .gt 7, 3) := by decide +kernel
theorem dX7_in_13 : decode cX7_in 13 = .ok (.iconst 1, 1) := by decide +kernel
theorem dX7_in_14 : decode cX7_in 14 = .ok (.goto 4, 3) := by decide +kernel
theorem dX7_in_17 : decode cX7_in 17 = .ok (.iconst 0, 1) := by decide +kernel
theorem dX7_in_18 : decode cX7_in 18 = .ok (.ireturn, 1) := by decide +kernel
theorem dX7_is_0 : decode cX7_is 0 = .ok (.aload_n 0, 1) := by decide +kernel
theorem dX7_is_1 : decode cX7_is 1 = .ok (.iconst 0, 1) := by decide +kernel
theorem dX7_is_2 : decode cX7_is 2 = .ok (.putfield 1, 3) := by decide +kernel
theorem dX7_is_5 : decode cX7_is 5 = .ok (.aload_n 0, 1) := by decide +kernel
theorem dX7_is_6 : decode cX7_is 6 = .ok (.iload_n 1, 1) := by decide +kernel
theorem dX7_is_7 : decode cX7_is 7 = .ok (.invokevirtual 248, 3) := by decide +kernel
theorem dX7_is_10 : decode cX7_is 10 = .ok (.ifCond .ne 6, 3) := by decide +kernel
theorem dX7_is_13 : decode cX7_is 13 = .ok (.bipush (-2), 2) := by decide +kernel
theorem dX7_is_15 : decode cX7_is 15 = .ok (.ireturn, 1) := by decide +kernel
theorem dX7_isBuild_0 : decode cX7_isBuild 0 = .ok (.iload_n 1, 1) := by decide +kernel
theorem dX7_isBuild_1 : decode cX7_isBuild 1 = .ok (.i2l, 1) := by decide +kernel
theorem dX7_isBuild_2 : decode cX7_isBuild 2 = .ok (.lconst 0, 1) := by decide +kernel
theorem dX7_isBuild_3 : decode cX7_isBuild 3 = .ok (.aload_n 0, 1) := by decide +kernel
theorem dX7_isBuild_4 : decode cX7_isBuild 4 = .ok (.getfield 232, 3) := by decide +kernel
theorem dX7_isBuild_7 : decode cX7_isBuild 7 = .ok (.iconst 1, 1) := by decide +kernel
theorem dX7_isBuild_8 : decode cX7_isBuild 8 = .ok (.isub, 1) := by decide +kernel
theorem dX7_isBuild_9 : decode cX7_isBuild 9 = .ok (.i2l, 1) := by decide +kernel
theorem dX7_isBuild_10 : decode cX7_isBuild 10 = .ok (.invokestatic 105, 3) := by decide +kernel
theorem dX7_isBuild_13 : decode cX7_isBuild 13 = .ok (.ireturn, 1) := by decide +kernel
theorem dX7_isUse_0 : decode cX7_isUse 0 = .ok (.iload_n 1, 1) := by decide +kernel
theorem dX7_isUse_1 : decode cX7_isUse 1 = .ok (.i2l, 1) := by decide +kernel
theorem dX7_isUse_2 : decode cX7_isUse 2 = .ok (.lconst 0, 1) := by decide +kernel
theorem dX7_isUse_3 : decode cX7_isUse 3 = .ok (.aload_n 0, 1) := by decide +kernel
theorem dX7_isUse_4 : decode cX7_isUse 4 = .ok (.getfield 263, 3) := by decide +kernel
theorem dX7_isUse_7 : decode cX7_isUse 7 = .ok (.iconst 1, 1) := by decide +kernel
theorem dX7_isUse_8 : decode cX7_isUse 8 = .ok (.isub, 1) := by decide +kernel
theorem dX7_isUse_9 : decode cX7_isUse 9 = .ok (.i2l, 1) := by decide +kernel
theorem dX7_isUse_10 : decode cX7_isUse 10 = .ok (.invokestatic 105, 3) := by decide +kernel
theorem dX7_isUse_13 : decode cX7_isUse 13 = .ok (.ireturn, 1) := by decide +kernel
theorem dX7_link_0 : decode cX7_link 0 = .ok (.aload_n 0, 1) := by decide +kernel
theorem dX7_link_1 : decode cX7_link 1 = .ok (.iconst 0, 1) := by decide +kernel
theorem dX7_link_2 : decode cX7_link 2 = .ok (.putfield 1, 3) := by decide +kernel
theorem dX7_link_5 : decode cX7_link 5 = .ok (.aload_n 0, 1) := by decide +kernel
theorem dX7_link_6 : decode cX7_link 6 = .ok (.iload_n 1, 1) := by decide +kernel
theorem dX7_link_7 : decode cX7_link 7 = .ok (.invokevirtual 248, 3) := by decide +kernel
theorem dX7_link_10 : decode cX7_link 10 = .ok (.ifCond .eq 11, 3) := by decide +kernel
theorem dX7_link_21 : decode cX7_link 21 = .ok (.bipush (-2), 2) := by decide +kernel
theorem dX7_link_23 : decode cX7_link 23 = .ok (.ireturn, 1) := by decide +kernel
theorem dX7_member_0 : decode cX7_member 0 = .ok (.aload_n 0, 1) := by decide +kernel
theorem dX7_member_1 : decode cX7_member 1 = .ok (.iconst 0, 1) := by decide +kernel
theorem dX7_member_2 : decode cX7_member 2 = .ok (.putfield 1, 3) := by decide +kernel
theorem dX7_member_5 : decode cX7_member 5 = .ok (.aload_n 0, 1) := by decide +kernel
theorem dX7_member_6 : decode cX7_member 6 = .ok (.iload_n 1, 1) := by decide +kernel
theorem dX7_member_7 : decode cX7_member 7 = .ok (.invokevirtual 248, 3) := by decide +kernel
theorem dX7_member_10 : decode cX7_member 10 = .ok (.ifCond .eq 11, 3) := by decide +kernel
theorem dX7_member_21 : decode cX7_member 21 = .ok (.bipush (-2), 2) := by decide +kernel
theorem dX7_member_23 : decode cX7_member 23 = .ok (.ireturn, 1) := by decide +kernel
theorem dX7_name_0 : decode cX7_name 0 = .ok (.aload_n 0, 1) := by decide +kernel
theorem dX7_name_1 : decode cX7_name 1 = .ok (.iconst 0, 1) := by decide +kernel
theorem dX7_name_2 : decode cX7_name 2 = .ok (.putfield 1, 3) := by decide +kernel
theorem dX7_name_5 : decode cX7_name 5 = .ok (.aload_n 0, 1) := by decide +kernel
theorem dX7_name_6 : decode cX7_name 6 = .ok (.iload_n 1, 1) := by decide +kernel
theorem dX7_name_7 : decode cX7_name 7 = .ok (.invokevirtual 248, 3) := by decide +kernel
theorem dX7_name_10 : decode cX7_name 10 = .ok (.ifCond .ne 6, 3) := by decide +kernel
theorem dX7_name_13 : decode cX7_name 13 = .ok (.bipush (-2), 2) := by decide +kernel
theorem dX7_name_15 : decode cX7_name 15 = .ok (.ireturn, 1) := by decide +kernel
theorem dX7_share_0 : decode cX7_share 0 = .ok (.aload_n 0, 1) := by decide +kernel
theorem dX7_share_1 : decode cX7_share 1 = .ok (.iconst 0, 1) := by decide +kernel
theorem dX7_share_2 : decode cX7_share 2 = .ok (.putfield 1, 3) := by decide +kernel
theorem dX7_share_5 : decode cX7_share 5 = .ok (.aload_n 0, 1) := by decide +kernel
theorem dX7_share_6 : decode cX7_share 6 = .ok (.iload_n 1, 1) := by decide +kernel
theorem dX7_share_7 : decode cX7_share 7 = .ok (.invokevirtual 248, 3) := by decide +kernel
theorem dX7_share_10 : decode cX7_share 10 = .ok (.ifCond .ne 10, 3) := by decide +kernel
theorem dX7_share_13 : decode cX7_share 13 = .ok (.aload_n 0, 1) := by decide +kernel
theorem dX7_share_14 : decode cX7_share 14 = .ok (.iconst 1, 1) := by decide +kernel
theorem dX7_share_15 : decode cX7_share 15 = .ok (.putfield 1, 3) := by decide +kernel
theorem dX7_share_18 : decode cX7_share 18 = .ok (.iconst 0, 1) := by decide +kernel
theorem dX7_share_19 : decode cX7_share 19 = .ok (.ireturn, 1) := by decide +kernel
theorem dX7_stale_0 : decode cX7_stale 0 = .ok (.aload_n 0, 1) := by decide +kernel
theorem dX7_stale_1 : decode cX7_stale 1 = .ok (.iconst 0, 1) := by decide +kernel
theorem dX7_stale_2 : decode cX7_stale 2 = .ok (.putfield 1, 3) := by decide +kernel
theorem dX7_stale_5 : decode cX7_stale 5 = .ok (.aload_n 0, 1) := by decide +kernel
theorem dX7_stale_6 : decode cX7_stale 6 = .ok (.iload_n 1, 1) := by decide +kernel
theorem dX7_stale_7 : decode cX7_stale 7 = .ok (.invokevirtual 248, 3) := by decide +kernel
theorem dX7_stale_10 : decode cX7_stale 10 = .ok (.ifCond .eq 11, 3) := by decide +kernel
theorem dX7_stale_21 : decode cX7_stale 21 = .ok (.bipush (-2), 2) := by decide +kernel
theorem dX7_stale_23 : decode cX7_stale 23 = .ok (.ireturn, 1) := by decide +kernel
theorem dX7_thrown_0 : decode cX7_thrown 0 = .ok (.aload_n 0, 1) := by decide +kernel
theorem dX7_thrown_1 : decode cX7_thrown 1 = .ok (.getfield 1, 3) := by decide +kernel
theorem dX7_thrown_4 : decode cX7_thrown 4 = .ok (.ireturn, 1) := by decide +kernel
theorem dX7_told_0 : decode cX7_told 0 = .ok (.aload_n 0, 1) := by decide +kernel
theorem dX7_told_1 : decode cX7_told 1 = .ok (.iconst 0, 1) := by decide +kernel
theorem dX7_told_2 : decode cX7_told 2 = .ok (.putfield 1, 3) := by decide +kernel
theorem dX7_told_5 : decode cX7_told 5 = .ok (.iload_n 1, 1) := by decide +kernel
theorem dX7_told_6 : decode cX7_told 6 = .ok (.ifCond .ne 10, 3) := by decide +kernel
theorem dX7_told_9 : decode cX7_told 9 = .ok (.aload_n 0, 1) := by decide +kernel
theorem dX7_told_10 : decode cX7_told 10 = .ok (.getfield 109, 3) := by decide +kernel
theorem dX7_told_13 : decode cX7_told 13 = .ok (.goto 29, 3) := by decide +kernel
theorem dX7_told_16 : decode cX7_told 16 = .ok (.iload_n 1, 1) := by decide +kernel
theorem dX7_told_17 : decode cX7_told 17 = .ok (.iconst 1, 1) := by decide +kernel
theorem dX7_told_18 : decode cX7_told 18 = .ok (.if_icmp .ne 10, 3) := by decide +kernel
theorem dX7_told_21 : decode cX7_told 21 = .ok (.aload_n 0, 1) := by decide +kernel
theorem dX7_told_22 : decode cX7_told 22 = .ok (.getfield 232, 3) := by decide +kernel
theorem dX7_told_25 : decode cX7_told 25 = .ok (.goto 17, 3) := by decide +kernel
theorem dX7_told_28 : decode cX7_told 28 = .ok (.iload_n 1, 1) := by decide +kernel
theorem dX7_told_29 : decode cX7_told 29 = .ok (.iconst 2, 1) := by decide +kernel
theorem dX7_told_30 : decode cX7_told 30 = .ok (.if_icmp .ne 10, 3) := by decide +kernel
theorem dX7_told_33 : decode cX7_told 33 = .ok (.aload_n 0, 1) := by decide +kernel
theorem dX7_told_34 : decode cX7_told 34 = .ok (.getfield 263, 3) := by decide +kernel
theorem dX7_told_37 : decode cX7_told 37 = .ok (.goto 5, 3) := by decide +kernel
theorem dX7_told_40 : decode cX7_told 40 = .ok (.bipush (-3), 2) := by decide +kernel
theorem dX7_told_42 : decode cX7_told 42 = .ok (.ireturn, 1) := by decide +kernel
abbrev vwCl : List vw_C := [(RX0, TX0, 17), (RX2, TX2, 5), (RX3, TX3, 4), (RX4, TX4, 6), (RX5, TX5, 5), (RX6, TX6, 7), (RX7, TX7, 46)]
