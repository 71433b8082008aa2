/-- what the tables say of the exceptions, beside the good words -/
def zDecl : List Cond := [.declares (Bundle.initS "java/lang/RuntimeException"), .declares (Bundle.initS "java/lang/Exception"), .declares (Bundle.initS Bundle.tN), .castable "java/lang/IllegalArgumentException" "java/lang/IllegalArgumentException", .castable "java/lang/ArithmeticException" "java/lang/ArithmeticException"]
theorem zDecl_in : ∀ w ∈ (vx_atS RX6 148 "java/lang/IllegalArgumentException" ["java/lang/RuntimeException", "java/lang/Exception"]).filter (fun w => !goodWord w), w ∈ zDecl := by decide +kernel
theorem zDecl_in2 : ∀ w ∈ (vx_atS RX6 155 "java/lang/ArithmeticException" ["java/lang/RuntimeException", "java/lang/Exception"]).filter (fun w => !goodWord w), w ∈ zDecl := by decide +kernel
def zX (sa sb : Nat) (U : State) : Prop := vk_R RX6 146 "no such build" sa U ∧ va_Nw (.declares (Bundle.initS "java/lang/RuntimeException")) U ∧ va_Nw (.declares (Bundle.initS "java/lang/Exception")) U ∧ va_Nw (.declares (Bundle.initS Bundle.tN)) U ∧ va_Nw (.castable "java/lang/IllegalArgumentException" "java/lang/IllegalArgumentException") U ∧ vk_R RX6 153 "all uses link" sb U ∧ va_Nw (.castable "java/lang/ArithmeticException" "java/lang/ArithmeticException") U ∧ va_Nc "java/lang/ArithmeticException" "java/lang/IllegalArgumentException" U
theorem zX.moved {sa sb : Nat} {s U : State} (hW : s.WarmedH U.vm) (h : zX sa sb s) : zX sa sb U := ⟨vk_R.warm hW h.1, va_Nw.warmD hW h.2.1, va_Nw.warmD hW h.2.2.1, va_Nw.warmD hW h.2.2.2.1, va_Nw.warmC hW h.2.2.2.2.1, vk_R.warm hW h.2.2.2.2.2.1, va_Nw.warmC hW h.2.2.2.2.2.2.1, va_Nc.moved hW.alike h.2.2.2.2.2.2.2⟩
theorem zX.same {sa sb : Nat} {u U : State} (hv : u.vm = U.vm) (h : zX sa sb u) : zX sa sb U := ⟨vk_R.same hv.symm h.1, va_Nw.same rfl hv h.2.1, va_Nw.same rfl hv h.2.2.1, va_Nw.same rfl hv h.2.2.2.1, va_Nw.same rfl hv h.2.2.2.2.1, vk_R.same hv.symm h.2.2.2.2.2.1, va_Nw.same rfl hv h.2.2.2.2.2.2.1, va_Nc.moved (by rw [hv]; exact Vm.Alike.refl _) h.2.2.2.2.2.2.2⟩
theorem zX.words {sa sb : Nat} {s : State} {args : Array Value} (h : zX sa sb s) : ∀ w ∈ zDecl, w.before args s = true := vx_c (va_Nw.use rfl h.2.1) (vx_c (va_Nw.use rfl h.2.2.1) (vx_c (va_Nw.use rfl h.2.2.2.1) (vx_c (va_Nw.use rfl h.2.2.2.2.1) (vx_c (va_Nw.use rfl h.2.2.2.2.2.2.1) vx_n))))
def zZ (A : Nat → Prop) (U : State) (H : Heap) : Prop := vx_Zq Bundle.tN "UNASSIGNED_STACK" Bundle.steD A U H ∧ vx_Zq Bundle.tN "SUPPRESSED_SENTINEL" Bundle.listD A U H
theorem zZ.to {A B : Nat → Prop} {s U : State} {H : Heap} (h : zZ A s s.heap) (hW : s.WarmedH U.vm) (hk : ∀ q : Nat, q < s.heap.size → ¬ A q → H[q]? = s.heap[q]?) (hAB : ∀ q, B q → A q) (hU : U.heap = H) : zZ B U U.heap := by
  rw [hU]
  exact ⟨((h.1.kept hk).narrow hAB).moved hW.alike, ((h.2.kept hk).narrow hAB).moved hW.alike⟩
abbrev zPs (dC : Nat → ClassId) (dI : Nat → Nat → Nat) (av : List Value) (sz sa sb : Nat) (wo ws : va_W) (tys : List (ClassId × FieldType)) (cI cJ cB : ClassId) (bn : Nat) (bf : Nat → Option Nat) (un : Nat) (wf : Nat → Option Nat) : Array Value → State → Prop := va_Pc av (fun U => U.heap.size = sz ∧ va_P (dC, dI) vwCl ws U.heap ∧ va_K (dC, dI) vwCl tys U ∧ zF U ∧ zBs (dC, dI) cI cJ cB bn bf U.heap ∧ zUs (dC, dI) cI cJ cB un wf U.heap ∧ zX sa sb U ∧ zZ (va_A wo sz) U U.heap ∧ va_P (dC, dI) vwCl wo U.heap ∧ va_D (fun _ => True) wo)
section ZPS
variable {dC : Nat → ClassId} {dI : Nat → Nat → Nat} {av : List Value} {sz sa sb : Nat} {wo ws : va_W} {tys : List (ClassId × FieldType)} {cI cJ cB : ClassId} {bn : Nat} {bf : Nat → Option Nat} {un : Nat} {wf : Nat → Option Nat} {s : State} {H : Heap} {a q0 ci : Nat} {q : vw_C} {fs As : List Value} {C : String} {A : Nat → Prop}
theorem zfs : FrameBlind (zPs dC dI av sz sa sb wo ws tys cI cJ cB bn bf un wf) := fun a U g mk q => ⟨q.1, q.2.1, q.2.2.1, va_K.moved (u := U) (U := U.calling g mk a) (Vm.Alike.refl U.vm) q.2.2.2.1, zF.same rfl q.2.2.2.2.1, q.2.2.2.2.2.1, q.2.2.2.2.2.2.1, zX.same rfl q.2.2.2.2.2.2.2.1, ⟨vx_Zq.moved (u := U) (Vm.Alike.refl U.vm) q.2.2.2.2.2.2.2.2.1.1, vx_Zq.moved (u := U) (Vm.Alike.refl U.vm) q.2.2.2.2.2.2.2.2.1.2⟩, q.2.2.2.2.2.2.2.2.2⟩
theorem zVs (hK : va_K (dC, dI) vwCl tys s) (hP : va_P (dC, dI) vwCl ws H) (hE : zF s) (hBs : zBs (dC, dI) cI cJ cB bn bf H) (hUs : zUs (dC, dI) cI cJ cB un wf H) (hX : zX sa sb s) (hZ : zZ A s s.heap) (hk : ∀ q : Nat, q < s.heap.size → ¬ A q → H[q]? = s.heap[q]?) (hAB : ∀ q, va_A wo H.size q → A q) (hPo : va_P (dC, dI) vwCl wo H) (hDo : va_D A wo) (hc : vwCl[ci]? = some q) (he : ws[q0]? = some (a, .inr (ci, fs))) (hC : q.1 = C) : PreV s H C a (zPs dC dI (.ref a :: As) H.size sa sb wo ws tys cI cJ cB bn bf un wf) As := by
  subst hC
  exact ⟨zfs, va_recv hK hP hc he, fun U hU hW => ⟨rfl, by rw [hU], by rw [hU]; exact hP, va_K.moved hW.alike hK, zF.moved hW hE, by rw [hU]; exact hBs, by rw [hU]; exact hUs, zX.moved hW hX, zZ.to hZ hW hk hAB hU, by rw [hU]; exact hPo, hDo.weaken (fun _ _ _ _ => trivial)⟩⟩
theorem zSs (hK : va_K (dC, dI) vwCl tys s) (hP : va_P (dC, dI) vwCl ws H) (hE : zF s) (hBs : zBs (dC, dI) cI cJ cB bn bf H) (hUs : zUs (dC, dI) cI cJ cB un wf H) (hX : zX sa sb s) (hZ : zZ A s s.heap) (hk : ∀ q : Nat, q < s.heap.size → ¬ A q → H[q]? = s.heap[q]?) (hAB : ∀ q, va_A wo H.size q → A q) (hPo : va_P (dC, dI) vwCl wo H) (hDo : va_D A wo) : PreS s H (zPs dC dI As H.size sa sb wo ws tys cI cJ cB bn bf un wf) As := ⟨zfs, fun U hU hW => ⟨rfl, by rw [hU], by rw [hU]; exact hP, va_K.moved hW.alike hK, zF.moved hW hE, by rw [hU]; exact hBs, by rw [hU]; exact hUs, zX.moved hW hX, zZ.to hZ hW hk hAB hU, by rw [hU]; exact hPo, hDo.weaken (fun _ _ _ _ => trivial)⟩⟩
end ZPS
theorem dX6_share_0 : decode cX6_share 0 = .ok (.aload_n 0, 1) := by decide +kernel
theorem dX6_share_1 : decode cX6_share 1 = .ok (.iload_n 1, 1) := by decide +kernel
theorem dX6_share_2 : decode cX6_share 2 = .ok (.invokevirtual 62, 3) := by decide +kernel
theorem dX6_share_5 : decode cX6_share 5 = .ok (.astore_n 2, 1) := by decide +kernel
theorem dX6_share_6 : decode cX6_share 6 = .ok (.aload_n 2, 1) := by decide +kernel
theorem dX6_share_7 : decode cX6_share 7 = .ok (.ifnonnull 13, 3) := by decide +kernel
theorem dX6_share_10 : decode cX6_share 10 = .ok (.new 144, 3) := by decide +kernel
theorem dX6_share_13 : decode cX6_share 13 = .ok (.dup, 1) := by decide +kernel
theorem dX6_share_14 : decode cX6_share 14 = .ok (.ldc 146, 2) := by decide +kernel
theorem dX6_share_16 : decode cX6_share 16 = .ok (.invokespecial 148, 3) := by decide +kernel
theorem dX6_share_19 : decode cX6_share 19 = .ok (.athrow, 1) := by decide +kernel
theorem dX6_share_20 : decode cX6_share 20 = .ok (.iconst 0, 1) := by decide +kernel
theorem dX6_share_21 : decode cX6_share 21 = .ok (.istore_n 3, 1) := by decide +kernel
theorem dX6_share_22 : decode cX6_share 22 = .ok (.iconst 0, 1) := by decide +kernel
theorem dX6_share_23 : decode cX6_share 23 = .ok (.istore 4, 2) := by decide +kernel
theorem dX6_share_25 : decode cX6_share 25 = .ok (.iload 4, 2) := by decide +kernel
theorem dX6_share_27 : decode cX6_share 27 = .ok (.aload_n 0, 1) := by decide +kernel
theorem dX6_share_28 : decode cX6_share 28 = .ok (.getfield 32, 3) := by decide +kernel
theorem dX6_share_31 : decode cX6_share 31 = .ok (.if_icmp .ge 26, 3) := by decide +kernel
theorem dX6_share_34 : decode cX6_share 34 = .ok (.aload_n 2, 1) := by decide +kernel
theorem dX6_share_35 : decode cX6_share 35 = .ok (.aload_n 0, 1) := by decide +kernel
theorem dX6_share_36 : decode cX6_share 36 = .ok (.getfield 28, 3) := by decide +kernel
theorem dX6_share_39 : decode cX6_share 39 = .ok (.iload 4, 2) := by decide +kernel
theorem dX6_share_41 : decode cX6_share 41 = .ok (.aaload, 1) := by decide +kernel
theorem dX6_share_42 : decode cX6_share 42 = .ok (.invokestatic 130, 3) := by decide +kernel
theorem dX6_share_45 : decode cX6_share 45 = .ok (.ifCond .lt 6, 3) := by decide +kernel
theorem dX6_share_48 : decode cX6_share 48 = .ok (.iinc 3 1, 3) := by decide +kernel
theorem dX6_share_51 : decode cX6_share 51 = .ok (.iinc 4 1, 3) := by decide +kernel
theorem dX6_share_54 : decode cX6_share 54 = .ok (.goto (-29), 3) := by decide +kernel
theorem dX6_share_57 : decode cX6_share 57 = .ok (.aload_n 0, 1) := by decide +kernel
theorem dX6_share_58 : decode cX6_share 58 = .ok (.getfield 32, 3) := by decide +kernel
theorem dX6_share_61 : decode cX6_share 61 = .ok (.iload_n 3, 1) := by decide +kernel
theorem dX6_share_62 : decode cX6_share 62 = .ok (.isub, 1) := by decide +kernel
theorem dX6_share_63 : decode cX6_share 63 = .ok (.istore 4, 2) := by decide +kernel
theorem dX6_share_65 : decode cX6_share 65 = .ok (.iload 4, 2) := by decide +kernel
theorem dX6_share_67 : decode cX6_share 67 = .ok (.ifCond .ne 13, 3) := by decide +kernel
theorem dX6_share_70 : decode cX6_share 70 = .ok (.new 151, 3) := by decide +kernel
theorem dX6_share_73 : decode cX6_share 73 = .ok (.dup, 1) := by decide +kernel
theorem dX6_share_74 : decode cX6_share 74 = .ok (.ldc 153, 2) := by decide +kernel
theorem dX6_share_76 : decode cX6_share 76 = .ok (.invokespecial 155, 3) := by decide +kernel
theorem dX6_share_79 : decode cX6_share 79 = .ok (.athrow, 1) := by decide +kernel
theorem dX6_share_80 : decode cX6_share 80 = .ok (.iload_n 3, 1) := by decide +kernel
theorem dX6_share_81 : decode cX6_share 81 = .ok (.iload 4, 2) := by decide +kernel
theorem dX6_share_83 : decode cX6_share 83 = .ok (.idiv, 1) := by decide +kernel
theorem dX6_share_84 : decode cX6_share 84 = .ok (.ireturn, 1) := by decide +kernel
def zwX6_share : List Cond := .code yX6_share cX6_share 5 (some .int) :: (([.classLink RX6 144 "java/lang/IllegalArgumentException", .initialized "java/lang/IllegalArgumentException", .fieldLink RX6 32 "LinkModels" "useCount" "I", .classLink RX6 151 "java/lang/ArithmeticException", .initialized "java/lang/ArithmeticException", .fieldLink RX6 28 "LinkModels" "uses" "[LLinkModels$Use;", .methodLink RX6 62 yX6_buildAt, .instanceMethod yX6_buildAt, .selects RX6 yX6_buildAt yX6_buildAt, .initialized RX6, .code yX6_buildAt cX6_buildAt 2 (some (.object "LinkModels$Build")), .fieldLink RX6 23 "LinkModels" "buildCount" "I", .fieldLink RX6 19 "LinkModels" "builds" "[LLinkModels$Build;", .methodLink RX6 130 yX1_linked, .static yX1_linked, .initialized RX1, .code yX1_linked cX1_linked 4 (some .int), .fieldLink RX1 9 "LinkModels$Use" "caller" "I", .fieldLink RX1 21 "LinkModels$Use" "owner" "I", .fieldLink RX1 32 "LinkModels$Use" "kind" "I", .methodLink RX1 15 yX0_placeOf, .instanceMethod yX0_placeOf, .selects RX0 yX0_placeOf yX0_placeOf, .initialized RX0, .code yX0_placeOf cX0_placeOf 3 (some .int), .fieldLink RX0 61 "LinkModels$Build" "classCount" "I", .fieldLink RX0 11 "LinkModels$Build" "names" "[I", .methodLink RX1 24 yX0_errorAt, .instanceMethod yX0_errorAt, .selects RX0 yX0_errorAt yX0_errorAt, .code yX0_errorAt cX0_errorAt 2 (some .int), .fieldLink RX0 49 "LinkModels$Build" "errors" "[I", .methodLink RX1 39 yX5_asksField, .instanceMethod yX5_asksField, .selects RX5 yX5_asksField yX5_asksField, .initialized RX5, .code yX5_asksField cX5_asksField 1 (some .boolean), .fieldLink RX5 9 "LinkModels$Use" "kind" "I", .methodLink RX1 47 yX1_linkedMethod, .static yX1_linkedMethod, .code yX1_linkedMethod cX1_linkedMethod 5 (some .int), .static yX6_classOf, .fieldLink RX1 50 "LinkModels$Use" "wanted" "LLinkModels$Signature;", .methodLink RX1 67 yX0_has, .instanceMethod yX0_has, .selects RX0 yX0_has yX0_has, .code yX0_has cX0_has 3 (some .boolean), .fieldLink RX0 30 "LinkModels$Build" "memberMarks" "[I", .methodLink RX1 71 yX5_asksStatic, .instanceMethod yX5_asksStatic, .selects RX5 yX5_asksStatic yX5_asksStatic, .code yX5_asksStatic cX5_asksStatic 1 (some .boolean), .methodLink RX1 27 yX1_failed, .static yX1_failed, .code yX1_failed cX1_failed 1 (some .int), .code yX6_classOf cX6_classOf 1 (some .int), .methodLink RX1 80 yX0_methodFrom, .instanceMethod yX0_methodFrom, .selects RX0 yX0_methodFrom yX0_methodFrom, .code yX0_methodFrom cX0_methodFrom 7 (some .int), .fieldLink RX0 58 "LinkModels$Build" "lineCounts" "[I", .fieldLink RX0 55 "LinkModels$Build" "lines" "[I", .methodLink RX0 82 yX0_has, .methodLink RX0 94 yX0_methodIn, .instanceMethod yX0_methodIn, .selects RX0 yX0_methodIn yX0_methodIn, .code yX0_methodIn cX0_methodIn 5 (some .int), .fieldLink RX0 37 "LinkModels$Build" "typeCounts" "[I", .fieldLink RX0 71 "LinkModels$Signature" "typeCount" "I", .fieldLink RX0 40 "LinkModels$Build" "firsts" "[I", .fieldLink RX0 74 "LinkModels$Signature" "first" "I", .fieldLink RX0 43 "LinkModels$Build" "seconds" "[I", .fieldLink RX0 77 "LinkModels$Signature" "second" "I", .fieldLink RX0 27 "LinkModels$Build" "memberCounts" "[I", .fieldLink RX0 33 "LinkModels$Build" "words" "[J", .fieldLink RX0 65 "LinkModels$Signature" "word" "J", .methodLink RX0 90 yX0_isFace, .instanceMethod yX0_isFace, .selects RX0 yX0_isFace yX0_isFace, .code yX0_isFace cX0_isFace 2 (some .boolean), .fieldLink RX0 15 "LinkModels$Build" "classMarks" "[I", .methodLink RX1 84 yX1_foundInFaces, .static yX1_foundInFaces, .code yX1_foundInFaces cX1_foundInFaces 5 (some .int), .methodLink RX1 88 yX0_nearestFaces, .instanceMethod yX0_nearestFaces, .selects RX0 yX0_nearestFaces yX0_nearestFaces, .code yX0_nearestFaces cX0_nearestFaces 7 (some .int), .fieldLink RX0 52 "LinkModels$Build" "reached" "[I", .methodLink RX1 92 yX0_withBody, .instanceMethod yX0_withBody, .selects RX0 yX0_withBody yX0_withBody, .code yX0_withBody cX0_withBody 6 (some .int), .methodLink RX1 95 yJ6_bitCount_0f7a4, .static yJ6_bitCount_0f7a4, .initialized RJ6, .code yJ6_bitCount_0f7a4 cJ6_bitCount_0f7a4 1 (some .int), .constant RJ6 265 (1431655765), .constant RJ6 266 (858993459), .constant RJ6 267 (252645135), .methodLink RX1 100 yX0_firstMethodOf, .instanceMethod yX0_firstMethodOf, .selects RX0 yX0_firstMethodOf yX0_firstMethodOf, .code yX0_firstMethodOf cX0_firstMethodOf 6 (some .int), .methodLink RX1 77 yX0_isFace, .methodLink RX1 43 yX1_linkedField, .static yX1_linkedField, .code yX1_linkedField cX1_linkedField 6 (some .int), .fieldLink RX1 54 "LinkModels$Signature" "word" "J", .methodLink RX1 74 yX5_puts, .instanceMethod yX5_puts, .selects RX5 yX5_puts yX5_puts, .code yX5_puts cX5_puts 1 (some .boolean), .methodLink RX1 60 yX0_fieldFrom, .instanceMethod yX0_fieldFrom, .selects RX0 yX0_fieldFrom yX0_fieldFrom, .code yX0_fieldFrom cX0_fieldFrom 6 (some .int), .methodLink RX0 86 yX0_fieldIn, .instanceMethod yX0_fieldIn, .selects RX0 yX0_fieldIn yX0_fieldIn, .code yX0_fieldIn cX0_fieldIn 5 (some .int), .methodLink RX1 35 yX0_isWhole, .instanceMethod yX0_isWhole, .selects RX0 yX0_isWhole yX0_isWhole, .code yX0_isWhole cX0_isWhole 2 (some .boolean)] ++ wsX60 ++ wsX50 ++ wsX00 ++ wsX30) ++ ((vx_atS RX6 148 "java/lang/IllegalArgumentException" ["java/lang/RuntimeException", "java/lang/Exception"]).filter goodWord ++ (vx_atS RX6 155 "java/lang/ArithmeticException" ["java/lang/RuntimeException", "java/lang/Exception"]).filter goodWord))
set_option maxRecDepth 100000 in
theorem zgX6_share_X6_buildAt_62 : GoodIn zwX6_share (wsV RX6 62 RX6 yX6_buildAt zwX6_buildAt) := goodIn_app (goodIn_r _ [7, 8, 9, 10] rfl (by decide +kernel)) (goodIn_app (goodIn_r _ [11, 12, 13] rfl (by decide +kernel)) (fun w hw => ⟨(List.mem_cons_of_mem _ (List.mem_append_left _ (List.mem_append_left _ (List.mem_append_left _ (List.mem_append_left _ (List.mem_append_right _ hw)))))), good_of_word (List.all_eq_true.mp zgX6 w hw)⟩))
set_option maxRecDepth 100000 in
theorem zgX6_share_X1_linked_130 : GoodIn zwX6_share (va_wsS RX6 130 yX1_linked zwX1_linked) := goodIn_app (goodIn_r _ [14, 15, 16] rfl (by decide +kernel)) (goodIn_app (goodIn_app (goodIn_app (goodIn_r _ [17, 18, 19, 20, 21, 22, 23, 24, 25, 26, 27, 28, 29, 30, 31, 32, 33, 34, 35, 36, 37, 38, 39, 40, 16, 41, 10, 42, 43, 44, 45, 46, 47, 48, 49, 50, 51, 52, 53, 54, 55, 56, 57, 58, 59, 60, 61, 62, 63, 64, 65, 66, 67, 68, 69, 70, 71, 72, 73, 74, 75, 76, 77, 78, 79, 80, 81, 82, 83, 84, 85, 86, 87, 88, 89, 90, 91, 92, 93, 94, 95, 96, 97, 98, 99, 100, 101, 102, 103, 104, 105, 106, 107, 108, 109, 110, 111, 112, 113, 114, 115, 116, 117, 118, 119, 120, 121, 122, 123, 124, 125] rfl (by decide +kernel)) (fun w hw => ⟨(List.mem_cons_of_mem _ (List.mem_append_left _ (List.mem_append_left _ (List.mem_append_left _ (List.mem_append_right _ hw))))), good_of_word (List.all_eq_true.mp zgX5 w hw)⟩)) (fun w hw => ⟨(List.mem_cons_of_mem _ (List.mem_append_left _ (List.mem_append_left _ (List.mem_append_right _ hw)))), good_of_word (List.all_eq_true.mp zgX0 w hw)⟩)) (fun w hw => ⟨(List.mem_cons_of_mem _ (List.mem_append_left _ (List.mem_append_right _ hw))), good_of_word (List.all_eq_true.mp zgX3 w hw)⟩))
set_option maxHeartbeats 4000000 in
set_option maxRecDepth 100000 in
theorem kX6_share (l : Launch) (hl9 : l.stackTraces = false) (dC : Nat → ClassId) (dI : Nat → Nat → Nat) (xh : Nat) (tb : Nat) (xb : Nat) (xu : Nat) (rh : Nat) (cI : ClassId) (cJ : ClassId) (cB : ClassId) (cQ : ClassId) (cV : ClassId) (tn : Nat) (bn : Nat) (un : Nat) (bf : Nat → Option Nat) (wf : Nat → Option Nat) (ib : Int32) (hI : yWI tn bn un) (sz sa sb : Nat) : vx_Met l yX6_share zwX6_share ({ frames := 6, cells := 1, slots := 6, locals := 121 }) (zPs dC dI [.ref xh, .int ib] sz sa sb [] (yW xh tb xb xu rh cI cJ cB cQ cV (nI tn) (nI bn) (nI un) bf wf) [(cI, .int), (cJ, .long), (cB, .byte), (cQ, .object RX0), (cV, .object RX5)] cI cJ cB bn bf un wf) (va_Qi (fun (_ : Int32) (_ : Unit) => True) (fun _ _ => True) (va_A [] sz)) (vx_X (fun _ : Unit => True) (fun E _ _ => E = "java/lang/IllegalArgumentException" ∨ E = "java/lang/ArithmeticException") (va_A [] sz)) 1 6 (va_A [] sz) := by
  refine vx_ofW (cc := cX6_share) (maxL := 5) (ret := (some .int)) (by decide) rfl ?_
  intro p e s m args below meth c s₁ B hml htab hv
  obtain ⟨rfl, hsz, hP, hK, hE, hBs, hUs, hX, hZ, -, -⟩ := hv
  have hx := B.exec
  have hb := B.bytes
  have hr := B.returns
  have hts := atoms_spec (ws := zwX6_share) B.pre
  have hown : s.vm.findClass RX6 = some m.cls := findClass_of_methodNamed B.named
  have hlocks := B.notSynchronized
  obtain ⟨htn, hbn, hun⟩ := hI
  subst hsz
  generalize hAe : va_A [] s.heap.size = A at hZ ⊢
  have hA : ∀ q : Nat, s.heap.size ≤ q → A q := fun q h => by rw [← hAe]; exact Or.inr h
  have hS : va_S A s.heap s.heap [] := va_S.rf
  have hiX6 : ∀ w ∈ wsX60, w ∈ zwX6_share := (fun w hw => (List.mem_cons_of_mem _ (List.mem_append_left _ (List.mem_append_left _ (List.mem_append_left _ (List.mem_append_left _ (List.mem_append_right _ hw)))))))
  have hl := lv_entry ([.ref xh, .int ib]) (n := 5) (Nat.le_of_ble_eq_true rfl)
  rw [lg_entry_eq]
  generalize (lg_sl ([.ref xh, .int ib]) ++ List.replicate (5 - (lg_sl ([.ref xh, .int ib])).length) Slot.unset).toArray = ls at hl ⊢
  have hl : lv_has ls 5 [(0, .ref xh), (1, .int ib)] := hl
  refine lv_aload_n hx hb dX6_share_0 rfl (lv_at hl 0 rfl) ?_
  refine lv_iload_n hx hb dX6_share_1 rfl (lv_at hl 1 rfl) ?_
  refine va_csq (W.runV (As := [.int ib]) (rest := []) ⟨hx, hb, hml, hown, hts⟩ (kX6_buildAt l dC dI xh tb xb xu rh cI cJ cB cQ cV tn bn un bf wf ⟨by omega, by omega, by omega⟩ ib) (cwV 1 hts zgX6_share_X6_buildAt_62 rfl rfl rfl (by decide +kernel) ⟨(show 0 + 1 ≤ 6 by omega), (show 8 + (2 + 11) + 0 ≤ 121 by omega)⟩) (zVq (ci := 5) (q0 := 0) (q := (RX6, TX6, 7)) hK hP hE rfl rfl rfl) rfl rfl hl.1 rfl (lv_room (Nat.le_of_ble_eq_true rfl)) dX6_share_2 ⟨(show 0 + 0 ≤ 1 by omega), (show 0 + 0 ≤ 6 by omega)⟩) (fun r1 hw => ?_)
  rcases hw with rfl | ⟨k2, hk2, rfl⟩
  · refine W.eq (g2 := F0 m 5 ls [.null]) rfl ?_
    refine lv_astore_nN (lv' := [(2, .null), (0, .ref xh), (1, .int ib)]) hx hb dX6_share_5 rfl hl (by decide) rfl (fun ls hl => ?_)
    refine lv_aload_nN hx hb dX6_share_6 rfl (lv_at hl 0 rfl) ?_
    refine lv_ifnonnullN hx hb dX6_share_7 ?_
    have hat : ∀ w ∈ vx_atS RX6 148 "java/lang/IllegalArgumentException" ["java/lang/RuntimeException", "java/lang/Exception"], w.before ([.ref xh, .int ib] : List Value).toArray s = true := vx_hat (B := zDecl) (fun w h => hts w (List.mem_cons_of_mem _ (List.mem_append_right _ (List.mem_append_left _ h)))) zDecl_in hX.words
    exact vx_throwS (own := RX6) (cls := "java/lang/IllegalArgumentException") (text := "no such build") (names := ["java/lang/RuntimeException", "java/lang/Exception"]) (ik := 144) (is := 146) (ic := 148) (sa := sa) (A := A) hx hb hl9 hown (by decide +kernel) (by decide +kernel) (hts (.classLink RX6 144 "java/lang/IllegalArgumentException") (by decide +kernel)) (hts (.initialized "java/lang/IllegalArgumentException") (by decide +kernel)) hX.1 hat (by decide +kernel) hZ.1 hZ.2 hS (by rw [hml]; exact hl.1) dX6_share_10 dX6_share_13 dX6_share_14 dX6_share_16 dX6_share_19 (fun x hx => (htab x hx).elim) (show 2 + 3 < 6 by omega) (show 0 + (13 * (2 + 1) + 43) ≤ 121 by omega) (show 0 + 1 ≤ 1 by omega) (show 0 + 6 ≤ 6 by omega) hlocks (fun t ha hz hk => ⟨(), trivial, Or.inl rfl, hz, fun q h1 _ => hk q h1⟩) hS.2.2 (show 0 + 1 ≤ 1 by omega) (show 0 + 6 ≤ 6 by omega)
  · obtain ⟨bh, wk2, hfk2, hck2, hPk2⟩ := hBs k2 hk2
    obtain ⟨br, cc, nA, mA, aA, fcA, fA, mcA, mmA, wA, tcA, g1A, g2A, nuA, erA, reA, liA, lcA, hIk2, rfl⟩ := hck2
    obtain ⟨hcc, hfcA, hmcA, herA, hliA, hlcA⟩ := hIk2
    rw [hfk2]
    refine W.eq (g2 := F0 m 5 ls [.ref bh]) rfl ?_
    have hP := hP.app hPk2
    refine lv_astore_n (lv' := [(2, .ref bh), (0, .ref xh), (1, .int ib)]) hx hb dX6_share_5 rfl hl (by decide) rfl (fun ls hl => ?_)
    refine lv_aload_n hx hb dX6_share_6 rfl (lv_at hl 0 rfl) ?_
    refine lv_ifnonnull (tgt := 20) hx hb dX6_share_7 (by decide) ?_
    have J25 : ∀ (z25 : Nat) (gd : Int32) (ux : Nat) (ls : Array Slot), un - ux < z25 → (ux ≤ un) → lv_has ls 5 [(0, .ref xh), (2, .ref bh), (3, .int gd), (4, .int (nI ux))] → W p l e (headSpec zwX6_share { frames := 6, cells := 1, slots := 6, locals := 121 }).room s m (([.ref xh, .int ib] : List Value).toArray) below meth c s.heap [] 0 0 (vx_MQ below (va_Qi (fun (_ : Int32) (_ : Unit) => True) (fun _ _ => True) (A)) (vx_X (fun _ : Unit => True) (fun E _ _ => E = "java/lang/IllegalArgumentException" ∨ E = "java/lang/ArithmeticException") (A)) (([.ref xh, .int ib] : List Value).toArray) s 1 6 A) (F0 m 25 ls []) := by
      intro z25
      induction z25 with
      | zero => intro gd ux ls h9; exact absurd h9 (Nat.not_lt_zero _)
      | succ z25 ih25 =>
        intro gd ux ls hm25 i25_0 hl
        refine lv_iload hx hb dX6_share_25 (lv_at hl 3 rfl) ?_
        refine lv_aload_n hx hb dX6_share_27 rfl (lv_at hl 0 rfl) ?_
        refine va_get (D := (dC, dI)) (ci := 5) (v := .int (nI un)) (C := RX6) (T := TX6) (N := 7) hx hb hts hiX6 hown hK hP 0 rfl rfl 5 (by decide) (hts (.fieldLink RX6 32 "LinkModels" "useCount" "I") (by decide +kernel)) (fun _ h9 => h9) rfl dX6_share_28 ?_
        refine lv_icmp_ge (tgt := 57) hx hb dX6_share_31 (by decide) (fun cp31 => ?_) (fun cp31 => ?_)
        · have qcp31 : un ≤ ux := (nI_leI (a := un) (b := ux) (by omega) (by omega)).mp cp31
          refine lv_aload_n hx hb dX6_share_57 rfl (lv_at hl 0 rfl) ?_
          refine va_get (D := (dC, dI)) (ci := 5) (v := .int (nI un)) (C := RX6) (T := TX6) (N := 7) hx hb hts hiX6 hown hK hP 0 rfl rfl 5 (by decide) (hts (.fieldLink RX6 32 "LinkModels" "useCount" "I") (by decide +kernel)) (fun _ h9 => h9) rfl dX6_share_58 ?_
          refine lv_iload_n hx hb dX6_share_61 rfl (lv_at hl 2 rfl) ?_
          refine lv_isub hx hb dX6_share_62 ?_
          refine lv_topi (fun x3 ex3 => ?_)
          refine lv_istore (lv' := [(4, .int x3), (0, .ref xh), (2, .ref bh), (3, .int gd)]) hx hb dX6_share_63 hl (by decide) rfl (fun ls hl => ?_)
          refine lv_iload hx hb dX6_share_65 (lv_at hl 0 rfl) ?_
          refine lv_if_ne (tgt := 80) hx hb dX6_share_67 (by decide) (fun cp67 => ?_) (fun cp67 => ?_)
          · refine lv_iload_n hx hb dX6_share_80 rfl (lv_at hl 3 rfl) ?_
            refine lv_iload hx hb dX6_share_81 (lv_at hl 0 rfl) ?_
            refine lv_idiv hx hb dX6_share_83 (by assumption) ?_
            refine lv_topi (fun x4 ex4 => ?_)
            refine vx_ret ?_
            refine W.widen (k := 1) (n := 6) (by omega) (by omega) ?_
            exact W.iret (v := x4) hx hb hr (fun t ht hW => ⟨⟨x4, (), rfl, trivial, trivial⟩, hS.F ht⟩) hS.2.2 dX6_share_84
          · have hat : ∀ w ∈ vx_atS RX6 155 "java/lang/ArithmeticException" ["java/lang/RuntimeException", "java/lang/Exception"], w.before ([.ref xh, .int ib] : List Value).toArray s = true := vx_hat (B := zDecl) (fun w h => hts w (List.mem_cons_of_mem _ (List.mem_append_right _ (List.mem_append_right _ h)))) zDecl_in2 hX.words
            exact vx_throwS (own := RX6) (cls := "java/lang/ArithmeticException") (text := "all uses link") (names := ["java/lang/RuntimeException", "java/lang/Exception"]) (ik := 151) (is := 153) (ic := 155) (sa := sb) (A := A) hx hb hl9 hown (by decide +kernel) (by decide +kernel) (hts (.classLink RX6 151 "java/lang/ArithmeticException") (by decide +kernel)) (hts (.initialized "java/lang/ArithmeticException") (by decide +kernel)) hX.2.2.2.2.2.1 hat (by decide +kernel) hZ.1 hZ.2 hS (by rw [hml]; exact hl.1) dX6_share_70 dX6_share_73 dX6_share_74 dX6_share_76 dX6_share_79 (fun x hx => (htab x hx).elim) (show 2 + 3 < 6 by omega) (show 0 + (13 * (2 + 1) + 43) ≤ 121 by omega) (show 0 + 1 ≤ 1 by omega) (show 0 + 6 ≤ 6 by omega) hlocks (fun t ha hz hk => ⟨(), trivial, Or.inr rfl, hz, fun q h1 _ => hk q h1⟩) hS.2.2 (show 0 + 1 ≤ 1 by omega) (show 0 + 6 ≤ 6 by omega)
        · have qcp31 : ¬ un ≤ ux := fun h9 => cp31 ((nI_leI (a := un) (b := ux) (by omega) (by omega)).mpr h9)
          refine lv_aload_n hx hb dX6_share_34 rfl (lv_at hl 1 rfl) ?_
          refine lv_aload_n hx hb dX6_share_35 rfl (lv_at hl 0 rfl) ?_
          refine va_get (D := (dC, dI)) (ci := 5) (v := .ref xu) (C := RX6) (T := TX6) (N := 7) hx hb hts hiX6 hown hK hP 0 rfl rfl 4 (by decide) (hts (.fieldLink RX6 28 "LinkModels" "uses" "[LLinkModels$Use;") (by decide +kernel)) (fun _ h9 => h9) rfl dX6_share_36 ?_
          refine lv_iload hx hb dX6_share_39 (lv_at hl 3 rfl) ?_
          refine va_aldq hx hb hK hP 2 4 rfl rfl (vp_in_nI (show ux < 40 by omega) (by decide)) dX6_share_41 ?_
          rw [nI_clamp (show ux < 2 ^ 31 by omega)]
          obtain ⟨uh, w9, hf9, hc9, hP9⟩ := hUs ux (by omega)
          obtain ⟨ug, uk, uc, uo, uy, uw, ut, uf, uq, rfl⟩ := hc9
          rw [hf9]
          refine W.eq (g2 := F0 m 42 ls [.ref uh, .ref bh]) rfl ?_
          have hP := hP.app hP9
          refine vp_callSi (W.runS (As := [.ref bh, .ref uh]) (rest := []) ⟨hx, hb, hml, hown, hts⟩ (kX1_linked l dC dI bh br uh ug cI cJ cB cc nA mA aA fcA fA mcA mmA wA tcA g1A g2A nuA erA reA liA lcA uk uc uo uy uw ut uf uq ⟨by omega, hfcA, hmcA, herA, hliA, hlcA⟩) (va_cwS 2 hts zgX6_share_X1_linked_130 rfl rfl rfl (by decide +kernel) ⟨(show 4 + 1 ≤ 6 by omega), (show 8 + (4 + 11) + 98 ≤ 121 by omega)⟩) (zSq (hK.sub (tys' := [(cI, .int), (cJ, .long), (cB, .byte)]) [0, 1, 2] rfl) (hP.sub (ws' := (lW bh br uh ug cI cJ cB (nI cc) nA mA aA (fun j => nI (fcA j)) fA (fun j => nI (mcA j)) mmA wA tcA g1A g2A nuA (fun j => nI (erA j)) reA (fun j => nI (liA j)) (fun j => nI (lcA j)) uk uc uo uy uw ut uf uq)) [3, 4, 5, 6, 7, 8, 9, 10, 11, 12, 13, 14, 15, 16, 17, 18, 19, 20, 21] rfl) hE) rfl rfl hl.1 rfl (lv_room (Nat.le_of_ble_eq_true rfl)) dX6_share_42 ⟨(show 0 + 0 ≤ 1 by omega), (show 0 + 0 ≤ 6 by omega)⟩) (fun r5 hw => ?_)
          have hw : (zSp r5 (fun k => k < 208)) := hw
          have w0r5 := hw
          refine lv_if_lt (tgt := 51) hx hb dX6_share_45 (by decide) (fun cp45 => ?_) (fun cp45 => ?_)
          · have hgcp45 : r5 < 0 := cp45
            obtain ⟨x6, ex6⟩ : ∃ y : Int32, y = (nI ux) + 1 := ⟨_, rfl⟩
            refine lv_iinc (v := x6) (lv' := [(4, .int x6), (0, .ref xh), (2, .ref bh), (3, .int gd)]) hx hb dX6_share_51 hl (k := 3) rfl (by rw [ex6]; rfl) (by decide) rfl (fun ls hl => ?_)
            obtain rfl : x6 = nI (ux + 1) := by rw [ex6]; exact nI_add (ux) 1
            refine lv_goto (tgt := 25) hx hb dX6_share_54 (by decide) ?_
            exact ih25 gd (ux + 1) ls (by omega) (by first | omega | assumption | trivial) (lv_sub hl [1, 2, 3, 0] rfl)
          · obtain ⟨k7, hBk7, hQk7, rfl⟩ := zSp.pos w0r5 cp45
            obtain ⟨x8, ex8⟩ : ∃ y : Int32, y = gd + 1 := ⟨_, rfl⟩
            refine lv_iinc (v := x8) (lv' := [(3, .int x8), (0, .ref xh), (2, .ref bh), (4, .int (nI ux))]) hx hb dX6_share_48 hl (k := 2) rfl (by rw [ex8]; rfl) (by decide) rfl (fun ls hl => ?_)
            obtain ⟨x9, ex9⟩ : ∃ y : Int32, y = (nI ux) + 1 := ⟨_, rfl⟩
            refine lv_iinc (v := x9) (lv' := [(4, .int x9), (3, .int x8), (0, .ref xh), (2, .ref bh)]) hx hb dX6_share_51 hl (k := 3) rfl (by rw [ex9]; rfl) (by decide) rfl (fun ls hl => ?_)
            obtain rfl : x9 = nI (ux + 1) := by rw [ex9]; exact nI_add (ux) 1
            refine lv_goto (tgt := 25) hx hb dX6_share_54 (by decide) ?_
            exact ih25 x8 (ux + 1) ls (by omega) (by first | omega | assumption | trivial) (lv_sub hl [2, 3, 1, 0] rfl)
    refine lv_iconst (v := 0) hx hb dX6_share_20 (by decide) ?_
    refine lv_istore_n (lv' := [(3, .int 0), (2, .ref bh), (0, .ref xh), (1, .int ib)]) hx hb dX6_share_21 rfl hl (by decide) rfl (fun ls hl => ?_)
    refine lv_iconst (v := 0) hx hb dX6_share_22 (by decide) ?_
    refine lv_istore (lv' := [(4, .int 0), (3, .int 0), (2, .ref bh), (0, .ref xh), (1, .int ib)]) hx hb dX6_share_23 hl (by decide) rfl (fun ls hl => ?_)
    exact J25 _ (0 : Int32) 0 ls (Nat.lt_succ_self _) (by first | omega | assumption | trivial) (lv_sub hl [3, 2, 1, 0] rfl)
