theorem zfC {dC : Nat → ClassId} {dI : Nat → Nat → Nat} {av : List Value} {sz : Nat} {ws : va_W} {tys : List (ClassId × FieldType)} {cI cJ cB : ClassId} {bn : Nat} {bf : Nat → Option Nat} : FrameBlind (va_Pc av (fun U => U.heap.size = sz ∧ va_P (dC, dI) vwCl ws U.heap ∧ va_K (dC, dI) vwCl tys U ∧ va_D (fun _ => True) ws ∧ zF U ∧ zBs (dC, dI) cI cJ cB bn bf U.heap)) := fun a U g mk q => ⟨q.1, q.2.1, q.2.2.1, va_K.moved (u := U) (U := U.calling g mk a) (Vm.Alike.refl U.vm) q.2.2.2.1, q.2.2.2.2.1, zF.same rfl q.2.2.2.2.2.1, q.2.2.2.2.2.2⟩
theorem z_cp1 {y u p q : va_W} : (y ++ (p ++ (u ++ q))).Perm (u ++ (y ++ (p ++ q))) := by
  refine List.Perm.trans (List.Perm.append_left y (List.perm_append_comm_assoc p u q)) ?_
  exact List.perm_append_comm_assoc y u (p ++ q)
theorem z_fl {a b : List va_W} {w : va_W} : (a ++ w :: b).flatten = a.flatten ++ (w ++ b.flatten) := by
  rw [List.flatten_append, List.flatten_cons]
theorem dX6_compile_0 : decode cX6_compile 0 = .ok (.aload_n 0, 1) := by decide +kernel
theorem dX6_compile_1 : decode cX6_compile 1 = .ok (.iload_n 1, 1) := by decide +kernel
theorem dX6_compile_2 : decode cX6_compile 2 = .ok (.invokevirtual 62, 3) := by decide +kernel
theorem dX6_compile_5 : decode cX6_compile 5 = .ok (.astore_n 3, 1) := by decide +kernel
theorem dX6_compile_6 : decode cX6_compile 6 = .ok (.aload_n 0, 1) := by decide +kernel
theorem dX6_compile_7 : decode cX6_compile 7 = .ok (.iload_n 2, 1) := by decide +kernel
theorem dX6_compile_8 : decode cX6_compile 8 = .ok (.invokevirtual 123, 3) := by decide +kernel
theorem dX6_compile_11 : decode cX6_compile 11 = .ok (.astore 4, 2) := by decide +kernel
theorem dX6_compile_13 : decode cX6_compile 13 = .ok (.aload_n 3, 1) := by decide +kernel
theorem dX6_compile_14 : decode cX6_compile 14 = .ok (.ifnull 8, 3) := by decide +kernel
theorem dX6_compile_17 : decode cX6_compile 17 = .ok (.aload 4, 2) := by decide +kernel
theorem dX6_compile_19 : decode cX6_compile 19 = .ok (.ifnonnull 6, 3) := by decide +kernel
theorem dX6_compile_22 : decode cX6_compile 22 = .ok (.bipush (-2), 2) := by decide +kernel
theorem dX6_compile_24 : decode cX6_compile 24 = .ok (.ireturn, 1) := by decide +kernel
theorem dX6_compile_25 : decode cX6_compile 25 = .ok (.aload 4, 2) := by decide +kernel
theorem dX6_compile_27 : decode cX6_compile 27 = .ok (.getfield 127, 3) := by decide +kernel
theorem dX6_compile_30 : decode cX6_compile 30 = .ok (.iconst 2, 1) := by decide +kernel
theorem dX6_compile_31 : decode cX6_compile 31 = .ok (.if_icmp .eq 6, 3) := by decide +kernel
theorem dX6_compile_34 : decode cX6_compile 34 = .ok (.bipush (-4), 2) := by decide +kernel
theorem dX6_compile_36 : decode cX6_compile 36 = .ok (.ireturn, 1) := by decide +kernel
theorem dX6_compile_37 : decode cX6_compile 37 = .ok (.aload_n 3, 1) := by decide +kernel
theorem dX6_compile_38 : decode cX6_compile 38 = .ok (.aload 4, 2) := by decide +kernel
theorem dX6_compile_40 : decode cX6_compile 40 = .ok (.invokestatic 130, 3) := by decide +kernel
theorem dX6_compile_43 : decode cX6_compile 43 = .ok (.istore 5, 2) := by decide +kernel
theorem dX6_compile_45 : decode cX6_compile 45 = .ok (.iload 5, 2) := by decide +kernel
theorem dX6_compile_47 : decode cX6_compile 47 = .ok (.ifCond .ge 6, 3) := by decide +kernel
theorem dX6_compile_50 : decode cX6_compile 50 = .ok (.iload 5, 2) := by decide +kernel
theorem dX6_compile_52 : decode cX6_compile 52 = .ok (.ireturn, 1) := by decide +kernel
theorem dX6_compile_53 : decode cX6_compile 53 = .ok (.aload 4, 2) := by decide +kernel
theorem dX6_compile_55 : decode cX6_compile 55 = .ok (.aload_n 3, 1) := by decide +kernel
theorem dX6_compile_56 : decode cX6_compile 56 = .ok (.iload 5, 2) := by decide +kernel
theorem dX6_compile_58 : decode cX6_compile 58 = .ok (.invokevirtual 134, 3) := by decide +kernel
theorem dX6_compile_61 : decode cX6_compile 61 = .ok (.putfield 137, 3) := by decide +kernel
theorem dX6_compile_64 : decode cX6_compile 64 = .ok (.aload 4, 2) := by decide +kernel
theorem dX6_compile_66 : decode cX6_compile 66 = .ok (.getfield 137, 3) := by decide +kernel
theorem dX6_compile_69 : decode cX6_compile 69 = .ok (.iconst (-1), 1) := by decide +kernel
theorem dX6_compile_70 : decode cX6_compile 70 = .ok (.if_icmp .ne 7, 3) := by decide +kernel
theorem dX6_compile_73 : decode cX6_compile 73 = .ok (.iconst 0, 1) := by decide +kernel
theorem dX6_compile_74 : decode cX6_compile 74 = .ok (.goto 4, 3) := by decide +kernel
theorem dX6_compile_77 : decode cX6_compile 77 = .ok (.iconst 1, 1) := by decide +kernel
theorem dX6_compile_78 : decode cX6_compile 78 = .ok (.ireturn, 1) := by decide +kernel
def zwX6_compile : List Cond := .code yX6_compile cX6_compile 6 (some .int) :: ([.fieldLink RX6 127 "LinkModels$Use" "kind" "I", .fieldLink RX6 137 "LinkModels$Use" "copy" "I", .methodLink RX6 62 yX6_buildAt, .instanceMethod yX6_buildAt, .selects RX6 yX6_buildAt yX6_buildAt, .initialized RX6, .code yX6_buildAt cX6_buildAt 2 (some (.object "LinkModels$Build")), .fieldLink RX6 23 "LinkModels" "buildCount" "I", .fieldLink RX6 19 "LinkModels" "builds" "[LLinkModels$Build;", .methodLink RX6 123 yX6_useAt, .instanceMethod yX6_useAt, .selects RX6 yX6_useAt yX6_useAt, .code yX6_useAt cX6_useAt 2 (some (.object "LinkModels$Use")), .fieldLink RX6 32 "LinkModels" "useCount" "I", .fieldLink RX6 28 "LinkModels" "uses" "[LLinkModels$Use;", .methodLink RX6 130 yX1_linked, .static yX1_linked, .initialized RX1, .code yX1_linked cX1_linked 4 (some .int), .fieldLink RX1 9 "LinkModels$Use" "caller" "I", .fieldLink RX1 21 "LinkModels$Use" "owner" "I", .fieldLink RX1 32 "LinkModels$Use" "kind" "I", .methodLink RX1 15 yX0_placeOf, .instanceMethod yX0_placeOf, .selects RX0 yX0_placeOf yX0_placeOf, .initialized RX0, .code yX0_placeOf cX0_placeOf 3 (some .int), .fieldLink RX0 61 "LinkModels$Build" "classCount" "I", .fieldLink RX0 11 "LinkModels$Build" "names" "[I", .methodLink RX1 24 yX0_errorAt, .instanceMethod yX0_errorAt, .selects RX0 yX0_errorAt yX0_errorAt, .code yX0_errorAt cX0_errorAt 2 (some .int), .fieldLink RX0 49 "LinkModels$Build" "errors" "[I", .methodLink RX1 39 yX5_asksField, .instanceMethod yX5_asksField, .selects RX5 yX5_asksField yX5_asksField, .initialized RX5, .code yX5_asksField cX5_asksField 1 (some .boolean), .fieldLink RX5 9 "LinkModels$Use" "kind" "I", .methodLink RX1 47 yX1_linkedMethod, .static yX1_linkedMethod, .code yX1_linkedMethod cX1_linkedMethod 5 (some .int), .static yX6_classOf, .fieldLink RX1 50 "LinkModels$Use" "wanted" "LLinkModels$Signature;", .methodLink RX1 67 yX0_has, .instanceMethod yX0_has, .selects RX0 yX0_has yX0_has, .code yX0_has cX0_has 3 (some .boolean), .fieldLink RX0 30 "LinkModels$Build" "memberMarks" "[I", .methodLink RX1 71 yX5_asksStatic, .instanceMethod yX5_asksStatic, .selects RX5 yX5_asksStatic yX5_asksStatic, .code yX5_asksStatic cX5_asksStatic 1 (some .boolean), .methodLink RX1 27 yX1_failed, .static yX1_failed, .code yX1_failed cX1_failed 1 (some .int), .code yX6_classOf cX6_classOf 1 (some .int), .methodLink RX1 80 yX0_methodFrom, .instanceMethod yX0_methodFrom, .selects RX0 yX0_methodFrom yX0_methodFrom, .code yX0_methodFrom cX0_methodFrom 7 (some .int), .fieldLink RX0 58 "LinkModels$Build" "lineCounts" "[I", .fieldLink RX0 55 "LinkModels$Build" "lines" "[I", .methodLink RX0 82 yX0_has, .methodLink RX0 94 yX0_methodIn, .instanceMethod yX0_methodIn, .selects RX0 yX0_methodIn yX0_methodIn, .code yX0_methodIn cX0_methodIn 5 (some .int), .fieldLink RX0 37 "LinkModels$Build" "typeCounts" "[I", .fieldLink RX0 71 "LinkModels$Signature" "typeCount" "I", .fieldLink RX0 40 "LinkModels$Build" "firsts" "[I", .fieldLink RX0 74 "LinkModels$Signature" "first" "I", .fieldLink RX0 43 "LinkModels$Build" "seconds" "[I", .fieldLink RX0 77 "LinkModels$Signature" "second" "I", .fieldLink RX0 27 "LinkModels$Build" "memberCounts" "[I", .fieldLink RX0 33 "LinkModels$Build" "words" "[J", .fieldLink RX0 65 "LinkModels$Signature" "word" "J", .methodLink RX0 90 yX0_isFace, .instanceMethod yX0_isFace, .selects RX0 yX0_isFace yX0_isFace, .code yX0_isFace cX0_isFace 2 (some .boolean), .fieldLink RX0 15 "LinkModels$Build" "classMarks" "[I", .methodLink RX1 84 yX1_foundInFaces, .static yX1_foundInFaces, .code yX1_foundInFaces cX1_foundInFaces 5 (some .int), .methodLink RX1 88 yX0_nearestFaces, .instanceMethod yX0_nearestFaces, .selects RX0 yX0_nearestFaces yX0_nearestFaces, .code yX0_nearestFaces cX0_nearestFaces 7 (some .int), .fieldLink RX0 52 "LinkModels$Build" "reached" "[I", .methodLink RX1 92 yX0_withBody, .instanceMethod yX0_withBody, .selects RX0 yX0_withBody yX0_withBody, .code yX0_withBody cX0_withBody 6 (some .int), .methodLink RX1 95 yJ6_bitCount_0f7a4, .static yJ6_bitCount_0f7a4, .initialized RJ6, .code yJ6_bitCount_0f7a4 cJ6_bitCount_0f7a4 1 (some .int), .constant RJ6 265 (1431655765), .constant RJ6 266 (858993459), .constant RJ6 267 (252645135), .methodLink RX1 100 yX0_firstMethodOf, .instanceMethod yX0_firstMethodOf, .selects RX0 yX0_firstMethodOf yX0_firstMethodOf, .code yX0_firstMethodOf cX0_firstMethodOf 6 (some .int), .methodLink RX1 77 yX0_isFace, .methodLink RX1 43 yX1_linkedField, .static yX1_linkedField, .code yX1_linkedField cX1_linkedField 6 (some .int), .fieldLink RX1 54 "LinkModels$Signature" "word" "J", .methodLink RX1 74 yX5_puts, .instanceMethod yX5_puts, .selects RX5 yX5_puts yX5_puts, .code yX5_puts cX5_puts 1 (some .boolean), .methodLink RX1 60 yX0_fieldFrom, .instanceMethod yX0_fieldFrom, .selects RX0 yX0_fieldFrom yX0_fieldFrom, .code yX0_fieldFrom cX0_fieldFrom 6 (some .int), .methodLink RX0 86 yX0_fieldIn, .instanceMethod yX0_fieldIn, .selects RX0 yX0_fieldIn yX0_fieldIn, .code yX0_fieldIn cX0_fieldIn 5 (some .int), .methodLink RX1 35 yX0_isWhole, .instanceMethod yX0_isWhole, .selects RX0 yX0_isWhole yX0_isWhole, .code yX0_isWhole cX0_isWhole 2 (some .boolean), .methodLink RX6 134 yX0_numberAt, .instanceMethod yX0_numberAt, .selects RX0 yX0_numberAt yX0_numberAt, .code yX0_numberAt cX0_numberAt 2 (some .int), .fieldLink RX0 46 "LinkModels$Build" "numbers" "[I"] ++ wsX50 ++ wsX60 ++ wsX00 ++ wsX30)
set_option maxRecDepth 100000 in
theorem zgX6_compile_X6_buildAt_62 : GoodIn zwX6_compile (wsV RX6 62 RX6 yX6_buildAt zwX6_buildAt) := goodIn_app (goodIn_r _ [3, 4, 5, 6] rfl (by decide +kernel)) (goodIn_app (goodIn_r _ [7, 8, 9] rfl (by decide +kernel)) (fun w hw => ⟨(List.mem_cons_of_mem _ (List.mem_append_left _ (List.mem_append_left _ (List.mem_append_right _ hw)))), good_of_word (List.all_eq_true.mp zgX6 w hw)⟩))
set_option maxRecDepth 100000 in
theorem zgX6_compile_X6_useAt_123 : GoodIn zwX6_compile (wsV RX6 123 RX6 yX6_useAt zwX6_useAt) := goodIn_app (goodIn_r _ [10, 11, 12, 6] rfl (by decide +kernel)) (goodIn_app (goodIn_r _ [13, 14, 15] rfl (by decide +kernel)) (fun w hw => ⟨(List.mem_cons_of_mem _ (List.mem_append_left _ (List.mem_append_left _ (List.mem_append_right _ hw)))), good_of_word (List.all_eq_true.mp zgX6 w hw)⟩))
set_option maxRecDepth 100000 in
theorem zgX6_compile_X1_linked_130 : GoodIn zwX6_compile (va_wsS RX6 130 yX1_linked zwX1_linked) := goodIn_app (goodIn_r _ [16, 17, 18] rfl (by decide +kernel)) (goodIn_app (goodIn_app (goodIn_app (goodIn_r _ [19, 20, 21, 22, 23, 24, 25, 26, 27, 28, 29, 30, 31, 32, 33, 34, 35, 36, 37, 38, 39, 40, 41, 42, 18, 43, 6, 44, 45, 46, 47, 48, 49, 50, 51, 52, 53, 54, 55, 56, 57, 58, 59, 60, 61, 62, 63, 64, 65, 66, 67, 68, 69, 70, 71, 72, 73, 74, 75, 76, 77, 78, 79, 80, 81, 82, 83, 84, 85, 86, 87, 88, 89, 90, 91, 92, 93, 94, 95, 96, 97, 98, 99, 100, 101, 102, 103, 104, 105, 106, 107, 108, 109, 110, 111, 112, 113, 114, 115, 116, 117, 118, 119, 120, 121, 122, 123, 124, 125, 126, 127] rfl (by decide +kernel)) (fun w hw => ⟨(List.mem_cons_of_mem _ (List.mem_append_left _ (List.mem_append_left _ (List.mem_append_left _ (List.mem_append_right _ hw))))), good_of_word (List.all_eq_true.mp zgX5 w hw)⟩)) (fun w hw => ⟨(List.mem_cons_of_mem _ (List.mem_append_left _ (List.mem_append_right _ hw))), good_of_word (List.all_eq_true.mp zgX0 w hw)⟩)) (fun w hw => ⟨(List.mem_cons_of_mem _ (List.mem_append_right _ hw)), good_of_word (List.all_eq_true.mp zgX3 w hw)⟩))
set_option maxRecDepth 100000 in
theorem zgX6_compile_X0_numberAt_134 : GoodIn zwX6_compile (wsV RX6 134 RX0 yX0_numberAt zwX0_numberAt) := goodIn_app (goodIn_r _ [128, 129, 130, 26] rfl (by decide +kernel)) (goodIn_app (goodIn_r _ [131, 132] rfl (by decide +kernel)) (fun w hw => ⟨(List.mem_cons_of_mem _ (List.mem_append_left _ (List.mem_append_right _ hw))), good_of_word (List.all_eq_true.mp zgX0 w hw)⟩))
set_option maxHeartbeats 4000000 in
set_option maxRecDepth 100000 in
theorem kX6_compile (l : Launch) (dC : Nat → ClassId) (dI : Nat → Nat → Nat) (xh : Nat) (tb : Nat) (xb : Nat) (xu : Nat) (rh : Nat) (cI : ClassId) (cJ : ClassId) (cB : ClassId) (cQ : ClassId) (cV : ClassId) (tn : Nat) (bn : Nat) (un : Nat) (bf : Nat → Option Nat) (wf : Nat → Option Nat) (ib iu : Int32) (Ul : List va_W) (hI : yWI tn bn un) (hUl : zUl cI cJ cB un wf Ul) (sz : Nat) : Met l yX6_compile zwX6_compile ({ frames := 5, cells := 0, slots := 0, locals := 121 }) (va_Pc [.ref xh, .int ib, .int iu] (fun U => U.heap.size = sz ∧ va_P (dC, dI) vwCl ((yW xh tb xb xu rh cI cJ cB cQ cV (nI tn) (nI bn) (nI un) bf wf) ++ Ul.flatten) U.heap ∧ va_K (dC, dI) vwCl [(cI, .int), (cJ, .long), (cB, .byte), (cQ, .object RX0), (cV, .object RX5)] U ∧ va_D (fun _ => True) ((yW xh tb xb xu rh cI cJ cB cQ cV (nI tn) (nI bn) (nI un) bf wf) ++ Ul.flatten) ∧ zF U ∧ zBs (dC, dI) cI cJ cB bn bf U.heap)) (va_Qi (fun (_ : Int32) (u : List va_W) => zUl cI cJ cB un wf u) (fun u t => zB dC dI (va_A ((yW xh tb xb xu rh cI cJ cB cQ cV (nI tn) (nI bn) (nI un) bf wf) ++ Ul.flatten) sz) ((yW xh tb xb xu rh cI cJ cB cQ cV (nI tn) (nI bn) (nI un) bf wf) ++ u.flatten) [(cI, .int), (cJ, .long), (cB, .byte), (cQ, .object RX0), (cV, .object RX5)] t) (va_A ((yW xh tb xb xu rh cI cJ cB cQ cV (nI tn) (nI bn) (nI un) bf wf) ++ Ul.flatten) sz)) 0 0 (va_A ((yW xh tb xb xu rh cI cJ cB cQ cV (nI tn) (nI bn) (nI un) bf wf) ++ Ul.flatten) sz) := by
  refine Met.ofW (cc := cX6_compile) (maxL := 6) (ret := (some .int)) (by decide) rfl ?_
  intro p e s m args below meth c s₁ B hml hv
  obtain ⟨rfl, hsz, hPa, hK, hD0, hE, hBs⟩ := hv
  subst hsz
  have hDa := hD0.self (sz := s.heap.size)
  generalize hAe : va_A ((yW xh tb xb xu rh cI cJ cB cQ cV (nI tn) (nI bn) (nI un) bf wf) ++ Ul.flatten) s.heap.size = A at hDa ⊢
  have hA : ∀ q : Nat, s.heap.size ≤ q → A q := fun q h => by rw [← hAe]; exact Or.inr h
  have hS : va_S A s.heap s.heap [] := va_S.rf
  obtain ⟨htn, hbn, hun⟩ := hI
  have hP := z_Pl hPa
  have hUs : zUs (dC, dI) cI cJ cB un wf s.heap := hUl.us (z_Pr hPa)
  have hx := B.exec
  have hb := B.bytes
  have hr := B.returns
  have hts := atoms_spec (ws := zwX6_compile) B.pre
  have hown : s.vm.findClass RX6 = some m.cls := findClass_of_methodNamed B.named
  have hlocks := B.notSynchronized
  have hiX5 : ∀ w ∈ wsX50, w ∈ zwX6_compile := (fun w hw => (List.mem_cons_of_mem _ (List.mem_append_left _ (List.mem_append_left _ (List.mem_append_left _ (List.mem_append_right _ hw))))))
  have hl := lv_entry ([.ref xh, .int ib, .int iu]) (n := 6) (Nat.le_of_ble_eq_true rfl)
  rw [lg_entry_eq]
  generalize (lg_sl ([.ref xh, .int ib, .int iu]) ++ List.replicate (6 - (lg_sl ([.ref xh, .int ib, .int iu])).length) Slot.unset).toArray = ls at hl ⊢
  have hl : lv_has ls 6 [(0, .ref xh), (1, .int ib), (2, .int iu)] := hl
  refine lv_aload_n hx hb dX6_compile_0 rfl (lv_at hl 0 rfl) ?_
  refine lv_iload_n hx hb dX6_compile_1 rfl (lv_at hl 1 rfl) ?_
  refine va_csq (W.runV (As := [.int ib]) (rest := []) ⟨hx, hb, hml, hown, hts⟩ (kX6_buildAt l dC dI xh tb xb xu rh cI cJ cB cQ cV tn bn un bf wf ⟨by omega, by omega, by omega⟩ ib) (cwV 1 hts zgX6_compile_X6_buildAt_62 rfl rfl rfl (by decide +kernel) ⟨(show 0 + 1 ≤ 5 by omega), (show 8 + (2 + 11) + 0 ≤ 121 by omega)⟩) (zVq (ci := 5) (q0 := 0) (q := (RX6, TX6, 7)) hK hP hE rfl rfl rfl) rfl rfl hl.1 rfl (lv_room (Nat.le_of_ble_eq_true rfl)) dX6_compile_2 ⟨(show 0 + 0 ≤ 0 by omega), (show 0 + 0 ≤ 0 by omega)⟩) (fun r1 hw => ?_)
  rcases hw with rfl | ⟨k2, hk2, rfl⟩
  · refine W.eq (g2 := F0 m 5 ls [.null]) rfl ?_
    refine lv_astore_nN (lv' := [(3, .null), (0, .ref xh), (1, .int ib), (2, .int iu)]) hx hb dX6_compile_5 rfl hl (by decide) rfl (fun ls hl => ?_)
    refine lv_aload_n hx hb dX6_compile_6 rfl (lv_at hl 1 rfl) ?_
    refine lv_iload_n hx hb dX6_compile_7 rfl (lv_at hl 3 rfl) ?_
    refine va_csq (W.runV (As := [.int iu]) (rest := []) ⟨hx, hb, hml, hown, hts⟩ (kX6_useAt l dC dI xh tb xb xu rh cI cJ cB cQ cV tn bn un bf wf ⟨by omega, by omega, by omega⟩ iu) (cwV 1 hts zgX6_compile_X6_useAt_123 rfl rfl rfl (by decide +kernel) ⟨(show 0 + 1 ≤ 5 by omega), (show 8 + (2 + 11) + 0 ≤ 121 by omega)⟩) (zVq (ci := 5) (q0 := 0) (q := (RX6, TX6, 7)) hK hP hE rfl rfl rfl) rfl rfl hl.1 rfl (lv_room (Nat.le_of_ble_eq_true rfl)) dX6_compile_8 ⟨(show 0 + 0 ≤ 0 by omega), (show 0 + 0 ≤ 0 by omega)⟩) (fun r3 hw => ?_)
    rcases hw with rfl | ⟨k4, hk4, rfl⟩
    · refine W.eq (g2 := F0 m 11 ls [.null]) rfl ?_
      refine lv_astoreN (lv' := [(4, .null), (3, .null), (0, .ref xh), (1, .int ib), (2, .int iu)]) hx hb dX6_compile_11 hl (by decide) rfl (fun ls hl => ?_)
      refine lv_aload_nN hx hb dX6_compile_13 rfl (lv_at hl 1 rfl) ?_
      refine lv_ifnullN (tgt := 22) hx hb dX6_compile_14 (by decide) ?_
      refine lv_bipush (v := (-2)) hx hb dX6_compile_22 (by decide) ?_
      have hP9 : va_P (dC, dI) vwCl ((yW xh tb xb xu rh cI cJ cB cQ cV (nI tn) (nI bn) (nI un) bf wf) ++ Ul.flatten) s.heap := by exact hPa
      have hD9 : va_D A ((yW xh tb xb xu rh cI cJ cB cQ cV (nI tn) (nI bn) (nI un) bf wf) ++ Ul.flatten) := by exact hDa
      exact W.iret (v := (-2 : Int32)) hx hb hr (fun t ht hW => ⟨⟨(-2 : Int32), Ul, rfl, hUl, by rw [ht]; exact hP9, va_K.moved hW.alike hK, hD9⟩, hS.F ht⟩) hS.2.2 dX6_compile_24
    · have hlk : k4 < Ul.length := by rw [hUl.1]; exact hk4
      obtain ⟨wk9, hwk9⟩ : ∃ w, Ul[k4]? = some w := ⟨_, List.getElem?_eq_getElem hlk⟩
      obtain ⟨uh, hf9, hc9⟩ := hUl.2 k4 wk9 hwk9
      obtain ⟨L1, L2, rfl, hlen⟩ := z_sp hwk9
      rw [z_fl] at hPa hDa
      obtain ⟨ug, uk, uc, uo, uy, uw, ut, uf, uq, rfl⟩ := hc9
      have hPu : va_P (dC, dI) vwCl (uW uh ug cI cJ cB uk uc uo uy uw ut uf uq) s.heap := z_Pl (z_Pr (z_Pr hPa))
      rw [hf9]
      refine W.eq (g2 := F0 m 11 ls [.ref uh]) rfl ?_
      have hP := hP.app hPu
      refine lv_astore (lv' := [(4, .ref uh), (3, .null), (0, .ref xh), (1, .int ib), (2, .int iu)]) hx hb dX6_compile_11 hl (by decide) rfl (fun ls hl => ?_)
      refine lv_aload_nN hx hb dX6_compile_13 rfl (lv_at hl 1 rfl) ?_
      refine lv_ifnullN (tgt := 22) hx hb dX6_compile_14 (by decide) ?_
      refine lv_bipush (v := (-2)) hx hb dX6_compile_22 (by decide) ?_
      have hP9 : va_P (dC, dI) vwCl ((yW xh tb xb xu rh cI cJ cB cQ cV (nI tn) (nI bn) (nI un) bf wf) ++ (L1 ++ (uW uh ug cI cJ cB uk uc uo uy uw ut uf uq) :: L2).flatten) s.heap := by rw [z_fl]; exact hPa
      have hD9 : va_D A ((yW xh tb xb xu rh cI cJ cB cQ cV (nI tn) (nI bn) (nI un) bf wf) ++ (L1 ++ (uW uh ug cI cJ cB uk uc uo uy uw ut uf uq) :: L2).flatten) := by rw [z_fl]; exact hDa
      exact W.iret (v := (-2 : Int32)) hx hb hr (fun t ht hW => ⟨⟨(-2 : Int32), (L1 ++ (uW uh ug cI cJ cB uk uc uo uy uw ut uf uq) :: L2), rfl, hUl, by rw [ht]; exact hP9, va_K.moved hW.alike hK, hD9⟩, hS.F ht⟩) hS.2.2 dX6_compile_24
  · obtain ⟨bh, wk2, hfk2, hck2, hPk2⟩ := hBs k2 hk2
    obtain ⟨br, cc, nA, mA, aA, fcA, fA, mcA, mmA, wA, tcA, g1A, g2A, nuA, erA, reA, liA, lcA, hIk2, rfl⟩ := hck2
    obtain ⟨hcc, hfcA, hmcA, herA, hliA, hlcA⟩ := hIk2
    rw [hfk2]
    refine W.eq (g2 := F0 m 5 ls [.ref bh]) rfl ?_
    have hP := hP.app hPk2
    refine lv_astore_n (lv' := [(3, .ref bh), (0, .ref xh), (1, .int ib), (2, .int iu)]) hx hb dX6_compile_5 rfl hl (by decide) rfl (fun ls hl => ?_)
    refine lv_aload_n hx hb dX6_compile_6 rfl (lv_at hl 1 rfl) ?_
    refine lv_iload_n hx hb dX6_compile_7 rfl (lv_at hl 3 rfl) ?_
    refine va_csq (W.runV (As := [.int iu]) (rest := []) ⟨hx, hb, hml, hown, hts⟩ (kX6_useAt l dC dI xh tb xb xu rh cI cJ cB cQ cV tn bn un bf wf ⟨by omega, by omega, by omega⟩ iu) (cwV 1 hts zgX6_compile_X6_useAt_123 rfl rfl rfl (by decide +kernel) ⟨(show 0 + 1 ≤ 5 by omega), (show 8 + (2 + 11) + 0 ≤ 121 by omega)⟩) (zVq (ci := 5) (q0 := 0) (q := (RX6, TX6, 7)) hK (hP.sub (ws' := (yW xh tb xb xu rh cI cJ cB cQ cV (nI tn) (nI bn) (nI un) bf wf)) [0, 1, 2] rfl) hE rfl rfl rfl) rfl rfl hl.1 rfl (lv_room (Nat.le_of_ble_eq_true rfl)) dX6_compile_8 ⟨(show 0 + 0 ≤ 0 by omega), (show 0 + 0 ≤ 0 by omega)⟩) (fun r5 hw => ?_)
    rcases hw with rfl | ⟨k6, hk6, rfl⟩
    · refine W.eq (g2 := F0 m 11 ls [.null]) rfl ?_
      refine lv_astoreN (lv' := [(4, .null), (3, .ref bh), (0, .ref xh), (1, .int ib), (2, .int iu)]) hx hb dX6_compile_11 hl (by decide) rfl (fun ls hl => ?_)
      refine lv_aload_n hx hb dX6_compile_13 rfl (lv_at hl 1 rfl) ?_
      refine lv_ifnull hx hb dX6_compile_14 ?_
      refine lv_aloadN hx hb dX6_compile_17 (lv_at hl 0 rfl) ?_
      refine lv_ifnonnullN hx hb dX6_compile_19 ?_
      refine lv_bipush (v := (-2)) hx hb dX6_compile_22 (by decide) ?_
      have hP9 : va_P (dC, dI) vwCl ((yW xh tb xb xu rh cI cJ cB cQ cV (nI tn) (nI bn) (nI un) bf wf) ++ Ul.flatten) s.heap := by exact hPa
      have hD9 : va_D A ((yW xh tb xb xu rh cI cJ cB cQ cV (nI tn) (nI bn) (nI un) bf wf) ++ Ul.flatten) := by exact hDa
      exact W.iret (v := (-2 : Int32)) hx hb hr (fun t ht hW => ⟨⟨(-2 : Int32), Ul, rfl, hUl, by rw [ht]; exact hP9, va_K.moved hW.alike hK, hD9⟩, hS.F ht⟩) hS.2.2 dX6_compile_24
    · have hlk : k6 < Ul.length := by rw [hUl.1]; exact hk6
      obtain ⟨wk9, hwk9⟩ : ∃ w, Ul[k6]? = some w := ⟨_, List.getElem?_eq_getElem hlk⟩
      obtain ⟨uh, hf9, hc9⟩ := hUl.2 k6 wk9 hwk9
      obtain ⟨L1, L2, rfl, hlen⟩ := z_sp hwk9
      rw [z_fl] at hPa hDa
      obtain ⟨ug, uk, uc, uo, uy, uw, ut, uf, uq, rfl⟩ := hc9
      have hPu : va_P (dC, dI) vwCl (uW uh ug cI cJ cB uk uc uo uy uw ut uf uq) s.heap := z_Pl (z_Pr (z_Pr hPa))
      rw [hf9]
      refine W.eq (g2 := F0 m 11 ls [.ref uh]) rfl ?_
      have hP := hP.app hPu
      refine lv_astore (lv' := [(4, .ref uh), (3, .ref bh), (0, .ref xh), (1, .int ib), (2, .int iu)]) hx hb dX6_compile_11 hl (by decide) rfl (fun ls hl => ?_)
      refine lv_aload_n hx hb dX6_compile_13 rfl (lv_at hl 1 rfl) ?_
      refine lv_ifnull hx hb dX6_compile_14 ?_
      refine lv_aload hx hb dX6_compile_17 (lv_at hl 0 rfl) ?_
      refine lv_ifnonnull (tgt := 25) hx hb dX6_compile_19 (by decide) ?_
      refine lv_aload hx hb dX6_compile_25 (lv_at hl 0 rfl) ?_
      refine va_get (D := (dC, dI)) (ci := 4) (v := .int uk) (C := RX5) (T := TX5) (N := 5) hx hb hts hiX5 hown hK hP 20 rfl rfl 0 (by decide) (hts (.fieldLink RX6 127 "LinkModels$Use" "kind" "I") (by decide +kernel)) (fun _ h9 => h9) rfl dX6_compile_27 ?_
      refine lv_iconst (v := 2) hx hb dX6_compile_30 (by decide) ?_
      refine lv_icmp_eq (tgt := 37) hx hb dX6_compile_31 (by decide) (fun cp31 => ?_) (fun cp31 => ?_)
      · refine lv_aload_n hx hb dX6_compile_37 rfl (lv_at hl 1 rfl) ?_
        refine lv_aload hx hb dX6_compile_38 (lv_at hl 0 rfl) ?_
        refine vp_callSi (W.runS (As := [.ref bh, .ref uh]) (rest := []) ⟨hx, hb, hml, hown, hts⟩ (kX1_linked l dC dI bh br uh ug cI cJ cB cc nA mA aA fcA fA mcA mmA wA tcA g1A g2A nuA erA reA liA lcA uk uc uo uy uw ut uf uq ⟨by omega, hfcA, hmcA, herA, hliA, hlcA⟩) (va_cwS 2 hts zgX6_compile_X1_linked_130 rfl rfl rfl (by decide +kernel) ⟨(show 4 + 1 ≤ 5 by omega), (show 8 + (4 + 11) + 98 ≤ 121 by omega)⟩) (zSq (hK.sub (tys' := [(cI, .int), (cJ, .long), (cB, .byte)]) [0, 1, 2] rfl) (hP.sub (ws' := (lW bh br uh ug cI cJ cB (nI cc) nA mA aA (fun j => nI (fcA j)) fA (fun j => nI (mcA j)) mmA wA tcA g1A g2A nuA (fun j => nI (erA j)) reA (fun j => nI (liA j)) (fun j => nI (lcA j)) uk uc uo uy uw ut uf uq)) [3, 4, 5, 6, 7, 8, 9, 10, 11, 12, 13, 14, 15, 16, 17, 18, 19, 20, 21] rfl) hE) rfl rfl hl.1 rfl (lv_room (Nat.le_of_ble_eq_true rfl)) dX6_compile_40 ⟨(show 0 + 0 ≤ 0 by omega), (show 0 + 0 ≤ 0 by omega)⟩) (fun r7 hw => ?_)
        have hw : (zSp r7 (fun k => k < 208)) := hw
        have w0r7 := hw
        refine lv_istore (lv' := [(5, .int r7), (4, .ref uh), (3, .ref bh), (0, .ref xh), (1, .int ib), (2, .int iu)]) hx hb dX6_compile_43 hl (by decide) rfl (fun ls hl => ?_)
        refine lv_iload hx hb dX6_compile_45 (lv_at hl 0 rfl) ?_
        refine lv_if_ge (tgt := 53) hx hb dX6_compile_47 (by decide) (fun cp47 => ?_) (fun cp47 => ?_)
        · obtain ⟨k8, hBk8, hQk8, rfl⟩ := zSp.pos' w0r7 cp47
          refine lv_aload hx hb dX6_compile_53 (lv_at hl 1 rfl) ?_
          refine lv_aload_n hx hb dX6_compile_55 rfl (lv_at hl 2 rfl) ?_
          refine lv_iload hx hb dX6_compile_56 (lv_at hl 0 rfl) ?_
          refine vp_callSi (W.runV (As := [.int (nI k8)]) (rest := [.ref uh]) ⟨hx, hb, hml, hown, hts⟩ (kX0_numberAt l dC dI bh br cI cJ cB cc nA mA aA fcA fA mcA mmA wA tcA g1A g2A nuA erA reA liA lcA ⟨by omega, hfcA, hmcA, herA, hliA, hlcA⟩ k8 (by first | omega | assumption | trivial)) (cwV 1 hts zgX6_compile_X0_numberAt_134 rfl rfl rfl (by decide +kernel) ⟨(show 0 + 1 ≤ 5 by omega), (show 8 + (2 + 11) + 0 ≤ 121 by omega)⟩) (zVq (ci := 0) (q0 := 0) (q := (RX0, TX0, 17)) (hK.sub (tys' := [(cI, .int), (cJ, .long), (cB, .byte)]) [0, 1, 2] rfl) (hP.sub (ws' := (bW bh br cI cJ cB (nI cc) nA mA aA (fun j => nI (fcA j)) fA (fun j => nI (mcA j)) mmA wA tcA g1A g2A nuA (fun j => nI (erA j)) reA (fun j => nI (liA j)) (fun j => nI (lcA j)))) [3, 4, 5, 6, 7, 8, 9, 10, 11, 12, 13, 14, 15, 16, 17, 18, 19] rfl) hE rfl rfl rfl) rfl rfl hl.1 rfl (lv_room (Nat.le_of_ble_eq_true rfl)) dX6_compile_58 ⟨(show 0 + 0 ≤ 0 by omega), (show 0 + 0 ≤ 0 by omega)⟩) (fun r9 hw => ?_)
          have hw : (True) := hw
          have w0r9 := hw
          have hP : va_P (dC, dI) vwCl ((uW uh ug cI cJ cB uk uc uo uy uw ut uf uq) ++ ((yW xh tb xb xu rh cI cJ cB cQ cV (nI tn) (nI bn) (nI un) bf wf) ++ (L1.flatten ++ L2.flatten))) s.heap := z_Pp z_cp1 hPa
          have hD : va_D A ((uW uh ug cI cJ cB uk uc uo uy uw ut uf uq) ++ ((yW xh tb xb xu rh cI cJ cB cQ cV (nI tn) (nI bn) (nI un) bf wf) ++ (L1.flatten ++ L2.flatten))) := z_Dp z_cp1 hDa
          refine va_put (D := (dC, dI)) (ci := 4) (v := .int r9) (ty := (.int)) (C := RX5) (T := TX5) (N := 5) hx hb hts hiX5 tyX5 tyX5_ok nmX5 hown hK hP hD hS 0 rfl rfl 4 (by decide) (hts (.fieldLink RX6 137 "LinkModels$Use" "copy" "I") (by decide +kernel)) (fun _ h9 => h9) rfl (by decide +kernel) rfl rfl (Nat.le_of_ble_eq_true rfl) dX6_compile_61 (fun H locs hP hD hS => ?_)
          have hP : va_P (dC, dI) vwCl ((uW uh ug cI cJ cB uk uc uo r9 uw ut uf uq) ++ ((yW xh tb xb xu rh cI cJ cB cQ cV (nI tn) (nI bn) (nI un) bf wf) ++ (L1.flatten ++ L2.flatten))) H := hP
          have hD : va_D A ((uW uh ug cI cJ cB uk uc uo r9 uw ut uf uq) ++ ((yW xh tb xb xu rh cI cJ cB cQ cV (nI tn) (nI bn) (nI un) bf wf) ++ (L1.flatten ++ L2.flatten))) := hD
          refine lv_aload hx hb dX6_compile_64 (lv_at hl 1 rfl) ?_
          refine va_get (D := (dC, dI)) (ci := 4) (v := .int r9) (C := RX5) (T := TX5) (N := 5) hx hb hts hiX5 hown hK hP 0 rfl rfl 4 (by decide) (hts (.fieldLink RX6 137 "LinkModels$Use" "copy" "I") (by decide +kernel)) (fun _ h9 => h9) rfl dX6_compile_66 ?_
          refine lv_iconst (v := (-1)) hx hb dX6_compile_69 (by decide) ?_
          refine lv_icmp_ne (tgt := 77) hx hb dX6_compile_70 (by decide) (fun cp70 => ?_) (fun cp70 => ?_)
          · refine lv_iconst (v := 1) hx hb dX6_compile_77 (by decide) ?_
            have hP9 : va_P (dC, dI) vwCl ((yW xh tb xb xu rh cI cJ cB cQ cV (nI tn) (nI bn) (nI un) bf wf) ++ (L1 ++ (uW uh ug cI cJ cB uk uc uo r9 uw ut uf uq) :: L2).flatten) H := by rw [z_fl]; exact z_Pp z_cp1.symm hP
            have hD9 : va_D A ((yW xh tb xb xu rh cI cJ cB cQ cV (nI tn) (nI bn) (nI un) bf wf) ++ (L1 ++ (uW uh ug cI cJ cB uk uc uo r9 uw ut uf uq) :: L2).flatten) := by rw [z_fl]; exact z_Dp z_cp1.symm hD
            exact W.iret (v := (1 : Int32)) hx hb hr (fun t ht hW => ⟨⟨(1 : Int32), (L1 ++ (uW uh ug cI cJ cB uk uc uo r9 uw ut uf uq) :: L2), rfl, (zUl.set hUl (by rw [hlen]; exact hf9) ⟨ug, uk, uc, uo, r9, uw, ut, uf, uq, rfl⟩), by rw [ht]; exact hP9, va_K.moved hW.alike hK, hD9⟩, hS.F ht⟩) hS.2.2 dX6_compile_78
          · refine lv_iconst (v := 0) hx hb dX6_compile_73 (by decide) ?_
            refine lv_goto (tgt := 78) hx hb dX6_compile_74 (by decide) ?_
            have hP9 : va_P (dC, dI) vwCl ((yW xh tb xb xu rh cI cJ cB cQ cV (nI tn) (nI bn) (nI un) bf wf) ++ (L1 ++ (uW uh ug cI cJ cB uk uc uo r9 uw ut uf uq) :: L2).flatten) H := by rw [z_fl]; exact z_Pp z_cp1.symm hP
            have hD9 : va_D A ((yW xh tb xb xu rh cI cJ cB cQ cV (nI tn) (nI bn) (nI un) bf wf) ++ (L1 ++ (uW uh ug cI cJ cB uk uc uo r9 uw ut uf uq) :: L2).flatten) := by rw [z_fl]; exact z_Dp z_cp1.symm hD
            exact W.iret (v := (0 : Int32)) hx hb hr (fun t ht hW => ⟨⟨(0 : Int32), (L1 ++ (uW uh ug cI cJ cB uk uc uo r9 uw ut uf uq) :: L2), rfl, (zUl.set hUl (by rw [hlen]; exact hf9) ⟨ug, uk, uc, uo, r9, uw, ut, uf, uq, rfl⟩), by rw [ht]; exact hP9, va_K.moved hW.alike hK, hD9⟩, hS.F ht⟩) hS.2.2 dX6_compile_78
        · have hgcp47 : r7 < 0 := Int32.not_le.mp cp47
          refine lv_iload hx hb dX6_compile_50 (lv_at hl 0 rfl) ?_
          have hP9 : va_P (dC, dI) vwCl ((yW xh tb xb xu rh cI cJ cB cQ cV (nI tn) (nI bn) (nI un) bf wf) ++ (L1 ++ (uW uh ug cI cJ cB uk uc uo uy uw ut uf uq) :: L2).flatten) s.heap := by rw [z_fl]; exact hPa
          have hD9 : va_D A ((yW xh tb xb xu rh cI cJ cB cQ cV (nI tn) (nI bn) (nI un) bf wf) ++ (L1 ++ (uW uh ug cI cJ cB uk uc uo uy uw ut uf uq) :: L2).flatten) := by rw [z_fl]; exact hDa
          exact W.iret (v := r7) hx hb hr (fun t ht hW => ⟨⟨r7, (L1 ++ (uW uh ug cI cJ cB uk uc uo uy uw ut uf uq) :: L2), rfl, hUl, by rw [ht]; exact hP9, va_K.moved hW.alike hK, hD9⟩, hS.F ht⟩) hS.2.2 dX6_compile_52
      · refine lv_bipush (v := (-4)) hx hb dX6_compile_34 (by decide) ?_
        have hP9 : va_P (dC, dI) vwCl ((yW xh tb xb xu rh cI cJ cB cQ cV (nI tn) (nI bn) (nI un) bf wf) ++ (L1 ++ (uW uh ug cI cJ cB uk uc uo uy uw ut uf uq) :: L2).flatten) s.heap := by rw [z_fl]; exact hPa
        have hD9 : va_D A ((yW xh tb xb xu rh cI cJ cB cQ cV (nI tn) (nI bn) (nI un) bf wf) ++ (L1 ++ (uW uh ug cI cJ cB uk uc uo uy uw ut uf uq) :: L2).flatten) := by rw [z_fl]; exact hDa
        exact W.iret (v := (-4 : Int32)) hx hb hr (fun t ht hW => ⟨⟨(-4 : Int32), (L1 ++ (uW uh ug cI cJ cB uk uc uo uy uw ut uf uq) :: L2), rfl, hUl, by rw [ht]; exact hP9, va_K.moved hW.alike hK, hD9⟩, hS.F ht⟩) hS.2.2 dX6_compile_36
