theorem dX1_foundInFaces_0 : decode cX1_foundInFaces 0 = .ok (.aload_n 0, 1) := by decide +kernel
theorem dX1_foundInFaces_1 : decode cX1_foundInFaces 1 = .ok (.iload_n 2, 1) := by decide +kernel
theorem dX1_foundInFaces_2 : decode cX1_foundInFaces 2 = .ok (.aload_n 1, 1) := by decide +kernel
theorem dX1_foundInFaces_3 : decode cX1_foundInFaces 3 = .ok (.invokevirtual 88, 3) := by decide +kernel
theorem dX1_foundInFaces_6 : decode cX1_foundInFaces 6 = .ok (.istore_n 3, 1) := by decide +kernel
theorem dX1_foundInFaces_7 : decode cX1_foundInFaces 7 = .ok (.aload_n 0, 1) := by decide +kernel
theorem dX1_foundInFaces_8 : decode cX1_foundInFaces 8 = .ok (.iload_n 3, 1) := by decide +kernel
theorem dX1_foundInFaces_9 : decode cX1_foundInFaces 9 = .ok (.aload_n 1, 1) := by decide +kernel
theorem dX1_foundInFaces_10 : decode cX1_foundInFaces 10 = .ok (.invokevirtual 92, 3) := by decide +kernel
theorem dX1_foundInFaces_13 : decode cX1_foundInFaces 13 = .ok (.istore 4, 2) := by decide +kernel
theorem dX1_foundInFaces_15 : decode cX1_foundInFaces 15 = .ok (.aload_n 0, 1) := by decide +kernel
theorem dX1_foundInFaces_16 : decode cX1_foundInFaces 16 = .ok (.iload 4, 2) := by decide +kernel
theorem dX1_foundInFaces_18 : decode cX1_foundInFaces 18 = .ok (.invokestatic 95, 3) := by decide +kernel
theorem dX1_foundInFaces_21 : decode cX1_foundInFaces 21 = .ok (.iconst 1, 1) := by decide +kernel
theorem dX1_foundInFaces_22 : decode cX1_foundInFaces 22 = .ok (.if_icmp .ne 8, 3) := by decide +kernel
theorem dX1_foundInFaces_25 : decode cX1_foundInFaces 25 = .ok (.iload 4, 2) := by decide +kernel
theorem dX1_foundInFaces_27 : decode cX1_foundInFaces 27 = .ok (.goto 4, 3) := by decide +kernel
theorem dX1_foundInFaces_30 : decode cX1_foundInFaces 30 = .ok (.iload_n 3, 1) := by decide +kernel
theorem dX1_foundInFaces_31 : decode cX1_foundInFaces 31 = .ok (.iload_n 2, 1) := by decide +kernel
theorem dX1_foundInFaces_32 : decode cX1_foundInFaces 32 = .ok (.aload_n 1, 1) := by decide +kernel
theorem dX1_foundInFaces_33 : decode cX1_foundInFaces 33 = .ok (.invokevirtual 100, 3) := by decide +kernel
theorem dX1_foundInFaces_36 : decode cX1_foundInFaces 36 = .ok (.ireturn, 1) := by decide +kernel
def zwX1_foundInFaces : List Cond := .code yX1_foundInFaces cX1_foundInFaces 5 (some .int) :: ([.methodLink RX1 88 yX0_nearestFaces, .instanceMethod yX0_nearestFaces, .selects RX0 yX0_nearestFaces yX0_nearestFaces, .initialized RX0, .code yX0_nearestFaces cX0_nearestFaces 7 (some .int), .fieldLink RX0 61 "LinkModels$Build" "classCount" "I", .fieldLink RX0 52 "LinkModels$Build" "reached" "[I", .fieldLink RX0 58 "LinkModels$Build" "lineCounts" "[I", .fieldLink RX0 55 "LinkModels$Build" "lines" "[I", .methodLink RX0 82 yX0_has, .instanceMethod yX0_has, .selects RX0 yX0_has yX0_has, .code yX0_has cX0_has 3 (some .boolean), .fieldLink RX0 30 "LinkModels$Build" "memberMarks" "[I", .methodLink RX0 90 yX0_isFace, .instanceMethod yX0_isFace, .selects RX0 yX0_isFace yX0_isFace, .code yX0_isFace cX0_isFace 2 (some .boolean), .fieldLink RX0 15 "LinkModels$Build" "classMarks" "[I", .methodLink RX0 94 yX0_methodIn, .instanceMethod yX0_methodIn, .selects RX0 yX0_methodIn yX0_methodIn, .code yX0_methodIn cX0_methodIn 5 (some .int), .fieldLink RX0 37 "LinkModels$Build" "typeCounts" "[I", .fieldLink RX0 71 "LinkModels$Signature" "typeCount" "I", .fieldLink RX0 40 "LinkModels$Build" "firsts" "[I", .fieldLink RX0 74 "LinkModels$Signature" "first" "I", .fieldLink RX0 43 "LinkModels$Build" "seconds" "[I", .fieldLink RX0 77 "LinkModels$Signature" "second" "I", .fieldLink RX0 27 "LinkModels$Build" "memberCounts" "[I", .fieldLink RX0 33 "LinkModels$Build" "words" "[J", .fieldLink RX0 65 "LinkModels$Signature" "word" "J", .methodLink RX1 92 yX0_withBody, .instanceMethod yX0_withBody, .selects RX0 yX0_withBody yX0_withBody, .code yX0_withBody cX0_withBody 6 (some .int), .methodLink RX1 95 yJ6_bitCount_0f7a4, .static yJ6_bitCount_0f7a4, .initialized RJ6, .code yJ6_bitCount_0f7a4 cJ6_bitCount_0f7a4 1 (some .int), .constant RJ6 265 (1431655765), .constant RJ6 266 (858993459), .constant RJ6 267 (252645135), .methodLink RX1 100 yX0_firstMethodOf, .instanceMethod yX0_firstMethodOf, .selects RX0 yX0_firstMethodOf yX0_firstMethodOf, .code yX0_firstMethodOf cX0_firstMethodOf 6 (some .int)] ++ wsX00 ++ wsX30)
theorem zgX1_foundInFaces_X0_nearestFaces_88 : GoodIn zwX1_foundInFaces (wsV RX1 88 RX0 yX0_nearestFaces zwX0_nearestFaces) := goodIn_app (goodIn_r _ [1, 2, 3, 4] rfl (by decide +kernel)) (goodIn_app (goodIn_app (goodIn_r _ [5, 6, 7, 8, 9, 10, 11, 12, 4, 13, 14, 15, 16, 17, 18, 19, 20, 21, 22, 23, 24, 25, 26, 27, 28, 29, 30, 31, 32] rfl (by decide +kernel)) (fun w hw => ⟨(List.mem_cons_of_mem _ (List.mem_append_left _ (List.mem_append_right _ hw))), good_of_word (List.all_eq_true.mp zgX0 w hw)⟩)) (fun w hw => ⟨(List.mem_cons_of_mem _ (List.mem_append_right _ hw)), good_of_word (List.all_eq_true.mp zgX3 w hw)⟩))
theorem zgX1_foundInFaces_X0_withBody_92 : GoodIn zwX1_foundInFaces (wsV RX1 92 RX0 yX0_withBody zwX0_withBody) := goodIn_app (goodIn_r _ [33, 34, 35, 4] rfl (by decide +kernel)) (goodIn_app (goodIn_app (goodIn_r _ [36, 6, 10, 11, 12, 4, 13, 14, 20, 21, 22, 23, 24, 25, 26, 27, 28, 29, 30, 31, 32] rfl (by decide +kernel)) (fun w hw => ⟨(List.mem_cons_of_mem _ (List.mem_append_left _ (List.mem_append_right _ hw))), good_of_word (List.all_eq_true.mp zgX0 w hw)⟩)) (fun w hw => ⟨(List.mem_cons_of_mem _ (List.mem_append_right _ hw)), good_of_word (List.all_eq_true.mp zgX3 w hw)⟩))
theorem zgX1_foundInFaces_J6_bitCount_0f7a4_95 : GoodIn zwX1_foundInFaces (va_wsS RX1 95 yJ6_bitCount_0f7a4 zwJ6_bitCount_0f7a4) := goodIn_app (goodIn_r _ [37, 38, 39] rfl (by decide +kernel)) (goodIn_r _ [40, 41, 42, 43] rfl (by decide +kernel))
theorem zgX1_foundInFaces_X0_firstMethodOf_100 : GoodIn zwX1_foundInFaces (wsV RX1 100 RX0 yX0_firstMethodOf zwX0_firstMethodOf) := goodIn_app (goodIn_r _ [44, 45, 46, 4] rfl (by decide +kernel)) (goodIn_app (goodIn_app (goodIn_r _ [47, 8, 9, 20, 21, 22, 4, 23, 24, 25, 26, 27, 28, 29, 30, 31, 32, 14] rfl (by decide +kernel)) (fun w hw => ⟨(List.mem_cons_of_mem _ (List.mem_append_left _ (List.mem_append_right _ hw))), good_of_word (List.all_eq_true.mp zgX0 w hw)⟩)) (fun w hw => ⟨(List.mem_cons_of_mem _ (List.mem_append_right _ hw)), good_of_word (List.all_eq_true.mp zgX3 w hw)⟩))
set_option maxHeartbeats 4000000 in
set_option maxRecDepth 100000 in
theorem kX1_foundInFaces (l : Launch) (dC : Nat → ClassId) (dI : Nat → Nat → Nat) (bh : Nat) (br : Nat → Nat) (sg : Nat) (cI : ClassId) (cJ : ClassId) (cB : ClassId) (cc : Nat) (nA : Nat → Int32) (mA : Nat → Int32) (aA : Nat → Int32) (fcA : Nat → Nat) (fA : Nat → Int32) (mcA : Nat → Nat) (mmA : Nat → Int32) (wA : Nat → Int64) (tcA : Nat → Int32) (g1A : Nat → Int32) (g2A : Nat → Int32) (nuA : Nat → Int32) (erA : Nat → Nat) (reA : Nat → Int32) (liA : Nat → Nat) (lcA : Nat → Nat) (sw : Int64) (st : Int32) (sf : Int32) (sq : Int32) (hI : bsWI cc fcA mcA erA liA lcA) (ow : Nat) (hp0 : ow < 16) : Met l yX1_foundInFaces zwX1_foundInFaces ({ frames := 2, cells := 0, slots := 0, locals := 50 }) (zPq dC dI [.ref bh, .ref sg, .int (nI ow)] (bsW bh br sg cI cJ cB (nI cc) nA mA aA (fun j => nI (fcA j)) fA (fun j => nI (mcA j)) mmA wA tcA g1A g2A nuA (fun j => nI (erA j)) reA (fun j => nI (liA j)) (fun j => nI (lcA j)) sw st sf sq) [(cI, .int), (cJ, .long), (cB, .byte)]) (vp_Si (fun r => (zM r (fun k => k < 208)))) 0 0 (fun _ => False) := by
  refine Met.ofW (cc := cX1_foundInFaces) (maxL := 5) (ret := (some .int)) (by decide) rfl ?_
  intro p e s m args below meth c s₁ B hml hv
  obtain ⟨rfl, hP, hK, hE⟩ := hv
  have hx := B.exec
  have hb := B.bytes
  have hr := B.returns
  have hts := atoms_spec (ws := zwX1_foundInFaces) B.pre
  have hown : s.vm.findClass RX1 = some m.cls := findClass_of_methodNamed B.named
  obtain ⟨hcc, hfcA, hmcA, herA, hliA, hlcA⟩ := hI
  have hl := lv_entry ([.ref bh, .ref sg, .int (nI ow)]) (n := 5) (Nat.le_of_ble_eq_true rfl)
  rw [lg_entry_eq]
  generalize (lg_sl ([.ref bh, .ref sg, .int (nI ow)]) ++ List.replicate (5 - (lg_sl ([.ref bh, .ref sg, .int (nI ow)])).length) Slot.unset).toArray = ls at hl ⊢
  have hl : lv_has ls 5 [(0, .ref bh), (1, .ref sg), (2, .int (nI ow))] := hl
  refine lv_aload_n hx hb dX1_foundInFaces_0 rfl (lv_at hl 0 rfl) ?_
  refine lv_iload_n hx hb dX1_foundInFaces_1 rfl (lv_at hl 2 rfl) ?_
  refine lv_aload_n hx hb dX1_foundInFaces_2 rfl (lv_at hl 1 rfl) ?_
  refine vp_callSi (W.runV (As := [.int (nI ow), .ref sg]) (rest := []) ⟨hx, hb, hml, hown, hts⟩ (kX0_nearestFaces l dC dI bh br sg cI cJ cB cc nA mA aA fcA fA mcA mmA wA tcA g1A g2A nuA erA reA liA lcA sw st sf sq ⟨by omega, hfcA, hmcA, herA, hliA, hlcA⟩ ow (by first | omega | assumption | trivial)) (cwV 2 hts zgX1_foundInFaces_X0_nearestFaces_88 rfl rfl rfl (by decide +kernel) ⟨(show 1 + 1 ≤ 2 by omega), (show 8 + (7 + 11) + 24 ≤ 50 by omega)⟩) (zVq (ci := 0) (q0 := 0) (q := (RX0, TX0, 17)) hK hP hE rfl rfl rfl) rfl rfl hl.1 rfl (lv_room (Nat.le_of_ble_eq_true rfl)) dX1_foundInFaces_3 ⟨(show 0 + 0 ≤ 0 by omega), (show 0 + 0 ≤ 0 by omega)⟩) (fun r1 hw => ?_)
  have hw : (True) := hw
  have w0r1 := hw
  refine lv_istore_n (lv' := [(3, .int r1), (0, .ref bh), (1, .ref sg), (2, .int (nI ow))]) hx hb dX1_foundInFaces_6 rfl hl (by decide) rfl (fun ls hl => ?_)
  refine lv_aload_n hx hb dX1_foundInFaces_7 rfl (lv_at hl 1 rfl) ?_
  refine lv_iload_n hx hb dX1_foundInFaces_8 rfl (lv_at hl 0 rfl) ?_
  refine lv_aload_n hx hb dX1_foundInFaces_9 rfl (lv_at hl 2 rfl) ?_
  refine vp_callSi (W.runV (As := [.int r1, .ref sg]) (rest := []) ⟨hx, hb, hml, hown, hts⟩ (kX0_withBody l dC dI bh br sg cI cJ cB cc nA mA aA fcA fA mcA mmA wA tcA g1A g2A nuA erA reA liA lcA sw st sf sq ⟨by omega, hfcA, hmcA, herA, hliA, hlcA⟩ r1) (cwV 2 hts zgX1_foundInFaces_X0_withBody_92 rfl rfl rfl (by decide +kernel) ⟨(show 1 + 1 ≤ 2 by omega), (show 8 + (6 + 11) + 24 ≤ 50 by omega)⟩) (zVq (ci := 0) (q0 := 0) (q := (RX0, TX0, 17)) hK hP hE rfl rfl rfl) rfl rfl hl.1 rfl (lv_room (Nat.le_of_ble_eq_true rfl)) dX1_foundInFaces_10 ⟨(show 0 + 0 ≤ 0 by omega), (show 0 + 0 ≤ 0 by omega)⟩) (fun r2 hw => ?_)
  have hw : (True) := hw
  have w0r2 := hw
  refine lv_istore (lv' := [(4, .int r2), (3, .int r1), (0, .ref bh), (1, .ref sg), (2, .int (nI ow))]) hx hb dX1_foundInFaces_13 hl (by decide) rfl (fun ls hl => ?_)
  refine lv_aload_n hx hb dX1_foundInFaces_15 rfl (lv_at hl 2 rfl) ?_
  refine lv_iload hx hb dX1_foundInFaces_16 (lv_at hl 0 rfl) ?_
  refine vp_callSi (W.runS (As := [.int r2]) (rest := [.ref bh]) ⟨hx, hb, hml, hown, hts⟩ (kJ6_bitCount_0f7a4 l dC dI   r2) (va_cwS 1 hts zgX1_foundInFaces_J6_bitCount_0f7a4_95 rfl rfl rfl (by decide +kernel) ⟨(show 0 + 1 ≤ 2 by omega), (show 8 + (1 + 11) + 0 ≤ 50 by omega)⟩) (zSq (hK.sub (tys' := []) [] rfl) (hP.sub (ws' := ([] : va_W)) [] rfl) hE) rfl rfl hl.1 rfl (lv_room (Nat.le_of_ble_eq_true rfl)) dX1_foundInFaces_18 ⟨(show 0 + 0 ≤ 0 by omega), (show 0 + 0 ≤ 0 by omega)⟩) (fun r3 hw => ?_)
  have hw : (True) := hw
  have w0r3 := hw
  refine lv_iconst (v := 1) hx hb dX1_foundInFaces_21 (by decide) ?_
  refine lv_icmp_ne (tgt := 30) hx hb dX1_foundInFaces_22 (by decide) (fun cp22 => ?_) (fun cp22 => ?_)
  · refine lv_iload_n hx hb dX1_foundInFaces_30 rfl (lv_at hl 1 rfl) ?_
    refine lv_iload_n hx hb dX1_foundInFaces_31 rfl (lv_at hl 4 rfl) ?_
    refine lv_aload_n hx hb dX1_foundInFaces_32 rfl (lv_at hl 3 rfl) ?_
    refine vp_callSi (W.runV (As := [.int r1, .int (nI ow), .ref sg]) (rest := []) ⟨hx, hb, hml, hown, hts⟩ (kX0_firstMethodOf l dC dI bh br sg cI cJ cB cc nA mA aA fcA fA mcA mmA wA tcA g1A g2A nuA erA reA liA lcA sw st sf sq ⟨by omega, hfcA, hmcA, herA, hliA, hlcA⟩ r1 ow (by first | omega | assumption | trivial)) (cwV 3 hts zgX1_foundInFaces_X0_firstMethodOf_100 rfl rfl rfl (by decide +kernel) ⟨(show 1 + 1 ≤ 2 by omega), (show 8 + (6 + 11) + 24 ≤ 50 by omega)⟩) (zVq (ci := 0) (q0 := 0) (q := (RX0, TX0, 17)) hK hP hE rfl rfl rfl) rfl rfl hl.1 rfl (lv_room (Nat.le_of_ble_eq_true rfl)) dX1_foundInFaces_33 ⟨(show 0 + 0 ≤ 0 by omega), (show 0 + 0 ≤ 0 by omega)⟩) (fun r4 hw => ?_)
    have hw : (zM r4 (fun k => k < 208)) := hw
    have w0r4 := hw
    exact W.iret (v := r4) hx hb hr (fun t ht hW => ⟨r4, rfl, (zM.imp w0r4 (fun k hk hq => by first | exact hq | trivial | omega)), ht⟩) (fun _ h => by cases h) dX1_foundInFaces_36
  · refine lv_iload hx hb dX1_foundInFaces_25 (lv_at hl 0 rfl) ?_
    refine lv_goto (tgt := 31) hx hb dX1_foundInFaces_27 (by decide) ?_
    refine lv_iload_n hx hb dX1_foundInFaces_31 rfl (lv_at hl 4 rfl) ?_
    refine lv_aload_n hx hb dX1_foundInFaces_32 rfl (lv_at hl 3 rfl) ?_
    refine vp_callSi (W.runV (As := [.int r2, .int (nI ow), .ref sg]) (rest := []) ⟨hx, hb, hml, hown, hts⟩ (kX0_firstMethodOf l dC dI bh br sg cI cJ cB cc nA mA aA fcA fA mcA mmA wA tcA g1A g2A nuA erA reA liA lcA sw st sf sq ⟨by omega, hfcA, hmcA, herA, hliA, hlcA⟩ r2 ow (by first | omega | assumption | trivial)) (cwV 3 hts zgX1_foundInFaces_X0_firstMethodOf_100 rfl rfl rfl (by decide +kernel) ⟨(show 1 + 1 ≤ 2 by omega), (show 8 + (6 + 11) + 24 ≤ 50 by omega)⟩) (zVq (ci := 0) (q0 := 0) (q := (RX0, TX0, 17)) hK hP hE rfl rfl rfl) rfl rfl hl.1 rfl (lv_room (Nat.le_of_ble_eq_true rfl)) dX1_foundInFaces_33 ⟨(show 0 + 0 ≤ 0 by omega), (show 0 + 0 ≤ 0 by omega)⟩) (fun r5 hw => ?_)
    have hw : (zM r5 (fun k => k < 208)) := hw
    have w0r5 := hw
    exact W.iret (v := r5) hx hb hr (fun t ht hW => ⟨r5, rfl, (zM.imp w0r5 (fun k hk hq => by first | exact hq | trivial | omega)), ht⟩) (fun _ h => by cases h) dX1_foundInFaces_36
theorem dX1_performedByFaces_0 : decode cX1_performedByFaces 0 = .ok (.aload_n 0, 1) := by decide +kernel
theorem dX1_performedByFaces_1 : decode cX1_performedByFaces 1 = .ok (.aload_n 0, 1) := by decide +kernel
theorem dX1_performedByFaces_2 : decode cX1_performedByFaces 2 = .ok (.iload_n 2, 1) := by decide +kernel
theorem dX1_performedByFaces_3 : decode cX1_performedByFaces 3 = .ok (.aload_n 1, 1) := by decide +kernel
theorem dX1_performedByFaces_4 : decode cX1_performedByFaces 4 = .ok (.invokevirtual 88, 3) := by decide +kernel
theorem dX1_performedByFaces_7 : decode cX1_performedByFaces 7 = .ok (.aload_n 1, 1) := by decide +kernel
theorem dX1_performedByFaces_8 : decode cX1_performedByFaces 8 = .ok (.invokevirtual 92, 3) := by decide +kernel
theorem dX1_performedByFaces_11 : decode cX1_performedByFaces 11 = .ok (.istore_n 3, 1) := by decide +kernel
theorem dX1_performedByFaces_12 : decode cX1_performedByFaces 12 = .ok (.iload_n 3, 1) := by decide +kernel
theorem dX1_performedByFaces_13 : decode cX1_performedByFaces 13 = .ok (.invokestatic 95, 3) := by decide +kernel
theorem dX1_performedByFaces_16 : decode cX1_performedByFaces 16 = .ok (.lookupswitch 42 #[(0, 28), (1, 34)], 28) := by decide +kernel
theorem dX1_performedByFaces_44 : decode cX1_performedByFaces 44 = .ok (.bipush 10, 2) := by decide +kernel
theorem dX1_performedByFaces_46 : decode cX1_performedByFaces 46 = .ok (.invokestatic 27, 3) := by decide +kernel
theorem dX1_performedByFaces_49 : decode cX1_performedByFaces 49 = .ok (.ireturn, 1) := by decide +kernel
theorem dX1_performedByFaces_50 : decode cX1_performedByFaces 50 = .ok (.aload_n 0, 1) := by decide +kernel
theorem dX1_performedByFaces_51 : decode cX1_performedByFaces 51 = .ok (.iload_n 3, 1) := by decide +kernel
theorem dX1_performedByFaces_52 : decode cX1_performedByFaces 52 = .ok (.iload_n 2, 1) := by decide +kernel
theorem dX1_performedByFaces_53 : decode cX1_performedByFaces 53 = .ok (.aload_n 1, 1) := by decide +kernel
theorem dX1_performedByFaces_54 : decode cX1_performedByFaces 54 = .ok (.invokevirtual 100, 3) := by decide +kernel
theorem dX1_performedByFaces_57 : decode cX1_performedByFaces 57 = .ok (.ireturn, 1) := by decide +kernel
theorem dX1_performedByFaces_58 : decode cX1_performedByFaces 58 = .ok (.iconst 4, 1) := by decide +kernel
theorem dX1_performedByFaces_59 : decode cX1_performedByFaces 59 = .ok (.invokestatic 27, 3) := by decide +kernel
theorem dX1_performedByFaces_62 : decode cX1_performedByFaces 62 = .ok (.ireturn, 1) := by decide +kernel
def zwX1_performedByFaces : List Cond := .code yX1_performedByFaces cX1_performedByFaces 4 (some .int) :: ([.methodLink RX1 88 yX0_nearestFaces, .instanceMethod yX0_nearestFaces, .selects RX0 yX0_nearestFaces yX0_nearestFaces, .initialized RX0, .code yX0_nearestFaces cX0_nearestFaces 7 (some .int), .fieldLink RX0 61 "LinkModels$Build" "classCount" "I", .fieldLink RX0 52 "LinkModels$Build" "reached" "[I", .fieldLink RX0 58 "LinkModels$Build" "lineCounts" "[I", .fieldLink RX0 55 "LinkModels$Build" "lines" "[I", .methodLink RX0 82 yX0_has, .instanceMethod yX0_has, .selects RX0 yX0_has yX0_has, .code yX0_has cX0_has 3 (some .boolean), .fieldLink RX0 30 "LinkModels$Build" "memberMarks" "[I", .methodLink RX0 90 yX0_isFace, .instanceMethod yX0_isFace, .selects RX0 yX0_isFace yX0_isFace, .code yX0_isFace cX0_isFace 2 (some .boolean), .fieldLink RX0 15 "LinkModels$Build" "classMarks" "[I", .methodLink RX0 94 yX0_methodIn, .instanceMethod yX0_methodIn, .selects RX0 yX0_methodIn yX0_methodIn, .code yX0_methodIn cX0_methodIn 5 (some .int), .fieldLink RX0 37 "LinkModels$Build" "typeCounts" "[I", .fieldLink RX0 71 "LinkModels$Signature" "typeCount" "I", .fieldLink RX0 40 "LinkModels$Build" "firsts" "[I", .fieldLink RX0 74 "LinkModels$Signature" "first" "I", .fieldLink RX0 43 "LinkModels$Build" "seconds" "[I", .fieldLink RX0 77 "LinkModels$Signature" "second" "I", .fieldLink RX0 27 "LinkModels$Build" "memberCounts" "[I", .fieldLink RX0 33 "LinkModels$Build" "words" "[J", .fieldLink RX0 65 "LinkModels$Signature" "word" "J", .methodLink RX1 92 yX0_withBody, .instanceMethod yX0_withBody, .selects RX0 yX0_withBody yX0_withBody, .code yX0_withBody cX0_withBody 6 (some .int), .methodLink RX1 95 yJ6_bitCount_0f7a4, .static yJ6_bitCount_0f7a4, .initialized RJ6, .code yJ6_bitCount_0f7a4 cJ6_bitCount_0f7a4 1 (some .int), .constant RJ6 265 (1431655765), .constant RJ6 266 (858993459), .constant RJ6 267 (252645135), .methodLink RX1 27 yX1_failed, .static yX1_failed, .initialized RX1, .code yX1_failed cX1_failed 1 (some .int), .methodLink RX1 100 yX0_firstMethodOf, .instanceMethod yX0_firstMethodOf, .selects RX0 yX0_firstMethodOf yX0_firstMethodOf, .code yX0_firstMethodOf cX0_firstMethodOf 6 (some .int)] ++ wsX00 ++ wsX30)
theorem zgX1_performedByFaces_X0_nearestFaces_88 : GoodIn zwX1_performedByFaces (wsV RX1 88 RX0 yX0_nearestFaces zwX0_nearestFaces) := goodIn_app (goodIn_r _ [1, 2, 3, 4] rfl (by decide +kernel)) (goodIn_app (goodIn_app (goodIn_r _ [5, 6, 7, 8, 9, 10, 11, 12, 4, 13, 14, 15, 16, 17, 18, 19, 20, 21, 22, 23, 24, 25, 26, 27, 28, 29, 30, 31, 32] rfl (by decide +kernel)) (fun w hw => ⟨(List.mem_cons_of_mem _ (List.mem_append_left _ (List.mem_append_right _ hw))), good_of_word (List.all_eq_true.mp zgX0 w hw)⟩)) (fun w hw => ⟨(List.mem_cons_of_mem _ (List.mem_append_right _ hw)), good_of_word (List.all_eq_true.mp zgX3 w hw)⟩))
theorem zgX1_performedByFaces_X0_withBody_92 : GoodIn zwX1_performedByFaces (wsV RX1 92 RX0 yX0_withBody zwX0_withBody) := goodIn_app (goodIn_r _ [33, 34, 35, 4] rfl (by decide +kernel)) (goodIn_app (goodIn_app (goodIn_r _ [36, 6, 10, 11, 12, 4, 13, 14, 20, 21, 22, 23, 24, 25, 26, 27, 28, 29, 30, 31, 32] rfl (by decide +kernel)) (fun w hw => ⟨(List.mem_cons_of_mem _ (List.mem_append_left _ (List.mem_append_right _ hw))), good_of_word (List.all_eq_true.mp zgX0 w hw)⟩)) (fun w hw => ⟨(List.mem_cons_of_mem _ (List.mem_append_right _ hw)), good_of_word (List.all_eq_true.mp zgX3 w hw)⟩))
theorem zgX1_performedByFaces_J6_bitCount_0f7a4_95 : GoodIn zwX1_performedByFaces (va_wsS RX1 95 yJ6_bitCount_0f7a4 zwJ6_bitCount_0f7a4) := goodIn_app (goodIn_r _ [37, 38, 39] rfl (by decide +kernel)) (goodIn_r _ [40, 41, 42, 43] rfl (by decide +kernel))
theorem zgX1_performedByFaces_X1_failed_27 : GoodIn zwX1_performedByFaces (va_wsS RX1 27 yX1_failed zwX1_failed) := goodIn_app (goodIn_r _ [44, 45, 46] rfl (by decide +kernel)) (goodIn_r _ [47] rfl (by decide +kernel))
theorem zgX1_performedByFaces_X0_firstMethodOf_100 : GoodIn zwX1_performedByFaces (wsV RX1 100 RX0 yX0_firstMethodOf zwX0_firstMethodOf) := goodIn_app (goodIn_r _ [48, 49, 50, 4] rfl (by decide +kernel)) (goodIn_app (goodIn_app (goodIn_r _ [51, 8, 9, 20, 21, 22, 4, 23, 24, 25, 26, 27, 28, 29, 30, 31, 32, 14] rfl (by decide +kernel)) (fun w hw => ⟨(List.mem_cons_of_mem _ (List.mem_append_left _ (List.mem_append_right _ hw))), good_of_word (List.all_eq_true.mp zgX0 w hw)⟩)) (fun w hw => ⟨(List.mem_cons_of_mem _ (List.mem_append_right _ hw)), good_of_word (List.all_eq_true.mp zgX3 w hw)⟩))
set_option maxHeartbeats 4000000 in
set_option maxRecDepth 100000 in
theorem kX1_performedByFaces (l : Launch) (dC : Nat → ClassId) (dI : Nat → Nat → Nat) (bh : Nat) (br : Nat → Nat) (sg : Nat) (cI : ClassId) (cJ : ClassId) (cB : ClassId) (cc : Nat) (nA : Nat → Int32) (mA : Nat → Int32) (aA : Nat → Int32) (fcA : Nat → Nat) (fA : Nat → Int32) (mcA : Nat → Nat) (mmA : Nat → Int32) (wA : Nat → Int64) (tcA : Nat → Int32) (g1A : Nat → Int32) (g2A : Nat → Int32) (nuA : Nat → Int32) (erA : Nat → Nat) (reA : Nat → Int32) (liA : Nat → Nat) (lcA : Nat → Nat) (sw : Int64) (st : Int32) (sf : Int32) (sq : Int32) (hI : bsWI cc fcA mcA erA liA lcA) (pl : Nat) (hp0 : pl < 16) : Met l yX1_performedByFaces zwX1_performedByFaces ({ frames := 2, cells := 0, slots := 0, locals := 50 }) (zPq dC dI [.ref bh, .ref sg, .int (nI pl)] (bsW bh br sg cI cJ cB (nI cc) nA mA aA (fun j => nI (fcA j)) fA (fun j => nI (mcA j)) mmA wA tcA g1A g2A nuA (fun j => nI (erA j)) reA (fun j => nI (liA j)) (fun j => nI (lcA j)) sw st sf sq) [(cI, .int), (cJ, .long), (cB, .byte)]) (vp_Si (fun r => (zSp r (fun k => k < 208)))) 0 0 (fun _ => False) := by
  refine Met.ofW (cc := cX1_performedByFaces) (maxL := 4) (ret := (some .int)) (by decide) rfl ?_
  intro p e s m args below meth c s₁ B hml hv
  obtain ⟨rfl, hP, hK, hE⟩ := hv
  have hx := B.exec
  have hb := B.bytes
  have hr := B.returns
  have hts := atoms_spec (ws := zwX1_performedByFaces) B.pre
  have hown : s.vm.findClass RX1 = some m.cls := findClass_of_methodNamed B.named
  obtain ⟨hcc, hfcA, hmcA, herA, hliA, hlcA⟩ := hI
  have hl := lv_entry ([.ref bh, .ref sg, .int (nI pl)]) (n := 4) (Nat.le_of_ble_eq_true rfl)
  rw [lg_entry_eq]
  generalize (lg_sl ([.ref bh, .ref sg, .int (nI pl)]) ++ List.replicate (4 - (lg_sl ([.ref bh, .ref sg, .int (nI pl)])).length) Slot.unset).toArray = ls at hl ⊢
  have hl : lv_has ls 4 [(0, .ref bh), (1, .ref sg), (2, .int (nI pl))] := hl
  refine lv_aload_n hx hb dX1_performedByFaces_0 rfl (lv_at hl 0 rfl) ?_
  refine lv_aload_n hx hb dX1_performedByFaces_1 rfl (lv_at hl 0 rfl) ?_
  refine lv_iload_n hx hb dX1_performedByFaces_2 rfl (lv_at hl 2 rfl) ?_
  refine lv_aload_n hx hb dX1_performedByFaces_3 rfl (lv_at hl 1 rfl) ?_
  refine vp_callSi (W.runV (As := [.int (nI pl), .ref sg]) (rest := [.ref bh]) ⟨hx, hb, hml, hown, hts⟩ (kX0_nearestFaces l dC dI bh br sg cI cJ cB cc nA mA aA fcA fA mcA mmA wA tcA g1A g2A nuA erA reA liA lcA sw st sf sq ⟨by omega, hfcA, hmcA, herA, hliA, hlcA⟩ pl (by first | omega | assumption | trivial)) (cwV 2 hts zgX1_performedByFaces_X0_nearestFaces_88 rfl rfl rfl (by decide +kernel) ⟨(show 1 + 1 ≤ 2 by omega), (show 8 + (7 + 11) + 24 ≤ 50 by omega)⟩) (zVq (ci := 0) (q0 := 0) (q := (RX0, TX0, 17)) hK hP hE rfl rfl rfl) rfl rfl hl.1 rfl (lv_room (Nat.le_of_ble_eq_true rfl)) dX1_performedByFaces_4 ⟨(show 0 + 0 ≤ 0 by omega), (show 0 + 0 ≤ 0 by omega)⟩) (fun r1 hw => ?_)
  have hw : (True) := hw
  have w0r1 := hw
  refine lv_aload_n hx hb dX1_performedByFaces_7 rfl (lv_at hl 1 rfl) ?_
  refine vp_callSi (W.runV (As := [.int r1, .ref sg]) (rest := []) ⟨hx, hb, hml, hown, hts⟩ (kX0_withBody l dC dI bh br sg cI cJ cB cc nA mA aA fcA fA mcA mmA wA tcA g1A g2A nuA erA reA liA lcA sw st sf sq ⟨by omega, hfcA, hmcA, herA, hliA, hlcA⟩ r1) (cwV 2 hts zgX1_performedByFaces_X0_withBody_92 rfl rfl rfl (by decide +kernel) ⟨(show 1 + 1 ≤ 2 by omega), (show 8 + (6 + 11) + 24 ≤ 50 by omega)⟩) (zVq (ci := 0) (q0 := 0) (q := (RX0, TX0, 17)) hK hP hE rfl rfl rfl) rfl rfl hl.1 rfl (lv_room (Nat.le_of_ble_eq_true rfl)) dX1_performedByFaces_8 ⟨(show 0 + 0 ≤ 0 by omega), (show 0 + 0 ≤ 0 by omega)⟩) (fun r2 hw => ?_)
  have hw : (True) := hw
  have w0r2 := hw
  refine lv_istore_n (lv' := [(3, .int r2), (0, .ref bh), (1, .ref sg), (2, .int (nI pl))]) hx hb dX1_performedByFaces_11 rfl hl (by decide) rfl (fun ls hl => ?_)
  refine lv_iload_n hx hb dX1_performedByFaces_12 rfl (lv_at hl 0 rfl) ?_
  refine vp_callSi (W.runS (As := [.int r2]) (rest := []) ⟨hx, hb, hml, hown, hts⟩ (kJ6_bitCount_0f7a4 l dC dI   r2) (va_cwS 1 hts zgX1_performedByFaces_J6_bitCount_0f7a4_95 rfl rfl rfl (by decide +kernel) ⟨(show 0 + 1 ≤ 2 by omega), (show 8 + (1 + 11) + 0 ≤ 50 by omega)⟩) (zSq (hK.sub (tys' := []) [] rfl) (hP.sub (ws' := ([] : va_W)) [] rfl) hE) rfl rfl hl.1 rfl (lv_room (Nat.le_of_ble_eq_true rfl)) dX1_performedByFaces_13 ⟨(show 0 + 0 ≤ 0 by omega), (show 0 + 0 ≤ 0 by omega)⟩) (fun r3 hw => ?_)
  have hw : (True) := hw
  have w0r3 := hw
  by_cases cs16_0 : r3 = 0
  · refine lv_lookup (off := 28) (tgt := 44) hx hb dX1_performedByFaces_16 (by decide) (by rw [cs16_0]; decide) (by decide) ?_
    refine lv_bipush (v := 10) hx hb dX1_performedByFaces_44 (by decide) ?_
    refine vp_callSi (W.runS (As := [.int 10]) (rest := []) ⟨hx, hb, hml, hown, hts⟩ (kX1_failed l dC dI   10 (by first | omega | assumption | trivial)) (va_cwS 1 hts zgX1_performedByFaces_X1_failed_27 rfl rfl rfl (by decide +kernel) ⟨(show 0 + 1 ≤ 2 by omega), (show 8 + (1 + 11) + 0 ≤ 50 by omega)⟩) (zSq (hK.sub (tys' := []) [] rfl) (hP.sub (ws' := ([] : va_W)) [] rfl) hE) rfl rfl hl.1 rfl (lv_room (Nat.le_of_ble_eq_true rfl)) dX1_performedByFaces_46 ⟨(show 0 + 0 ≤ 0 by omega), (show 0 + 0 ≤ 0 by omega)⟩) (fun r4 hw => ?_)
    have hw : (r4 < 0) := hw
    have w0r4 := hw
    exact W.iret (v := r4) hx hb hr (fun t ht hW => ⟨r4, rfl, (Or.inl w0r4), ht⟩) (fun _ h => by cases h) dX1_performedByFaces_49
  · by_cases cs16_1 : r3 = 1
    · refine lv_lookup (off := 34) (tgt := 50) hx hb dX1_performedByFaces_16 (by decide) (by rw [cs16_1]; decide) (by decide) ?_
      refine lv_aload_n hx hb dX1_performedByFaces_50 rfl (lv_at hl 1 rfl) ?_
      refine lv_iload_n hx hb dX1_performedByFaces_51 rfl (lv_at hl 0 rfl) ?_
      refine lv_iload_n hx hb dX1_performedByFaces_52 rfl (lv_at hl 3 rfl) ?_
      refine lv_aload_n hx hb dX1_performedByFaces_53 rfl (lv_at hl 2 rfl) ?_
      refine vp_callSi (W.runV (As := [.int r2, .int (nI pl), .ref sg]) (rest := []) ⟨hx, hb, hml, hown, hts⟩ (kX0_firstMethodOf l dC dI bh br sg cI cJ cB cc nA mA aA fcA fA mcA mmA wA tcA g1A g2A nuA erA reA liA lcA sw st sf sq ⟨by omega, hfcA, hmcA, herA, hliA, hlcA⟩ r2 pl (by first | omega | assumption | trivial)) (cwV 3 hts zgX1_performedByFaces_X0_firstMethodOf_100 rfl rfl rfl (by decide +kernel) ⟨(show 1 + 1 ≤ 2 by omega), (show 8 + (6 + 11) + 24 ≤ 50 by omega)⟩) (zVq (ci := 0) (q0 := 0) (q := (RX0, TX0, 17)) hK hP hE rfl rfl rfl) rfl rfl hl.1 rfl (lv_room (Nat.le_of_ble_eq_true rfl)) dX1_performedByFaces_54 ⟨(show 0 + 0 ≤ 0 by omega), (show 0 + 0 ≤ 0 by omega)⟩) (fun r5 hw => ?_)
      have hw : (zM r5 (fun k => k < 208)) := hw
      have w0r5 := hw
      exact W.iret (v := r5) hx hb hr (fun t ht hW => ⟨r5, rfl, (zSp.ofM w0r5 (fun k hk hq => by first | exact hq | trivial | omega)), ht⟩) (fun _ h => by cases h) dX1_performedByFaces_57
    · refine lv_lookup (off := 42) (tgt := 58) hx hb dX1_performedByFaces_16 (by decide) (by show Op.lookupswitch.offset [(0, 28), (1, 34)] 42 _ = 42; have a16_0 := lv_neT (a := 0) cs16_0 (by decide); have a16_1 := lv_neT (a := 1) cs16_1 (by decide); rw [Op.lookupswitch.offset_cons, if_neg (fun h9 => a16_0 h9.symm), Op.lookupswitch.offset_cons, if_neg (fun h9 => a16_1 h9.symm), Op.lookupswitch.offset_nil]) (by decide) ?_
      refine lv_iconst (v := 4) hx hb dX1_performedByFaces_58 (by decide) ?_
      refine vp_callSi (W.runS (As := [.int 4]) (rest := []) ⟨hx, hb, hml, hown, hts⟩ (kX1_failed l dC dI   4 (by first | omega | assumption | trivial)) (va_cwS 1 hts zgX1_performedByFaces_X1_failed_27 rfl rfl rfl (by decide +kernel) ⟨(show 0 + 1 ≤ 2 by omega), (show 8 + (1 + 11) + 0 ≤ 50 by omega)⟩) (zSq (hK.sub (tys' := []) [] rfl) (hP.sub (ws' := ([] : va_W)) [] rfl) hE) rfl rfl hl.1 rfl (lv_room (Nat.le_of_ble_eq_true rfl)) dX1_performedByFaces_59 ⟨(show 0 + 0 ≤ 0 by omega), (show 0 + 0 ≤ 0 by omega)⟩) (fun r6 hw => ?_)
      have hw : (r6 < 0) := hw
      have w0r6 := hw
      exact W.iret (v := r6) hx hb hr (fun t ht hW => ⟨r6, rfl, (Or.inl w0r6), ht⟩) (fun _ h => by cases h) dX1_performedByFaces_62
theorem dX1_linkedField_0 : decode cX1_linkedField 0 = .ok (.aload_n 0, 1) := by decide +kernel
theorem dX1_linkedField_1 : decode cX1_linkedField 1 = .ok (.iload_n 3, 1) := by decide +kernel
theorem dX1_linkedField_2 : decode cX1_linkedField 2 = .ok (.aload_n 1, 1) := by decide +kernel
theorem dX1_linkedField_3 : decode cX1_linkedField 3 = .ok (.getfield 50, 3) := by decide +kernel
theorem dX1_linkedField_6 : decode cX1_linkedField 6 = .ok (.getfield 54, 3) := by decide +kernel
theorem dX1_linkedField_9 : decode cX1_linkedField 9 = .ok (.invokevirtual 60, 3) := by decide +kernel
theorem dX1_linkedField_12 : decode cX1_linkedField 12 = .ok (.istore 4, 2) := by decide +kernel
theorem dX1_linkedField_14 : decode cX1_linkedField 14 = .ok (.iload 4, 2) := by decide +kernel
theorem dX1_linkedField_16 : decode cX1_linkedField 16 = .ok (.iconst (-1), 1) := by decide +kernel
theorem dX1_linkedField_17 : decode cX1_linkedField 17 = .ok (.if_icmp .ne 9, 3) := by decide +kernel
theorem dX1_linkedField_20 : decode cX1_linkedField 20 = .ok (.bipush 7, 2) := by decide +kernel
theorem dX1_linkedField_22 : decode cX1_linkedField 22 = .ok (.invokestatic 27, 3) := by decide +kernel
theorem dX1_linkedField_25 : decode cX1_linkedField 25 = .ok (.ireturn, 1) := by decide +kernel
theorem dX1_linkedField_26 : decode cX1_linkedField 26 = .ok (.iload 4, 2) := by decide +kernel
theorem dX1_linkedField_28 : decode cX1_linkedField 28 = .ok (.invokestatic 64, 3) := by decide +kernel
theorem dX1_linkedField_31 : decode cX1_linkedField 31 = .ok (.iload_n 2, 1) := by decide +kernel
theorem dX1_linkedField_32 : decode cX1_linkedField 32 = .ok (.if_icmp .eq 7, 3) := by decide +kernel
theorem dX1_linkedField_35 : decode cX1_linkedField 35 = .ok (.iconst 1, 1) := by decide +kernel
theorem dX1_linkedField_36 : decode cX1_linkedField 36 = .ok (.goto 4, 3) := by decide +kernel
theorem dX1_linkedField_39 : decode cX1_linkedField 39 = .ok (.iconst 0, 1) := by decide +kernel
theorem dX1_linkedField_40 : decode cX1_linkedField 40 = .ok (.istore 5, 2) := by decide +kernel
theorem dX1_linkedField_42 : decode cX1_linkedField 42 = .ok (.iload 5, 2) := by decide +kernel
theorem dX1_linkedField_44 : decode cX1_linkedField 44 = .ok (.ifCond .eq 19, 3) := by decide +kernel
theorem dX1_linkedField_47 : decode cX1_linkedField 47 = .ok (.aload_n 0, 1) := by decide +kernel
theorem dX1_linkedField_48 : decode cX1_linkedField 48 = .ok (.iload 4, 2) := by decide +kernel
theorem dX1_linkedField_50 : decode cX1_linkedField 50 = .ok (.iconst 2, 1) := by decide +kernel
theorem dX1_linkedField_51 : decode cX1_linkedField 51 = .ok (.invokevirtual 67, 3) := by decide +kernel
theorem dX1_linkedField_54 : decode cX1_linkedField 54 = .ok (.ifCond .eq 9, 3) := by decide +kernel
theorem dX1_linkedField_57 : decode cX1_linkedField 57 = .ok (.bipush 8, 2) := by decide +kernel
theorem dX1_linkedField_59 : decode cX1_linkedField 59 = .ok (.invokestatic 27, 3) := by decide +kernel
theorem dX1_linkedField_62 : decode cX1_linkedField 62 = .ok (.ireturn, 1) := by decide +kernel
theorem dX1_linkedField_63 : decode cX1_linkedField 63 = .ok (.aload_n 0, 1) := by decide +kernel
theorem dX1_linkedField_64 : decode cX1_linkedField 64 = .ok (.iload 4, 2) := by decide +kernel
theorem dX1_linkedField_66 : decode cX1_linkedField 66 = .ok (.iconst 1, 1) := by decide +kernel
theorem dX1_linkedField_67 : decode cX1_linkedField 67 = .ok (.invokevirtual 67, 3) := by decide +kernel
theorem dX1_linkedField_70 : decode cX1_linkedField 70 = .ok (.aload_n 1, 1) := by decide +kernel
theorem dX1_linkedField_71 : decode cX1_linkedField 71 = .ok (.invokevirtual 71, 3) := by decide +kernel
theorem dX1_linkedField_74 : decode cX1_linkedField 74 = .ok (.if_icmp .eq 8, 3) := by decide +kernel
theorem dX1_linkedField_77 : decode cX1_linkedField 77 = .ok (.iconst 4, 1) := by decide +kernel
theorem dX1_linkedField_78 : decode cX1_linkedField 78 = .ok (.invokestatic 27, 3) := by decide +kernel
theorem dX1_linkedField_81 : decode cX1_linkedField 81 = .ok (.ireturn, 1) := by decide +kernel
theorem dX1_linkedField_82 : decode cX1_linkedField 82 = .ok (.iload 5, 2) := by decide +kernel
theorem dX1_linkedField_84 : decode cX1_linkedField 84 = .ok (.ifCond .eq 26, 3) := by decide +kernel
theorem dX1_linkedField_87 : decode cX1_linkedField 87 = .ok (.aload_n 1, 1) := by decide +kernel
theorem dX1_linkedField_88 : decode cX1_linkedField 88 = .ok (.invokevirtual 74, 3) := by decide +kernel
theorem dX1_linkedField_91 : decode cX1_linkedField 91 = .ok (.ifCond .eq 19, 3) := by decide +kernel
theorem dX1_linkedField_94 : decode cX1_linkedField 94 = .ok (.aload_n 0, 1) := by decide +kernel
theorem dX1_linkedField_95 : decode cX1_linkedField 95 = .ok (.iload 4, 2) := by decide +kernel
theorem dX1_linkedField_97 : decode cX1_linkedField 97 = .ok (.iconst 4, 1) := by decide +kernel
theorem dX1_linkedField_98 : decode cX1_linkedField 98 = .ok (.invokevirtual 67, 3) := by decide +kernel
theorem dX1_linkedField_101 : decode cX1_linkedField 101 = .ok (.ifCond .eq 9, 3) := by decide +kernel
theorem dX1_linkedField_104 : decode cX1_linkedField 104 = .ok (.bipush 8, 2) := by decide +kernel
theorem dX1_linkedField_106 : decode cX1_linkedField 106 = .ok (.invokestatic 27, 3) := by decide +kernel
theorem dX1_linkedField_109 : decode cX1_linkedField 109 = .ok (.ireturn, 1) := by decide +kernel
theorem dX1_linkedField_110 : decode cX1_linkedField 110 = .ok (.iload 4, 2) := by decide +kernel
theorem dX1_linkedField_112 : decode cX1_linkedField 112 = .ok (.ireturn, 1) := by decide +kernel
def zwX1_linkedField : List Cond := .code yX1_linkedField cX1_linkedField 6 (some .int) :: ([.fieldLink RX1 50 "LinkModels$Use" "wanted" "LLinkModels$Signature;", .fieldLink RX1 54 "LinkModels$Signature" "word" "J", .initialized RX6, .static yX6_classOf, .methodLink RX1 67 yX0_has, .instanceMethod yX0_has, .selects RX0 yX0_has yX0_has, .initialized RX0, .code yX0_has cX0_has 3 (some .boolean), .fieldLink RX0 30 "LinkModels$Build" "memberMarks" "[I", .methodLink RX1 71 yX5_asksStatic, .instanceMethod yX5_asksStatic, .selects RX5 yX5_asksStatic yX5_asksStatic, .initialized RX5, .code yX5_asksStatic cX5_asksStatic 1 (some .boolean), .fieldLink RX5 9 "LinkModels$Use" "kind" "I", .methodLink RX1 74 yX5_puts, .instanceMethod yX5_puts, .selects RX5 yX5_puts yX5_puts, .code yX5_puts cX5_puts 1 (some .boolean), .methodLink RX1 27 yX1_failed, .static yX1_failed, .initialized RX1, .code yX1_failed cX1_failed 1 (some .int), .methodLink RX1 60 yX0_fieldFrom, .instanceMethod yX0_fieldFrom, .selects RX0 yX0_fieldFrom yX0_fieldFrom, .code yX0_fieldFrom cX0_fieldFrom 6 (some .int), .fieldLink RX0 58 "LinkModels$Build" "lineCounts" "[I", .fieldLink RX0 55 "LinkModels$Build" "lines" "[I", .methodLink RX0 86 yX0_fieldIn, .instanceMethod yX0_fieldIn, .selects RX0 yX0_fieldIn yX0_fieldIn, .code yX0_fieldIn cX0_fieldIn 5 (some .int), .fieldLink RX0 27 "LinkModels$Build" "memberCounts" "[I", .fieldLink RX0 33 "LinkModels$Build" "words" "[J", .methodLink RX0 82 yX0_has, .code yX6_classOf cX6_classOf 1 (some .int)] ++ wsX50 ++ wsX30 ++ wsX00)
theorem zgX1_linkedField_X0_has_67 : GoodIn zwX1_linkedField (wsV RX1 67 RX0 yX0_has zwX0_has) := goodIn_app (goodIn_r _ [5, 6, 7, 8] rfl (by decide +kernel)) (goodIn_app (goodIn_r _ [9, 10] rfl (by decide +kernel)) (fun w hw => ⟨(List.mem_cons_of_mem _ (List.mem_append_right _ hw)), good_of_word (List.all_eq_true.mp zgX0 w hw)⟩))
theorem zgX1_linkedField_X5_asksStatic_71 : GoodIn zwX1_linkedField (wsV RX1 71 RX5 yX5_asksStatic zwX5_asksStatic) := goodIn_app (goodIn_r _ [11, 12, 13, 14] rfl (by decide +kernel)) (goodIn_app (goodIn_r _ [15, 16] rfl (by decide +kernel)) (fun w hw => ⟨(List.mem_cons_of_mem _ (List.mem_append_left _ (List.mem_append_left _ (List.mem_append_right _ hw)))), good_of_word (List.all_eq_true.mp zgX5 w hw)⟩))
theorem zgX1_linkedField_X5_puts_74 : GoodIn zwX1_linkedField (wsV RX1 74 RX5 yX5_puts zwX5_puts) := goodIn_app (goodIn_r _ [17, 18, 19, 14] rfl (by decide +kernel)) (goodIn_app (goodIn_r _ [20, 16] rfl (by decide +kernel)) (fun w hw => ⟨(List.mem_cons_of_mem _ (List.mem_append_left _ (List.mem_append_left _ (List.mem_append_right _ hw)))), good_of_word (List.all_eq_true.mp zgX5 w hw)⟩))
theorem zgX1_linkedField_X1_failed_27 : GoodIn zwX1_linkedField (va_wsS RX1 27 yX1_failed zwX1_failed) := goodIn_app (goodIn_r _ [21, 22, 23] rfl (by decide +kernel)) (goodIn_r _ [24] rfl (by decide +kernel))
theorem zgX1_linkedField_X0_fieldFrom_60 : GoodIn zwX1_linkedField (wsV RX1 60 RX0 yX0_fieldFrom zwX0_fieldFrom) := goodIn_app (goodIn_r _ [25, 26, 27, 8] rfl (by decide +kernel)) (goodIn_app (goodIn_r _ [28, 29, 30, 31, 32, 33, 8, 34, 35, 36, 37, 6, 7, 9, 10] rfl (by decide +kernel)) (fun w hw => ⟨(List.mem_cons_of_mem _ (List.mem_append_right _ hw)), good_of_word (List.all_eq_true.mp zgX0 w hw)⟩))
theorem zgX1_linkedField_X6_classOf_64 : GoodIn zwX1_linkedField zwX6_classOf := (goodIn_r _ [38] rfl (by decide +kernel))
set_option maxHeartbeats 4000000 in
set_option maxRecDepth 100000 in
theorem kX1_linkedField (l : Launch) (dC : Nat → ClassId) (dI : Nat → Nat → Nat) (bh : Nat) (br : Nat → Nat) (uh : Nat) (ug : Nat) (cI : ClassId) (cJ : ClassId) (cB : ClassId) (cc : Nat) (nA : Nat → Int32) (mA : Nat → Int32) (aA : Nat → Int32) (fcA : Nat → Nat) (fA : Nat → Int32) (mcA : Nat → Nat) (mmA : Nat → Int32) (wA : Nat → Int64) (tcA : Nat → Int32) (g1A : Nat → Int32) (g2A : Nat → Int32) (nuA : Nat → Int32) (erA : Nat → Nat) (reA : Nat → Int32) (liA : Nat → Nat) (lcA : Nat → Nat) (uk : Int32) (uc : Int32) (uo : Int32) (uy : Int32) (uw : Int64) (ut : Int32) (uf : Int32) (uq : Int32) (hI : lWI cc fcA mcA erA liA lcA) (ca : Int32) (ow : Nat) (hp0 : ow < 16) : Met l yX1_linkedField zwX1_linkedField ({ frames := 3, cells := 0, slots := 0, locals := 71 }) (zPq dC dI [.ref bh, .ref uh, .int ca, .int (nI ow)] (lW bh br uh ug cI cJ cB (nI cc) nA mA aA (fun j => nI (fcA j)) fA (fun j => nI (mcA j)) mmA wA tcA g1A g2A nuA (fun j => nI (erA j)) reA (fun j => nI (liA j)) (fun j => nI (lcA j)) uk uc uo uy uw ut uf uq) [(cI, .int), (cJ, .long), (cB, .byte)]) (vp_Si (fun r => (zSp r (fun k => k < 208)))) 0 0 (fun _ => False) := by
  refine Met.ofW (cc := cX1_linkedField) (maxL := 6) (ret := (some .int)) (by decide) rfl ?_
  intro p e s m args below meth c s₁ B hml hv
  obtain ⟨rfl, hP, hK, hE⟩ := hv
  have hx := B.exec
  have hb := B.bytes
  have hr := B.returns
  have hts := atoms_spec (ws := zwX1_linkedField) B.pre
  have hown : s.vm.findClass RX1 = some m.cls := findClass_of_methodNamed B.named
  have hiX5 : ∀ w ∈ wsX50, w ∈ zwX1_linkedField := (fun w hw => (List.mem_cons_of_mem _ (List.mem_append_left _ (List.mem_append_left _ (List.mem_append_right _ hw)))))
  have hiX3 : ∀ w ∈ wsX30, w ∈ zwX1_linkedField := (fun w hw => (List.mem_cons_of_mem _ (List.mem_append_left _ (List.mem_append_right _ hw))))
  obtain ⟨hcc, hfcA, hmcA, herA, hliA, hlcA⟩ := hI
  have hl := lv_entry ([.ref bh, .ref uh, .int ca, .int (nI ow)]) (n := 6) (Nat.le_of_ble_eq_true rfl)
  rw [lg_entry_eq]
  generalize (lg_sl ([.ref bh, .ref uh, .int ca, .int (nI ow)]) ++ List.replicate (6 - (lg_sl ([.ref bh, .ref uh, .int ca, .int (nI ow)])).length) Slot.unset).toArray = ls at hl ⊢
  have hl : lv_has ls 6 [(0, .ref bh), (1, .ref uh), (2, .int ca), (3, .int (nI ow))] := hl
  have J110 : ∀ (sp : Nat) (ls : Array Slot), (sp < 208) → lv_has ls 6 [(4, .int (nI sp))] → W p l e (headSpec zwX1_linkedField { frames := 3, cells := 0, slots := 0, locals := 71 }).room s m (([.ref bh, .ref uh, .int ca, .int (nI ow)] : List Value).toArray) below meth c s.heap [] 0 0 (MQ below (vp_Si (fun r => (zSp r (fun k => k < 208)))) (([.ref bh, .ref uh, .int ca, .int (nI ow)] : List Value).toArray) s 0 0 (fun _ => False)) (F0 m 110 ls []) := by
    intro sp ls i110_0 hl
    refine lv_iload hx hb dX1_linkedField_110 (lv_at hl 0 rfl) ?_
    exact W.iret (v := (nI sp)) hx hb hr (fun t ht hW => ⟨(nI sp), rfl, (zSp.mk (by omega) (by first | trivial | omega | assumption)), ht⟩) (fun _ h => by cases h) dX1_linkedField_112
  have J63 : ∀ (sp : Nat) (fo : Int32) (ls : Array Slot), (sp < 208) → lv_has ls 6 [(0, .ref bh), (1, .ref uh), (4, .int (nI sp)), (5, .int fo)] → W p l e (headSpec zwX1_linkedField { frames := 3, cells := 0, slots := 0, locals := 71 }).room s m (([.ref bh, .ref uh, .int ca, .int (nI ow)] : List Value).toArray) below meth c s.heap [] 0 0 (MQ below (vp_Si (fun r => (zSp r (fun k => k < 208)))) (([.ref bh, .ref uh, .int ca, .int (nI ow)] : List Value).toArray) s 0 0 (fun _ => False)) (F0 m 63 ls []) := by
    intro sp fo ls i63_0 hl
    refine lv_aload_n hx hb dX1_linkedField_63 rfl (lv_at hl 0 rfl) ?_
    refine lv_iload hx hb dX1_linkedField_64 (lv_at hl 2 rfl) ?_
    refine lv_iconst (v := 1) hx hb dX1_linkedField_66 (by decide) ?_
    refine vp_callSi (W.runV (As := [.int (nI sp), .int 1]) (rest := []) ⟨hx, hb, hml, hown, hts⟩ (kX0_has l dC dI bh br cI cJ cB cc nA mA aA fcA fA mcA mmA wA tcA g1A g2A nuA erA reA liA lcA ⟨by omega, hfcA, hmcA, herA, hliA, hlcA⟩ sp (1 : Int32) (by first | omega | assumption | trivial)) (cwV 2 hts zgX1_linkedField_X0_has_67 rfl rfl rfl (by decide +kernel) ⟨(show 0 + 1 ≤ 3 by omega), (show 8 + (3 + 11) + 0 ≤ 71 by omega)⟩) (zVq (ci := 0) (q0 := 0) (q := (RX0, TX0, 17)) hK (hP.sub (ws' := (bW bh br cI cJ cB (nI cc) nA mA aA (fun j => nI (fcA j)) fA (fun j => nI (mcA j)) mmA wA tcA g1A g2A nuA (fun j => nI (erA j)) reA (fun j => nI (liA j)) (fun j => nI (lcA j)))) [0, 1, 2, 3, 4, 5, 6, 7, 8, 9, 10, 11, 12, 13, 14, 15, 16] rfl) hE rfl rfl rfl) rfl rfl hl.1 rfl (lv_room (Nat.le_of_ble_eq_true rfl)) dX1_linkedField_67 ⟨(show 0 + 0 ≤ 0 by omega), (show 0 + 0 ≤ 0 by omega)⟩) (fun r1 hw => ?_)
    have hw : (r1 = 0 ∨ r1 = 1) := hw
    have w0r1 := hw
    refine lv_aload_n hx hb dX1_linkedField_70 rfl (lv_at hl 1 rfl) ?_
    refine vp_callSi (W.runV (As := []) (rest := [.int r1]) ⟨hx, hb, hml, hown, hts⟩ (kX5_asksStatic l dC dI uh ug cI cJ cB uk uc uo uy uw ut uf uq) (cwV 0 hts zgX1_linkedField_X5_asksStatic_71 rfl rfl rfl (by decide +kernel) ⟨(show 0 + 1 ≤ 3 by omega), (show 8 + (1 + 11) + 0 ≤ 71 by omega)⟩) (zVq (ci := 4) (q0 := 0) (q := (RX5, TX5, 5)) hK (hP.sub (ws' := (uW uh ug cI cJ cB uk uc uo uy uw ut uf uq)) [17, 18] rfl) hE rfl rfl rfl) rfl rfl hl.1 rfl (lv_room (Nat.le_of_ble_eq_true rfl)) dX1_linkedField_71 ⟨(show 0 + 0 ≤ 0 by omega), (show 0 + 0 ≤ 0 by omega)⟩) (fun r2 hw => ?_)
    have hw : (r2 = 0 ∨ r2 = 1) := hw
    have w0r2 := hw
    refine lv_icmp_eq (tgt := 82) hx hb dX1_linkedField_74 (by decide) (fun cp74 => ?_) (fun cp74 => ?_)
    · refine lv_iload hx hb dX1_linkedField_82 (lv_at hl 3 rfl) ?_
      refine lv_if_eq (tgt := 110) hx hb dX1_linkedField_84 (by decide) (fun cp84 => ?_) (fun cp84 => ?_)
      · exact J110 sp ls  (by first | omega | assumption | trivial) (lv_sub hl [2] rfl)
      · refine lv_aload_n hx hb dX1_linkedField_87 rfl (lv_at hl 1 rfl) ?_
        refine vp_callSi (W.runV (As := []) (rest := []) ⟨hx, hb, hml, hown, hts⟩ (kX5_puts l dC dI uh ug cI cJ cB uk uc uo uy uw ut uf uq) (cwV 0 hts zgX1_linkedField_X5_puts_74 rfl rfl rfl (by decide +kernel) ⟨(show 0 + 1 ≤ 3 by omega), (show 8 + (1 + 11) + 0 ≤ 71 by omega)⟩) (zVq (ci := 4) (q0 := 0) (q := (RX5, TX5, 5)) hK (hP.sub (ws' := (uW uh ug cI cJ cB uk uc uo uy uw ut uf uq)) [17, 18] rfl) hE rfl rfl rfl) rfl rfl hl.1 rfl (lv_room (Nat.le_of_ble_eq_true rfl)) dX1_linkedField_88 ⟨(show 0 + 0 ≤ 0 by omega), (show 0 + 0 ≤ 0 by omega)⟩) (fun r3 hw => ?_)
        have hw : (r3 = 0 ∨ r3 = 1) := hw
        have w0r3 := hw
        refine lv_if_eq (tgt := 110) hx hb dX1_linkedField_91 (by decide) (fun cp91 => ?_) (fun cp91 => ?_)
        · exact J110 sp ls  (by first | omega | assumption | trivial) (lv_sub hl [2] rfl)
        · refine lv_aload_n hx hb dX1_linkedField_94 rfl (lv_at hl 0 rfl) ?_
          refine lv_iload hx hb dX1_linkedField_95 (lv_at hl 2 rfl) ?_
          refine lv_iconst (v := 4) hx hb dX1_linkedField_97 (by decide) ?_
          refine vp_callSi (W.runV (As := [.int (nI sp), .int 4]) (rest := []) ⟨hx, hb, hml, hown, hts⟩ (kX0_has l dC dI bh br cI cJ cB cc nA mA aA fcA fA mcA mmA wA tcA g1A g2A nuA erA reA liA lcA ⟨by omega, hfcA, hmcA, herA, hliA, hlcA⟩ sp (4 : Int32) (by first | omega | assumption | trivial)) (cwV 2 hts zgX1_linkedField_X0_has_67 rfl rfl rfl (by decide +kernel) ⟨(show 0 + 1 ≤ 3 by omega), (show 8 + (3 + 11) + 0 ≤ 71 by omega)⟩) (zVq (ci := 0) (q0 := 0) (q := (RX0, TX0, 17)) hK (hP.sub (ws' := (bW bh br cI cJ cB (nI cc) nA mA aA (fun j => nI (fcA j)) fA (fun j => nI (mcA j)) mmA wA tcA g1A g2A nuA (fun j => nI (erA j)) reA (fun j => nI (liA j)) (fun j => nI (lcA j)))) [0, 1, 2, 3, 4, 5, 6, 7, 8, 9, 10, 11, 12, 13, 14, 15, 16] rfl) hE rfl rfl rfl) rfl rfl hl.1 rfl (lv_room (Nat.le_of_ble_eq_true rfl)) dX1_linkedField_98 ⟨(show 0 + 0 ≤ 0 by omega), (show 0 + 0 ≤ 0 by omega)⟩) (fun r4 hw => ?_)
          have hw : (r4 = 0 ∨ r4 = 1) := hw
          have w0r4 := hw
          refine lv_if_eq (tgt := 110) hx hb dX1_linkedField_101 (by decide) (fun cp101 => ?_) (fun cp101 => ?_)
          · exact J110 sp ls  (by first | omega | assumption | trivial) (lv_sub hl [2] rfl)
          · refine lv_bipush (v := 8) hx hb dX1_linkedField_104 (by decide) ?_
            refine vp_callSi (W.runS (As := [.int 8]) (rest := []) ⟨hx, hb, hml, hown, hts⟩ (kX1_failed l dC dI   8 (by first | omega | assumption | trivial)) (va_cwS 1 hts zgX1_linkedField_X1_failed_27 rfl rfl rfl (by decide +kernel) ⟨(show 0 + 1 ≤ 3 by omega), (show 8 + (1 + 11) + 0 ≤ 71 by omega)⟩) (zSq (hK.sub (tys' := []) [] rfl) (hP.sub (ws' := ([] : va_W)) [] rfl) hE) rfl rfl hl.1 rfl (lv_room (Nat.le_of_ble_eq_true rfl)) dX1_linkedField_106 ⟨(show 0 + 0 ≤ 0 by omega), (show 0 + 0 ≤ 0 by omega)⟩) (fun r5 hw => ?_)
            have hw : (r5 < 0) := hw
            have w0r5 := hw
            exact W.iret (v := r5) hx hb hr (fun t ht hW => ⟨r5, rfl, (Or.inl w0r5), ht⟩) (fun _ h => by cases h) dX1_linkedField_109
    · refine lv_iconst (v := 4) hx hb dX1_linkedField_77 (by decide) ?_
      refine vp_callSi (W.runS (As := [.int 4]) (rest := []) ⟨hx, hb, hml, hown, hts⟩ (kX1_failed l dC dI   4 (by first | omega | assumption | trivial)) (va_cwS 1 hts zgX1_linkedField_X1_failed_27 rfl rfl rfl (by decide +kernel) ⟨(show 0 + 1 ≤ 3 by omega), (show 8 + (1 + 11) + 0 ≤ 71 by omega)⟩) (zSq (hK.sub (tys' := []) [] rfl) (hP.sub (ws' := ([] : va_W)) [] rfl) hE) rfl rfl hl.1 rfl (lv_room (Nat.le_of_ble_eq_true rfl)) dX1_linkedField_78 ⟨(show 0 + 0 ≤ 0 by omega), (show 0 + 0 ≤ 0 by omega)⟩) (fun r6 hw => ?_)
      have hw : (r6 < 0) := hw
      have w0r6 := hw
      exact W.iret (v := r6) hx hb hr (fun t ht hW => ⟨r6, rfl, (Or.inl w0r6), ht⟩) (fun _ h => by cases h) dX1_linkedField_81
  have J42 : ∀ (sp : Nat) (fo : Int32) (ls : Array Slot), (sp < 208) → lv_has ls 6 [(0, .ref bh), (1, .ref uh), (4, .int (nI sp)), (5, .int fo)] → W p l e (headSpec zwX1_linkedField { frames := 3, cells := 0, slots := 0, locals := 71 }).room s m (([.ref bh, .ref uh, .int ca, .int (nI ow)] : List Value).toArray) below meth c s.heap [] 0 0 (MQ below (vp_Si (fun r => (zSp r (fun k => k < 208)))) (([.ref bh, .ref uh, .int ca, .int (nI ow)] : List Value).toArray) s 0 0 (fun _ => False)) (F0 m 42 ls []) := by
    intro sp fo ls i42_0 hl
    refine lv_iload hx hb dX1_linkedField_42 (lv_at hl 3 rfl) ?_
    refine lv_if_eq (tgt := 63) hx hb dX1_linkedField_44 (by decide) (fun cp44 => ?_) (fun cp44 => ?_)
    · exact J63 sp fo ls  (by first | omega | assumption | trivial) (lv_sub hl [0, 1, 2, 3] rfl)
    · refine lv_aload_n hx hb dX1_linkedField_47 rfl (lv_at hl 0 rfl) ?_
      refine lv_iload hx hb dX1_linkedField_48 (lv_at hl 2 rfl) ?_
      refine lv_iconst (v := 2) hx hb dX1_linkedField_50 (by decide) ?_
      refine vp_callSi (W.runV (As := [.int (nI sp), .int 2]) (rest := []) ⟨hx, hb, hml, hown, hts⟩ (kX0_has l dC dI bh br cI cJ cB cc nA mA aA fcA fA mcA mmA wA tcA g1A g2A nuA erA reA liA lcA ⟨by omega, hfcA, hmcA, herA, hliA, hlcA⟩ sp (2 : Int32) (by first | omega | assumption | trivial)) (cwV 2 hts zgX1_linkedField_X0_has_67 rfl rfl rfl (by decide +kernel) ⟨(show 0 + 1 ≤ 3 by omega), (show 8 + (3 + 11) + 0 ≤ 71 by omega)⟩) (zVq (ci := 0) (q0 := 0) (q := (RX0, TX0, 17)) hK (hP.sub (ws' := (bW bh br cI cJ cB (nI cc) nA mA aA (fun j => nI (fcA j)) fA (fun j => nI (mcA j)) mmA wA tcA g1A g2A nuA (fun j => nI (erA j)) reA (fun j => nI (liA j)) (fun j => nI (lcA j)))) [0, 1, 2, 3, 4, 5, 6, 7, 8, 9, 10, 11, 12, 13, 14, 15, 16] rfl) hE rfl rfl rfl) rfl rfl hl.1 rfl (lv_room (Nat.le_of_ble_eq_true rfl)) dX1_linkedField_51 ⟨(show 0 + 0 ≤ 0 by omega), (show 0 + 0 ≤ 0 by omega)⟩) (fun r7 hw => ?_)
      have hw : (r7 = 0 ∨ r7 = 1) := hw
      have w0r7 := hw
      refine lv_if_eq (tgt := 63) hx hb dX1_linkedField_54 (by decide) (fun cp54 => ?_) (fun cp54 => ?_)
      · exact J63 sp fo ls  (by first | omega | assumption | trivial) (lv_sub hl [0, 1, 2, 3] rfl)
      · refine lv_bipush (v := 8) hx hb dX1_linkedField_57 (by decide) ?_
        refine vp_callSi (W.runS (As := [.int 8]) (rest := []) ⟨hx, hb, hml, hown, hts⟩ (kX1_failed l dC dI   8 (by first | omega | assumption | trivial)) (va_cwS 1 hts zgX1_linkedField_X1_failed_27 rfl rfl rfl (by decide +kernel) ⟨(show 0 + 1 ≤ 3 by omega), (show 8 + (1 + 11) + 0 ≤ 71 by omega)⟩) (zSq (hK.sub (tys' := []) [] rfl) (hP.sub (ws' := ([] : va_W)) [] rfl) hE) rfl rfl hl.1 rfl (lv_room (Nat.le_of_ble_eq_true rfl)) dX1_linkedField_59 ⟨(show 0 + 0 ≤ 0 by omega), (show 0 + 0 ≤ 0 by omega)⟩) (fun r8 hw => ?_)
        have hw : (r8 < 0) := hw
        have w0r8 := hw
        exact W.iret (v := r8) hx hb hr (fun t ht hW => ⟨r8, rfl, (Or.inl w0r8), ht⟩) (fun _ h => by cases h) dX1_linkedField_62
  refine lv_aload_n hx hb dX1_linkedField_0 rfl (lv_at hl 0 rfl) ?_
  refine lv_iload_n hx hb dX1_linkedField_1 rfl (lv_at hl 3 rfl) ?_
  refine lv_aload_n hx hb dX1_linkedField_2 rfl (lv_at hl 1 rfl) ?_
  refine va_get (D := (dC, dI)) (ci := 4) (v := .ref ug) (C := RX5) (T := TX5) (N := 5) hx hb hts hiX5 hown hK hP 17 rfl rfl 3 (by decide) (hts (.fieldLink RX1 50 "LinkModels$Use" "wanted" "LLinkModels$Signature;") (by decide +kernel)) (fun _ h9 => h9) rfl dX1_linkedField_3 ?_
  refine va_get (D := (dC, dI)) (ci := 2) (v := .long uw) (C := RX3) (T := TX3) (N := 4) hx hb hts hiX3 hown hK hP 18 rfl rfl 0 (by decide) (hts (.fieldLink RX1 54 "LinkModels$Signature" "word" "J") (by decide +kernel)) (fun _ h9 => h9) rfl dX1_linkedField_6 ?_
  refine vp_callSi (W.runV (As := [.int (nI ow), .long uw]) (rest := []) ⟨hx, hb, hml, hown, hts⟩ (kX0_fieldFrom l dC dI bh br cI cJ cB cc nA mA aA fcA fA mcA mmA wA tcA g1A g2A nuA erA reA liA lcA ⟨by omega, hfcA, hmcA, herA, hliA, hlcA⟩ ow uw (by first | omega | assumption | trivial)) (cwV 2 hts zgX1_linkedField_X0_fieldFrom_60 rfl rfl rfl (by decide +kernel) ⟨(show 2 + 1 ≤ 3 by omega), (show 8 + (6 + 11) + 46 ≤ 71 by omega)⟩) (zVq (ci := 0) (q0 := 0) (q := (RX0, TX0, 17)) hK (hP.sub (ws' := (bW bh br cI cJ cB (nI cc) nA mA aA (fun j => nI (fcA j)) fA (fun j => nI (mcA j)) mmA wA tcA g1A g2A nuA (fun j => nI (erA j)) reA (fun j => nI (liA j)) (fun j => nI (lcA j)))) [0, 1, 2, 3, 4, 5, 6, 7, 8, 9, 10, 11, 12, 13, 14, 15, 16] rfl) hE rfl rfl rfl) rfl rfl hl.1 rfl (lv_room (Nat.le_of_ble_eq_true rfl)) dX1_linkedField_9 ⟨(show 0 + 0 ≤ 0 by omega), (show 0 + 0 ≤ 0 by omega)⟩) (fun r9 hw => ?_)
  have hw : (zM r9 (fun k => k < 208)) := hw
  have w0r9 := hw
  refine lv_istore (lv' := [(4, .int r9), (0, .ref bh), (1, .ref uh), (2, .int ca), (3, .int (nI ow))]) hx hb dX1_linkedField_12 hl (by decide) rfl (fun ls hl => ?_)
  refine lv_iload hx hb dX1_linkedField_14 (lv_at hl 0 rfl) ?_
  refine lv_iconst (v := (-1)) hx hb dX1_linkedField_16 (by decide) ?_
  refine lv_icmp_ne (tgt := 26) hx hb dX1_linkedField_17 (by decide) (fun cp17 => ?_) (fun cp17 => ?_)
  · obtain ⟨k10, hBk10, hQk10, rfl⟩ := w0r9.resolve_left cp17
    refine lv_iload hx hb dX1_linkedField_26 (lv_at hl 0 rfl) ?_
    refine vp_callSi (z_runC (va_runSN (As := [.int (nI k10)]) (rest := []) ⟨hx, hb, hml, hown, hts⟩ (kX6_classOf l dC dI   (nI k10) (zSp.mk (by omega) (by first | trivial | omega | assumption))) ⟨va_cnB 1 hts zgX1_linkedField_X6_classOf_64 rfl rfl rfl hE.2.1 (hts (.initialized RX6) (by decide +kernel)) (by decide +kernel) ⟨(show 0 + 1 ≤ 3 by omega), (show 8 + (1 + 11) + 0 ≤ 71 by omega)⟩, (hts (.static yX6_classOf) (by decide +kernel)), trivial⟩ (zSq (hK.sub (tys' := []) [] rfl) (hP.sub (ws' := ([] : va_W)) [] rfl) hE) rfl rfl hl.1 rfl (lv_room (Nat.le_of_ble_eq_true rfl)) dX1_linkedField_28 ⟨(show 0 + 0 ≤ 0 by omega), (show 0 + 0 ≤ 0 by omega)⟩)) (fun r11 hw => ?_)
    have hw : (zSp r11 (fun k => k < 16)) ∧ (¬ ((nI k10)) < 0 → zIn16 r11) := hw
    obtain ⟨w0r11, w1r11⟩ := hw
    refine lv_iload_n hx hb dX1_linkedField_31 rfl (lv_at hl 3 rfl) ?_
    refine lv_icmp_eq (tgt := 39) hx hb dX1_linkedField_32 (by decide) (fun cp32 => ?_) (fun cp32 => ?_)
    · refine lv_iconst (v := 0) hx hb dX1_linkedField_39 (by decide) ?_
      refine lv_istore (lv' := [(5, .int 0), (4, .int (nI k10)), (0, .ref bh), (1, .ref uh), (2, .int ca), (3, .int (nI ow))]) hx hb dX1_linkedField_40 hl (by decide) rfl (fun ls hl => ?_)
      exact J42 k10 (0 : Int32) ls  (by first | omega | assumption | trivial) (lv_sub hl [2, 3, 1, 0] rfl)
    · refine lv_iconst (v := 1) hx hb dX1_linkedField_35 (by decide) ?_
      refine lv_goto (tgt := 40) hx hb dX1_linkedField_36 (by decide) ?_
      refine lv_istore (lv' := [(5, .int 1), (4, .int (nI k10)), (0, .ref bh), (1, .ref uh), (2, .int ca), (3, .int (nI ow))]) hx hb dX1_linkedField_40 hl (by decide) rfl (fun ls hl => ?_)
      exact J42 k10 (1 : Int32) ls  (by first | omega | assumption | trivial) (lv_sub hl [2, 3, 1, 0] rfl)
  · obtain rfl : r9 = -1 := cp17
    refine lv_bipush (v := 7) hx hb dX1_linkedField_20 (by decide) ?_
    refine vp_callSi (W.runS (As := [.int 7]) (rest := []) ⟨hx, hb, hml, hown, hts⟩ (kX1_failed l dC dI   7 (by first | omega | assumption | trivial)) (va_cwS 1 hts zgX1_linkedField_X1_failed_27 rfl rfl rfl (by decide +kernel) ⟨(show 0 + 1 ≤ 3 by omega), (show 8 + (1 + 11) + 0 ≤ 71 by omega)⟩) (zSq (hK.sub (tys' := []) [] rfl) (hP.sub (ws' := ([] : va_W)) [] rfl) hE) rfl rfl hl.1 rfl (lv_room (Nat.le_of_ble_eq_true rfl)) dX1_linkedField_22 ⟨(show 0 + 0 ≤ 0 by omega), (show 0 + 0 ≤ 0 by omega)⟩) (fun r12 hw => ?_)
    have hw : (r12 < 0) := hw
    have w0r12 := hw
    exact W.iret (v := r12) hx hb hr (fun t ht hW => ⟨r12, rfl, (Or.inl w0r12), ht⟩) (fun _ h => by cases h) dX1_linkedField_25
theorem dX1_linkedMethod_0 : decode cX1_linkedMethod 0 = .ok (.aload_n 1, 1) := by decide +kernel
theorem dX1_linkedMethod_1 : decode cX1_linkedMethod 1 = .ok (.getfield 32, 3) := by decide +kernel
theorem dX1_linkedMethod_4 : decode cX1_linkedMethod 4 = .ok (.aload_n 0, 1) := by decide +kernel
theorem dX1_linkedMethod_5 : decode cX1_linkedMethod 5 = .ok (.iload_n 3, 1) := by decide +kernel
theorem dX1_linkedMethod_6 : decode cX1_linkedMethod 6 = .ok (.invokevirtual 77, 3) := by decide +kernel
theorem dX1_linkedMethod_9 : decode cX1_linkedMethod 9 = .ok (.ifCond .eq 7, 3) := by decide +kernel
theorem dX1_linkedMethod_12 : decode cX1_linkedMethod 12 = .ok (.iconst 4, 1) := by decide +kernel
theorem dX1_linkedMethod_13 : decode cX1_linkedMethod 13 = .ok (.goto 5, 3) := by decide +kernel
theorem dX1_linkedMethod_16 : decode cX1_linkedMethod 16 = .ok (.bipush 7, 2) := by decide +kernel
theorem dX1_linkedMethod_18 : decode cX1_linkedMethod 18 = .ok (.if_icmp .ne 8, 3) := by decide +kernel
theorem dX1_linkedMethod_21 : decode cX1_linkedMethod 21 = .ok (.iconst 4, 1) := by decide +kernel
theorem dX1_linkedMethod_22 : decode cX1_linkedMethod 22 = .ok (.invokestatic 27, 3) := by decide +kernel
theorem dX1_linkedMethod_25 : decode cX1_linkedMethod 25 = .ok (.ireturn, 1) := by decide +kernel
theorem dX1_linkedMethod_26 : decode cX1_linkedMethod 26 = .ok (.aload_n 0, 1) := by decide +kernel
theorem dX1_linkedMethod_27 : decode cX1_linkedMethod 27 = .ok (.iload_n 3, 1) := by decide +kernel
theorem dX1_linkedMethod_28 : decode cX1_linkedMethod 28 = .ok (.aload_n 1, 1) := by decide +kernel
theorem dX1_linkedMethod_29 : decode cX1_linkedMethod 29 = .ok (.getfield 50, 3) := by decide +kernel
theorem dX1_linkedMethod_32 : decode cX1_linkedMethod 32 = .ok (.iconst 0, 1) := by decide +kernel
theorem dX1_linkedMethod_33 : decode cX1_linkedMethod 33 = .ok (.invokevirtual 80, 3) := by decide +kernel
theorem dX1_linkedMethod_36 : decode cX1_linkedMethod 36 = .ok (.istore 4, 2) := by decide +kernel
theorem dX1_linkedMethod_38 : decode cX1_linkedMethod 38 = .ok (.iload 4, 2) := by decide +kernel
theorem dX1_linkedMethod_40 : decode cX1_linkedMethod 40 = .ok (.iconst (-1), 1) := by decide +kernel
theorem dX1_linkedMethod_41 : decode cX1_linkedMethod 41 = .ok (.if_icmp .ne 14, 3) := by decide +kernel
theorem dX1_linkedMethod_44 : decode cX1_linkedMethod 44 = .ok (.aload_n 0, 1) := by decide +kernel
theorem dX1_linkedMethod_45 : decode cX1_linkedMethod 45 = .ok (.aload_n 1, 1) := by decide +kernel
theorem dX1_linkedMethod_46 : decode cX1_linkedMethod 46 = .ok (.getfield 50, 3) := by decide +kernel
theorem dX1_linkedMethod_49 : decode cX1_linkedMethod 49 = .ok (.iload_n 3, 1) := by decide +kernel
theorem dX1_linkedMethod_50 : decode cX1_linkedMethod 50 = .ok (.invokestatic 84, 3) := by decide +kernel
theorem dX1_linkedMethod_53 : decode cX1_linkedMethod 53 = .ok (.istore 4, 2) := by decide +kernel
theorem dX1_linkedMethod_55 : decode cX1_linkedMethod 55 = .ok (.iload 4, 2) := by decide +kernel
theorem dX1_linkedMethod_57 : decode cX1_linkedMethod 57 = .ok (.iconst (-1), 1) := by decide +kernel
theorem dX1_linkedMethod_58 : decode cX1_linkedMethod 58 = .ok (.if_icmp .ne 9, 3) := by decide +kernel
theorem dX1_linkedMethod_61 : decode cX1_linkedMethod 61 = .ok (.bipush 9, 2) := by decide +kernel
theorem dX1_linkedMethod_63 : decode cX1_linkedMethod 63 = .ok (.invokestatic 27, 3) := by decide +kernel
theorem dX1_linkedMethod_66 : decode cX1_linkedMethod 66 = .ok (.ireturn, 1) := by decide +kernel
theorem dX1_linkedMethod_67 : decode cX1_linkedMethod 67 = .ok (.iload 4, 2) := by decide +kernel
theorem dX1_linkedMethod_69 : decode cX1_linkedMethod 69 = .ok (.invokestatic 64, 3) := by decide +kernel
theorem dX1_linkedMethod_72 : decode cX1_linkedMethod 72 = .ok (.iload_n 2, 1) := by decide +kernel
theorem dX1_linkedMethod_73 : decode cX1_linkedMethod 73 = .ok (.if_icmp .eq 19, 3) := by decide +kernel
theorem dX1_linkedMethod_76 : decode cX1_linkedMethod 76 = .ok (.aload_n 0, 1) := by decide +kernel
theorem dX1_linkedMethod_77 : decode cX1_linkedMethod 77 = .ok (.iload 4, 2) := by decide +kernel
theorem dX1_linkedMethod_79 : decode cX1_linkedMethod 79 = .ok (.iconst 2, 1) := by decide +kernel
theorem dX1_linkedMethod_80 : decode cX1_linkedMethod 80 = .ok (.invokevirtual 67, 3) := by decide +kernel
theorem dX1_linkedMethod_83 : decode cX1_linkedMethod 83 = .ok (.ifCond .eq 9, 3) := by decide +kernel
theorem dX1_linkedMethod_86 : decode cX1_linkedMethod 86 = .ok (.bipush 8, 2) := by decide +kernel
theorem dX1_linkedMethod_88 : decode cX1_linkedMethod 88 = .ok (.invokestatic 27, 3) := by decide +kernel
theorem dX1_linkedMethod_91 : decode cX1_linkedMethod 91 = .ok (.ireturn, 1) := by decide +kernel
theorem dX1_linkedMethod_92 : decode cX1_linkedMethod 92 = .ok (.aload_n 0, 1) := by decide +kernel
theorem dX1_linkedMethod_93 : decode cX1_linkedMethod 93 = .ok (.iload 4, 2) := by decide +kernel
theorem dX1_linkedMethod_95 : decode cX1_linkedMethod 95 = .ok (.iconst 1, 1) := by decide +kernel
theorem dX1_linkedMethod_96 : decode cX1_linkedMethod 96 = .ok (.invokevirtual 67, 3) := by decide +kernel
theorem dX1_linkedMethod_99 : decode cX1_linkedMethod 99 = .ok (.aload_n 1, 1) := by decide +kernel
theorem dX1_linkedMethod_100 : decode cX1_linkedMethod 100 = .ok (.invokevirtual 71, 3) := by decide +kernel
theorem dX1_linkedMethod_103 : decode cX1_linkedMethod 103 = .ok (.if_icmp .eq 8, 3) := by decide +kernel
theorem dX1_linkedMethod_106 : decode cX1_linkedMethod 106 = .ok (.iconst 4, 1) := by decide +kernel
theorem dX1_linkedMethod_107 : decode cX1_linkedMethod 107 = .ok (.invokestatic 27, 3) := by decide +kernel
theorem dX1_linkedMethod_110 : decode cX1_linkedMethod 110 = .ok (.ireturn, 1) := by decide +kernel
theorem dX1_linkedMethod_111 : decode cX1_linkedMethod 111 = .ok (.aload_n 1, 1) := by decide +kernel
theorem dX1_linkedMethod_112 : decode cX1_linkedMethod 112 = .ok (.getfield 32, 3) := by decide +kernel
theorem dX1_linkedMethod_115 : decode cX1_linkedMethod 115 = .ok (.bipush 6, 2) := by decide +kernel
theorem dX1_linkedMethod_117 : decode cX1_linkedMethod 117 = .ok (.if_icmp .ne 20, 3) := by decide +kernel
theorem dX1_linkedMethod_120 : decode cX1_linkedMethod 120 = .ok (.aload_n 0, 1) := by decide +kernel
theorem dX1_linkedMethod_121 : decode cX1_linkedMethod 121 = .ok (.iload 4, 2) := by decide +kernel
theorem dX1_linkedMethod_123 : decode cX1_linkedMethod 123 = .ok (.bipush 8, 2) := by decide +kernel
theorem dX1_linkedMethod_125 : decode cX1_linkedMethod 125 = .ok (.invokevirtual 67, 3) := by decide +kernel
theorem dX1_linkedMethod_128 : decode cX1_linkedMethod 128 = .ok (.ifCond .eq 9, 3) := by decide +kernel
theorem dX1_linkedMethod_131 : decode cX1_linkedMethod 131 = .ok (.bipush 10, 2) := by decide +kernel
theorem dX1_linkedMethod_133 : decode cX1_linkedMethod 133 = .ok (.invokestatic 27, 3) := by decide +kernel
theorem dX1_linkedMethod_136 : decode cX1_linkedMethod 136 = .ok (.ireturn, 1) := by decide +kernel
theorem dX1_linkedMethod_137 : decode cX1_linkedMethod 137 = .ok (.iload 4, 2) := by decide +kernel
theorem dX1_linkedMethod_139 : decode cX1_linkedMethod 139 = .ok (.ireturn, 1) := by decide +kernel
def zwX1_linkedMethod : List Cond := .code yX1_linkedMethod cX1_linkedMethod 5 (some .int) :: ([.fieldLink RX1 32 "LinkModels$Use" "kind" "I", .initialized RX6, .static yX6_classOf, .fieldLink RX1 50 "LinkModels$Use" "wanted" "LLinkModels$Signature;", .methodLink RX1 67 yX0_has, .instanceMethod yX0_has, .selects RX0 yX0_has yX0_has, .initialized RX0, .code yX0_has cX0_has 3 (some .boolean), .fieldLink RX0 30 "LinkModels$Build" "memberMarks" "[I", .methodLink RX1 71 yX5_asksStatic, .instanceMethod yX5_asksStatic, .selects RX5 yX5_asksStatic yX5_asksStatic, .initialized RX5, .code yX5_asksStatic cX5_asksStatic 1 (some .boolean), .fieldLink RX5 9 "LinkModels$Use" "kind" "I", .methodLink RX1 27 yX1_failed, .static yX1_failed, .initialized RX1, .code yX1_failed cX1_failed 1 (some .int), .code yX6_classOf cX6_classOf 1 (some .int), .methodLink RX1 80 yX0_methodFrom, .instanceMethod yX0_methodFrom, .selects RX0 yX0_methodFrom yX0_methodFrom, .code yX0_methodFrom cX0_methodFrom 7 (some .int), .fieldLink RX0 58 "LinkModels$Build" "lineCounts" "[I", .fieldLink RX0 55 "LinkModels$Build" "lines" "[I", .methodLink RX0 82 yX0_has, .methodLink RX0 94 yX0_methodIn, .instanceMethod yX0_methodIn, .selects RX0 yX0_methodIn yX0_methodIn, .code yX0_methodIn cX0_methodIn 5 (some .int), .fieldLink RX0 37 "LinkModels$Build" "typeCounts" "[I", .fieldLink RX0 71 "LinkModels$Signature" "typeCount" "I", .fieldLink RX0 40 "LinkModels$Build" "firsts" "[I", .fieldLink RX0 74 "LinkModels$Signature" "first" "I", .fieldLink RX0 43 "LinkModels$Build" "seconds" "[I", .fieldLink RX0 77 "LinkModels$Signature" "second" "I", .fieldLink RX0 27 "LinkModels$Build" "memberCounts" "[I", .fieldLink RX0 33 "LinkModels$Build" "words" "[J", .fieldLink RX0 65 "LinkModels$Signature" "word" "J", .methodLink RX0 90 yX0_isFace, .instanceMethod yX0_isFace, .selects RX0 yX0_isFace yX0_isFace, .code yX0_isFace cX0_isFace 2 (some .boolean), .fieldLink RX0 15 "LinkModels$Build" "classMarks" "[I", .methodLink RX1 84 yX1_foundInFaces, .static yX1_foundInFaces, .code yX1_foundInFaces cX1_foundInFaces 5 (some .int), .methodLink RX1 88 yX0_nearestFaces, .instanceMethod yX0_nearestFaces, .selects RX0 yX0_nearestFaces yX0_nearestFaces, .code yX0_nearestFaces cX0_nearestFaces 7 (some .int), .fieldLink RX0 61 "LinkModels$Build" "classCount" "I", .fieldLink RX0 52 "LinkModels$Build" "reached" "[I", .methodLink RX1 92 yX0_withBody, .instanceMethod yX0_withBody, .selects RX0 yX0_withBody yX0_withBody, .code yX0_withBody cX0_withBody 6 (some .int), .methodLink RX1 95 yJ6_bitCount_0f7a4, .static yJ6_bitCount_0f7a4, .initialized RJ6, .code yJ6_bitCount_0f7a4 cJ6_bitCount_0f7a4 1 (some .int), .constant RJ6 265 (1431655765), .constant RJ6 266 (858993459), .constant RJ6 267 (252645135), .methodLink RX1 100 yX0_firstMethodOf, .instanceMethod yX0_firstMethodOf, .selects RX0 yX0_firstMethodOf yX0_firstMethodOf, .code yX0_firstMethodOf cX0_firstMethodOf 6 (some .int), .methodLink RX1 77 yX0_isFace] ++ wsX50 ++ wsX00 ++ wsX30)
theorem zgX1_linkedMethod_X0_has_67 : GoodIn zwX1_linkedMethod (wsV RX1 67 RX0 yX0_has zwX0_has) := goodIn_app (goodIn_r _ [5, 6, 7, 8] rfl (by decide +kernel)) (goodIn_app (goodIn_r _ [9, 10] rfl (by decide +kernel)) (fun w hw => ⟨(List.mem_cons_of_mem _ (List.mem_append_left _ (List.mem_append_right _ hw))), good_of_word (List.all_eq_true.mp zgX0 w hw)⟩))
theorem zgX1_linkedMethod_X5_asksStatic_71 : GoodIn zwX1_linkedMethod (wsV RX1 71 RX5 yX5_asksStatic zwX5_asksStatic) := goodIn_app (goodIn_r _ [11, 12, 13, 14] rfl (by decide +kernel)) (goodIn_app (goodIn_r _ [15, 16] rfl (by decide +kernel)) (fun w hw => ⟨(List.mem_cons_of_mem _ (List.mem_append_left _ (List.mem_append_left _ (List.mem_append_right _ hw)))), good_of_word (List.all_eq_true.mp zgX5 w hw)⟩))
theorem zgX1_linkedMethod_X1_failed_27 : GoodIn zwX1_linkedMethod (va_wsS RX1 27 yX1_failed zwX1_failed) := goodIn_app (goodIn_r _ [17, 18, 19] rfl (by decide +kernel)) (goodIn_r _ [20] rfl (by decide +kernel))
theorem zgX1_linkedMethod_X6_classOf_64 : GoodIn zwX1_linkedMethod zwX6_classOf := (goodIn_r _ [21] rfl (by decide +kernel))
theorem zgX1_linkedMethod_X0_methodFrom_80 : GoodIn zwX1_linkedMethod (wsV RX1 80 RX0 yX0_methodFrom zwX0_methodFrom) := goodIn_app (goodIn_r _ [22, 23, 24, 8] rfl (by decide +kernel)) (goodIn_app (goodIn_app (goodIn_r _ [25, 26, 27, 28, 6, 7, 8, 9, 10, 29, 30, 31, 32, 33, 34, 35, 36, 37, 38, 39, 40, 41, 42, 43, 44, 45, 46] rfl (by decide +kernel)) (fun w hw => ⟨(List.mem_cons_of_mem _ (List.mem_append_left _ (List.mem_append_right _ hw))), good_of_word (List.all_eq_true.mp zgX0 w hw)⟩)) (fun w hw => ⟨(List.mem_cons_of_mem _ (List.mem_append_right _ hw)), good_of_word (List.all_eq_true.mp zgX3 w hw)⟩))
theorem zgX1_linkedMethod_X1_foundInFaces_84 : GoodIn zwX1_linkedMethod (va_wsS RX1 84 yX1_foundInFaces zwX1_foundInFaces) := goodIn_app (goodIn_r _ [47, 48, 19] rfl (by decide +kernel)) (goodIn_app (goodIn_app (goodIn_r _ [49, 50, 51, 52, 8, 53, 54, 55, 26, 27, 28, 6, 7, 9, 10, 42, 43, 44, 45, 46, 29, 30, 31, 32, 33, 34, 35, 36, 37, 38, 39, 40, 41, 56, 57, 58, 59, 60, 61, 62, 63, 64, 65, 66, 67, 68, 69, 70] rfl (by decide +kernel)) (fun w hw => ⟨(List.mem_cons_of_mem _ (List.mem_append_left _ (List.mem_append_right _ hw))), good_of_word (List.all_eq_true.mp zgX0 w hw)⟩)) (fun w hw => ⟨(List.mem_cons_of_mem _ (List.mem_append_right _ hw)), good_of_word (List.all_eq_true.mp zgX3 w hw)⟩))
theorem zgX1_linkedMethod_X0_isFace_77 : GoodIn zwX1_linkedMethod (wsV RX1 77 RX0 yX0_isFace zwX0_isFace) := goodIn_app (goodIn_r _ [71, 43, 44, 8] rfl (by decide +kernel)) (goodIn_app (goodIn_r _ [45, 46] rfl (by decide +kernel)) (fun w hw => ⟨(List.mem_cons_of_mem _ (List.mem_append_left _ (List.mem_append_right _ hw))), good_of_word (List.all_eq_true.mp zgX0 w hw)⟩))
set_option maxHeartbeats 4000000 in
set_option maxRecDepth 100000 in
theorem kX1_linkedMethod (l : Launch) (dC : Nat → ClassId) (dI : Nat → Nat → Nat) (bh : Nat) (br : Nat → Nat) (uh : Nat) (ug : Nat) (cI : ClassId) (cJ : ClassId) (cB : ClassId) (cc : Nat) (nA : Nat → Int32) (mA : Nat → Int32) (aA : Nat → Int32) (fcA : Nat → Nat) (fA : Nat → Int32) (mcA : Nat → Nat) (mmA : Nat → Int32) (wA : Nat → Int64) (tcA : Nat → Int32) (g1A : Nat → Int32) (g2A : Nat → Int32) (nuA : Nat → Int32) (erA : Nat → Nat) (reA : Nat → Int32) (liA : Nat → Nat) (lcA : Nat → Nat) (uk : Int32) (uc : Int32) (uo : Int32) (uy : Int32) (uw : Int64) (ut : Int32) (uf : Int32) (uq : Int32) (hI : lWI cc fcA mcA erA liA lcA) (ca : Int32) (ow : Nat) (hp0 : ow < 16) : Met l yX1_linkedMethod zwX1_linkedMethod ({ frames := 3, cells := 0, slots := 0, locals := 74 }) (zPq dC dI [.ref bh, .ref uh, .int ca, .int (nI ow)] (lW bh br uh ug cI cJ cB (nI cc) nA mA aA (fun j => nI (fcA j)) fA (fun j => nI (mcA j)) mmA wA tcA g1A g2A nuA (fun j => nI (erA j)) reA (fun j => nI (liA j)) (fun j => nI (lcA j)) uk uc uo uy uw ut uf uq) [(cI, .int), (cJ, .long), (cB, .byte)]) (vp_Si (fun r => (zSp r (fun k => k < 208)))) 0 0 (fun _ => False) := by
  refine Met.ofW (cc := cX1_linkedMethod) (maxL := 5) (ret := (some .int)) (by decide) rfl ?_
  intro p e s m args below meth c s₁ B hml hv
  obtain ⟨rfl, hP, hK, hE⟩ := hv
  have hx := B.exec
  have hb := B.bytes
  have hr := B.returns
  have hts := atoms_spec (ws := zwX1_linkedMethod) B.pre
  have hown : s.vm.findClass RX1 = some m.cls := findClass_of_methodNamed B.named
  have hiX5 : ∀ w ∈ wsX50, w ∈ zwX1_linkedMethod := (fun w hw => (List.mem_cons_of_mem _ (List.mem_append_left _ (List.mem_append_left _ (List.mem_append_right _ hw)))))
  obtain ⟨hcc, hfcA, hmcA, herA, hliA, hlcA⟩ := hI
  have hl := lv_entry ([.ref bh, .ref uh, .int ca, .int (nI ow)]) (n := 5) (Nat.le_of_ble_eq_true rfl)
  rw [lg_entry_eq]
  generalize (lg_sl ([.ref bh, .ref uh, .int ca, .int (nI ow)]) ++ List.replicate (5 - (lg_sl ([.ref bh, .ref uh, .int ca, .int (nI ow)])).length) Slot.unset).toArray = ls at hl ⊢
  have hl : lv_has ls 5 [(0, .ref bh), (1, .ref uh), (2, .int ca), (3, .int (nI ow))] := hl
  have J137 : ∀ (sp : Nat) (ls : Array Slot), (sp < 208) → lv_has ls 5 [(4, .int (nI sp))] → W p l e (headSpec zwX1_linkedMethod { frames := 3, cells := 0, slots := 0, locals := 74 }).room s m (([.ref bh, .ref uh, .int ca, .int (nI ow)] : List Value).toArray) below meth c s.heap [] 0 0 (MQ below (vp_Si (fun r => (zSp r (fun k => k < 208)))) (([.ref bh, .ref uh, .int ca, .int (nI ow)] : List Value).toArray) s 0 0 (fun _ => False)) (F0 m 137 ls []) := by
    intro sp ls i137_0 hl
    refine lv_iload hx hb dX1_linkedMethod_137 (lv_at hl 0 rfl) ?_
    exact W.iret (v := (nI sp)) hx hb hr (fun t ht hW => ⟨(nI sp), rfl, (zSp.mk (by omega) (by first | trivial | omega | assumption)), ht⟩) (fun _ h => by cases h) dX1_linkedMethod_139
  have J92 : ∀ (sp : Nat) (ls : Array Slot), (sp < 208) → lv_has ls 5 [(0, .ref bh), (1, .ref uh), (4, .int (nI sp))] → W p l e (headSpec zwX1_linkedMethod { frames := 3, cells := 0, slots := 0, locals := 74 }).room s m (([.ref bh, .ref uh, .int ca, .int (nI ow)] : List Value).toArray) below meth c s.heap [] 0 0 (MQ below (vp_Si (fun r => (zSp r (fun k => k < 208)))) (([.ref bh, .ref uh, .int ca, .int (nI ow)] : List Value).toArray) s 0 0 (fun _ => False)) (F0 m 92 ls []) := by
    intro sp ls i92_0 hl
    refine lv_aload_n hx hb dX1_linkedMethod_92 rfl (lv_at hl 0 rfl) ?_
    refine lv_iload hx hb dX1_linkedMethod_93 (lv_at hl 2 rfl) ?_
    refine lv_iconst (v := 1) hx hb dX1_linkedMethod_95 (by decide) ?_
    refine vp_callSi (W.runV (As := [.int (nI sp), .int 1]) (rest := []) ⟨hx, hb, hml, hown, hts⟩ (kX0_has l dC dI bh br cI cJ cB cc nA mA aA fcA fA mcA mmA wA tcA g1A g2A nuA erA reA liA lcA ⟨by omega, hfcA, hmcA, herA, hliA, hlcA⟩ sp (1 : Int32) (by first | omega | assumption | trivial)) (cwV 2 hts zgX1_linkedMethod_X0_has_67 rfl rfl rfl (by decide +kernel) ⟨(show 0 + 1 ≤ 3 by omega), (show 8 + (3 + 11) + 0 ≤ 74 by omega)⟩) (zVq (ci := 0) (q0 := 0) (q := (RX0, TX0, 17)) hK (hP.sub (ws' := (bW bh br cI cJ cB (nI cc) nA mA aA (fun j => nI (fcA j)) fA (fun j => nI (mcA j)) mmA wA tcA g1A g2A nuA (fun j => nI (erA j)) reA (fun j => nI (liA j)) (fun j => nI (lcA j)))) [0, 1, 2, 3, 4, 5, 6, 7, 8, 9, 10, 11, 12, 13, 14, 15, 16] rfl) hE rfl rfl rfl) rfl rfl hl.1 rfl (lv_room (Nat.le_of_ble_eq_true rfl)) dX1_linkedMethod_96 ⟨(show 0 + 0 ≤ 0 by omega), (show 0 + 0 ≤ 0 by omega)⟩) (fun r1 hw => ?_)
    have hw : (r1 = 0 ∨ r1 = 1) := hw
    have w0r1 := hw
    refine lv_aload_n hx hb dX1_linkedMethod_99 rfl (lv_at hl 1 rfl) ?_
    refine vp_callSi (W.runV (As := []) (rest := [.int r1]) ⟨hx, hb, hml, hown, hts⟩ (kX5_asksStatic l dC dI uh ug cI cJ cB uk uc uo uy uw ut uf uq) (cwV 0 hts zgX1_linkedMethod_X5_asksStatic_71 rfl rfl rfl (by decide +kernel) ⟨(show 0 + 1 ≤ 3 by omega), (show 8 + (1 + 11) + 0 ≤ 74 by omega)⟩) (zVq (ci := 4) (q0 := 0) (q := (RX5, TX5, 5)) hK (hP.sub (ws' := (uW uh ug cI cJ cB uk uc uo uy uw ut uf uq)) [17, 18] rfl) hE rfl rfl rfl) rfl rfl hl.1 rfl (lv_room (Nat.le_of_ble_eq_true rfl)) dX1_linkedMethod_100 ⟨(show 0 + 0 ≤ 0 by omega), (show 0 + 0 ≤ 0 by omega)⟩) (fun r2 hw => ?_)
    have hw : (r2 = 0 ∨ r2 = 1) := hw
    have w0r2 := hw
    refine lv_icmp_eq (tgt := 111) hx hb dX1_linkedMethod_103 (by decide) (fun cp103 => ?_) (fun cp103 => ?_)
    · refine lv_aload_n hx hb dX1_linkedMethod_111 rfl (lv_at hl 1 rfl) ?_
      refine va_get (D := (dC, dI)) (ci := 4) (v := .int uk) (C := RX5) (T := TX5) (N := 5) hx hb hts hiX5 hown hK hP 17 rfl rfl 0 (by decide) (hts (.fieldLink RX1 32 "LinkModels$Use" "kind" "I") (by decide +kernel)) (fun _ h9 => h9) rfl dX1_linkedMethod_112 ?_
      refine lv_bipush (v := 6) hx hb dX1_linkedMethod_115 (by decide) ?_
      refine lv_icmp_ne (tgt := 137) hx hb dX1_linkedMethod_117 (by decide) (fun cp117 => ?_) (fun cp117 => ?_)
      · exact J137 sp ls  (by first | omega | assumption | trivial) (lv_sub hl [2] rfl)
      · refine lv_aload_n hx hb dX1_linkedMethod_120 rfl (lv_at hl 0 rfl) ?_
        refine lv_iload hx hb dX1_linkedMethod_121 (lv_at hl 2 rfl) ?_
        refine lv_bipush (v := 8) hx hb dX1_linkedMethod_123 (by decide) ?_
        refine vp_callSi (W.runV (As := [.int (nI sp), .int 8]) (rest := []) ⟨hx, hb, hml, hown, hts⟩ (kX0_has l dC dI bh br cI cJ cB cc nA mA aA fcA fA mcA mmA wA tcA g1A g2A nuA erA reA liA lcA ⟨by omega, hfcA, hmcA, herA, hliA, hlcA⟩ sp (8 : Int32) (by first | omega | assumption | trivial)) (cwV 2 hts zgX1_linkedMethod_X0_has_67 rfl rfl rfl (by decide +kernel) ⟨(show 0 + 1 ≤ 3 by omega), (show 8 + (3 + 11) + 0 ≤ 74 by omega)⟩) (zVq (ci := 0) (q0 := 0) (q := (RX0, TX0, 17)) hK (hP.sub (ws' := (bW bh br cI cJ cB (nI cc) nA mA aA (fun j => nI (fcA j)) fA (fun j => nI (mcA j)) mmA wA tcA g1A g2A nuA (fun j => nI (erA j)) reA (fun j => nI (liA j)) (fun j => nI (lcA j)))) [0, 1, 2, 3, 4, 5, 6, 7, 8, 9, 10, 11, 12, 13, 14, 15, 16] rfl) hE rfl rfl rfl) rfl rfl hl.1 rfl (lv_room (Nat.le_of_ble_eq_true rfl)) dX1_linkedMethod_125 ⟨(show 0 + 0 ≤ 0 by omega), (show 0 + 0 ≤ 0 by omega)⟩) (fun r3 hw => ?_)
        have hw : (r3 = 0 ∨ r3 = 1) := hw
        have w0r3 := hw
        refine lv_if_eq (tgt := 137) hx hb dX1_linkedMethod_128 (by decide) (fun cp128 => ?_) (fun cp128 => ?_)
        · exact J137 sp ls  (by first | omega | assumption | trivial) (lv_sub hl [2] rfl)
        · refine lv_bipush (v := 10) hx hb dX1_linkedMethod_131 (by decide) ?_
          refine vp_callSi (W.runS (As := [.int 10]) (rest := []) ⟨hx, hb, hml, hown, hts⟩ (kX1_failed l dC dI   10 (by first | omega | assumption | trivial)) (va_cwS 1 hts zgX1_linkedMethod_X1_failed_27 rfl rfl rfl (by decide +kernel) ⟨(show 0 + 1 ≤ 3 by omega), (show 8 + (1 + 11) + 0 ≤ 74 by omega)⟩) (zSq (hK.sub (tys' := []) [] rfl) (hP.sub (ws' := ([] : va_W)) [] rfl) hE) rfl rfl hl.1 rfl (lv_room (Nat.le_of_ble_eq_true rfl)) dX1_linkedMethod_133 ⟨(show 0 + 0 ≤ 0 by omega), (show 0 + 0 ≤ 0 by omega)⟩) (fun r4 hw => ?_)
          have hw : (r4 < 0) := hw
          have w0r4 := hw
          exact W.iret (v := r4) hx hb hr (fun t ht hW => ⟨r4, rfl, (Or.inl w0r4), ht⟩) (fun _ h => by cases h) dX1_linkedMethod_136
    · refine lv_iconst (v := 4) hx hb dX1_linkedMethod_106 (by decide) ?_
      refine vp_callSi (W.runS (As := [.int 4]) (rest := []) ⟨hx, hb, hml, hown, hts⟩ (kX1_failed l dC dI   4 (by first | omega | assumption | trivial)) (va_cwS 1 hts zgX1_linkedMethod_X1_failed_27 rfl rfl rfl (by decide +kernel) ⟨(show 0 + 1 ≤ 3 by omega), (show 8 + (1 + 11) + 0 ≤ 74 by omega)⟩) (zSq (hK.sub (tys' := []) [] rfl) (hP.sub (ws' := ([] : va_W)) [] rfl) hE) rfl rfl hl.1 rfl (lv_room (Nat.le_of_ble_eq_true rfl)) dX1_linkedMethod_107 ⟨(show 0 + 0 ≤ 0 by omega), (show 0 + 0 ≤ 0 by omega)⟩) (fun r5 hw => ?_)
      have hw : (r5 < 0) := hw
      have w0r5 := hw
      exact W.iret (v := r5) hx hb hr (fun t ht hW => ⟨r5, rfl, (Or.inl w0r5), ht⟩) (fun _ h => by cases h) dX1_linkedMethod_110
  have J55 : ∀ (sp : Int32) (ls : Array Slot), (zM sp (fun k => k < 208)) → lv_has ls 5 [(0, .ref bh), (1, .ref uh), (2, .int ca), (4, .int sp)] → W p l e (headSpec zwX1_linkedMethod { frames := 3, cells := 0, slots := 0, locals := 74 }).room s m (([.ref bh, .ref uh, .int ca, .int (nI ow)] : List Value).toArray) below meth c s.heap [] 0 0 (MQ below (vp_Si (fun r => (zSp r (fun k => k < 208)))) (([.ref bh, .ref uh, .int ca, .int (nI ow)] : List Value).toArray) s 0 0 (fun _ => False)) (F0 m 55 ls []) := by
    intro sp ls hm55_sp hl
    refine lv_iload hx hb dX1_linkedMethod_55 (lv_at hl 3 rfl) ?_
    refine lv_iconst (v := (-1)) hx hb dX1_linkedMethod_57 (by decide) ?_
    refine lv_icmp_ne (tgt := 67) hx hb dX1_linkedMethod_58 (by decide) (fun cp58 => ?_) (fun cp58 => ?_)
    · obtain ⟨k6, hBk6, hQk6, rfl⟩ := hm55_sp.resolve_left cp58
      refine lv_iload hx hb dX1_linkedMethod_67 (lv_at hl 3 rfl) ?_
      refine vp_callSi (z_runC (va_runSN (As := [.int (nI k6)]) (rest := []) ⟨hx, hb, hml, hown, hts⟩ (kX6_classOf l dC dI   (nI k6) (zSp.mk (by omega) (by first | trivial | omega | assumption))) ⟨va_cnB 1 hts zgX1_linkedMethod_X6_classOf_64 rfl rfl rfl hE.2.1 (hts (.initialized RX6) (by decide +kernel)) (by decide +kernel) ⟨(show 0 + 1 ≤ 3 by omega), (show 8 + (1 + 11) + 0 ≤ 74 by omega)⟩, (hts (.static yX6_classOf) (by decide +kernel)), trivial⟩ (zSq (hK.sub (tys' := []) [] rfl) (hP.sub (ws' := ([] : va_W)) [] rfl) hE) rfl rfl hl.1 rfl (lv_room (Nat.le_of_ble_eq_true rfl)) dX1_linkedMethod_69 ⟨(show 0 + 0 ≤ 0 by omega), (show 0 + 0 ≤ 0 by omega)⟩)) (fun r7 hw => ?_)
      have hw : (zSp r7 (fun k => k < 16)) ∧ (¬ ((nI k6)) < 0 → zIn16 r7) := hw
      obtain ⟨w0r7, w1r7⟩ := hw
      refine lv_iload_n hx hb dX1_linkedMethod_72 rfl (lv_at hl 2 rfl) ?_
      refine lv_icmp_eq (tgt := 92) hx hb dX1_linkedMethod_73 (by decide) (fun cp73 => ?_) (fun cp73 => ?_)
      · exact J92 k6 ls  (by first | omega | assumption | trivial) (lv_sub hl [0, 1, 3] rfl)
      · refine lv_aload_n hx hb dX1_linkedMethod_76 rfl (lv_at hl 0 rfl) ?_
        refine lv_iload hx hb dX1_linkedMethod_77 (lv_at hl 3 rfl) ?_
        refine lv_iconst (v := 2) hx hb dX1_linkedMethod_79 (by decide) ?_
        refine vp_callSi (W.runV (As := [.int (nI k6), .int 2]) (rest := []) ⟨hx, hb, hml, hown, hts⟩ (kX0_has l dC dI bh br cI cJ cB cc nA mA aA fcA fA mcA mmA wA tcA g1A g2A nuA erA reA liA lcA ⟨by omega, hfcA, hmcA, herA, hliA, hlcA⟩ k6 (2 : Int32) (by first | omega | assumption | trivial)) (cwV 2 hts zgX1_linkedMethod_X0_has_67 rfl rfl rfl (by decide +kernel) ⟨(show 0 + 1 ≤ 3 by omega), (show 8 + (3 + 11) + 0 ≤ 74 by omega)⟩) (zVq (ci := 0) (q0 := 0) (q := (RX0, TX0, 17)) hK (hP.sub (ws' := (bW bh br cI cJ cB (nI cc) nA mA aA (fun j => nI (fcA j)) fA (fun j => nI (mcA j)) mmA wA tcA g1A g2A nuA (fun j => nI (erA j)) reA (fun j => nI (liA j)) (fun j => nI (lcA j)))) [0, 1, 2, 3, 4, 5, 6, 7, 8, 9, 10, 11, 12, 13, 14, 15, 16] rfl) hE rfl rfl rfl) rfl rfl hl.1 rfl (lv_room (Nat.le_of_ble_eq_true rfl)) dX1_linkedMethod_80 ⟨(show 0 + 0 ≤ 0 by omega), (show 0 + 0 ≤ 0 by omega)⟩) (fun r8 hw => ?_)
        have hw : (r8 = 0 ∨ r8 = 1) := hw
        have w0r8 := hw
        refine lv_if_eq (tgt := 92) hx hb dX1_linkedMethod_83 (by decide) (fun cp83 => ?_) (fun cp83 => ?_)
        · exact J92 k6 ls  (by first | omega | assumption | trivial) (lv_sub hl [0, 1, 3] rfl)
        · refine lv_bipush (v := 8) hx hb dX1_linkedMethod_86 (by decide) ?_
          refine vp_callSi (W.runS (As := [.int 8]) (rest := []) ⟨hx, hb, hml, hown, hts⟩ (kX1_failed l dC dI   8 (by first | omega | assumption | trivial)) (va_cwS 1 hts zgX1_linkedMethod_X1_failed_27 rfl rfl rfl (by decide +kernel) ⟨(show 0 + 1 ≤ 3 by omega), (show 8 + (1 + 11) + 0 ≤ 74 by omega)⟩) (zSq (hK.sub (tys' := []) [] rfl) (hP.sub (ws' := ([] : va_W)) [] rfl) hE) rfl rfl hl.1 rfl (lv_room (Nat.le_of_ble_eq_true rfl)) dX1_linkedMethod_88 ⟨(show 0 + 0 ≤ 0 by omega), (show 0 + 0 ≤ 0 by omega)⟩) (fun r9 hw => ?_)
          have hw : (r9 < 0) := hw
          have w0r9 := hw
          exact W.iret (v := r9) hx hb hr (fun t ht hW => ⟨r9, rfl, (Or.inl w0r9), ht⟩) (fun _ h => by cases h) dX1_linkedMethod_91
    · obtain rfl : sp = -1 := cp58
      refine lv_bipush (v := 9) hx hb dX1_linkedMethod_61 (by decide) ?_
      refine vp_callSi (W.runS (As := [.int 9]) (rest := []) ⟨hx, hb, hml, hown, hts⟩ (kX1_failed l dC dI   9 (by first | omega | assumption | trivial)) (va_cwS 1 hts zgX1_linkedMethod_X1_failed_27 rfl rfl rfl (by decide +kernel) ⟨(show 0 + 1 ≤ 3 by omega), (show 8 + (1 + 11) + 0 ≤ 74 by omega)⟩) (zSq (hK.sub (tys' := []) [] rfl) (hP.sub (ws' := ([] : va_W)) [] rfl) hE) rfl rfl hl.1 rfl (lv_room (Nat.le_of_ble_eq_true rfl)) dX1_linkedMethod_63 ⟨(show 0 + 0 ≤ 0 by omega), (show 0 + 0 ≤ 0 by omega)⟩) (fun r10 hw => ?_)
      have hw : (r10 < 0) := hw
      have w0r10 := hw
      exact W.iret (v := r10) hx hb hr (fun t ht hW => ⟨r10, rfl, (Or.inl w0r10), ht⟩) (fun _ h => by cases h) dX1_linkedMethod_66
  have J18 : ∀ (kq : Int32) (ls : Array Slot), lv_has ls 5 [(0, .ref bh), (1, .ref uh), (2, .int ca), (3, .int (nI ow))] → W p l e (headSpec zwX1_linkedMethod { frames := 3, cells := 0, slots := 0, locals := 74 }).room s m (([.ref bh, .ref uh, .int ca, .int (nI ow)] : List Value).toArray) below meth c s.heap [] 0 0 (MQ below (vp_Si (fun r => (zSp r (fun k => k < 208)))) (([.ref bh, .ref uh, .int ca, .int (nI ow)] : List Value).toArray) s 0 0 (fun _ => False)) (F0 m 18 ls [.int kq, .int uk]) := by
    intro kq ls  hl
    refine lv_icmp_ne (tgt := 26) hx hb dX1_linkedMethod_18 (by decide) (fun cp18 => ?_) (fun cp18 => ?_)
    · refine lv_aload_n hx hb dX1_linkedMethod_26 rfl (lv_at hl 0 rfl) ?_
      refine lv_iload_n hx hb dX1_linkedMethod_27 rfl (lv_at hl 3 rfl) ?_
      refine lv_aload_n hx hb dX1_linkedMethod_28 rfl (lv_at hl 1 rfl) ?_
      refine va_get (D := (dC, dI)) (ci := 4) (v := .ref ug) (C := RX5) (T := TX5) (N := 5) hx hb hts hiX5 hown hK hP 17 rfl rfl 3 (by decide) (hts (.fieldLink RX1 50 "LinkModels$Use" "wanted" "LLinkModels$Signature;") (by decide +kernel)) (fun _ h9 => h9) rfl dX1_linkedMethod_29 ?_
      refine lv_iconst (v := 0) hx hb dX1_linkedMethod_32 (by decide) ?_
      refine vp_callSi (W.runV (As := [.int (nI ow), .ref ug, .int 0]) (rest := []) ⟨hx, hb, hml, hown, hts⟩ (kX0_methodFrom l dC dI bh br ug cI cJ cB cc nA mA aA fcA fA mcA mmA wA tcA g1A g2A nuA erA reA liA lcA uw ut uf uq ⟨by omega, hfcA, hmcA, herA, hliA, hlcA⟩ ow (0 : Int32) (by first | omega | assumption | trivial)) (cwV 3 hts zgX1_linkedMethod_X0_methodFrom_80 rfl rfl rfl (by decide +kernel) ⟨(show 1 + 1 ≤ 3 by omega), (show 8 + (7 + 11) + 24 ≤ 74 by omega)⟩) (zVq (ci := 0) (q0 := 0) (q := (RX0, TX0, 17)) hK (hP.sub (ws' := (bsW bh br ug cI cJ cB (nI cc) nA mA aA (fun j => nI (fcA j)) fA (fun j => nI (mcA j)) mmA wA tcA g1A g2A nuA (fun j => nI (erA j)) reA (fun j => nI (liA j)) (fun j => nI (lcA j)) uw ut uf uq)) [0, 1, 2, 3, 4, 5, 6, 7, 8, 9, 10, 11, 12, 13, 14, 15, 16, 18] rfl) hE rfl rfl rfl) rfl rfl hl.1 rfl (lv_room (Nat.le_of_ble_eq_true rfl)) dX1_linkedMethod_33 ⟨(show 0 + 0 ≤ 0 by omega), (show 0 + 0 ≤ 0 by omega)⟩) (fun r11 hw => ?_)
      have hw : (zM r11 (fun k => k < 208)) := hw
      have w0r11 := hw
      refine lv_istore (lv' := [(4, .int r11), (0, .ref bh), (1, .ref uh), (2, .int ca), (3, .int (nI ow))]) hx hb dX1_linkedMethod_36 hl (by decide) rfl (fun ls hl => ?_)
      refine lv_iload hx hb dX1_linkedMethod_38 (lv_at hl 0 rfl) ?_
      refine lv_iconst (v := (-1)) hx hb dX1_linkedMethod_40 (by decide) ?_
      refine lv_icmp_ne (tgt := 55) hx hb dX1_linkedMethod_41 (by decide) (fun cp41 => ?_) (fun cp41 => ?_)
      · obtain ⟨k12, hBk12, hQk12, rfl⟩ := w0r11.resolve_left cp41
        exact J55 (nI k12) ls  (zM.mk (by omega) (by first | trivial | omega | assumption | (refine ⟨?_, ?_⟩ <;> first | trivial | omega | assumption))) (lv_sub hl [1, 2, 3, 0] rfl)
      · obtain rfl : r11 = -1 := cp41
        refine lv_aload_n hx hb dX1_linkedMethod_44 rfl (lv_at hl 1 rfl) ?_
        refine lv_aload_n hx hb dX1_linkedMethod_45 rfl (lv_at hl 2 rfl) ?_
        refine va_get (D := (dC, dI)) (ci := 4) (v := .ref ug) (C := RX5) (T := TX5) (N := 5) hx hb hts hiX5 hown hK hP 17 rfl rfl 3 (by decide) (hts (.fieldLink RX1 50 "LinkModels$Use" "wanted" "LLinkModels$Signature;") (by decide +kernel)) (fun _ h9 => h9) rfl dX1_linkedMethod_46 ?_
        refine lv_iload_n hx hb dX1_linkedMethod_49 rfl (lv_at hl 4 rfl) ?_
        refine vp_callSi (W.runS (As := [.ref bh, .ref ug, .int (nI ow)]) (rest := []) ⟨hx, hb, hml, hown, hts⟩ (kX1_foundInFaces l dC dI bh br ug cI cJ cB cc nA mA aA fcA fA mcA mmA wA tcA g1A g2A nuA erA reA liA lcA uw ut uf uq ⟨by omega, hfcA, hmcA, herA, hliA, hlcA⟩ ow (by first | omega | assumption | trivial)) (va_cwS 3 hts zgX1_linkedMethod_X1_foundInFaces_84 rfl rfl rfl (by decide +kernel) ⟨(show 2 + 1 ≤ 3 by omega), (show 8 + (5 + 11) + 50 ≤ 74 by omega)⟩) (zSq hK (hP.sub (ws' := (bsW bh br ug cI cJ cB (nI cc) nA mA aA (fun j => nI (fcA j)) fA (fun j => nI (mcA j)) mmA wA tcA g1A g2A nuA (fun j => nI (erA j)) reA (fun j => nI (liA j)) (fun j => nI (lcA j)) uw ut uf uq)) [0, 1, 2, 3, 4, 5, 6, 7, 8, 9, 10, 11, 12, 13, 14, 15, 16, 18] rfl) hE) rfl rfl hl.1 rfl (lv_room (Nat.le_of_ble_eq_true rfl)) dX1_linkedMethod_50 ⟨(show 0 + 0 ≤ 0 by omega), (show 0 + 0 ≤ 0 by omega)⟩) (fun r13 hw => ?_)
        have hw : (zM r13 (fun k => k < 208)) := hw
        have w0r13 := hw
        refine lv_istore (lv' := [(4, .int r13), (0, .ref bh), (1, .ref uh), (2, .int ca), (3, .int (nI ow))]) hx hb dX1_linkedMethod_53 hl (by decide) rfl (fun ls hl => ?_)
        exact J55 r13 ls  (zM.imp w0r13 (fun k hk hq => by first | exact hq | trivial | omega)) (lv_sub hl [1, 2, 3, 0] rfl)
    · refine lv_iconst (v := 4) hx hb dX1_linkedMethod_21 (by decide) ?_
      refine vp_callSi (W.runS (As := [.int 4]) (rest := []) ⟨hx, hb, hml, hown, hts⟩ (kX1_failed l dC dI   4 (by first | omega | assumption | trivial)) (va_cwS 1 hts zgX1_linkedMethod_X1_failed_27 rfl rfl rfl (by decide +kernel) ⟨(show 0 + 1 ≤ 3 by omega), (show 8 + (1 + 11) + 0 ≤ 74 by omega)⟩) (zSq (hK.sub (tys' := []) [] rfl) (hP.sub (ws' := ([] : va_W)) [] rfl) hE) rfl rfl hl.1 rfl (lv_room (Nat.le_of_ble_eq_true rfl)) dX1_linkedMethod_22 ⟨(show 0 + 0 ≤ 0 by omega), (show 0 + 0 ≤ 0 by omega)⟩) (fun r14 hw => ?_)
      have hw : (r14 < 0) := hw
      have w0r14 := hw
      exact W.iret (v := r14) hx hb hr (fun t ht hW => ⟨r14, rfl, (Or.inl w0r14), ht⟩) (fun _ h => by cases h) dX1_linkedMethod_25
  refine lv_aload_n hx hb dX1_linkedMethod_0 rfl (lv_at hl 1 rfl) ?_
  refine va_get (D := (dC, dI)) (ci := 4) (v := .int uk) (C := RX5) (T := TX5) (N := 5) hx hb hts hiX5 hown hK hP 17 rfl rfl 0 (by decide) (hts (.fieldLink RX1 32 "LinkModels$Use" "kind" "I") (by decide +kernel)) (fun _ h9 => h9) rfl dX1_linkedMethod_1 ?_
  refine lv_aload_n hx hb dX1_linkedMethod_4 rfl (lv_at hl 0 rfl) ?_
  refine lv_iload_n hx hb dX1_linkedMethod_5 rfl (lv_at hl 3 rfl) ?_
  refine vp_callSi (W.runV (As := [.int (nI ow)]) (rest := [.int uk]) ⟨hx, hb, hml, hown, hts⟩ (kX0_isFace l dC dI bh br cI cJ cB cc nA mA aA fcA fA mcA mmA wA tcA g1A g2A nuA erA reA liA lcA ⟨by omega, hfcA, hmcA, herA, hliA, hlcA⟩ ow (by first | omega | assumption | trivial)) (cwV 1 hts zgX1_linkedMethod_X0_isFace_77 rfl rfl rfl (by decide +kernel) ⟨(show 0 + 1 ≤ 3 by omega), (show 8 + (2 + 11) + 0 ≤ 74 by omega)⟩) (zVq (ci := 0) (q0 := 0) (q := (RX0, TX0, 17)) hK (hP.sub (ws' := (bW bh br cI cJ cB (nI cc) nA mA aA (fun j => nI (fcA j)) fA (fun j => nI (mcA j)) mmA wA tcA g1A g2A nuA (fun j => nI (erA j)) reA (fun j => nI (liA j)) (fun j => nI (lcA j)))) [0, 1, 2, 3, 4, 5, 6, 7, 8, 9, 10, 11, 12, 13, 14, 15, 16] rfl) hE rfl rfl rfl) rfl rfl hl.1 rfl (lv_room (Nat.le_of_ble_eq_true rfl)) dX1_linkedMethod_6 ⟨(show 0 + 0 ≤ 0 by omega), (show 0 + 0 ≤ 0 by omega)⟩) (fun r15 hw => ?_)
  have hw : (r15 = 0 ∨ r15 = 1) := hw
  have w0r15 := hw
  refine lv_if_eq (tgt := 16) hx hb dX1_linkedMethod_9 (by decide) (fun cp9 => ?_) (fun cp9 => ?_)
  · refine lv_bipush (v := 7) hx hb dX1_linkedMethod_16 (by decide) ?_
    exact J18 (7 : Int32) ls  (lv_sub hl [0, 1, 2, 3] rfl)
  · refine lv_iconst (v := 4) hx hb dX1_linkedMethod_12 (by decide) ?_
    refine lv_goto (tgt := 18) hx hb dX1_linkedMethod_13 (by decide) ?_
    exact J18 (4 : Int32) ls  (lv_sub hl [0, 1, 2, 3] rfl)
theorem dX1_linked_0 : decode cX1_linked 0 = .ok (.aload_n 0, 1) := by decide +kernel
theorem dX1_linked_1 : decode cX1_linked 1 = .ok (.aload_n 1, 1) := by decide +kernel
theorem dX1_linked_2 : decode cX1_linked 2 = .ok (.getfield 9, 3) := by decide +kernel
theorem dX1_linked_5 : decode cX1_linked 5 = .ok (.invokevirtual 15, 3) := by decide +kernel
theorem dX1_linked_8 : decode cX1_linked 8 = .ok (.istore_n 2, 1) := by decide +kernel
theorem dX1_linked_9 : decode cX1_linked 9 = .ok (.aload_n 0, 1) := by decide +kernel
theorem dX1_linked_10 : decode cX1_linked 10 = .ok (.aload_n 1, 1) := by decide +kernel
theorem dX1_linked_11 : decode cX1_linked 11 = .ok (.getfield 21, 3) := by decide +kernel
theorem dX1_linked_14 : decode cX1_linked 14 = .ok (.invokevirtual 15, 3) := by decide +kernel
theorem dX1_linked_17 : decode cX1_linked 17 = .ok (.istore_n 3, 1) := by decide +kernel
theorem dX1_linked_18 : decode cX1_linked 18 = .ok (.aload_n 0, 1) := by decide +kernel
theorem dX1_linked_19 : decode cX1_linked 19 = .ok (.iload_n 2, 1) := by decide +kernel
theorem dX1_linked_20 : decode cX1_linked 20 = .ok (.invokevirtual 24, 3) := by decide +kernel
theorem dX1_linked_23 : decode cX1_linked 23 = .ok (.ifCond .eq 12, 3) := by decide +kernel
theorem dX1_linked_26 : decode cX1_linked 26 = .ok (.aload_n 0, 1) := by decide +kernel
theorem dX1_linked_27 : decode cX1_linked 27 = .ok (.iload_n 2, 1) := by decide +kernel
theorem dX1_linked_28 : decode cX1_linked 28 = .ok (.invokevirtual 24, 3) := by decide +kernel
theorem dX1_linked_31 : decode cX1_linked 31 = .ok (.invokestatic 27, 3) := by decide +kernel
theorem dX1_linked_34 : decode cX1_linked 34 = .ok (.ireturn, 1) := by decide +kernel
theorem dX1_linked_35 : decode cX1_linked 35 = .ok (.iload_n 3, 1) := by decide +kernel
theorem dX1_linked_36 : decode cX1_linked 36 = .ok (.iconst (-1), 1) := by decide +kernel
theorem dX1_linked_37 : decode cX1_linked 37 = .ok (.if_icmp .ne 8, 3) := by decide +kernel
theorem dX1_linked_40 : decode cX1_linked 40 = .ok (.iconst 2, 1) := by decide +kernel
theorem dX1_linked_41 : decode cX1_linked 41 = .ok (.invokestatic 27, 3) := by decide +kernel
theorem dX1_linked_44 : decode cX1_linked 44 = .ok (.ireturn, 1) := by decide +kernel
theorem dX1_linked_45 : decode cX1_linked 45 = .ok (.aload_n 0, 1) := by decide +kernel
theorem dX1_linked_46 : decode cX1_linked 46 = .ok (.iload_n 3, 1) := by decide +kernel
theorem dX1_linked_47 : decode cX1_linked 47 = .ok (.invokevirtual 24, 3) := by decide +kernel
theorem dX1_linked_50 : decode cX1_linked 50 = .ok (.ifCond .eq 12, 3) := by decide +kernel
theorem dX1_linked_53 : decode cX1_linked 53 = .ok (.aload_n 0, 1) := by decide +kernel
theorem dX1_linked_54 : decode cX1_linked 54 = .ok (.iload_n 3, 1) := by decide +kernel
theorem dX1_linked_55 : decode cX1_linked 55 = .ok (.invokevirtual 24, 3) := by decide +kernel
theorem dX1_linked_58 : decode cX1_linked 58 = .ok (.invokestatic 27, 3) := by decide +kernel
theorem dX1_linked_61 : decode cX1_linked 61 = .ok (.ireturn, 1) := by decide +kernel
theorem dX1_linked_62 : decode cX1_linked 62 = .ok (.aload_n 1, 1) := by decide +kernel
theorem dX1_linked_63 : decode cX1_linked 63 = .ok (.getfield 32, 3) := by decide +kernel
theorem dX1_linked_66 : decode cX1_linked 66 = .ok (.bipush 9, 2) := by decide +kernel
theorem dX1_linked_68 : decode cX1_linked 68 = .ok (.if_icmp .ne 8, 3) := by decide +kernel
theorem dX1_linked_71 : decode cX1_linked 71 = .ok (.iload_n 3, 1) := by decide +kernel
theorem dX1_linked_72 : decode cX1_linked 72 = .ok (.bipush 13, 2) := by decide +kernel
theorem dX1_linked_74 : decode cX1_linked 74 = .ok (.imul, 1) := by decide +kernel
theorem dX1_linked_75 : decode cX1_linked 75 = .ok (.ireturn, 1) := by decide +kernel
theorem dX1_linked_76 : decode cX1_linked 76 = .ok (.aload_n 1, 1) := by decide +kernel
theorem dX1_linked_77 : decode cX1_linked 77 = .ok (.getfield 32, 3) := by decide +kernel
theorem dX1_linked_80 : decode cX1_linked 80 = .ok (.bipush 8, 2) := by decide +kernel
theorem dX1_linked_82 : decode cX1_linked 82 = .ok (.if_icmp .ne 24, 3) := by decide +kernel
theorem dX1_linked_85 : decode cX1_linked 85 = .ok (.aload_n 0, 1) := by decide +kernel
theorem dX1_linked_86 : decode cX1_linked 86 = .ok (.iload_n 3, 1) := by decide +kernel
theorem dX1_linked_87 : decode cX1_linked 87 = .ok (.invokevirtual 35, 3) := by decide +kernel
theorem dX1_linked_90 : decode cX1_linked 90 = .ok (.ifCond .eq 10, 3) := by decide +kernel
theorem dX1_linked_93 : decode cX1_linked 93 = .ok (.iload_n 3, 1) := by decide +kernel
theorem dX1_linked_94 : decode cX1_linked 94 = .ok (.bipush 13, 2) := by decide +kernel
theorem dX1_linked_96 : decode cX1_linked 96 = .ok (.imul, 1) := by decide +kernel
theorem dX1_linked_97 : decode cX1_linked 97 = .ok (.goto 8, 3) := by decide +kernel
theorem dX1_linked_100 : decode cX1_linked 100 = .ok (.bipush 6, 2) := by decide +kernel
theorem dX1_linked_102 : decode cX1_linked 102 = .ok (.invokestatic 27, 3) := by decide +kernel
theorem dX1_linked_105 : decode cX1_linked 105 = .ok (.ireturn, 1) := by decide +kernel
theorem dX1_linked_106 : decode cX1_linked 106 = .ok (.aload_n 1, 1) := by decide +kernel
theorem dX1_linked_107 : decode cX1_linked 107 = .ok (.invokevirtual 39, 3) := by decide +kernel
theorem dX1_linked_110 : decode cX1_linked 110 = .ok (.ifCond .eq 13, 3) := by decide +kernel
theorem dX1_linked_113 : decode cX1_linked 113 = .ok (.aload_n 0, 1) := by decide +kernel
theorem dX1_linked_114 : decode cX1_linked 114 = .ok (.aload_n 1, 1) := by decide +kernel
theorem dX1_linked_115 : decode cX1_linked 115 = .ok (.iload_n 2, 1) := by decide +kernel
theorem dX1_linked_116 : decode cX1_linked 116 = .ok (.iload_n 3, 1) := by decide +kernel
theorem dX1_linked_117 : decode cX1_linked 117 = .ok (.invokestatic 43, 3) := by decide +kernel
theorem dX1_linked_120 : decode cX1_linked 120 = .ok (.goto 10, 3) := by decide +kernel
theorem dX1_linked_123 : decode cX1_linked 123 = .ok (.aload_n 0, 1) := by decide +kernel
theorem dX1_linked_124 : decode cX1_linked 124 = .ok (.aload_n 1, 1) := by decide +kernel
theorem dX1_linked_125 : decode cX1_linked 125 = .ok (.iload_n 2, 1) := by decide +kernel
theorem dX1_linked_126 : decode cX1_linked 126 = .ok (.iload_n 3, 1) := by decide +kernel
theorem dX1_linked_127 : decode cX1_linked 127 = .ok (.invokestatic 47, 3) := by decide +kernel
theorem dX1_linked_130 : decode cX1_linked 130 = .ok (.ireturn, 1) := by decide +kernel
def zwX1_linked : List Cond := .code yX1_linked cX1_linked 4 (some .int) :: ([.fieldLink RX1 9 "LinkModels$Use" "caller" "I", .fieldLink RX1 21 "LinkModels$Use" "owner" "I", .fieldLink RX1 32 "LinkModels$Use" "kind" "I", .methodLink RX1 15 yX0_placeOf, .instanceMethod yX0_placeOf, .selects RX0 yX0_placeOf yX0_placeOf, .initialized RX0, .code yX0_placeOf cX0_placeOf 3 (some .int), .fieldLink RX0 61 "LinkModels$Build" "classCount" "I", .fieldLink RX0 11 "LinkModels$Build" "names" "[I", .methodLink RX1 24 yX0_errorAt, .instanceMethod yX0_errorAt, .selects RX0 yX0_errorAt yX0_errorAt, .code yX0_errorAt cX0_errorAt 2 (some .int), .fieldLink RX0 49 "LinkModels$Build" "errors" "[I", .methodLink RX1 39 yX5_asksField, .instanceMethod yX5_asksField, .selects RX5 yX5_asksField yX5_asksField, .initialized RX5, .code yX5_asksField cX5_asksField 1 (some .boolean), .fieldLink RX5 9 "LinkModels$Use" "kind" "I", .methodLink RX1 47 yX1_linkedMethod, .static yX1_linkedMethod, .initialized RX1, .code yX1_linkedMethod cX1_linkedMethod 5 (some .int), .initialized RX6, .static yX6_classOf, .fieldLink RX1 50 "LinkModels$Use" "wanted" "LLinkModels$Signature;", .methodLink RX1 67 yX0_has, .instanceMethod yX0_has, .selects RX0 yX0_has yX0_has, .code yX0_has cX0_has 3 (some .boolean), .fieldLink RX0 30 "LinkModels$Build" "memberMarks" "[I", .methodLink RX1 71 yX5_asksStatic, .instanceMethod yX5_asksStatic, .selects RX5 yX5_asksStatic yX5_asksStatic, .code yX5_asksStatic cX5_asksStatic 1 (some .boolean), .methodLink RX1 27 yX1_failed, .static yX1_failed, .code yX1_failed cX1_failed 1 (some .int), .code yX6_classOf cX6_classOf 1 (some .int), .methodLink RX1 80 yX0_methodFrom, .instanceMethod yX0_methodFrom, .selects RX0 yX0_methodFrom yX0_methodFrom, .code yX0_methodFrom cX0_methodFrom 7 (some .int), .fieldLink RX0 58 "LinkModels$Build" "lineCounts" "[I", .fieldLink RX0 55 "LinkModels$Build" "lines" "[I", .methodLink RX0 82 yX0_has, .methodLink RX0 94 yX0_methodIn, .instanceMethod yX0_methodIn, .selects RX0 yX0_methodIn yX0_methodIn, .code yX0_methodIn cX0_methodIn 5 (some .int), .fieldLink RX0 37 "LinkModels$Build" "typeCounts" "[I", .fieldLink RX0 71 "LinkModels$Signature" "typeCount" "I", .fieldLink RX0 40 "LinkModels$Build" "firsts" "[I", .fieldLink RX0 74 "LinkModels$Signature" "first" "I", .fieldLink RX0 43 "LinkModels$Build" "seconds" "[I", .fieldLink RX0 77 "LinkModels$Signature" "second" "I", .fieldLink RX0 27 "LinkModels$Build" "memberCounts" "[I", .fieldLink RX0 33 "LinkModels$Build" "words" "[J", .fieldLink RX0 65 "LinkModels$Signature" "word" "J", .methodLink RX0 90 yX0_isFace, .instanceMethod yX0_isFace, .selects RX0 yX0_isFace yX0_isFace, .code yX0_isFace cX0_isFace 2 (some .boolean), .fieldLink RX0 15 "LinkModels$Build" "classMarks" "[I", .methodLink RX1 84 yX1_foundInFaces, .static yX1_foundInFaces, .code yX1_foundInFaces cX1_foundInFaces 5 (some .int), .methodLink RX1 88 yX0_nearestFaces, .instanceMethod yX0_nearestFaces, .selects RX0 yX0_nearestFaces yX0_nearestFaces, .code yX0_nearestFaces cX0_nearestFaces 7 (some .int), .fieldLink RX0 52 "LinkModels$Build" "reached" "[I", .methodLink RX1 92 yX0_withBody, .instanceMethod yX0_withBody, .selects RX0 yX0_withBody yX0_withBody, .code yX0_withBody cX0_withBody 6 (some .int), .methodLink RX1 95 yJ6_bitCount_0f7a4, .static yJ6_bitCount_0f7a4, .initialized RJ6, .code yJ6_bitCount_0f7a4 cJ6_bitCount_0f7a4 1 (some .int), .constant RJ6 265 (1431655765), .constant RJ6 266 (858993459), .constant RJ6 267 (252645135), .methodLink RX1 100 yX0_firstMethodOf, .instanceMethod yX0_firstMethodOf, .selects RX0 yX0_firstMethodOf yX0_firstMethodOf, .code yX0_firstMethodOf cX0_firstMethodOf 6 (some .int), .methodLink RX1 77 yX0_isFace, .methodLink RX1 43 yX1_linkedField, .static yX1_linkedField, .code yX1_linkedField cX1_linkedField 6 (some .int), .fieldLink RX1 54 "LinkModels$Signature" "word" "J", .methodLink RX1 74 yX5_puts, .instanceMethod yX5_puts, .selects RX5 yX5_puts yX5_puts, .code yX5_puts cX5_puts 1 (some .boolean), .methodLink RX1 60 yX0_fieldFrom, .instanceMethod yX0_fieldFrom, .selects RX0 yX0_fieldFrom yX0_fieldFrom, .code yX0_fieldFrom cX0_fieldFrom 6 (some .int), .methodLink RX0 86 yX0_fieldIn, .instanceMethod yX0_fieldIn, .selects RX0 yX0_fieldIn yX0_fieldIn, .code yX0_fieldIn cX0_fieldIn 5 (some .int), .methodLink RX1 35 yX0_isWhole, .instanceMethod yX0_isWhole, .selects RX0 yX0_isWhole yX0_isWhole, .code yX0_isWhole cX0_isWhole 2 (some .boolean)] ++ wsX50 ++ wsX00 ++ wsX30)
theorem zgX1_linked_X0_placeOf_15 : GoodIn zwX1_linked (wsV RX1 15 RX0 yX0_placeOf zwX0_placeOf) := goodIn_app (goodIn_r _ [4, 5, 6, 7] rfl (by decide +kernel)) (goodIn_app (goodIn_r _ [8, 9, 10] rfl (by decide +kernel)) (fun w hw => ⟨(List.mem_cons_of_mem _ (List.mem_append_left _ (List.mem_append_right _ hw))), good_of_word (List.all_eq_true.mp zgX0 w hw)⟩))
theorem zgX1_linked_X0_errorAt_24 : GoodIn zwX1_linked (wsV RX1 24 RX0 yX0_errorAt zwX0_errorAt) := goodIn_app (goodIn_r _ [11, 12, 13, 7] rfl (by decide +kernel)) (goodIn_app (goodIn_r _ [14, 15] rfl (by decide +kernel)) (fun w hw => ⟨(List.mem_cons_of_mem _ (List.mem_append_left _ (List.mem_append_right _ hw))), good_of_word (List.all_eq_true.mp zgX0 w hw)⟩))
theorem zgX1_linked_X5_asksField_39 : GoodIn zwX1_linked (wsV RX1 39 RX5 yX5_asksField zwX5_asksField) := goodIn_app (goodIn_r _ [16, 17, 18, 19] rfl (by decide +kernel)) (goodIn_app (goodIn_r _ [20, 21] rfl (by decide +kernel)) (fun w hw => ⟨(List.mem_cons_of_mem _ (List.mem_append_left _ (List.mem_append_left _ (List.mem_append_right _ hw)))), good_of_word (List.all_eq_true.mp zgX5 w hw)⟩))
theorem zgX1_linked_X1_linkedMethod_47 : GoodIn zwX1_linked (va_wsS RX1 47 yX1_linkedMethod zwX1_linkedMethod) := goodIn_app (goodIn_r _ [22, 23, 24] rfl (by decide +kernel)) (goodIn_app (goodIn_app (goodIn_app (goodIn_r _ [25, 3, 26, 27, 28, 29, 30, 31, 7, 32, 33, 34, 35, 36, 19, 37, 21, 38, 39, 24, 40, 41, 42, 43, 44, 45, 46, 47, 48, 49, 50, 51, 52, 53, 54, 55, 56, 57, 58, 59, 60, 61, 62, 63, 64, 65, 66, 67, 68, 69, 70, 71, 72, 73, 9, 74, 75, 76, 77, 78, 79, 80, 81, 82, 83, 84, 85, 86, 87, 88, 89, 90] rfl (by decide +kernel)) (fun w hw => ⟨(List.mem_cons_of_mem _ (List.mem_append_left _ (List.mem_append_left _ (List.mem_append_right _ hw)))), good_of_word (List.all_eq_true.mp zgX5 w hw)⟩)) (fun w hw => ⟨(List.mem_cons_of_mem _ (List.mem_append_left _ (List.mem_append_right _ hw))), good_of_word (List.all_eq_true.mp zgX0 w hw)⟩)) (fun w hw => ⟨(List.mem_cons_of_mem _ (List.mem_append_right _ hw)), good_of_word (List.all_eq_true.mp zgX3 w hw)⟩))
theorem zgX1_linked_X1_linkedField_43 : GoodIn zwX1_linked (va_wsS RX1 43 yX1_linkedField zwX1_linkedField) := goodIn_app (goodIn_r _ [91, 92, 24] rfl (by decide +kernel)) (goodIn_app (goodIn_app (goodIn_app (goodIn_r _ [93, 28, 94, 26, 27, 29, 30, 31, 7, 32, 33, 34, 35, 36, 19, 37, 21, 95, 96, 97, 98, 38, 39, 24, 40, 99, 100, 101, 102, 46, 47, 103, 104, 105, 106, 59, 60, 48, 41] rfl (by decide +kernel)) (fun w hw => ⟨(List.mem_cons_of_mem _ (List.mem_append_left _ (List.mem_append_left _ (List.mem_append_right _ hw)))), good_of_word (List.all_eq_true.mp zgX5 w hw)⟩)) (fun w hw => ⟨(List.mem_cons_of_mem _ (List.mem_append_right _ hw)), good_of_word (List.all_eq_true.mp zgX3 w hw)⟩)) (fun w hw => ⟨(List.mem_cons_of_mem _ (List.mem_append_left _ (List.mem_append_right _ hw))), good_of_word (List.all_eq_true.mp zgX0 w hw)⟩))
theorem zgX1_linked_X0_isWhole_35 : GoodIn zwX1_linked (wsV RX1 35 RX0 yX0_isWhole zwX0_isWhole) := goodIn_app (goodIn_r _ [107, 108, 109, 7] rfl (by decide +kernel)) (goodIn_app (goodIn_r _ [110, 66] rfl (by decide +kernel)) (fun w hw => ⟨(List.mem_cons_of_mem _ (List.mem_append_left _ (List.mem_append_right _ hw))), good_of_word (List.all_eq_true.mp zgX0 w hw)⟩))
theorem zgX1_linked_X1_failed_27 : GoodIn zwX1_linked (va_wsS RX1 27 yX1_failed zwX1_failed) := goodIn_app (goodIn_r _ [38, 39, 24] rfl (by decide +kernel)) (goodIn_r _ [40] rfl (by decide +kernel))
set_option maxHeartbeats 4000000 in
set_option maxRecDepth 100000 in
theorem kX1_linked (l : Launch) (dC : Nat → ClassId) (dI : Nat → Nat → Nat) (bh : Nat) (br : Nat → Nat) (uh : Nat) (ug : Nat) (cI : ClassId) (cJ : ClassId) (cB : ClassId) (cc : Nat) (nA : Nat → Int32) (mA : Nat → Int32) (aA : Nat → Int32) (fcA : Nat → Nat) (fA : Nat → Int32) (mcA : Nat → Nat) (mmA : Nat → Int32) (wA : Nat → Int64) (tcA : Nat → Int32) (g1A : Nat → Int32) (g2A : Nat → Int32) (nuA : Nat → Int32) (erA : Nat → Nat) (reA : Nat → Int32) (liA : Nat → Nat) (lcA : Nat → Nat) (uk : Int32) (uc : Int32) (uo : Int32) (uy : Int32) (uw : Int64) (ut : Int32) (uf : Int32) (uq : Int32) (hI : lWI cc fcA mcA erA liA lcA) : Met l yX1_linked zwX1_linked ({ frames := 4, cells := 0, slots := 0, locals := 98 }) (zPq dC dI [.ref bh, .ref uh] (lW bh br uh ug cI cJ cB (nI cc) nA mA aA (fun j => nI (fcA j)) fA (fun j => nI (mcA j)) mmA wA tcA g1A g2A nuA (fun j => nI (erA j)) reA (fun j => nI (liA j)) (fun j => nI (lcA j)) uk uc uo uy uw ut uf uq) [(cI, .int), (cJ, .long), (cB, .byte)]) (vp_Si (fun r => (zSp r (fun k => k < 208)))) 0 0 (fun _ => False) := by
  refine Met.ofW (cc := cX1_linked) (maxL := 4) (ret := (some .int)) (by decide) rfl ?_
  intro p e s m args below meth c s₁ B hml hv
  obtain ⟨rfl, hP, hK, hE⟩ := hv
  have hx := B.exec
  have hb := B.bytes
  have hr := B.returns
  have hts := atoms_spec (ws := zwX1_linked) B.pre
  have hown : s.vm.findClass RX1 = some m.cls := findClass_of_methodNamed B.named
  have hiX5 : ∀ w ∈ wsX50, w ∈ zwX1_linked := (fun w hw => (List.mem_cons_of_mem _ (List.mem_append_left _ (List.mem_append_left _ (List.mem_append_right _ hw)))))
  obtain ⟨hcc, hfcA, hmcA, herA, hliA, hlcA⟩ := hI
  have hl := lv_entry ([.ref bh, .ref uh]) (n := 4) (Nat.le_of_ble_eq_true rfl)
  rw [lg_entry_eq]
  generalize (lg_sl ([.ref bh, .ref uh]) ++ List.replicate (4 - (lg_sl ([.ref bh, .ref uh])).length) Slot.unset).toArray = ls at hl ⊢
  have hl : lv_has ls 4 [(0, .ref bh), (1, .ref uh)] := hl
  refine lv_aload_n hx hb dX1_linked_0 rfl (lv_at hl 0 rfl) ?_
  refine lv_aload_n hx hb dX1_linked_1 rfl (lv_at hl 1 rfl) ?_
  refine va_get (D := (dC, dI)) (ci := 4) (v := .int uc) (C := RX5) (T := TX5) (N := 5) hx hb hts hiX5 hown hK hP 17 rfl rfl 1 (by decide) (hts (.fieldLink RX1 9 "LinkModels$Use" "caller" "I") (by decide +kernel)) (fun _ h9 => h9) rfl dX1_linked_2 ?_
  refine vp_callSi (W.runV (As := [.int uc]) (rest := []) ⟨hx, hb, hml, hown, hts⟩ (kX0_placeOf l dC dI bh br cI cJ cB cc nA mA aA fcA fA mcA mmA wA tcA g1A g2A nuA erA reA liA lcA ⟨by omega, hfcA, hmcA, herA, hliA, hlcA⟩ uc) (cwV 1 hts zgX1_linked_X0_placeOf_15 rfl rfl rfl (by decide +kernel) ⟨(show 0 + 1 ≤ 4 by omega), (show 8 + (3 + 11) + 0 ≤ 98 by omega)⟩) (zVq (ci := 0) (q0 := 0) (q := (RX0, TX0, 17)) hK (hP.sub (ws' := (bW bh br cI cJ cB (nI cc) nA mA aA (fun j => nI (fcA j)) fA (fun j => nI (mcA j)) mmA wA tcA g1A g2A nuA (fun j => nI (erA j)) reA (fun j => nI (liA j)) (fun j => nI (lcA j)))) [0, 1, 2, 3, 4, 5, 6, 7, 8, 9, 10, 11, 12, 13, 14, 15, 16] rfl) hE rfl rfl rfl) rfl rfl hl.1 rfl (lv_room (Nat.le_of_ble_eq_true rfl)) dX1_linked_5 ⟨(show 0 + 0 ≤ 0 by omega), (show 0 + 0 ≤ 0 by omega)⟩) (fun r1 hw => ?_)
  have hw : (zM r1 (fun k => k < cc)) := hw
  have w0r1 := hw
  refine lv_istore_n (lv' := [(2, .int r1), (0, .ref bh), (1, .ref uh)]) hx hb dX1_linked_8 rfl hl (by decide) rfl (fun ls hl => ?_)
  refine lv_aload_n hx hb dX1_linked_9 rfl (lv_at hl 1 rfl) ?_
  refine lv_aload_n hx hb dX1_linked_10 rfl (lv_at hl 2 rfl) ?_
  refine va_get (D := (dC, dI)) (ci := 4) (v := .int uo) (C := RX5) (T := TX5) (N := 5) hx hb hts hiX5 hown hK hP 17 rfl rfl 2 (by decide) (hts (.fieldLink RX1 21 "LinkModels$Use" "owner" "I") (by decide +kernel)) (fun _ h9 => h9) rfl dX1_linked_11 ?_
  refine vp_callSi (W.runV (As := [.int uo]) (rest := []) ⟨hx, hb, hml, hown, hts⟩ (kX0_placeOf l dC dI bh br cI cJ cB cc nA mA aA fcA fA mcA mmA wA tcA g1A g2A nuA erA reA liA lcA ⟨by omega, hfcA, hmcA, herA, hliA, hlcA⟩ uo) (cwV 1 hts zgX1_linked_X0_placeOf_15 rfl rfl rfl (by decide +kernel) ⟨(show 0 + 1 ≤ 4 by omega), (show 8 + (3 + 11) + 0 ≤ 98 by omega)⟩) (zVq (ci := 0) (q0 := 0) (q := (RX0, TX0, 17)) hK (hP.sub (ws' := (bW bh br cI cJ cB (nI cc) nA mA aA (fun j => nI (fcA j)) fA (fun j => nI (mcA j)) mmA wA tcA g1A g2A nuA (fun j => nI (erA j)) reA (fun j => nI (liA j)) (fun j => nI (lcA j)))) [0, 1, 2, 3, 4, 5, 6, 7, 8, 9, 10, 11, 12, 13, 14, 15, 16] rfl) hE rfl rfl rfl) rfl rfl hl.1 rfl (lv_room (Nat.le_of_ble_eq_true rfl)) dX1_linked_14 ⟨(show 0 + 0 ≤ 0 by omega), (show 0 + 0 ≤ 0 by omega)⟩) (fun r2 hw => ?_)
  have hw : (zM r2 (fun k => k < cc)) := hw
  have w0r2 := hw
  refine lv_istore_n (lv' := [(3, .int r2), (2, .int r1), (0, .ref bh), (1, .ref uh)]) hx hb dX1_linked_17 rfl hl (by decide) rfl (fun ls hl => ?_)
  refine lv_aload_n hx hb dX1_linked_18 rfl (lv_at hl 2 rfl) ?_
  refine lv_iload_n hx hb dX1_linked_19 rfl (lv_at hl 1 rfl) ?_
  refine vp_callSi (W.runV (As := [.int r1]) (rest := []) ⟨hx, hb, hml, hown, hts⟩ (kX0_errorAt l dC dI bh br cI cJ cB cc nA mA aA fcA fA mcA mmA wA tcA g1A g2A nuA erA reA liA lcA ⟨by omega, hfcA, hmcA, herA, hliA, hlcA⟩ r1 (zM.imp w0r1 (fun k hk hq => by first | exact hq | trivial | omega))) (cwV 1 hts zgX1_linked_X0_errorAt_24 rfl rfl rfl (by decide +kernel) ⟨(show 0 + 1 ≤ 4 by omega), (show 8 + (2 + 11) + 0 ≤ 98 by omega)⟩) (zVq (ci := 0) (q0 := 0) (q := (RX0, TX0, 17)) hK (hP.sub (ws' := (bW bh br cI cJ cB (nI cc) nA mA aA (fun j => nI (fcA j)) fA (fun j => nI (mcA j)) mmA wA tcA g1A g2A nuA (fun j => nI (erA j)) reA (fun j => nI (liA j)) (fun j => nI (lcA j)))) [0, 1, 2, 3, 4, 5, 6, 7, 8, 9, 10, 11, 12, 13, 14, 15, 16] rfl) hE rfl rfl rfl) rfl rfl hl.1 rfl (lv_room (Nat.le_of_ble_eq_true rfl)) dX1_linked_20 ⟨(show 0 + 0 ≤ 0 by omega), (show 0 + 0 ≤ 0 by omega)⟩) (fun r3 hw => ?_)
  have hw : (zN r3 (fun k => k ≤ 5 ∧ (k = 0 → zIn16 r1))) := hw
  have w0r3 := hw
  obtain ⟨k4, hBk4, hQk4, rfl⟩ := w0r3
  refine lv_if_eq (tgt := 35) hx hb dX1_linked_23 (by decide) (fun cp23 => ?_) (fun cp23 => ?_)
  · have qcp23 : k4 = 0 := (nI_eq (a := k4) (b := 0) (by omega) (by omega)).mp cp23
    obtain ⟨j5, hjj5, rfl⟩ := hQk4.2 qcp23
    refine lv_iload_n hx hb dX1_linked_35 rfl (lv_at hl 0 rfl) ?_
    refine lv_iconst (v := (-1)) hx hb dX1_linked_36 (by decide) ?_
    refine lv_icmp_ne (tgt := 45) hx hb dX1_linked_37 (by decide) (fun cp37 => ?_) (fun cp37 => ?_)
    · obtain ⟨k6, hBk6, hQk6, rfl⟩ := w0r2.resolve_left cp37
      refine lv_aload_n hx hb dX1_linked_45 rfl (lv_at hl 2 rfl) ?_
      refine lv_iload_n hx hb dX1_linked_46 rfl (lv_at hl 0 rfl) ?_
      refine vp_callSi (W.runV (As := [.int (nI k6)]) (rest := []) ⟨hx, hb, hml, hown, hts⟩ (kX0_errorAt l dC dI bh br cI cJ cB cc nA mA aA fcA fA mcA mmA wA tcA g1A g2A nuA erA reA liA lcA ⟨by omega, hfcA, hmcA, herA, hliA, hlcA⟩ (nI k6) (zM.mk (by omega) (by first | trivial | omega | assumption | (refine ⟨?_, ?_⟩ <;> first | trivial | omega | assumption)))) (cwV 1 hts zgX1_linked_X0_errorAt_24 rfl rfl rfl (by decide +kernel) ⟨(show 0 + 1 ≤ 4 by omega), (show 8 + (2 + 11) + 0 ≤ 98 by omega)⟩) (zVq (ci := 0) (q0 := 0) (q := (RX0, TX0, 17)) hK (hP.sub (ws' := (bW bh br cI cJ cB (nI cc) nA mA aA (fun j => nI (fcA j)) fA (fun j => nI (mcA j)) mmA wA tcA g1A g2A nuA (fun j => nI (erA j)) reA (fun j => nI (liA j)) (fun j => nI (lcA j)))) [0, 1, 2, 3, 4, 5, 6, 7, 8, 9, 10, 11, 12, 13, 14, 15, 16] rfl) hE rfl rfl rfl) rfl rfl hl.1 rfl (lv_room (Nat.le_of_ble_eq_true rfl)) dX1_linked_47 ⟨(show 0 + 0 ≤ 0 by omega), (show 0 + 0 ≤ 0 by omega)⟩) (fun r7 hw => ?_)
      have hw : (zN r7 (fun k => k ≤ 5 ∧ (k = 0 → zIn16 ((nI k6))))) := hw
      have w0r7 := hw
      obtain ⟨k8, hBk8, hQk8, rfl⟩ := w0r7
      refine lv_if_eq (tgt := 62) hx hb dX1_linked_50 (by decide) (fun cp50 => ?_) (fun cp50 => ?_)
      · have qcp50 : k8 = 0 := (nI_eq (a := k8) (b := 0) (by omega) (by omega)).mp cp50
        refine lv_aload_n hx hb dX1_linked_62 rfl (lv_at hl 3 rfl) ?_
        refine va_get (D := (dC, dI)) (ci := 4) (v := .int uk) (C := RX5) (T := TX5) (N := 5) hx hb hts hiX5 hown hK hP 17 rfl rfl 0 (by decide) (hts (.fieldLink RX1 32 "LinkModels$Use" "kind" "I") (by decide +kernel)) (fun _ h9 => h9) rfl dX1_linked_63 ?_
        refine lv_bipush (v := 9) hx hb dX1_linked_66 (by decide) ?_
        refine lv_icmp_ne (tgt := 76) hx hb dX1_linked_68 (by decide) (fun cp68 => ?_) (fun cp68 => ?_)
        · refine lv_aload_n hx hb dX1_linked_76 rfl (lv_at hl 3 rfl) ?_
          refine va_get (D := (dC, dI)) (ci := 4) (v := .int uk) (C := RX5) (T := TX5) (N := 5) hx hb hts hiX5 hown hK hP 17 rfl rfl 0 (by decide) (hts (.fieldLink RX1 32 "LinkModels$Use" "kind" "I") (by decide +kernel)) (fun _ h9 => h9) rfl dX1_linked_77 ?_
          refine lv_bipush (v := 8) hx hb dX1_linked_80 (by decide) ?_
          refine lv_icmp_ne (tgt := 106) hx hb dX1_linked_82 (by decide) (fun cp82 => ?_) (fun cp82 => ?_)
          · refine lv_aload_n hx hb dX1_linked_106 rfl (lv_at hl 3 rfl) ?_
            refine vp_callSi (W.runV (As := []) (rest := []) ⟨hx, hb, hml, hown, hts⟩ (kX5_asksField l dC dI uh ug cI cJ cB uk uc uo uy uw ut uf uq) (cwV 0 hts zgX1_linked_X5_asksField_39 rfl rfl rfl (by decide +kernel) ⟨(show 0 + 1 ≤ 4 by omega), (show 8 + (1 + 11) + 0 ≤ 98 by omega)⟩) (zVq (ci := 4) (q0 := 0) (q := (RX5, TX5, 5)) hK (hP.sub (ws' := (uW uh ug cI cJ cB uk uc uo uy uw ut uf uq)) [17, 18] rfl) hE rfl rfl rfl) rfl rfl hl.1 rfl (lv_room (Nat.le_of_ble_eq_true rfl)) dX1_linked_107 ⟨(show 0 + 0 ≤ 0 by omega), (show 0 + 0 ≤ 0 by omega)⟩) (fun r9 hw => ?_)
            have hw : (r9 = 0 ∨ r9 = 1) := hw
            have w0r9 := hw
            refine lv_if_eq (tgt := 123) hx hb dX1_linked_110 (by decide) (fun cp110 => ?_) (fun cp110 => ?_)
            · refine lv_aload_n hx hb dX1_linked_123 rfl (lv_at hl 2 rfl) ?_
              refine lv_aload_n hx hb dX1_linked_124 rfl (lv_at hl 3 rfl) ?_
              refine lv_iload_n hx hb dX1_linked_125 rfl (lv_at hl 1 rfl) ?_
              refine lv_iload_n hx hb dX1_linked_126 rfl (lv_at hl 0 rfl) ?_
              refine vp_callSi (W.runS (As := [.ref bh, .ref uh, .int (nI j5), .int (nI k6)]) (rest := []) ⟨hx, hb, hml, hown, hts⟩ (kX1_linkedMethod l dC dI bh br uh ug cI cJ cB cc nA mA aA fcA fA mcA mmA wA tcA g1A g2A nuA erA reA liA lcA uk uc uo uy uw ut uf uq ⟨by omega, hfcA, hmcA, herA, hliA, hlcA⟩ (nI j5) k6 (by first | omega | assumption | trivial)) (va_cwS 4 hts zgX1_linked_X1_linkedMethod_47 rfl rfl rfl (by decide +kernel) ⟨(show 3 + 1 ≤ 4 by omega), (show 8 + (5 + 11) + 74 ≤ 98 by omega)⟩) (zSq hK hP hE) rfl rfl hl.1 rfl (lv_room (Nat.le_of_ble_eq_true rfl)) dX1_linked_127 ⟨(show 0 + 0 ≤ 0 by omega), (show 0 + 0 ≤ 0 by omega)⟩) (fun r10 hw => ?_)
              have hw : (zSp r10 (fun k => k < 208)) := hw
              have w0r10 := hw
              exact W.iret (v := r10) hx hb hr (fun t ht hW => ⟨r10, rfl, (zSp.imp w0r10 (fun k hk hq => by first | exact hq | trivial | omega)), ht⟩) (fun _ h => by cases h) dX1_linked_130
            · refine lv_aload_n hx hb dX1_linked_113 rfl (lv_at hl 2 rfl) ?_
              refine lv_aload_n hx hb dX1_linked_114 rfl (lv_at hl 3 rfl) ?_
              refine lv_iload_n hx hb dX1_linked_115 rfl (lv_at hl 1 rfl) ?_
              refine lv_iload_n hx hb dX1_linked_116 rfl (lv_at hl 0 rfl) ?_
              refine vp_callSi (W.runS (As := [.ref bh, .ref uh, .int (nI j5), .int (nI k6)]) (rest := []) ⟨hx, hb, hml, hown, hts⟩ (kX1_linkedField l dC dI bh br uh ug cI cJ cB cc nA mA aA fcA fA mcA mmA wA tcA g1A g2A nuA erA reA liA lcA uk uc uo uy uw ut uf uq ⟨by omega, hfcA, hmcA, herA, hliA, hlcA⟩ (nI j5) k6 (by first | omega | assumption | trivial)) (va_cwS 4 hts zgX1_linked_X1_linkedField_43 rfl rfl rfl (by decide +kernel) ⟨(show 3 + 1 ≤ 4 by omega), (show 8 + (6 + 11) + 71 ≤ 98 by omega)⟩) (zSq hK hP hE) rfl rfl hl.1 rfl (lv_room (Nat.le_of_ble_eq_true rfl)) dX1_linked_117 ⟨(show 0 + 0 ≤ 0 by omega), (show 0 + 0 ≤ 0 by omega)⟩) (fun r11 hw => ?_)
              have hw : (zSp r11 (fun k => k < 208)) := hw
              have w0r11 := hw
              refine lv_goto (tgt := 130) hx hb dX1_linked_120 (by decide) ?_
              exact W.iret (v := r11) hx hb hr (fun t ht hW => ⟨r11, rfl, (zSp.imp w0r11 (fun k hk hq => by first | exact hq | trivial | omega)), ht⟩) (fun _ h => by cases h) dX1_linked_130
          · refine lv_aload_n hx hb dX1_linked_85 rfl (lv_at hl 2 rfl) ?_
            refine lv_iload_n hx hb dX1_linked_86 rfl (lv_at hl 0 rfl) ?_
            refine vp_callSi (W.runV (As := [.int (nI k6)]) (rest := []) ⟨hx, hb, hml, hown, hts⟩ (kX0_isWhole l dC dI bh br cI cJ cB cc nA mA aA fcA fA mcA mmA wA tcA g1A g2A nuA erA reA liA lcA ⟨by omega, hfcA, hmcA, herA, hliA, hlcA⟩ k6 (by first | omega | assumption | trivial)) (cwV 1 hts zgX1_linked_X0_isWhole_35 rfl rfl rfl (by decide +kernel) ⟨(show 0 + 1 ≤ 4 by omega), (show 8 + (2 + 11) + 0 ≤ 98 by omega)⟩) (zVq (ci := 0) (q0 := 0) (q := (RX0, TX0, 17)) hK (hP.sub (ws' := (bW bh br cI cJ cB (nI cc) nA mA aA (fun j => nI (fcA j)) fA (fun j => nI (mcA j)) mmA wA tcA g1A g2A nuA (fun j => nI (erA j)) reA (fun j => nI (liA j)) (fun j => nI (lcA j)))) [0, 1, 2, 3, 4, 5, 6, 7, 8, 9, 10, 11, 12, 13, 14, 15, 16] rfl) hE rfl rfl rfl) rfl rfl hl.1 rfl (lv_room (Nat.le_of_ble_eq_true rfl)) dX1_linked_87 ⟨(show 0 + 0 ≤ 0 by omega), (show 0 + 0 ≤ 0 by omega)⟩) (fun r12 hw => ?_)
            have hw : (r12 = 0 ∨ r12 = 1) := hw
            have w0r12 := hw
            refine lv_if_eq (tgt := 100) hx hb dX1_linked_90 (by decide) (fun cp90 => ?_) (fun cp90 => ?_)
            · refine lv_bipush (v := 6) hx hb dX1_linked_100 (by decide) ?_
              refine vp_callSi (W.runS (As := [.int 6]) (rest := []) ⟨hx, hb, hml, hown, hts⟩ (kX1_failed l dC dI   6 (by first | omega | assumption | trivial)) (va_cwS 1 hts zgX1_linked_X1_failed_27 rfl rfl rfl (by decide +kernel) ⟨(show 0 + 1 ≤ 4 by omega), (show 8 + (1 + 11) + 0 ≤ 98 by omega)⟩) (zSq (hK.sub (tys' := []) [] rfl) (hP.sub (ws' := ([] : va_W)) [] rfl) hE) rfl rfl hl.1 rfl (lv_room (Nat.le_of_ble_eq_true rfl)) dX1_linked_102 ⟨(show 0 + 0 ≤ 0 by omega), (show 0 + 0 ≤ 0 by omega)⟩) (fun r13 hw => ?_)
              have hw : (r13 < 0) := hw
              have w0r13 := hw
              exact W.iret (v := r13) hx hb hr (fun t ht hW => ⟨r13, rfl, (Or.inl w0r13), ht⟩) (fun _ h => by cases h) dX1_linked_105
            · refine lv_iload_n hx hb dX1_linked_93 rfl (lv_at hl 0 rfl) ?_
              refine lv_bipush (v := 13) hx hb dX1_linked_94 (by decide) ?_
              refine lv_imul hx hb dX1_linked_96 ?_
              refine lv_topi (fun x14 ex14 => ?_)
              obtain rfl : x14 = nI (k6 * 13) := by rw [ex14]; exact pk_mul (k6) (13)
              refine lv_goto (tgt := 105) hx hb dX1_linked_97 (by decide) ?_
              exact W.iret (v := (nI (k6 * 13))) hx hb hr (fun t ht hW => ⟨(nI (k6 * 13)), rfl, (zSp.mk (by omega) (by first | trivial | omega | assumption)), ht⟩) (fun _ h => by cases h) dX1_linked_105
        · refine lv_iload_n hx hb dX1_linked_71 rfl (lv_at hl 0 rfl) ?_
          refine lv_bipush (v := 13) hx hb dX1_linked_72 (by decide) ?_
          refine lv_imul hx hb dX1_linked_74 ?_
          refine lv_topi (fun x15 ex15 => ?_)
          obtain rfl : x15 = nI (k6 * 13) := by rw [ex15]; exact pk_mul (k6) (13)
          exact W.iret (v := (nI (k6 * 13))) hx hb hr (fun t ht hW => ⟨(nI (k6 * 13)), rfl, (zSp.mk (by omega) (by first | trivial | omega | assumption)), ht⟩) (fun _ h => by cases h) dX1_linked_75
      · have qcp50 : ¬ k8 = 0 := fun h9 => cp50 ((nI_eq (a := k8) (b := 0) (by omega) (by omega)).mpr h9)
        refine lv_aload_n hx hb dX1_linked_53 rfl (lv_at hl 2 rfl) ?_
        refine lv_iload_n hx hb dX1_linked_54 rfl (lv_at hl 0 rfl) ?_
        refine vp_callSi (W.runV (As := [.int (nI k6)]) (rest := []) ⟨hx, hb, hml, hown, hts⟩ (kX0_errorAt l dC dI bh br cI cJ cB cc nA mA aA fcA fA mcA mmA wA tcA g1A g2A nuA erA reA liA lcA ⟨by omega, hfcA, hmcA, herA, hliA, hlcA⟩ (nI k6) (zM.mk (by omega) (by first | trivial | omega | assumption | (refine ⟨?_, ?_⟩ <;> first | trivial | omega | assumption)))) (cwV 1 hts zgX1_linked_X0_errorAt_24 rfl rfl rfl (by decide +kernel) ⟨(show 0 + 1 ≤ 4 by omega), (show 8 + (2 + 11) + 0 ≤ 98 by omega)⟩) (zVq (ci := 0) (q0 := 0) (q := (RX0, TX0, 17)) hK (hP.sub (ws' := (bW bh br cI cJ cB (nI cc) nA mA aA (fun j => nI (fcA j)) fA (fun j => nI (mcA j)) mmA wA tcA g1A g2A nuA (fun j => nI (erA j)) reA (fun j => nI (liA j)) (fun j => nI (lcA j)))) [0, 1, 2, 3, 4, 5, 6, 7, 8, 9, 10, 11, 12, 13, 14, 15, 16] rfl) hE rfl rfl rfl) rfl rfl hl.1 rfl (lv_room (Nat.le_of_ble_eq_true rfl)) dX1_linked_55 ⟨(show 0 + 0 ≤ 0 by omega), (show 0 + 0 ≤ 0 by omega)⟩) (fun r16 hw => ?_)
        have hw : (zN r16 (fun k => k ≤ 5 ∧ (k = 0 → zIn16 ((nI k6))))) := hw
        have w0r16 := hw
        obtain ⟨k17, hBk17, hQk17, rfl⟩ := w0r16
        refine vp_callSi (W.runS (As := [.int (nI k17)]) (rest := []) ⟨hx, hb, hml, hown, hts⟩ (kX1_failed l dC dI   k17 (by first | omega | assumption | trivial)) (va_cwS 1 hts zgX1_linked_X1_failed_27 rfl rfl rfl (by decide +kernel) ⟨(show 0 + 1 ≤ 4 by omega), (show 8 + (1 + 11) + 0 ≤ 98 by omega)⟩) (zSq (hK.sub (tys' := []) [] rfl) (hP.sub (ws' := ([] : va_W)) [] rfl) hE) rfl rfl hl.1 rfl (lv_room (Nat.le_of_ble_eq_true rfl)) dX1_linked_58 ⟨(show 0 + 0 ≤ 0 by omega), (show 0 + 0 ≤ 0 by omega)⟩) (fun r18 hw => ?_)
        have hw : (r18 < 0) := hw
        have w0r18 := hw
        exact W.iret (v := r18) hx hb hr (fun t ht hW => ⟨r18, rfl, (Or.inl w0r18), ht⟩) (fun _ h => by cases h) dX1_linked_61
    · obtain rfl : r2 = -1 := cp37
      refine lv_iconst (v := 2) hx hb dX1_linked_40 (by decide) ?_
      refine vp_callSi (W.runS (As := [.int 2]) (rest := []) ⟨hx, hb, hml, hown, hts⟩ (kX1_failed l dC dI   2 (by first | omega | assumption | trivial)) (va_cwS 1 hts zgX1_linked_X1_failed_27 rfl rfl rfl (by decide +kernel) ⟨(show 0 + 1 ≤ 4 by omega), (show 8 + (1 + 11) + 0 ≤ 98 by omega)⟩) (zSq (hK.sub (tys' := []) [] rfl) (hP.sub (ws' := ([] : va_W)) [] rfl) hE) rfl rfl hl.1 rfl (lv_room (Nat.le_of_ble_eq_true rfl)) dX1_linked_41 ⟨(show 0 + 0 ≤ 0 by omega), (show 0 + 0 ≤ 0 by omega)⟩) (fun r19 hw => ?_)
      have hw : (r19 < 0) := hw
      have w0r19 := hw
      exact W.iret (v := r19) hx hb hr (fun t ht hW => ⟨r19, rfl, (Or.inl w0r19), ht⟩) (fun _ h => by cases h) dX1_linked_44
  · have qcp23 : ¬ k4 = 0 := fun h9 => cp23 ((nI_eq (a := k4) (b := 0) (by omega) (by omega)).mpr h9)
    refine lv_aload_n hx hb dX1_linked_26 rfl (lv_at hl 2 rfl) ?_
    refine lv_iload_n hx hb dX1_linked_27 rfl (lv_at hl 1 rfl) ?_
    refine vp_callSi (W.runV (As := [.int r1]) (rest := []) ⟨hx, hb, hml, hown, hts⟩ (kX0_errorAt l dC dI bh br cI cJ cB cc nA mA aA fcA fA mcA mmA wA tcA g1A g2A nuA erA reA liA lcA ⟨by omega, hfcA, hmcA, herA, hliA, hlcA⟩ r1 (zM.imp w0r1 (fun k hk hq => by first | exact hq | trivial | omega))) (cwV 1 hts zgX1_linked_X0_errorAt_24 rfl rfl rfl (by decide +kernel) ⟨(show 0 + 1 ≤ 4 by omega), (show 8 + (2 + 11) + 0 ≤ 98 by omega)⟩) (zVq (ci := 0) (q0 := 0) (q := (RX0, TX0, 17)) hK (hP.sub (ws' := (bW bh br cI cJ cB (nI cc) nA mA aA (fun j => nI (fcA j)) fA (fun j => nI (mcA j)) mmA wA tcA g1A g2A nuA (fun j => nI (erA j)) reA (fun j => nI (liA j)) (fun j => nI (lcA j)))) [0, 1, 2, 3, 4, 5, 6, 7, 8, 9, 10, 11, 12, 13, 14, 15, 16] rfl) hE rfl rfl rfl) rfl rfl hl.1 rfl (lv_room (Nat.le_of_ble_eq_true rfl)) dX1_linked_28 ⟨(show 0 + 0 ≤ 0 by omega), (show 0 + 0 ≤ 0 by omega)⟩) (fun r20 hw => ?_)
    have hw : (zN r20 (fun k => k ≤ 5 ∧ (k = 0 → zIn16 r1))) := hw
    have w0r20 := hw
    obtain ⟨k21, hBk21, hQk21, rfl⟩ := w0r20
    refine vp_callSi (W.runS (As := [.int (nI k21)]) (rest := []) ⟨hx, hb, hml, hown, hts⟩ (kX1_failed l dC dI   k21 (by first | omega | assumption | trivial)) (va_cwS 1 hts zgX1_linked_X1_failed_27 rfl rfl rfl (by decide +kernel) ⟨(show 0 + 1 ≤ 4 by omega), (show 8 + (1 + 11) + 0 ≤ 98 by omega)⟩) (zSq (hK.sub (tys' := []) [] rfl) (hP.sub (ws' := ([] : va_W)) [] rfl) hE) rfl rfl hl.1 rfl (lv_room (Nat.le_of_ble_eq_true rfl)) dX1_linked_31 ⟨(show 0 + 0 ≤ 0 by omega), (show 0 + 0 ≤ 0 by omega)⟩) (fun r22 hw => ?_)
    have hw : (r22 < 0) := hw
    have w0r22 := hw
    exact W.iret (v := r22) hx hb hr (fun t ht hW => ⟨r22, rfl, (Or.inl w0r22), ht⟩) (fun _ h => by cases h) dX1_linked_34
theorem dX1_performed_0 : decode cX1_performed 0 = .ok (.aload_n 0, 1) := by decide +kernel
theorem dX1_performed_1 : decode cX1_performed 1 = .ok (.iload_n 3, 1) := by decide +kernel
theorem dX1_performed_2 : decode cX1_performed 2 = .ok (.invokevirtual 15, 3) := by decide +kernel
theorem dX1_performed_5 : decode cX1_performed 5 = .ok (.istore 4, 2) := by decide +kernel
theorem dX1_performed_7 : decode cX1_performed 7 = .ok (.aload_n 0, 1) := by decide +kernel
theorem dX1_performed_8 : decode cX1_performed 8 = .ok (.iload 4, 2) := by decide +kernel
theorem dX1_performed_10 : decode cX1_performed 10 = .ok (.invokevirtual 24, 3) := by decide +kernel
theorem dX1_performed_13 : decode cX1_performed 13 = .ok (.ifCond .eq 13, 3) := by decide +kernel
theorem dX1_performed_16 : decode cX1_performed 16 = .ok (.aload_n 0, 1) := by decide +kernel
theorem dX1_performed_17 : decode cX1_performed 17 = .ok (.iload 4, 2) := by decide +kernel
theorem dX1_performed_19 : decode cX1_performed 19 = .ok (.invokevirtual 24, 3) := by decide +kernel
theorem dX1_performed_22 : decode cX1_performed 22 = .ok (.invokestatic 27, 3) := by decide +kernel
theorem dX1_performed_25 : decode cX1_performed 25 = .ok (.ireturn, 1) := by decide +kernel
theorem dX1_performed_26 : decode cX1_performed 26 = .ok (.aload_n 0, 1) := by decide +kernel
theorem dX1_performed_27 : decode cX1_performed 27 = .ok (.iload 4, 2) := by decide +kernel
theorem dX1_performed_29 : decode cX1_performed 29 = .ok (.aload_n 0, 1) := by decide +kernel
theorem dX1_performed_30 : decode cX1_performed 30 = .ok (.aload_n 1, 1) := by decide +kernel
theorem dX1_performed_31 : decode cX1_performed 31 = .ok (.getfield 21, 3) := by decide +kernel
theorem dX1_performed_34 : decode cX1_performed 34 = .ok (.invokevirtual 15, 3) := by decide +kernel
theorem dX1_performed_37 : decode cX1_performed 37 = .ok (.invokevirtual 104, 3) := by decide +kernel
theorem dX1_performed_40 : decode cX1_performed 40 = .ok (.ifCond .ne 8, 3) := by decide +kernel
theorem dX1_performed_43 : decode cX1_performed 43 = .ok (.iconst 4, 1) := by decide +kernel
theorem dX1_performed_44 : decode cX1_performed 44 = .ok (.invokestatic 27, 3) := by decide +kernel
theorem dX1_performed_47 : decode cX1_performed 47 = .ok (.ireturn, 1) := by decide +kernel
theorem dX1_performed_48 : decode cX1_performed 48 = .ok (.aload_n 0, 1) := by decide +kernel
theorem dX1_performed_49 : decode cX1_performed 49 = .ok (.iload_n 2, 1) := by decide +kernel
theorem dX1_performed_50 : decode cX1_performed 50 = .ok (.iconst 2, 1) := by decide +kernel
theorem dX1_performed_51 : decode cX1_performed 51 = .ok (.invokevirtual 67, 3) := by decide +kernel
theorem dX1_performed_54 : decode cX1_performed 54 = .ok (.ifCond .eq 5, 3) := by decide +kernel
theorem dX1_performed_57 : decode cX1_performed 57 = .ok (.iload_n 2, 1) := by decide +kernel
theorem dX1_performed_58 : decode cX1_performed 58 = .ok (.ireturn, 1) := by decide +kernel
theorem dX1_performed_59 : decode cX1_performed 59 = .ok (.aload_n 0, 1) := by decide +kernel
theorem dX1_performed_60 : decode cX1_performed 60 = .ok (.iload 4, 2) := by decide +kernel
theorem dX1_performed_62 : decode cX1_performed 62 = .ok (.aload_n 1, 1) := by decide +kernel
theorem dX1_performed_63 : decode cX1_performed 63 = .ok (.getfield 50, 3) := by decide +kernel
theorem dX1_performed_66 : decode cX1_performed 66 = .ok (.iconst 3, 1) := by decide +kernel
theorem dX1_performed_67 : decode cX1_performed 67 = .ok (.invokevirtual 80, 3) := by decide +kernel
theorem dX1_performed_70 : decode cX1_performed 70 = .ok (.istore 5, 2) := by decide +kernel
theorem dX1_performed_72 : decode cX1_performed 72 = .ok (.iload 5, 2) := by decide +kernel
theorem dX1_performed_74 : decode cX1_performed 74 = .ok (.iconst (-1), 1) := by decide +kernel
theorem dX1_performed_75 : decode cX1_performed 75 = .ok (.if_icmp .ne 14, 3) := by decide +kernel
theorem dX1_performed_78 : decode cX1_performed 78 = .ok (.aload_n 0, 1) := by decide +kernel
theorem dX1_performed_79 : decode cX1_performed 79 = .ok (.aload_n 1, 1) := by decide +kernel
theorem dX1_performed_80 : decode cX1_performed 80 = .ok (.getfield 50, 3) := by decide +kernel
theorem dX1_performed_83 : decode cX1_performed 83 = .ok (.iload 4, 2) := by decide +kernel
theorem dX1_performed_85 : decode cX1_performed 85 = .ok (.invokestatic 107, 3) := by decide +kernel
theorem dX1_performed_88 : decode cX1_performed 88 = .ok (.ireturn, 1) := by decide +kernel
theorem dX1_performed_89 : decode cX1_performed 89 = .ok (.aload_n 0, 1) := by decide +kernel
theorem dX1_performed_90 : decode cX1_performed 90 = .ok (.iload 5, 2) := by decide +kernel
theorem dX1_performed_92 : decode cX1_performed 92 = .ok (.bipush 8, 2) := by decide +kernel
theorem dX1_performed_94 : decode cX1_performed 94 = .ok (.invokevirtual 67, 3) := by decide +kernel
theorem dX1_performed_97 : decode cX1_performed 97 = .ok (.ifCond .eq 11, 3) := by decide +kernel
theorem dX1_performed_100 : decode cX1_performed 100 = .ok (.bipush 10, 2) := by decide +kernel
theorem dX1_performed_102 : decode cX1_performed 102 = .ok (.invokestatic 27, 3) := by decide +kernel
theorem dX1_performed_105 : decode cX1_performed 105 = .ok (.goto 5, 3) := by decide +kernel
theorem dX1_performed_108 : decode cX1_performed 108 = .ok (.iload 5, 2) := by decide +kernel
theorem dX1_performed_110 : decode cX1_performed 110 = .ok (.ireturn, 1) := by decide +kernel
def zwX1_performed : List Cond := .code yX1_performed cX1_performed 6 (some .int) :: ([.fieldLink RX1 21 "LinkModels$Use" "owner" "I", .fieldLink RX1 50 "LinkModels$Use" "wanted" "LLinkModels$Signature;", .methodLink RX1 15 yX0_placeOf, .instanceMethod yX0_placeOf, .selects RX0 yX0_placeOf yX0_placeOf, .initialized RX0, .code yX0_placeOf cX0_placeOf 3 (some .int), .fieldLink RX0 61 "LinkModels$Build" "classCount" "I", .fieldLink RX0 11 "LinkModels$Build" "names" "[I", .methodLink RX1 24 yX0_errorAt, .instanceMethod yX0_errorAt, .selects RX0 yX0_errorAt yX0_errorAt, .code yX0_errorAt cX0_errorAt 2 (some .int), .fieldLink RX0 49 "LinkModels$Build" "errors" "[I", .methodLink RX1 104 yX0_isOf, .instanceMethod yX0_isOf, .selects RX0 yX0_isOf yX0_isOf, .code yX0_isOf cX0_isOf 3 (some .boolean), .fieldLink RX0 52 "LinkModels$Build" "reached" "[I", .methodLink RX1 67 yX0_has, .instanceMethod yX0_has, .selects RX0 yX0_has yX0_has, .code yX0_has cX0_has 3 (some .boolean), .fieldLink RX0 30 "LinkModels$Build" "memberMarks" "[I", .methodLink RX1 80 yX0_methodFrom, .instanceMethod yX0_methodFrom, .selects RX0 yX0_methodFrom yX0_methodFrom, .code yX0_methodFrom cX0_methodFrom 7 (some .int), .fieldLink RX0 58 "LinkModels$Build" "lineCounts" "[I", .fieldLink RX0 55 "LinkModels$Build" "lines" "[I", .methodLink RX0 82 yX0_has, .methodLink RX0 94 yX0_methodIn, .instanceMethod yX0_methodIn, .selects RX0 yX0_methodIn yX0_methodIn, .code yX0_methodIn cX0_methodIn 5 (some .int), .fieldLink RX0 37 "LinkModels$Build" "typeCounts" "[I", .fieldLink RX0 71 "LinkModels$Signature" "typeCount" "I", .fieldLink RX0 40 "LinkModels$Build" "firsts" "[I", .fieldLink RX0 74 "LinkModels$Signature" "first" "I", .fieldLink RX0 43 "LinkModels$Build" "seconds" "[I", .fieldLink RX0 77 "LinkModels$Signature" "second" "I", .fieldLink RX0 27 "LinkModels$Build" "memberCounts" "[I", .fieldLink RX0 33 "LinkModels$Build" "words" "[J", .fieldLink RX0 65 "LinkModels$Signature" "word" "J", .methodLink RX0 90 yX0_isFace, .instanceMethod yX0_isFace, .selects RX0 yX0_isFace yX0_isFace, .code yX0_isFace cX0_isFace 2 (some .boolean), .fieldLink RX0 15 "LinkModels$Build" "classMarks" "[I", .methodLink RX1 27 yX1_failed, .static yX1_failed, .initialized RX1, .code yX1_failed cX1_failed 1 (some .int), .methodLink RX1 107 yX1_performedByFaces, .static yX1_performedByFaces, .code yX1_performedByFaces cX1_performedByFaces 4 (some .int), .methodLink RX1 88 yX0_nearestFaces, .instanceMethod yX0_nearestFaces, .selects RX0 yX0_nearestFaces yX0_nearestFaces, .code yX0_nearestFaces cX0_nearestFaces 7 (some .int), .methodLink RX1 92 yX0_withBody, .instanceMethod yX0_withBody, .selects RX0 yX0_withBody yX0_withBody, .code yX0_withBody cX0_withBody 6 (some .int), .methodLink RX1 95 yJ6_bitCount_0f7a4, .static yJ6_bitCount_0f7a4, .initialized RJ6, .code yJ6_bitCount_0f7a4 cJ6_bitCount_0f7a4 1 (some .int), .constant RJ6 265 (1431655765), .constant RJ6 266 (858993459), .constant RJ6 267 (252645135), .methodLink RX1 100 yX0_firstMethodOf, .instanceMethod yX0_firstMethodOf, .selects RX0 yX0_firstMethodOf yX0_firstMethodOf, .code yX0_firstMethodOf cX0_firstMethodOf 6 (some .int)] ++ wsX50 ++ wsX00 ++ wsX30)
theorem zgX1_performed_X0_placeOf_15 : GoodIn zwX1_performed (wsV RX1 15 RX0 yX0_placeOf zwX0_placeOf) := goodIn_app (goodIn_r _ [3, 4, 5, 6] rfl (by decide +kernel)) (goodIn_app (goodIn_r _ [7, 8, 9] rfl (by decide +kernel)) (fun w hw => ⟨(List.mem_cons_of_mem _ (List.mem_append_left _ (List.mem_append_right _ hw))), good_of_word (List.all_eq_true.mp zgX0 w hw)⟩))
theorem zgX1_performed_X0_errorAt_24 : GoodIn zwX1_performed (wsV RX1 24 RX0 yX0_errorAt zwX0_errorAt) := goodIn_app (goodIn_r _ [10, 11, 12, 6] rfl (by decide +kernel)) (goodIn_app (goodIn_r _ [13, 14] rfl (by decide +kernel)) (fun w hw => ⟨(List.mem_cons_of_mem _ (List.mem_append_left _ (List.mem_append_right _ hw))), good_of_word (List.all_eq_true.mp zgX0 w hw)⟩))
theorem zgX1_performed_X0_isOf_104 : GoodIn zwX1_performed (wsV RX1 104 RX0 yX0_isOf zwX0_isOf) := goodIn_app (goodIn_r _ [15, 16, 17, 6] rfl (by decide +kernel)) (goodIn_app (goodIn_r _ [18, 19] rfl (by decide +kernel)) (fun w hw => ⟨(List.mem_cons_of_mem _ (List.mem_append_left _ (List.mem_append_right _ hw))), good_of_word (List.all_eq_true.mp zgX0 w hw)⟩))
theorem zgX1_performed_X0_has_67 : GoodIn zwX1_performed (wsV RX1 67 RX0 yX0_has zwX0_has) := goodIn_app (goodIn_r _ [20, 21, 22, 6] rfl (by decide +kernel)) (goodIn_app (goodIn_r _ [23, 24] rfl (by decide +kernel)) (fun w hw => ⟨(List.mem_cons_of_mem _ (List.mem_append_left _ (List.mem_append_right _ hw))), good_of_word (List.all_eq_true.mp zgX0 w hw)⟩))
theorem zgX1_performed_X0_methodFrom_80 : GoodIn zwX1_performed (wsV RX1 80 RX0 yX0_methodFrom zwX0_methodFrom) := goodIn_app (goodIn_r _ [25, 26, 27, 6] rfl (by decide +kernel)) (goodIn_app (goodIn_app (goodIn_r _ [28, 29, 30, 31, 21, 22, 6, 23, 24, 32, 33, 34, 35, 36, 37, 38, 39, 40, 41, 42, 43, 44, 45, 46, 47, 48, 49] rfl (by decide +kernel)) (fun w hw => ⟨(List.mem_cons_of_mem _ (List.mem_append_left _ (List.mem_append_right _ hw))), good_of_word (List.all_eq_true.mp zgX0 w hw)⟩)) (fun w hw => ⟨(List.mem_cons_of_mem _ (List.mem_append_right _ hw)), good_of_word (List.all_eq_true.mp zgX3 w hw)⟩))
theorem zgX1_performed_X1_failed_27 : GoodIn zwX1_performed (va_wsS RX1 27 yX1_failed zwX1_failed) := goodIn_app (goodIn_r _ [50, 51, 52] rfl (by decide +kernel)) (goodIn_r _ [53] rfl (by decide +kernel))
theorem zgX1_performed_X1_performedByFaces_107 : GoodIn zwX1_performed (va_wsS RX1 107 yX1_performedByFaces zwX1_performedByFaces) := goodIn_app (goodIn_r _ [54, 55, 52] rfl (by decide +kernel)) (goodIn_app (goodIn_app (goodIn_r _ [56, 57, 58, 59, 6, 60, 8, 19, 29, 30, 31, 21, 22, 23, 24, 45, 46, 47, 48, 49, 32, 33, 34, 35, 36, 37, 38, 39, 40, 41, 42, 43, 44, 61, 62, 63, 64, 65, 66, 67, 68, 69, 70, 71, 50, 51, 52, 53, 72, 73, 74, 75] rfl (by decide +kernel)) (fun w hw => ⟨(List.mem_cons_of_mem _ (List.mem_append_left _ (List.mem_append_right _ hw))), good_of_word (List.all_eq_true.mp zgX0 w hw)⟩)) (fun w hw => ⟨(List.mem_cons_of_mem _ (List.mem_append_right _ hw)), good_of_word (List.all_eq_true.mp zgX3 w hw)⟩))
set_option maxHeartbeats 4000000 in
set_option maxRecDepth 100000 in
theorem kX1_performed (l : Launch) (dC : Nat → ClassId) (dI : Nat → Nat → Nat) (bh : Nat) (br : Nat → Nat) (uh : Nat) (ug : Nat) (cI : ClassId) (cJ : ClassId) (cB : ClassId) (cc : Nat) (nA : Nat → Int32) (mA : Nat → Int32) (aA : Nat → Int32) (fcA : Nat → Nat) (fA : Nat → Int32) (mcA : Nat → Nat) (mmA : Nat → Int32) (wA : Nat → Int64) (tcA : Nat → Int32) (g1A : Nat → Int32) (g2A : Nat → Int32) (nuA : Nat → Int32) (erA : Nat → Nat) (reA : Nat → Int32) (liA : Nat → Nat) (lcA : Nat → Nat) (uk : Int32) (uc : Int32) (uo : Int32) (uy : Int32) (uw : Int64) (ut : Int32) (uf : Int32) (uq : Int32) (hI : lWI cc fcA mcA erA liA lcA) (sp : Nat) (rc : Int32) (hp0 : sp < 208) : Met l yX1_performed zwX1_performed ({ frames := 3, cells := 0, slots := 0, locals := 73 }) (zPq dC dI [.ref bh, .ref uh, .int (nI sp), .int rc] (lW bh br uh ug cI cJ cB (nI cc) nA mA aA (fun j => nI (fcA j)) fA (fun j => nI (mcA j)) mmA wA tcA g1A g2A nuA (fun j => nI (erA j)) reA (fun j => nI (liA j)) (fun j => nI (lcA j)) uk uc uo uy uw ut uf uq) [(cI, .int), (cJ, .long), (cB, .byte)]) (vp_Si (fun r => (zSp r (fun k => k < 208)))) 0 0 (fun _ => False) := by
  refine Met.ofW (cc := cX1_performed) (maxL := 6) (ret := (some .int)) (by decide) rfl ?_
  intro p e s m args below meth c s₁ B hml hv
  obtain ⟨rfl, hP, hK, hE⟩ := hv
  have hx := B.exec
  have hb := B.bytes
  have hr := B.returns
  have hts := atoms_spec (ws := zwX1_performed) B.pre
  have hown : s.vm.findClass RX1 = some m.cls := findClass_of_methodNamed B.named
  have hiX5 : ∀ w ∈ wsX50, w ∈ zwX1_performed := (fun w hw => (List.mem_cons_of_mem _ (List.mem_append_left _ (List.mem_append_left _ (List.mem_append_right _ hw)))))
  obtain ⟨hcc, hfcA, hmcA, herA, hliA, hlcA⟩ := hI
  have hl := lv_entry ([.ref bh, .ref uh, .int (nI sp), .int rc]) (n := 6) (Nat.le_of_ble_eq_true rfl)
  rw [lg_entry_eq]
  generalize (lg_sl ([.ref bh, .ref uh, .int (nI sp), .int rc]) ++ List.replicate (6 - (lg_sl ([.ref bh, .ref uh, .int (nI sp), .int rc])).length) Slot.unset).toArray = ls at hl ⊢
  have hl : lv_has ls 6 [(0, .ref bh), (1, .ref uh), (2, .int (nI sp)), (3, .int rc)] := hl
  refine lv_aload_n hx hb dX1_performed_0 rfl (lv_at hl 0 rfl) ?_
  refine lv_iload_n hx hb dX1_performed_1 rfl (lv_at hl 3 rfl) ?_
  refine vp_callSi (W.runV (As := [.int rc]) (rest := []) ⟨hx, hb, hml, hown, hts⟩ (kX0_placeOf l dC dI bh br cI cJ cB cc nA mA aA fcA fA mcA mmA wA tcA g1A g2A nuA erA reA liA lcA ⟨by omega, hfcA, hmcA, herA, hliA, hlcA⟩ rc) (cwV 1 hts zgX1_performed_X0_placeOf_15 rfl rfl rfl (by decide +kernel) ⟨(show 0 + 1 ≤ 3 by omega), (show 8 + (3 + 11) + 0 ≤ 73 by omega)⟩) (zVq (ci := 0) (q0 := 0) (q := (RX0, TX0, 17)) hK (hP.sub (ws' := (bW bh br cI cJ cB (nI cc) nA mA aA (fun j => nI (fcA j)) fA (fun j => nI (mcA j)) mmA wA tcA g1A g2A nuA (fun j => nI (erA j)) reA (fun j => nI (liA j)) (fun j => nI (lcA j)))) [0, 1, 2, 3, 4, 5, 6, 7, 8, 9, 10, 11, 12, 13, 14, 15, 16] rfl) hE rfl rfl rfl) rfl rfl hl.1 rfl (lv_room (Nat.le_of_ble_eq_true rfl)) dX1_performed_2 ⟨(show 0 + 0 ≤ 0 by omega), (show 0 + 0 ≤ 0 by omega)⟩) (fun r1 hw => ?_)
  have hw : (zM r1 (fun k => k < cc)) := hw
  have w0r1 := hw
  refine lv_istore (lv' := [(4, .int r1), (0, .ref bh), (1, .ref uh), (2, .int (nI sp)), (3, .int rc)]) hx hb dX1_performed_5 hl (by decide) rfl (fun ls hl => ?_)
  refine lv_aload_n hx hb dX1_performed_7 rfl (lv_at hl 1 rfl) ?_
  refine lv_iload hx hb dX1_performed_8 (lv_at hl 0 rfl) ?_
  refine vp_callSi (W.runV (As := [.int r1]) (rest := []) ⟨hx, hb, hml, hown, hts⟩ (kX0_errorAt l dC dI bh br cI cJ cB cc nA mA aA fcA fA mcA mmA wA tcA g1A g2A nuA erA reA liA lcA ⟨by omega, hfcA, hmcA, herA, hliA, hlcA⟩ r1 (zM.imp w0r1 (fun k hk hq => by first | exact hq | trivial | omega))) (cwV 1 hts zgX1_performed_X0_errorAt_24 rfl rfl rfl (by decide +kernel) ⟨(show 0 + 1 ≤ 3 by omega), (show 8 + (2 + 11) + 0 ≤ 73 by omega)⟩) (zVq (ci := 0) (q0 := 0) (q := (RX0, TX0, 17)) hK (hP.sub (ws' := (bW bh br cI cJ cB (nI cc) nA mA aA (fun j => nI (fcA j)) fA (fun j => nI (mcA j)) mmA wA tcA g1A g2A nuA (fun j => nI (erA j)) reA (fun j => nI (liA j)) (fun j => nI (lcA j)))) [0, 1, 2, 3, 4, 5, 6, 7, 8, 9, 10, 11, 12, 13, 14, 15, 16] rfl) hE rfl rfl rfl) rfl rfl hl.1 rfl (lv_room (Nat.le_of_ble_eq_true rfl)) dX1_performed_10 ⟨(show 0 + 0 ≤ 0 by omega), (show 0 + 0 ≤ 0 by omega)⟩) (fun r2 hw => ?_)
  have hw : (zN r2 (fun k => k ≤ 5 ∧ (k = 0 → zIn16 r1))) := hw
  have w0r2 := hw
  obtain ⟨k3, hBk3, hQk3, rfl⟩ := w0r2
  refine lv_if_eq (tgt := 26) hx hb dX1_performed_13 (by decide) (fun cp13 => ?_) (fun cp13 => ?_)
  · have qcp13 : k3 = 0 := (nI_eq (a := k3) (b := 0) (by omega) (by omega)).mp cp13
    obtain ⟨j4, hjj4, rfl⟩ := hQk3.2 qcp13
    refine lv_aload_n hx hb dX1_performed_26 rfl (lv_at hl 1 rfl) ?_
    refine lv_iload hx hb dX1_performed_27 (lv_at hl 0 rfl) ?_
    refine lv_aload_n hx hb dX1_performed_29 rfl (lv_at hl 1 rfl) ?_
    refine lv_aload_n hx hb dX1_performed_30 rfl (lv_at hl 2 rfl) ?_
    refine va_get (D := (dC, dI)) (ci := 4) (v := .int uo) (C := RX5) (T := TX5) (N := 5) hx hb hts hiX5 hown hK hP 17 rfl rfl 2 (by decide) (hts (.fieldLink RX1 21 "LinkModels$Use" "owner" "I") (by decide +kernel)) (fun _ h9 => h9) rfl dX1_performed_31 ?_
    refine vp_callSi (W.runV (As := [.int uo]) (rest := [.int (nI j4), .ref bh]) ⟨hx, hb, hml, hown, hts⟩ (kX0_placeOf l dC dI bh br cI cJ cB cc nA mA aA fcA fA mcA mmA wA tcA g1A g2A nuA erA reA liA lcA ⟨by omega, hfcA, hmcA, herA, hliA, hlcA⟩ uo) (cwV 1 hts zgX1_performed_X0_placeOf_15 rfl rfl rfl (by decide +kernel) ⟨(show 0 + 1 ≤ 3 by omega), (show 8 + (3 + 11) + 0 ≤ 73 by omega)⟩) (zVq (ci := 0) (q0 := 0) (q := (RX0, TX0, 17)) hK (hP.sub (ws' := (bW bh br cI cJ cB (nI cc) nA mA aA (fun j => nI (fcA j)) fA (fun j => nI (mcA j)) mmA wA tcA g1A g2A nuA (fun j => nI (erA j)) reA (fun j => nI (liA j)) (fun j => nI (lcA j)))) [0, 1, 2, 3, 4, 5, 6, 7, 8, 9, 10, 11, 12, 13, 14, 15, 16] rfl) hE rfl rfl rfl) rfl rfl hl.1 rfl (lv_room (Nat.le_of_ble_eq_true rfl)) dX1_performed_34 ⟨(show 0 + 0 ≤ 0 by omega), (show 0 + 0 ≤ 0 by omega)⟩) (fun r5 hw => ?_)
    have hw : (zM r5 (fun k => k < cc)) := hw
    have w0r5 := hw
    refine vp_callSi (W.runV (As := [.int (nI j4), .int r5]) (rest := []) ⟨hx, hb, hml, hown, hts⟩ (kX0_isOf l dC dI bh br cI cJ cB cc nA mA aA fcA fA mcA mmA wA tcA g1A g2A nuA erA reA liA lcA ⟨by omega, hfcA, hmcA, herA, hliA, hlcA⟩ j4 r5 (by first | omega | assumption | trivial)) (cwV 2 hts zgX1_performed_X0_isOf_104 rfl rfl rfl (by decide +kernel) ⟨(show 0 + 1 ≤ 3 by omega), (show 8 + (3 + 11) + 0 ≤ 73 by omega)⟩) (zVq (ci := 0) (q0 := 0) (q := (RX0, TX0, 17)) hK (hP.sub (ws' := (bW bh br cI cJ cB (nI cc) nA mA aA (fun j => nI (fcA j)) fA (fun j => nI (mcA j)) mmA wA tcA g1A g2A nuA (fun j => nI (erA j)) reA (fun j => nI (liA j)) (fun j => nI (lcA j)))) [0, 1, 2, 3, 4, 5, 6, 7, 8, 9, 10, 11, 12, 13, 14, 15, 16] rfl) hE rfl rfl rfl) rfl rfl hl.1 rfl (lv_room (Nat.le_of_ble_eq_true rfl)) dX1_performed_37 ⟨(show 0 + 0 ≤ 0 by omega), (show 0 + 0 ≤ 0 by omega)⟩) (fun r6 hw => ?_)
    have hw : (r6 = 0 ∨ r6 = 1) := hw
    have w0r6 := hw
    refine lv_if_ne (tgt := 48) hx hb dX1_performed_40 (by decide) (fun cp40 => ?_) (fun cp40 => ?_)
    · refine lv_aload_n hx hb dX1_performed_48 rfl (lv_at hl 1 rfl) ?_
      refine lv_iload_n hx hb dX1_performed_49 rfl (lv_at hl 3 rfl) ?_
      refine lv_iconst (v := 2) hx hb dX1_performed_50 (by decide) ?_
      refine vp_callSi (W.runV (As := [.int (nI sp), .int 2]) (rest := []) ⟨hx, hb, hml, hown, hts⟩ (kX0_has l dC dI bh br cI cJ cB cc nA mA aA fcA fA mcA mmA wA tcA g1A g2A nuA erA reA liA lcA ⟨by omega, hfcA, hmcA, herA, hliA, hlcA⟩ sp (2 : Int32) (by first | omega | assumption | trivial)) (cwV 2 hts zgX1_performed_X0_has_67 rfl rfl rfl (by decide +kernel) ⟨(show 0 + 1 ≤ 3 by omega), (show 8 + (3 + 11) + 0 ≤ 73 by omega)⟩) (zVq (ci := 0) (q0 := 0) (q := (RX0, TX0, 17)) hK (hP.sub (ws' := (bW bh br cI cJ cB (nI cc) nA mA aA (fun j => nI (fcA j)) fA (fun j => nI (mcA j)) mmA wA tcA g1A g2A nuA (fun j => nI (erA j)) reA (fun j => nI (liA j)) (fun j => nI (lcA j)))) [0, 1, 2, 3, 4, 5, 6, 7, 8, 9, 10, 11, 12, 13, 14, 15, 16] rfl) hE rfl rfl rfl) rfl rfl hl.1 rfl (lv_room (Nat.le_of_ble_eq_true rfl)) dX1_performed_51 ⟨(show 0 + 0 ≤ 0 by omega), (show 0 + 0 ≤ 0 by omega)⟩) (fun r7 hw => ?_)
      have hw : (r7 = 0 ∨ r7 = 1) := hw
      have w0r7 := hw
      refine lv_if_eq (tgt := 59) hx hb dX1_performed_54 (by decide) (fun cp54 => ?_) (fun cp54 => ?_)
      · refine lv_aload_n hx hb dX1_performed_59 rfl (lv_at hl 1 rfl) ?_
        refine lv_iload hx hb dX1_performed_60 (lv_at hl 0 rfl) ?_
        refine lv_aload_n hx hb dX1_performed_62 rfl (lv_at hl 2 rfl) ?_
        refine va_get (D := (dC, dI)) (ci := 4) (v := .ref ug) (C := RX5) (T := TX5) (N := 5) hx hb hts hiX5 hown hK hP 17 rfl rfl 3 (by decide) (hts (.fieldLink RX1 50 "LinkModels$Use" "wanted" "LLinkModels$Signature;") (by decide +kernel)) (fun _ h9 => h9) rfl dX1_performed_63 ?_
        refine lv_iconst (v := 3) hx hb dX1_performed_66 (by decide) ?_
        refine vp_callSi (W.runV (As := [.int (nI j4), .ref ug, .int 3]) (rest := []) ⟨hx, hb, hml, hown, hts⟩ (kX0_methodFrom l dC dI bh br ug cI cJ cB cc nA mA aA fcA fA mcA mmA wA tcA g1A g2A nuA erA reA liA lcA uw ut uf uq ⟨by omega, hfcA, hmcA, herA, hliA, hlcA⟩ j4 (3 : Int32) (by first | omega | assumption | trivial)) (cwV 3 hts zgX1_performed_X0_methodFrom_80 rfl rfl rfl (by decide +kernel) ⟨(show 1 + 1 ≤ 3 by omega), (show 8 + (7 + 11) + 24 ≤ 73 by omega)⟩) (zVq (ci := 0) (q0 := 0) (q := (RX0, TX0, 17)) hK (hP.sub (ws' := (bsW bh br ug cI cJ cB (nI cc) nA mA aA (fun j => nI (fcA j)) fA (fun j => nI (mcA j)) mmA wA tcA g1A g2A nuA (fun j => nI (erA j)) reA (fun j => nI (liA j)) (fun j => nI (lcA j)) uw ut uf uq)) [0, 1, 2, 3, 4, 5, 6, 7, 8, 9, 10, 11, 12, 13, 14, 15, 16, 18] rfl) hE rfl rfl rfl) rfl rfl hl.1 rfl (lv_room (Nat.le_of_ble_eq_true rfl)) dX1_performed_67 ⟨(show 0 + 0 ≤ 0 by omega), (show 0 + 0 ≤ 0 by omega)⟩) (fun r8 hw => ?_)
        have hw : (zM r8 (fun k => k < 208)) := hw
        have w0r8 := hw
        refine lv_istore (lv' := [(5, .int r8), (4, .int (nI j4)), (0, .ref bh), (1, .ref uh), (2, .int (nI sp)), (3, .int rc)]) hx hb dX1_performed_70 hl (by decide) rfl (fun ls hl => ?_)
        refine lv_iload hx hb dX1_performed_72 (lv_at hl 0 rfl) ?_
        refine lv_iconst (v := (-1)) hx hb dX1_performed_74 (by decide) ?_
        refine lv_icmp_ne (tgt := 89) hx hb dX1_performed_75 (by decide) (fun cp75 => ?_) (fun cp75 => ?_)
        · obtain ⟨k9, hBk9, hQk9, rfl⟩ := w0r8.resolve_left cp75
          refine lv_aload_n hx hb dX1_performed_89 rfl (lv_at hl 2 rfl) ?_
          refine lv_iload hx hb dX1_performed_90 (lv_at hl 0 rfl) ?_
          refine lv_bipush (v := 8) hx hb dX1_performed_92 (by decide) ?_
          refine vp_callSi (W.runV (As := [.int (nI k9), .int 8]) (rest := []) ⟨hx, hb, hml, hown, hts⟩ (kX0_has l dC dI bh br cI cJ cB cc nA mA aA fcA fA mcA mmA wA tcA g1A g2A nuA erA reA liA lcA ⟨by omega, hfcA, hmcA, herA, hliA, hlcA⟩ k9 (8 : Int32) (by first | omega | assumption | trivial)) (cwV 2 hts zgX1_performed_X0_has_67 rfl rfl rfl (by decide +kernel) ⟨(show 0 + 1 ≤ 3 by omega), (show 8 + (3 + 11) + 0 ≤ 73 by omega)⟩) (zVq (ci := 0) (q0 := 0) (q := (RX0, TX0, 17)) hK (hP.sub (ws' := (bW bh br cI cJ cB (nI cc) nA mA aA (fun j => nI (fcA j)) fA (fun j => nI (mcA j)) mmA wA tcA g1A g2A nuA (fun j => nI (erA j)) reA (fun j => nI (liA j)) (fun j => nI (lcA j)))) [0, 1, 2, 3, 4, 5, 6, 7, 8, 9, 10, 11, 12, 13, 14, 15, 16] rfl) hE rfl rfl rfl) rfl rfl hl.1 rfl (lv_room (Nat.le_of_ble_eq_true rfl)) dX1_performed_94 ⟨(show 0 + 0 ≤ 0 by omega), (show 0 + 0 ≤ 0 by omega)⟩) (fun r10 hw => ?_)
          have hw : (r10 = 0 ∨ r10 = 1) := hw
          have w0r10 := hw
          refine lv_if_eq (tgt := 108) hx hb dX1_performed_97 (by decide) (fun cp97 => ?_) (fun cp97 => ?_)
          · refine lv_iload hx hb dX1_performed_108 (lv_at hl 0 rfl) ?_
            exact W.iret (v := (nI k9)) hx hb hr (fun t ht hW => ⟨(nI k9), rfl, (zSp.mk (by omega) (by first | trivial | omega | assumption)), ht⟩) (fun _ h => by cases h) dX1_performed_110
          · refine lv_bipush (v := 10) hx hb dX1_performed_100 (by decide) ?_
            refine vp_callSi (W.runS (As := [.int 10]) (rest := []) ⟨hx, hb, hml, hown, hts⟩ (kX1_failed l dC dI   10 (by first | omega | assumption | trivial)) (va_cwS 1 hts zgX1_performed_X1_failed_27 rfl rfl rfl (by decide +kernel) ⟨(show 0 + 1 ≤ 3 by omega), (show 8 + (1 + 11) + 0 ≤ 73 by omega)⟩) (zSq (hK.sub (tys' := []) [] rfl) (hP.sub (ws' := ([] : va_W)) [] rfl) hE) rfl rfl hl.1 rfl (lv_room (Nat.le_of_ble_eq_true rfl)) dX1_performed_102 ⟨(show 0 + 0 ≤ 0 by omega), (show 0 + 0 ≤ 0 by omega)⟩) (fun r11 hw => ?_)
            have hw : (r11 < 0) := hw
            have w0r11 := hw
            refine lv_goto (tgt := 110) hx hb dX1_performed_105 (by decide) ?_
            exact W.iret (v := r11) hx hb hr (fun t ht hW => ⟨r11, rfl, (Or.inl w0r11), ht⟩) (fun _ h => by cases h) dX1_performed_110
        · obtain rfl : r8 = -1 := cp75
          refine lv_aload_n hx hb dX1_performed_78 rfl (lv_at hl 2 rfl) ?_
          refine lv_aload_n hx hb dX1_performed_79 rfl (lv_at hl 3 rfl) ?_
          refine va_get (D := (dC, dI)) (ci := 4) (v := .ref ug) (C := RX5) (T := TX5) (N := 5) hx hb hts hiX5 hown hK hP 17 rfl rfl 3 (by decide) (hts (.fieldLink RX1 50 "LinkModels$Use" "wanted" "LLinkModels$Signature;") (by decide +kernel)) (fun _ h9 => h9) rfl dX1_performed_80 ?_
          refine lv_iload hx hb dX1_performed_83 (lv_at hl 1 rfl) ?_
          refine vp_callSi (W.runS (As := [.ref bh, .ref ug, .int (nI j4)]) (rest := []) ⟨hx, hb, hml, hown, hts⟩ (kX1_performedByFaces l dC dI bh br ug cI cJ cB cc nA mA aA fcA fA mcA mmA wA tcA g1A g2A nuA erA reA liA lcA uw ut uf uq ⟨by omega, hfcA, hmcA, herA, hliA, hlcA⟩ j4 (by first | omega | assumption | trivial)) (va_cwS 3 hts zgX1_performed_X1_performedByFaces_107 rfl rfl rfl (by decide +kernel) ⟨(show 2 + 1 ≤ 3 by omega), (show 8 + (4 + 11) + 50 ≤ 73 by omega)⟩) (zSq hK (hP.sub (ws' := (bsW bh br ug cI cJ cB (nI cc) nA mA aA (fun j => nI (fcA j)) fA (fun j => nI (mcA j)) mmA wA tcA g1A g2A nuA (fun j => nI (erA j)) reA (fun j => nI (liA j)) (fun j => nI (lcA j)) uw ut uf uq)) [0, 1, 2, 3, 4, 5, 6, 7, 8, 9, 10, 11, 12, 13, 14, 15, 16, 18] rfl) hE) rfl rfl hl.1 rfl (lv_room (Nat.le_of_ble_eq_true rfl)) dX1_performed_85 ⟨(show 0 + 0 ≤ 0 by omega), (show 0 + 0 ≤ 0 by omega)⟩) (fun r12 hw => ?_)
          have hw : (zSp r12 (fun k => k < 208)) := hw
          have w0r12 := hw
          exact W.iret (v := r12) hx hb hr (fun t ht hW => ⟨r12, rfl, (zSp.imp w0r12 (fun k hk hq => by first | exact hq | trivial | omega)), ht⟩) (fun _ h => by cases h) dX1_performed_88
      · refine lv_iload_n hx hb dX1_performed_57 rfl (lv_at hl 3 rfl) ?_
        exact W.iret (v := (nI sp)) hx hb hr (fun t ht hW => ⟨(nI sp), rfl, (zSp.mk (by omega) (by first | trivial | omega | assumption)), ht⟩) (fun _ h => by cases h) dX1_performed_58
    · refine lv_iconst (v := 4) hx hb dX1_performed_43 (by decide) ?_
      refine vp_callSi (W.runS (As := [.int 4]) (rest := []) ⟨hx, hb, hml, hown, hts⟩ (kX1_failed l dC dI   4 (by first | omega | assumption | trivial)) (va_cwS 1 hts zgX1_performed_X1_failed_27 rfl rfl rfl (by decide +kernel) ⟨(show 0 + 1 ≤ 3 by omega), (show 8 + (1 + 11) + 0 ≤ 73 by omega)⟩) (zSq (hK.sub (tys' := []) [] rfl) (hP.sub (ws' := ([] : va_W)) [] rfl) hE) rfl rfl hl.1 rfl (lv_room (Nat.le_of_ble_eq_true rfl)) dX1_performed_44 ⟨(show 0 + 0 ≤ 0 by omega), (show 0 + 0 ≤ 0 by omega)⟩) (fun r13 hw => ?_)
      have hw : (r13 < 0) := hw
      have w0r13 := hw
      exact W.iret (v := r13) hx hb hr (fun t ht hW => ⟨r13, rfl, (Or.inl w0r13), ht⟩) (fun _ h => by cases h) dX1_performed_47
  · have qcp13 : ¬ k3 = 0 := fun h9 => cp13 ((nI_eq (a := k3) (b := 0) (by omega) (by omega)).mpr h9)
    refine lv_aload_n hx hb dX1_performed_16 rfl (lv_at hl 1 rfl) ?_
    refine lv_iload hx hb dX1_performed_17 (lv_at hl 0 rfl) ?_
    refine vp_callSi (W.runV (As := [.int r1]) (rest := []) ⟨hx, hb, hml, hown, hts⟩ (kX0_errorAt l dC dI bh br cI cJ cB cc nA mA aA fcA fA mcA mmA wA tcA g1A g2A nuA erA reA liA lcA ⟨by omega, hfcA, hmcA, herA, hliA, hlcA⟩ r1 (zM.imp w0r1 (fun k hk hq => by first | exact hq | trivial | omega))) (cwV 1 hts zgX1_performed_X0_errorAt_24 rfl rfl rfl (by decide +kernel) ⟨(show 0 + 1 ≤ 3 by omega), (show 8 + (2 + 11) + 0 ≤ 73 by omega)⟩) (zVq (ci := 0) (q0 := 0) (q := (RX0, TX0, 17)) hK (hP.sub (ws' := (bW bh br cI cJ cB (nI cc) nA mA aA (fun j => nI (fcA j)) fA (fun j => nI (mcA j)) mmA wA tcA g1A g2A nuA (fun j => nI (erA j)) reA (fun j => nI (liA j)) (fun j => nI (lcA j)))) [0, 1, 2, 3, 4, 5, 6, 7, 8, 9, 10, 11, 12, 13, 14, 15, 16] rfl) hE rfl rfl rfl) rfl rfl hl.1 rfl (lv_room (Nat.le_of_ble_eq_true rfl)) dX1_performed_19 ⟨(show 0 + 0 ≤ 0 by omega), (show 0 + 0 ≤ 0 by omega)⟩) (fun r14 hw => ?_)
    have hw : (zN r14 (fun k => k ≤ 5 ∧ (k = 0 → zIn16 r1))) := hw
    have w0r14 := hw
    obtain ⟨k15, hBk15, hQk15, rfl⟩ := w0r14
    refine vp_callSi (W.runS (As := [.int (nI k15)]) (rest := []) ⟨hx, hb, hml, hown, hts⟩ (kX1_failed l dC dI   k15 (by first | omega | assumption | trivial)) (va_cwS 1 hts zgX1_performed_X1_failed_27 rfl rfl rfl (by decide +kernel) ⟨(show 0 + 1 ≤ 3 by omega), (show 8 + (1 + 11) + 0 ≤ 73 by omega)⟩) (zSq (hK.sub (tys' := []) [] rfl) (hP.sub (ws' := ([] : va_W)) [] rfl) hE) rfl rfl hl.1 rfl (lv_room (Nat.le_of_ble_eq_true rfl)) dX1_performed_22 ⟨(show 0 + 0 ≤ 0 by omega), (show 0 + 0 ≤ 0 by omega)⟩) (fun r16 hw => ?_)
    have hw : (r16 < 0) := hw
    have w0r16 := hw
    exact W.iret (v := r16) hx hb hr (fun t ht hW => ⟨r16, rfl, (Or.inl w0r16), ht⟩) (fun _ h => by cases h) dX1_performed_25
theorem dX1_tellApart_0 : decode cX1_tellApart 0 = .ok (.aload_n 0, 1) := by decide +kernel
theorem dX1_tellApart_1 : decode cX1_tellApart 1 = .ok (.aload_n 2, 1) := by decide +kernel
theorem dX1_tellApart_2 : decode cX1_tellApart 2 = .ok (.invokestatic 110, 3) := by decide +kernel
theorem dX1_tellApart_5 : decode cX1_tellApart 5 = .ok (.istore_n 3, 1) := by decide +kernel
theorem dX1_tellApart_6 : decode cX1_tellApart 6 = .ok (.aload_n 1, 1) := by decide +kernel
theorem dX1_tellApart_7 : decode cX1_tellApart 7 = .ok (.aload_n 2, 1) := by decide +kernel
theorem dX1_tellApart_8 : decode cX1_tellApart 8 = .ok (.invokestatic 110, 3) := by decide +kernel
theorem dX1_tellApart_11 : decode cX1_tellApart 11 = .ok (.istore 4, 2) := by decide +kernel
theorem dX1_tellApart_13 : decode cX1_tellApart 13 = .ok (.iload_n 3, 1) := by decide +kernel
theorem dX1_tellApart_14 : decode cX1_tellApart 14 = .ok (.ifCond .lt 8, 3) := by decide +kernel
theorem dX1_tellApart_17 : decode cX1_tellApart 17 = .ok (.iload 4, 2) := by decide +kernel
theorem dX1_tellApart_19 : decode cX1_tellApart 19 = .ok (.ifCond .ge 15, 3) := by decide +kernel
theorem dX1_tellApart_22 : decode cX1_tellApart 22 = .ok (.iload_n 3, 1) := by decide +kernel
theorem dX1_tellApart_23 : decode cX1_tellApart 23 = .ok (.iload 4, 2) := by decide +kernel
theorem dX1_tellApart_25 : decode cX1_tellApart 25 = .ok (.if_icmp .eq 7, 3) := by decide +kernel
theorem dX1_tellApart_28 : decode cX1_tellApart 28 = .ok (.iconst 1, 1) := by decide +kernel
theorem dX1_tellApart_29 : decode cX1_tellApart 29 = .ok (.goto 4, 3) := by decide +kernel
theorem dX1_tellApart_32 : decode cX1_tellApart 32 = .ok (.iconst 0, 1) := by decide +kernel
theorem dX1_tellApart_33 : decode cX1_tellApart 33 = .ok (.ireturn, 1) := by decide +kernel
theorem dX1_tellApart_34 : decode cX1_tellApart 34 = .ok (.aload_n 0, 1) := by decide +kernel
theorem dX1_tellApart_35 : decode cX1_tellApart 35 = .ok (.getfield 114, 3) := by decide +kernel
theorem dX1_tellApart_38 : decode cX1_tellApart 38 = .ok (.iload_n 3, 1) := by decide +kernel
theorem dX1_tellApart_39 : decode cX1_tellApart 39 = .ok (.invokestatic 64, 3) := by decide +kernel
theorem dX1_tellApart_42 : decode cX1_tellApart 42 = .ok (.iaload, 1) := by decide +kernel
theorem dX1_tellApart_43 : decode cX1_tellApart 43 = .ok (.aload_n 1, 1) := by decide +kernel
theorem dX1_tellApart_44 : decode cX1_tellApart 44 = .ok (.getfield 114, 3) := by decide +kernel
theorem dX1_tellApart_47 : decode cX1_tellApart 47 = .ok (.iload 4, 2) := by decide +kernel
theorem dX1_tellApart_49 : decode cX1_tellApart 49 = .ok (.invokestatic 64, 3) := by decide +kernel
theorem dX1_tellApart_52 : decode cX1_tellApart 52 = .ok (.iaload, 1) := by decide +kernel
theorem dX1_tellApart_53 : decode cX1_tellApart 53 = .ok (.if_icmp .ne 15, 3) := by decide +kernel
theorem dX1_tellApart_56 : decode cX1_tellApart 56 = .ok (.iload_n 3, 1) := by decide +kernel
theorem dX1_tellApart_57 : decode cX1_tellApart 57 = .ok (.invokestatic 118, 3) := by decide +kernel
theorem dX1_tellApart_60 : decode cX1_tellApart 60 = .ok (.iload 4, 2) := by decide +kernel
theorem dX1_tellApart_62 : decode cX1_tellApart 62 = .ok (.invokestatic 118, 3) := by decide +kernel
theorem dX1_tellApart_65 : decode cX1_tellApart 65 = .ok (.if_icmp .eq 7, 3) := by decide +kernel
theorem dX1_tellApart_68 : decode cX1_tellApart 68 = .ok (.iconst 1, 1) := by decide +kernel
theorem dX1_tellApart_69 : decode cX1_tellApart 69 = .ok (.goto 4, 3) := by decide +kernel
theorem dX1_tellApart_72 : decode cX1_tellApart 72 = .ok (.iconst 0, 1) := by decide +kernel
theorem dX1_tellApart_73 : decode cX1_tellApart 73 = .ok (.ireturn, 1) := by decide +kernel
def zwX1_tellApart : List Cond := .code yX1_tellApart cX1_tellApart 5 (some .boolean) :: ([.fieldLink RX1 114 "LinkModels$Build" "names" "[I", .initialized RX6, .static yX6_classOf, .static yX6_placeIn, .methodLink RX1 110 yX1_linked, .static yX1_linked, .initialized RX1, .code yX1_linked cX1_linked 4 (some .int), .fieldLink RX1 9 "LinkModels$Use" "caller" "I", .fieldLink RX1 21 "LinkModels$Use" "owner" "I", .fieldLink RX1 32 "LinkModels$Use" "kind" "I", .methodLink RX1 15 yX0_placeOf, .instanceMethod yX0_placeOf, .selects RX0 yX0_placeOf yX0_placeOf, .initialized RX0, .code yX0_placeOf cX0_placeOf 3 (some .int), .fieldLink RX0 61 "LinkModels$Build" "classCount" "I", .fieldLink RX0 11 "LinkModels$Build" "names" "[I", .methodLink RX1 24 yX0_errorAt, .instanceMethod yX0_errorAt, .selects RX0 yX0_errorAt yX0_errorAt, .code yX0_errorAt cX0_errorAt 2 (some .int), .fieldLink RX0 49 "LinkModels$Build" "errors" "[I", .methodLink RX1 39 yX5_asksField, .instanceMethod yX5_asksField, .selects RX5 yX5_asksField yX5_asksField, .initialized RX5, .code yX5_asksField cX5_asksField 1 (some .boolean), .fieldLink RX5 9 "LinkModels$Use" "kind" "I", .methodLink RX1 47 yX1_linkedMethod, .static yX1_linkedMethod, .code yX1_linkedMethod cX1_linkedMethod 5 (some .int), .fieldLink RX1 50 "LinkModels$Use" "wanted" "LLinkModels$Signature;", .methodLink RX1 67 yX0_has, .instanceMethod yX0_has, .selects RX0 yX0_has yX0_has, .code yX0_has cX0_has 3 (some .boolean), .fieldLink RX0 30 "LinkModels$Build" "memberMarks" "[I", .methodLink RX1 71 yX5_asksStatic, .instanceMethod yX5_asksStatic, .selects RX5 yX5_asksStatic yX5_asksStatic, .code yX5_asksStatic cX5_asksStatic 1 (some .boolean), .methodLink RX1 27 yX1_failed, .static yX1_failed, .code yX1_failed cX1_failed 1 (some .int), .code yX6_classOf cX6_classOf 1 (some .int), .methodLink RX1 80 yX0_methodFrom, .instanceMethod yX0_methodFrom, .selects RX0 yX0_methodFrom yX0_methodFrom, .code yX0_methodFrom cX0_methodFrom 7 (some .int), .fieldLink RX0 58 "LinkModels$Build" "lineCounts" "[I", .fieldLink RX0 55 "LinkModels$Build" "lines" "[I", .methodLink RX0 82 yX0_has, .methodLink RX0 94 yX0_methodIn, .instanceMethod yX0_methodIn, .selects RX0 yX0_methodIn yX0_methodIn, .code yX0_methodIn cX0_methodIn 5 (some .int), .fieldLink RX0 37 "LinkModels$Build" "typeCounts" "[I", .fieldLink RX0 71 "LinkModels$Signature" "typeCount" "I", .fieldLink RX0 40 "LinkModels$Build" "firsts" "[I", .fieldLink RX0 74 "LinkModels$Signature" "first" "I", .fieldLink RX0 43 "LinkModels$Build" "seconds" "[I", .fieldLink RX0 77 "LinkModels$Signature" "second" "I", .fieldLink RX0 27 "LinkModels$Build" "memberCounts" "[I", .fieldLink RX0 33 "LinkModels$Build" "words" "[J", .fieldLink RX0 65 "LinkModels$Signature" "word" "J", .methodLink RX0 90 yX0_isFace, .instanceMethod yX0_isFace, .selects RX0 yX0_isFace yX0_isFace, .code yX0_isFace cX0_isFace 2 (some .boolean), .fieldLink RX0 15 "LinkModels$Build" "classMarks" "[I", .methodLink RX1 84 yX1_foundInFaces, .static yX1_foundInFaces, .code yX1_foundInFaces cX1_foundInFaces 5 (some .int), .methodLink RX1 88 yX0_nearestFaces, .instanceMethod yX0_nearestFaces, .selects RX0 yX0_nearestFaces yX0_nearestFaces, .code yX0_nearestFaces cX0_nearestFaces 7 (some .int), .fieldLink RX0 52 "LinkModels$Build" "reached" "[I", .methodLink RX1 92 yX0_withBody, .instanceMethod yX0_withBody, .selects RX0 yX0_withBody yX0_withBody, .code yX0_withBody cX0_withBody 6 (some .int), .methodLink RX1 95 yJ6_bitCount_0f7a4, .static yJ6_bitCount_0f7a4, .initialized RJ6, .code yJ6_bitCount_0f7a4 cJ6_bitCount_0f7a4 1 (some .int), .constant RJ6 265 (1431655765), .constant RJ6 266 (858993459), .constant RJ6 267 (252645135), .methodLink RX1 100 yX0_firstMethodOf, .instanceMethod yX0_firstMethodOf, .selects RX0 yX0_firstMethodOf yX0_firstMethodOf, .code yX0_firstMethodOf cX0_firstMethodOf 6 (some .int), .methodLink RX1 77 yX0_isFace, .methodLink RX1 43 yX1_linkedField, .static yX1_linkedField, .code yX1_linkedField cX1_linkedField 6 (some .int), .fieldLink RX1 54 "LinkModels$Signature" "word" "J", .methodLink RX1 74 yX5_puts, .instanceMethod yX5_puts, .selects RX5 yX5_puts yX5_puts, .code yX5_puts cX5_puts 1 (some .boolean), .methodLink RX1 60 yX0_fieldFrom, .instanceMethod yX0_fieldFrom, .selects RX0 yX0_fieldFrom yX0_fieldFrom, .code yX0_fieldFrom cX0_fieldFrom 6 (some .int), .methodLink RX0 86 yX0_fieldIn, .instanceMethod yX0_fieldIn, .selects RX0 yX0_fieldIn yX0_fieldIn, .code yX0_fieldIn cX0_fieldIn 5 (some .int), .methodLink RX1 35 yX0_isWhole, .instanceMethod yX0_isWhole, .selects RX0 yX0_isWhole yX0_isWhole, .code yX0_isWhole cX0_isWhole 2 (some .boolean), .code yX6_placeIn cX6_placeIn 1 (some .int)] ++ wsX00 ++ wsX50 ++ wsX30)
theorem zgX1_tellApart_X1_linked_110 : GoodIn zwX1_tellApart (va_wsS RX1 110 yX1_linked zwX1_linked) := goodIn_app (goodIn_r _ [5, 6, 7] rfl (by decide +kernel)) (goodIn_app (goodIn_app (goodIn_app (goodIn_r _ [8, 9, 10, 11, 12, 13, 14, 15, 16, 17, 18, 19, 20, 21, 22, 23, 24, 25, 26, 27, 28, 29, 30, 31, 7, 32, 2, 3, 33, 34, 35, 36, 37, 38, 39, 40, 41, 42, 43, 44, 45, 46, 47, 48, 49, 50, 51, 52, 53, 54, 55, 56, 57, 58, 59, 60, 61, 62, 63, 64, 65, 66, 67, 68, 69, 70, 71, 72, 73, 74, 75, 76, 77, 78, 79, 80, 81, 82, 83, 84, 85, 86, 87, 88, 89, 90, 91, 92, 93, 94, 95, 96, 97, 98, 99, 100, 101, 102, 103, 104, 105, 106, 107, 108, 109, 110, 111, 112, 113, 114, 115] rfl (by decide +kernel)) (fun w hw => ⟨(List.mem_cons_of_mem _ (List.mem_append_left _ (List.mem_append_right _ hw))), good_of_word (List.all_eq_true.mp zgX5 w hw)⟩)) (fun w hw => ⟨(List.mem_cons_of_mem _ (List.mem_append_left _ (List.mem_append_left _ (List.mem_append_right _ hw)))), good_of_word (List.all_eq_true.mp zgX0 w hw)⟩)) (fun w hw => ⟨(List.mem_cons_of_mem _ (List.mem_append_right _ hw)), good_of_word (List.all_eq_true.mp zgX3 w hw)⟩))
theorem zgX1_tellApart_X6_classOf_64 : GoodIn zwX1_tellApart zwX6_classOf := (goodIn_r _ [46] rfl (by decide +kernel))
theorem zgX1_tellApart_X6_placeIn_118 : GoodIn zwX1_tellApart zwX6_placeIn := (goodIn_r _ [116] rfl (by decide +kernel))
set_option maxHeartbeats 4000000 in
set_option maxRecDepth 100000 in
theorem kX1_tellApart (l : Launch) (dC : Nat → ClassId) (dI : Nat → Nat → Nat) (bh : Nat) (br : Nat → Nat) (dh : Nat) (dr : Nat → Nat) (uh : Nat) (ug : Nat) (cI : ClassId) (cJ : ClassId) (cB : ClassId) (cc : Nat) (nA : Nat → Int32) (mA : Nat → Int32) (aA : Nat → Int32) (fcA : Nat → Nat) (fA : Nat → Int32) (mcA : Nat → Nat) (mmA : Nat → Int32) (wA : Nat → Int64) (tcA : Nat → Int32) (g1A : Nat → Int32) (g2A : Nat → Int32) (nuA : Nat → Int32) (erA : Nat → Nat) (reA : Nat → Int32) (liA : Nat → Nat) (lcA : Nat → Nat) (cc2 : Nat) (nA2 : Nat → Int32) (mA2 : Nat → Int32) (aA2 : Nat → Int32) (fcA2 : Nat → Nat) (fA2 : Nat → Int32) (mcA2 : Nat → Nat) (mmA2 : Nat → Int32) (wA2 : Nat → Int64) (tcA2 : Nat → Int32) (g1A2 : Nat → Int32) (g2A2 : Nat → Int32) (nuA2 : Nat → Int32) (erA2 : Nat → Nat) (reA2 : Nat → Int32) (liA2 : Nat → Nat) (lcA2 : Nat → Nat) (uk : Int32) (uc : Int32) (uo : Int32) (uy : Int32) (uw : Int64) (ut : Int32) (uf : Int32) (uq : Int32) (hI : apWI cc fcA mcA erA liA lcA cc2 fcA2 mcA2 erA2 liA2 lcA2) : Met l yX1_tellApart zwX1_tellApart ({ frames := 5, cells := 0, slots := 0, locals := 121 }) (zPq dC dI [.ref bh, .ref dh, .ref uh] (apW bh br dh dr uh ug cI cJ cB (nI cc) nA mA aA (fun j => nI (fcA j)) fA (fun j => nI (mcA j)) mmA wA tcA g1A g2A nuA (fun j => nI (erA j)) reA (fun j => nI (liA j)) (fun j => nI (lcA j)) (nI cc2) nA2 mA2 aA2 (fun j => nI (fcA2 j)) fA2 (fun j => nI (mcA2 j)) mmA2 wA2 tcA2 g1A2 g2A2 nuA2 (fun j => nI (erA2 j)) reA2 (fun j => nI (liA2 j)) (fun j => nI (lcA2 j)) uk uc uo uy uw ut uf uq) [(cI, .int), (cJ, .long), (cB, .byte)]) (vp_Si (fun r => (r = 0 ∨ r = 1))) 0 0 (fun _ => False) := by
  refine Met.ofW (cc := cX1_tellApart) (maxL := 5) (ret := (some .boolean)) (by decide) rfl ?_
  intro p e s m args below meth c s₁ B hml hv
  obtain ⟨rfl, hP, hK, hE⟩ := hv
  have hx := B.exec
  have hb := B.bytes
  have hr := B.returns
  have hts := atoms_spec (ws := zwX1_tellApart) B.pre
  have hown : s.vm.findClass RX1 = some m.cls := findClass_of_methodNamed B.named
  have hiX0 : ∀ w ∈ wsX00, w ∈ zwX1_tellApart := (fun w hw => (List.mem_cons_of_mem _ (List.mem_append_left _ (List.mem_append_left _ (List.mem_append_right _ hw)))))
  obtain ⟨hcc, hcc2, hfcA, hmcA, herA, hliA, hlcA, hfcA2, hmcA2, herA2, hliA2, hlcA2⟩ := hI
  have hl := lv_entry ([.ref bh, .ref dh, .ref uh]) (n := 5) (Nat.le_of_ble_eq_true rfl)
  rw [lg_entry_eq]
  generalize (lg_sl ([.ref bh, .ref dh, .ref uh]) ++ List.replicate (5 - (lg_sl ([.ref bh, .ref dh, .ref uh])).length) Slot.unset).toArray = ls at hl ⊢
  have hl : lv_has ls 5 [(0, .ref bh), (1, .ref dh), (2, .ref uh)] := hl
  refine lv_aload_n hx hb dX1_tellApart_0 rfl (lv_at hl 0 rfl) ?_
  refine lv_aload_n hx hb dX1_tellApart_1 rfl (lv_at hl 2 rfl) ?_
  refine vp_callSi (W.runS (As := [.ref bh, .ref uh]) (rest := []) ⟨hx, hb, hml, hown, hts⟩ (kX1_linked l dC dI bh br uh ug cI cJ cB cc nA mA aA fcA fA mcA mmA wA tcA g1A g2A nuA erA reA liA lcA uk uc uo uy uw ut uf uq ⟨by omega, hfcA, hmcA, herA, hliA, hlcA⟩) (va_cwS 2 hts zgX1_tellApart_X1_linked_110 rfl rfl rfl (by decide +kernel) ⟨(show 4 + 1 ≤ 5 by omega), (show 8 + (4 + 11) + 98 ≤ 121 by omega)⟩) (zSq hK (hP.sub (ws' := (lW bh br uh ug cI cJ cB (nI cc) nA mA aA (fun j => nI (fcA j)) fA (fun j => nI (mcA j)) mmA wA tcA g1A g2A nuA (fun j => nI (erA j)) reA (fun j => nI (liA j)) (fun j => nI (lcA j)) uk uc uo uy uw ut uf uq)) [0, 1, 2, 3, 4, 5, 6, 7, 8, 9, 10, 11, 12, 13, 14, 15, 16, 34, 35] rfl) hE) rfl rfl hl.1 rfl (lv_room (Nat.le_of_ble_eq_true rfl)) dX1_tellApart_2 ⟨(show 0 + 0 ≤ 0 by omega), (show 0 + 0 ≤ 0 by omega)⟩) (fun r1 hw => ?_)
  have hw : (zSp r1 (fun k => k < 208)) := hw
  have w0r1 := hw
  refine lv_istore_n (lv' := [(3, .int r1), (0, .ref bh), (1, .ref dh), (2, .ref uh)]) hx hb dX1_tellApart_5 rfl hl (by decide) rfl (fun ls hl => ?_)
  refine lv_aload_n hx hb dX1_tellApart_6 rfl (lv_at hl 2 rfl) ?_
  refine lv_aload_n hx hb dX1_tellApart_7 rfl (lv_at hl 3 rfl) ?_
  refine vp_callSi (W.runS (As := [.ref dh, .ref uh]) (rest := []) ⟨hx, hb, hml, hown, hts⟩ (kX1_linked l dC dI dh dr uh ug cI cJ cB cc2 nA2 mA2 aA2 fcA2 fA2 mcA2 mmA2 wA2 tcA2 g1A2 g2A2 nuA2 erA2 reA2 liA2 lcA2 uk uc uo uy uw ut uf uq ⟨by omega, hfcA2, hmcA2, herA2, hliA2, hlcA2⟩) (va_cwS 2 hts zgX1_tellApart_X1_linked_110 rfl rfl rfl (by decide +kernel) ⟨(show 4 + 1 ≤ 5 by omega), (show 8 + (4 + 11) + 98 ≤ 121 by omega)⟩) (zSq hK (hP.sub (ws' := (lW dh dr uh ug cI cJ cB (nI cc2) nA2 mA2 aA2 (fun j => nI (fcA2 j)) fA2 (fun j => nI (mcA2 j)) mmA2 wA2 tcA2 g1A2 g2A2 nuA2 (fun j => nI (erA2 j)) reA2 (fun j => nI (liA2 j)) (fun j => nI (lcA2 j)) uk uc uo uy uw ut uf uq)) [17, 18, 19, 20, 21, 22, 23, 24, 25, 26, 27, 28, 29, 30, 31, 32, 33, 34, 35] rfl) hE) rfl rfl hl.1 rfl (lv_room (Nat.le_of_ble_eq_true rfl)) dX1_tellApart_8 ⟨(show 0 + 0 ≤ 0 by omega), (show 0 + 0 ≤ 0 by omega)⟩) (fun r2 hw => ?_)
  have hw : (zSp r2 (fun k => k < 208)) := hw
  have w0r2 := hw
  refine lv_istore (lv' := [(4, .int r2), (3, .int r1), (0, .ref bh), (1, .ref dh), (2, .ref uh)]) hx hb dX1_tellApart_11 hl (by decide) rfl (fun ls hl => ?_)
  refine lv_iload_n hx hb dX1_tellApart_13 rfl (lv_at hl 1 rfl) ?_
  refine lv_if_lt (tgt := 22) hx hb dX1_tellApart_14 (by decide) (fun cp14 => ?_) (fun cp14 => ?_)
  · have hgcp14 : r1 < 0 := cp14
    refine lv_iload_n hx hb dX1_tellApart_22 rfl (lv_at hl 1 rfl) ?_
    refine lv_iload hx hb dX1_tellApart_23 (lv_at hl 0 rfl) ?_
    refine lv_icmp_eq (tgt := 32) hx hb dX1_tellApart_25 (by decide) (fun cp25 => ?_) (fun cp25 => ?_)
    · refine lv_iconst (v := 0) hx hb dX1_tellApart_32 (by decide) ?_
      exact W.zret (v := (0 : Int32)) hx hb hr rfl (fun t ht hW => ⟨(0 : Int32), rfl, (Or.inl rfl), ht⟩) (fun _ h => by cases h) dX1_tellApart_33
    · refine lv_iconst (v := 1) hx hb dX1_tellApart_28 (by decide) ?_
      refine lv_goto (tgt := 33) hx hb dX1_tellApart_29 (by decide) ?_
      exact W.zret (v := (1 : Int32)) hx hb hr rfl (fun t ht hW => ⟨(1 : Int32), rfl, (Or.inr rfl), ht⟩) (fun _ h => by cases h) dX1_tellApart_33
  · obtain ⟨k3, hBk3, hQk3, rfl⟩ := zSp.pos w0r1 cp14
    refine lv_iload hx hb dX1_tellApart_17 (lv_at hl 0 rfl) ?_
    refine lv_if_ge (tgt := 34) hx hb dX1_tellApart_19 (by decide) (fun cp19 => ?_) (fun cp19 => ?_)
    · obtain ⟨k4, hBk4, hQk4, rfl⟩ := zSp.pos' w0r2 cp19
      refine lv_aload_n hx hb dX1_tellApart_34 rfl (lv_at hl 2 rfl) ?_
      refine va_get (D := (dC, dI)) (ci := 0) (v := .ref (br 1)) (C := RX0) (T := TX0) (N := 17) hx hb hts hiX0 hown hK hP 0 rfl rfl 1 (by decide) (hts (.fieldLink RX1 114 "LinkModels$Build" "names" "[I") (by decide +kernel)) (fun _ h9 => h9) rfl dX1_tellApart_35 ?_
      refine lv_iload_n hx hb dX1_tellApart_38 rfl (lv_at hl 1 rfl) ?_
      refine vp_callSi (z_runC (va_runSN (As := [.int (nI k3)]) (rest := [.ref (br 1)]) ⟨hx, hb, hml, hown, hts⟩ (kX6_classOf l dC dI   (nI k3) (zSp.mk (by omega) (by first | trivial | omega | assumption))) ⟨va_cnB 1 hts zgX1_tellApart_X6_classOf_64 rfl rfl rfl hE.2.1 (hts (.initialized RX6) (by decide +kernel)) (by decide +kernel) ⟨(show 0 + 1 ≤ 5 by omega), (show 8 + (1 + 11) + 0 ≤ 121 by omega)⟩, (hts (.static yX6_classOf) (by decide +kernel)), trivial⟩ (zSq (hK.sub (tys' := []) [] rfl) (hP.sub (ws' := ([] : va_W)) [] rfl) hE) rfl rfl hl.1 rfl (lv_room (Nat.le_of_ble_eq_true rfl)) dX1_tellApart_39 ⟨(show 0 + 0 ≤ 0 by omega), (show 0 + 0 ≤ 0 by omega)⟩)) (fun r5 hw => ?_)
      have hw : (zSp r5 (fun k => k < 16)) ∧ (¬ ((nI k3)) < 0 → zIn16 r5) := hw
      obtain ⟨w0r5, w1r5⟩ := hw
      obtain ⟨q6, hqq6, rfl⟩ := w1r5 (nI_pos (by omega))
      refine va_iald hx hb hK hP 1 0 rfl rfl (vp_in_nI (show q6 < 16 by omega) (by decide)) dX1_tellApart_42 ?_
      refine lv_topi (fun x7 ex7 => ?_)
      obtain rfl : x7 = nA q6 := by rw [ex7, nI_clamp (show q6 < 2 ^ 31 by omega)]
      refine lv_aload_n hx hb dX1_tellApart_43 rfl (lv_at hl 3 rfl) ?_
      refine va_get (D := (dC, dI)) (ci := 0) (v := .ref (dr 1)) (C := RX0) (T := TX0) (N := 17) hx hb hts hiX0 hown hK hP 17 rfl rfl 1 (by decide) (hts (.fieldLink RX1 114 "LinkModels$Build" "names" "[I") (by decide +kernel)) (fun _ h9 => h9) rfl dX1_tellApart_44 ?_
      refine lv_iload hx hb dX1_tellApart_47 (lv_at hl 0 rfl) ?_
      refine vp_callSi (z_runC (va_runSN (As := [.int (nI k4)]) (rest := [.ref (dr 1), .int (nA q6)]) ⟨hx, hb, hml, hown, hts⟩ (kX6_classOf l dC dI   (nI k4) (zSp.mk (by omega) (by first | trivial | omega | assumption))) ⟨va_cnB 1 hts zgX1_tellApart_X6_classOf_64 rfl rfl rfl hE.2.1 (hts (.initialized RX6) (by decide +kernel)) (by decide +kernel) ⟨(show 0 + 1 ≤ 5 by omega), (show 8 + (1 + 11) + 0 ≤ 121 by omega)⟩, (hts (.static yX6_classOf) (by decide +kernel)), trivial⟩ (zSq (hK.sub (tys' := []) [] rfl) (hP.sub (ws' := ([] : va_W)) [] rfl) hE) rfl rfl hl.1 rfl (lv_room (Nat.le_of_ble_eq_true rfl)) dX1_tellApart_49 ⟨(show 0 + 0 ≤ 0 by omega), (show 0 + 0 ≤ 0 by omega)⟩)) (fun r8 hw => ?_)
      have hw : (zSp r8 (fun k => k < 16)) ∧ (¬ ((nI k4)) < 0 → zIn16 r8) := hw
      obtain ⟨w0r8, w1r8⟩ := hw
      obtain ⟨q9, hqq9, rfl⟩ := w1r8 (nI_pos (by omega))
      refine va_iald hx hb hK hP 18 0 rfl rfl (vp_in_nI (show q9 < 16 by omega) (by decide)) dX1_tellApart_52 ?_
      refine lv_topi (fun x10 ex10 => ?_)
      obtain rfl : x10 = nA2 q9 := by rw [ex10, nI_clamp (show q9 < 2 ^ 31 by omega)]
      refine lv_icmp_ne (tgt := 68) hx hb dX1_tellApart_53 (by decide) (fun cp53 => ?_) (fun cp53 => ?_)
      · refine lv_iconst (v := 1) hx hb dX1_tellApart_68 (by decide) ?_
        refine lv_goto (tgt := 73) hx hb dX1_tellApart_69 (by decide) ?_
        exact W.zret (v := (1 : Int32)) hx hb hr rfl (fun t ht hW => ⟨(1 : Int32), rfl, (Or.inr rfl), ht⟩) (fun _ h => by cases h) dX1_tellApart_73
      · refine lv_iload_n hx hb dX1_tellApart_56 rfl (lv_at hl 1 rfl) ?_
        refine vp_callSi (z_runC (va_runSN (As := [.int (nI k3)]) (rest := []) ⟨hx, hb, hml, hown, hts⟩ (kX6_placeIn l dC dI   (nI k3) (zSp.mk (by omega) (by first | trivial | omega | assumption))) ⟨va_cnB 1 hts zgX1_tellApart_X6_placeIn_118 rfl rfl rfl hE.2.2 (hts (.initialized RX6) (by decide +kernel)) (by decide +kernel) ⟨(show 0 + 1 ≤ 5 by omega), (show 8 + (1 + 11) + 0 ≤ 121 by omega)⟩, (hts (.static yX6_placeIn) (by decide +kernel)), trivial⟩ (zSq (hK.sub (tys' := []) [] rfl) (hP.sub (ws' := ([] : va_W)) [] rfl) hE) rfl rfl hl.1 rfl (lv_room (Nat.le_of_ble_eq_true rfl)) dX1_tellApart_57 ⟨(show 0 + 0 ≤ 0 by omega), (show 0 + 0 ≤ 0 by omega)⟩)) (fun r11 hw => ?_)
        have hw : (True) := hw
        have w0r11 := hw
        refine lv_iload hx hb dX1_tellApart_60 (lv_at hl 0 rfl) ?_
        refine vp_callSi (z_runC (va_runSN (As := [.int (nI k4)]) (rest := [.int r11]) ⟨hx, hb, hml, hown, hts⟩ (kX6_placeIn l dC dI   (nI k4) (zSp.mk (by omega) (by first | trivial | omega | assumption))) ⟨va_cnB 1 hts zgX1_tellApart_X6_placeIn_118 rfl rfl rfl hE.2.2 (hts (.initialized RX6) (by decide +kernel)) (by decide +kernel) ⟨(show 0 + 1 ≤ 5 by omega), (show 8 + (1 + 11) + 0 ≤ 121 by omega)⟩, (hts (.static yX6_placeIn) (by decide +kernel)), trivial⟩ (zSq (hK.sub (tys' := []) [] rfl) (hP.sub (ws' := ([] : va_W)) [] rfl) hE) rfl rfl hl.1 rfl (lv_room (Nat.le_of_ble_eq_true rfl)) dX1_tellApart_62 ⟨(show 0 + 0 ≤ 0 by omega), (show 0 + 0 ≤ 0 by omega)⟩)) (fun r12 hw => ?_)
        have hw : (True) := hw
        have w0r12 := hw
        refine lv_icmp_eq (tgt := 72) hx hb dX1_tellApart_65 (by decide) (fun cp65 => ?_) (fun cp65 => ?_)
        · refine lv_iconst (v := 0) hx hb dX1_tellApart_72 (by decide) ?_
          exact W.zret (v := (0 : Int32)) hx hb hr rfl (fun t ht hW => ⟨(0 : Int32), rfl, (Or.inl rfl), ht⟩) (fun _ h => by cases h) dX1_tellApart_73
        · refine lv_iconst (v := 1) hx hb dX1_tellApart_68 (by decide) ?_
          refine lv_goto (tgt := 73) hx hb dX1_tellApart_69 (by decide) ?_
          exact W.zret (v := (1 : Int32)) hx hb hr rfl (fun t ht hW => ⟨(1 : Int32), rfl, (Or.inr rfl), ht⟩) (fun _ h => by cases h) dX1_tellApart_73
    · have hgcp19 : r2 < 0 := Int32.not_le.mp cp19
      refine lv_iload_n hx hb dX1_tellApart_22 rfl (lv_at hl 1 rfl) ?_
      refine lv_iload hx hb dX1_tellApart_23 (lv_at hl 0 rfl) ?_
      refine lv_icmp_eq (tgt := 32) hx hb dX1_tellApart_25 (by decide) (fun cp25 => ?_) (fun cp25 => ?_)
      · refine lv_iconst (v := 0) hx hb dX1_tellApart_32 (by decide) ?_
        exact W.zret (v := (0 : Int32)) hx hb hr rfl (fun t ht hW => ⟨(0 : Int32), rfl, (Or.inl rfl), ht⟩) (fun _ h => by cases h) dX1_tellApart_33
      · refine lv_iconst (v := 1) hx hb dX1_tellApart_28 (by decide) ?_
        refine lv_goto (tgt := 33) hx hb dX1_tellApart_29 (by decide) ?_
        exact W.zret (v := (1 : Int32)) hx hb hr rfl (fun t ht hW => ⟨(1 : Int32), rfl, (Or.inr rfl), ht⟩) (fun _ h => by cases h) dX1_tellApart_33
