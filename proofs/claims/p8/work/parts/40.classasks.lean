theorem dX6_defined_0 : decode cX6_defined 0 = .ok (.aload_n 0, 1) := by decide +kernel
theorem dX6_defined_1 : decode cX6_defined 1 = .ok (.iload_n 1, 1) := by decide +kernel
theorem dX6_defined_2 : decode cX6_defined 2 = .ok (.invokevirtual 62, 3) := by decide +kernel
theorem dX6_defined_5 : decode cX6_defined 5 = .ok (.astore_n 3, 1) := by decide +kernel
theorem dX6_defined_6 : decode cX6_defined 6 = .ok (.aload_n 3, 1) := by decide +kernel
theorem dX6_defined_7 : decode cX6_defined 7 = .ok (.ifnonnull 6, 3) := by decide +kernel
theorem dX6_defined_10 : decode cX6_defined 10 = .ok (.bipush (-2), 2) := by decide +kernel
theorem dX6_defined_12 : decode cX6_defined 12 = .ok (.ireturn, 1) := by decide +kernel
theorem dX6_defined_13 : decode cX6_defined 13 = .ok (.aload_n 3, 1) := by decide +kernel
theorem dX6_defined_14 : decode cX6_defined 14 = .ok (.aload_n 3, 1) := by decide +kernel
theorem dX6_defined_15 : decode cX6_defined 15 = .ok (.iload_n 2, 1) := by decide +kernel
theorem dX6_defined_16 : decode cX6_defined 16 = .ok (.invokevirtual 66, 3) := by decide +kernel
theorem dX6_defined_19 : decode cX6_defined 19 = .ok (.invokevirtual 70, 3) := by decide +kernel
theorem dX6_defined_22 : decode cX6_defined 22 = .ok (.istore 4, 2) := by decide +kernel
theorem dX6_defined_24 : decode cX6_defined 24 = .ok (.iload 4, 2) := by decide +kernel
theorem dX6_defined_26 : decode cX6_defined 26 = .ok (.ifCond .ne 7, 3) := by decide +kernel
theorem dX6_defined_29 : decode cX6_defined 29 = .ok (.iconst 1, 1) := by decide +kernel
theorem dX6_defined_30 : decode cX6_defined 30 = .ok (.goto 8, 3) := by decide +kernel
theorem dX6_defined_33 : decode cX6_defined 33 = .ok (.iload 4, 2) := by decide +kernel
theorem dX6_defined_35 : decode cX6_defined 35 = .ok (.invokestatic 73, 3) := by decide +kernel
theorem dX6_defined_38 : decode cX6_defined 38 = .ok (.ireturn, 1) := by decide +kernel
def zwX6_defined : List Cond := .code yX6_defined cX6_defined 5 (some .int) :: ([.methodLink RX6 62 yX6_buildAt, .instanceMethod yX6_buildAt, .selects RX6 yX6_buildAt yX6_buildAt, .initialized RX6, .code yX6_buildAt cX6_buildAt 2 (some (.object "LinkModels$Build")), .fieldLink RX6 23 "LinkModels" "buildCount" "I", .fieldLink RX6 19 "LinkModels" "builds" "[LLinkModels$Build;", .methodLink RX6 66 yX0_placeOf, .instanceMethod yX0_placeOf, .selects RX0 yX0_placeOf yX0_placeOf, .initialized RX0, .code yX0_placeOf cX0_placeOf 3 (some .int), .fieldLink RX0 61 "LinkModels$Build" "classCount" "I", .fieldLink RX0 11 "LinkModels$Build" "names" "[I", .methodLink RX6 70 yX0_errorAt, .instanceMethod yX0_errorAt, .selects RX0 yX0_errorAt yX0_errorAt, .code yX0_errorAt cX0_errorAt 2 (some .int), .fieldLink RX0 49 "LinkModels$Build" "errors" "[I", .methodLink RX6 73 yX1_failed, .static yX1_failed, .initialized RX1, .code yX1_failed cX1_failed 1 (some .int)] ++ wsX60 ++ wsX00)
set_option maxRecDepth 100000 in
theorem zgX6_defined_X6_buildAt_62 : GoodIn zwX6_defined (wsV RX6 62 RX6 yX6_buildAt zwX6_buildAt) := goodIn_app (goodIn_r _ [1, 2, 3, 4] rfl (by decide +kernel)) (goodIn_app (goodIn_r _ [5, 6, 7] rfl (by decide +kernel)) (fun w hw => ⟨(List.mem_cons_of_mem _ (List.mem_append_left _ (List.mem_append_right _ hw))), good_of_word (List.all_eq_true.mp zgX6 w hw)⟩))
set_option maxRecDepth 100000 in
theorem zgX6_defined_X0_placeOf_66 : GoodIn zwX6_defined (wsV RX6 66 RX0 yX0_placeOf zwX0_placeOf) := goodIn_app (goodIn_r _ [8, 9, 10, 11] rfl (by decide +kernel)) (goodIn_app (goodIn_r _ [12, 13, 14] rfl (by decide +kernel)) (fun w hw => ⟨(List.mem_cons_of_mem _ (List.mem_append_right _ hw)), good_of_word (List.all_eq_true.mp zgX0 w hw)⟩))
set_option maxRecDepth 100000 in
theorem zgX6_defined_X0_errorAt_70 : GoodIn zwX6_defined (wsV RX6 70 RX0 yX0_errorAt zwX0_errorAt) := goodIn_app (goodIn_r _ [15, 16, 17, 11] rfl (by decide +kernel)) (goodIn_app (goodIn_r _ [18, 19] rfl (by decide +kernel)) (fun w hw => ⟨(List.mem_cons_of_mem _ (List.mem_append_right _ hw)), good_of_word (List.all_eq_true.mp zgX0 w hw)⟩))
set_option maxRecDepth 100000 in
theorem zgX6_defined_X1_failed_73 : GoodIn zwX6_defined (va_wsS RX6 73 yX1_failed zwX1_failed) := goodIn_app (goodIn_r _ [20, 21, 22] rfl (by decide +kernel)) (goodIn_r _ [23] rfl (by decide +kernel))
set_option maxHeartbeats 4000000 in
set_option maxRecDepth 100000 in
theorem kX6_defined (l : Launch) (dC : Nat → ClassId) (dI : Nat → Nat → Nat) (xh : Nat) (tb : Nat) (xb : Nat) (xu : Nat) (rh : Nat) (cI : ClassId) (cJ : ClassId) (cB : ClassId) (cQ : ClassId) (cV : ClassId) (tn : Nat) (bn : Nat) (un : Nat) (bf : Nat → Option Nat) (wf : Nat → Option Nat) (hI : yWI tn bn un) (ib : Int32) (nm : Int32) : Met l yX6_defined zwX6_defined ({ frames := 1, cells := 0, slots := 0, locals := 22 }) (zPX dC dI [.ref xh, .int ib, .int nm] (yW xh tb xb xu rh cI cJ cB cQ cV (nI tn) (nI bn) (nI un) bf wf) [(cI, .int), (cJ, .long), (cB, .byte), (cQ, .object RX0), (cV, .object RX5)] cI cJ cB bn bf un wf) (vp_Si (fun r => (True))) 0 0 (fun _ => False) := by
  refine Met.ofW (cc := cX6_defined) (maxL := 5) (ret := (some .int)) (by decide) rfl ?_
  intro p e s m args below meth c s₁ B hml hv
  obtain ⟨rfl, hP, hK, hE, hBs, hUs⟩ := hv
  have hx := B.exec
  have hb := B.bytes
  have hr := B.returns
  have hts := atoms_spec (ws := zwX6_defined) B.pre
  have hown : s.vm.findClass RX6 = some m.cls := findClass_of_methodNamed B.named
  obtain ⟨htn, hbn, hun⟩ := hI
  have hl := lv_entry ([.ref xh, .int ib, .int nm]) (n := 5) (Nat.le_of_ble_eq_true rfl)
  rw [lg_entry_eq]
  generalize (lg_sl ([.ref xh, .int ib, .int nm]) ++ List.replicate (5 - (lg_sl ([.ref xh, .int ib, .int nm])).length) Slot.unset).toArray = ls at hl ⊢
  have hl : lv_has ls 5 [(0, .ref xh), (1, .int ib), (2, .int nm)] := hl
  refine lv_aload_n hx hb dX6_defined_0 rfl (lv_at hl 0 rfl) ?_
  refine lv_iload_n hx hb dX6_defined_1 rfl (lv_at hl 1 rfl) ?_
  refine va_csq (W.runV (As := [.int ib]) (rest := []) ⟨hx, hb, hml, hown, hts⟩ (kX6_buildAt l dC dI xh tb xb xu rh cI cJ cB cQ cV tn bn un bf wf ⟨by omega, by omega, by omega⟩ ib) (cwV 1 hts zgX6_defined_X6_buildAt_62 rfl rfl rfl (by decide +kernel) ⟨(show 0 + 1 ≤ 1 by omega), (show 8 + (2 + 11) + 0 ≤ 22 by omega)⟩) (zVq (ci := 5) (q0 := 0) (q := (RX6, TX6, 7)) hK hP hE rfl rfl rfl) rfl rfl hl.1 rfl (lv_room (Nat.le_of_ble_eq_true rfl)) dX6_defined_2 ⟨(show 0 + 0 ≤ 0 by omega), (show 0 + 0 ≤ 0 by omega)⟩) (fun r1 hw => ?_)
  rcases hw with rfl | ⟨k2, hk2, rfl⟩
  · refine W.eq (g2 := F0 m 5 ls [.null]) rfl ?_
    refine lv_astore_nN (lv' := [(3, .null), (0, .ref xh), (1, .int ib), (2, .int nm)]) hx hb dX6_defined_5 rfl hl (by decide) rfl (fun ls hl => ?_)
    refine lv_aload_nN hx hb dX6_defined_6 rfl (lv_at hl 0 rfl) ?_
    refine lv_ifnonnullN hx hb dX6_defined_7 ?_
    refine lv_bipush (v := (-2)) hx hb dX6_defined_10 (by decide) ?_
    exact W.iret (v := (-2 : Int32)) hx hb hr (fun t ht hW => ⟨(-2 : Int32), rfl, trivial, ht⟩) (fun _ h => by cases h) dX6_defined_12
  · obtain ⟨bh, wk2, hfk2, hck2, hPk2⟩ := hBs k2 hk2
    obtain ⟨br, cc, nA, mA, aA, fcA, fA, mcA, mmA, wA, tcA, g1A, g2A, nuA, erA, reA, liA, lcA, hIk2, rfl⟩ := hck2
    obtain ⟨hcc, hfcA, hmcA, herA, hliA, hlcA⟩ := hIk2
    rw [hfk2]
    refine W.eq (g2 := F0 m 5 ls [.ref bh]) rfl ?_
    have hP := hP.app hPk2
    refine lv_astore_n (lv' := [(3, .ref bh), (0, .ref xh), (1, .int ib), (2, .int nm)]) hx hb dX6_defined_5 rfl hl (by decide) rfl (fun ls hl => ?_)
    refine lv_aload_n hx hb dX6_defined_6 rfl (lv_at hl 0 rfl) ?_
    refine lv_ifnonnull (tgt := 13) hx hb dX6_defined_7 (by decide) ?_
    refine lv_aload_n hx hb dX6_defined_13 rfl (lv_at hl 0 rfl) ?_
    refine lv_aload_n hx hb dX6_defined_14 rfl (lv_at hl 0 rfl) ?_
    refine lv_iload_n hx hb dX6_defined_15 rfl (lv_at hl 3 rfl) ?_
    refine vp_callSi (W.runV (As := [.int nm]) (rest := [.ref bh]) ⟨hx, hb, hml, hown, hts⟩ (kX0_placeOf l dC dI bh br cI cJ cB cc nA mA aA fcA fA mcA mmA wA tcA g1A g2A nuA erA reA liA lcA ⟨by omega, hfcA, hmcA, herA, hliA, hlcA⟩ nm) (cwV 1 hts zgX6_defined_X0_placeOf_66 rfl rfl rfl (by decide +kernel) ⟨(show 0 + 1 ≤ 1 by omega), (show 8 + (3 + 11) + 0 ≤ 22 by omega)⟩) (zVq (ci := 0) (q0 := 0) (q := (RX0, TX0, 17)) (hK.sub (tys' := [(cI, .int), (cJ, .long), (cB, .byte)]) [0, 1, 2] rfl) (hP.sub (ws' := (bW bh br cI cJ cB (nI cc) nA mA aA (fun j => nI (fcA j)) fA (fun j => nI (mcA j)) mmA wA tcA g1A g2A nuA (fun j => nI (erA j)) reA (fun j => nI (liA j)) (fun j => nI (lcA j)))) [3, 4, 5, 6, 7, 8, 9, 10, 11, 12, 13, 14, 15, 16, 17, 18, 19] rfl) hE rfl rfl rfl) rfl rfl hl.1 rfl (lv_room (Nat.le_of_ble_eq_true rfl)) dX6_defined_16 ⟨(show 0 + 0 ≤ 0 by omega), (show 0 + 0 ≤ 0 by omega)⟩) (fun r3 hw => ?_)
    have hw : (zM r3 (fun k => k < cc)) := hw
    have w0r3 := hw
    refine vp_callSi (W.runV (As := [.int r3]) (rest := []) ⟨hx, hb, hml, hown, hts⟩ (kX0_errorAt l dC dI bh br cI cJ cB cc nA mA aA fcA fA mcA mmA wA tcA g1A g2A nuA erA reA liA lcA ⟨by omega, hfcA, hmcA, herA, hliA, hlcA⟩ r3 (zM.imp w0r3 (fun k hk hq => by first | exact hq | trivial | omega))) (cwV 1 hts zgX6_defined_X0_errorAt_70 rfl rfl rfl (by decide +kernel) ⟨(show 0 + 1 ≤ 1 by omega), (show 8 + (2 + 11) + 0 ≤ 22 by omega)⟩) (zVq (ci := 0) (q0 := 0) (q := (RX0, TX0, 17)) (hK.sub (tys' := [(cI, .int), (cJ, .long), (cB, .byte)]) [0, 1, 2] rfl) (hP.sub (ws' := (bW bh br cI cJ cB (nI cc) nA mA aA (fun j => nI (fcA j)) fA (fun j => nI (mcA j)) mmA wA tcA g1A g2A nuA (fun j => nI (erA j)) reA (fun j => nI (liA j)) (fun j => nI (lcA j)))) [3, 4, 5, 6, 7, 8, 9, 10, 11, 12, 13, 14, 15, 16, 17, 18, 19] rfl) hE rfl rfl rfl) rfl rfl hl.1 rfl (lv_room (Nat.le_of_ble_eq_true rfl)) dX6_defined_19 ⟨(show 0 + 0 ≤ 0 by omega), (show 0 + 0 ≤ 0 by omega)⟩) (fun r4 hw => ?_)
    have hw : (zN r4 (fun k => k ≤ 5 ∧ (k = 0 → zIn16 r3))) := hw
    have w0r4 := hw
    obtain ⟨k5, hBk5, hQk5, rfl⟩ := w0r4
    refine lv_istore (lv' := [(4, .int (nI k5)), (3, .ref bh), (0, .ref xh), (1, .int ib), (2, .int nm)]) hx hb dX6_defined_22 hl (by decide) rfl (fun ls hl => ?_)
    refine lv_iload hx hb dX6_defined_24 (lv_at hl 0 rfl) ?_
    refine lv_if_ne (tgt := 33) hx hb dX6_defined_26 (by decide) (fun cp26 => ?_) (fun cp26 => ?_)
    · have qcp26 : ¬ k5 = 0 := fun h9 => cp26 ((nI_eq (a := k5) (b := 0) (by omega) (by omega)).mpr h9)
      refine lv_iload hx hb dX6_defined_33 (lv_at hl 0 rfl) ?_
      refine vp_callSi (W.runS (As := [.int (nI k5)]) (rest := []) ⟨hx, hb, hml, hown, hts⟩ (kX1_failed l dC dI   k5 (by first | omega | assumption | trivial)) (va_cwS 1 hts zgX6_defined_X1_failed_73 rfl rfl rfl (by decide +kernel) ⟨(show 0 + 1 ≤ 1 by omega), (show 8 + (1 + 11) + 0 ≤ 22 by omega)⟩) (zSq (hK.sub (tys' := []) [] rfl) (hP.sub (ws' := ([] : va_W)) [] rfl) hE) rfl rfl hl.1 rfl (lv_room (Nat.le_of_ble_eq_true rfl)) dX6_defined_35 ⟨(show 0 + 0 ≤ 0 by omega), (show 0 + 0 ≤ 0 by omega)⟩) (fun r6 hw => ?_)
      have hw : (r6 < 0) := hw
      have w0r6 := hw
      exact W.iret (v := r6) hx hb hr (fun t ht hW => ⟨r6, rfl, trivial, ht⟩) (fun _ h => by cases h) dX6_defined_38
    · have qcp26 : k5 = 0 := (nI_eq (a := k5) (b := 0) (by omega) (by omega)).mp cp26
      refine lv_iconst (v := 1) hx hb dX6_defined_29 (by decide) ?_
      refine lv_goto (tgt := 38) hx hb dX6_defined_30 (by decide) ?_
      exact W.iret (v := (1 : Int32)) hx hb hr (fun t ht hW => ⟨(1 : Int32), rfl, trivial, ht⟩) (fun _ h => by cases h) dX6_defined_38
theorem dX6_count_0 : decode cX6_count 0 = .ok (.aload_n 0, 1) := by decide +kernel
theorem dX6_count_1 : decode cX6_count 1 = .ok (.iload_n 1, 1) := by decide +kernel
theorem dX6_count_2 : decode cX6_count 2 = .ok (.invokevirtual 62, 3) := by decide +kernel
theorem dX6_count_5 : decode cX6_count 5 = .ok (.astore_n 3, 1) := by decide +kernel
theorem dX6_count_6 : decode cX6_count 6 = .ok (.aload_n 3, 1) := by decide +kernel
theorem dX6_count_7 : decode cX6_count 7 = .ok (.ifnonnull 6, 3) := by decide +kernel
theorem dX6_count_10 : decode cX6_count 10 = .ok (.bipush (-2), 2) := by decide +kernel
theorem dX6_count_12 : decode cX6_count 12 = .ok (.ireturn, 1) := by decide +kernel
theorem dX6_count_13 : decode cX6_count 13 = .ok (.iload_n 2, 1) := by decide +kernel
theorem dX6_count_14 : decode cX6_count 14 = .ok (.tableswitch 61 0 3 #[30, 35, 43, 52], 30) := by decide +kernel
theorem dX6_count_44 : decode cX6_count 44 = .ok (.aload_n 3, 1) := by decide +kernel
theorem dX6_count_45 : decode cX6_count 45 = .ok (.getfield 78, 3) := by decide +kernel
theorem dX6_count_48 : decode cX6_count 48 = .ok (.ireturn, 1) := by decide +kernel
theorem dX6_count_49 : decode cX6_count 49 = .ok (.aload_n 3, 1) := by decide +kernel
theorem dX6_count_50 : decode cX6_count 50 = .ok (.bipush 16, 2) := by decide +kernel
theorem dX6_count_52 : decode cX6_count 52 = .ok (.iconst 0, 1) := by decide +kernel
theorem dX6_count_53 : decode cX6_count 53 = .ok (.invokevirtual 81, 3) := by decide +kernel
theorem dX6_count_56 : decode cX6_count 56 = .ok (.ireturn, 1) := by decide +kernel
theorem dX6_count_57 : decode cX6_count 57 = .ok (.aload_n 3, 1) := by decide +kernel
theorem dX6_count_58 : decode cX6_count 58 = .ok (.bipush 16, 2) := by decide +kernel
theorem dX6_count_60 : decode cX6_count 60 = .ok (.bipush 16, 2) := by decide +kernel
theorem dX6_count_62 : decode cX6_count 62 = .ok (.invokevirtual 81, 3) := by decide +kernel
theorem dX6_count_65 : decode cX6_count 65 = .ok (.ireturn, 1) := by decide +kernel
theorem dX6_count_66 : decode cX6_count 66 = .ok (.aload_n 3, 1) := by decide +kernel
theorem dX6_count_67 : decode cX6_count 67 = .ok (.bipush 32, 2) := by decide +kernel
theorem dX6_count_69 : decode cX6_count 69 = .ok (.bipush 32, 2) := by decide +kernel
theorem dX6_count_71 : decode cX6_count 71 = .ok (.invokevirtual 81, 3) := by decide +kernel
theorem dX6_count_74 : decode cX6_count 74 = .ok (.ireturn, 1) := by decide +kernel
theorem dX6_count_75 : decode cX6_count 75 = .ok (.bipush (-3), 2) := by decide +kernel
theorem dX6_count_77 : decode cX6_count 77 = .ok (.ireturn, 1) := by decide +kernel
def zwX6_count : List Cond := .code yX6_count cX6_count 4 (some .int) :: ([.fieldLink RX6 78 "LinkModels$Build" "classCount" "I", .methodLink RX6 62 yX6_buildAt, .instanceMethod yX6_buildAt, .selects RX6 yX6_buildAt yX6_buildAt, .initialized RX6, .code yX6_buildAt cX6_buildAt 2 (some (.object "LinkModels$Build")), .fieldLink RX6 23 "LinkModels" "buildCount" "I", .fieldLink RX6 19 "LinkModels" "builds" "[LLinkModels$Build;", .methodLink RX6 81 yX0_membersWith, .instanceMethod yX0_membersWith, .selects RX0 yX0_membersWith yX0_membersWith, .initialized RX0, .code yX0_membersWith cX0_membersWith 6 (some .int), .fieldLink RX0 27 "LinkModels$Build" "memberCounts" "[I", .fieldLink RX0 30 "LinkModels$Build" "memberMarks" "[I", .fieldLink RX0 61 "LinkModels$Build" "classCount" "I"] ++ wsX00 ++ wsX60)
set_option maxRecDepth 100000 in
theorem zgX6_count_X6_buildAt_62 : GoodIn zwX6_count (wsV RX6 62 RX6 yX6_buildAt zwX6_buildAt) := goodIn_app (goodIn_r _ [2, 3, 4, 5] rfl (by decide +kernel)) (goodIn_app (goodIn_r _ [6, 7, 8] rfl (by decide +kernel)) (fun w hw => ⟨(List.mem_cons_of_mem _ (List.mem_append_right _ hw)), good_of_word (List.all_eq_true.mp zgX6 w hw)⟩))
set_option maxRecDepth 100000 in
theorem zgX6_count_X0_membersWith_81 : GoodIn zwX6_count (wsV RX6 81 RX0 yX0_membersWith zwX0_membersWith) := goodIn_app (goodIn_r _ [9, 10, 11, 12] rfl (by decide +kernel)) (goodIn_app (goodIn_r _ [13, 14, 15, 16] rfl (by decide +kernel)) (fun w hw => ⟨(List.mem_cons_of_mem _ (List.mem_append_left _ (List.mem_append_right _ hw))), good_of_word (List.all_eq_true.mp zgX0 w hw)⟩))
set_option maxHeartbeats 4000000 in
set_option maxRecDepth 100000 in
theorem kX6_count (l : Launch) (dC : Nat → ClassId) (dI : Nat → Nat → Nat) (xh : Nat) (tb : Nat) (xb : Nat) (xu : Nat) (rh : Nat) (cI : ClassId) (cJ : ClassId) (cB : ClassId) (cQ : ClassId) (cV : ClassId) (tn : Nat) (bn : Nat) (un : Nat) (bf : Nat → Option Nat) (wf : Nat → Option Nat) (hI : yWI tn bn un) (ib : Int32) (wh : Int32) : Met l yX6_count zwX6_count ({ frames := 1, cells := 0, slots := 0, locals := 25 }) (zPX dC dI [.ref xh, .int ib, .int wh] (yW xh tb xb xu rh cI cJ cB cQ cV (nI tn) (nI bn) (nI un) bf wf) [(cI, .int), (cJ, .long), (cB, .byte), (cQ, .object RX0), (cV, .object RX5)] cI cJ cB bn bf un wf) (vp_Si (fun r => (True))) 0 0 (fun _ => False) := by
  refine Met.ofW (cc := cX6_count) (maxL := 4) (ret := (some .int)) (by decide) rfl ?_
  intro p e s m args below meth c s₁ B hml hv
  obtain ⟨rfl, hP, hK, hE, hBs, hUs⟩ := hv
  have hx := B.exec
  have hb := B.bytes
  have hr := B.returns
  have hts := atoms_spec (ws := zwX6_count) B.pre
  have hown : s.vm.findClass RX6 = some m.cls := findClass_of_methodNamed B.named
  have hiX0 : ∀ w ∈ wsX00, w ∈ zwX6_count := (fun w hw => (List.mem_cons_of_mem _ (List.mem_append_left _ (List.mem_append_right _ hw))))
  obtain ⟨htn, hbn, hun⟩ := hI
  have hl := lv_entry ([.ref xh, .int ib, .int wh]) (n := 4) (Nat.le_of_ble_eq_true rfl)
  rw [lg_entry_eq]
  generalize (lg_sl ([.ref xh, .int ib, .int wh]) ++ List.replicate (4 - (lg_sl ([.ref xh, .int ib, .int wh])).length) Slot.unset).toArray = ls at hl ⊢
  have hl : lv_has ls 4 [(0, .ref xh), (1, .int ib), (2, .int wh)] := hl
  refine lv_aload_n hx hb dX6_count_0 rfl (lv_at hl 0 rfl) ?_
  refine lv_iload_n hx hb dX6_count_1 rfl (lv_at hl 1 rfl) ?_
  refine va_csq (W.runV (As := [.int ib]) (rest := []) ⟨hx, hb, hml, hown, hts⟩ (kX6_buildAt l dC dI xh tb xb xu rh cI cJ cB cQ cV tn bn un bf wf ⟨by omega, by omega, by omega⟩ ib) (cwV 1 hts zgX6_count_X6_buildAt_62 rfl rfl rfl (by decide +kernel) ⟨(show 0 + 1 ≤ 1 by omega), (show 8 + (2 + 11) + 0 ≤ 25 by omega)⟩) (zVq (ci := 5) (q0 := 0) (q := (RX6, TX6, 7)) hK hP hE rfl rfl rfl) rfl rfl hl.1 rfl (lv_room (Nat.le_of_ble_eq_true rfl)) dX6_count_2 ⟨(show 0 + 0 ≤ 0 by omega), (show 0 + 0 ≤ 0 by omega)⟩) (fun r1 hw => ?_)
  rcases hw with rfl | ⟨k2, hk2, rfl⟩
  · refine W.eq (g2 := F0 m 5 ls [.null]) rfl ?_
    refine lv_astore_nN (lv' := [(3, .null), (0, .ref xh), (1, .int ib), (2, .int wh)]) hx hb dX6_count_5 rfl hl (by decide) rfl (fun ls hl => ?_)
    refine lv_aload_nN hx hb dX6_count_6 rfl (lv_at hl 0 rfl) ?_
    refine lv_ifnonnullN hx hb dX6_count_7 ?_
    refine lv_bipush (v := (-2)) hx hb dX6_count_10 (by decide) ?_
    exact W.iret (v := (-2 : Int32)) hx hb hr (fun t ht hW => ⟨(-2 : Int32), rfl, trivial, ht⟩) (fun _ h => by cases h) dX6_count_12
  · obtain ⟨bh, wk2, hfk2, hck2, hPk2⟩ := hBs k2 hk2
    obtain ⟨br, cc, nA, mA, aA, fcA, fA, mcA, mmA, wA, tcA, g1A, g2A, nuA, erA, reA, liA, lcA, hIk2, rfl⟩ := hck2
    obtain ⟨hcc, hfcA, hmcA, herA, hliA, hlcA⟩ := hIk2
    rw [hfk2]
    refine W.eq (g2 := F0 m 5 ls [.ref bh]) rfl ?_
    have hP := hP.app hPk2
    refine lv_astore_n (lv' := [(3, .ref bh), (0, .ref xh), (1, .int ib), (2, .int wh)]) hx hb dX6_count_5 rfl hl (by decide) rfl (fun ls hl => ?_)
    refine lv_aload_n hx hb dX6_count_6 rfl (lv_at hl 0 rfl) ?_
    refine lv_ifnonnull (tgt := 13) hx hb dX6_count_7 (by decide) ?_
    refine lv_iload_n hx hb dX6_count_13 rfl (lv_at hl 3 rfl) ?_
    by_cases cs14_0 : wh = 0
    · refine lv_tableIn (off := 30) (tgt := 44) hx hb dX6_count_14 (by rw [cs14_0]; decide) (by rw [cs14_0]; decide) (by rw [cs14_0]; decide) (by decide) ?_
      refine lv_aload_n hx hb dX6_count_44 rfl (lv_at hl 0 rfl) ?_
      refine va_get (D := (dC, dI)) (ci := 0) (v := .int (nI cc)) (C := RX0) (T := TX0) (N := 17) hx hb hts hiX0 hown hK hP 3 rfl rfl 0 (by decide) (hts (.fieldLink RX6 78 "LinkModels$Build" "classCount" "I") (by decide +kernel)) (fun _ h9 => h9) rfl dX6_count_45 ?_
      exact W.iret (v := (nI cc)) hx hb hr (fun t ht hW => ⟨(nI cc), rfl, trivial, ht⟩) (fun _ h => by cases h) dX6_count_48
    · by_cases cs14_1 : wh = 1
      · refine lv_tableIn (off := 35) (tgt := 49) hx hb dX6_count_14 (by rw [cs14_1]; decide) (by rw [cs14_1]; decide) (by rw [cs14_1]; decide) (by decide) ?_
        refine lv_aload_n hx hb dX6_count_49 rfl (lv_at hl 0 rfl) ?_
        refine lv_bipush (v := 16) hx hb dX6_count_50 (by decide) ?_
        refine lv_iconst (v := 0) hx hb dX6_count_52 (by decide) ?_
        refine vp_callSi (W.runV (As := [.int 16, .int 0]) (rest := []) ⟨hx, hb, hml, hown, hts⟩ (kX0_membersWith l dC dI bh br cI cJ cB cc nA mA aA fcA fA mcA mmA wA tcA g1A g2A nuA erA reA liA lcA ⟨by omega, hfcA, hmcA, herA, hliA, hlcA⟩ (16 : Int32) (0 : Int32)) (cwV 2 hts zgX6_count_X0_membersWith_81 rfl rfl rfl (by decide +kernel) ⟨(show 0 + 1 ≤ 1 by omega), (show 8 + (6 + 11) + 0 ≤ 25 by omega)⟩) (zVq (ci := 0) (q0 := 0) (q := (RX0, TX0, 17)) (hK.sub (tys' := [(cI, .int), (cJ, .long), (cB, .byte)]) [0, 1, 2] rfl) (hP.sub (ws' := (bW bh br cI cJ cB (nI cc) nA mA aA (fun j => nI (fcA j)) fA (fun j => nI (mcA j)) mmA wA tcA g1A g2A nuA (fun j => nI (erA j)) reA (fun j => nI (liA j)) (fun j => nI (lcA j)))) [3, 4, 5, 6, 7, 8, 9, 10, 11, 12, 13, 14, 15, 16, 17, 18, 19] rfl) hE rfl rfl rfl) rfl rfl hl.1 rfl (lv_room (Nat.le_of_ble_eq_true rfl)) dX6_count_53 ⟨(show 0 + 0 ≤ 0 by omega), (show 0 + 0 ≤ 0 by omega)⟩) (fun r3 hw => ?_)
        have hw : (True) := hw
        have w0r3 := hw
        exact W.iret (v := r3) hx hb hr (fun t ht hW => ⟨r3, rfl, trivial, ht⟩) (fun _ h => by cases h) dX6_count_56
      · by_cases cs14_2 : wh = 2
        · refine lv_tableIn (off := 43) (tgt := 57) hx hb dX6_count_14 (by rw [cs14_2]; decide) (by rw [cs14_2]; decide) (by rw [cs14_2]; decide) (by decide) ?_
          refine lv_aload_n hx hb dX6_count_57 rfl (lv_at hl 0 rfl) ?_
          refine lv_bipush (v := 16) hx hb dX6_count_58 (by decide) ?_
          refine lv_bipush (v := 16) hx hb dX6_count_60 (by decide) ?_
          refine vp_callSi (W.runV (As := [.int 16, .int 16]) (rest := []) ⟨hx, hb, hml, hown, hts⟩ (kX0_membersWith l dC dI bh br cI cJ cB cc nA mA aA fcA fA mcA mmA wA tcA g1A g2A nuA erA reA liA lcA ⟨by omega, hfcA, hmcA, herA, hliA, hlcA⟩ (16 : Int32) (16 : Int32)) (cwV 2 hts zgX6_count_X0_membersWith_81 rfl rfl rfl (by decide +kernel) ⟨(show 0 + 1 ≤ 1 by omega), (show 8 + (6 + 11) + 0 ≤ 25 by omega)⟩) (zVq (ci := 0) (q0 := 0) (q := (RX0, TX0, 17)) (hK.sub (tys' := [(cI, .int), (cJ, .long), (cB, .byte)]) [0, 1, 2] rfl) (hP.sub (ws' := (bW bh br cI cJ cB (nI cc) nA mA aA (fun j => nI (fcA j)) fA (fun j => nI (mcA j)) mmA wA tcA g1A g2A nuA (fun j => nI (erA j)) reA (fun j => nI (liA j)) (fun j => nI (lcA j)))) [3, 4, 5, 6, 7, 8, 9, 10, 11, 12, 13, 14, 15, 16, 17, 18, 19] rfl) hE rfl rfl rfl) rfl rfl hl.1 rfl (lv_room (Nat.le_of_ble_eq_true rfl)) dX6_count_62 ⟨(show 0 + 0 ≤ 0 by omega), (show 0 + 0 ≤ 0 by omega)⟩) (fun r4 hw => ?_)
          have hw : (True) := hw
          have w0r4 := hw
          exact W.iret (v := r4) hx hb hr (fun t ht hW => ⟨r4, rfl, trivial, ht⟩) (fun _ h => by cases h) dX6_count_65
        · by_cases cs14_3 : wh = 3
          · refine lv_tableIn (off := 52) (tgt := 66) hx hb dX6_count_14 (by rw [cs14_3]; decide) (by rw [cs14_3]; decide) (by rw [cs14_3]; decide) (by decide) ?_
            refine lv_aload_n hx hb dX6_count_66 rfl (lv_at hl 0 rfl) ?_
            refine lv_bipush (v := 32) hx hb dX6_count_67 (by decide) ?_
            refine lv_bipush (v := 32) hx hb dX6_count_69 (by decide) ?_
            refine vp_callSi (W.runV (As := [.int 32, .int 32]) (rest := []) ⟨hx, hb, hml, hown, hts⟩ (kX0_membersWith l dC dI bh br cI cJ cB cc nA mA aA fcA fA mcA mmA wA tcA g1A g2A nuA erA reA liA lcA ⟨by omega, hfcA, hmcA, herA, hliA, hlcA⟩ (32 : Int32) (32 : Int32)) (cwV 2 hts zgX6_count_X0_membersWith_81 rfl rfl rfl (by decide +kernel) ⟨(show 0 + 1 ≤ 1 by omega), (show 8 + (6 + 11) + 0 ≤ 25 by omega)⟩) (zVq (ci := 0) (q0 := 0) (q := (RX0, TX0, 17)) (hK.sub (tys' := [(cI, .int), (cJ, .long), (cB, .byte)]) [0, 1, 2] rfl) (hP.sub (ws' := (bW bh br cI cJ cB (nI cc) nA mA aA (fun j => nI (fcA j)) fA (fun j => nI (mcA j)) mmA wA tcA g1A g2A nuA (fun j => nI (erA j)) reA (fun j => nI (liA j)) (fun j => nI (lcA j)))) [3, 4, 5, 6, 7, 8, 9, 10, 11, 12, 13, 14, 15, 16, 17, 18, 19] rfl) hE rfl rfl rfl) rfl rfl hl.1 rfl (lv_room (Nat.le_of_ble_eq_true rfl)) dX6_count_71 ⟨(show 0 + 0 ≤ 0 by omega), (show 0 + 0 ≤ 0 by omega)⟩) (fun r5 hw => ?_)
            have hw : (True) := hw
            have w0r5 := hw
            exact W.iret (v := r5) hx hb hr (fun t ht hW => ⟨r5, rfl, trivial, ht⟩) (fun _ h => by cases h) dX6_count_74
          · refine lv_tableOut (tgt := 75) hx hb dX6_count_14 (by have a14_0 := lv_neT (a := 0) cs14_0 (by decide); have a14_1 := lv_neT (a := 1) cs14_1 (by decide); have a14_2 := lv_neT (a := 2) cs14_2 (by decide); have a14_3 := lv_neT (a := 3) cs14_3 (by decide); omega) (by decide) ?_
            refine lv_bipush (v := (-3)) hx hb dX6_count_75 (by decide) ?_
            exact W.iret (v := (-3 : Int32)) hx hb hr (fun t ht hW => ⟨(-3 : Int32), rfl, trivial, ht⟩) (fun _ h => by cases h) dX6_count_77
theorem dX6_name_0 : decode cX6_name 0 = .ok (.aload_n 0, 1) := by decide +kernel
theorem dX6_name_1 : decode cX6_name 1 = .ok (.iload_n 1, 1) := by decide +kernel
theorem dX6_name_2 : decode cX6_name 2 = .ok (.invokevirtual 62, 3) := by decide +kernel
theorem dX6_name_5 : decode cX6_name 5 = .ok (.astore_n 3, 1) := by decide +kernel
theorem dX6_name_6 : decode cX6_name 6 = .ok (.aload_n 3, 1) := by decide +kernel
theorem dX6_name_7 : decode cX6_name 7 = .ok (.ifnonnull 6, 3) := by decide +kernel
theorem dX6_name_10 : decode cX6_name 10 = .ok (.bipush (-2), 2) := by decide +kernel
theorem dX6_name_12 : decode cX6_name 12 = .ok (.ireturn, 1) := by decide +kernel
theorem dX6_name_13 : decode cX6_name 13 = .ok (.iload_n 2, 1) := by decide +kernel
theorem dX6_name_14 : decode cX6_name 14 = .ok (.ifCond .lt 11, 3) := by decide +kernel
theorem dX6_name_17 : decode cX6_name 17 = .ok (.iload_n 2, 1) := by decide +kernel
theorem dX6_name_18 : decode cX6_name 18 = .ok (.aload_n 3, 1) := by decide +kernel
theorem dX6_name_19 : decode cX6_name 19 = .ok (.getfield 78, 3) := by decide +kernel
theorem dX6_name_22 : decode cX6_name 22 = .ok (.if_icmp .lt 7, 3) := by decide +kernel
theorem dX6_name_25 : decode cX6_name 25 = .ok (.iconst (-1), 1) := by decide +kernel
theorem dX6_name_26 : decode cX6_name 26 = .ok (.goto 9, 3) := by decide +kernel
theorem dX6_name_29 : decode cX6_name 29 = .ok (.aload_n 3, 1) := by decide +kernel
theorem dX6_name_30 : decode cX6_name 30 = .ok (.getfield 85, 3) := by decide +kernel
theorem dX6_name_33 : decode cX6_name 33 = .ok (.iload_n 2, 1) := by decide +kernel
theorem dX6_name_34 : decode cX6_name 34 = .ok (.iaload, 1) := by decide +kernel
theorem dX6_name_35 : decode cX6_name 35 = .ok (.ireturn, 1) := by decide +kernel
def zwX6_name : List Cond := .code yX6_name cX6_name 4 (some .int) :: ([.fieldLink RX6 78 "LinkModels$Build" "classCount" "I", .fieldLink RX6 85 "LinkModels$Build" "names" "[I", .methodLink RX6 62 yX6_buildAt, .instanceMethod yX6_buildAt, .selects RX6 yX6_buildAt yX6_buildAt, .initialized RX6, .code yX6_buildAt cX6_buildAt 2 (some (.object "LinkModels$Build")), .fieldLink RX6 23 "LinkModels" "buildCount" "I", .fieldLink RX6 19 "LinkModels" "builds" "[LLinkModels$Build;"] ++ wsX00 ++ wsX60)
set_option maxRecDepth 100000 in
theorem zgX6_name_X6_buildAt_62 : GoodIn zwX6_name (wsV RX6 62 RX6 yX6_buildAt zwX6_buildAt) := goodIn_app (goodIn_r _ [3, 4, 5, 6] rfl (by decide +kernel)) (goodIn_app (goodIn_r _ [7, 8, 9] rfl (by decide +kernel)) (fun w hw => ⟨(List.mem_cons_of_mem _ (List.mem_append_right _ hw)), good_of_word (List.all_eq_true.mp zgX6 w hw)⟩))
set_option maxHeartbeats 4000000 in
set_option maxRecDepth 100000 in
theorem kX6_name (l : Launch) (dC : Nat → ClassId) (dI : Nat → Nat → Nat) (xh : Nat) (tb : Nat) (xb : Nat) (xu : Nat) (rh : Nat) (cI : ClassId) (cJ : ClassId) (cB : ClassId) (cQ : ClassId) (cV : ClassId) (tn : Nat) (bn : Nat) (un : Nat) (bf : Nat → Option Nat) (wf : Nat → Option Nat) (hI : yWI tn bn un) (ib : Int32) (ii : Int32) : Met l yX6_name zwX6_name ({ frames := 1, cells := 0, slots := 0, locals := 21 }) (zPX dC dI [.ref xh, .int ib, .int ii] (yW xh tb xb xu rh cI cJ cB cQ cV (nI tn) (nI bn) (nI un) bf wf) [(cI, .int), (cJ, .long), (cB, .byte), (cQ, .object RX0), (cV, .object RX5)] cI cJ cB bn bf un wf) (vp_Si (fun r => (True))) 0 0 (fun _ => False) := by
  refine Met.ofW (cc := cX6_name) (maxL := 4) (ret := (some .int)) (by decide) rfl ?_
  intro p e s m args below meth c s₁ B hml hv
  obtain ⟨rfl, hP, hK, hE, hBs, hUs⟩ := hv
  have hx := B.exec
  have hb := B.bytes
  have hr := B.returns
  have hts := atoms_spec (ws := zwX6_name) B.pre
  have hown : s.vm.findClass RX6 = some m.cls := findClass_of_methodNamed B.named
  have hiX0 : ∀ w ∈ wsX00, w ∈ zwX6_name := (fun w hw => (List.mem_cons_of_mem _ (List.mem_append_left _ (List.mem_append_right _ hw))))
  obtain ⟨htn, hbn, hun⟩ := hI
  have hl := lv_entry ([.ref xh, .int ib, .int ii]) (n := 4) (Nat.le_of_ble_eq_true rfl)
  rw [lg_entry_eq]
  generalize (lg_sl ([.ref xh, .int ib, .int ii]) ++ List.replicate (4 - (lg_sl ([.ref xh, .int ib, .int ii])).length) Slot.unset).toArray = ls at hl ⊢
  have hl : lv_has ls 4 [(0, .ref xh), (1, .int ib), (2, .int ii)] := hl
  refine lv_aload_n hx hb dX6_name_0 rfl (lv_at hl 0 rfl) ?_
  refine lv_iload_n hx hb dX6_name_1 rfl (lv_at hl 1 rfl) ?_
  refine va_csq (W.runV (As := [.int ib]) (rest := []) ⟨hx, hb, hml, hown, hts⟩ (kX6_buildAt l dC dI xh tb xb xu rh cI cJ cB cQ cV tn bn un bf wf ⟨by omega, by omega, by omega⟩ ib) (cwV 1 hts zgX6_name_X6_buildAt_62 rfl rfl rfl (by decide +kernel) ⟨(show 0 + 1 ≤ 1 by omega), (show 8 + (2 + 11) + 0 ≤ 21 by omega)⟩) (zVq (ci := 5) (q0 := 0) (q := (RX6, TX6, 7)) hK hP hE rfl rfl rfl) rfl rfl hl.1 rfl (lv_room (Nat.le_of_ble_eq_true rfl)) dX6_name_2 ⟨(show 0 + 0 ≤ 0 by omega), (show 0 + 0 ≤ 0 by omega)⟩) (fun r1 hw => ?_)
  rcases hw with rfl | ⟨k2, hk2, rfl⟩
  · refine W.eq (g2 := F0 m 5 ls [.null]) rfl ?_
    refine lv_astore_nN (lv' := [(3, .null), (0, .ref xh), (1, .int ib), (2, .int ii)]) hx hb dX6_name_5 rfl hl (by decide) rfl (fun ls hl => ?_)
    refine lv_aload_nN hx hb dX6_name_6 rfl (lv_at hl 0 rfl) ?_
    refine lv_ifnonnullN hx hb dX6_name_7 ?_
    refine lv_bipush (v := (-2)) hx hb dX6_name_10 (by decide) ?_
    exact W.iret (v := (-2 : Int32)) hx hb hr (fun t ht hW => ⟨(-2 : Int32), rfl, trivial, ht⟩) (fun _ h => by cases h) dX6_name_12
  · obtain ⟨bh, wk2, hfk2, hck2, hPk2⟩ := hBs k2 hk2
    obtain ⟨br, cc, nA, mA, aA, fcA, fA, mcA, mmA, wA, tcA, g1A, g2A, nuA, erA, reA, liA, lcA, hIk2, rfl⟩ := hck2
    obtain ⟨hcc, hfcA, hmcA, herA, hliA, hlcA⟩ := hIk2
    rw [hfk2]
    refine W.eq (g2 := F0 m 5 ls [.ref bh]) rfl ?_
    have hP := hP.app hPk2
    refine lv_astore_n (lv' := [(3, .ref bh), (0, .ref xh), (1, .int ib), (2, .int ii)]) hx hb dX6_name_5 rfl hl (by decide) rfl (fun ls hl => ?_)
    refine lv_aload_n hx hb dX6_name_6 rfl (lv_at hl 0 rfl) ?_
    refine lv_ifnonnull (tgt := 13) hx hb dX6_name_7 (by decide) ?_
    refine lv_iload_n hx hb dX6_name_13 rfl (lv_at hl 3 rfl) ?_
    refine lv_if_lt (tgt := 25) hx hb dX6_name_14 (by decide) (fun cp14 => ?_) (fun cp14 => ?_)
    · refine lv_iconst (v := (-1)) hx hb dX6_name_25 (by decide) ?_
      refine lv_goto (tgt := 35) hx hb dX6_name_26 (by decide) ?_
      exact W.iret (v := (-1 : Int32)) hx hb hr (fun t ht hW => ⟨(-1 : Int32), rfl, trivial, ht⟩) (fun _ h => by cases h) dX6_name_35
    · refine lv_iload_n hx hb dX6_name_17 rfl (lv_at hl 3 rfl) ?_
      refine lv_aload_n hx hb dX6_name_18 rfl (lv_at hl 0 rfl) ?_
      refine va_get (D := (dC, dI)) (ci := 0) (v := .int (nI cc)) (C := RX0) (T := TX0) (N := 17) hx hb hts hiX0 hown hK hP 3 rfl rfl 0 (by decide) (hts (.fieldLink RX6 78 "LinkModels$Build" "classCount" "I") (by decide +kernel)) (fun _ h9 => h9) rfl dX6_name_19 ?_
      refine lv_icmp_lt (tgt := 29) hx hb dX6_name_22 (by decide) (fun cp22 => ?_) (fun cp22 => ?_)
      · obtain ⟨k3, hk3, rfl⟩ := z_ltn (by omega) cp14 cp22
        refine lv_aload_n hx hb dX6_name_29 rfl (lv_at hl 0 rfl) ?_
        refine va_get (D := (dC, dI)) (ci := 0) (v := .ref (br 1)) (C := RX0) (T := TX0) (N := 17) hx hb hts hiX0 hown hK hP 3 rfl rfl 1 (by decide) (hts (.fieldLink RX6 85 "LinkModels$Build" "names" "[I") (by decide +kernel)) (fun _ h9 => h9) rfl dX6_name_30 ?_
        refine lv_iload_n hx hb dX6_name_33 rfl (lv_at hl 3 rfl) ?_
        refine va_iald hx hb hK hP 4 0 rfl rfl (vp_in_nI (show k3 < 16 by omega) (by decide)) dX6_name_34 ?_
        refine lv_topi (fun x4 ex4 => ?_)
        obtain rfl : x4 = nA k3 := by rw [ex4, nI_clamp (show k3 < 2 ^ 31 by omega)]
        exact W.iret (v := (nA k3)) hx hb hr (fun t ht hW => ⟨(nA k3), rfl, trivial, ht⟩) (fun _ h => by cases h) dX6_name_35
      · refine lv_iconst (v := (-1)) hx hb dX6_name_25 (by decide) ?_
        refine lv_goto (tgt := 35) hx hb dX6_name_26 (by decide) ?_
        exact W.iret (v := (-1 : Int32)) hx hb hr (fun t ht hW => ⟨(-1 : Int32), rfl, trivial, ht⟩) (fun _ h => by cases h) dX6_name_35
theorem dX6_is_0 : decode cX6_is 0 = .ok (.aload_n 0, 1) := by decide +kernel
theorem dX6_is_1 : decode cX6_is 1 = .ok (.iload_n 1, 1) := by decide +kernel
theorem dX6_is_2 : decode cX6_is 2 = .ok (.invokevirtual 62, 3) := by decide +kernel
theorem dX6_is_5 : decode cX6_is 5 = .ok (.astore 4, 2) := by decide +kernel
theorem dX6_is_7 : decode cX6_is 7 = .ok (.aload 4, 2) := by decide +kernel
theorem dX6_is_9 : decode cX6_is 9 = .ok (.ifnonnull 6, 3) := by decide +kernel
theorem dX6_is_12 : decode cX6_is 12 = .ok (.bipush (-2), 2) := by decide +kernel
theorem dX6_is_14 : decode cX6_is 14 = .ok (.ireturn, 1) := by decide +kernel
theorem dX6_is_15 : decode cX6_is 15 = .ok (.aload 4, 2) := by decide +kernel
theorem dX6_is_17 : decode cX6_is 17 = .ok (.iload_n 2, 1) := by decide +kernel
theorem dX6_is_18 : decode cX6_is 18 = .ok (.invokevirtual 66, 3) := by decide +kernel
theorem dX6_is_21 : decode cX6_is 21 = .ok (.istore 5, 2) := by decide +kernel
theorem dX6_is_23 : decode cX6_is 23 = .ok (.aload 4, 2) := by decide +kernel
theorem dX6_is_25 : decode cX6_is 25 = .ok (.iload_n 3, 1) := by decide +kernel
theorem dX6_is_26 : decode cX6_is 26 = .ok (.invokevirtual 66, 3) := by decide +kernel
theorem dX6_is_29 : decode cX6_is 29 = .ok (.istore 6, 2) := by decide +kernel
theorem dX6_is_31 : decode cX6_is 31 = .ok (.aload 4, 2) := by decide +kernel
theorem dX6_is_33 : decode cX6_is 33 = .ok (.iload 5, 2) := by decide +kernel
theorem dX6_is_35 : decode cX6_is 35 = .ok (.invokevirtual 70, 3) := by decide +kernel
theorem dX6_is_38 : decode cX6_is 38 = .ok (.ifCond .eq 14, 3) := by decide +kernel
theorem dX6_is_41 : decode cX6_is 41 = .ok (.aload 4, 2) := by decide +kernel
theorem dX6_is_43 : decode cX6_is 43 = .ok (.iload 5, 2) := by decide +kernel
theorem dX6_is_45 : decode cX6_is 45 = .ok (.invokevirtual 70, 3) := by decide +kernel
theorem dX6_is_48 : decode cX6_is 48 = .ok (.invokestatic 73, 3) := by decide +kernel
theorem dX6_is_51 : decode cX6_is 51 = .ok (.ireturn, 1) := by decide +kernel
theorem dX6_is_52 : decode cX6_is 52 = .ok (.aload 4, 2) := by decide +kernel
theorem dX6_is_54 : decode cX6_is 54 = .ok (.iload 6, 2) := by decide +kernel
theorem dX6_is_56 : decode cX6_is 56 = .ok (.invokevirtual 70, 3) := by decide +kernel
theorem dX6_is_59 : decode cX6_is 59 = .ok (.ifCond .eq 14, 3) := by decide +kernel
theorem dX6_is_62 : decode cX6_is 62 = .ok (.aload 4, 2) := by decide +kernel
theorem dX6_is_64 : decode cX6_is 64 = .ok (.iload 6, 2) := by decide +kernel
theorem dX6_is_66 : decode cX6_is 66 = .ok (.invokevirtual 70, 3) := by decide +kernel
theorem dX6_is_69 : decode cX6_is 69 = .ok (.invokestatic 73, 3) := by decide +kernel
theorem dX6_is_72 : decode cX6_is 72 = .ok (.ireturn, 1) := by decide +kernel
theorem dX6_is_73 : decode cX6_is 73 = .ok (.aload 4, 2) := by decide +kernel
theorem dX6_is_75 : decode cX6_is 75 = .ok (.iload 5, 2) := by decide +kernel
theorem dX6_is_77 : decode cX6_is 77 = .ok (.iload 6, 2) := by decide +kernel
theorem dX6_is_79 : decode cX6_is 79 = .ok (.invokevirtual 89, 3) := by decide +kernel
theorem dX6_is_82 : decode cX6_is 82 = .ok (.ifCond .eq 7, 3) := by decide +kernel
theorem dX6_is_85 : decode cX6_is 85 = .ok (.iconst 1, 1) := by decide +kernel
theorem dX6_is_86 : decode cX6_is 86 = .ok (.goto 4, 3) := by decide +kernel
theorem dX6_is_89 : decode cX6_is 89 = .ok (.iconst 0, 1) := by decide +kernel
theorem dX6_is_90 : decode cX6_is 90 = .ok (.ireturn, 1) := by decide +kernel
def zwX6_is : List Cond := .code yX6_is cX6_is 7 (some .int) :: ([.methodLink RX6 62 yX6_buildAt, .instanceMethod yX6_buildAt, .selects RX6 yX6_buildAt yX6_buildAt, .initialized RX6, .code yX6_buildAt cX6_buildAt 2 (some (.object "LinkModels$Build")), .fieldLink RX6 23 "LinkModels" "buildCount" "I", .fieldLink RX6 19 "LinkModels" "builds" "[LLinkModels$Build;", .methodLink RX6 66 yX0_placeOf, .instanceMethod yX0_placeOf, .selects RX0 yX0_placeOf yX0_placeOf, .initialized RX0, .code yX0_placeOf cX0_placeOf 3 (some .int), .fieldLink RX0 61 "LinkModels$Build" "classCount" "I", .fieldLink RX0 11 "LinkModels$Build" "names" "[I", .methodLink RX6 70 yX0_errorAt, .instanceMethod yX0_errorAt, .selects RX0 yX0_errorAt yX0_errorAt, .code yX0_errorAt cX0_errorAt 2 (some .int), .fieldLink RX0 49 "LinkModels$Build" "errors" "[I", .methodLink RX6 89 yX0_isOf, .instanceMethod yX0_isOf, .selects RX0 yX0_isOf yX0_isOf, .code yX0_isOf cX0_isOf 3 (some .boolean), .fieldLink RX0 52 "LinkModels$Build" "reached" "[I", .methodLink RX6 73 yX1_failed, .static yX1_failed, .initialized RX1, .code yX1_failed cX1_failed 1 (some .int)] ++ wsX60 ++ wsX00)
set_option maxRecDepth 100000 in
theorem zgX6_is_X6_buildAt_62 : GoodIn zwX6_is (wsV RX6 62 RX6 yX6_buildAt zwX6_buildAt) := goodIn_app (goodIn_r _ [1, 2, 3, 4] rfl (by decide +kernel)) (goodIn_app (goodIn_r _ [5, 6, 7] rfl (by decide +kernel)) (fun w hw => ⟨(List.mem_cons_of_mem _ (List.mem_append_left _ (List.mem_append_right _ hw))), good_of_word (List.all_eq_true.mp zgX6 w hw)⟩))
set_option maxRecDepth 100000 in
theorem zgX6_is_X0_placeOf_66 : GoodIn zwX6_is (wsV RX6 66 RX0 yX0_placeOf zwX0_placeOf) := goodIn_app (goodIn_r _ [8, 9, 10, 11] rfl (by decide +kernel)) (goodIn_app (goodIn_r _ [12, 13, 14] rfl (by decide +kernel)) (fun w hw => ⟨(List.mem_cons_of_mem _ (List.mem_append_right _ hw)), good_of_word (List.all_eq_true.mp zgX0 w hw)⟩))
set_option maxRecDepth 100000 in
theorem zgX6_is_X0_errorAt_70 : GoodIn zwX6_is (wsV RX6 70 RX0 yX0_errorAt zwX0_errorAt) := goodIn_app (goodIn_r _ [15, 16, 17, 11] rfl (by decide +kernel)) (goodIn_app (goodIn_r _ [18, 19] rfl (by decide +kernel)) (fun w hw => ⟨(List.mem_cons_of_mem _ (List.mem_append_right _ hw)), good_of_word (List.all_eq_true.mp zgX0 w hw)⟩))
set_option maxRecDepth 100000 in
theorem zgX6_is_X0_isOf_89 : GoodIn zwX6_is (wsV RX6 89 RX0 yX0_isOf zwX0_isOf) := goodIn_app (goodIn_r _ [20, 21, 22, 11] rfl (by decide +kernel)) (goodIn_app (goodIn_r _ [23, 24] rfl (by decide +kernel)) (fun w hw => ⟨(List.mem_cons_of_mem _ (List.mem_append_right _ hw)), good_of_word (List.all_eq_true.mp zgX0 w hw)⟩))
set_option maxRecDepth 100000 in
theorem zgX6_is_X1_failed_73 : GoodIn zwX6_is (va_wsS RX6 73 yX1_failed zwX1_failed) := goodIn_app (goodIn_r _ [25, 26, 27] rfl (by decide +kernel)) (goodIn_r _ [28] rfl (by decide +kernel))
set_option maxHeartbeats 4000000 in
set_option maxRecDepth 100000 in
theorem kX6_is (l : Launch) (dC : Nat → ClassId) (dI : Nat → Nat → Nat) (xh : Nat) (tb : Nat) (xb : Nat) (xu : Nat) (rh : Nat) (cI : ClassId) (cJ : ClassId) (cB : ClassId) (cQ : ClassId) (cV : ClassId) (tn : Nat) (bn : Nat) (un : Nat) (bf : Nat → Option Nat) (wf : Nat → Option Nat) (hI : yWI tn bn un) (ib : Int32) (nm : Int32) (ot : Int32) : Met l yX6_is zwX6_is ({ frames := 1, cells := 0, slots := 0, locals := 22 }) (zPX dC dI [.ref xh, .int ib, .int nm, .int ot] (yW xh tb xb xu rh cI cJ cB cQ cV (nI tn) (nI bn) (nI un) bf wf) [(cI, .int), (cJ, .long), (cB, .byte), (cQ, .object RX0), (cV, .object RX5)] cI cJ cB bn bf un wf) (vp_Si (fun r => (True))) 0 0 (fun _ => False) := by
  refine Met.ofW (cc := cX6_is) (maxL := 7) (ret := (some .int)) (by decide) rfl ?_
  intro p e s m args below meth c s₁ B hml hv
  obtain ⟨rfl, hP, hK, hE, hBs, hUs⟩ := hv
  have hx := B.exec
  have hb := B.bytes
  have hr := B.returns
  have hts := atoms_spec (ws := zwX6_is) B.pre
  have hown : s.vm.findClass RX6 = some m.cls := findClass_of_methodNamed B.named
  obtain ⟨htn, hbn, hun⟩ := hI
  have hl := lv_entry ([.ref xh, .int ib, .int nm, .int ot]) (n := 7) (Nat.le_of_ble_eq_true rfl)
  rw [lg_entry_eq]
  generalize (lg_sl ([.ref xh, .int ib, .int nm, .int ot]) ++ List.replicate (7 - (lg_sl ([.ref xh, .int ib, .int nm, .int ot])).length) Slot.unset).toArray = ls at hl ⊢
  have hl : lv_has ls 7 [(0, .ref xh), (1, .int ib), (2, .int nm), (3, .int ot)] := hl
  refine lv_aload_n hx hb dX6_is_0 rfl (lv_at hl 0 rfl) ?_
  refine lv_iload_n hx hb dX6_is_1 rfl (lv_at hl 1 rfl) ?_
  refine va_csq (W.runV (As := [.int ib]) (rest := []) ⟨hx, hb, hml, hown, hts⟩ (kX6_buildAt l dC dI xh tb xb xu rh cI cJ cB cQ cV tn bn un bf wf ⟨by omega, by omega, by omega⟩ ib) (cwV 1 hts zgX6_is_X6_buildAt_62 rfl rfl rfl (by decide +kernel) ⟨(show 0 + 1 ≤ 1 by omega), (show 8 + (2 + 11) + 0 ≤ 22 by omega)⟩) (zVq (ci := 5) (q0 := 0) (q := (RX6, TX6, 7)) hK hP hE rfl rfl rfl) rfl rfl hl.1 rfl (lv_room (Nat.le_of_ble_eq_true rfl)) dX6_is_2 ⟨(show 0 + 0 ≤ 0 by omega), (show 0 + 0 ≤ 0 by omega)⟩) (fun r1 hw => ?_)
  rcases hw with rfl | ⟨k2, hk2, rfl⟩
  · refine W.eq (g2 := F0 m 5 ls [.null]) rfl ?_
    refine lv_astoreN (lv' := [(4, .null), (0, .ref xh), (1, .int ib), (2, .int nm), (3, .int ot)]) hx hb dX6_is_5 hl (by decide) rfl (fun ls hl => ?_)
    refine lv_aloadN hx hb dX6_is_7 (lv_at hl 0 rfl) ?_
    refine lv_ifnonnullN hx hb dX6_is_9 ?_
    refine lv_bipush (v := (-2)) hx hb dX6_is_12 (by decide) ?_
    exact W.iret (v := (-2 : Int32)) hx hb hr (fun t ht hW => ⟨(-2 : Int32), rfl, trivial, ht⟩) (fun _ h => by cases h) dX6_is_14
  · obtain ⟨bh, wk2, hfk2, hck2, hPk2⟩ := hBs k2 hk2
    obtain ⟨br, cc, nA, mA, aA, fcA, fA, mcA, mmA, wA, tcA, g1A, g2A, nuA, erA, reA, liA, lcA, hIk2, rfl⟩ := hck2
    obtain ⟨hcc, hfcA, hmcA, herA, hliA, hlcA⟩ := hIk2
    rw [hfk2]
    refine W.eq (g2 := F0 m 5 ls [.ref bh]) rfl ?_
    have hP := hP.app hPk2
    refine lv_astore (lv' := [(4, .ref bh), (0, .ref xh), (1, .int ib), (2, .int nm), (3, .int ot)]) hx hb dX6_is_5 hl (by decide) rfl (fun ls hl => ?_)
    refine lv_aload hx hb dX6_is_7 (lv_at hl 0 rfl) ?_
    refine lv_ifnonnull (tgt := 15) hx hb dX6_is_9 (by decide) ?_
    refine lv_aload hx hb dX6_is_15 (lv_at hl 0 rfl) ?_
    refine lv_iload_n hx hb dX6_is_17 rfl (lv_at hl 3 rfl) ?_
    refine vp_callSi (W.runV (As := [.int nm]) (rest := []) ⟨hx, hb, hml, hown, hts⟩ (kX0_placeOf l dC dI bh br cI cJ cB cc nA mA aA fcA fA mcA mmA wA tcA g1A g2A nuA erA reA liA lcA ⟨by omega, hfcA, hmcA, herA, hliA, hlcA⟩ nm) (cwV 1 hts zgX6_is_X0_placeOf_66 rfl rfl rfl (by decide +kernel) ⟨(show 0 + 1 ≤ 1 by omega), (show 8 + (3 + 11) + 0 ≤ 22 by omega)⟩) (zVq (ci := 0) (q0 := 0) (q := (RX0, TX0, 17)) (hK.sub (tys' := [(cI, .int), (cJ, .long), (cB, .byte)]) [0, 1, 2] rfl) (hP.sub (ws' := (bW bh br cI cJ cB (nI cc) nA mA aA (fun j => nI (fcA j)) fA (fun j => nI (mcA j)) mmA wA tcA g1A g2A nuA (fun j => nI (erA j)) reA (fun j => nI (liA j)) (fun j => nI (lcA j)))) [3, 4, 5, 6, 7, 8, 9, 10, 11, 12, 13, 14, 15, 16, 17, 18, 19] rfl) hE rfl rfl rfl) rfl rfl hl.1 rfl (lv_room (Nat.le_of_ble_eq_true rfl)) dX6_is_18 ⟨(show 0 + 0 ≤ 0 by omega), (show 0 + 0 ≤ 0 by omega)⟩) (fun r3 hw => ?_)
    have hw : (zM r3 (fun k => k < cc)) := hw
    have w0r3 := hw
    refine lv_istore (lv' := [(5, .int r3), (4, .ref bh), (0, .ref xh), (1, .int ib), (2, .int nm), (3, .int ot)]) hx hb dX6_is_21 hl (by decide) rfl (fun ls hl => ?_)
    refine lv_aload hx hb dX6_is_23 (lv_at hl 1 rfl) ?_
    refine lv_iload_n hx hb dX6_is_25 rfl (lv_at hl 5 rfl) ?_
    refine vp_callSi (W.runV (As := [.int ot]) (rest := []) ⟨hx, hb, hml, hown, hts⟩ (kX0_placeOf l dC dI bh br cI cJ cB cc nA mA aA fcA fA mcA mmA wA tcA g1A g2A nuA erA reA liA lcA ⟨by omega, hfcA, hmcA, herA, hliA, hlcA⟩ ot) (cwV 1 hts zgX6_is_X0_placeOf_66 rfl rfl rfl (by decide +kernel) ⟨(show 0 + 1 ≤ 1 by omega), (show 8 + (3 + 11) + 0 ≤ 22 by omega)⟩) (zVq (ci := 0) (q0 := 0) (q := (RX0, TX0, 17)) (hK.sub (tys' := [(cI, .int), (cJ, .long), (cB, .byte)]) [0, 1, 2] rfl) (hP.sub (ws' := (bW bh br cI cJ cB (nI cc) nA mA aA (fun j => nI (fcA j)) fA (fun j => nI (mcA j)) mmA wA tcA g1A g2A nuA (fun j => nI (erA j)) reA (fun j => nI (liA j)) (fun j => nI (lcA j)))) [3, 4, 5, 6, 7, 8, 9, 10, 11, 12, 13, 14, 15, 16, 17, 18, 19] rfl) hE rfl rfl rfl) rfl rfl hl.1 rfl (lv_room (Nat.le_of_ble_eq_true rfl)) dX6_is_26 ⟨(show 0 + 0 ≤ 0 by omega), (show 0 + 0 ≤ 0 by omega)⟩) (fun r4 hw => ?_)
    have hw : (zM r4 (fun k => k < cc)) := hw
    have w0r4 := hw
    refine lv_istore (lv' := [(6, .int r4), (5, .int r3), (4, .ref bh), (0, .ref xh), (1, .int ib), (2, .int nm), (3, .int ot)]) hx hb dX6_is_29 hl (by decide) rfl (fun ls hl => ?_)
    refine lv_aload hx hb dX6_is_31 (lv_at hl 2 rfl) ?_
    refine lv_iload hx hb dX6_is_33 (lv_at hl 1 rfl) ?_
    refine vp_callSi (W.runV (As := [.int r3]) (rest := []) ⟨hx, hb, hml, hown, hts⟩ (kX0_errorAt l dC dI bh br cI cJ cB cc nA mA aA fcA fA mcA mmA wA tcA g1A g2A nuA erA reA liA lcA ⟨by omega, hfcA, hmcA, herA, hliA, hlcA⟩ r3 (zM.imp w0r3 (fun k hk hq => by first | exact hq | trivial | omega))) (cwV 1 hts zgX6_is_X0_errorAt_70 rfl rfl rfl (by decide +kernel) ⟨(show 0 + 1 ≤ 1 by omega), (show 8 + (2 + 11) + 0 ≤ 22 by omega)⟩) (zVq (ci := 0) (q0 := 0) (q := (RX0, TX0, 17)) (hK.sub (tys' := [(cI, .int), (cJ, .long), (cB, .byte)]) [0, 1, 2] rfl) (hP.sub (ws' := (bW bh br cI cJ cB (nI cc) nA mA aA (fun j => nI (fcA j)) fA (fun j => nI (mcA j)) mmA wA tcA g1A g2A nuA (fun j => nI (erA j)) reA (fun j => nI (liA j)) (fun j => nI (lcA j)))) [3, 4, 5, 6, 7, 8, 9, 10, 11, 12, 13, 14, 15, 16, 17, 18, 19] rfl) hE rfl rfl rfl) rfl rfl hl.1 rfl (lv_room (Nat.le_of_ble_eq_true rfl)) dX6_is_35 ⟨(show 0 + 0 ≤ 0 by omega), (show 0 + 0 ≤ 0 by omega)⟩) (fun r5 hw => ?_)
    have hw : (zN r5 (fun k => k ≤ 5 ∧ (k = 0 → zIn16 r3))) := hw
    have w0r5 := hw
    obtain ⟨k6, hBk6, hQk6, rfl⟩ := w0r5
    refine lv_if_eq (tgt := 52) hx hb dX6_is_38 (by decide) (fun cp38 => ?_) (fun cp38 => ?_)
    · have qcp38 : k6 = 0 := (nI_eq (a := k6) (b := 0) (by omega) (by omega)).mp cp38
      obtain ⟨j7, hjj7, rfl⟩ := hQk6.2 qcp38
      refine lv_aload hx hb dX6_is_52 (lv_at hl 2 rfl) ?_
      refine lv_iload hx hb dX6_is_54 (lv_at hl 0 rfl) ?_
      refine vp_callSi (W.runV (As := [.int r4]) (rest := []) ⟨hx, hb, hml, hown, hts⟩ (kX0_errorAt l dC dI bh br cI cJ cB cc nA mA aA fcA fA mcA mmA wA tcA g1A g2A nuA erA reA liA lcA ⟨by omega, hfcA, hmcA, herA, hliA, hlcA⟩ r4 (zM.imp w0r4 (fun k hk hq => by first | exact hq | trivial | omega))) (cwV 1 hts zgX6_is_X0_errorAt_70 rfl rfl rfl (by decide +kernel) ⟨(show 0 + 1 ≤ 1 by omega), (show 8 + (2 + 11) + 0 ≤ 22 by omega)⟩) (zVq (ci := 0) (q0 := 0) (q := (RX0, TX0, 17)) (hK.sub (tys' := [(cI, .int), (cJ, .long), (cB, .byte)]) [0, 1, 2] rfl) (hP.sub (ws' := (bW bh br cI cJ cB (nI cc) nA mA aA (fun j => nI (fcA j)) fA (fun j => nI (mcA j)) mmA wA tcA g1A g2A nuA (fun j => nI (erA j)) reA (fun j => nI (liA j)) (fun j => nI (lcA j)))) [3, 4, 5, 6, 7, 8, 9, 10, 11, 12, 13, 14, 15, 16, 17, 18, 19] rfl) hE rfl rfl rfl) rfl rfl hl.1 rfl (lv_room (Nat.le_of_ble_eq_true rfl)) dX6_is_56 ⟨(show 0 + 0 ≤ 0 by omega), (show 0 + 0 ≤ 0 by omega)⟩) (fun r8 hw => ?_)
      have hw : (zN r8 (fun k => k ≤ 5 ∧ (k = 0 → zIn16 r4))) := hw
      have w0r8 := hw
      obtain ⟨k9, hBk9, hQk9, rfl⟩ := w0r8
      refine lv_if_eq (tgt := 73) hx hb dX6_is_59 (by decide) (fun cp59 => ?_) (fun cp59 => ?_)
      · have qcp59 : k9 = 0 := (nI_eq (a := k9) (b := 0) (by omega) (by omega)).mp cp59
        obtain ⟨j10, hjj10, rfl⟩ := hQk9.2 qcp59
        refine lv_aload hx hb dX6_is_73 (lv_at hl 2 rfl) ?_
        refine lv_iload hx hb dX6_is_75 (lv_at hl 1 rfl) ?_
        refine lv_iload hx hb dX6_is_77 (lv_at hl 0 rfl) ?_
        refine vp_callSi (W.runV (As := [.int (nI j7), .int (nI j10)]) (rest := []) ⟨hx, hb, hml, hown, hts⟩ (kX0_isOf l dC dI bh br cI cJ cB cc nA mA aA fcA fA mcA mmA wA tcA g1A g2A nuA erA reA liA lcA ⟨by omega, hfcA, hmcA, herA, hliA, hlcA⟩ j7 (nI j10) (by first | omega | assumption | trivial)) (cwV 2 hts zgX6_is_X0_isOf_89 rfl rfl rfl (by decide +kernel) ⟨(show 0 + 1 ≤ 1 by omega), (show 8 + (3 + 11) + 0 ≤ 22 by omega)⟩) (zVq (ci := 0) (q0 := 0) (q := (RX0, TX0, 17)) (hK.sub (tys' := [(cI, .int), (cJ, .long), (cB, .byte)]) [0, 1, 2] rfl) (hP.sub (ws' := (bW bh br cI cJ cB (nI cc) nA mA aA (fun j => nI (fcA j)) fA (fun j => nI (mcA j)) mmA wA tcA g1A g2A nuA (fun j => nI (erA j)) reA (fun j => nI (liA j)) (fun j => nI (lcA j)))) [3, 4, 5, 6, 7, 8, 9, 10, 11, 12, 13, 14, 15, 16, 17, 18, 19] rfl) hE rfl rfl rfl) rfl rfl hl.1 rfl (lv_room (Nat.le_of_ble_eq_true rfl)) dX6_is_79 ⟨(show 0 + 0 ≤ 0 by omega), (show 0 + 0 ≤ 0 by omega)⟩) (fun r11 hw => ?_)
        have hw : (r11 = 0 ∨ r11 = 1) := hw
        have w0r11 := hw
        refine lv_if_eq (tgt := 89) hx hb dX6_is_82 (by decide) (fun cp82 => ?_) (fun cp82 => ?_)
        · refine lv_iconst (v := 0) hx hb dX6_is_89 (by decide) ?_
          exact W.iret (v := (0 : Int32)) hx hb hr (fun t ht hW => ⟨(0 : Int32), rfl, trivial, ht⟩) (fun _ h => by cases h) dX6_is_90
        · refine lv_iconst (v := 1) hx hb dX6_is_85 (by decide) ?_
          refine lv_goto (tgt := 90) hx hb dX6_is_86 (by decide) ?_
          exact W.iret (v := (1 : Int32)) hx hb hr (fun t ht hW => ⟨(1 : Int32), rfl, trivial, ht⟩) (fun _ h => by cases h) dX6_is_90
      · have qcp59 : ¬ k9 = 0 := fun h9 => cp59 ((nI_eq (a := k9) (b := 0) (by omega) (by omega)).mpr h9)
        refine lv_aload hx hb dX6_is_62 (lv_at hl 2 rfl) ?_
        refine lv_iload hx hb dX6_is_64 (lv_at hl 0 rfl) ?_
        refine vp_callSi (W.runV (As := [.int r4]) (rest := []) ⟨hx, hb, hml, hown, hts⟩ (kX0_errorAt l dC dI bh br cI cJ cB cc nA mA aA fcA fA mcA mmA wA tcA g1A g2A nuA erA reA liA lcA ⟨by omega, hfcA, hmcA, herA, hliA, hlcA⟩ r4 (zM.imp w0r4 (fun k hk hq => by first | exact hq | trivial | omega))) (cwV 1 hts zgX6_is_X0_errorAt_70 rfl rfl rfl (by decide +kernel) ⟨(show 0 + 1 ≤ 1 by omega), (show 8 + (2 + 11) + 0 ≤ 22 by omega)⟩) (zVq (ci := 0) (q0 := 0) (q := (RX0, TX0, 17)) (hK.sub (tys' := [(cI, .int), (cJ, .long), (cB, .byte)]) [0, 1, 2] rfl) (hP.sub (ws' := (bW bh br cI cJ cB (nI cc) nA mA aA (fun j => nI (fcA j)) fA (fun j => nI (mcA j)) mmA wA tcA g1A g2A nuA (fun j => nI (erA j)) reA (fun j => nI (liA j)) (fun j => nI (lcA j)))) [3, 4, 5, 6, 7, 8, 9, 10, 11, 12, 13, 14, 15, 16, 17, 18, 19] rfl) hE rfl rfl rfl) rfl rfl hl.1 rfl (lv_room (Nat.le_of_ble_eq_true rfl)) dX6_is_66 ⟨(show 0 + 0 ≤ 0 by omega), (show 0 + 0 ≤ 0 by omega)⟩) (fun r12 hw => ?_)
        have hw : (zN r12 (fun k => k ≤ 5 ∧ (k = 0 → zIn16 r4))) := hw
        have w0r12 := hw
        obtain ⟨k13, hBk13, hQk13, rfl⟩ := w0r12
        refine vp_callSi (W.runS (As := [.int (nI k13)]) (rest := []) ⟨hx, hb, hml, hown, hts⟩ (kX1_failed l dC dI   k13 (by first | omega | assumption | trivial)) (va_cwS 1 hts zgX6_is_X1_failed_73 rfl rfl rfl (by decide +kernel) ⟨(show 0 + 1 ≤ 1 by omega), (show 8 + (1 + 11) + 0 ≤ 22 by omega)⟩) (zSq (hK.sub (tys' := []) [] rfl) (hP.sub (ws' := ([] : va_W)) [] rfl) hE) rfl rfl hl.1 rfl (lv_room (Nat.le_of_ble_eq_true rfl)) dX6_is_69 ⟨(show 0 + 0 ≤ 0 by omega), (show 0 + 0 ≤ 0 by omega)⟩) (fun r14 hw => ?_)
        have hw : (r14 < 0) := hw
        have w0r14 := hw
        exact W.iret (v := r14) hx hb hr (fun t ht hW => ⟨r14, rfl, trivial, ht⟩) (fun _ h => by cases h) dX6_is_72
    · have qcp38 : ¬ k6 = 0 := fun h9 => cp38 ((nI_eq (a := k6) (b := 0) (by omega) (by omega)).mpr h9)
      refine lv_aload hx hb dX6_is_41 (lv_at hl 2 rfl) ?_
      refine lv_iload hx hb dX6_is_43 (lv_at hl 1 rfl) ?_
      refine vp_callSi (W.runV (As := [.int r3]) (rest := []) ⟨hx, hb, hml, hown, hts⟩ (kX0_errorAt l dC dI bh br cI cJ cB cc nA mA aA fcA fA mcA mmA wA tcA g1A g2A nuA erA reA liA lcA ⟨by omega, hfcA, hmcA, herA, hliA, hlcA⟩ r3 (zM.imp w0r3 (fun k hk hq => by first | exact hq | trivial | omega))) (cwV 1 hts zgX6_is_X0_errorAt_70 rfl rfl rfl (by decide +kernel) ⟨(show 0 + 1 ≤ 1 by omega), (show 8 + (2 + 11) + 0 ≤ 22 by omega)⟩) (zVq (ci := 0) (q0 := 0) (q := (RX0, TX0, 17)) (hK.sub (tys' := [(cI, .int), (cJ, .long), (cB, .byte)]) [0, 1, 2] rfl) (hP.sub (ws' := (bW bh br cI cJ cB (nI cc) nA mA aA (fun j => nI (fcA j)) fA (fun j => nI (mcA j)) mmA wA tcA g1A g2A nuA (fun j => nI (erA j)) reA (fun j => nI (liA j)) (fun j => nI (lcA j)))) [3, 4, 5, 6, 7, 8, 9, 10, 11, 12, 13, 14, 15, 16, 17, 18, 19] rfl) hE rfl rfl rfl) rfl rfl hl.1 rfl (lv_room (Nat.le_of_ble_eq_true rfl)) dX6_is_45 ⟨(show 0 + 0 ≤ 0 by omega), (show 0 + 0 ≤ 0 by omega)⟩) (fun r15 hw => ?_)
      have hw : (zN r15 (fun k => k ≤ 5 ∧ (k = 0 → zIn16 r3))) := hw
      have w0r15 := hw
      obtain ⟨k16, hBk16, hQk16, rfl⟩ := w0r15
      refine vp_callSi (W.runS (As := [.int (nI k16)]) (rest := []) ⟨hx, hb, hml, hown, hts⟩ (kX1_failed l dC dI   k16 (by first | omega | assumption | trivial)) (va_cwS 1 hts zgX6_is_X1_failed_73 rfl rfl rfl (by decide +kernel) ⟨(show 0 + 1 ≤ 1 by omega), (show 8 + (1 + 11) + 0 ≤ 22 by omega)⟩) (zSq (hK.sub (tys' := []) [] rfl) (hP.sub (ws' := ([] : va_W)) [] rfl) hE) rfl rfl hl.1 rfl (lv_room (Nat.le_of_ble_eq_true rfl)) dX6_is_48 ⟨(show 0 + 0 ≤ 0 by omega), (show 0 + 0 ≤ 0 by omega)⟩) (fun r17 hw => ?_)
      have hw : (r17 < 0) := hw
      have w0r17 := hw
      exact W.iret (v := r17) hx hb hr (fun t ht hW => ⟨r17, rfl, trivial, ht⟩) (fun _ h => by cases h) dX6_is_51
theorem dX6_copied_0 : decode cX6_copied 0 = .ok (.aload_n 0, 1) := by decide +kernel
theorem dX6_copied_1 : decode cX6_copied 1 = .ok (.iload_n 1, 1) := by decide +kernel
theorem dX6_copied_2 : decode cX6_copied 2 = .ok (.invokevirtual 123, 3) := by decide +kernel
theorem dX6_copied_5 : decode cX6_copied 5 = .ok (.astore_n 2, 1) := by decide +kernel
theorem dX6_copied_6 : decode cX6_copied 6 = .ok (.aload_n 2, 1) := by decide +kernel
theorem dX6_copied_7 : decode cX6_copied 7 = .ok (.ifnonnull 8, 3) := by decide +kernel
theorem dX6_copied_10 : decode cX6_copied 10 = .ok (.bipush (-2), 2) := by decide +kernel
theorem dX6_copied_12 : decode cX6_copied 12 = .ok (.goto 7, 3) := by decide +kernel
theorem dX6_copied_15 : decode cX6_copied 15 = .ok (.aload_n 2, 1) := by decide +kernel
theorem dX6_copied_16 : decode cX6_copied 16 = .ok (.getfield 137, 3) := by decide +kernel
theorem dX6_copied_19 : decode cX6_copied 19 = .ok (.ireturn, 1) := by decide +kernel
def zwX6_copied : List Cond := .code yX6_copied cX6_copied 3 (some .int) :: ([.fieldLink RX6 137 "LinkModels$Use" "copy" "I", .methodLink RX6 123 yX6_useAt, .instanceMethod yX6_useAt, .selects RX6 yX6_useAt yX6_useAt, .initialized RX6, .code yX6_useAt cX6_useAt 2 (some (.object "LinkModels$Use")), .fieldLink RX6 32 "LinkModels" "useCount" "I", .fieldLink RX6 28 "LinkModels" "uses" "[LLinkModels$Use;"] ++ wsX50 ++ wsX60)
set_option maxRecDepth 100000 in
theorem zgX6_copied_X6_useAt_123 : GoodIn zwX6_copied (wsV RX6 123 RX6 yX6_useAt zwX6_useAt) := goodIn_app (goodIn_r _ [2, 3, 4, 5] rfl (by decide +kernel)) (goodIn_app (goodIn_r _ [6, 7, 8] rfl (by decide +kernel)) (fun w hw => ⟨(List.mem_cons_of_mem _ (List.mem_append_right _ hw)), good_of_word (List.all_eq_true.mp zgX6 w hw)⟩))
set_option maxHeartbeats 4000000 in
set_option maxRecDepth 100000 in
theorem kX6_copied (l : Launch) (dC : Nat → ClassId) (dI : Nat → Nat → Nat) (xh : Nat) (tb : Nat) (xb : Nat) (xu : Nat) (rh : Nat) (cI : ClassId) (cJ : ClassId) (cB : ClassId) (cQ : ClassId) (cV : ClassId) (tn : Nat) (bn : Nat) (un : Nat) (bf : Nat → Option Nat) (wf : Nat → Option Nat) (hI : yWI tn bn un) (iu : Int32) : Met l yX6_copied zwX6_copied ({ frames := 1, cells := 0, slots := 0, locals := 21 }) (zPX dC dI [.ref xh, .int iu] (yW xh tb xb xu rh cI cJ cB cQ cV (nI tn) (nI bn) (nI un) bf wf) [(cI, .int), (cJ, .long), (cB, .byte), (cQ, .object RX0), (cV, .object RX5)] cI cJ cB bn bf un wf) (vp_Si (fun r => (True))) 0 0 (fun _ => False) := by
  refine Met.ofW (cc := cX6_copied) (maxL := 3) (ret := (some .int)) (by decide) rfl ?_
  intro p e s m args below meth c s₁ B hml hv
  obtain ⟨rfl, hP, hK, hE, hBs, hUs⟩ := hv
  have hx := B.exec
  have hb := B.bytes
  have hr := B.returns
  have hts := atoms_spec (ws := zwX6_copied) B.pre
  have hown : s.vm.findClass RX6 = some m.cls := findClass_of_methodNamed B.named
  have hiX5 : ∀ w ∈ wsX50, w ∈ zwX6_copied := (fun w hw => (List.mem_cons_of_mem _ (List.mem_append_left _ (List.mem_append_right _ hw))))
  obtain ⟨htn, hbn, hun⟩ := hI
  have hl := lv_entry ([.ref xh, .int iu]) (n := 3) (Nat.le_of_ble_eq_true rfl)
  rw [lg_entry_eq]
  generalize (lg_sl ([.ref xh, .int iu]) ++ List.replicate (3 - (lg_sl ([.ref xh, .int iu])).length) Slot.unset).toArray = ls at hl ⊢
  have hl : lv_has ls 3 [(0, .ref xh), (1, .int iu)] := hl
  refine lv_aload_n hx hb dX6_copied_0 rfl (lv_at hl 0 rfl) ?_
  refine lv_iload_n hx hb dX6_copied_1 rfl (lv_at hl 1 rfl) ?_
  refine va_csq (W.runV (As := [.int iu]) (rest := []) ⟨hx, hb, hml, hown, hts⟩ (kX6_useAt l dC dI xh tb xb xu rh cI cJ cB cQ cV tn bn un bf wf ⟨by omega, by omega, by omega⟩ iu) (cwV 1 hts zgX6_copied_X6_useAt_123 rfl rfl rfl (by decide +kernel) ⟨(show 0 + 1 ≤ 1 by omega), (show 8 + (2 + 11) + 0 ≤ 21 by omega)⟩) (zVq (ci := 5) (q0 := 0) (q := (RX6, TX6, 7)) hK hP hE rfl rfl rfl) rfl rfl hl.1 rfl (lv_room (Nat.le_of_ble_eq_true rfl)) dX6_copied_2 ⟨(show 0 + 0 ≤ 0 by omega), (show 0 + 0 ≤ 0 by omega)⟩) (fun r1 hw => ?_)
  rcases hw with rfl | ⟨k2, hk2, rfl⟩
  · refine W.eq (g2 := F0 m 5 ls [.null]) rfl ?_
    refine lv_astore_nN (lv' := [(2, .null), (0, .ref xh), (1, .int iu)]) hx hb dX6_copied_5 rfl hl (by decide) rfl (fun ls hl => ?_)
    refine lv_aload_nN hx hb dX6_copied_6 rfl (lv_at hl 0 rfl) ?_
    refine lv_ifnonnullN hx hb dX6_copied_7 ?_
    refine lv_bipush (v := (-2)) hx hb dX6_copied_10 (by decide) ?_
    refine lv_goto (tgt := 19) hx hb dX6_copied_12 (by decide) ?_
    exact W.iret (v := (-2 : Int32)) hx hb hr (fun t ht hW => ⟨(-2 : Int32), rfl, trivial, ht⟩) (fun _ h => by cases h) dX6_copied_19
  · obtain ⟨uh, wk2, hfk2, hck2, hPk2⟩ := hUs k2 hk2
    obtain ⟨ug, uk, uc, uo, uy, uw, ut, uf, uq, rfl⟩ := hck2
    rw [hfk2]
    refine W.eq (g2 := F0 m 5 ls [.ref uh]) rfl ?_
    have hP := hP.app hPk2
    refine lv_astore_n (lv' := [(2, .ref uh), (0, .ref xh), (1, .int iu)]) hx hb dX6_copied_5 rfl hl (by decide) rfl (fun ls hl => ?_)
    refine lv_aload_n hx hb dX6_copied_6 rfl (lv_at hl 0 rfl) ?_
    refine lv_ifnonnull (tgt := 15) hx hb dX6_copied_7 (by decide) ?_
    refine lv_aload_n hx hb dX6_copied_15 rfl (lv_at hl 0 rfl) ?_
    refine va_get (D := (dC, dI)) (ci := 4) (v := .int uy) (C := RX5) (T := TX5) (N := 5) hx hb hts hiX5 hown hK hP 3 rfl rfl 4 (by decide) (hts (.fieldLink RX6 137 "LinkModels$Use" "copy" "I") (by decide +kernel)) (fun _ h9 => h9) rfl dX6_copied_16 ?_
    exact W.iret (v := uy) hx hb hr (fun t ht hW => ⟨uy, rfl, trivial, ht⟩) (fun _ h => by cases h) dX6_copied_19
theorem dX6_told_0 : decode cX6_told 0 = .ok (.iload_n 1, 1) := by decide +kernel
theorem dX6_told_1 : decode cX6_told 1 = .ok (.tableswitch 42 0 2 #[27, 32, 37], 27) := by decide +kernel
theorem dX6_told_28 : decode cX6_told 28 = .ok (.aload_n 0, 1) := by decide +kernel
theorem dX6_told_29 : decode cX6_told 29 = .ok (.getfield 13, 3) := by decide +kernel
theorem dX6_told_32 : decode cX6_told 32 = .ok (.ireturn, 1) := by decide +kernel
theorem dX6_told_33 : decode cX6_told 33 = .ok (.aload_n 0, 1) := by decide +kernel
theorem dX6_told_34 : decode cX6_told 34 = .ok (.getfield 23, 3) := by decide +kernel
theorem dX6_told_37 : decode cX6_told 37 = .ok (.ireturn, 1) := by decide +kernel
theorem dX6_told_38 : decode cX6_told 38 = .ok (.aload_n 0, 1) := by decide +kernel
theorem dX6_told_39 : decode cX6_told 39 = .ok (.getfield 32, 3) := by decide +kernel
theorem dX6_told_42 : decode cX6_told 42 = .ok (.ireturn, 1) := by decide +kernel
theorem dX6_told_43 : decode cX6_told 43 = .ok (.bipush (-3), 2) := by decide +kernel
theorem dX6_told_45 : decode cX6_told 45 = .ok (.ireturn, 1) := by decide +kernel
def zwX6_told : List Cond := .code yX6_told cX6_told 2 (some .int) :: ([.fieldLink RX6 13 "LinkModels" "tapeLength" "I", .fieldLink RX6 23 "LinkModels" "buildCount" "I", .fieldLink RX6 32 "LinkModels" "useCount" "I"] ++ wsX60)
set_option maxHeartbeats 4000000 in
set_option maxRecDepth 100000 in
theorem kX6_told (l : Launch) (dC : Nat → ClassId) (dI : Nat → Nat → Nat) (xh : Nat) (tb : Nat) (xb : Nat) (xu : Nat) (rh : Nat) (cI : ClassId) (cJ : ClassId) (cB : ClassId) (cQ : ClassId) (cV : ClassId) (tn : Nat) (bn : Nat) (un : Nat) (bf : Nat → Option Nat) (wf : Nat → Option Nat) (hI : yWI tn bn un) (wh : Int32) : Met l yX6_told zwX6_told ({ frames := 0, cells := 0, slots := 0, locals := 0 }) (zPX dC dI [.ref xh, .int wh] (yW xh tb xb xu rh cI cJ cB cQ cV (nI tn) (nI bn) (nI un) bf wf) [(cI, .int), (cJ, .long), (cB, .byte), (cQ, .object RX0), (cV, .object RX5)] cI cJ cB bn bf un wf) (vp_Si (fun r => (True))) 0 0 (fun _ => False) := by
  refine Met.ofW (cc := cX6_told) (maxL := 2) (ret := (some .int)) (by decide) rfl ?_
  intro p e s m args below meth c s₁ B hml hv
  obtain ⟨rfl, hP, hK, hE, hBs, hUs⟩ := hv
  have hx := B.exec
  have hb := B.bytes
  have hr := B.returns
  have hts := atoms_spec (ws := zwX6_told) B.pre
  have hown : s.vm.findClass RX6 = some m.cls := findClass_of_methodNamed B.named
  have hiX6 : ∀ w ∈ wsX60, w ∈ zwX6_told := (fun w hw => (List.mem_cons_of_mem _ (List.mem_append_right _ hw)))
  obtain ⟨htn, hbn, hun⟩ := hI
  have hl := lv_entry ([.ref xh, .int wh]) (n := 2) (Nat.le_of_ble_eq_true rfl)
  rw [lg_entry_eq]
  generalize (lg_sl ([.ref xh, .int wh]) ++ List.replicate (2 - (lg_sl ([.ref xh, .int wh])).length) Slot.unset).toArray = ls at hl ⊢
  have hl : lv_has ls 2 [(0, .ref xh), (1, .int wh)] := hl
  refine lv_iload_n hx hb dX6_told_0 rfl (lv_at hl 1 rfl) ?_
  by_cases cs1_0 : wh = 0
  · refine lv_tableIn (off := 27) (tgt := 28) hx hb dX6_told_1 (by rw [cs1_0]; decide) (by rw [cs1_0]; decide) (by rw [cs1_0]; decide) (by decide) ?_
    refine lv_aload_n hx hb dX6_told_28 rfl (lv_at hl 0 rfl) ?_
    refine va_get (D := (dC, dI)) (ci := 5) (v := .int (nI tn)) (C := RX6) (T := TX6) (N := 7) hx hb hts hiX6 hown hK hP 0 rfl rfl 1 (by decide) (hts (.fieldLink RX6 13 "LinkModels" "tapeLength" "I") (by decide +kernel)) (fun _ h9 => h9) rfl dX6_told_29 ?_
    exact W.iret (v := (nI tn)) hx hb hr (fun t ht hW => ⟨(nI tn), rfl, trivial, ht⟩) (fun _ h => by cases h) dX6_told_32
  · by_cases cs1_1 : wh = 1
    · refine lv_tableIn (off := 32) (tgt := 33) hx hb dX6_told_1 (by rw [cs1_1]; decide) (by rw [cs1_1]; decide) (by rw [cs1_1]; decide) (by decide) ?_
      refine lv_aload_n hx hb dX6_told_33 rfl (lv_at hl 0 rfl) ?_
      refine va_get (D := (dC, dI)) (ci := 5) (v := .int (nI bn)) (C := RX6) (T := TX6) (N := 7) hx hb hts hiX6 hown hK hP 0 rfl rfl 3 (by decide) (hts (.fieldLink RX6 23 "LinkModels" "buildCount" "I") (by decide +kernel)) (fun _ h9 => h9) rfl dX6_told_34 ?_
      exact W.iret (v := (nI bn)) hx hb hr (fun t ht hW => ⟨(nI bn), rfl, trivial, ht⟩) (fun _ h => by cases h) dX6_told_37
    · by_cases cs1_2 : wh = 2
      · refine lv_tableIn (off := 37) (tgt := 38) hx hb dX6_told_1 (by rw [cs1_2]; decide) (by rw [cs1_2]; decide) (by rw [cs1_2]; decide) (by decide) ?_
        refine lv_aload_n hx hb dX6_told_38 rfl (lv_at hl 0 rfl) ?_
        refine va_get (D := (dC, dI)) (ci := 5) (v := .int (nI un)) (C := RX6) (T := TX6) (N := 7) hx hb hts hiX6 hown hK hP 0 rfl rfl 5 (by decide) (hts (.fieldLink RX6 32 "LinkModels" "useCount" "I") (by decide +kernel)) (fun _ h9 => h9) rfl dX6_told_39 ?_
        exact W.iret (v := (nI un)) hx hb hr (fun t ht hW => ⟨(nI un), rfl, trivial, ht⟩) (fun _ h => by cases h) dX6_told_42
      · refine lv_tableOut (tgt := 43) hx hb dX6_told_1 (by have a1_0 := lv_neT (a := 0) cs1_0 (by decide); have a1_1 := lv_neT (a := 1) cs1_1 (by decide); have a1_2 := lv_neT (a := 2) cs1_2 (by decide); omega) (by decide) ?_
        refine lv_bipush (v := (-3)) hx hb dX6_told_43 (by decide) ?_
        exact W.iret (v := (-3 : Int32)) hx hb hr (fun t ht hW => ⟨(-3 : Int32), rfl, trivial, ht⟩) (fun _ h => by cases h) dX6_told_45
theorem dX6_linkedSpot_0 : decode cX6_linkedSpot 0 = .ok (.aload_n 0, 1) := by decide +kernel
theorem dX6_linkedSpot_1 : decode cX6_linkedSpot 1 = .ok (.iload_n 1, 1) := by decide +kernel
theorem dX6_linkedSpot_2 : decode cX6_linkedSpot 2 = .ok (.invokevirtual 62, 3) := by decide +kernel
theorem dX6_linkedSpot_5 : decode cX6_linkedSpot 5 = .ok (.astore_n 3, 1) := by decide +kernel
theorem dX6_linkedSpot_6 : decode cX6_linkedSpot 6 = .ok (.aload_n 0, 1) := by decide +kernel
theorem dX6_linkedSpot_7 : decode cX6_linkedSpot 7 = .ok (.iload_n 2, 1) := by decide +kernel
theorem dX6_linkedSpot_8 : decode cX6_linkedSpot 8 = .ok (.invokevirtual 123, 3) := by decide +kernel
theorem dX6_linkedSpot_11 : decode cX6_linkedSpot 11 = .ok (.astore 4, 2) := by decide +kernel
theorem dX6_linkedSpot_13 : decode cX6_linkedSpot 13 = .ok (.aload_n 3, 1) := by decide +kernel
theorem dX6_linkedSpot_14 : decode cX6_linkedSpot 14 = .ok (.ifnull 8, 3) := by decide +kernel
theorem dX6_linkedSpot_17 : decode cX6_linkedSpot 17 = .ok (.aload 4, 2) := by decide +kernel
theorem dX6_linkedSpot_19 : decode cX6_linkedSpot 19 = .ok (.ifnonnull 6, 3) := by decide +kernel
theorem dX6_linkedSpot_22 : decode cX6_linkedSpot 22 = .ok (.bipush (-2), 2) := by decide +kernel
theorem dX6_linkedSpot_24 : decode cX6_linkedSpot 24 = .ok (.ireturn, 1) := by decide +kernel
theorem dX6_linkedSpot_25 : decode cX6_linkedSpot 25 = .ok (.aload_n 3, 1) := by decide +kernel
theorem dX6_linkedSpot_26 : decode cX6_linkedSpot 26 = .ok (.aload 4, 2) := by decide +kernel
theorem dX6_linkedSpot_28 : decode cX6_linkedSpot 28 = .ok (.invokestatic 130, 3) := by decide +kernel
theorem dX6_linkedSpot_31 : decode cX6_linkedSpot 31 = .ok (.ireturn, 1) := by decide +kernel
def zwX6_linkedSpot : List Cond := .code yX6_linkedSpot cX6_linkedSpot 5 (some .int) :: ([.methodLink RX6 62 yX6_buildAt, .instanceMethod yX6_buildAt, .selects RX6 yX6_buildAt yX6_buildAt, .initialized RX6, .code yX6_buildAt cX6_buildAt 2 (some (.object "LinkModels$Build")), .fieldLink RX6 23 "LinkModels" "buildCount" "I", .fieldLink RX6 19 "LinkModels" "builds" "[LLinkModels$Build;", .methodLink RX6 123 yX6_useAt, .instanceMethod yX6_useAt, .selects RX6 yX6_useAt yX6_useAt, .code yX6_useAt cX6_useAt 2 (some (.object "LinkModels$Use")), .fieldLink RX6 32 "LinkModels" "useCount" "I", .fieldLink RX6 28 "LinkModels" "uses" "[LLinkModels$Use;", .methodLink RX6 130 yX1_linked, .static yX1_linked, .initialized RX1, .code yX1_linked cX1_linked 4 (some .int), .fieldLink RX1 9 "LinkModels$Use" "caller" "I", .fieldLink RX1 21 "LinkModels$Use" "owner" "I", .fieldLink RX1 32 "LinkModels$Use" "kind" "I", .methodLink RX1 15 yX0_placeOf, .instanceMethod yX0_placeOf, .selects RX0 yX0_placeOf yX0_placeOf, .initialized RX0, .code yX0_placeOf cX0_placeOf 3 (some .int), .fieldLink RX0 61 "LinkModels$Build" "classCount" "I", .fieldLink RX0 11 "LinkModels$Build" "names" "[I", .methodLink RX1 24 yX0_errorAt, .instanceMethod yX0_errorAt, .selects RX0 yX0_errorAt yX0_errorAt, .code yX0_errorAt cX0_errorAt 2 (some .int), .fieldLink RX0 49 "LinkModels$Build" "errors" "[I", .methodLink RX1 39 yX5_asksField, .instanceMethod yX5_asksField, .selects RX5 yX5_asksField yX5_asksField, .initialized RX5, .code yX5_asksField cX5_asksField 1 (some .boolean), .fieldLink RX5 9 "LinkModels$Use" "kind" "I", .methodLink RX1 47 yX1_linkedMethod, .static yX1_linkedMethod, .code yX1_linkedMethod cX1_linkedMethod 5 (some .int), .static yX6_classOf, .fieldLink RX1 50 "LinkModels$Use" "wanted" "LLinkModels$Signature;", .methodLink RX1 67 yX0_has, .instanceMethod yX0_has, .selects RX0 yX0_has yX0_has, .code yX0_has cX0_has 3 (some .boolean), .fieldLink RX0 30 "LinkModels$Build" "memberMarks" "[I", .methodLink RX1 71 yX5_asksStatic, .instanceMethod yX5_asksStatic, .selects RX5 yX5_asksStatic yX5_asksStatic, .code yX5_asksStatic cX5_asksStatic 1 (some .boolean), .methodLink RX1 27 yX1_failed, .static yX1_failed, .code yX1_failed cX1_failed 1 (some .int), .code yX6_classOf cX6_classOf 1 (some .int), .methodLink RX1 80 yX0_methodFrom, .instanceMethod yX0_methodFrom, .selects RX0 yX0_methodFrom yX0_methodFrom, .code yX0_methodFrom cX0_methodFrom 7 (some .int), .fieldLink RX0 58 "LinkModels$Build" "lineCounts" "[I", .fieldLink RX0 55 "LinkModels$Build" "lines" "[I", .methodLink RX0 82 yX0_has, .methodLink RX0 94 yX0_methodIn, .instanceMethod yX0_methodIn, .selects RX0 yX0_methodIn yX0_methodIn, .code yX0_methodIn cX0_methodIn 5 (some .int), .fieldLink RX0 37 "LinkModels$Build" "typeCounts" "[I", .fieldLink RX0 71 "LinkModels$Signature" "typeCount" "I", .fieldLink RX0 40 "LinkModels$Build" "firsts" "[I", .fieldLink RX0 74 "LinkModels$Signature" "first" "I", .fieldLink RX0 43 "LinkModels$Build" "seconds" "[I", .fieldLink RX0 77 "LinkModels$Signature" "second" "I", .fieldLink RX0 27 "LinkModels$Build" "memberCounts" "[I", .fieldLink RX0 33 "LinkModels$Build" "words" "[J", .fieldLink RX0 65 "LinkModels$Signature" "word" "J", .methodLink RX0 90 yX0_isFace, .instanceMethod yX0_isFace, .selects RX0 yX0_isFace yX0_isFace, .code yX0_isFace cX0_isFace 2 (some .boolean), .fieldLink RX0 15 "LinkModels$Build" "classMarks" "[I", .methodLink RX1 84 yX1_foundInFaces, .static yX1_foundInFaces, .code yX1_foundInFaces cX1_foundInFaces 5 (some .int), .methodLink RX1 88 yX0_nearestFaces, .instanceMethod yX0_nearestFaces, .selects RX0 yX0_nearestFaces yX0_nearestFaces, .code yX0_nearestFaces cX0_nearestFaces 7 (some .int), .fieldLink RX0 52 "LinkModels$Build" "reached" "[I", .methodLink RX1 92 yX0_withBody, .instanceMethod yX0_withBody, .selects RX0 yX0_withBody yX0_withBody, .code yX0_withBody cX0_withBody 6 (some .int), .methodLink RX1 95 yJ6_bitCount_0f7a4, .static yJ6_bitCount_0f7a4, .initialized RJ6, .code yJ6_bitCount_0f7a4 cJ6_bitCount_0f7a4 1 (some .int), .constant RJ6 265 (1431655765), .constant RJ6 266 (858993459), .constant RJ6 267 (252645135), .methodLink RX1 100 yX0_firstMethodOf, .instanceMethod yX0_firstMethodOf, .selects RX0 yX0_firstMethodOf yX0_firstMethodOf, .code yX0_firstMethodOf cX0_firstMethodOf 6 (some .int), .methodLink RX1 77 yX0_isFace, .methodLink RX1 43 yX1_linkedField, .static yX1_linkedField, .code yX1_linkedField cX1_linkedField 6 (some .int), .fieldLink RX1 54 "LinkModels$Signature" "word" "J", .methodLink RX1 74 yX5_puts, .instanceMethod yX5_puts, .selects RX5 yX5_puts yX5_puts, .code yX5_puts cX5_puts 1 (some .boolean), .methodLink RX1 60 yX0_fieldFrom, .instanceMethod yX0_fieldFrom, .selects RX0 yX0_fieldFrom yX0_fieldFrom, .code yX0_fieldFrom cX0_fieldFrom 6 (some .int), .methodLink RX0 86 yX0_fieldIn, .instanceMethod yX0_fieldIn, .selects RX0 yX0_fieldIn yX0_fieldIn, .code yX0_fieldIn cX0_fieldIn 5 (some .int), .methodLink RX1 35 yX0_isWhole, .instanceMethod yX0_isWhole, .selects RX0 yX0_isWhole yX0_isWhole, .code yX0_isWhole cX0_isWhole 2 (some .boolean)] ++ wsX60 ++ wsX50 ++ wsX00 ++ wsX30)
set_option maxRecDepth 100000 in
theorem zgX6_linkedSpot_X6_buildAt_62 : GoodIn zwX6_linkedSpot (wsV RX6 62 RX6 yX6_buildAt zwX6_buildAt) := goodIn_app (goodIn_r _ [1, 2, 3, 4] rfl (by decide +kernel)) (goodIn_app (goodIn_r _ [5, 6, 7] rfl (by decide +kernel)) (fun w hw => ⟨(List.mem_cons_of_mem _ (List.mem_append_left _ (List.mem_append_left _ (List.mem_append_left _ (List.mem_append_right _ hw))))), good_of_word (List.all_eq_true.mp zgX6 w hw)⟩))
set_option maxRecDepth 100000 in
theorem zgX6_linkedSpot_X6_useAt_123 : GoodIn zwX6_linkedSpot (wsV RX6 123 RX6 yX6_useAt zwX6_useAt) := goodIn_app (goodIn_r _ [8, 9, 10, 4] rfl (by decide +kernel)) (goodIn_app (goodIn_r _ [11, 12, 13] rfl (by decide +kernel)) (fun w hw => ⟨(List.mem_cons_of_mem _ (List.mem_append_left _ (List.mem_append_left _ (List.mem_append_left _ (List.mem_append_right _ hw))))), good_of_word (List.all_eq_true.mp zgX6 w hw)⟩))
set_option maxRecDepth 100000 in
theorem zgX6_linkedSpot_X1_linked_130 : GoodIn zwX6_linkedSpot (va_wsS RX6 130 yX1_linked zwX1_linked) := goodIn_app (goodIn_r _ [14, 15, 16] rfl (by decide +kernel)) (goodIn_app (goodIn_app (goodIn_app (goodIn_r _ [17, 18, 19, 20, 21, 22, 23, 24, 25, 26, 27, 28, 29, 30, 31, 32, 33, 34, 35, 36, 37, 38, 39, 40, 16, 41, 4, 42, 43, 44, 45, 46, 47, 48, 49, 50, 51, 52, 53, 54, 55, 56, 57, 58, 59, 60, 61, 62, 63, 64, 65, 66, 67, 68, 69, 70, 71, 72, 73, 74, 75, 76, 77, 78, 79, 80, 81, 82, 83, 84, 85, 86, 87, 88, 89, 90, 91, 92, 93, 94, 95, 96, 97, 98, 99, 100, 101, 102, 103, 104, 105, 106, 107, 108, 109, 110, 111, 112, 113, 114, 115, 116, 117, 118, 119, 120, 121, 122, 123, 124, 125] rfl (by decide +kernel)) (fun w hw => ⟨(List.mem_cons_of_mem _ (List.mem_append_left _ (List.mem_append_left _ (List.mem_append_right _ hw)))), good_of_word (List.all_eq_true.mp zgX5 w hw)⟩)) (fun w hw => ⟨(List.mem_cons_of_mem _ (List.mem_append_left _ (List.mem_append_right _ hw))), good_of_word (List.all_eq_true.mp zgX0 w hw)⟩)) (fun w hw => ⟨(List.mem_cons_of_mem _ (List.mem_append_right _ hw)), good_of_word (List.all_eq_true.mp zgX3 w hw)⟩))
set_option maxHeartbeats 4000000 in
set_option maxRecDepth 100000 in
theorem kX6_linkedSpot (l : Launch) (dC : Nat → ClassId) (dI : Nat → Nat → Nat) (xh : Nat) (tb : Nat) (xb : Nat) (xu : Nat) (rh : Nat) (cI : ClassId) (cJ : ClassId) (cB : ClassId) (cQ : ClassId) (cV : ClassId) (tn : Nat) (bn : Nat) (un : Nat) (bf : Nat → Option Nat) (wf : Nat → Option Nat) (hI : yWI tn bn un) (ib : Int32) (iu : Int32) : Met l yX6_linkedSpot zwX6_linkedSpot ({ frames := 5, cells := 0, slots := 0, locals := 121 }) (zPX dC dI [.ref xh, .int ib, .int iu] (yW xh tb xb xu rh cI cJ cB cQ cV (nI tn) (nI bn) (nI un) bf wf) [(cI, .int), (cJ, .long), (cB, .byte), (cQ, .object RX0), (cV, .object RX5)] cI cJ cB bn bf un wf) (vp_Si (fun r => (zSp r (fun k => k < 208)))) 0 0 (fun _ => False) := by
  refine Met.ofW (cc := cX6_linkedSpot) (maxL := 5) (ret := (some .int)) (by decide) rfl ?_
  intro p e s m args below meth c s₁ B hml hv
  obtain ⟨rfl, hP, hK, hE, hBs, hUs⟩ := hv
  have hx := B.exec
  have hb := B.bytes
  have hr := B.returns
  have hts := atoms_spec (ws := zwX6_linkedSpot) B.pre
  have hown : s.vm.findClass RX6 = some m.cls := findClass_of_methodNamed B.named
  obtain ⟨htn, hbn, hun⟩ := hI
  have hl := lv_entry ([.ref xh, .int ib, .int iu]) (n := 5) (Nat.le_of_ble_eq_true rfl)
  rw [lg_entry_eq]
  generalize (lg_sl ([.ref xh, .int ib, .int iu]) ++ List.replicate (5 - (lg_sl ([.ref xh, .int ib, .int iu])).length) Slot.unset).toArray = ls at hl ⊢
  have hl : lv_has ls 5 [(0, .ref xh), (1, .int ib), (2, .int iu)] := hl
  refine lv_aload_n hx hb dX6_linkedSpot_0 rfl (lv_at hl 0 rfl) ?_
  refine lv_iload_n hx hb dX6_linkedSpot_1 rfl (lv_at hl 1 rfl) ?_
  refine va_csq (W.runV (As := [.int ib]) (rest := []) ⟨hx, hb, hml, hown, hts⟩ (kX6_buildAt l dC dI xh tb xb xu rh cI cJ cB cQ cV tn bn un bf wf ⟨by omega, by omega, by omega⟩ ib) (cwV 1 hts zgX6_linkedSpot_X6_buildAt_62 rfl rfl rfl (by decide +kernel) ⟨(show 0 + 1 ≤ 5 by omega), (show 8 + (2 + 11) + 0 ≤ 121 by omega)⟩) (zVq (ci := 5) (q0 := 0) (q := (RX6, TX6, 7)) hK hP hE rfl rfl rfl) rfl rfl hl.1 rfl (lv_room (Nat.le_of_ble_eq_true rfl)) dX6_linkedSpot_2 ⟨(show 0 + 0 ≤ 0 by omega), (show 0 + 0 ≤ 0 by omega)⟩) (fun r1 hw => ?_)
  rcases hw with rfl | ⟨k2, hk2, rfl⟩
  · refine W.eq (g2 := F0 m 5 ls [.null]) rfl ?_
    refine lv_astore_nN (lv' := [(3, .null), (0, .ref xh), (1, .int ib), (2, .int iu)]) hx hb dX6_linkedSpot_5 rfl hl (by decide) rfl (fun ls hl => ?_)
    refine lv_aload_n hx hb dX6_linkedSpot_6 rfl (lv_at hl 1 rfl) ?_
    refine lv_iload_n hx hb dX6_linkedSpot_7 rfl (lv_at hl 3 rfl) ?_
    refine va_csq (W.runV (As := [.int iu]) (rest := []) ⟨hx, hb, hml, hown, hts⟩ (kX6_useAt l dC dI xh tb xb xu rh cI cJ cB cQ cV tn bn un bf wf ⟨by omega, by omega, by omega⟩ iu) (cwV 1 hts zgX6_linkedSpot_X6_useAt_123 rfl rfl rfl (by decide +kernel) ⟨(show 0 + 1 ≤ 5 by omega), (show 8 + (2 + 11) + 0 ≤ 121 by omega)⟩) (zVq (ci := 5) (q0 := 0) (q := (RX6, TX6, 7)) hK hP hE rfl rfl rfl) rfl rfl hl.1 rfl (lv_room (Nat.le_of_ble_eq_true rfl)) dX6_linkedSpot_8 ⟨(show 0 + 0 ≤ 0 by omega), (show 0 + 0 ≤ 0 by omega)⟩) (fun r3 hw => ?_)
    rcases hw with rfl | ⟨k4, hk4, rfl⟩
    · refine W.eq (g2 := F0 m 11 ls [.null]) rfl ?_
      refine lv_astoreN (lv' := [(4, .null), (3, .null), (0, .ref xh), (1, .int ib), (2, .int iu)]) hx hb dX6_linkedSpot_11 hl (by decide) rfl (fun ls hl => ?_)
      refine lv_aload_nN hx hb dX6_linkedSpot_13 rfl (lv_at hl 1 rfl) ?_
      refine lv_ifnullN (tgt := 22) hx hb dX6_linkedSpot_14 (by decide) ?_
      refine lv_bipush (v := (-2)) hx hb dX6_linkedSpot_22 (by decide) ?_
      exact W.iret (v := (-2 : Int32)) hx hb hr (fun t ht hW => ⟨(-2 : Int32), rfl, (Or.inl (by decide)), ht⟩) (fun _ h => by cases h) dX6_linkedSpot_24
    · obtain ⟨uh, wk4, hfk4, hck4, hPk4⟩ := hUs k4 hk4
      obtain ⟨ug, uk, uc, uo, uy, uw, ut, uf, uq, rfl⟩ := hck4
      rw [hfk4]
      refine W.eq (g2 := F0 m 11 ls [.ref uh]) rfl ?_
      have hP := hP.app hPk4
      refine lv_astore (lv' := [(4, .ref uh), (3, .null), (0, .ref xh), (1, .int ib), (2, .int iu)]) hx hb dX6_linkedSpot_11 hl (by decide) rfl (fun ls hl => ?_)
      refine lv_aload_nN hx hb dX6_linkedSpot_13 rfl (lv_at hl 1 rfl) ?_
      refine lv_ifnullN (tgt := 22) hx hb dX6_linkedSpot_14 (by decide) ?_
      refine lv_bipush (v := (-2)) hx hb dX6_linkedSpot_22 (by decide) ?_
      exact W.iret (v := (-2 : Int32)) hx hb hr (fun t ht hW => ⟨(-2 : Int32), rfl, (Or.inl (by decide)), ht⟩) (fun _ h => by cases h) dX6_linkedSpot_24
  · obtain ⟨bh, wk2, hfk2, hck2, hPk2⟩ := hBs k2 hk2
    obtain ⟨br, cc, nA, mA, aA, fcA, fA, mcA, mmA, wA, tcA, g1A, g2A, nuA, erA, reA, liA, lcA, hIk2, rfl⟩ := hck2
    obtain ⟨hcc, hfcA, hmcA, herA, hliA, hlcA⟩ := hIk2
    rw [hfk2]
    refine W.eq (g2 := F0 m 5 ls [.ref bh]) rfl ?_
    have hP := hP.app hPk2
    refine lv_astore_n (lv' := [(3, .ref bh), (0, .ref xh), (1, .int ib), (2, .int iu)]) hx hb dX6_linkedSpot_5 rfl hl (by decide) rfl (fun ls hl => ?_)
    refine lv_aload_n hx hb dX6_linkedSpot_6 rfl (lv_at hl 1 rfl) ?_
    refine lv_iload_n hx hb dX6_linkedSpot_7 rfl (lv_at hl 3 rfl) ?_
    refine va_csq (W.runV (As := [.int iu]) (rest := []) ⟨hx, hb, hml, hown, hts⟩ (kX6_useAt l dC dI xh tb xb xu rh cI cJ cB cQ cV tn bn un bf wf ⟨by omega, by omega, by omega⟩ iu) (cwV 1 hts zgX6_linkedSpot_X6_useAt_123 rfl rfl rfl (by decide +kernel) ⟨(show 0 + 1 ≤ 5 by omega), (show 8 + (2 + 11) + 0 ≤ 121 by omega)⟩) (zVq (ci := 5) (q0 := 0) (q := (RX6, TX6, 7)) hK (hP.sub (ws' := (yW xh tb xb xu rh cI cJ cB cQ cV (nI tn) (nI bn) (nI un) bf wf)) [0, 1, 2] rfl) hE rfl rfl rfl) rfl rfl hl.1 rfl (lv_room (Nat.le_of_ble_eq_true rfl)) dX6_linkedSpot_8 ⟨(show 0 + 0 ≤ 0 by omega), (show 0 + 0 ≤ 0 by omega)⟩) (fun r5 hw => ?_)
    rcases hw with rfl | ⟨k6, hk6, rfl⟩
    · refine W.eq (g2 := F0 m 11 ls [.null]) rfl ?_
      refine lv_astoreN (lv' := [(4, .null), (3, .ref bh), (0, .ref xh), (1, .int ib), (2, .int iu)]) hx hb dX6_linkedSpot_11 hl (by decide) rfl (fun ls hl => ?_)
      refine lv_aload_n hx hb dX6_linkedSpot_13 rfl (lv_at hl 1 rfl) ?_
      refine lv_ifnull hx hb dX6_linkedSpot_14 ?_
      refine lv_aloadN hx hb dX6_linkedSpot_17 (lv_at hl 0 rfl) ?_
      refine lv_ifnonnullN hx hb dX6_linkedSpot_19 ?_
      refine lv_bipush (v := (-2)) hx hb dX6_linkedSpot_22 (by decide) ?_
      exact W.iret (v := (-2 : Int32)) hx hb hr (fun t ht hW => ⟨(-2 : Int32), rfl, (Or.inl (by decide)), ht⟩) (fun _ h => by cases h) dX6_linkedSpot_24
    · obtain ⟨uh, wk6, hfk6, hck6, hPk6⟩ := hUs k6 hk6
      obtain ⟨ug, uk, uc, uo, uy, uw, ut, uf, uq, rfl⟩ := hck6
      rw [hfk6]
      refine W.eq (g2 := F0 m 11 ls [.ref uh]) rfl ?_
      have hP := hP.app hPk6
      refine lv_astore (lv' := [(4, .ref uh), (3, .ref bh), (0, .ref xh), (1, .int ib), (2, .int iu)]) hx hb dX6_linkedSpot_11 hl (by decide) rfl (fun ls hl => ?_)
      refine lv_aload_n hx hb dX6_linkedSpot_13 rfl (lv_at hl 1 rfl) ?_
      refine lv_ifnull hx hb dX6_linkedSpot_14 ?_
      refine lv_aload hx hb dX6_linkedSpot_17 (lv_at hl 0 rfl) ?_
      refine lv_ifnonnull (tgt := 25) hx hb dX6_linkedSpot_19 (by decide) ?_
      refine lv_aload_n hx hb dX6_linkedSpot_25 rfl (lv_at hl 1 rfl) ?_
      refine lv_aload hx hb dX6_linkedSpot_26 (lv_at hl 0 rfl) ?_
      refine vp_callSi (W.runS (As := [.ref bh, .ref uh]) (rest := []) ⟨hx, hb, hml, hown, hts⟩ (kX1_linked l dC dI bh br uh ug cI cJ cB cc nA mA aA fcA fA mcA mmA wA tcA g1A g2A nuA erA reA liA lcA uk uc uo uy uw ut uf uq ⟨by omega, hfcA, hmcA, herA, hliA, hlcA⟩) (va_cwS 2 hts zgX6_linkedSpot_X1_linked_130 rfl rfl rfl (by decide +kernel) ⟨(show 4 + 1 ≤ 5 by omega), (show 8 + (4 + 11) + 98 ≤ 121 by omega)⟩) (zSq (hK.sub (tys' := [(cI, .int), (cJ, .long), (cB, .byte)]) [0, 1, 2] rfl) (hP.sub (ws' := (lW bh br uh ug cI cJ cB (nI cc) nA mA aA (fun j => nI (fcA j)) fA (fun j => nI (mcA j)) mmA wA tcA g1A g2A nuA (fun j => nI (erA j)) reA (fun j => nI (liA j)) (fun j => nI (lcA j)) uk uc uo uy uw ut uf uq)) [3, 4, 5, 6, 7, 8, 9, 10, 11, 12, 13, 14, 15, 16, 17, 18, 19, 20, 21] rfl) hE) rfl rfl hl.1 rfl (lv_room (Nat.le_of_ble_eq_true rfl)) dX6_linkedSpot_28 ⟨(show 0 + 0 ≤ 0 by omega), (show 0 + 0 ≤ 0 by omega)⟩) (fun r7 hw => ?_)
      have hw : (zSp r7 (fun k => k < 208)) := hw
      have w0r7 := hw
      exact W.iret (v := r7) hx hb hr (fun t ht hW => ⟨r7, rfl, (zSp.imp w0r7 (fun k hk hq => by first | exact hq | trivial | omega)), ht⟩) (fun _ h => by cases h) dX6_linkedSpot_31
theorem dX6_doneSpot_0 : decode cX6_doneSpot 0 = .ok (.aload_n 0, 1) := by decide +kernel
theorem dX6_doneSpot_1 : decode cX6_doneSpot 1 = .ok (.iload_n 1, 1) := by decide +kernel
theorem dX6_doneSpot_2 : decode cX6_doneSpot 2 = .ok (.invokevirtual 62, 3) := by decide +kernel
theorem dX6_doneSpot_5 : decode cX6_doneSpot 5 = .ok (.astore 4, 2) := by decide +kernel
theorem dX6_doneSpot_7 : decode cX6_doneSpot 7 = .ok (.aload_n 0, 1) := by decide +kernel
theorem dX6_doneSpot_8 : decode cX6_doneSpot 8 = .ok (.iload_n 2, 1) := by decide +kernel
theorem dX6_doneSpot_9 : decode cX6_doneSpot 9 = .ok (.invokevirtual 123, 3) := by decide +kernel
theorem dX6_doneSpot_12 : decode cX6_doneSpot 12 = .ok (.astore 5, 2) := by decide +kernel
theorem dX6_doneSpot_14 : decode cX6_doneSpot 14 = .ok (.aload 4, 2) := by decide +kernel
theorem dX6_doneSpot_16 : decode cX6_doneSpot 16 = .ok (.ifnull 8, 3) := by decide +kernel
theorem dX6_doneSpot_19 : decode cX6_doneSpot 19 = .ok (.aload 5, 2) := by decide +kernel
theorem dX6_doneSpot_21 : decode cX6_doneSpot 21 = .ok (.ifnonnull 6, 3) := by decide +kernel
theorem dX6_doneSpot_24 : decode cX6_doneSpot 24 = .ok (.bipush (-2), 2) := by decide +kernel
theorem dX6_doneSpot_26 : decode cX6_doneSpot 26 = .ok (.ireturn, 1) := by decide +kernel
theorem dX6_doneSpot_27 : decode cX6_doneSpot 27 = .ok (.aload 5, 2) := by decide +kernel
theorem dX6_doneSpot_29 : decode cX6_doneSpot 29 = .ok (.getfield 127, 3) := by decide +kernel
theorem dX6_doneSpot_32 : decode cX6_doneSpot 32 = .ok (.iconst 4, 1) := by decide +kernel
theorem dX6_doneSpot_33 : decode cX6_doneSpot 33 = .ok (.if_icmp .eq 16, 3) := by decide +kernel
theorem dX6_doneSpot_36 : decode cX6_doneSpot 36 = .ok (.aload 5, 2) := by decide +kernel
theorem dX6_doneSpot_38 : decode cX6_doneSpot 38 = .ok (.getfield 127, 3) := by decide +kernel
theorem dX6_doneSpot_41 : decode cX6_doneSpot 41 = .ok (.bipush 7, 2) := by decide +kernel
theorem dX6_doneSpot_43 : decode cX6_doneSpot 43 = .ok (.if_icmp .eq 6, 3) := by decide +kernel
theorem dX6_doneSpot_46 : decode cX6_doneSpot 46 = .ok (.bipush (-4), 2) := by decide +kernel
theorem dX6_doneSpot_48 : decode cX6_doneSpot 48 = .ok (.ireturn, 1) := by decide +kernel
theorem dX6_doneSpot_49 : decode cX6_doneSpot 49 = .ok (.aload 4, 2) := by decide +kernel
theorem dX6_doneSpot_51 : decode cX6_doneSpot 51 = .ok (.aload 5, 2) := by decide +kernel
theorem dX6_doneSpot_53 : decode cX6_doneSpot 53 = .ok (.invokestatic 130, 3) := by decide +kernel
theorem dX6_doneSpot_56 : decode cX6_doneSpot 56 = .ok (.istore 6, 2) := by decide +kernel
theorem dX6_doneSpot_58 : decode cX6_doneSpot 58 = .ok (.iload 6, 2) := by decide +kernel
theorem dX6_doneSpot_60 : decode cX6_doneSpot 60 = .ok (.ifCond .ge 8, 3) := by decide +kernel
theorem dX6_doneSpot_63 : decode cX6_doneSpot 63 = .ok (.iload 6, 2) := by decide +kernel
theorem dX6_doneSpot_65 : decode cX6_doneSpot 65 = .ok (.goto 13, 3) := by decide +kernel
theorem dX6_doneSpot_68 : decode cX6_doneSpot 68 = .ok (.aload 4, 2) := by decide +kernel
theorem dX6_doneSpot_70 : decode cX6_doneSpot 70 = .ok (.aload 5, 2) := by decide +kernel
theorem dX6_doneSpot_72 : decode cX6_doneSpot 72 = .ok (.iload 6, 2) := by decide +kernel
theorem dX6_doneSpot_74 : decode cX6_doneSpot 74 = .ok (.iload_n 3, 1) := by decide +kernel
theorem dX6_doneSpot_75 : decode cX6_doneSpot 75 = .ok (.invokestatic 157, 3) := by decide +kernel
theorem dX6_doneSpot_78 : decode cX6_doneSpot 78 = .ok (.ireturn, 1) := by decide +kernel
def zwX6_doneSpot : List Cond := .code yX6_doneSpot cX6_doneSpot 7 (some .int) :: ([.fieldLink RX6 127 "LinkModels$Use" "kind" "I", .methodLink RX6 62 yX6_buildAt, .instanceMethod yX6_buildAt, .selects RX6 yX6_buildAt yX6_buildAt, .initialized RX6, .code yX6_buildAt cX6_buildAt 2 (some (.object "LinkModels$Build")), .fieldLink RX6 23 "LinkModels" "buildCount" "I", .fieldLink RX6 19 "LinkModels" "builds" "[LLinkModels$Build;", .methodLink RX6 123 yX6_useAt, .instanceMethod yX6_useAt, .selects RX6 yX6_useAt yX6_useAt, .code yX6_useAt cX6_useAt 2 (some (.object "LinkModels$Use")), .fieldLink RX6 32 "LinkModels" "useCount" "I", .fieldLink RX6 28 "LinkModels" "uses" "[LLinkModels$Use;", .methodLink RX6 130 yX1_linked, .static yX1_linked, .initialized RX1, .code yX1_linked cX1_linked 4 (some .int), .fieldLink RX1 9 "LinkModels$Use" "caller" "I", .fieldLink RX1 21 "LinkModels$Use" "owner" "I", .fieldLink RX1 32 "LinkModels$Use" "kind" "I", .methodLink RX1 15 yX0_placeOf, .instanceMethod yX0_placeOf, .selects RX0 yX0_placeOf yX0_placeOf, .initialized RX0, .code yX0_placeOf cX0_placeOf 3 (some .int), .fieldLink RX0 61 "LinkModels$Build" "classCount" "I", .fieldLink RX0 11 "LinkModels$Build" "names" "[I", .methodLink RX1 24 yX0_errorAt, .instanceMethod yX0_errorAt, .selects RX0 yX0_errorAt yX0_errorAt, .code yX0_errorAt cX0_errorAt 2 (some .int), .fieldLink RX0 49 "LinkModels$Build" "errors" "[I", .methodLink RX1 39 yX5_asksField, .instanceMethod yX5_asksField, .selects RX5 yX5_asksField yX5_asksField, .initialized RX5, .code yX5_asksField cX5_asksField 1 (some .boolean), .fieldLink RX5 9 "LinkModels$Use" "kind" "I", .methodLink RX1 47 yX1_linkedMethod, .static yX1_linkedMethod, .code yX1_linkedMethod cX1_linkedMethod 5 (some .int), .static yX6_classOf, .fieldLink RX1 50 "LinkModels$Use" "wanted" "LLinkModels$Signature;", .methodLink RX1 67 yX0_has, .instanceMethod yX0_has, .selects RX0 yX0_has yX0_has, .code yX0_has cX0_has 3 (some .boolean), .fieldLink RX0 30 "LinkModels$Build" "memberMarks" "[I", .methodLink RX1 71 yX5_asksStatic, .instanceMethod yX5_asksStatic, .selects RX5 yX5_asksStatic yX5_asksStatic, .code yX5_asksStatic cX5_asksStatic 1 (some .boolean), .methodLink RX1 27 yX1_failed, .static yX1_failed, .code yX1_failed cX1_failed 1 (some .int), .code yX6_classOf cX6_classOf 1 (some .int), .methodLink RX1 80 yX0_methodFrom, .instanceMethod yX0_methodFrom, .selects RX0 yX0_methodFrom yX0_methodFrom, .code yX0_methodFrom cX0_methodFrom 7 (some .int), .fieldLink RX0 58 "LinkModels$Build" "lineCounts" "[I", .fieldLink RX0 55 "LinkModels$Build" "lines" "[I", .methodLink RX0 82 yX0_has, .methodLink RX0 94 yX0_methodIn, .instanceMethod yX0_methodIn, .selects RX0 yX0_methodIn yX0_methodIn, .code yX0_methodIn cX0_methodIn 5 (some .int), .fieldLink RX0 37 "LinkModels$Build" "typeCounts" "[I", .fieldLink RX0 71 "LinkModels$Signature" "typeCount" "I", .fieldLink RX0 40 "LinkModels$Build" "firsts" "[I", .fieldLink RX0 74 "LinkModels$Signature" "first" "I", .fieldLink RX0 43 "LinkModels$Build" "seconds" "[I", .fieldLink RX0 77 "LinkModels$Signature" "second" "I", .fieldLink RX0 27 "LinkModels$Build" "memberCounts" "[I", .fieldLink RX0 33 "LinkModels$Build" "words" "[J", .fieldLink RX0 65 "LinkModels$Signature" "word" "J", .methodLink RX0 90 yX0_isFace, .instanceMethod yX0_isFace, .selects RX0 yX0_isFace yX0_isFace, .code yX0_isFace cX0_isFace 2 (some .boolean), .fieldLink RX0 15 "LinkModels$Build" "classMarks" "[I", .methodLink RX1 84 yX1_foundInFaces, .static yX1_foundInFaces, .code yX1_foundInFaces cX1_foundInFaces 5 (some .int), .methodLink RX1 88 yX0_nearestFaces, .instanceMethod yX0_nearestFaces, .selects RX0 yX0_nearestFaces yX0_nearestFaces, .code yX0_nearestFaces cX0_nearestFaces 7 (some .int), .fieldLink RX0 52 "LinkModels$Build" "reached" "[I", .methodLink RX1 92 yX0_withBody, .instanceMethod yX0_withBody, .selects RX0 yX0_withBody yX0_withBody, .code yX0_withBody cX0_withBody 6 (some .int), .methodLink RX1 95 yJ6_bitCount_0f7a4, .static yJ6_bitCount_0f7a4, .initialized RJ6, .code yJ6_bitCount_0f7a4 cJ6_bitCount_0f7a4 1 (some .int), .constant RJ6 265 (1431655765), .constant RJ6 266 (858993459), .constant RJ6 267 (252645135), .methodLink RX1 100 yX0_firstMethodOf, .instanceMethod yX0_firstMethodOf, .selects RX0 yX0_firstMethodOf yX0_firstMethodOf, .code yX0_firstMethodOf cX0_firstMethodOf 6 (some .int), .methodLink RX1 77 yX0_isFace, .methodLink RX1 43 yX1_linkedField, .static yX1_linkedField, .code yX1_linkedField cX1_linkedField 6 (some .int), .fieldLink RX1 54 "LinkModels$Signature" "word" "J", .methodLink RX1 74 yX5_puts, .instanceMethod yX5_puts, .selects RX5 yX5_puts yX5_puts, .code yX5_puts cX5_puts 1 (some .boolean), .methodLink RX1 60 yX0_fieldFrom, .instanceMethod yX0_fieldFrom, .selects RX0 yX0_fieldFrom yX0_fieldFrom, .code yX0_fieldFrom cX0_fieldFrom 6 (some .int), .methodLink RX0 86 yX0_fieldIn, .instanceMethod yX0_fieldIn, .selects RX0 yX0_fieldIn yX0_fieldIn, .code yX0_fieldIn cX0_fieldIn 5 (some .int), .methodLink RX1 35 yX0_isWhole, .instanceMethod yX0_isWhole, .selects RX0 yX0_isWhole yX0_isWhole, .code yX0_isWhole cX0_isWhole 2 (some .boolean), .methodLink RX6 157 yX1_performed, .static yX1_performed, .code yX1_performed cX1_performed 6 (some .int), .methodLink RX1 104 yX0_isOf, .instanceMethod yX0_isOf, .selects RX0 yX0_isOf yX0_isOf, .code yX0_isOf cX0_isOf 3 (some .boolean), .methodLink RX1 107 yX1_performedByFaces, .static yX1_performedByFaces, .code yX1_performedByFaces cX1_performedByFaces 4 (some .int)] ++ wsX50 ++ wsX60 ++ wsX00 ++ wsX30)
set_option maxRecDepth 100000 in
theorem zgX6_doneSpot_X6_buildAt_62 : GoodIn zwX6_doneSpot (wsV RX6 62 RX6 yX6_buildAt zwX6_buildAt) := goodIn_app (goodIn_r _ [2, 3, 4, 5] rfl (by decide +kernel)) (goodIn_app (goodIn_r _ [6, 7, 8] rfl (by decide +kernel)) (fun w hw => ⟨(List.mem_cons_of_mem _ (List.mem_append_left _ (List.mem_append_left _ (List.mem_append_right _ hw)))), good_of_word (List.all_eq_true.mp zgX6 w hw)⟩))
set_option maxRecDepth 100000 in
theorem zgX6_doneSpot_X6_useAt_123 : GoodIn zwX6_doneSpot (wsV RX6 123 RX6 yX6_useAt zwX6_useAt) := goodIn_app (goodIn_r _ [9, 10, 11, 5] rfl (by decide +kernel)) (goodIn_app (goodIn_r _ [12, 13, 14] rfl (by decide +kernel)) (fun w hw => ⟨(List.mem_cons_of_mem _ (List.mem_append_left _ (List.mem_append_left _ (List.mem_append_right _ hw)))), good_of_word (List.all_eq_true.mp zgX6 w hw)⟩))
set_option maxRecDepth 100000 in
theorem zgX6_doneSpot_X1_linked_130 : GoodIn zwX6_doneSpot (va_wsS RX6 130 yX1_linked zwX1_linked) := goodIn_app (goodIn_r _ [15, 16, 17] rfl (by decide +kernel)) (goodIn_app (goodIn_app (goodIn_app (goodIn_r _ [18, 19, 20, 21, 22, 23, 24, 25, 26, 27, 28, 29, 30, 31, 32, 33, 34, 35, 36, 37, 38, 39, 40, 41, 17, 42, 5, 43, 44, 45, 46, 47, 48, 49, 50, 51, 52, 53, 54, 55, 56, 57, 58, 59, 60, 61, 62, 63, 64, 65, 66, 67, 68, 69, 70, 71, 72, 73, 74, 75, 76, 77, 78, 79, 80, 81, 82, 83, 84, 85, 86, 87, 88, 89, 90, 91, 92, 93, 94, 95, 96, 97, 98, 99, 100, 101, 102, 103, 104, 105, 106, 107, 108, 109, 110, 111, 112, 113, 114, 115, 116, 117, 118, 119, 120, 121, 122, 123, 124, 125, 126] rfl (by decide +kernel)) (fun w hw => ⟨(List.mem_cons_of_mem _ (List.mem_append_left _ (List.mem_append_left _ (List.mem_append_left _ (List.mem_append_right _ hw))))), good_of_word (List.all_eq_true.mp zgX5 w hw)⟩)) (fun w hw => ⟨(List.mem_cons_of_mem _ (List.mem_append_left _ (List.mem_append_right _ hw))), good_of_word (List.all_eq_true.mp zgX0 w hw)⟩)) (fun w hw => ⟨(List.mem_cons_of_mem _ (List.mem_append_right _ hw)), good_of_word (List.all_eq_true.mp zgX3 w hw)⟩))
set_option maxRecDepth 100000 in
theorem zgX6_doneSpot_X1_performed_157 : GoodIn zwX6_doneSpot (va_wsS RX6 157 yX1_performed zwX1_performed) := goodIn_app (goodIn_r _ [127, 128, 17] rfl (by decide +kernel)) (goodIn_app (goodIn_app (goodIn_app (goodIn_r _ [129, 20, 44, 22, 23, 24, 25, 26, 27, 28, 29, 30, 31, 32, 33, 130, 131, 132, 133, 90, 45, 46, 47, 48, 49, 58, 59, 60, 61, 62, 63, 64, 65, 66, 67, 68, 69, 70, 71, 72, 73, 74, 75, 76, 77, 78, 79, 80, 81, 82, 54, 55, 17, 56, 134, 135, 136, 86, 87, 88, 89, 91, 92, 93, 94, 95, 96, 97, 98, 99, 100, 101, 102, 103, 104, 105] rfl (by decide +kernel)) (fun w hw => ⟨(List.mem_cons_of_mem _ (List.mem_append_left _ (List.mem_append_left _ (List.mem_append_left _ (List.mem_append_right _ hw))))), good_of_word (List.all_eq_true.mp zgX5 w hw)⟩)) (fun w hw => ⟨(List.mem_cons_of_mem _ (List.mem_append_left _ (List.mem_append_right _ hw))), good_of_word (List.all_eq_true.mp zgX0 w hw)⟩)) (fun w hw => ⟨(List.mem_cons_of_mem _ (List.mem_append_right _ hw)), good_of_word (List.all_eq_true.mp zgX3 w hw)⟩))
set_option maxHeartbeats 4000000 in
set_option maxRecDepth 100000 in
theorem kX6_doneSpot (l : Launch) (dC : Nat → ClassId) (dI : Nat → Nat → Nat) (xh : Nat) (tb : Nat) (xb : Nat) (xu : Nat) (rh : Nat) (cI : ClassId) (cJ : ClassId) (cB : ClassId) (cQ : ClassId) (cV : ClassId) (tn : Nat) (bn : Nat) (un : Nat) (bf : Nat → Option Nat) (wf : Nat → Option Nat) (hI : yWI tn bn un) (ib : Int32) (iu : Int32) (rc : Int32) : Met l yX6_doneSpot zwX6_doneSpot ({ frames := 5, cells := 0, slots := 0, locals := 121 }) (zPX dC dI [.ref xh, .int ib, .int iu, .int rc] (yW xh tb xb xu rh cI cJ cB cQ cV (nI tn) (nI bn) (nI un) bf wf) [(cI, .int), (cJ, .long), (cB, .byte), (cQ, .object RX0), (cV, .object RX5)] cI cJ cB bn bf un wf) (vp_Si (fun r => (zSp r (fun k => k < 208)))) 0 0 (fun _ => False) := by
  refine Met.ofW (cc := cX6_doneSpot) (maxL := 7) (ret := (some .int)) (by decide) rfl ?_
  intro p e s m args below meth c s₁ B hml hv
  obtain ⟨rfl, hP, hK, hE, hBs, hUs⟩ := hv
  have hx := B.exec
  have hb := B.bytes
  have hr := B.returns
  have hts := atoms_spec (ws := zwX6_doneSpot) B.pre
  have hown : s.vm.findClass RX6 = some m.cls := findClass_of_methodNamed B.named
  have hiX5 : ∀ w ∈ wsX50, w ∈ zwX6_doneSpot := (fun w hw => (List.mem_cons_of_mem _ (List.mem_append_left _ (List.mem_append_left _ (List.mem_append_left _ (List.mem_append_right _ hw))))))
  obtain ⟨htn, hbn, hun⟩ := hI
  have hl := lv_entry ([.ref xh, .int ib, .int iu, .int rc]) (n := 7) (Nat.le_of_ble_eq_true rfl)
  rw [lg_entry_eq]
  generalize (lg_sl ([.ref xh, .int ib, .int iu, .int rc]) ++ List.replicate (7 - (lg_sl ([.ref xh, .int ib, .int iu, .int rc])).length) Slot.unset).toArray = ls at hl ⊢
  have hl : lv_has ls 7 [(0, .ref xh), (1, .int ib), (2, .int iu), (3, .int rc)] := hl
  refine lv_aload_n hx hb dX6_doneSpot_0 rfl (lv_at hl 0 rfl) ?_
  refine lv_iload_n hx hb dX6_doneSpot_1 rfl (lv_at hl 1 rfl) ?_
  refine va_csq (W.runV (As := [.int ib]) (rest := []) ⟨hx, hb, hml, hown, hts⟩ (kX6_buildAt l dC dI xh tb xb xu rh cI cJ cB cQ cV tn bn un bf wf ⟨by omega, by omega, by omega⟩ ib) (cwV 1 hts zgX6_doneSpot_X6_buildAt_62 rfl rfl rfl (by decide +kernel) ⟨(show 0 + 1 ≤ 5 by omega), (show 8 + (2 + 11) + 0 ≤ 121 by omega)⟩) (zVq (ci := 5) (q0 := 0) (q := (RX6, TX6, 7)) hK hP hE rfl rfl rfl) rfl rfl hl.1 rfl (lv_room (Nat.le_of_ble_eq_true rfl)) dX6_doneSpot_2 ⟨(show 0 + 0 ≤ 0 by omega), (show 0 + 0 ≤ 0 by omega)⟩) (fun r1 hw => ?_)
  rcases hw with rfl | ⟨k2, hk2, rfl⟩
  · refine W.eq (g2 := F0 m 5 ls [.null]) rfl ?_
    refine lv_astoreN (lv' := [(4, .null), (0, .ref xh), (1, .int ib), (2, .int iu), (3, .int rc)]) hx hb dX6_doneSpot_5 hl (by decide) rfl (fun ls hl => ?_)
    refine lv_aload_n hx hb dX6_doneSpot_7 rfl (lv_at hl 1 rfl) ?_
    refine lv_iload_n hx hb dX6_doneSpot_8 rfl (lv_at hl 3 rfl) ?_
    refine va_csq (W.runV (As := [.int iu]) (rest := []) ⟨hx, hb, hml, hown, hts⟩ (kX6_useAt l dC dI xh tb xb xu rh cI cJ cB cQ cV tn bn un bf wf ⟨by omega, by omega, by omega⟩ iu) (cwV 1 hts zgX6_doneSpot_X6_useAt_123 rfl rfl rfl (by decide +kernel) ⟨(show 0 + 1 ≤ 5 by omega), (show 8 + (2 + 11) + 0 ≤ 121 by omega)⟩) (zVq (ci := 5) (q0 := 0) (q := (RX6, TX6, 7)) hK hP hE rfl rfl rfl) rfl rfl hl.1 rfl (lv_room (Nat.le_of_ble_eq_true rfl)) dX6_doneSpot_9 ⟨(show 0 + 0 ≤ 0 by omega), (show 0 + 0 ≤ 0 by omega)⟩) (fun r3 hw => ?_)
    rcases hw with rfl | ⟨k4, hk4, rfl⟩
    · refine W.eq (g2 := F0 m 12 ls [.null]) rfl ?_
      refine lv_astoreN (lv' := [(5, .null), (4, .null), (0, .ref xh), (1, .int ib), (2, .int iu), (3, .int rc)]) hx hb dX6_doneSpot_12 hl (by decide) rfl (fun ls hl => ?_)
      refine lv_aloadN hx hb dX6_doneSpot_14 (lv_at hl 1 rfl) ?_
      refine lv_ifnullN (tgt := 24) hx hb dX6_doneSpot_16 (by decide) ?_
      refine lv_bipush (v := (-2)) hx hb dX6_doneSpot_24 (by decide) ?_
      exact W.iret (v := (-2 : Int32)) hx hb hr (fun t ht hW => ⟨(-2 : Int32), rfl, (Or.inl (by decide)), ht⟩) (fun _ h => by cases h) dX6_doneSpot_26
    · obtain ⟨uh, wk4, hfk4, hck4, hPk4⟩ := hUs k4 hk4
      obtain ⟨ug, uk, uc, uo, uy, uw, ut, uf, uq, rfl⟩ := hck4
      rw [hfk4]
      refine W.eq (g2 := F0 m 12 ls [.ref uh]) rfl ?_
      have hP := hP.app hPk4
      refine lv_astore (lv' := [(5, .ref uh), (4, .null), (0, .ref xh), (1, .int ib), (2, .int iu), (3, .int rc)]) hx hb dX6_doneSpot_12 hl (by decide) rfl (fun ls hl => ?_)
      refine lv_aloadN hx hb dX6_doneSpot_14 (lv_at hl 1 rfl) ?_
      refine lv_ifnullN (tgt := 24) hx hb dX6_doneSpot_16 (by decide) ?_
      refine lv_bipush (v := (-2)) hx hb dX6_doneSpot_24 (by decide) ?_
      exact W.iret (v := (-2 : Int32)) hx hb hr (fun t ht hW => ⟨(-2 : Int32), rfl, (Or.inl (by decide)), ht⟩) (fun _ h => by cases h) dX6_doneSpot_26
  · obtain ⟨bh, wk2, hfk2, hck2, hPk2⟩ := hBs k2 hk2
    obtain ⟨br, cc, nA, mA, aA, fcA, fA, mcA, mmA, wA, tcA, g1A, g2A, nuA, erA, reA, liA, lcA, hIk2, rfl⟩ := hck2
    obtain ⟨hcc, hfcA, hmcA, herA, hliA, hlcA⟩ := hIk2
    rw [hfk2]
    refine W.eq (g2 := F0 m 5 ls [.ref bh]) rfl ?_
    have hP := hP.app hPk2
    refine lv_astore (lv' := [(4, .ref bh), (0, .ref xh), (1, .int ib), (2, .int iu), (3, .int rc)]) hx hb dX6_doneSpot_5 hl (by decide) rfl (fun ls hl => ?_)
    refine lv_aload_n hx hb dX6_doneSpot_7 rfl (lv_at hl 1 rfl) ?_
    refine lv_iload_n hx hb dX6_doneSpot_8 rfl (lv_at hl 3 rfl) ?_
    refine va_csq (W.runV (As := [.int iu]) (rest := []) ⟨hx, hb, hml, hown, hts⟩ (kX6_useAt l dC dI xh tb xb xu rh cI cJ cB cQ cV tn bn un bf wf ⟨by omega, by omega, by omega⟩ iu) (cwV 1 hts zgX6_doneSpot_X6_useAt_123 rfl rfl rfl (by decide +kernel) ⟨(show 0 + 1 ≤ 5 by omega), (show 8 + (2 + 11) + 0 ≤ 121 by omega)⟩) (zVq (ci := 5) (q0 := 0) (q := (RX6, TX6, 7)) hK (hP.sub (ws' := (yW xh tb xb xu rh cI cJ cB cQ cV (nI tn) (nI bn) (nI un) bf wf)) [0, 1, 2] rfl) hE rfl rfl rfl) rfl rfl hl.1 rfl (lv_room (Nat.le_of_ble_eq_true rfl)) dX6_doneSpot_9 ⟨(show 0 + 0 ≤ 0 by omega), (show 0 + 0 ≤ 0 by omega)⟩) (fun r5 hw => ?_)
    rcases hw with rfl | ⟨k6, hk6, rfl⟩
    · refine W.eq (g2 := F0 m 12 ls [.null]) rfl ?_
      refine lv_astoreN (lv' := [(5, .null), (4, .ref bh), (0, .ref xh), (1, .int ib), (2, .int iu), (3, .int rc)]) hx hb dX6_doneSpot_12 hl (by decide) rfl (fun ls hl => ?_)
      refine lv_aload hx hb dX6_doneSpot_14 (lv_at hl 1 rfl) ?_
      refine lv_ifnull hx hb dX6_doneSpot_16 ?_
      refine lv_aloadN hx hb dX6_doneSpot_19 (lv_at hl 0 rfl) ?_
      refine lv_ifnonnullN hx hb dX6_doneSpot_21 ?_
      refine lv_bipush (v := (-2)) hx hb dX6_doneSpot_24 (by decide) ?_
      exact W.iret (v := (-2 : Int32)) hx hb hr (fun t ht hW => ⟨(-2 : Int32), rfl, (Or.inl (by decide)), ht⟩) (fun _ h => by cases h) dX6_doneSpot_26
    · obtain ⟨uh, wk6, hfk6, hck6, hPk6⟩ := hUs k6 hk6
      obtain ⟨ug, uk, uc, uo, uy, uw, ut, uf, uq, rfl⟩ := hck6
      rw [hfk6]
      refine W.eq (g2 := F0 m 12 ls [.ref uh]) rfl ?_
      have hP := hP.app hPk6
      refine lv_astore (lv' := [(5, .ref uh), (4, .ref bh), (0, .ref xh), (1, .int ib), (2, .int iu), (3, .int rc)]) hx hb dX6_doneSpot_12 hl (by decide) rfl (fun ls hl => ?_)
      refine lv_aload hx hb dX6_doneSpot_14 (lv_at hl 1 rfl) ?_
      refine lv_ifnull hx hb dX6_doneSpot_16 ?_
      refine lv_aload hx hb dX6_doneSpot_19 (lv_at hl 0 rfl) ?_
      refine lv_ifnonnull (tgt := 27) hx hb dX6_doneSpot_21 (by decide) ?_
      refine lv_aload hx hb dX6_doneSpot_27 (lv_at hl 0 rfl) ?_
      refine va_get (D := (dC, dI)) (ci := 4) (v := .int uk) (C := RX5) (T := TX5) (N := 5) hx hb hts hiX5 hown hK hP 20 rfl rfl 0 (by decide) (hts (.fieldLink RX6 127 "LinkModels$Use" "kind" "I") (by decide +kernel)) (fun _ h9 => h9) rfl dX6_doneSpot_29 ?_
      refine lv_iconst (v := 4) hx hb dX6_doneSpot_32 (by decide) ?_
      refine lv_icmp_eq (tgt := 49) hx hb dX6_doneSpot_33 (by decide) (fun cp33 => ?_) (fun cp33 => ?_)
      · refine lv_aload hx hb dX6_doneSpot_49 (lv_at hl 1 rfl) ?_
        refine lv_aload hx hb dX6_doneSpot_51 (lv_at hl 0 rfl) ?_
        refine vp_callSi (W.runS (As := [.ref bh, .ref uh]) (rest := []) ⟨hx, hb, hml, hown, hts⟩ (kX1_linked l dC dI bh br uh ug cI cJ cB cc nA mA aA fcA fA mcA mmA wA tcA g1A g2A nuA erA reA liA lcA uk uc uo uy uw ut uf uq ⟨by omega, hfcA, hmcA, herA, hliA, hlcA⟩) (va_cwS 2 hts zgX6_doneSpot_X1_linked_130 rfl rfl rfl (by decide +kernel) ⟨(show 4 + 1 ≤ 5 by omega), (show 8 + (4 + 11) + 98 ≤ 121 by omega)⟩) (zSq (hK.sub (tys' := [(cI, .int), (cJ, .long), (cB, .byte)]) [0, 1, 2] rfl) (hP.sub (ws' := (lW bh br uh ug cI cJ cB (nI cc) nA mA aA (fun j => nI (fcA j)) fA (fun j => nI (mcA j)) mmA wA tcA g1A g2A nuA (fun j => nI (erA j)) reA (fun j => nI (liA j)) (fun j => nI (lcA j)) uk uc uo uy uw ut uf uq)) [3, 4, 5, 6, 7, 8, 9, 10, 11, 12, 13, 14, 15, 16, 17, 18, 19, 20, 21] rfl) hE) rfl rfl hl.1 rfl (lv_room (Nat.le_of_ble_eq_true rfl)) dX6_doneSpot_53 ⟨(show 0 + 0 ≤ 0 by omega), (show 0 + 0 ≤ 0 by omega)⟩) (fun r7 hw => ?_)
        have hw : (zSp r7 (fun k => k < 208)) := hw
        have w0r7 := hw
        refine lv_istore (lv' := [(6, .int r7), (5, .ref uh), (4, .ref bh), (0, .ref xh), (1, .int ib), (2, .int iu), (3, .int rc)]) hx hb dX6_doneSpot_56 hl (by decide) rfl (fun ls hl => ?_)
        refine lv_iload hx hb dX6_doneSpot_58 (lv_at hl 0 rfl) ?_
        refine lv_if_ge (tgt := 68) hx hb dX6_doneSpot_60 (by decide) (fun cp60 => ?_) (fun cp60 => ?_)
        · obtain ⟨k8, hBk8, hQk8, rfl⟩ := zSp.pos' w0r7 cp60
          refine lv_aload hx hb dX6_doneSpot_68 (lv_at hl 2 rfl) ?_
          refine lv_aload hx hb dX6_doneSpot_70 (lv_at hl 1 rfl) ?_
          refine lv_iload hx hb dX6_doneSpot_72 (lv_at hl 0 rfl) ?_
          refine lv_iload_n hx hb dX6_doneSpot_74 rfl (lv_at hl 6 rfl) ?_
          refine vp_callSi (W.runS (As := [.ref bh, .ref uh, .int (nI k8), .int rc]) (rest := []) ⟨hx, hb, hml, hown, hts⟩ (kX1_performed l dC dI bh br uh ug cI cJ cB cc nA mA aA fcA fA mcA mmA wA tcA g1A g2A nuA erA reA liA lcA uk uc uo uy uw ut uf uq ⟨by omega, hfcA, hmcA, herA, hliA, hlcA⟩ k8 rc (by first | omega | assumption | trivial)) (va_cwS 4 hts zgX6_doneSpot_X1_performed_157 rfl rfl rfl (by decide +kernel) ⟨(show 3 + 1 ≤ 5 by omega), (show 8 + (6 + 11) + 73 ≤ 121 by omega)⟩) (zSq (hK.sub (tys' := [(cI, .int), (cJ, .long), (cB, .byte)]) [0, 1, 2] rfl) (hP.sub (ws' := (lW bh br uh ug cI cJ cB (nI cc) nA mA aA (fun j => nI (fcA j)) fA (fun j => nI (mcA j)) mmA wA tcA g1A g2A nuA (fun j => nI (erA j)) reA (fun j => nI (liA j)) (fun j => nI (lcA j)) uk uc uo uy uw ut uf uq)) [3, 4, 5, 6, 7, 8, 9, 10, 11, 12, 13, 14, 15, 16, 17, 18, 19, 20, 21] rfl) hE) rfl rfl hl.1 rfl (lv_room (Nat.le_of_ble_eq_true rfl)) dX6_doneSpot_75 ⟨(show 0 + 0 ≤ 0 by omega), (show 0 + 0 ≤ 0 by omega)⟩) (fun r9 hw => ?_)
          have hw : (zSp r9 (fun k => k < 208)) := hw
          have w0r9 := hw
          exact W.iret (v := r9) hx hb hr (fun t ht hW => ⟨r9, rfl, (zSp.imp w0r9 (fun k hk hq => by first | exact hq | trivial | omega)), ht⟩) (fun _ h => by cases h) dX6_doneSpot_78
        · have hgcp60 : r7 < 0 := Int32.not_le.mp cp60
          refine lv_iload hx hb dX6_doneSpot_63 (lv_at hl 0 rfl) ?_
          refine lv_goto (tgt := 78) hx hb dX6_doneSpot_65 (by decide) ?_
          exact W.iret (v := r7) hx hb hr (fun t ht hW => ⟨r7, rfl, (Or.inl hgcp60), ht⟩) (fun _ h => by cases h) dX6_doneSpot_78
      · refine lv_aload hx hb dX6_doneSpot_36 (lv_at hl 0 rfl) ?_
        refine va_get (D := (dC, dI)) (ci := 4) (v := .int uk) (C := RX5) (T := TX5) (N := 5) hx hb hts hiX5 hown hK hP 20 rfl rfl 0 (by decide) (hts (.fieldLink RX6 127 "LinkModels$Use" "kind" "I") (by decide +kernel)) (fun _ h9 => h9) rfl dX6_doneSpot_38 ?_
        refine lv_bipush (v := 7) hx hb dX6_doneSpot_41 (by decide) ?_
        refine lv_icmp_eq (tgt := 49) hx hb dX6_doneSpot_43 (by decide) (fun cp43 => ?_) (fun cp43 => ?_)
        · refine lv_aload hx hb dX6_doneSpot_49 (lv_at hl 1 rfl) ?_
          refine lv_aload hx hb dX6_doneSpot_51 (lv_at hl 0 rfl) ?_
          refine vp_callSi (W.runS (As := [.ref bh, .ref uh]) (rest := []) ⟨hx, hb, hml, hown, hts⟩ (kX1_linked l dC dI bh br uh ug cI cJ cB cc nA mA aA fcA fA mcA mmA wA tcA g1A g2A nuA erA reA liA lcA uk uc uo uy uw ut uf uq ⟨by omega, hfcA, hmcA, herA, hliA, hlcA⟩) (va_cwS 2 hts zgX6_doneSpot_X1_linked_130 rfl rfl rfl (by decide +kernel) ⟨(show 4 + 1 ≤ 5 by omega), (show 8 + (4 + 11) + 98 ≤ 121 by omega)⟩) (zSq (hK.sub (tys' := [(cI, .int), (cJ, .long), (cB, .byte)]) [0, 1, 2] rfl) (hP.sub (ws' := (lW bh br uh ug cI cJ cB (nI cc) nA mA aA (fun j => nI (fcA j)) fA (fun j => nI (mcA j)) mmA wA tcA g1A g2A nuA (fun j => nI (erA j)) reA (fun j => nI (liA j)) (fun j => nI (lcA j)) uk uc uo uy uw ut uf uq)) [3, 4, 5, 6, 7, 8, 9, 10, 11, 12, 13, 14, 15, 16, 17, 18, 19, 20, 21] rfl) hE) rfl rfl hl.1 rfl (lv_room (Nat.le_of_ble_eq_true rfl)) dX6_doneSpot_53 ⟨(show 0 + 0 ≤ 0 by omega), (show 0 + 0 ≤ 0 by omega)⟩) (fun r10 hw => ?_)
          have hw : (zSp r10 (fun k => k < 208)) := hw
          have w0r10 := hw
          refine lv_istore (lv' := [(6, .int r10), (5, .ref uh), (4, .ref bh), (0, .ref xh), (1, .int ib), (2, .int iu), (3, .int rc)]) hx hb dX6_doneSpot_56 hl (by decide) rfl (fun ls hl => ?_)
          refine lv_iload hx hb dX6_doneSpot_58 (lv_at hl 0 rfl) ?_
          refine lv_if_ge (tgt := 68) hx hb dX6_doneSpot_60 (by decide) (fun cp60 => ?_) (fun cp60 => ?_)
          · obtain ⟨k11, hBk11, hQk11, rfl⟩ := zSp.pos' w0r10 cp60
            refine lv_aload hx hb dX6_doneSpot_68 (lv_at hl 2 rfl) ?_
            refine lv_aload hx hb dX6_doneSpot_70 (lv_at hl 1 rfl) ?_
            refine lv_iload hx hb dX6_doneSpot_72 (lv_at hl 0 rfl) ?_
            refine lv_iload_n hx hb dX6_doneSpot_74 rfl (lv_at hl 6 rfl) ?_
            refine vp_callSi (W.runS (As := [.ref bh, .ref uh, .int (nI k11), .int rc]) (rest := []) ⟨hx, hb, hml, hown, hts⟩ (kX1_performed l dC dI bh br uh ug cI cJ cB cc nA mA aA fcA fA mcA mmA wA tcA g1A g2A nuA erA reA liA lcA uk uc uo uy uw ut uf uq ⟨by omega, hfcA, hmcA, herA, hliA, hlcA⟩ k11 rc (by first | omega | assumption | trivial)) (va_cwS 4 hts zgX6_doneSpot_X1_performed_157 rfl rfl rfl (by decide +kernel) ⟨(show 3 + 1 ≤ 5 by omega), (show 8 + (6 + 11) + 73 ≤ 121 by omega)⟩) (zSq (hK.sub (tys' := [(cI, .int), (cJ, .long), (cB, .byte)]) [0, 1, 2] rfl) (hP.sub (ws' := (lW bh br uh ug cI cJ cB (nI cc) nA mA aA (fun j => nI (fcA j)) fA (fun j => nI (mcA j)) mmA wA tcA g1A g2A nuA (fun j => nI (erA j)) reA (fun j => nI (liA j)) (fun j => nI (lcA j)) uk uc uo uy uw ut uf uq)) [3, 4, 5, 6, 7, 8, 9, 10, 11, 12, 13, 14, 15, 16, 17, 18, 19, 20, 21] rfl) hE) rfl rfl hl.1 rfl (lv_room (Nat.le_of_ble_eq_true rfl)) dX6_doneSpot_75 ⟨(show 0 + 0 ≤ 0 by omega), (show 0 + 0 ≤ 0 by omega)⟩) (fun r12 hw => ?_)
            have hw : (zSp r12 (fun k => k < 208)) := hw
            have w0r12 := hw
            exact W.iret (v := r12) hx hb hr (fun t ht hW => ⟨r12, rfl, (zSp.imp w0r12 (fun k hk hq => by first | exact hq | trivial | omega)), ht⟩) (fun _ h => by cases h) dX6_doneSpot_78
          · have hgcp60 : r10 < 0 := Int32.not_le.mp cp60
            refine lv_iload hx hb dX6_doneSpot_63 (lv_at hl 0 rfl) ?_
            refine lv_goto (tgt := 78) hx hb dX6_doneSpot_65 (by decide) ?_
            exact W.iret (v := r10) hx hb hr (fun t ht hW => ⟨r10, rfl, (Or.inl hgcp60), ht⟩) (fun _ h => by cases h) dX6_doneSpot_78
        · refine lv_bipush (v := (-4)) hx hb dX6_doneSpot_46 (by decide) ?_
          exact W.iret (v := (-4 : Int32)) hx hb hr (fun t ht hW => ⟨(-4 : Int32), rfl, (Or.inl (by decide)), ht⟩) (fun _ h => by cases h) dX6_doneSpot_48
theorem dX6_link_0 : decode cX6_link 0 = .ok (.aload_n 0, 1) := by decide +kernel
theorem dX6_link_1 : decode cX6_link 1 = .ok (.iload_n 1, 1) := by decide +kernel
theorem dX6_link_2 : decode cX6_link 2 = .ok (.iload_n 2, 1) := by decide +kernel
theorem dX6_link_3 : decode cX6_link 3 = .ok (.invokevirtual 110, 3) := by decide +kernel
theorem dX6_link_6 : decode cX6_link 6 = .ok (.invokestatic 113, 3) := by decide +kernel
theorem dX6_link_9 : decode cX6_link 9 = .ok (.ireturn, 1) := by decide +kernel
def zwX6_link : List Cond := .code yX6_link cX6_link 3 (some .int) :: ([.methodLink RX6 110 yX6_linkedSpot, .instanceMethod yX6_linkedSpot, .selects RX6 yX6_linkedSpot yX6_linkedSpot, .initialized RX6, .code yX6_linkedSpot cX6_linkedSpot 5 (some .int), .methodLink RX6 62 yX6_buildAt, .instanceMethod yX6_buildAt, .selects RX6 yX6_buildAt yX6_buildAt, .code yX6_buildAt cX6_buildAt 2 (some (.object "LinkModels$Build")), .fieldLink RX6 23 "LinkModels" "buildCount" "I", .fieldLink RX6 19 "LinkModels" "builds" "[LLinkModels$Build;", .methodLink RX6 123 yX6_useAt, .instanceMethod yX6_useAt, .selects RX6 yX6_useAt yX6_useAt, .code yX6_useAt cX6_useAt 2 (some (.object "LinkModels$Use")), .fieldLink RX6 32 "LinkModels" "useCount" "I", .fieldLink RX6 28 "LinkModels" "uses" "[LLinkModels$Use;", .methodLink RX6 130 yX1_linked, .static yX1_linked, .initialized RX1, .code yX1_linked cX1_linked 4 (some .int), .fieldLink RX1 9 "LinkModels$Use" "caller" "I", .fieldLink RX1 21 "LinkModels$Use" "owner" "I", .fieldLink RX1 32 "LinkModels$Use" "kind" "I", .methodLink RX1 15 yX0_placeOf, .instanceMethod yX0_placeOf, .selects RX0 yX0_placeOf yX0_placeOf, .initialized RX0, .code yX0_placeOf cX0_placeOf 3 (some .int), .fieldLink RX0 61 "LinkModels$Build" "classCount" "I", .fieldLink RX0 11 "LinkModels$Build" "names" "[I", .methodLink RX1 24 yX0_errorAt, .instanceMethod yX0_errorAt, .selects RX0 yX0_errorAt yX0_errorAt, .code yX0_errorAt cX0_errorAt 2 (some .int), .fieldLink RX0 49 "LinkModels$Build" "errors" "[I", .methodLink RX1 39 yX5_asksField, .instanceMethod yX5_asksField, .selects RX5 yX5_asksField yX5_asksField, .initialized RX5, .code yX5_asksField cX5_asksField 1 (some .boolean), .fieldLink RX5 9 "LinkModels$Use" "kind" "I", .methodLink RX1 47 yX1_linkedMethod, .static yX1_linkedMethod, .code yX1_linkedMethod cX1_linkedMethod 5 (some .int), .static yX6_classOf, .fieldLink RX1 50 "LinkModels$Use" "wanted" "LLinkModels$Signature;", .methodLink RX1 67 yX0_has, .instanceMethod yX0_has, .selects RX0 yX0_has yX0_has, .code yX0_has cX0_has 3 (some .boolean), .fieldLink RX0 30 "LinkModels$Build" "memberMarks" "[I", .methodLink RX1 71 yX5_asksStatic, .instanceMethod yX5_asksStatic, .selects RX5 yX5_asksStatic yX5_asksStatic, .code yX5_asksStatic cX5_asksStatic 1 (some .boolean), .methodLink RX1 27 yX1_failed, .static yX1_failed, .code yX1_failed cX1_failed 1 (some .int), .code yX6_classOf cX6_classOf 1 (some .int), .methodLink RX1 80 yX0_methodFrom, .instanceMethod yX0_methodFrom, .selects RX0 yX0_methodFrom yX0_methodFrom, .code yX0_methodFrom cX0_methodFrom 7 (some .int), .fieldLink RX0 58 "LinkModels$Build" "lineCounts" "[I", .fieldLink RX0 55 "LinkModels$Build" "lines" "[I", .methodLink RX0 82 yX0_has, .methodLink RX0 94 yX0_methodIn, .instanceMethod yX0_methodIn, .selects RX0 yX0_methodIn yX0_methodIn, .code yX0_methodIn cX0_methodIn 5 (some .int), .fieldLink RX0 37 "LinkModels$Build" "typeCounts" "[I", .fieldLink RX0 71 "LinkModels$Signature" "typeCount" "I", .fieldLink RX0 40 "LinkModels$Build" "firsts" "[I", .fieldLink RX0 74 "LinkModels$Signature" "first" "I", .fieldLink RX0 43 "LinkModels$Build" "seconds" "[I", .fieldLink RX0 77 "LinkModels$Signature" "second" "I", .fieldLink RX0 27 "LinkModels$Build" "memberCounts" "[I", .fieldLink RX0 33 "LinkModels$Build" "words" "[J", .fieldLink RX0 65 "LinkModels$Signature" "word" "J", .methodLink RX0 90 yX0_isFace, .instanceMethod yX0_isFace, .selects RX0 yX0_isFace yX0_isFace, .code yX0_isFace cX0_isFace 2 (some .boolean), .fieldLink RX0 15 "LinkModels$Build" "classMarks" "[I", .methodLink RX1 84 yX1_foundInFaces, .static yX1_foundInFaces, .code yX1_foundInFaces cX1_foundInFaces 5 (some .int), .methodLink RX1 88 yX0_nearestFaces, .instanceMethod yX0_nearestFaces, .selects RX0 yX0_nearestFaces yX0_nearestFaces, .code yX0_nearestFaces cX0_nearestFaces 7 (some .int), .fieldLink RX0 52 "LinkModels$Build" "reached" "[I", .methodLink RX1 92 yX0_withBody, .instanceMethod yX0_withBody, .selects RX0 yX0_withBody yX0_withBody, .code yX0_withBody cX0_withBody 6 (some .int), .methodLink RX1 95 yJ6_bitCount_0f7a4, .static yJ6_bitCount_0f7a4, .initialized RJ6, .code yJ6_bitCount_0f7a4 cJ6_bitCount_0f7a4 1 (some .int), .constant RJ6 265 (1431655765), .constant RJ6 266 (858993459), .constant RJ6 267 (252645135), .methodLink RX1 100 yX0_firstMethodOf, .instanceMethod yX0_firstMethodOf, .selects RX0 yX0_firstMethodOf yX0_firstMethodOf, .code yX0_firstMethodOf cX0_firstMethodOf 6 (some .int), .methodLink RX1 77 yX0_isFace, .methodLink RX1 43 yX1_linkedField, .static yX1_linkedField, .code yX1_linkedField cX1_linkedField 6 (some .int), .fieldLink RX1 54 "LinkModels$Signature" "word" "J", .methodLink RX1 74 yX5_puts, .instanceMethod yX5_puts, .selects RX5 yX5_puts yX5_puts, .code yX5_puts cX5_puts 1 (some .boolean), .methodLink RX1 60 yX0_fieldFrom, .instanceMethod yX0_fieldFrom, .selects RX0 yX0_fieldFrom yX0_fieldFrom, .code yX0_fieldFrom cX0_fieldFrom 6 (some .int), .methodLink RX0 86 yX0_fieldIn, .instanceMethod yX0_fieldIn, .selects RX0 yX0_fieldIn yX0_fieldIn, .code yX0_fieldIn cX0_fieldIn 5 (some .int), .methodLink RX1 35 yX0_isWhole, .instanceMethod yX0_isWhole, .selects RX0 yX0_isWhole yX0_isWhole, .code yX0_isWhole cX0_isWhole 2 (some .boolean), .methodLink RX6 113 yX6_classOf] ++ wsX60 ++ wsX50 ++ wsX00 ++ wsX30)
set_option maxRecDepth 100000 in
theorem zgX6_link_X6_linkedSpot_110 : GoodIn zwX6_link (wsV RX6 110 RX6 yX6_linkedSpot zwX6_linkedSpot) := goodIn_app (goodIn_r _ [1, 2, 3, 4] rfl (by decide +kernel)) (goodIn_app (goodIn_app (goodIn_app (goodIn_app (goodIn_r _ [5, 6, 7, 8, 4, 9, 10, 11, 12, 13, 14, 15, 16, 17, 18, 19, 20, 21, 22, 23, 24, 25, 26, 27, 28, 29, 30, 31, 32, 33, 34, 35, 36, 37, 38, 39, 40, 41, 42, 43, 44, 45, 46, 47, 48, 49, 50, 51, 52, 53, 54, 55, 56, 57, 58, 59, 60, 61, 62, 63, 64, 65, 66, 67, 68, 69, 70, 71, 72, 73, 74, 75, 76, 77, 78, 79, 80, 81, 82, 83, 84, 85, 86, 87, 88, 89, 90, 91, 92, 93, 94, 95, 96, 97, 98, 99, 100, 101, 102, 103, 104, 105, 106, 107, 108, 109, 110, 111, 112, 113, 114, 115, 116, 117, 118, 119, 120, 121, 122, 123, 124, 125, 126, 127, 128, 129] rfl (by decide +kernel)) (fun w hw => ⟨(List.mem_cons_of_mem _ (List.mem_append_left _ (List.mem_append_left _ (List.mem_append_left _ (List.mem_append_right _ hw))))), good_of_word (List.all_eq_true.mp zgX6 w hw)⟩)) (fun w hw => ⟨(List.mem_cons_of_mem _ (List.mem_append_left _ (List.mem_append_left _ (List.mem_append_right _ hw)))), good_of_word (List.all_eq_true.mp zgX5 w hw)⟩)) (fun w hw => ⟨(List.mem_cons_of_mem _ (List.mem_append_left _ (List.mem_append_right _ hw))), good_of_word (List.all_eq_true.mp zgX0 w hw)⟩)) (fun w hw => ⟨(List.mem_cons_of_mem _ (List.mem_append_right _ hw)), good_of_word (List.all_eq_true.mp zgX3 w hw)⟩))
set_option maxRecDepth 100000 in
theorem zgX6_link_X6_classOf_113 : GoodIn zwX6_link (va_wsS RX6 113 yX6_classOf zwX6_classOf) := goodIn_app (goodIn_r _ [130, 46, 4] rfl (by decide +kernel)) (goodIn_r _ [60] rfl (by decide +kernel))
set_option maxHeartbeats 4000000 in
set_option maxRecDepth 100000 in
theorem kX6_link (l : Launch) (dC : Nat → ClassId) (dI : Nat → Nat → Nat) (xh : Nat) (tb : Nat) (xb : Nat) (xu : Nat) (rh : Nat) (cI : ClassId) (cJ : ClassId) (cB : ClassId) (cQ : ClassId) (cV : ClassId) (tn : Nat) (bn : Nat) (un : Nat) (bf : Nat → Option Nat) (wf : Nat → Option Nat) (hI : yWI tn bn un) (ib : Int32) (iu : Int32) : Met l yX6_link zwX6_link ({ frames := 6, cells := 0, slots := 0, locals := 145 }) (zPX dC dI [.ref xh, .int ib, .int iu] (yW xh tb xb xu rh cI cJ cB cQ cV (nI tn) (nI bn) (nI un) bf wf) [(cI, .int), (cJ, .long), (cB, .byte), (cQ, .object RX0), (cV, .object RX5)] cI cJ cB bn bf un wf) (vp_Si (fun r => (True))) 0 0 (fun _ => False) := by
  refine Met.ofW (cc := cX6_link) (maxL := 3) (ret := (some .int)) (by decide) rfl ?_
  intro p e s m args below meth c s₁ B hml hv
  obtain ⟨rfl, hP, hK, hE, hBs, hUs⟩ := hv
  have hx := B.exec
  have hb := B.bytes
  have hr := B.returns
  have hts := atoms_spec (ws := zwX6_link) B.pre
  have hown : s.vm.findClass RX6 = some m.cls := findClass_of_methodNamed B.named
  obtain ⟨htn, hbn, hun⟩ := hI
  have hl := lv_entry ([.ref xh, .int ib, .int iu]) (n := 3) (Nat.le_of_ble_eq_true rfl)
  rw [lg_entry_eq]
  generalize (lg_sl ([.ref xh, .int ib, .int iu]) ++ List.replicate (3 - (lg_sl ([.ref xh, .int ib, .int iu])).length) Slot.unset).toArray = ls at hl ⊢
  have hl : lv_has ls 3 [(0, .ref xh), (1, .int ib), (2, .int iu)] := hl
  refine lv_aload_n hx hb dX6_link_0 rfl (lv_at hl 0 rfl) ?_
  refine lv_iload_n hx hb dX6_link_1 rfl (lv_at hl 1 rfl) ?_
  refine lv_iload_n hx hb dX6_link_2 rfl (lv_at hl 2 rfl) ?_
  refine vp_callSi (W.runV (As := [.int ib, .int iu]) (rest := []) ⟨hx, hb, hml, hown, hts⟩ (kX6_linkedSpot l dC dI xh tb xb xu rh cI cJ cB cQ cV tn bn un bf wf ⟨by omega, by omega, by omega⟩ ib iu) (cwV 2 hts zgX6_link_X6_linkedSpot_110 rfl rfl rfl (by decide +kernel) ⟨(show 5 + 1 ≤ 6 by omega), (show 8 + (5 + 11) + 121 ≤ 145 by omega)⟩) (zVX (ci := 5) (q0 := 0) (q := (RX6, TX6, 7)) hK hP hE hBs hUs rfl rfl rfl) rfl rfl hl.1 rfl (lv_room (Nat.le_of_ble_eq_true rfl)) dX6_link_3 ⟨(show 0 + 0 ≤ 0 by omega), (show 0 + 0 ≤ 0 by omega)⟩) (fun r1 hw => ?_)
  have hw : (zSp r1 (fun k => k < 208)) := hw
  have w0r1 := hw
  refine vp_callSi (W.runS (As := [.int r1]) (rest := []) ⟨hx, hb, hml, hown, hts⟩ (kX6_classOf l dC dI   r1 (zSp.imp w0r1 (fun k hk hq => by first | exact hq | trivial | omega))) (va_cwS 1 hts zgX6_link_X6_classOf_113 rfl rfl rfl (by decide +kernel) ⟨(show 0 + 1 ≤ 6 by omega), (show 8 + (1 + 11) + 0 ≤ 145 by omega)⟩) (zSq (hK.sub (tys' := []) [] rfl) (hP.sub (ws' := ([] : va_W)) [] rfl) hE) rfl rfl hl.1 rfl (lv_room (Nat.le_of_ble_eq_true rfl)) dX6_link_6 ⟨(show 0 + 0 ≤ 0 by omega), (show 0 + 0 ≤ 0 by omega)⟩) (fun r2 hw => ?_)
  have hw : (zSp r2 (fun k => k < 16)) ∧ (¬ r1 < 0 → zIn16 r2) := hw
  obtain ⟨w0r2, w1r2⟩ := hw
  exact W.iret (v := r2) hx hb hr (fun t ht hW => ⟨r2, rfl, trivial, ht⟩) (fun _ h => by cases h) dX6_link_9
theorem dX6_member_0 : decode cX6_member 0 = .ok (.aload_n 0, 1) := by decide +kernel
theorem dX6_member_1 : decode cX6_member 1 = .ok (.iload_n 1, 1) := by decide +kernel
theorem dX6_member_2 : decode cX6_member 2 = .ok (.iload_n 2, 1) := by decide +kernel
theorem dX6_member_3 : decode cX6_member 3 = .ok (.invokevirtual 110, 3) := by decide +kernel
theorem dX6_member_6 : decode cX6_member 6 = .ok (.invokestatic 116, 3) := by decide +kernel
theorem dX6_member_9 : decode cX6_member 9 = .ok (.ireturn, 1) := by decide +kernel
def zwX6_member : List Cond := .code yX6_member cX6_member 3 (some .int) :: ([.methodLink RX6 110 yX6_linkedSpot, .instanceMethod yX6_linkedSpot, .selects RX6 yX6_linkedSpot yX6_linkedSpot, .initialized RX6, .code yX6_linkedSpot cX6_linkedSpot 5 (some .int), .methodLink RX6 62 yX6_buildAt, .instanceMethod yX6_buildAt, .selects RX6 yX6_buildAt yX6_buildAt, .code yX6_buildAt cX6_buildAt 2 (some (.object "LinkModels$Build")), .fieldLink RX6 23 "LinkModels" "buildCount" "I", .fieldLink RX6 19 "LinkModels" "builds" "[LLinkModels$Build;", .methodLink RX6 123 yX6_useAt, .instanceMethod yX6_useAt, .selects RX6 yX6_useAt yX6_useAt, .code yX6_useAt cX6_useAt 2 (some (.object "LinkModels$Use")), .fieldLink RX6 32 "LinkModels" "useCount" "I", .fieldLink RX6 28 "LinkModels" "uses" "[LLinkModels$Use;", .methodLink RX6 130 yX1_linked, .static yX1_linked, .initialized RX1, .code yX1_linked cX1_linked 4 (some .int), .fieldLink RX1 9 "LinkModels$Use" "caller" "I", .fieldLink RX1 21 "LinkModels$Use" "owner" "I", .fieldLink RX1 32 "LinkModels$Use" "kind" "I", .methodLink RX1 15 yX0_placeOf, .instanceMethod yX0_placeOf, .selects RX0 yX0_placeOf yX0_placeOf, .initialized RX0, .code yX0_placeOf cX0_placeOf 3 (some .int), .fieldLink RX0 61 "LinkModels$Build" "classCount" "I", .fieldLink RX0 11 "LinkModels$Build" "names" "[I", .methodLink RX1 24 yX0_errorAt, .instanceMethod yX0_errorAt, .selects RX0 yX0_errorAt yX0_errorAt, .code yX0_errorAt cX0_errorAt 2 (some .int), .fieldLink RX0 49 "LinkModels$Build" "errors" "[I", .methodLink RX1 39 yX5_asksField, .instanceMethod yX5_asksField, .selects RX5 yX5_asksField yX5_asksField, .initialized RX5, .code yX5_asksField cX5_asksField 1 (some .boolean), .fieldLink RX5 9 "LinkModels$Use" "kind" "I", .methodLink RX1 47 yX1_linkedMethod, .static yX1_linkedMethod, .code yX1_linkedMethod cX1_linkedMethod 5 (some .int), .static yX6_classOf, .fieldLink RX1 50 "LinkModels$Use" "wanted" "LLinkModels$Signature;", .methodLink RX1 67 yX0_has, .instanceMethod yX0_has, .selects RX0 yX0_has yX0_has, .code yX0_has cX0_has 3 (some .boolean), .fieldLink RX0 30 "LinkModels$Build" "memberMarks" "[I", .methodLink RX1 71 yX5_asksStatic, .instanceMethod yX5_asksStatic, .selects RX5 yX5_asksStatic yX5_asksStatic, .code yX5_asksStatic cX5_asksStatic 1 (some .boolean), .methodLink RX1 27 yX1_failed, .static yX1_failed, .code yX1_failed cX1_failed 1 (some .int), .code yX6_classOf cX6_classOf 1 (some .int), .methodLink RX1 80 yX0_methodFrom, .instanceMethod yX0_methodFrom, .selects RX0 yX0_methodFrom yX0_methodFrom, .code yX0_methodFrom cX0_methodFrom 7 (some .int), .fieldLink RX0 58 "LinkModels$Build" "lineCounts" "[I", .fieldLink RX0 55 "LinkModels$Build" "lines" "[I", .methodLink RX0 82 yX0_has, .methodLink RX0 94 yX0_methodIn, .instanceMethod yX0_methodIn, .selects RX0 yX0_methodIn yX0_methodIn, .code yX0_methodIn cX0_methodIn 5 (some .int), .fieldLink RX0 37 "LinkModels$Build" "typeCounts" "[I", .fieldLink RX0 71 "LinkModels$Signature" "typeCount" "I", .fieldLink RX0 40 "LinkModels$Build" "firsts" "[I", .fieldLink RX0 74 "LinkModels$Signature" "first" "I", .fieldLink RX0 43 "LinkModels$Build" "seconds" "[I", .fieldLink RX0 77 "LinkModels$Signature" "second" "I", .fieldLink RX0 27 "LinkModels$Build" "memberCounts" "[I", .fieldLink RX0 33 "LinkModels$Build" "words" "[J", .fieldLink RX0 65 "LinkModels$Signature" "word" "J", .methodLink RX0 90 yX0_isFace, .instanceMethod yX0_isFace, .selects RX0 yX0_isFace yX0_isFace, .code yX0_isFace cX0_isFace 2 (some .boolean), .fieldLink RX0 15 "LinkModels$Build" "classMarks" "[I", .methodLink RX1 84 yX1_foundInFaces, .static yX1_foundInFaces, .code yX1_foundInFaces cX1_foundInFaces 5 (some .int), .methodLink RX1 88 yX0_nearestFaces, .instanceMethod yX0_nearestFaces, .selects RX0 yX0_nearestFaces yX0_nearestFaces, .code yX0_nearestFaces cX0_nearestFaces 7 (some .int), .fieldLink RX0 52 "LinkModels$Build" "reached" "[I", .methodLink RX1 92 yX0_withBody, .instanceMethod yX0_withBody, .selects RX0 yX0_withBody yX0_withBody, .code yX0_withBody cX0_withBody 6 (some .int), .methodLink RX1 95 yJ6_bitCount_0f7a4, .static yJ6_bitCount_0f7a4, .initialized RJ6, .code yJ6_bitCount_0f7a4 cJ6_bitCount_0f7a4 1 (some .int), .constant RJ6 265 (1431655765), .constant RJ6 266 (858993459), .constant RJ6 267 (252645135), .methodLink RX1 100 yX0_firstMethodOf, .instanceMethod yX0_firstMethodOf, .selects RX0 yX0_firstMethodOf yX0_firstMethodOf, .code yX0_firstMethodOf cX0_firstMethodOf 6 (some .int), .methodLink RX1 77 yX0_isFace, .methodLink RX1 43 yX1_linkedField, .static yX1_linkedField, .code yX1_linkedField cX1_linkedField 6 (some .int), .fieldLink RX1 54 "LinkModels$Signature" "word" "J", .methodLink RX1 74 yX5_puts, .instanceMethod yX5_puts, .selects RX5 yX5_puts yX5_puts, .code yX5_puts cX5_puts 1 (some .boolean), .methodLink RX1 60 yX0_fieldFrom, .instanceMethod yX0_fieldFrom, .selects RX0 yX0_fieldFrom yX0_fieldFrom, .code yX0_fieldFrom cX0_fieldFrom 6 (some .int), .methodLink RX0 86 yX0_fieldIn, .instanceMethod yX0_fieldIn, .selects RX0 yX0_fieldIn yX0_fieldIn, .code yX0_fieldIn cX0_fieldIn 5 (some .int), .methodLink RX1 35 yX0_isWhole, .instanceMethod yX0_isWhole, .selects RX0 yX0_isWhole yX0_isWhole, .code yX0_isWhole cX0_isWhole 2 (some .boolean), .methodLink RX6 116 yX6_placeIn, .static yX6_placeIn, .code yX6_placeIn cX6_placeIn 1 (some .int)] ++ wsX60 ++ wsX50 ++ wsX00 ++ wsX30)
set_option maxRecDepth 100000 in
theorem zgX6_member_X6_linkedSpot_110 : GoodIn zwX6_member (wsV RX6 110 RX6 yX6_linkedSpot zwX6_linkedSpot) := goodIn_app (goodIn_r _ [1, 2, 3, 4] rfl (by decide +kernel)) (goodIn_app (goodIn_app (goodIn_app (goodIn_app (goodIn_r _ [5, 6, 7, 8, 4, 9, 10, 11, 12, 13, 14, 15, 16, 17, 18, 19, 20, 21, 22, 23, 24, 25, 26, 27, 28, 29, 30, 31, 32, 33, 34, 35, 36, 37, 38, 39, 40, 41, 42, 43, 44, 45, 46, 47, 48, 49, 50, 51, 52, 53, 54, 55, 56, 57, 58, 59, 60, 61, 62, 63, 64, 65, 66, 67, 68, 69, 70, 71, 72, 73, 74, 75, 76, 77, 78, 79, 80, 81, 82, 83, 84, 85, 86, 87, 88, 89, 90, 91, 92, 93, 94, 95, 96, 97, 98, 99, 100, 101, 102, 103, 104, 105, 106, 107, 108, 109, 110, 111, 112, 113, 114, 115, 116, 117, 118, 119, 120, 121, 122, 123, 124, 125, 126, 127, 128, 129] rfl (by decide +kernel)) (fun w hw => ⟨(List.mem_cons_of_mem _ (List.mem_append_left _ (List.mem_append_left _ (List.mem_append_left _ (List.mem_append_right _ hw))))), good_of_word (List.all_eq_true.mp zgX6 w hw)⟩)) (fun w hw => ⟨(List.mem_cons_of_mem _ (List.mem_append_left _ (List.mem_append_left _ (List.mem_append_right _ hw)))), good_of_word (List.all_eq_true.mp zgX5 w hw)⟩)) (fun w hw => ⟨(List.mem_cons_of_mem _ (List.mem_append_left _ (List.mem_append_right _ hw))), good_of_word (List.all_eq_true.mp zgX0 w hw)⟩)) (fun w hw => ⟨(List.mem_cons_of_mem _ (List.mem_append_right _ hw)), good_of_word (List.all_eq_true.mp zgX3 w hw)⟩))
set_option maxRecDepth 100000 in
theorem zgX6_member_X6_placeIn_116 : GoodIn zwX6_member (va_wsS RX6 116 yX6_placeIn zwX6_placeIn) := goodIn_app (goodIn_r _ [130, 131, 4] rfl (by decide +kernel)) (goodIn_r _ [132] rfl (by decide +kernel))
set_option maxHeartbeats 4000000 in
set_option maxRecDepth 100000 in
theorem kX6_member (l : Launch) (dC : Nat → ClassId) (dI : Nat → Nat → Nat) (xh : Nat) (tb : Nat) (xb : Nat) (xu : Nat) (rh : Nat) (cI : ClassId) (cJ : ClassId) (cB : ClassId) (cQ : ClassId) (cV : ClassId) (tn : Nat) (bn : Nat) (un : Nat) (bf : Nat → Option Nat) (wf : Nat → Option Nat) (hI : yWI tn bn un) (ib : Int32) (iu : Int32) : Met l yX6_member zwX6_member ({ frames := 6, cells := 0, slots := 0, locals := 145 }) (zPX dC dI [.ref xh, .int ib, .int iu] (yW xh tb xb xu rh cI cJ cB cQ cV (nI tn) (nI bn) (nI un) bf wf) [(cI, .int), (cJ, .long), (cB, .byte), (cQ, .object RX0), (cV, .object RX5)] cI cJ cB bn bf un wf) (vp_Si (fun r => (True))) 0 0 (fun _ => False) := by
  refine Met.ofW (cc := cX6_member) (maxL := 3) (ret := (some .int)) (by decide) rfl ?_
  intro p e s m args below meth c s₁ B hml hv
  obtain ⟨rfl, hP, hK, hE, hBs, hUs⟩ := hv
  have hx := B.exec
  have hb := B.bytes
  have hr := B.returns
  have hts := atoms_spec (ws := zwX6_member) B.pre
  have hown : s.vm.findClass RX6 = some m.cls := findClass_of_methodNamed B.named
  obtain ⟨htn, hbn, hun⟩ := hI
  have hl := lv_entry ([.ref xh, .int ib, .int iu]) (n := 3) (Nat.le_of_ble_eq_true rfl)
  rw [lg_entry_eq]
  generalize (lg_sl ([.ref xh, .int ib, .int iu]) ++ List.replicate (3 - (lg_sl ([.ref xh, .int ib, .int iu])).length) Slot.unset).toArray = ls at hl ⊢
  have hl : lv_has ls 3 [(0, .ref xh), (1, .int ib), (2, .int iu)] := hl
  refine lv_aload_n hx hb dX6_member_0 rfl (lv_at hl 0 rfl) ?_
  refine lv_iload_n hx hb dX6_member_1 rfl (lv_at hl 1 rfl) ?_
  refine lv_iload_n hx hb dX6_member_2 rfl (lv_at hl 2 rfl) ?_
  refine vp_callSi (W.runV (As := [.int ib, .int iu]) (rest := []) ⟨hx, hb, hml, hown, hts⟩ (kX6_linkedSpot l dC dI xh tb xb xu rh cI cJ cB cQ cV tn bn un bf wf ⟨by omega, by omega, by omega⟩ ib iu) (cwV 2 hts zgX6_member_X6_linkedSpot_110 rfl rfl rfl (by decide +kernel) ⟨(show 5 + 1 ≤ 6 by omega), (show 8 + (5 + 11) + 121 ≤ 145 by omega)⟩) (zVX (ci := 5) (q0 := 0) (q := (RX6, TX6, 7)) hK hP hE hBs hUs rfl rfl rfl) rfl rfl hl.1 rfl (lv_room (Nat.le_of_ble_eq_true rfl)) dX6_member_3 ⟨(show 0 + 0 ≤ 0 by omega), (show 0 + 0 ≤ 0 by omega)⟩) (fun r1 hw => ?_)
  have hw : (zSp r1 (fun k => k < 208)) := hw
  have w0r1 := hw
  refine vp_callSi (W.runS (As := [.int r1]) (rest := []) ⟨hx, hb, hml, hown, hts⟩ (kX6_placeIn l dC dI   r1 (zSp.imp w0r1 (fun k hk hq => by first | exact hq | trivial | omega))) (va_cwS 1 hts zgX6_member_X6_placeIn_116 rfl rfl rfl (by decide +kernel) ⟨(show 0 + 1 ≤ 6 by omega), (show 8 + (1 + 11) + 0 ≤ 145 by omega)⟩) (zSq (hK.sub (tys' := []) [] rfl) (hP.sub (ws' := ([] : va_W)) [] rfl) hE) rfl rfl hl.1 rfl (lv_room (Nat.le_of_ble_eq_true rfl)) dX6_member_6 ⟨(show 0 + 0 ≤ 0 by omega), (show 0 + 0 ≤ 0 by omega)⟩) (fun r2 hw => ?_)
  have hw : (True) := hw
  have w0r2 := hw
  exact W.iret (v := r2) hx hb hr (fun t ht hW => ⟨r2, rfl, trivial, ht⟩) (fun _ h => by cases h) dX6_member_9
theorem dX6_done_0 : decode cX6_done 0 = .ok (.aload_n 0, 1) := by decide +kernel
theorem dX6_done_1 : decode cX6_done 1 = .ok (.iload_n 1, 1) := by decide +kernel
theorem dX6_done_2 : decode cX6_done 2 = .ok (.iload_n 2, 1) := by decide +kernel
theorem dX6_done_3 : decode cX6_done 3 = .ok (.iload_n 3, 1) := by decide +kernel
theorem dX6_done_4 : decode cX6_done 4 = .ok (.invokevirtual 119, 3) := by decide +kernel
theorem dX6_done_7 : decode cX6_done 7 = .ok (.invokestatic 113, 3) := by decide +kernel
theorem dX6_done_10 : decode cX6_done 10 = .ok (.ireturn, 1) := by decide +kernel
def zwX6_done : List Cond := .code yX6_done cX6_done 4 (some .int) :: ([.methodLink RX6 119 yX6_doneSpot, .instanceMethod yX6_doneSpot, .selects RX6 yX6_doneSpot yX6_doneSpot, .initialized RX6, .code yX6_doneSpot cX6_doneSpot 7 (some .int), .fieldLink RX6 127 "LinkModels$Use" "kind" "I", .methodLink RX6 62 yX6_buildAt, .instanceMethod yX6_buildAt, .selects RX6 yX6_buildAt yX6_buildAt, .code yX6_buildAt cX6_buildAt 2 (some (.object "LinkModels$Build")), .fieldLink RX6 23 "LinkModels" "buildCount" "I", .fieldLink RX6 19 "LinkModels" "builds" "[LLinkModels$Build;", .methodLink RX6 123 yX6_useAt, .instanceMethod yX6_useAt, .selects RX6 yX6_useAt yX6_useAt, .code yX6_useAt cX6_useAt 2 (some (.object "LinkModels$Use")), .fieldLink RX6 32 "LinkModels" "useCount" "I", .fieldLink RX6 28 "LinkModels" "uses" "[LLinkModels$Use;", .methodLink RX6 130 yX1_linked, .static yX1_linked, .initialized RX1, .code yX1_linked cX1_linked 4 (some .int), .fieldLink RX1 9 "LinkModels$Use" "caller" "I", .fieldLink RX1 21 "LinkModels$Use" "owner" "I", .fieldLink RX1 32 "LinkModels$Use" "kind" "I", .methodLink RX1 15 yX0_placeOf, .instanceMethod yX0_placeOf, .selects RX0 yX0_placeOf yX0_placeOf, .initialized RX0, .code yX0_placeOf cX0_placeOf 3 (some .int), .fieldLink RX0 61 "LinkModels$Build" "classCount" "I", .fieldLink RX0 11 "LinkModels$Build" "names" "[I", .methodLink RX1 24 yX0_errorAt, .instanceMethod yX0_errorAt, .selects RX0 yX0_errorAt yX0_errorAt, .code yX0_errorAt cX0_errorAt 2 (some .int), .fieldLink RX0 49 "LinkModels$Build" "errors" "[I", .methodLink RX1 39 yX5_asksField, .instanceMethod yX5_asksField, .selects RX5 yX5_asksField yX5_asksField, .initialized RX5, .code yX5_asksField cX5_asksField 1 (some .boolean), .fieldLink RX5 9 "LinkModels$Use" "kind" "I", .methodLink RX1 47 yX1_linkedMethod, .static yX1_linkedMethod, .code yX1_linkedMethod cX1_linkedMethod 5 (some .int), .static yX6_classOf, .fieldLink RX1 50 "LinkModels$Use" "wanted" "LLinkModels$Signature;", .methodLink RX1 67 yX0_has, .instanceMethod yX0_has, .selects RX0 yX0_has yX0_has, .code yX0_has cX0_has 3 (some .boolean), .fieldLink RX0 30 "LinkModels$Build" "memberMarks" "[I", .methodLink RX1 71 yX5_asksStatic, .instanceMethod yX5_asksStatic, .selects RX5 yX5_asksStatic yX5_asksStatic, .code yX5_asksStatic cX5_asksStatic 1 (some .boolean), .methodLink RX1 27 yX1_failed, .static yX1_failed, .code yX1_failed cX1_failed 1 (some .int), .code yX6_classOf cX6_classOf 1 (some .int), .methodLink RX1 80 yX0_methodFrom, .instanceMethod yX0_methodFrom, .selects RX0 yX0_methodFrom yX0_methodFrom, .code yX0_methodFrom cX0_methodFrom 7 (some .int), .fieldLink RX0 58 "LinkModels$Build" "lineCounts" "[I", .fieldLink RX0 55 "LinkModels$Build" "lines" "[I", .methodLink RX0 82 yX0_has, .methodLink RX0 94 yX0_methodIn, .instanceMethod yX0_methodIn, .selects RX0 yX0_methodIn yX0_methodIn, .code yX0_methodIn cX0_methodIn 5 (some .int), .fieldLink RX0 37 "LinkModels$Build" "typeCounts" "[I", .fieldLink RX0 71 "LinkModels$Signature" "typeCount" "I", .fieldLink RX0 40 "LinkModels$Build" "firsts" "[I", .fieldLink RX0 74 "LinkModels$Signature" "first" "I", .fieldLink RX0 43 "LinkModels$Build" "seconds" "[I", .fieldLink RX0 77 "LinkModels$Signature" "second" "I", .fieldLink RX0 27 "LinkModels$Build" "memberCounts" "[I", .fieldLink RX0 33 "LinkModels$Build" "words" "[J", .fieldLink RX0 65 "LinkModels$Signature" "word" "J", .methodLink RX0 90 yX0_isFace, .instanceMethod yX0_isFace, .selects RX0 yX0_isFace yX0_isFace, .code yX0_isFace cX0_isFace 2 (some .boolean), .fieldLink RX0 15 "LinkModels$Build" "classMarks" "[I", .methodLink RX1 84 yX1_foundInFaces, .static yX1_foundInFaces, .code yX1_foundInFaces cX1_foundInFaces 5 (some .int), .methodLink RX1 88 yX0_nearestFaces, .instanceMethod yX0_nearestFaces, .selects RX0 yX0_nearestFaces yX0_nearestFaces, .code yX0_nearestFaces cX0_nearestFaces 7 (some .int), .fieldLink RX0 52 "LinkModels$Build" "reached" "[I", .methodLink RX1 92 yX0_withBody, .instanceMethod yX0_withBody, .selects RX0 yX0_withBody yX0_withBody, .code yX0_withBody cX0_withBody 6 (some .int), .methodLink RX1 95 yJ6_bitCount_0f7a4, .static yJ6_bitCount_0f7a4, .initialized RJ6, .code yJ6_bitCount_0f7a4 cJ6_bitCount_0f7a4 1 (some .int), .constant RJ6 265 (1431655765), .constant RJ6 266 (858993459), .constant RJ6 267 (252645135), .methodLink RX1 100 yX0_firstMethodOf, .instanceMethod yX0_firstMethodOf, .selects RX0 yX0_firstMethodOf yX0_firstMethodOf, .code yX0_firstMethodOf cX0_firstMethodOf 6 (some .int), .methodLink RX1 77 yX0_isFace, .methodLink RX1 43 yX1_linkedField, .static yX1_linkedField, .code yX1_linkedField cX1_linkedField 6 (some .int), .fieldLink RX1 54 "LinkModels$Signature" "word" "J", .methodLink RX1 74 yX5_puts, .instanceMethod yX5_puts, .selects RX5 yX5_puts yX5_puts, .code yX5_puts cX5_puts 1 (some .boolean), .methodLink RX1 60 yX0_fieldFrom, .instanceMethod yX0_fieldFrom, .selects RX0 yX0_fieldFrom yX0_fieldFrom, .code yX0_fieldFrom cX0_fieldFrom 6 (some .int), .methodLink RX0 86 yX0_fieldIn, .instanceMethod yX0_fieldIn, .selects RX0 yX0_fieldIn yX0_fieldIn, .code yX0_fieldIn cX0_fieldIn 5 (some .int), .methodLink RX1 35 yX0_isWhole, .instanceMethod yX0_isWhole, .selects RX0 yX0_isWhole yX0_isWhole, .code yX0_isWhole cX0_isWhole 2 (some .boolean), .methodLink RX6 157 yX1_performed, .static yX1_performed, .code yX1_performed cX1_performed 6 (some .int), .methodLink RX1 104 yX0_isOf, .instanceMethod yX0_isOf, .selects RX0 yX0_isOf yX0_isOf, .code yX0_isOf cX0_isOf 3 (some .boolean), .methodLink RX1 107 yX1_performedByFaces, .static yX1_performedByFaces, .code yX1_performedByFaces cX1_performedByFaces 4 (some .int), .methodLink RX6 113 yX6_classOf] ++ wsX50 ++ wsX60 ++ wsX00 ++ wsX30)
set_option maxRecDepth 100000 in
theorem zgX6_done_X6_doneSpot_119 : GoodIn zwX6_done (wsV RX6 119 RX6 yX6_doneSpot zwX6_doneSpot) := goodIn_app (goodIn_r _ [1, 2, 3, 4] rfl (by decide +kernel)) (goodIn_app (goodIn_app (goodIn_app (goodIn_app (goodIn_r _ [5, 6, 7, 8, 9, 4, 10, 11, 12, 13, 14, 15, 16, 17, 18, 19, 20, 21, 22, 23, 24, 25, 26, 27, 28, 29, 30, 31, 32, 33, 34, 35, 36, 37, 38, 39, 40, 41, 42, 43, 44, 45, 46, 47, 48, 49, 50, 51, 52, 53, 54, 55, 56, 57, 58, 59, 60, 61, 62, 63, 64, 65, 66, 67, 68, 69, 70, 71, 72, 73, 74, 75, 76, 77, 78, 79, 80, 81, 82, 83, 84, 85, 86, 87, 88, 89, 90, 91, 92, 93, 94, 95, 96, 97, 98, 99, 100, 101, 102, 103, 104, 105, 106, 107, 108, 109, 110, 111, 112, 113, 114, 115, 116, 117, 118, 119, 120, 121, 122, 123, 124, 125, 126, 127, 128, 129, 130, 131, 132, 133, 134, 135, 136, 137, 138, 139, 140] rfl (by decide +kernel)) (fun w hw => ⟨(List.mem_cons_of_mem _ (List.mem_append_left _ (List.mem_append_left _ (List.mem_append_left _ (List.mem_append_right _ hw))))), good_of_word (List.all_eq_true.mp zgX5 w hw)⟩)) (fun w hw => ⟨(List.mem_cons_of_mem _ (List.mem_append_left _ (List.mem_append_left _ (List.mem_append_right _ hw)))), good_of_word (List.all_eq_true.mp zgX6 w hw)⟩)) (fun w hw => ⟨(List.mem_cons_of_mem _ (List.mem_append_left _ (List.mem_append_right _ hw))), good_of_word (List.all_eq_true.mp zgX0 w hw)⟩)) (fun w hw => ⟨(List.mem_cons_of_mem _ (List.mem_append_right _ hw)), good_of_word (List.all_eq_true.mp zgX3 w hw)⟩))
set_option maxRecDepth 100000 in
theorem zgX6_done_X6_classOf_113 : GoodIn zwX6_done (va_wsS RX6 113 yX6_classOf zwX6_classOf) := goodIn_app (goodIn_r _ [141, 47, 4] rfl (by decide +kernel)) (goodIn_r _ [61] rfl (by decide +kernel))
set_option maxHeartbeats 4000000 in
set_option maxRecDepth 100000 in
theorem kX6_done (l : Launch) (dC : Nat → ClassId) (dI : Nat → Nat → Nat) (xh : Nat) (tb : Nat) (xb : Nat) (xu : Nat) (rh : Nat) (cI : ClassId) (cJ : ClassId) (cB : ClassId) (cQ : ClassId) (cV : ClassId) (tn : Nat) (bn : Nat) (un : Nat) (bf : Nat → Option Nat) (wf : Nat → Option Nat) (hI : yWI tn bn un) (ib : Int32) (iu : Int32) (rc : Int32) : Met l yX6_done zwX6_done ({ frames := 6, cells := 0, slots := 0, locals := 147 }) (zPX dC dI [.ref xh, .int ib, .int iu, .int rc] (yW xh tb xb xu rh cI cJ cB cQ cV (nI tn) (nI bn) (nI un) bf wf) [(cI, .int), (cJ, .long), (cB, .byte), (cQ, .object RX0), (cV, .object RX5)] cI cJ cB bn bf un wf) (vp_Si (fun r => (True))) 0 0 (fun _ => False) := by
  refine Met.ofW (cc := cX6_done) (maxL := 4) (ret := (some .int)) (by decide) rfl ?_
  intro p e s m args below meth c s₁ B hml hv
  obtain ⟨rfl, hP, hK, hE, hBs, hUs⟩ := hv
  have hx := B.exec
  have hb := B.bytes
  have hr := B.returns
  have hts := atoms_spec (ws := zwX6_done) B.pre
  have hown : s.vm.findClass RX6 = some m.cls := findClass_of_methodNamed B.named
  obtain ⟨htn, hbn, hun⟩ := hI
  have hl := lv_entry ([.ref xh, .int ib, .int iu, .int rc]) (n := 4) (Nat.le_of_ble_eq_true rfl)
  rw [lg_entry_eq]
  generalize (lg_sl ([.ref xh, .int ib, .int iu, .int rc]) ++ List.replicate (4 - (lg_sl ([.ref xh, .int ib, .int iu, .int rc])).length) Slot.unset).toArray = ls at hl ⊢
  have hl : lv_has ls 4 [(0, .ref xh), (1, .int ib), (2, .int iu), (3, .int rc)] := hl
  refine lv_aload_n hx hb dX6_done_0 rfl (lv_at hl 0 rfl) ?_
  refine lv_iload_n hx hb dX6_done_1 rfl (lv_at hl 1 rfl) ?_
  refine lv_iload_n hx hb dX6_done_2 rfl (lv_at hl 2 rfl) ?_
  refine lv_iload_n hx hb dX6_done_3 rfl (lv_at hl 3 rfl) ?_
  refine vp_callSi (W.runV (As := [.int ib, .int iu, .int rc]) (rest := []) ⟨hx, hb, hml, hown, hts⟩ (kX6_doneSpot l dC dI xh tb xb xu rh cI cJ cB cQ cV tn bn un bf wf ⟨by omega, by omega, by omega⟩ ib iu rc) (cwV 3 hts zgX6_done_X6_doneSpot_119 rfl rfl rfl (by decide +kernel) ⟨(show 5 + 1 ≤ 6 by omega), (show 8 + (7 + 11) + 121 ≤ 147 by omega)⟩) (zVX (ci := 5) (q0 := 0) (q := (RX6, TX6, 7)) hK hP hE hBs hUs rfl rfl rfl) rfl rfl hl.1 rfl (lv_room (Nat.le_of_ble_eq_true rfl)) dX6_done_4 ⟨(show 0 + 0 ≤ 0 by omega), (show 0 + 0 ≤ 0 by omega)⟩) (fun r1 hw => ?_)
  have hw : (zSp r1 (fun k => k < 208)) := hw
  have w0r1 := hw
  refine vp_callSi (W.runS (As := [.int r1]) (rest := []) ⟨hx, hb, hml, hown, hts⟩ (kX6_classOf l dC dI   r1 (zSp.imp w0r1 (fun k hk hq => by first | exact hq | trivial | omega))) (va_cwS 1 hts zgX6_done_X6_classOf_113 rfl rfl rfl (by decide +kernel) ⟨(show 0 + 1 ≤ 6 by omega), (show 8 + (1 + 11) + 0 ≤ 147 by omega)⟩) (zSq (hK.sub (tys' := []) [] rfl) (hP.sub (ws' := ([] : va_W)) [] rfl) hE) rfl rfl hl.1 rfl (lv_room (Nat.le_of_ble_eq_true rfl)) dX6_done_7 ⟨(show 0 + 0 ≤ 0 by omega), (show 0 + 0 ≤ 0 by omega)⟩) (fun r2 hw => ?_)
  have hw : (zSp r2 (fun k => k < 16)) ∧ (¬ r1 < 0 → zIn16 r2) := hw
  obtain ⟨w0r2, w1r2⟩ := hw
  exact W.iret (v := r2) hx hb hr (fun t ht hW => ⟨r2, rfl, trivial, ht⟩) (fun _ h => by cases h) dX6_done_10
theorem dX6_doneMember_0 : decode cX6_doneMember 0 = .ok (.aload_n 0, 1) := by decide +kernel
theorem dX6_doneMember_1 : decode cX6_doneMember 1 = .ok (.iload_n 1, 1) := by decide +kernel
theorem dX6_doneMember_2 : decode cX6_doneMember 2 = .ok (.iload_n 2, 1) := by decide +kernel
theorem dX6_doneMember_3 : decode cX6_doneMember 3 = .ok (.iload_n 3, 1) := by decide +kernel
theorem dX6_doneMember_4 : decode cX6_doneMember 4 = .ok (.invokevirtual 119, 3) := by decide +kernel
theorem dX6_doneMember_7 : decode cX6_doneMember 7 = .ok (.invokestatic 116, 3) := by decide +kernel
theorem dX6_doneMember_10 : decode cX6_doneMember 10 = .ok (.ireturn, 1) := by decide +kernel
def zwX6_doneMember : List Cond := .code yX6_doneMember cX6_doneMember 4 (some .int) :: ([.methodLink RX6 119 yX6_doneSpot, .instanceMethod yX6_doneSpot, .selects RX6 yX6_doneSpot yX6_doneSpot, .initialized RX6, .code yX6_doneSpot cX6_doneSpot 7 (some .int), .fieldLink RX6 127 "LinkModels$Use" "kind" "I", .methodLink RX6 62 yX6_buildAt, .instanceMethod yX6_buildAt, .selects RX6 yX6_buildAt yX6_buildAt, .code yX6_buildAt cX6_buildAt 2 (some (.object "LinkModels$Build")), .fieldLink RX6 23 "LinkModels" "buildCount" "I", .fieldLink RX6 19 "LinkModels" "builds" "[LLinkModels$Build;", .methodLink RX6 123 yX6_useAt, .instanceMethod yX6_useAt, .selects RX6 yX6_useAt yX6_useAt, .code yX6_useAt cX6_useAt 2 (some (.object "LinkModels$Use")), .fieldLink RX6 32 "LinkModels" "useCount" "I", .fieldLink RX6 28 "LinkModels" "uses" "[LLinkModels$Use;", .methodLink RX6 130 yX1_linked, .static yX1_linked, .initialized RX1, .code yX1_linked cX1_linked 4 (some .int), .fieldLink RX1 9 "LinkModels$Use" "caller" "I", .fieldLink RX1 21 "LinkModels$Use" "owner" "I", .fieldLink RX1 32 "LinkModels$Use" "kind" "I", .methodLink RX1 15 yX0_placeOf, .instanceMethod yX0_placeOf, .selects RX0 yX0_placeOf yX0_placeOf, .initialized RX0, .code yX0_placeOf cX0_placeOf 3 (some .int), .fieldLink RX0 61 "LinkModels$Build" "classCount" "I", .fieldLink RX0 11 "LinkModels$Build" "names" "[I", .methodLink RX1 24 yX0_errorAt, .instanceMethod yX0_errorAt, .selects RX0 yX0_errorAt yX0_errorAt, .code yX0_errorAt cX0_errorAt 2 (some .int), .fieldLink RX0 49 "LinkModels$Build" "errors" "[I", .methodLink RX1 39 yX5_asksField, .instanceMethod yX5_asksField, .selects RX5 yX5_asksField yX5_asksField, .initialized RX5, .code yX5_asksField cX5_asksField 1 (some .boolean), .fieldLink RX5 9 "LinkModels$Use" "kind" "I", .methodLink RX1 47 yX1_linkedMethod, .static yX1_linkedMethod, .code yX1_linkedMethod cX1_linkedMethod 5 (some .int), .static yX6_classOf, .fieldLink RX1 50 "LinkModels$Use" "wanted" "LLinkModels$Signature;", .methodLink RX1 67 yX0_has, .instanceMethod yX0_has, .selects RX0 yX0_has yX0_has, .code yX0_has cX0_has 3 (some .boolean), .fieldLink RX0 30 "LinkModels$Build" "memberMarks" "[I", .methodLink RX1 71 yX5_asksStatic, .instanceMethod yX5_asksStatic, .selects RX5 yX5_asksStatic yX5_asksStatic, .code yX5_asksStatic cX5_asksStatic 1 (some .boolean), .methodLink RX1 27 yX1_failed, .static yX1_failed, .code yX1_failed cX1_failed 1 (some .int), .code yX6_classOf cX6_classOf 1 (some .int), .methodLink RX1 80 yX0_methodFrom, .instanceMethod yX0_methodFrom, .selects RX0 yX0_methodFrom yX0_methodFrom, .code yX0_methodFrom cX0_methodFrom 7 (some .int), .fieldLink RX0 58 "LinkModels$Build" "lineCounts" "[I", .fieldLink RX0 55 "LinkModels$Build" "lines" "[I", .methodLink RX0 82 yX0_has, .methodLink RX0 94 yX0_methodIn, .instanceMethod yX0_methodIn, .selects RX0 yX0_methodIn yX0_methodIn, .code yX0_methodIn cX0_methodIn 5 (some .int), .fieldLink RX0 37 "LinkModels$Build" "typeCounts" "[I", .fieldLink RX0 71 "LinkModels$Signature" "typeCount" "I", .fieldLink RX0 40 "LinkModels$Build" "firsts" "[I", .fieldLink RX0 74 "LinkModels$Signature" "first" "I", .fieldLink RX0 43 "LinkModels$Build" "seconds" "[I", .fieldLink RX0 77 "LinkModels$Signature" "second" "I", .fieldLink RX0 27 "LinkModels$Build" "memberCounts" "[I", .fieldLink RX0 33 "LinkModels$Build" "words" "[J", .fieldLink RX0 65 "LinkModels$Signature" "word" "J", .methodLink RX0 90 yX0_isFace, .instanceMethod yX0_isFace, .selects RX0 yX0_isFace yX0_isFace, .code yX0_isFace cX0_isFace 2 (some .boolean), .fieldLink RX0 15 "LinkModels$Build" "classMarks" "[I", .methodLink RX1 84 yX1_foundInFaces, .static yX1_foundInFaces, .code yX1_foundInFaces cX1_foundInFaces 5 (some .int), .methodLink RX1 88 yX0_nearestFaces, .instanceMethod yX0_nearestFaces, .selects RX0 yX0_nearestFaces yX0_nearestFaces, .code yX0_nearestFaces cX0_nearestFaces 7 (some .int), .fieldLink RX0 52 "LinkModels$Build" "reached" "[I", .methodLink RX1 92 yX0_withBody, .instanceMethod yX0_withBody, .selects RX0 yX0_withBody yX0_withBody, .code yX0_withBody cX0_withBody 6 (some .int), .methodLink RX1 95 yJ6_bitCount_0f7a4, .static yJ6_bitCount_0f7a4, .initialized RJ6, .code yJ6_bitCount_0f7a4 cJ6_bitCount_0f7a4 1 (some .int), .constant RJ6 265 (1431655765), .constant RJ6 266 (858993459), .constant RJ6 267 (252645135), .methodLink RX1 100 yX0_firstMethodOf, .instanceMethod yX0_firstMethodOf, .selects RX0 yX0_firstMethodOf yX0_firstMethodOf, .code yX0_firstMethodOf cX0_firstMethodOf 6 (some .int), .methodLink RX1 77 yX0_isFace, .methodLink RX1 43 yX1_linkedField, .static yX1_linkedField, .code yX1_linkedField cX1_linkedField 6 (some .int), .fieldLink RX1 54 "LinkModels$Signature" "word" "J", .methodLink RX1 74 yX5_puts, .instanceMethod yX5_puts, .selects RX5 yX5_puts yX5_puts, .code yX5_puts cX5_puts 1 (some .boolean), .methodLink RX1 60 yX0_fieldFrom, .instanceMethod yX0_fieldFrom, .selects RX0 yX0_fieldFrom yX0_fieldFrom, .code yX0_fieldFrom cX0_fieldFrom 6 (some .int), .methodLink RX0 86 yX0_fieldIn, .instanceMethod yX0_fieldIn, .selects RX0 yX0_fieldIn yX0_fieldIn, .code yX0_fieldIn cX0_fieldIn 5 (some .int), .methodLink RX1 35 yX0_isWhole, .instanceMethod yX0_isWhole, .selects RX0 yX0_isWhole yX0_isWhole, .code yX0_isWhole cX0_isWhole 2 (some .boolean), .methodLink RX6 157 yX1_performed, .static yX1_performed, .code yX1_performed cX1_performed 6 (some .int), .methodLink RX1 104 yX0_isOf, .instanceMethod yX0_isOf, .selects RX0 yX0_isOf yX0_isOf, .code yX0_isOf cX0_isOf 3 (some .boolean), .methodLink RX1 107 yX1_performedByFaces, .static yX1_performedByFaces, .code yX1_performedByFaces cX1_performedByFaces 4 (some .int), .methodLink RX6 116 yX6_placeIn, .static yX6_placeIn, .code yX6_placeIn cX6_placeIn 1 (some .int)] ++ wsX50 ++ wsX60 ++ wsX00 ++ wsX30)
set_option maxRecDepth 100000 in
theorem zgX6_doneMember_X6_doneSpot_119 : GoodIn zwX6_doneMember (wsV RX6 119 RX6 yX6_doneSpot zwX6_doneSpot) := goodIn_app (goodIn_r _ [1, 2, 3, 4] rfl (by decide +kernel)) (goodIn_app (goodIn_app (goodIn_app (goodIn_app (goodIn_r _ [5, 6, 7, 8, 9, 4, 10, 11, 12, 13, 14, 15, 16, 17, 18, 19, 20, 21, 22, 23, 24, 25, 26, 27, 28, 29, 30, 31, 32, 33, 34, 35, 36, 37, 38, 39, 40, 41, 42, 43, 44, 45, 46, 47, 48, 49, 50, 51, 52, 53, 54, 55, 56, 57, 58, 59, 60, 61, 62, 63, 64, 65, 66, 67, 68, 69, 70, 71, 72, 73, 74, 75, 76, 77, 78, 79, 80, 81, 82, 83, 84, 85, 86, 87, 88, 89, 90, 91, 92, 93, 94, 95, 96, 97, 98, 99, 100, 101, 102, 103, 104, 105, 106, 107, 108, 109, 110, 111, 112, 113, 114, 115, 116, 117, 118, 119, 120, 121, 122, 123, 124, 125, 126, 127, 128, 129, 130, 131, 132, 133, 134, 135, 136, 137, 138, 139, 140] rfl (by decide +kernel)) (fun w hw => ⟨(List.mem_cons_of_mem _ (List.mem_append_left _ (List.mem_append_left _ (List.mem_append_left _ (List.mem_append_right _ hw))))), good_of_word (List.all_eq_true.mp zgX5 w hw)⟩)) (fun w hw => ⟨(List.mem_cons_of_mem _ (List.mem_append_left _ (List.mem_append_left _ (List.mem_append_right _ hw)))), good_of_word (List.all_eq_true.mp zgX6 w hw)⟩)) (fun w hw => ⟨(List.mem_cons_of_mem _ (List.mem_append_left _ (List.mem_append_right _ hw))), good_of_word (List.all_eq_true.mp zgX0 w hw)⟩)) (fun w hw => ⟨(List.mem_cons_of_mem _ (List.mem_append_right _ hw)), good_of_word (List.all_eq_true.mp zgX3 w hw)⟩))
set_option maxRecDepth 100000 in
theorem zgX6_doneMember_X6_placeIn_116 : GoodIn zwX6_doneMember (va_wsS RX6 116 yX6_placeIn zwX6_placeIn) := goodIn_app (goodIn_r _ [141, 142, 4] rfl (by decide +kernel)) (goodIn_r _ [143] rfl (by decide +kernel))
set_option maxHeartbeats 4000000 in
set_option maxRecDepth 100000 in
theorem kX6_doneMember (l : Launch) (dC : Nat → ClassId) (dI : Nat → Nat → Nat) (xh : Nat) (tb : Nat) (xb : Nat) (xu : Nat) (rh : Nat) (cI : ClassId) (cJ : ClassId) (cB : ClassId) (cQ : ClassId) (cV : ClassId) (tn : Nat) (bn : Nat) (un : Nat) (bf : Nat → Option Nat) (wf : Nat → Option Nat) (hI : yWI tn bn un) (ib : Int32) (iu : Int32) (rc : Int32) : Met l yX6_doneMember zwX6_doneMember ({ frames := 6, cells := 0, slots := 0, locals := 147 }) (zPX dC dI [.ref xh, .int ib, .int iu, .int rc] (yW xh tb xb xu rh cI cJ cB cQ cV (nI tn) (nI bn) (nI un) bf wf) [(cI, .int), (cJ, .long), (cB, .byte), (cQ, .object RX0), (cV, .object RX5)] cI cJ cB bn bf un wf) (vp_Si (fun r => (True))) 0 0 (fun _ => False) := by
  refine Met.ofW (cc := cX6_doneMember) (maxL := 4) (ret := (some .int)) (by decide) rfl ?_
  intro p e s m args below meth c s₁ B hml hv
  obtain ⟨rfl, hP, hK, hE, hBs, hUs⟩ := hv
  have hx := B.exec
  have hb := B.bytes
  have hr := B.returns
  have hts := atoms_spec (ws := zwX6_doneMember) B.pre
  have hown : s.vm.findClass RX6 = some m.cls := findClass_of_methodNamed B.named
  obtain ⟨htn, hbn, hun⟩ := hI
  have hl := lv_entry ([.ref xh, .int ib, .int iu, .int rc]) (n := 4) (Nat.le_of_ble_eq_true rfl)
  rw [lg_entry_eq]
  generalize (lg_sl ([.ref xh, .int ib, .int iu, .int rc]) ++ List.replicate (4 - (lg_sl ([.ref xh, .int ib, .int iu, .int rc])).length) Slot.unset).toArray = ls at hl ⊢
  have hl : lv_has ls 4 [(0, .ref xh), (1, .int ib), (2, .int iu), (3, .int rc)] := hl
  refine lv_aload_n hx hb dX6_doneMember_0 rfl (lv_at hl 0 rfl) ?_
  refine lv_iload_n hx hb dX6_doneMember_1 rfl (lv_at hl 1 rfl) ?_
  refine lv_iload_n hx hb dX6_doneMember_2 rfl (lv_at hl 2 rfl) ?_
  refine lv_iload_n hx hb dX6_doneMember_3 rfl (lv_at hl 3 rfl) ?_
  refine vp_callSi (W.runV (As := [.int ib, .int iu, .int rc]) (rest := []) ⟨hx, hb, hml, hown, hts⟩ (kX6_doneSpot l dC dI xh tb xb xu rh cI cJ cB cQ cV tn bn un bf wf ⟨by omega, by omega, by omega⟩ ib iu rc) (cwV 3 hts zgX6_doneMember_X6_doneSpot_119 rfl rfl rfl (by decide +kernel) ⟨(show 5 + 1 ≤ 6 by omega), (show 8 + (7 + 11) + 121 ≤ 147 by omega)⟩) (zVX (ci := 5) (q0 := 0) (q := (RX6, TX6, 7)) hK hP hE hBs hUs rfl rfl rfl) rfl rfl hl.1 rfl (lv_room (Nat.le_of_ble_eq_true rfl)) dX6_doneMember_4 ⟨(show 0 + 0 ≤ 0 by omega), (show 0 + 0 ≤ 0 by omega)⟩) (fun r1 hw => ?_)
  have hw : (zSp r1 (fun k => k < 208)) := hw
  have w0r1 := hw
  refine vp_callSi (W.runS (As := [.int r1]) (rest := []) ⟨hx, hb, hml, hown, hts⟩ (kX6_placeIn l dC dI   r1 (zSp.imp w0r1 (fun k hk hq => by first | exact hq | trivial | omega))) (va_cwS 1 hts zgX6_doneMember_X6_placeIn_116 rfl rfl rfl (by decide +kernel) ⟨(show 0 + 1 ≤ 6 by omega), (show 8 + (1 + 11) + 0 ≤ 147 by omega)⟩) (zSq (hK.sub (tys' := []) [] rfl) (hP.sub (ws' := ([] : va_W)) [] rfl) hE) rfl rfl hl.1 rfl (lv_room (Nat.le_of_ble_eq_true rfl)) dX6_doneMember_7 ⟨(show 0 + 0 ≤ 0 by omega), (show 0 + 0 ≤ 0 by omega)⟩) (fun r2 hw => ?_)
  have hw : (True) := hw
  have w0r2 := hw
  exact W.iret (v := r2) hx hb hr (fun t ht hW => ⟨r2, rfl, trivial, ht⟩) (fun _ h => by cases h) dX6_doneMember_10
theorem dX6_stale_0 : decode cX6_stale 0 = .ok (.aload_n 0, 1) := by decide +kernel
theorem dX6_stale_1 : decode cX6_stale 1 = .ok (.iload_n 1, 1) := by decide +kernel
theorem dX6_stale_2 : decode cX6_stale 2 = .ok (.invokevirtual 62, 3) := by decide +kernel
theorem dX6_stale_5 : decode cX6_stale 5 = .ok (.astore_n 3, 1) := by decide +kernel
theorem dX6_stale_6 : decode cX6_stale 6 = .ok (.aload_n 0, 1) := by decide +kernel
theorem dX6_stale_7 : decode cX6_stale 7 = .ok (.iload_n 2, 1) := by decide +kernel
theorem dX6_stale_8 : decode cX6_stale 8 = .ok (.invokevirtual 123, 3) := by decide +kernel
theorem dX6_stale_11 : decode cX6_stale 11 = .ok (.astore 4, 2) := by decide +kernel
theorem dX6_stale_13 : decode cX6_stale 13 = .ok (.aload_n 3, 1) := by decide +kernel
theorem dX6_stale_14 : decode cX6_stale 14 = .ok (.ifnull 8, 3) := by decide +kernel
theorem dX6_stale_17 : decode cX6_stale 17 = .ok (.aload 4, 2) := by decide +kernel
theorem dX6_stale_19 : decode cX6_stale 19 = .ok (.ifnonnull 6, 3) := by decide +kernel
theorem dX6_stale_22 : decode cX6_stale 22 = .ok (.bipush (-2), 2) := by decide +kernel
theorem dX6_stale_24 : decode cX6_stale 24 = .ok (.ireturn, 1) := by decide +kernel
theorem dX6_stale_25 : decode cX6_stale 25 = .ok (.aload 4, 2) := by decide +kernel
theorem dX6_stale_27 : decode cX6_stale 27 = .ok (.getfield 137, 3) := by decide +kernel
theorem dX6_stale_30 : decode cX6_stale 30 = .ok (.iconst (-1), 1) := by decide +kernel
theorem dX6_stale_31 : decode cX6_stale 31 = .ok (.if_icmp .ne 6, 3) := by decide +kernel
theorem dX6_stale_34 : decode cX6_stale 34 = .ok (.bipush (-4), 2) := by decide +kernel
theorem dX6_stale_36 : decode cX6_stale 36 = .ok (.ireturn, 1) := by decide +kernel
theorem dX6_stale_37 : decode cX6_stale 37 = .ok (.aload_n 3, 1) := by decide +kernel
theorem dX6_stale_38 : decode cX6_stale 38 = .ok (.aload 4, 2) := by decide +kernel
theorem dX6_stale_40 : decode cX6_stale 40 = .ok (.invokestatic 130, 3) := by decide +kernel
theorem dX6_stale_43 : decode cX6_stale 43 = .ok (.istore 5, 2) := by decide +kernel
theorem dX6_stale_45 : decode cX6_stale 45 = .ok (.iload 5, 2) := by decide +kernel
theorem dX6_stale_47 : decode cX6_stale 47 = .ok (.ifCond .lt 21, 3) := by decide +kernel
theorem dX6_stale_50 : decode cX6_stale 50 = .ok (.aload_n 3, 1) := by decide +kernel
theorem dX6_stale_51 : decode cX6_stale 51 = .ok (.iload 5, 2) := by decide +kernel
theorem dX6_stale_53 : decode cX6_stale 53 = .ok (.invokevirtual 134, 3) := by decide +kernel
theorem dX6_stale_56 : decode cX6_stale 56 = .ok (.aload 4, 2) := by decide +kernel
theorem dX6_stale_58 : decode cX6_stale 58 = .ok (.getfield 137, 3) := by decide +kernel
theorem dX6_stale_61 : decode cX6_stale 61 = .ok (.if_icmp .ne 7, 3) := by decide +kernel
theorem dX6_stale_64 : decode cX6_stale 64 = .ok (.iconst 0, 1) := by decide +kernel
theorem dX6_stale_65 : decode cX6_stale 65 = .ok (.goto 4, 3) := by decide +kernel
theorem dX6_stale_68 : decode cX6_stale 68 = .ok (.iconst 1, 1) := by decide +kernel
theorem dX6_stale_69 : decode cX6_stale 69 = .ok (.ireturn, 1) := by decide +kernel
def zwX6_stale : List Cond := .code yX6_stale cX6_stale 6 (some .int) :: ([.fieldLink RX6 137 "LinkModels$Use" "copy" "I", .methodLink RX6 62 yX6_buildAt, .instanceMethod yX6_buildAt, .selects RX6 yX6_buildAt yX6_buildAt, .initialized RX6, .code yX6_buildAt cX6_buildAt 2 (some (.object "LinkModels$Build")), .fieldLink RX6 23 "LinkModels" "buildCount" "I", .fieldLink RX6 19 "LinkModels" "builds" "[LLinkModels$Build;", .methodLink RX6 123 yX6_useAt, .instanceMethod yX6_useAt, .selects RX6 yX6_useAt yX6_useAt, .code yX6_useAt cX6_useAt 2 (some (.object "LinkModels$Use")), .fieldLink RX6 32 "LinkModels" "useCount" "I", .fieldLink RX6 28 "LinkModels" "uses" "[LLinkModels$Use;", .methodLink RX6 130 yX1_linked, .static yX1_linked, .initialized RX1, .code yX1_linked cX1_linked 4 (some .int), .fieldLink RX1 9 "LinkModels$Use" "caller" "I", .fieldLink RX1 21 "LinkModels$Use" "owner" "I", .fieldLink RX1 32 "LinkModels$Use" "kind" "I", .methodLink RX1 15 yX0_placeOf, .instanceMethod yX0_placeOf, .selects RX0 yX0_placeOf yX0_placeOf, .initialized RX0, .code yX0_placeOf cX0_placeOf 3 (some .int), .fieldLink RX0 61 "LinkModels$Build" "classCount" "I", .fieldLink RX0 11 "LinkModels$Build" "names" "[I", .methodLink RX1 24 yX0_errorAt, .instanceMethod yX0_errorAt, .selects RX0 yX0_errorAt yX0_errorAt, .code yX0_errorAt cX0_errorAt 2 (some .int), .fieldLink RX0 49 "LinkModels$Build" "errors" "[I", .methodLink RX1 39 yX5_asksField, .instanceMethod yX5_asksField, .selects RX5 yX5_asksField yX5_asksField, .initialized RX5, .code yX5_asksField cX5_asksField 1 (some .boolean), .fieldLink RX5 9 "LinkModels$Use" "kind" "I", .methodLink RX1 47 yX1_linkedMethod, .static yX1_linkedMethod, .code yX1_linkedMethod cX1_linkedMethod 5 (some .int), .static yX6_classOf, .fieldLink RX1 50 "LinkModels$Use" "wanted" "LLinkModels$Signature;", .methodLink RX1 67 yX0_has, .instanceMethod yX0_has, .selects RX0 yX0_has yX0_has, .code yX0_has cX0_has 3 (some .boolean), .fieldLink RX0 30 "LinkModels$Build" "memberMarks" "[I", .methodLink RX1 71 yX5_asksStatic, .instanceMethod yX5_asksStatic, .selects RX5 yX5_asksStatic yX5_asksStatic, .code yX5_asksStatic cX5_asksStatic 1 (some .boolean), .methodLink RX1 27 yX1_failed, .static yX1_failed, .code yX1_failed cX1_failed 1 (some .int), .code yX6_classOf cX6_classOf 1 (some .int), .methodLink RX1 80 yX0_methodFrom, .instanceMethod yX0_methodFrom, .selects RX0 yX0_methodFrom yX0_methodFrom, .code yX0_methodFrom cX0_methodFrom 7 (some .int), .fieldLink RX0 58 "LinkModels$Build" "lineCounts" "[I", .fieldLink RX0 55 "LinkModels$Build" "lines" "[I", .methodLink RX0 82 yX0_has, .methodLink RX0 94 yX0_methodIn, .instanceMethod yX0_methodIn, .selects RX0 yX0_methodIn yX0_methodIn, .code yX0_methodIn cX0_methodIn 5 (some .int), .fieldLink RX0 37 "LinkModels$Build" "typeCounts" "[I", .fieldLink RX0 71 "LinkModels$Signature" "typeCount" "I", .fieldLink RX0 40 "LinkModels$Build" "firsts" "[I", .fieldLink RX0 74 "LinkModels$Signature" "first" "I", .fieldLink RX0 43 "LinkModels$Build" "seconds" "[I", .fieldLink RX0 77 "LinkModels$Signature" "second" "I", .fieldLink RX0 27 "LinkModels$Build" "memberCounts" "[I", .fieldLink RX0 33 "LinkModels$Build" "words" "[J", .fieldLink RX0 65 "LinkModels$Signature" "word" "J", .methodLink RX0 90 yX0_isFace, .instanceMethod yX0_isFace, .selects RX0 yX0_isFace yX0_isFace, .code yX0_isFace cX0_isFace 2 (some .boolean), .fieldLink RX0 15 "LinkModels$Build" "classMarks" "[I", .methodLink RX1 84 yX1_foundInFaces, .static yX1_foundInFaces, .code yX1_foundInFaces cX1_foundInFaces 5 (some .int), .methodLink RX1 88 yX0_nearestFaces, .instanceMethod yX0_nearestFaces, .selects RX0 yX0_nearestFaces yX0_nearestFaces, .code yX0_nearestFaces cX0_nearestFaces 7 (some .int), .fieldLink RX0 52 "LinkModels$Build" "reached" "[I", .methodLink RX1 92 yX0_withBody, .instanceMethod yX0_withBody, .selects RX0 yX0_withBody yX0_withBody, .code yX0_withBody cX0_withBody 6 (some .int), .methodLink RX1 95 yJ6_bitCount_0f7a4, .static yJ6_bitCount_0f7a4, .initialized RJ6, .code yJ6_bitCount_0f7a4 cJ6_bitCount_0f7a4 1 (some .int), .constant RJ6 265 (1431655765), .constant RJ6 266 (858993459), .constant RJ6 267 (252645135), .methodLink RX1 100 yX0_firstMethodOf, .instanceMethod yX0_firstMethodOf, .selects RX0 yX0_firstMethodOf yX0_firstMethodOf, .code yX0_firstMethodOf cX0_firstMethodOf 6 (some .int), .methodLink RX1 77 yX0_isFace, .methodLink RX1 43 yX1_linkedField, .static yX1_linkedField, .code yX1_linkedField cX1_linkedField 6 (some .int), .fieldLink RX1 54 "LinkModels$Signature" "word" "J", .methodLink RX1 74 yX5_puts, .instanceMethod yX5_puts, .selects RX5 yX5_puts yX5_puts, .code yX5_puts cX5_puts 1 (some .boolean), .methodLink RX1 60 yX0_fieldFrom, .instanceMethod yX0_fieldFrom, .selects RX0 yX0_fieldFrom yX0_fieldFrom, .code yX0_fieldFrom cX0_fieldFrom 6 (some .int), .methodLink RX0 86 yX0_fieldIn, .instanceMethod yX0_fieldIn, .selects RX0 yX0_fieldIn yX0_fieldIn, .code yX0_fieldIn cX0_fieldIn 5 (some .int), .methodLink RX1 35 yX0_isWhole, .instanceMethod yX0_isWhole, .selects RX0 yX0_isWhole yX0_isWhole, .code yX0_isWhole cX0_isWhole 2 (some .boolean), .methodLink RX6 134 yX0_numberAt, .instanceMethod yX0_numberAt, .selects RX0 yX0_numberAt yX0_numberAt, .code yX0_numberAt cX0_numberAt 2 (some .int), .fieldLink RX0 46 "LinkModels$Build" "numbers" "[I"] ++ wsX50 ++ wsX60 ++ wsX00 ++ wsX30)
set_option maxRecDepth 100000 in
theorem zgX6_stale_X6_buildAt_62 : GoodIn zwX6_stale (wsV RX6 62 RX6 yX6_buildAt zwX6_buildAt) := goodIn_app (goodIn_r _ [2, 3, 4, 5] rfl (by decide +kernel)) (goodIn_app (goodIn_r _ [6, 7, 8] rfl (by decide +kernel)) (fun w hw => ⟨(List.mem_cons_of_mem _ (List.mem_append_left _ (List.mem_append_left _ (List.mem_append_right _ hw)))), good_of_word (List.all_eq_true.mp zgX6 w hw)⟩))
set_option maxRecDepth 100000 in
theorem zgX6_stale_X6_useAt_123 : GoodIn zwX6_stale (wsV RX6 123 RX6 yX6_useAt zwX6_useAt) := goodIn_app (goodIn_r _ [9, 10, 11, 5] rfl (by decide +kernel)) (goodIn_app (goodIn_r _ [12, 13, 14] rfl (by decide +kernel)) (fun w hw => ⟨(List.mem_cons_of_mem _ (List.mem_append_left _ (List.mem_append_left _ (List.mem_append_right _ hw)))), good_of_word (List.all_eq_true.mp zgX6 w hw)⟩))
set_option maxRecDepth 100000 in
theorem zgX6_stale_X1_linked_130 : GoodIn zwX6_stale (va_wsS RX6 130 yX1_linked zwX1_linked) := goodIn_app (goodIn_r _ [15, 16, 17] rfl (by decide +kernel)) (goodIn_app (goodIn_app (goodIn_app (goodIn_r _ [18, 19, 20, 21, 22, 23, 24, 25, 26, 27, 28, 29, 30, 31, 32, 33, 34, 35, 36, 37, 38, 39, 40, 41, 17, 42, 5, 43, 44, 45, 46, 47, 48, 49, 50, 51, 52, 53, 54, 55, 56, 57, 58, 59, 60, 61, 62, 63, 64, 65, 66, 67, 68, 69, 70, 71, 72, 73, 74, 75, 76, 77, 78, 79, 80, 81, 82, 83, 84, 85, 86, 87, 88, 89, 90, 91, 92, 93, 94, 95, 96, 97, 98, 99, 100, 101, 102, 103, 104, 105, 106, 107, 108, 109, 110, 111, 112, 113, 114, 115, 116, 117, 118, 119, 120, 121, 122, 123, 124, 125, 126] rfl (by decide +kernel)) (fun w hw => ⟨(List.mem_cons_of_mem _ (List.mem_append_left _ (List.mem_append_left _ (List.mem_append_left _ (List.mem_append_right _ hw))))), good_of_word (List.all_eq_true.mp zgX5 w hw)⟩)) (fun w hw => ⟨(List.mem_cons_of_mem _ (List.mem_append_left _ (List.mem_append_right _ hw))), good_of_word (List.all_eq_true.mp zgX0 w hw)⟩)) (fun w hw => ⟨(List.mem_cons_of_mem _ (List.mem_append_right _ hw)), good_of_word (List.all_eq_true.mp zgX3 w hw)⟩))
set_option maxRecDepth 100000 in
theorem zgX6_stale_X0_numberAt_134 : GoodIn zwX6_stale (wsV RX6 134 RX0 yX0_numberAt zwX0_numberAt) := goodIn_app (goodIn_r _ [127, 128, 129, 25] rfl (by decide +kernel)) (goodIn_app (goodIn_r _ [130, 131] rfl (by decide +kernel)) (fun w hw => ⟨(List.mem_cons_of_mem _ (List.mem_append_left _ (List.mem_append_right _ hw))), good_of_word (List.all_eq_true.mp zgX0 w hw)⟩))
set_option maxHeartbeats 4000000 in
set_option maxRecDepth 100000 in
theorem kX6_stale (l : Launch) (dC : Nat → ClassId) (dI : Nat → Nat → Nat) (xh : Nat) (tb : Nat) (xb : Nat) (xu : Nat) (rh : Nat) (cI : ClassId) (cJ : ClassId) (cB : ClassId) (cQ : ClassId) (cV : ClassId) (tn : Nat) (bn : Nat) (un : Nat) (bf : Nat → Option Nat) (wf : Nat → Option Nat) (hI : yWI tn bn un) (ib : Int32) (iu : Int32) : Met l yX6_stale zwX6_stale ({ frames := 5, cells := 0, slots := 0, locals := 121 }) (zPX dC dI [.ref xh, .int ib, .int iu] (yW xh tb xb xu rh cI cJ cB cQ cV (nI tn) (nI bn) (nI un) bf wf) [(cI, .int), (cJ, .long), (cB, .byte), (cQ, .object RX0), (cV, .object RX5)] cI cJ cB bn bf un wf) (vp_Si (fun r => (True))) 0 0 (fun _ => False) := by
  refine Met.ofW (cc := cX6_stale) (maxL := 6) (ret := (some .int)) (by decide) rfl ?_
  intro p e s m args below meth c s₁ B hml hv
  obtain ⟨rfl, hP, hK, hE, hBs, hUs⟩ := hv
  have hx := B.exec
  have hb := B.bytes
  have hr := B.returns
  have hts := atoms_spec (ws := zwX6_stale) B.pre
  have hown : s.vm.findClass RX6 = some m.cls := findClass_of_methodNamed B.named
  have hiX5 : ∀ w ∈ wsX50, w ∈ zwX6_stale := (fun w hw => (List.mem_cons_of_mem _ (List.mem_append_left _ (List.mem_append_left _ (List.mem_append_left _ (List.mem_append_right _ hw))))))
  obtain ⟨htn, hbn, hun⟩ := hI
  have hl := lv_entry ([.ref xh, .int ib, .int iu]) (n := 6) (Nat.le_of_ble_eq_true rfl)
  rw [lg_entry_eq]
  generalize (lg_sl ([.ref xh, .int ib, .int iu]) ++ List.replicate (6 - (lg_sl ([.ref xh, .int ib, .int iu])).length) Slot.unset).toArray = ls at hl ⊢
  have hl : lv_has ls 6 [(0, .ref xh), (1, .int ib), (2, .int iu)] := hl
  refine lv_aload_n hx hb dX6_stale_0 rfl (lv_at hl 0 rfl) ?_
  refine lv_iload_n hx hb dX6_stale_1 rfl (lv_at hl 1 rfl) ?_
  refine va_csq (W.runV (As := [.int ib]) (rest := []) ⟨hx, hb, hml, hown, hts⟩ (kX6_buildAt l dC dI xh tb xb xu rh cI cJ cB cQ cV tn bn un bf wf ⟨by omega, by omega, by omega⟩ ib) (cwV 1 hts zgX6_stale_X6_buildAt_62 rfl rfl rfl (by decide +kernel) ⟨(show 0 + 1 ≤ 5 by omega), (show 8 + (2 + 11) + 0 ≤ 121 by omega)⟩) (zVq (ci := 5) (q0 := 0) (q := (RX6, TX6, 7)) hK hP hE rfl rfl rfl) rfl rfl hl.1 rfl (lv_room (Nat.le_of_ble_eq_true rfl)) dX6_stale_2 ⟨(show 0 + 0 ≤ 0 by omega), (show 0 + 0 ≤ 0 by omega)⟩) (fun r1 hw => ?_)
  rcases hw with rfl | ⟨k2, hk2, rfl⟩
  · refine W.eq (g2 := F0 m 5 ls [.null]) rfl ?_
    refine lv_astore_nN (lv' := [(3, .null), (0, .ref xh), (1, .int ib), (2, .int iu)]) hx hb dX6_stale_5 rfl hl (by decide) rfl (fun ls hl => ?_)
    refine lv_aload_n hx hb dX6_stale_6 rfl (lv_at hl 1 rfl) ?_
    refine lv_iload_n hx hb dX6_stale_7 rfl (lv_at hl 3 rfl) ?_
    refine va_csq (W.runV (As := [.int iu]) (rest := []) ⟨hx, hb, hml, hown, hts⟩ (kX6_useAt l dC dI xh tb xb xu rh cI cJ cB cQ cV tn bn un bf wf ⟨by omega, by omega, by omega⟩ iu) (cwV 1 hts zgX6_stale_X6_useAt_123 rfl rfl rfl (by decide +kernel) ⟨(show 0 + 1 ≤ 5 by omega), (show 8 + (2 + 11) + 0 ≤ 121 by omega)⟩) (zVq (ci := 5) (q0 := 0) (q := (RX6, TX6, 7)) hK hP hE rfl rfl rfl) rfl rfl hl.1 rfl (lv_room (Nat.le_of_ble_eq_true rfl)) dX6_stale_8 ⟨(show 0 + 0 ≤ 0 by omega), (show 0 + 0 ≤ 0 by omega)⟩) (fun r3 hw => ?_)
    rcases hw with rfl | ⟨k4, hk4, rfl⟩
    · refine W.eq (g2 := F0 m 11 ls [.null]) rfl ?_
      refine lv_astoreN (lv' := [(4, .null), (3, .null), (0, .ref xh), (1, .int ib), (2, .int iu)]) hx hb dX6_stale_11 hl (by decide) rfl (fun ls hl => ?_)
      refine lv_aload_nN hx hb dX6_stale_13 rfl (lv_at hl 1 rfl) ?_
      refine lv_ifnullN (tgt := 22) hx hb dX6_stale_14 (by decide) ?_
      refine lv_bipush (v := (-2)) hx hb dX6_stale_22 (by decide) ?_
      exact W.iret (v := (-2 : Int32)) hx hb hr (fun t ht hW => ⟨(-2 : Int32), rfl, trivial, ht⟩) (fun _ h => by cases h) dX6_stale_24
    · obtain ⟨uh, wk4, hfk4, hck4, hPk4⟩ := hUs k4 hk4
      obtain ⟨ug, uk, uc, uo, uy, uw, ut, uf, uq, rfl⟩ := hck4
      rw [hfk4]
      refine W.eq (g2 := F0 m 11 ls [.ref uh]) rfl ?_
      have hP := hP.app hPk4
      refine lv_astore (lv' := [(4, .ref uh), (3, .null), (0, .ref xh), (1, .int ib), (2, .int iu)]) hx hb dX6_stale_11 hl (by decide) rfl (fun ls hl => ?_)
      refine lv_aload_nN hx hb dX6_stale_13 rfl (lv_at hl 1 rfl) ?_
      refine lv_ifnullN (tgt := 22) hx hb dX6_stale_14 (by decide) ?_
      refine lv_bipush (v := (-2)) hx hb dX6_stale_22 (by decide) ?_
      exact W.iret (v := (-2 : Int32)) hx hb hr (fun t ht hW => ⟨(-2 : Int32), rfl, trivial, ht⟩) (fun _ h => by cases h) dX6_stale_24
  · obtain ⟨bh, wk2, hfk2, hck2, hPk2⟩ := hBs k2 hk2
    obtain ⟨br, cc, nA, mA, aA, fcA, fA, mcA, mmA, wA, tcA, g1A, g2A, nuA, erA, reA, liA, lcA, hIk2, rfl⟩ := hck2
    obtain ⟨hcc, hfcA, hmcA, herA, hliA, hlcA⟩ := hIk2
    rw [hfk2]
    refine W.eq (g2 := F0 m 5 ls [.ref bh]) rfl ?_
    have hP := hP.app hPk2
    refine lv_astore_n (lv' := [(3, .ref bh), (0, .ref xh), (1, .int ib), (2, .int iu)]) hx hb dX6_stale_5 rfl hl (by decide) rfl (fun ls hl => ?_)
    refine lv_aload_n hx hb dX6_stale_6 rfl (lv_at hl 1 rfl) ?_
    refine lv_iload_n hx hb dX6_stale_7 rfl (lv_at hl 3 rfl) ?_
    refine va_csq (W.runV (As := [.int iu]) (rest := []) ⟨hx, hb, hml, hown, hts⟩ (kX6_useAt l dC dI xh tb xb xu rh cI cJ cB cQ cV tn bn un bf wf ⟨by omega, by omega, by omega⟩ iu) (cwV 1 hts zgX6_stale_X6_useAt_123 rfl rfl rfl (by decide +kernel) ⟨(show 0 + 1 ≤ 5 by omega), (show 8 + (2 + 11) + 0 ≤ 121 by omega)⟩) (zVq (ci := 5) (q0 := 0) (q := (RX6, TX6, 7)) hK (hP.sub (ws' := (yW xh tb xb xu rh cI cJ cB cQ cV (nI tn) (nI bn) (nI un) bf wf)) [0, 1, 2] rfl) hE rfl rfl rfl) rfl rfl hl.1 rfl (lv_room (Nat.le_of_ble_eq_true rfl)) dX6_stale_8 ⟨(show 0 + 0 ≤ 0 by omega), (show 0 + 0 ≤ 0 by omega)⟩) (fun r5 hw => ?_)
    rcases hw with rfl | ⟨k6, hk6, rfl⟩
    · refine W.eq (g2 := F0 m 11 ls [.null]) rfl ?_
      refine lv_astoreN (lv' := [(4, .null), (3, .ref bh), (0, .ref xh), (1, .int ib), (2, .int iu)]) hx hb dX6_stale_11 hl (by decide) rfl (fun ls hl => ?_)
      refine lv_aload_n hx hb dX6_stale_13 rfl (lv_at hl 1 rfl) ?_
      refine lv_ifnull hx hb dX6_stale_14 ?_
      refine lv_aloadN hx hb dX6_stale_17 (lv_at hl 0 rfl) ?_
      refine lv_ifnonnullN hx hb dX6_stale_19 ?_
      refine lv_bipush (v := (-2)) hx hb dX6_stale_22 (by decide) ?_
      exact W.iret (v := (-2 : Int32)) hx hb hr (fun t ht hW => ⟨(-2 : Int32), rfl, trivial, ht⟩) (fun _ h => by cases h) dX6_stale_24
    · obtain ⟨uh, wk6, hfk6, hck6, hPk6⟩ := hUs k6 hk6
      obtain ⟨ug, uk, uc, uo, uy, uw, ut, uf, uq, rfl⟩ := hck6
      rw [hfk6]
      refine W.eq (g2 := F0 m 11 ls [.ref uh]) rfl ?_
      have hP := hP.app hPk6
      refine lv_astore (lv' := [(4, .ref uh), (3, .ref bh), (0, .ref xh), (1, .int ib), (2, .int iu)]) hx hb dX6_stale_11 hl (by decide) rfl (fun ls hl => ?_)
      refine lv_aload_n hx hb dX6_stale_13 rfl (lv_at hl 1 rfl) ?_
      refine lv_ifnull hx hb dX6_stale_14 ?_
      refine lv_aload hx hb dX6_stale_17 (lv_at hl 0 rfl) ?_
      refine lv_ifnonnull (tgt := 25) hx hb dX6_stale_19 (by decide) ?_
      refine lv_aload hx hb dX6_stale_25 (lv_at hl 0 rfl) ?_
      refine va_get (D := (dC, dI)) (ci := 4) (v := .int uy) (C := RX5) (T := TX5) (N := 5) hx hb hts hiX5 hown hK hP 20 rfl rfl 4 (by decide) (hts (.fieldLink RX6 137 "LinkModels$Use" "copy" "I") (by decide +kernel)) (fun _ h9 => h9) rfl dX6_stale_27 ?_
      refine lv_iconst (v := (-1)) hx hb dX6_stale_30 (by decide) ?_
      refine lv_icmp_ne (tgt := 37) hx hb dX6_stale_31 (by decide) (fun cp31 => ?_) (fun cp31 => ?_)
      · refine lv_aload_n hx hb dX6_stale_37 rfl (lv_at hl 1 rfl) ?_
        refine lv_aload hx hb dX6_stale_38 (lv_at hl 0 rfl) ?_
        refine vp_callSi (W.runS (As := [.ref bh, .ref uh]) (rest := []) ⟨hx, hb, hml, hown, hts⟩ (kX1_linked l dC dI bh br uh ug cI cJ cB cc nA mA aA fcA fA mcA mmA wA tcA g1A g2A nuA erA reA liA lcA uk uc uo uy uw ut uf uq ⟨by omega, hfcA, hmcA, herA, hliA, hlcA⟩) (va_cwS 2 hts zgX6_stale_X1_linked_130 rfl rfl rfl (by decide +kernel) ⟨(show 4 + 1 ≤ 5 by omega), (show 8 + (4 + 11) + 98 ≤ 121 by omega)⟩) (zSq (hK.sub (tys' := [(cI, .int), (cJ, .long), (cB, .byte)]) [0, 1, 2] rfl) (hP.sub (ws' := (lW bh br uh ug cI cJ cB (nI cc) nA mA aA (fun j => nI (fcA j)) fA (fun j => nI (mcA j)) mmA wA tcA g1A g2A nuA (fun j => nI (erA j)) reA (fun j => nI (liA j)) (fun j => nI (lcA j)) uk uc uo uy uw ut uf uq)) [3, 4, 5, 6, 7, 8, 9, 10, 11, 12, 13, 14, 15, 16, 17, 18, 19, 20, 21] rfl) hE) rfl rfl hl.1 rfl (lv_room (Nat.le_of_ble_eq_true rfl)) dX6_stale_40 ⟨(show 0 + 0 ≤ 0 by omega), (show 0 + 0 ≤ 0 by omega)⟩) (fun r7 hw => ?_)
        have hw : (zSp r7 (fun k => k < 208)) := hw
        have w0r7 := hw
        refine lv_istore (lv' := [(5, .int r7), (4, .ref uh), (3, .ref bh), (0, .ref xh), (1, .int ib), (2, .int iu)]) hx hb dX6_stale_43 hl (by decide) rfl (fun ls hl => ?_)
        refine lv_iload hx hb dX6_stale_45 (lv_at hl 0 rfl) ?_
        refine lv_if_lt (tgt := 68) hx hb dX6_stale_47 (by decide) (fun cp47 => ?_) (fun cp47 => ?_)
        · have hgcp47 : r7 < 0 := cp47
          refine lv_iconst (v := 1) hx hb dX6_stale_68 (by decide) ?_
          exact W.iret (v := (1 : Int32)) hx hb hr (fun t ht hW => ⟨(1 : Int32), rfl, trivial, ht⟩) (fun _ h => by cases h) dX6_stale_69
        · obtain ⟨k8, hBk8, hQk8, rfl⟩ := zSp.pos w0r7 cp47
          refine lv_aload_n hx hb dX6_stale_50 rfl (lv_at hl 2 rfl) ?_
          refine lv_iload hx hb dX6_stale_51 (lv_at hl 0 rfl) ?_
          refine vp_callSi (W.runV (As := [.int (nI k8)]) (rest := []) ⟨hx, hb, hml, hown, hts⟩ (kX0_numberAt l dC dI bh br cI cJ cB cc nA mA aA fcA fA mcA mmA wA tcA g1A g2A nuA erA reA liA lcA ⟨by omega, hfcA, hmcA, herA, hliA, hlcA⟩ k8 (by first | omega | assumption | trivial)) (cwV 1 hts zgX6_stale_X0_numberAt_134 rfl rfl rfl (by decide +kernel) ⟨(show 0 + 1 ≤ 5 by omega), (show 8 + (2 + 11) + 0 ≤ 121 by omega)⟩) (zVq (ci := 0) (q0 := 0) (q := (RX0, TX0, 17)) (hK.sub (tys' := [(cI, .int), (cJ, .long), (cB, .byte)]) [0, 1, 2] rfl) (hP.sub (ws' := (bW bh br cI cJ cB (nI cc) nA mA aA (fun j => nI (fcA j)) fA (fun j => nI (mcA j)) mmA wA tcA g1A g2A nuA (fun j => nI (erA j)) reA (fun j => nI (liA j)) (fun j => nI (lcA j)))) [3, 4, 5, 6, 7, 8, 9, 10, 11, 12, 13, 14, 15, 16, 17, 18, 19] rfl) hE rfl rfl rfl) rfl rfl hl.1 rfl (lv_room (Nat.le_of_ble_eq_true rfl)) dX6_stale_53 ⟨(show 0 + 0 ≤ 0 by omega), (show 0 + 0 ≤ 0 by omega)⟩) (fun r9 hw => ?_)
          have hw : (True) := hw
          have w0r9 := hw
          refine lv_aload hx hb dX6_stale_56 (lv_at hl 1 rfl) ?_
          refine va_get (D := (dC, dI)) (ci := 4) (v := .int uy) (C := RX5) (T := TX5) (N := 5) hx hb hts hiX5 hown hK hP 20 rfl rfl 4 (by decide) (hts (.fieldLink RX6 137 "LinkModels$Use" "copy" "I") (by decide +kernel)) (fun _ h9 => h9) rfl dX6_stale_58 ?_
          refine lv_icmp_ne (tgt := 68) hx hb dX6_stale_61 (by decide) (fun cp61 => ?_) (fun cp61 => ?_)
          · refine lv_iconst (v := 1) hx hb dX6_stale_68 (by decide) ?_
            exact W.iret (v := (1 : Int32)) hx hb hr (fun t ht hW => ⟨(1 : Int32), rfl, trivial, ht⟩) (fun _ h => by cases h) dX6_stale_69
          · refine lv_iconst (v := 0) hx hb dX6_stale_64 (by decide) ?_
            refine lv_goto (tgt := 69) hx hb dX6_stale_65 (by decide) ?_
            exact W.iret (v := (0 : Int32)) hx hb hr (fun t ht hW => ⟨(0 : Int32), rfl, trivial, ht⟩) (fun _ h => by cases h) dX6_stale_69
      · refine lv_bipush (v := (-4)) hx hb dX6_stale_34 (by decide) ?_
        exact W.iret (v := (-4 : Int32)) hx hb hr (fun t ht hW => ⟨(-4 : Int32), rfl, trivial, ht⟩) (fun _ h => by cases h) dX6_stale_36
theorem dX6_changed_0 : decode cX6_changed 0 = .ok (.aload_n 0, 1) := by decide +kernel
theorem dX6_changed_1 : decode cX6_changed 1 = .ok (.iload_n 1, 1) := by decide +kernel
theorem dX6_changed_2 : decode cX6_changed 2 = .ok (.invokevirtual 62, 3) := by decide +kernel
theorem dX6_changed_5 : decode cX6_changed 5 = .ok (.astore 4, 2) := by decide +kernel
theorem dX6_changed_7 : decode cX6_changed 7 = .ok (.aload_n 0, 1) := by decide +kernel
theorem dX6_changed_8 : decode cX6_changed 8 = .ok (.iload_n 2, 1) := by decide +kernel
theorem dX6_changed_9 : decode cX6_changed 9 = .ok (.invokevirtual 62, 3) := by decide +kernel
theorem dX6_changed_12 : decode cX6_changed 12 = .ok (.astore 5, 2) := by decide +kernel
theorem dX6_changed_14 : decode cX6_changed 14 = .ok (.aload 4, 2) := by decide +kernel
theorem dX6_changed_16 : decode cX6_changed 16 = .ok (.ifnull 8, 3) := by decide +kernel
theorem dX6_changed_19 : decode cX6_changed 19 = .ok (.aload 5, 2) := by decide +kernel
theorem dX6_changed_21 : decode cX6_changed 21 = .ok (.ifnonnull 6, 3) := by decide +kernel
theorem dX6_changed_24 : decode cX6_changed 24 = .ok (.bipush (-2), 2) := by decide +kernel
theorem dX6_changed_26 : decode cX6_changed 26 = .ok (.ireturn, 1) := by decide +kernel
theorem dX6_changed_27 : decode cX6_changed 27 = .ok (.iconst 0, 1) := by decide +kernel
theorem dX6_changed_28 : decode cX6_changed 28 = .ok (.istore 6, 2) := by decide +kernel
theorem dX6_changed_30 : decode cX6_changed 30 = .ok (.iconst 0, 1) := by decide +kernel
theorem dX6_changed_31 : decode cX6_changed 31 = .ok (.istore 7, 2) := by decide +kernel
theorem dX6_changed_33 : decode cX6_changed 33 = .ok (.iload 7, 2) := by decide +kernel
theorem dX6_changed_35 : decode cX6_changed 35 = .ok (.aload_n 0, 1) := by decide +kernel
theorem dX6_changed_36 : decode cX6_changed 36 = .ok (.getfield 32, 3) := by decide +kernel
theorem dX6_changed_39 : decode cX6_changed 39 = .ok (.if_icmp .ge 38, 3) := by decide +kernel
theorem dX6_changed_42 : decode cX6_changed 42 = .ok (.aload 4, 2) := by decide +kernel
theorem dX6_changed_44 : decode cX6_changed 44 = .ok (.aload 5, 2) := by decide +kernel
theorem dX6_changed_46 : decode cX6_changed 46 = .ok (.aload_n 0, 1) := by decide +kernel
theorem dX6_changed_47 : decode cX6_changed 47 = .ok (.getfield 28, 3) := by decide +kernel
theorem dX6_changed_50 : decode cX6_changed 50 = .ok (.iload 7, 2) := by decide +kernel
theorem dX6_changed_52 : decode cX6_changed 52 = .ok (.aaload, 1) := by decide +kernel
theorem dX6_changed_53 : decode cX6_changed 53 = .ok (.invokestatic 140, 3) := by decide +kernel
theorem dX6_changed_56 : decode cX6_changed 56 = .ok (.ifCond .eq 15, 3) := by decide +kernel
theorem dX6_changed_59 : decode cX6_changed 59 = .ok (.iload 6, 2) := by decide +kernel
theorem dX6_changed_61 : decode cX6_changed 61 = .ok (.iload_n 3, 1) := by decide +kernel
theorem dX6_changed_62 : decode cX6_changed 62 = .ok (.if_icmp .ne 6, 3) := by decide +kernel
theorem dX6_changed_65 : decode cX6_changed 65 = .ok (.iload 7, 2) := by decide +kernel
theorem dX6_changed_67 : decode cX6_changed 67 = .ok (.ireturn, 1) := by decide +kernel
theorem dX6_changed_68 : decode cX6_changed 68 = .ok (.iinc 6 1, 3) := by decide +kernel
theorem dX6_changed_71 : decode cX6_changed 71 = .ok (.iinc 7 1, 3) := by decide +kernel
theorem dX6_changed_74 : decode cX6_changed 74 = .ok (.goto (-41), 3) := by decide +kernel
theorem dX6_changed_77 : decode cX6_changed 77 = .ok (.iconst (-1), 1) := by decide +kernel
theorem dX6_changed_78 : decode cX6_changed 78 = .ok (.ireturn, 1) := by decide +kernel
def zwX6_changed : List Cond := .code yX6_changed cX6_changed 8 (some .int) :: ([.fieldLink RX6 32 "LinkModels" "useCount" "I", .fieldLink RX6 28 "LinkModels" "uses" "[LLinkModels$Use;", .methodLink RX6 62 yX6_buildAt, .instanceMethod yX6_buildAt, .selects RX6 yX6_buildAt yX6_buildAt, .initialized RX6, .code yX6_buildAt cX6_buildAt 2 (some (.object "LinkModels$Build")), .fieldLink RX6 23 "LinkModels" "buildCount" "I", .fieldLink RX6 19 "LinkModels" "builds" "[LLinkModels$Build;", .methodLink RX6 140 yX1_tellApart, .static yX1_tellApart, .initialized RX1, .code yX1_tellApart cX1_tellApart 5 (some .boolean), .fieldLink RX1 114 "LinkModels$Build" "names" "[I", .static yX6_classOf, .static yX6_placeIn, .methodLink RX1 110 yX1_linked, .static yX1_linked, .code yX1_linked cX1_linked 4 (some .int), .fieldLink RX1 9 "LinkModels$Use" "caller" "I", .fieldLink RX1 21 "LinkModels$Use" "owner" "I", .fieldLink RX1 32 "LinkModels$Use" "kind" "I", .methodLink RX1 15 yX0_placeOf, .instanceMethod yX0_placeOf, .selects RX0 yX0_placeOf yX0_placeOf, .initialized RX0, .code yX0_placeOf cX0_placeOf 3 (some .int), .fieldLink RX0 61 "LinkModels$Build" "classCount" "I", .fieldLink RX0 11 "LinkModels$Build" "names" "[I", .methodLink RX1 24 yX0_errorAt, .instanceMethod yX0_errorAt, .selects RX0 yX0_errorAt yX0_errorAt, .code yX0_errorAt cX0_errorAt 2 (some .int), .fieldLink RX0 49 "LinkModels$Build" "errors" "[I", .methodLink RX1 39 yX5_asksField, .instanceMethod yX5_asksField, .selects RX5 yX5_asksField yX5_asksField, .initialized RX5, .code yX5_asksField cX5_asksField 1 (some .boolean), .fieldLink RX5 9 "LinkModels$Use" "kind" "I", .methodLink RX1 47 yX1_linkedMethod, .static yX1_linkedMethod, .code yX1_linkedMethod cX1_linkedMethod 5 (some .int), .fieldLink RX1 50 "LinkModels$Use" "wanted" "LLinkModels$Signature;", .methodLink RX1 67 yX0_has, .instanceMethod yX0_has, .selects RX0 yX0_has yX0_has, .code yX0_has cX0_has 3 (some .boolean), .fieldLink RX0 30 "LinkModels$Build" "memberMarks" "[I", .methodLink RX1 71 yX5_asksStatic, .instanceMethod yX5_asksStatic, .selects RX5 yX5_asksStatic yX5_asksStatic, .code yX5_asksStatic cX5_asksStatic 1 (some .boolean), .methodLink RX1 27 yX1_failed, .static yX1_failed, .code yX1_failed cX1_failed 1 (some .int), .code yX6_classOf cX6_classOf 1 (some .int), .methodLink RX1 80 yX0_methodFrom, .instanceMethod yX0_methodFrom, .selects RX0 yX0_methodFrom yX0_methodFrom, .code yX0_methodFrom cX0_methodFrom 7 (some .int), .fieldLink RX0 58 "LinkModels$Build" "lineCounts" "[I", .fieldLink RX0 55 "LinkModels$Build" "lines" "[I", .methodLink RX0 82 yX0_has, .methodLink RX0 94 yX0_methodIn, .instanceMethod yX0_methodIn, .selects RX0 yX0_methodIn yX0_methodIn, .code yX0_methodIn cX0_methodIn 5 (some .int), .fieldLink RX0 37 "LinkModels$Build" "typeCounts" "[I", .fieldLink RX0 71 "LinkModels$Signature" "typeCount" "I", .fieldLink RX0 40 "LinkModels$Build" "firsts" "[I", .fieldLink RX0 74 "LinkModels$Signature" "first" "I", .fieldLink RX0 43 "LinkModels$Build" "seconds" "[I", .fieldLink RX0 77 "LinkModels$Signature" "second" "I", .fieldLink RX0 27 "LinkModels$Build" "memberCounts" "[I", .fieldLink RX0 33 "LinkModels$Build" "words" "[J", .fieldLink RX0 65 "LinkModels$Signature" "word" "J", .methodLink RX0 90 yX0_isFace, .instanceMethod yX0_isFace, .selects RX0 yX0_isFace yX0_isFace, .code yX0_isFace cX0_isFace 2 (some .boolean), .fieldLink RX0 15 "LinkModels$Build" "classMarks" "[I", .methodLink RX1 84 yX1_foundInFaces, .static yX1_foundInFaces, .code yX1_foundInFaces cX1_foundInFaces 5 (some .int), .methodLink RX1 88 yX0_nearestFaces, .instanceMethod yX0_nearestFaces, .selects RX0 yX0_nearestFaces yX0_nearestFaces, .code yX0_nearestFaces cX0_nearestFaces 7 (some .int), .fieldLink RX0 52 "LinkModels$Build" "reached" "[I", .methodLink RX1 92 yX0_withBody, .instanceMethod yX0_withBody, .selects RX0 yX0_withBody yX0_withBody, .code yX0_withBody cX0_withBody 6 (some .int), .methodLink RX1 95 yJ6_bitCount_0f7a4, .static yJ6_bitCount_0f7a4, .initialized RJ6, .code yJ6_bitCount_0f7a4 cJ6_bitCount_0f7a4 1 (some .int), .constant RJ6 265 (1431655765), .constant RJ6 266 (858993459), .constant RJ6 267 (252645135), .methodLink RX1 100 yX0_firstMethodOf, .instanceMethod yX0_firstMethodOf, .selects RX0 yX0_firstMethodOf yX0_firstMethodOf, .code yX0_firstMethodOf cX0_firstMethodOf 6 (some .int), .methodLink RX1 77 yX0_isFace, .methodLink RX1 43 yX1_linkedField, .static yX1_linkedField, .code yX1_linkedField cX1_linkedField 6 (some .int), .fieldLink RX1 54 "LinkModels$Signature" "word" "J", .methodLink RX1 74 yX5_puts, .instanceMethod yX5_puts, .selects RX5 yX5_puts yX5_puts, .code yX5_puts cX5_puts 1 (some .boolean), .methodLink RX1 60 yX0_fieldFrom, .instanceMethod yX0_fieldFrom, .selects RX0 yX0_fieldFrom yX0_fieldFrom, .code yX0_fieldFrom cX0_fieldFrom 6 (some .int), .methodLink RX0 86 yX0_fieldIn, .instanceMethod yX0_fieldIn, .selects RX0 yX0_fieldIn yX0_fieldIn, .code yX0_fieldIn cX0_fieldIn 5 (some .int), .methodLink RX1 35 yX0_isWhole, .instanceMethod yX0_isWhole, .selects RX0 yX0_isWhole yX0_isWhole, .code yX0_isWhole cX0_isWhole 2 (some .boolean), .code yX6_placeIn cX6_placeIn 1 (some .int)] ++ wsX60 ++ wsX00 ++ wsX50 ++ wsX30)
set_option maxRecDepth 100000 in
theorem zgX6_changed_X6_buildAt_62 : GoodIn zwX6_changed (wsV RX6 62 RX6 yX6_buildAt zwX6_buildAt) := goodIn_app (goodIn_r _ [3, 4, 5, 6] rfl (by decide +kernel)) (goodIn_app (goodIn_r _ [7, 8, 9] rfl (by decide +kernel)) (fun w hw => ⟨(List.mem_cons_of_mem _ (List.mem_append_left _ (List.mem_append_left _ (List.mem_append_left _ (List.mem_append_right _ hw))))), good_of_word (List.all_eq_true.mp zgX6 w hw)⟩))
set_option maxRecDepth 100000 in
theorem zgX6_changed_X1_tellApart_140 : GoodIn zwX6_changed (va_wsS RX6 140 yX1_tellApart zwX1_tellApart) := goodIn_app (goodIn_r _ [10, 11, 12] rfl (by decide +kernel)) (goodIn_app (goodIn_app (goodIn_app (goodIn_r _ [13, 14, 6, 15, 16, 17, 18, 12, 19, 20, 21, 22, 23, 24, 25, 26, 27, 28, 29, 30, 31, 32, 33, 34, 35, 36, 37, 38, 39, 40, 41, 42, 43, 44, 45, 46, 47, 48, 49, 50, 51, 52, 53, 54, 55, 56, 57, 58, 59, 60, 61, 62, 63, 64, 65, 66, 67, 68, 69, 70, 71, 72, 73, 74, 75, 76, 77, 78, 79, 80, 81, 82, 83, 84, 85, 86, 87, 88, 89, 90, 91, 92, 93, 94, 95, 96, 97, 98, 99, 100, 101, 102, 103, 104, 105, 106, 107, 108, 109, 110, 111, 112, 113, 114, 115, 116, 117, 118, 119, 120, 121, 122, 123, 124, 125, 126, 127] rfl (by decide +kernel)) (fun w hw => ⟨(List.mem_cons_of_mem _ (List.mem_append_left _ (List.mem_append_left _ (List.mem_append_right _ hw)))), good_of_word (List.all_eq_true.mp zgX0 w hw)⟩)) (fun w hw => ⟨(List.mem_cons_of_mem _ (List.mem_append_left _ (List.mem_append_right _ hw))), good_of_word (List.all_eq_true.mp zgX5 w hw)⟩)) (fun w hw => ⟨(List.mem_cons_of_mem _ (List.mem_append_right _ hw)), good_of_word (List.all_eq_true.mp zgX3 w hw)⟩))
set_option maxHeartbeats 4000000 in
set_option maxRecDepth 100000 in
theorem kX6_changed (l : Launch) (dC : Nat → ClassId) (dI : Nat → Nat → Nat) (xh : Nat) (tb : Nat) (xb : Nat) (xu : Nat) (rh : Nat) (cI : ClassId) (cJ : ClassId) (cB : ClassId) (cQ : ClassId) (cV : ClassId) (tn : Nat) (bn : Nat) (un : Nat) (bf : Nat → Option Nat) (wf : Nat → Option Nat) (hI : yWI tn bn un) (ib : Int32) (ic : Int32) (ii : Int32) : Met l yX6_changed zwX6_changed ({ frames := 6, cells := 0, slots := 0, locals := 145 }) (zPX dC dI [.ref xh, .int ib, .int ic, .int ii] (yW xh tb xb xu rh cI cJ cB cQ cV (nI tn) (nI bn) (nI un) bf wf) [(cI, .int), (cJ, .long), (cB, .byte), (cQ, .object RX0), (cV, .object RX5)] cI cJ cB bn bf un wf) (vp_Si (fun r => (True))) 0 0 (fun _ => False) := by
  refine Met.ofW (cc := cX6_changed) (maxL := 8) (ret := (some .int)) (by decide) rfl ?_
  intro p e s m args below meth c s₁ B hml hv
  obtain ⟨rfl, hP, hK, hE, hBs, hUs⟩ := hv
  have hx := B.exec
  have hb := B.bytes
  have hr := B.returns
  have hts := atoms_spec (ws := zwX6_changed) B.pre
  have hown : s.vm.findClass RX6 = some m.cls := findClass_of_methodNamed B.named
  have hiX6 : ∀ w ∈ wsX60, w ∈ zwX6_changed := (fun w hw => (List.mem_cons_of_mem _ (List.mem_append_left _ (List.mem_append_left _ (List.mem_append_left _ (List.mem_append_right _ hw))))))
  obtain ⟨htn, hbn, hun⟩ := hI
  have hl := lv_entry ([.ref xh, .int ib, .int ic, .int ii]) (n := 8) (Nat.le_of_ble_eq_true rfl)
  rw [lg_entry_eq]
  generalize (lg_sl ([.ref xh, .int ib, .int ic, .int ii]) ++ List.replicate (8 - (lg_sl ([.ref xh, .int ib, .int ic, .int ii])).length) Slot.unset).toArray = ls at hl ⊢
  have hl : lv_has ls 8 [(0, .ref xh), (1, .int ib), (2, .int ic), (3, .int ii)] := hl
  refine lv_aload_n hx hb dX6_changed_0 rfl (lv_at hl 0 rfl) ?_
  refine lv_iload_n hx hb dX6_changed_1 rfl (lv_at hl 1 rfl) ?_
  refine va_csq (W.runV (As := [.int ib]) (rest := []) ⟨hx, hb, hml, hown, hts⟩ (kX6_buildAt l dC dI xh tb xb xu rh cI cJ cB cQ cV tn bn un bf wf ⟨by omega, by omega, by omega⟩ ib) (cwV 1 hts zgX6_changed_X6_buildAt_62 rfl rfl rfl (by decide +kernel) ⟨(show 0 + 1 ≤ 6 by omega), (show 8 + (2 + 11) + 0 ≤ 145 by omega)⟩) (zVq (ci := 5) (q0 := 0) (q := (RX6, TX6, 7)) hK hP hE rfl rfl rfl) rfl rfl hl.1 rfl (lv_room (Nat.le_of_ble_eq_true rfl)) dX6_changed_2 ⟨(show 0 + 0 ≤ 0 by omega), (show 0 + 0 ≤ 0 by omega)⟩) (fun r1 hw => ?_)
  rcases hw with rfl | ⟨k2, hk2, rfl⟩
  · refine W.eq (g2 := F0 m 5 ls [.null]) rfl ?_
    refine lv_astoreN (lv' := [(4, .null), (0, .ref xh), (1, .int ib), (2, .int ic), (3, .int ii)]) hx hb dX6_changed_5 hl (by decide) rfl (fun ls hl => ?_)
    refine lv_aload_n hx hb dX6_changed_7 rfl (lv_at hl 1 rfl) ?_
    refine lv_iload_n hx hb dX6_changed_8 rfl (lv_at hl 3 rfl) ?_
    refine va_csq (W.runV (As := [.int ic]) (rest := []) ⟨hx, hb, hml, hown, hts⟩ (kX6_buildAt l dC dI xh tb xb xu rh cI cJ cB cQ cV tn bn un bf wf ⟨by omega, by omega, by omega⟩ ic) (cwV 1 hts zgX6_changed_X6_buildAt_62 rfl rfl rfl (by decide +kernel) ⟨(show 0 + 1 ≤ 6 by omega), (show 8 + (2 + 11) + 0 ≤ 145 by omega)⟩) (zVq (ci := 5) (q0 := 0) (q := (RX6, TX6, 7)) hK hP hE rfl rfl rfl) rfl rfl hl.1 rfl (lv_room (Nat.le_of_ble_eq_true rfl)) dX6_changed_9 ⟨(show 0 + 0 ≤ 0 by omega), (show 0 + 0 ≤ 0 by omega)⟩) (fun r3 hw => ?_)
    rcases hw with rfl | ⟨k4, hk4, rfl⟩
    · refine W.eq (g2 := F0 m 12 ls [.null]) rfl ?_
      refine lv_astoreN (lv' := [(5, .null), (4, .null), (0, .ref xh), (1, .int ib), (2, .int ic), (3, .int ii)]) hx hb dX6_changed_12 hl (by decide) rfl (fun ls hl => ?_)
      refine lv_aloadN hx hb dX6_changed_14 (lv_at hl 1 rfl) ?_
      refine lv_ifnullN (tgt := 24) hx hb dX6_changed_16 (by decide) ?_
      refine lv_bipush (v := (-2)) hx hb dX6_changed_24 (by decide) ?_
      exact W.iret (v := (-2 : Int32)) hx hb hr (fun t ht hW => ⟨(-2 : Int32), rfl, trivial, ht⟩) (fun _ h => by cases h) dX6_changed_26
    · obtain ⟨dh, wk4, hfk4, hck4, hPk4⟩ := hBs k4 hk4
      obtain ⟨dr, cc2, nA2, mA2, aA2, fcA2, fA2, mcA2, mmA2, wA2, tcA2, g1A2, g2A2, nuA2, erA2, reA2, liA2, lcA2, hIk4, rfl⟩ := hck4
      obtain ⟨hcc2, hfcA2, hmcA2, herA2, hliA2, hlcA2⟩ := hIk4
      rw [hfk4]
      refine W.eq (g2 := F0 m 12 ls [.ref dh]) rfl ?_
      have hP := hP.app hPk4
      refine lv_astore (lv' := [(5, .ref dh), (4, .null), (0, .ref xh), (1, .int ib), (2, .int ic), (3, .int ii)]) hx hb dX6_changed_12 hl (by decide) rfl (fun ls hl => ?_)
      refine lv_aloadN hx hb dX6_changed_14 (lv_at hl 1 rfl) ?_
      refine lv_ifnullN (tgt := 24) hx hb dX6_changed_16 (by decide) ?_
      refine lv_bipush (v := (-2)) hx hb dX6_changed_24 (by decide) ?_
      exact W.iret (v := (-2 : Int32)) hx hb hr (fun t ht hW => ⟨(-2 : Int32), rfl, trivial, ht⟩) (fun _ h => by cases h) dX6_changed_26
  · obtain ⟨bh, wk2, hfk2, hck2, hPk2⟩ := hBs k2 hk2
    obtain ⟨br, cc, nA, mA, aA, fcA, fA, mcA, mmA, wA, tcA, g1A, g2A, nuA, erA, reA, liA, lcA, hIk2, rfl⟩ := hck2
    obtain ⟨hcc, hfcA, hmcA, herA, hliA, hlcA⟩ := hIk2
    rw [hfk2]
    refine W.eq (g2 := F0 m 5 ls [.ref bh]) rfl ?_
    have hP := hP.app hPk2
    refine lv_astore (lv' := [(4, .ref bh), (0, .ref xh), (1, .int ib), (2, .int ic), (3, .int ii)]) hx hb dX6_changed_5 hl (by decide) rfl (fun ls hl => ?_)
    refine lv_aload_n hx hb dX6_changed_7 rfl (lv_at hl 1 rfl) ?_
    refine lv_iload_n hx hb dX6_changed_8 rfl (lv_at hl 3 rfl) ?_
    refine va_csq (W.runV (As := [.int ic]) (rest := []) ⟨hx, hb, hml, hown, hts⟩ (kX6_buildAt l dC dI xh tb xb xu rh cI cJ cB cQ cV tn bn un bf wf ⟨by omega, by omega, by omega⟩ ic) (cwV 1 hts zgX6_changed_X6_buildAt_62 rfl rfl rfl (by decide +kernel) ⟨(show 0 + 1 ≤ 6 by omega), (show 8 + (2 + 11) + 0 ≤ 145 by omega)⟩) (zVq (ci := 5) (q0 := 0) (q := (RX6, TX6, 7)) hK (hP.sub (ws' := (yW xh tb xb xu rh cI cJ cB cQ cV (nI tn) (nI bn) (nI un) bf wf)) [0, 1, 2] rfl) hE rfl rfl rfl) rfl rfl hl.1 rfl (lv_room (Nat.le_of_ble_eq_true rfl)) dX6_changed_9 ⟨(show 0 + 0 ≤ 0 by omega), (show 0 + 0 ≤ 0 by omega)⟩) (fun r5 hw => ?_)
    rcases hw with rfl | ⟨k6, hk6, rfl⟩
    · refine W.eq (g2 := F0 m 12 ls [.null]) rfl ?_
      refine lv_astoreN (lv' := [(5, .null), (4, .ref bh), (0, .ref xh), (1, .int ib), (2, .int ic), (3, .int ii)]) hx hb dX6_changed_12 hl (by decide) rfl (fun ls hl => ?_)
      refine lv_aload hx hb dX6_changed_14 (lv_at hl 1 rfl) ?_
      refine lv_ifnull hx hb dX6_changed_16 ?_
      refine lv_aloadN hx hb dX6_changed_19 (lv_at hl 0 rfl) ?_
      refine lv_ifnonnullN hx hb dX6_changed_21 ?_
      refine lv_bipush (v := (-2)) hx hb dX6_changed_24 (by decide) ?_
      exact W.iret (v := (-2 : Int32)) hx hb hr (fun t ht hW => ⟨(-2 : Int32), rfl, trivial, ht⟩) (fun _ h => by cases h) dX6_changed_26
    · obtain ⟨dh, wk6, hfk6, hck6, hPk6⟩ := hBs k6 hk6
      obtain ⟨dr, cc2, nA2, mA2, aA2, fcA2, fA2, mcA2, mmA2, wA2, tcA2, g1A2, g2A2, nuA2, erA2, reA2, liA2, lcA2, hIk6, rfl⟩ := hck6
      obtain ⟨hcc2, hfcA2, hmcA2, herA2, hliA2, hlcA2⟩ := hIk6
      rw [hfk6]
      refine W.eq (g2 := F0 m 12 ls [.ref dh]) rfl ?_
      have hP := hP.app hPk6
      refine lv_astore (lv' := [(5, .ref dh), (4, .ref bh), (0, .ref xh), (1, .int ib), (2, .int ic), (3, .int ii)]) hx hb dX6_changed_12 hl (by decide) rfl (fun ls hl => ?_)
      refine lv_aload hx hb dX6_changed_14 (lv_at hl 1 rfl) ?_
      refine lv_ifnull hx hb dX6_changed_16 ?_
      refine lv_aload hx hb dX6_changed_19 (lv_at hl 0 rfl) ?_
      refine lv_ifnonnull (tgt := 27) hx hb dX6_changed_21 (by decide) ?_
      have J33 : ∀ (z33 : Nat) (sn : Int32) (ux : Nat) (ls : Array Slot), un - ux < z33 → (ux ≤ un) → lv_has ls 8 [(0, .ref xh), (3, .int ii), (4, .ref bh), (5, .ref dh), (6, .int sn), (7, .int (nI ux))] → W p l e (headSpec zwX6_changed { frames := 6, cells := 0, slots := 0, locals := 145 }).room s m (([.ref xh, .int ib, .int ic, .int ii] : List Value).toArray) below meth c s.heap [] 0 0 (MQ below (vp_Si (fun r => (True))) (([.ref xh, .int ib, .int ic, .int ii] : List Value).toArray) s 0 0 (fun _ => False)) (F0 m 33 ls []) := by
        intro z33
        induction z33 with
        | zero => intro sn ux ls h9; exact absurd h9 (Nat.not_lt_zero _)
        | succ z33 ih33 =>
          intro sn ux ls hm33 i33_0 hl
          refine lv_iload hx hb dX6_changed_33 (lv_at hl 5 rfl) ?_
          refine lv_aload_n hx hb dX6_changed_35 rfl (lv_at hl 0 rfl) ?_
          refine va_get (D := (dC, dI)) (ci := 5) (v := .int (nI un)) (C := RX6) (T := TX6) (N := 7) hx hb hts hiX6 hown hK hP 0 rfl rfl 5 (by decide) (hts (.fieldLink RX6 32 "LinkModels" "useCount" "I") (by decide +kernel)) (fun _ h9 => h9) rfl dX6_changed_36 ?_
          refine lv_icmp_ge (tgt := 77) hx hb dX6_changed_39 (by decide) (fun cp39 => ?_) (fun cp39 => ?_)
          · have qcp39 : un ≤ ux := (nI_leI (a := un) (b := ux) (by omega) (by omega)).mp cp39
            refine lv_iconst (v := (-1)) hx hb dX6_changed_77 (by decide) ?_
            exact W.iret (v := (-1 : Int32)) hx hb hr (fun t ht hW => ⟨(-1 : Int32), rfl, trivial, ht⟩) (fun _ h => by cases h) dX6_changed_78
          · have qcp39 : ¬ un ≤ ux := fun h9 => cp39 ((nI_leI (a := un) (b := ux) (by omega) (by omega)).mpr h9)
            refine lv_aload hx hb dX6_changed_42 (lv_at hl 2 rfl) ?_
            refine lv_aload hx hb dX6_changed_44 (lv_at hl 3 rfl) ?_
            refine lv_aload_n hx hb dX6_changed_46 rfl (lv_at hl 0 rfl) ?_
            refine va_get (D := (dC, dI)) (ci := 5) (v := .ref xu) (C := RX6) (T := TX6) (N := 7) hx hb hts hiX6 hown hK hP 0 rfl rfl 4 (by decide) (hts (.fieldLink RX6 28 "LinkModels" "uses" "[LLinkModels$Use;") (by decide +kernel)) (fun _ h9 => h9) rfl dX6_changed_47 ?_
            refine lv_iload hx hb dX6_changed_50 (lv_at hl 5 rfl) ?_
            refine va_aldq hx hb hK hP 2 4 rfl rfl (vp_in_nI (show ux < 40 by omega) (by decide)) dX6_changed_52 ?_
            rw [nI_clamp (show ux < 2 ^ 31 by omega)]
            obtain ⟨uh, w9, hf9, hc9, hP9⟩ := hUs ux (by omega)
            obtain ⟨ug, uk, uc, uo, uy, uw, ut, uf, uq, rfl⟩ := hc9
            rw [hf9]
            refine W.eq (g2 := F0 m 53 ls [.ref uh, .ref dh, .ref bh]) rfl ?_
            have hP := hP.app hP9
            refine vp_callSi (W.runS (As := [.ref bh, .ref dh, .ref uh]) (rest := []) ⟨hx, hb, hml, hown, hts⟩ (kX1_tellApart l dC dI bh br dh dr uh ug cI cJ cB cc nA mA aA fcA fA mcA mmA wA tcA g1A g2A nuA erA reA liA lcA cc2 nA2 mA2 aA2 fcA2 fA2 mcA2 mmA2 wA2 tcA2 g1A2 g2A2 nuA2 erA2 reA2 liA2 lcA2 uk uc uo uy uw ut uf uq ⟨by omega, by omega, hfcA, hmcA, herA, hliA, hlcA, hfcA2, hmcA2, herA2, hliA2, hlcA2⟩) (va_cwS 3 hts zgX6_changed_X1_tellApart_140 rfl rfl rfl (by decide +kernel) ⟨(show 5 + 1 ≤ 6 by omega), (show 8 + (5 + 11) + 121 ≤ 145 by omega)⟩) (zSq (hK.sub (tys' := [(cI, .int), (cJ, .long), (cB, .byte)]) [0, 1, 2] rfl) (hP.sub (ws' := (apW bh br dh dr uh ug cI cJ cB (nI cc) nA mA aA (fun j => nI (fcA j)) fA (fun j => nI (mcA j)) mmA wA tcA g1A g2A nuA (fun j => nI (erA j)) reA (fun j => nI (liA j)) (fun j => nI (lcA j)) (nI cc2) nA2 mA2 aA2 (fun j => nI (fcA2 j)) fA2 (fun j => nI (mcA2 j)) mmA2 wA2 tcA2 g1A2 g2A2 nuA2 (fun j => nI (erA2 j)) reA2 (fun j => nI (liA2 j)) (fun j => nI (lcA2 j)) uk uc uo uy uw ut uf uq)) [3, 4, 5, 6, 7, 8, 9, 10, 11, 12, 13, 14, 15, 16, 17, 18, 19, 20, 21, 22, 23, 24, 25, 26, 27, 28, 29, 30, 31, 32, 33, 34, 35, 36, 37, 38] rfl) hE) rfl rfl hl.1 rfl (lv_room (Nat.le_of_ble_eq_true rfl)) dX6_changed_53 ⟨(show 0 + 0 ≤ 0 by omega), (show 0 + 0 ≤ 0 by omega)⟩) (fun r7 hw => ?_)
            have hw : (r7 = 0 ∨ r7 = 1) := hw
            have w0r7 := hw
            refine lv_if_eq (tgt := 71) hx hb dX6_changed_56 (by decide) (fun cp56 => ?_) (fun cp56 => ?_)
            · obtain ⟨x8, ex8⟩ : ∃ y : Int32, y = (nI ux) + 1 := ⟨_, rfl⟩
              refine lv_iinc (v := x8) (lv' := [(7, .int x8), (0, .ref xh), (3, .int ii), (4, .ref bh), (5, .ref dh), (6, .int sn)]) hx hb dX6_changed_71 hl (k := 5) rfl (by rw [ex8]; rfl) (by decide) rfl (fun ls hl => ?_)
              obtain rfl : x8 = nI (ux + 1) := by rw [ex8]; exact nI_add (ux) 1
              refine lv_goto (tgt := 33) hx hb dX6_changed_74 (by decide) ?_
              exact ih33 sn (ux + 1) ls (by omega) (by first | omega | assumption | trivial) (lv_sub hl [1, 2, 3, 4, 5, 0] rfl)
            · refine lv_iload hx hb dX6_changed_59 (lv_at hl 4 rfl) ?_
              refine lv_iload_n hx hb dX6_changed_61 rfl (lv_at hl 1 rfl) ?_
              refine lv_icmp_ne (tgt := 68) hx hb dX6_changed_62 (by decide) (fun cp62 => ?_) (fun cp62 => ?_)
              · obtain ⟨x9, ex9⟩ : ∃ y : Int32, y = sn + 1 := ⟨_, rfl⟩
                refine lv_iinc (v := x9) (lv' := [(6, .int x9), (0, .ref xh), (3, .int ii), (4, .ref bh), (5, .ref dh), (7, .int (nI ux))]) hx hb dX6_changed_68 hl (k := 4) rfl (by rw [ex9]; rfl) (by decide) rfl (fun ls hl => ?_)
                obtain ⟨x10, ex10⟩ : ∃ y : Int32, y = (nI ux) + 1 := ⟨_, rfl⟩
                refine lv_iinc (v := x10) (lv' := [(7, .int x10), (6, .int x9), (0, .ref xh), (3, .int ii), (4, .ref bh), (5, .ref dh)]) hx hb dX6_changed_71 hl (k := 5) rfl (by rw [ex10]; rfl) (by decide) rfl (fun ls hl => ?_)
                obtain rfl : x10 = nI (ux + 1) := by rw [ex10]; exact nI_add (ux) 1
                refine lv_goto (tgt := 33) hx hb dX6_changed_74 (by decide) ?_
                exact ih33 x9 (ux + 1) ls (by omega) (by first | omega | assumption | trivial) (lv_sub hl [2, 3, 4, 5, 1, 0] rfl)
              · refine lv_iload hx hb dX6_changed_65 (lv_at hl 5 rfl) ?_
                exact W.iret (v := (nI ux)) hx hb hr (fun t ht hW => ⟨(nI ux), rfl, trivial, ht⟩) (fun _ h => by cases h) dX6_changed_67
      refine lv_iconst (v := 0) hx hb dX6_changed_27 (by decide) ?_
      refine lv_istore (lv' := [(6, .int 0), (5, .ref dh), (4, .ref bh), (0, .ref xh), (1, .int ib), (2, .int ic), (3, .int ii)]) hx hb dX6_changed_28 hl (by decide) rfl (fun ls hl => ?_)
      refine lv_iconst (v := 0) hx hb dX6_changed_30 (by decide) ?_
      refine lv_istore (lv' := [(7, .int 0), (6, .int 0), (5, .ref dh), (4, .ref bh), (0, .ref xh), (1, .int ib), (2, .int ic), (3, .int ii)]) hx hb dX6_changed_31 hl (by decide) rfl (fun ls hl => ?_)
      exact J33 _ (0 : Int32) 0 ls (Nat.lt_succ_self _) (by first | omega | assumption | trivial) (lv_sub hl [4, 7, 3, 2, 1, 0] rfl)
