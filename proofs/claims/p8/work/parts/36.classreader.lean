theorem dX2_refuse_0 : decode cX2_refuse 0 = .ok (.aload_n 0, 1) := by decide +kernel
theorem dX2_refuse_1 : decode cX2_refuse 1 = .ok (.iload_n 1, 1) := by decide +kernel
theorem dX2_refuse_2 : decode cX2_refuse 2 = .ok (.putfield 27, 3) := by decide +kernel
theorem dX2_refuse_5 : decode cX2_refuse 5 = .ok (.iconst 0, 1) := by decide +kernel
theorem dX2_refuse_6 : decode cX2_refuse 6 = .ok (.ireturn, 1) := by decide +kernel
def zwX2_refuse : List Cond := .code yX2_refuse cX2_refuse 2 (some .boolean) :: ([.fieldLink RX2 27 "LinkModels$Reader" "fault" "I"] ++ wsX20)
set_option maxHeartbeats 4000000 in
set_option maxRecDepth 100000 in
theorem kX2_refuse (l : Launch) (dC : Nat → ClassId) (dI : Nat → Nat → Nat) (bh : Nat) (br : Nat → Nat) (rh : Nat) (th : Nat) (tb : Nat) (sh : Nat) (cI : ClassId) (cJ : ClassId) (cB : ClassId) (cc : Nat) (nA : Nat → Int32) (mA : Nat → Int32) (aA : Nat → Int32) (fcA : Nat → Nat) (fA : Nat → Int32) (mcA : Nat → Nat) (mmA : Nat → Int32) (wA : Nat → Int64) (tcA : Nat → Int32) (g1A : Nat → Int32) (g2A : Nat → Int32) (nuA : Nat → Int32) (erA : Nat → Nat) (reA : Nat → Int32) (liA : Nat → Nat) (lcA : Nat → Nat) (rm : Int32) (ry : Int32) (rf : Int32) (tl : Nat) (ta : Nat) (ts : Int32) (so : Int32) (tv : Int64) (tpA : Nat → Int32) (sw : Int64) (st : Int32) (sf : Int32) (sq : Int32) (hI : kWI cc fcA mcA erA liA lcA tl ta) (wy : Int32) (sz : Nat) : Met l yX2_refuse zwX2_refuse ({ frames := 0, cells := 0, slots := 0, locals := 0 }) (zPk dC dI [.ref rh, .int wy] sz (kW bh br rh th tb sh cI cJ cB (nI cc) nA mA aA (fun j => nI (fcA j)) fA (fun j => nI (mcA j)) mmA wA tcA g1A g2A nuA (fun j => nI (erA j)) reA (fun j => nI (liA j)) (fun j => nI (lcA j)) rm ry rf (nI tl) (nI ta) ts so tv tpA sw st sf sq) [(cI, .int), (cJ, .long), (cB, .byte)]) (va_Qi (fun (r : Int32) (u : Int32) => (r = 0 ∨ r = 1) ∧ (r = 0)) (fun u t => zB dC dI (va_A (kW bh br rh th tb sh cI cJ cB (nI cc) nA mA aA (fun j => nI (fcA j)) fA (fun j => nI (mcA j)) mmA wA tcA g1A g2A nuA (fun j => nI (erA j)) reA (fun j => nI (liA j)) (fun j => nI (lcA j)) rm ry rf (nI tl) (nI ta) ts so tv tpA sw st sf sq) sz) (kW bh br rh th tb sh cI cJ cB (nI cc) nA mA aA (fun j => nI (fcA j)) fA (fun j => nI (mcA j)) mmA wA tcA g1A g2A nuA (fun j => nI (erA j)) reA (fun j => nI (liA j)) (fun j => nI (lcA j)) rm ry u (nI tl) (nI ta) ts so tv tpA sw st sf sq) [(cI, .int), (cJ, .long), (cB, .byte)] t) (va_A (kW bh br rh th tb sh cI cJ cB (nI cc) nA mA aA (fun j => nI (fcA j)) fA (fun j => nI (mcA j)) mmA wA tcA g1A g2A nuA (fun j => nI (erA j)) reA (fun j => nI (liA j)) (fun j => nI (lcA j)) rm ry rf (nI tl) (nI ta) ts so tv tpA sw st sf sq) sz)) 0 0 (va_A (kW bh br rh th tb sh cI cJ cB (nI cc) nA mA aA (fun j => nI (fcA j)) fA (fun j => nI (mcA j)) mmA wA tcA g1A g2A nuA (fun j => nI (erA j)) reA (fun j => nI (liA j)) (fun j => nI (lcA j)) rm ry rf (nI tl) (nI ta) ts so tv tpA sw st sf sq) sz) := by
  refine Met.ofW (cc := cX2_refuse) (maxL := 2) (ret := (some .boolean)) (by decide) rfl ?_
  intro p e s m args below meth c s₁ B hml hv
  obtain ⟨rfl, hsz, hP, hK, hD0, hE⟩ := hv
  have hx := B.exec
  have hb := B.bytes
  have hr := B.returns
  have hts := atoms_spec (ws := zwX2_refuse) B.pre
  have hown : s.vm.findClass RX2 = some m.cls := findClass_of_methodNamed B.named
  have hiX2 : ∀ w ∈ wsX20, w ∈ zwX2_refuse := (fun w hw => (List.mem_cons_of_mem _ (List.mem_append_right _ hw)))
  obtain ⟨hcc, htl, hta, hfcA, hmcA, herA, hliA, hlcA⟩ := hI
  subst hsz
  have hD := hD0.self (sz := s.heap.size)
  generalize hAe : va_A (kW bh br rh th tb sh cI cJ cB (nI cc) nA mA aA (fun j => nI (fcA j)) fA (fun j => nI (mcA j)) mmA wA tcA g1A g2A nuA (fun j => nI (erA j)) reA (fun j => nI (liA j)) (fun j => nI (lcA j)) rm ry rf (nI tl) (nI ta) ts so tv tpA sw st sf sq) s.heap.size = A at hD ⊢
  have hA : ∀ q : Nat, s.heap.size ≤ q → A q := fun q h => by rw [← hAe]; exact Or.inr h
  have hS : va_S A s.heap s.heap [] := va_S.rf
  have hl := lv_entry ([.ref rh, .int wy]) (n := 2) (Nat.le_of_ble_eq_true rfl)
  rw [lg_entry_eq]
  generalize (lg_sl ([.ref rh, .int wy]) ++ List.replicate (2 - (lg_sl ([.ref rh, .int wy])).length) Slot.unset).toArray = ls at hl ⊢
  have hl : lv_has ls 2 [(0, .ref rh), (1, .int wy)] := hl
  refine lv_aload_n hx hb dX2_refuse_0 rfl (lv_at hl 0 rfl) ?_
  refine lv_iload_n hx hb dX2_refuse_1 rfl (lv_at hl 1 rfl) ?_
  refine va_put (D := (dC, dI)) (ci := 1) (v := .int wy) (ty := (.int)) (C := RX2) (T := TX2) (N := 5) hx hb hts hiX2 tyX2 tyX2_ok nmX2 hown hK hP hD hS 17 rfl rfl 4 (by decide) (hts (.fieldLink RX2 27 "LinkModels$Reader" "fault" "I") (by decide +kernel)) (fun _ h9 => h9) rfl (by decide +kernel) rfl rfl (Nat.le_of_ble_eq_true rfl) dX2_refuse_2 (fun H locs hP hD hS => ?_)
  have hP : va_P (dC, dI) vwCl (kW bh br rh th tb sh cI cJ cB (nI cc) nA mA aA (fun j => nI (fcA j)) fA (fun j => nI (mcA j)) mmA wA tcA g1A g2A nuA (fun j => nI (erA j)) reA (fun j => nI (liA j)) (fun j => nI (lcA j)) rm ry wy (nI tl) (nI ta) ts so tv tpA sw st sf sq) H := hP
  have hD : va_D A (kW bh br rh th tb sh cI cJ cB (nI cc) nA mA aA (fun j => nI (fcA j)) fA (fun j => nI (mcA j)) mmA wA tcA g1A g2A nuA (fun j => nI (erA j)) reA (fun j => nI (liA j)) (fun j => nI (lcA j)) rm ry wy (nI tl) (nI ta) ts so tv tpA sw st sf sq) := hD
  refine lv_iconst (v := 0) hx hb dX2_refuse_5 (by decide) ?_
  have hP9 : va_P (dC, dI) vwCl (kW bh br rh th tb sh cI cJ cB (nI cc) nA mA aA (fun j => nI (fcA j)) fA (fun j => nI (mcA j)) mmA wA tcA g1A g2A nuA (fun j => nI (erA j)) reA (fun j => nI (liA j)) (fun j => nI (lcA j)) rm ry wy (nI tl) (nI ta) ts so tv tpA sw st sf sq) H := hP
  have hD9 : va_D A (kW bh br rh th tb sh cI cJ cB (nI cc) nA mA aA (fun j => nI (fcA j)) fA (fun j => nI (mcA j)) mmA wA tcA g1A g2A nuA (fun j => nI (erA j)) reA (fun j => nI (liA j)) (fun j => nI (lcA j)) rm ry wy (nI tl) (nI ta) ts so tv tpA sw st sf sq) := hD
  exact W.zret (v := (0 : Int32)) hx hb hr rfl (fun t ht hW => ⟨⟨(0 : Int32), (wy), rfl, ⟨(Or.inl rfl), (by rfl)⟩, by rw [ht]; exact hP9, va_K.moved hW.alike hK, hD9⟩, hS.F ht⟩) hS.2.2 dX2_refuse_6
theorem dX2_passes_0 : decode cX2_passes 0 = .ok (.aload_n 0, 1) := by decide +kernel
theorem dX2_passes_1 : decode cX2_passes 1 = .ok (.getfield 14, 3) := by decide +kernel
theorem dX2_passes_4 : decode cX2_passes 4 = .ok (.iload_n 1, 1) := by decide +kernel
theorem dX2_passes_5 : decode cX2_passes 5 = .ok (.invokevirtual 47, 3) := by decide +kernel
theorem dX2_passes_8 : decode cX2_passes 8 = .ok (.ifCond .ne 9, 3) := by decide +kernel
theorem dX2_passes_11 : decode cX2_passes 11 = .ok (.aload_n 0, 1) := by decide +kernel
theorem dX2_passes_12 : decode cX2_passes 12 = .ok (.iconst 1, 1) := by decide +kernel
theorem dX2_passes_13 : decode cX2_passes 13 = .ok (.invokevirtual 67, 3) := by decide +kernel
theorem dX2_passes_16 : decode cX2_passes 16 = .ok (.ireturn, 1) := by decide +kernel
theorem dX2_passes_17 : decode cX2_passes 17 = .ok (.aload_n 0, 1) := by decide +kernel
theorem dX2_passes_18 : decode cX2_passes 18 = .ok (.getfield 14, 3) := by decide +kernel
theorem dX2_passes_21 : decode cX2_passes 21 = .ok (.invokevirtual 54, 3) := by decide +kernel
theorem dX2_passes_24 : decode cX2_passes 24 = .ok (.iconst 1, 1) := by decide +kernel
theorem dX2_passes_25 : decode cX2_passes 25 = .ok (.ireturn, 1) := by decide +kernel
def zwX2_passes : List Cond := .code yX2_passes cX2_passes 2 (some .boolean) :: ([.fieldLink RX2 14 "LinkModels$Reader" "tokens" "LLinkModels$Tokens;", .methodLink RX2 47 yX4_isSign, .instanceMethod yX4_isSign, .selects RX4 yX4_isSign yX4_isSign, .initialized RX4, .code yX4_isSign cX4_isSign 2 (some .boolean), .fieldLink RX4 40 "LinkModels$Tokens" "sort" "I", .fieldLink RX4 32 "LinkModels$Tokens" "value" "J", .methodLink RX2 54 yX4_step, .instanceMethod yX4_step, .selects RX4 yX4_step yX4_step, .code yX4_step cX4_step 2 none, .fieldLink RX4 23 "LinkModels$Tokens" "behind" "I", .fieldLink RX4 29 "LinkModels$Tokens" "start" "I", .fieldLink RX4 19 "LinkModels$Tokens" "length" "I", .fieldLink RX4 7 "LinkModels$Tokens" "tape" "[B", .methodLink RX4 51 yX4_longest, .instanceMethod yX4_longest, .selects RX4 yX4_longest yX4_longest, .code yX4_longest cX4_longest 1 (some .int), .methodLink RX4 43 yX4_take, .instanceMethod yX4_take, .selects RX4 yX4_take yX4_take, .code yX4_take cX4_take 2 none, .constantLong RX4 55 (10), .methodLink RX4 36 yX4_sortOf, .static yX4_sortOf, .code yX4_sortOf cX4_sortOf 1 (some .int), .methodLink RX4 47 yX4_joins, .instanceMethod yX4_joins, .selects RX4 yX4_joins yX4_joins, .code yX4_joins cX4_joins 2 (some .boolean), .methodLink RX2 67 yX2_refuse, .instanceMethod yX2_refuse, .selects RX2 yX2_refuse yX2_refuse, .initialized RX2, .code yX2_refuse cX2_refuse 2 (some .boolean), .fieldLink RX2 27 "LinkModels$Reader" "fault" "I"] ++ wsX20 ++ wsX40)
theorem zgX2_passes_X4_isSign_47 : GoodIn zwX2_passes (wsV RX2 47 RX4 yX4_isSign zwX4_isSign) := goodIn_app (goodIn_r _ [2, 3, 4, 5] rfl (by decide +kernel)) (goodIn_app (goodIn_r _ [6, 7, 8] rfl (by decide +kernel)) (fun w hw => ⟨(List.mem_cons_of_mem _ (List.mem_append_right _ hw)), good_of_word (List.all_eq_true.mp zgX4 w hw)⟩))
theorem zgX2_passes_X4_step_54 : GoodIn zwX2_passes (wsV RX2 54 RX4 yX4_step zwX4_step) := goodIn_app (goodIn_r _ [9, 10, 11, 5] rfl (by decide +kernel)) (goodIn_app (goodIn_r _ [12, 13, 14, 7, 15, 16, 8, 17, 18, 19, 5, 20, 21, 22, 23, 24, 25, 26, 27, 28, 29, 30, 31, 32] rfl (by decide +kernel)) (fun w hw => ⟨(List.mem_cons_of_mem _ (List.mem_append_right _ hw)), good_of_word (List.all_eq_true.mp zgX4 w hw)⟩))
theorem zgX2_passes_X2_refuse_67 : GoodIn zwX2_passes (wsV RX2 67 RX2 yX2_refuse zwX2_refuse) := goodIn_app (goodIn_r _ [33, 34, 35, 36] rfl (by decide +kernel)) (goodIn_app (goodIn_r _ [37, 38] rfl (by decide +kernel)) (fun w hw => ⟨(List.mem_cons_of_mem _ (List.mem_append_left _ (List.mem_append_right _ hw))), good_of_word (List.all_eq_true.mp zgX2 w hw)⟩))
set_option maxHeartbeats 4000000 in
set_option maxRecDepth 100000 in
theorem kX2_passes (l : Launch) (dC : Nat → ClassId) (dI : Nat → Nat → Nat) (bh : Nat) (br : Nat → Nat) (rh : Nat) (th : Nat) (tb : Nat) (sh : Nat) (cI : ClassId) (cJ : ClassId) (cB : ClassId) (cc : Nat) (nA : Nat → Int32) (mA : Nat → Int32) (aA : Nat → Int32) (fcA : Nat → Nat) (fA : Nat → Int32) (mcA : Nat → Nat) (mmA : Nat → Int32) (wA : Nat → Int64) (tcA : Nat → Int32) (g1A : Nat → Int32) (g2A : Nat → Int32) (nuA : Nat → Int32) (erA : Nat → Nat) (reA : Nat → Int32) (liA : Nat → Nat) (lcA : Nat → Nat) (rm : Int32) (ry : Int32) (rf : Int32) (tl : Nat) (ta : Nat) (ts : Int32) (so : Int32) (tv : Int64) (tpA : Nat → Int32) (sw : Int64) (st : Int32) (sf : Int32) (sq : Int32) (hI : kWI cc fcA mcA erA liA lcA tl ta) (sg : Int32) (sz : Nat) : Met l yX2_passes zwX2_passes ({ frames := 2, cells := 0, slots := 0, locals := 42 }) (zPk dC dI [.ref rh, .int sg] sz (kW bh br rh th tb sh cI cJ cB (nI cc) nA mA aA (fun j => nI (fcA j)) fA (fun j => nI (mcA j)) mmA wA tcA g1A g2A nuA (fun j => nI (erA j)) reA (fun j => nI (liA j)) (fun j => nI (lcA j)) rm ry rf (nI tl) (nI ta) ts so tv tpA sw st sf sq) [(cI, .int), (cJ, .long), (cB, .byte)]) (va_Qi (fun (r : Int32) (u : Nat × Int32 × Int32 × Int64 × Int32) => (r = 0 ∨ r = 1) ∧ ((u.1) ≤ tl)) (fun u t => zB dC dI (va_A (kW bh br rh th tb sh cI cJ cB (nI cc) nA mA aA (fun j => nI (fcA j)) fA (fun j => nI (mcA j)) mmA wA tcA g1A g2A nuA (fun j => nI (erA j)) reA (fun j => nI (liA j)) (fun j => nI (lcA j)) rm ry rf (nI tl) (nI ta) ts so tv tpA sw st sf sq) sz) (kW bh br rh th tb sh cI cJ cB (nI cc) nA mA aA (fun j => nI (fcA j)) fA (fun j => nI (mcA j)) mmA wA tcA g1A g2A nuA (fun j => nI (erA j)) reA (fun j => nI (liA j)) (fun j => nI (lcA j)) rm ry (u.2.2.2.2) (nI tl) (nI (u.1)) (u.2.1) (u.2.2.1) (u.2.2.2.1) tpA sw st sf sq) [(cI, .int), (cJ, .long), (cB, .byte)] t) (va_A (kW bh br rh th tb sh cI cJ cB (nI cc) nA mA aA (fun j => nI (fcA j)) fA (fun j => nI (mcA j)) mmA wA tcA g1A g2A nuA (fun j => nI (erA j)) reA (fun j => nI (liA j)) (fun j => nI (lcA j)) rm ry rf (nI tl) (nI ta) ts so tv tpA sw st sf sq) sz)) 0 0 (va_A (kW bh br rh th tb sh cI cJ cB (nI cc) nA mA aA (fun j => nI (fcA j)) fA (fun j => nI (mcA j)) mmA wA tcA g1A g2A nuA (fun j => nI (erA j)) reA (fun j => nI (liA j)) (fun j => nI (lcA j)) rm ry rf (nI tl) (nI ta) ts so tv tpA sw st sf sq) sz) := by
  refine Met.ofW (cc := cX2_passes) (maxL := 2) (ret := (some .boolean)) (by decide) rfl ?_
  intro p e s m args below meth c s₁ B hml hv
  obtain ⟨rfl, hsz, hP, hK, hD0, hE⟩ := hv
  have hx := B.exec
  have hb := B.bytes
  have hr := B.returns
  have hts := atoms_spec (ws := zwX2_passes) B.pre
  have hown : s.vm.findClass RX2 = some m.cls := findClass_of_methodNamed B.named
  have hiX2 : ∀ w ∈ wsX20, w ∈ zwX2_passes := (fun w hw => (List.mem_cons_of_mem _ (List.mem_append_left _ (List.mem_append_right _ hw))))
  obtain ⟨hcc, htl, hta, hfcA, hmcA, herA, hliA, hlcA⟩ := hI
  subst hsz
  have hD := hD0.self (sz := s.heap.size)
  generalize hAe : va_A (kW bh br rh th tb sh cI cJ cB (nI cc) nA mA aA (fun j => nI (fcA j)) fA (fun j => nI (mcA j)) mmA wA tcA g1A g2A nuA (fun j => nI (erA j)) reA (fun j => nI (liA j)) (fun j => nI (lcA j)) rm ry rf (nI tl) (nI ta) ts so tv tpA sw st sf sq) s.heap.size = A at hD ⊢
  have hA : ∀ q : Nat, s.heap.size ≤ q → A q := fun q h => by rw [← hAe]; exact Or.inr h
  have hS : va_S A s.heap s.heap [] := va_S.rf
  have hl := lv_entry ([.ref rh, .int sg]) (n := 2) (Nat.le_of_ble_eq_true rfl)
  rw [lg_entry_eq]
  generalize (lg_sl ([.ref rh, .int sg]) ++ List.replicate (2 - (lg_sl ([.ref rh, .int sg])).length) Slot.unset).toArray = ls at hl ⊢
  have hl : lv_has ls 2 [(0, .ref rh), (1, .int sg)] := hl
  refine lv_aload_n hx hb dX2_passes_0 rfl (lv_at hl 0 rfl) ?_
  refine va_get (D := (dC, dI)) (ci := 1) (v := .ref th) (C := RX2) (T := TX2) (N := 5) hx hb hts hiX2 hown hK hP 17 rfl rfl 0 (by decide) (hts (.fieldLink RX2 14 "LinkModels$Reader" "tokens" "LLinkModels$Tokens;") (by decide +kernel)) (fun _ h9 => h9) rfl dX2_passes_1 ?_
  refine lv_iload_n hx hb dX2_passes_4 rfl (lv_at hl 1 rfl) ?_
  refine vp_callSi (W.runV (As := [.int sg]) (rest := []) ⟨hx, hb, hml, hown, hts⟩ (kX4_isSign l dC dI rh th tb sh cI cJ cB rm ry rf tl ta ts so tv tpA sw st sf sq ⟨by omega, by omega⟩ sg) (cwV 1 hts zgX2_passes_X4_isSign_47 rfl rfl rfl (by decide +kernel) ⟨(show 0 + 1 ≤ 2 by omega), (show 8 + (2 + 11) + 0 ≤ 42 by omega)⟩) (zVq (ci := 3) (q0 := 1) (q := (RX4, TX4, 6)) hK (hP.sub (ws' := (rdW rh th tb sh cI cJ cB rm ry rf (nI tl) (nI ta) ts so tv tpA sw st sf sq)) [17, 18, 19, 20] rfl) hE rfl rfl rfl) rfl rfl hl.1 rfl (lv_room (Nat.le_of_ble_eq_true rfl)) dX2_passes_5 ⟨(show 0 + 0 ≤ 0 by omega), (show 0 + 0 ≤ 0 by omega)⟩) (fun r1 hw => ?_)
  have hw : (r1 = 0 ∨ r1 = 1) := hw
  have w0r1 := hw
  refine lv_if_ne (tgt := 17) hx hb dX2_passes_8 (by decide) (fun cp8 => ?_) (fun cp8 => ?_)
  · refine lv_aload_n hx hb dX2_passes_17 rfl (lv_at hl 0 rfl) ?_
    refine va_get (D := (dC, dI)) (ci := 1) (v := .ref th) (C := RX2) (T := TX2) (N := 5) hx hb hts hiX2 hown hK hP 17 rfl rfl 0 (by decide) (hts (.fieldLink RX2 14 "LinkModels$Reader" "tokens" "LLinkModels$Tokens;") (by decide +kernel)) (fun _ h9 => h9) rfl dX2_passes_18 ?_
    have hFc := z_freeW hD hS hA
    refine va_callv (va_runV (As := []) (rest := []) ⟨hx, hb, hml, hown, hts⟩ (kX4_step l dC dI bh br rh th tb sh cI cJ cB cc nA mA aA fcA fA mcA mmA wA tcA g1A g2A nuA erA reA liA lcA rm ry rf tl ta ts so tv tpA sw st sf sq ⟨by omega, by omega, by omega, hfcA, hmcA, herA, hliA, hlcA⟩ s.heap.size) (cwV 0 hts zgX2_passes_X4_step_54 rfl rfl rfl (by decide +kernel) ⟨(show 1 + 1 ≤ 2 by omega), (show 8 + (2 + 11) + 21 ≤ 42 by omega)⟩) (zVk (ci := 3) (q0 := 18) (q := (RX4, TX4, 6)) hK hP hD hE rfl rfl rfl) rfl rfl hl.1 rfl (lv_room (Nat.le_of_ble_eq_true rfl)) dX2_passes_21 ⟨(show 0 + 0 ≤ 0 by omega), (show 0 + 0 ≤ 0 by omega)⟩) hS (fun q _ h => hFc q h) hFc (fun u7 t H1 locs ht hvm hw hB hz1 hk1 hS => ?_)
    obtain ⟨o3, o4, o5, o6⟩ := u7
    obtain ⟨hP, hK9, hD⟩ := hB
    rw [ht] at hP
    have hD := hD.weaken (fun k q _ h => hFc q.1 h)
    generalize H1 = H at hP hS
    have hP : va_P (dC, dI) vwCl (kW bh br rh th tb sh cI cJ cB (nI cc) nA mA aA (fun j => nI (fcA j)) fA (fun j => nI (mcA j)) mmA wA tcA g1A g2A nuA (fun j => nI (erA j)) reA (fun j => nI (liA j)) (fun j => nI (lcA j)) rm ry rf (nI tl) (nI o3) o4 o5 o6 tpA sw st sf sq) H := hP
    have hD : va_D A (kW bh br rh th tb sh cI cJ cB (nI cc) nA mA aA (fun j => nI (fcA j)) fA (fun j => nI (mcA j)) mmA wA tcA g1A g2A nuA (fun j => nI (erA j)) reA (fun j => nI (liA j)) (fun j => nI (lcA j)) rm ry rf (nI tl) (nI o3) o4 o5 o6 tpA sw st sf sq) := hD
    have hw : (ta ≤ o3) ∧ (o3 ≤ tl) := hw
    obtain ⟨w0r2, w1r2⟩ := hw
    refine lv_iconst (v := 1) hx hb dX2_passes_24 (by decide) ?_
    have hP9 : va_P (dC, dI) vwCl (kW bh br rh th tb sh cI cJ cB (nI cc) nA mA aA (fun j => nI (fcA j)) fA (fun j => nI (mcA j)) mmA wA tcA g1A g2A nuA (fun j => nI (erA j)) reA (fun j => nI (liA j)) (fun j => nI (lcA j)) rm ry rf (nI tl) (nI o3) o4 o5 o6 tpA sw st sf sq) H := hP
    have hD9 : va_D A (kW bh br rh th tb sh cI cJ cB (nI cc) nA mA aA (fun j => nI (fcA j)) fA (fun j => nI (mcA j)) mmA wA tcA g1A g2A nuA (fun j => nI (erA j)) reA (fun j => nI (liA j)) (fun j => nI (lcA j)) rm ry rf (nI tl) (nI o3) o4 o5 o6 tpA sw st sf sq) := hD
    exact W.zret (v := (1 : Int32)) hx hb hr rfl (fun t ht hW => ⟨⟨(1 : Int32), (o3, o4, o5, o6, rf), rfl, ⟨(Or.inr rfl), (by first | omega | assumption | trivial)⟩, by rw [ht]; exact hP9, va_K.moved hW.alike hK, hD9⟩, hS.F ht⟩) hS.2.2 dX2_passes_25
  · refine lv_aload_n hx hb dX2_passes_11 rfl (lv_at hl 0 rfl) ?_
    refine lv_iconst (v := 1) hx hb dX2_passes_12 (by decide) ?_
    have hFc := z_freeW hD hS hA
    refine va_calli (va_runV (As := [.int 1]) (rest := []) ⟨hx, hb, hml, hown, hts⟩ (kX2_refuse l dC dI bh br rh th tb sh cI cJ cB cc nA mA aA fcA fA mcA mmA wA tcA g1A g2A nuA erA reA liA lcA rm ry rf tl ta ts so tv tpA sw st sf sq ⟨by omega, by omega, by omega, hfcA, hmcA, herA, hliA, hlcA⟩ (1 : Int32) s.heap.size) (cwV 1 hts zgX2_passes_X2_refuse_67 rfl rfl rfl (by decide +kernel) ⟨(show 0 + 1 ≤ 2 by omega), (show 8 + (2 + 11) + 0 ≤ 42 by omega)⟩) (zVk (ci := 1) (q0 := 17) (q := (RX2, TX2, 5)) hK hP hD hE rfl rfl rfl) rfl rfl hl.1 rfl (lv_room (Nat.le_of_ble_eq_true rfl)) dX2_passes_13 ⟨(show 0 + 0 ≤ 0 by omega), (show 0 + 0 ≤ 0 by omega)⟩) hS (fun q _ h => hFc q h) hFc (fun r8 o9 t H1 locs ht hvm hw hB hz1 hk1 hS => ?_)
    obtain ⟨hP, hK9, hD⟩ := hB
    rw [ht] at hP
    have hD := hD.weaken (fun k q _ h => hFc q.1 h)
    generalize H1 = H at hP hS
    have hP : va_P (dC, dI) vwCl (kW bh br rh th tb sh cI cJ cB (nI cc) nA mA aA (fun j => nI (fcA j)) fA (fun j => nI (mcA j)) mmA wA tcA g1A g2A nuA (fun j => nI (erA j)) reA (fun j => nI (liA j)) (fun j => nI (lcA j)) rm ry o9 (nI tl) (nI ta) ts so tv tpA sw st sf sq) H := hP
    have hD : va_D A (kW bh br rh th tb sh cI cJ cB (nI cc) nA mA aA (fun j => nI (fcA j)) fA (fun j => nI (mcA j)) mmA wA tcA g1A g2A nuA (fun j => nI (erA j)) reA (fun j => nI (liA j)) (fun j => nI (lcA j)) rm ry o9 (nI tl) (nI ta) ts so tv tpA sw st sf sq) := hD
    have hw : (r8 = 0 ∨ r8 = 1) ∧ (r8 = 0) := hw
    obtain ⟨w0r8, w1r8⟩ := hw
    subst w1r8
    have hP9 : va_P (dC, dI) vwCl (kW bh br rh th tb sh cI cJ cB (nI cc) nA mA aA (fun j => nI (fcA j)) fA (fun j => nI (mcA j)) mmA wA tcA g1A g2A nuA (fun j => nI (erA j)) reA (fun j => nI (liA j)) (fun j => nI (lcA j)) rm ry o9 (nI tl) (nI ta) ts so tv tpA sw st sf sq) H := hP
    have hD9 : va_D A (kW bh br rh th tb sh cI cJ cB (nI cc) nA mA aA (fun j => nI (fcA j)) fA (fun j => nI (mcA j)) mmA wA tcA g1A g2A nuA (fun j => nI (erA j)) reA (fun j => nI (liA j)) (fun j => nI (lcA j)) rm ry o9 (nI tl) (nI ta) ts so tv tpA sw st sf sq) := hD
    exact W.zret (v := (0 : Int32)) hx hb hr rfl (fun t ht hW => ⟨⟨(0 : Int32), (ta, ts, so, tv, o9), rfl, ⟨(Or.inl rfl), (by first | omega | assumption | trivial)⟩, by rw [ht]; exact hP9, va_K.moved hW.alike hK, hD9⟩, hS.F ht⟩) hS.2.2 dX2_passes_16
theorem dX2_readsAbove_0 : decode cX2_readsAbove 0 = .ok (.aload_n 0, 1) := by decide +kernel
theorem dX2_readsAbove_1 : decode cX2_readsAbove 1 = .ok (.getfield 14, 3) := by decide +kernel
theorem dX2_readsAbove_4 : decode cX2_readsAbove 4 = .ok (.bipush 60, 2) := by decide +kernel
theorem dX2_readsAbove_6 : decode cX2_readsAbove 6 = .ok (.invokevirtual 47, 3) := by decide +kernel
theorem dX2_readsAbove_9 : decode cX2_readsAbove 9 = .ok (.ifCond .ne 5, 3) := by decide +kernel
theorem dX2_readsAbove_12 : decode cX2_readsAbove 12 = .ok (.iconst 1, 1) := by decide +kernel
theorem dX2_readsAbove_13 : decode cX2_readsAbove 13 = .ok (.ireturn, 1) := by decide +kernel
theorem dX2_readsAbove_14 : decode cX2_readsAbove 14 = .ok (.aload_n 0, 1) := by decide +kernel
theorem dX2_readsAbove_15 : decode cX2_readsAbove 15 = .ok (.getfield 14, 3) := by decide +kernel
theorem dX2_readsAbove_18 : decode cX2_readsAbove 18 = .ok (.invokevirtual 54, 3) := by decide +kernel
theorem dX2_readsAbove_21 : decode cX2_readsAbove 21 = .ok (.aload_n 0, 1) := by decide +kernel
theorem dX2_readsAbove_22 : decode cX2_readsAbove 22 = .ok (.getfield 14, 3) := by decide +kernel
theorem dX2_readsAbove_25 : decode cX2_readsAbove 25 = .ok (.getfield 40, 3) := by decide +kernel
theorem dX2_readsAbove_28 : decode cX2_readsAbove 28 = .ok (.iconst 1, 1) := by decide +kernel
theorem dX2_readsAbove_29 : decode cX2_readsAbove 29 = .ok (.if_icmp .eq 9, 3) := by decide +kernel
theorem dX2_readsAbove_32 : decode cX2_readsAbove 32 = .ok (.aload_n 0, 1) := by decide +kernel
theorem dX2_readsAbove_33 : decode cX2_readsAbove 33 = .ok (.iconst 1, 1) := by decide +kernel
theorem dX2_readsAbove_34 : decode cX2_readsAbove 34 = .ok (.invokevirtual 67, 3) := by decide +kernel
theorem dX2_readsAbove_37 : decode cX2_readsAbove 37 = .ok (.ireturn, 1) := by decide +kernel
theorem dX2_readsAbove_38 : decode cX2_readsAbove 38 = .ok (.aload_n 1, 1) := by decide +kernel
theorem dX2_readsAbove_39 : decode cX2_readsAbove 39 = .ok (.aload_n 0, 1) := by decide +kernel
theorem dX2_readsAbove_40 : decode cX2_readsAbove 40 = .ok (.getfield 14, 3) := by decide +kernel
theorem dX2_readsAbove_43 : decode cX2_readsAbove 43 = .ok (.getfield 74, 3) := by decide +kernel
theorem dX2_readsAbove_46 : decode cX2_readsAbove 46 = .ok (.l2i, 1) := by decide +kernel
theorem dX2_readsAbove_47 : decode cX2_readsAbove 47 = .ok (.invokevirtual 95, 3) := by decide +kernel
theorem dX2_readsAbove_50 : decode cX2_readsAbove 50 = .ok (.aload_n 0, 1) := by decide +kernel
theorem dX2_readsAbove_51 : decode cX2_readsAbove 51 = .ok (.getfield 14, 3) := by decide +kernel
theorem dX2_readsAbove_54 : decode cX2_readsAbove 54 = .ok (.invokevirtual 54, 3) := by decide +kernel
theorem dX2_readsAbove_57 : decode cX2_readsAbove 57 = .ok (.iconst 1, 1) := by decide +kernel
theorem dX2_readsAbove_58 : decode cX2_readsAbove 58 = .ok (.ireturn, 1) := by decide +kernel
def zwX2_readsAbove : List Cond := .code yX2_readsAbove cX2_readsAbove 2 (some .boolean) :: ([.fieldLink RX2 14 "LinkModels$Reader" "tokens" "LLinkModels$Tokens;", .fieldLink RX2 40 "LinkModels$Tokens" "sort" "I", .fieldLink RX2 74 "LinkModels$Tokens" "value" "J", .methodLink RX2 47 yX4_isSign, .instanceMethod yX4_isSign, .selects RX4 yX4_isSign yX4_isSign, .initialized RX4, .code yX4_isSign cX4_isSign 2 (some .boolean), .fieldLink RX4 40 "LinkModels$Tokens" "sort" "I", .fieldLink RX4 32 "LinkModels$Tokens" "value" "J", .methodLink RX2 54 yX4_step, .instanceMethod yX4_step, .selects RX4 yX4_step yX4_step, .code yX4_step cX4_step 2 none, .fieldLink RX4 23 "LinkModels$Tokens" "behind" "I", .fieldLink RX4 29 "LinkModels$Tokens" "start" "I", .fieldLink RX4 19 "LinkModels$Tokens" "length" "I", .fieldLink RX4 7 "LinkModels$Tokens" "tape" "[B", .methodLink RX4 51 yX4_longest, .instanceMethod yX4_longest, .selects RX4 yX4_longest yX4_longest, .code yX4_longest cX4_longest 1 (some .int), .methodLink RX4 43 yX4_take, .instanceMethod yX4_take, .selects RX4 yX4_take yX4_take, .code yX4_take cX4_take 2 none, .constantLong RX4 55 (10), .methodLink RX4 36 yX4_sortOf, .static yX4_sortOf, .code yX4_sortOf cX4_sortOf 1 (some .int), .methodLink RX4 47 yX4_joins, .instanceMethod yX4_joins, .selects RX4 yX4_joins yX4_joins, .code yX4_joins cX4_joins 2 (some .boolean), .methodLink RX2 95 yX0_setAbove, .instanceMethod yX0_setAbove, .selects RX0 yX0_setAbove yX0_setAbove, .initialized RX0, .code yX0_setAbove cX0_setAbove 2 none, .fieldLink RX0 18 "LinkModels$Build" "aboveNames" "[I", .fieldLink RX0 61 "LinkModels$Build" "classCount" "I", .methodLink RX2 67 yX2_refuse, .instanceMethod yX2_refuse, .selects RX2 yX2_refuse yX2_refuse, .initialized RX2, .code yX2_refuse cX2_refuse 2 (some .boolean), .fieldLink RX2 27 "LinkModels$Reader" "fault" "I"] ++ wsX20 ++ wsX40 ++ wsX00)
theorem zgX2_readsAbove_X4_isSign_47 : GoodIn zwX2_readsAbove (wsV RX2 47 RX4 yX4_isSign zwX4_isSign) := goodIn_app (goodIn_r _ [4, 5, 6, 7] rfl (by decide +kernel)) (goodIn_app (goodIn_r _ [8, 9, 10] rfl (by decide +kernel)) (fun w hw => ⟨(List.mem_cons_of_mem _ (List.mem_append_left _ (List.mem_append_right _ hw))), good_of_word (List.all_eq_true.mp zgX4 w hw)⟩))
theorem zgX2_readsAbove_X4_step_54 : GoodIn zwX2_readsAbove (wsV RX2 54 RX4 yX4_step zwX4_step) := goodIn_app (goodIn_r _ [11, 12, 13, 7] rfl (by decide +kernel)) (goodIn_app (goodIn_r _ [14, 15, 16, 9, 17, 18, 10, 19, 20, 21, 7, 22, 23, 24, 25, 26, 27, 28, 29, 30, 31, 32, 33, 34] rfl (by decide +kernel)) (fun w hw => ⟨(List.mem_cons_of_mem _ (List.mem_append_left _ (List.mem_append_right _ hw))), good_of_word (List.all_eq_true.mp zgX4 w hw)⟩))
theorem zgX2_readsAbove_X0_setAbove_95 : GoodIn zwX2_readsAbove (wsV RX2 95 RX0 yX0_setAbove zwX0_setAbove) := goodIn_app (goodIn_r _ [35, 36, 37, 38] rfl (by decide +kernel)) (goodIn_app (goodIn_r _ [39, 40, 41] rfl (by decide +kernel)) (fun w hw => ⟨(List.mem_cons_of_mem _ (List.mem_append_right _ hw)), good_of_word (List.all_eq_true.mp zgX0 w hw)⟩))
theorem zgX2_readsAbove_X2_refuse_67 : GoodIn zwX2_readsAbove (wsV RX2 67 RX2 yX2_refuse zwX2_refuse) := goodIn_app (goodIn_r _ [42, 43, 44, 45] rfl (by decide +kernel)) (goodIn_app (goodIn_r _ [46, 47] rfl (by decide +kernel)) (fun w hw => ⟨(List.mem_cons_of_mem _ (List.mem_append_left _ (List.mem_append_left _ (List.mem_append_right _ hw)))), good_of_word (List.all_eq_true.mp zgX2 w hw)⟩))
set_option maxHeartbeats 4000000 in
set_option maxRecDepth 100000 in
theorem kX2_readsAbove (l : Launch) (dC : Nat → ClassId) (dI : Nat → Nat → Nat) (bh : Nat) (br : Nat → Nat) (rh : Nat) (th : Nat) (tb : Nat) (sh : Nat) (cI : ClassId) (cJ : ClassId) (cB : ClassId) (cc : Nat) (nA : Nat → Int32) (mA : Nat → Int32) (aA : Nat → Int32) (fcA : Nat → Nat) (fA : Nat → Int32) (mcA : Nat → Nat) (mmA : Nat → Int32) (wA : Nat → Int64) (tcA : Nat → Int32) (g1A : Nat → Int32) (g2A : Nat → Int32) (nuA : Nat → Int32) (erA : Nat → Nat) (reA : Nat → Int32) (liA : Nat → Nat) (lcA : Nat → Nat) (rm : Int32) (ry : Int32) (rf : Int32) (tl : Nat) (ta : Nat) (ts : Int32) (so : Int32) (tv : Int64) (tpA : Nat → Int32) (sw : Int64) (st : Int32) (sf : Int32) (sq : Int32) (hI : kWI cc fcA mcA erA liA lcA tl ta) (hp0 : 1 ≤ cc) (sz : Nat) : Met l yX2_readsAbove zwX2_readsAbove ({ frames := 2, cells := 0, slots := 0, locals := 42 }) (zPk dC dI [.ref rh, .ref bh] sz (kW bh br rh th tb sh cI cJ cB (nI cc) nA mA aA (fun j => nI (fcA j)) fA (fun j => nI (mcA j)) mmA wA tcA g1A g2A nuA (fun j => nI (erA j)) reA (fun j => nI (liA j)) (fun j => nI (lcA j)) rm ry rf (nI tl) (nI ta) ts so tv tpA sw st sf sq) [(cI, .int), (cJ, .long), (cB, .byte)]) (va_Qi (fun (r : Int32) (u : Nat × Int32 × Int32 × Int64 × Int32 × (Nat → Int32)) => (r = 0 ∨ r = 1) ∧ ((u.1) ≤ tl)) (fun u t => zB dC dI (va_A (kW bh br rh th tb sh cI cJ cB (nI cc) nA mA aA (fun j => nI (fcA j)) fA (fun j => nI (mcA j)) mmA wA tcA g1A g2A nuA (fun j => nI (erA j)) reA (fun j => nI (liA j)) (fun j => nI (lcA j)) rm ry rf (nI tl) (nI ta) ts so tv tpA sw st sf sq) sz) (kW bh br rh th tb sh cI cJ cB (nI cc) nA mA (u.2.2.2.2.2) (fun j => nI (fcA j)) fA (fun j => nI (mcA j)) mmA wA tcA g1A g2A nuA (fun j => nI (erA j)) reA (fun j => nI (liA j)) (fun j => nI (lcA j)) rm ry (u.2.2.2.2.1) (nI tl) (nI (u.1)) (u.2.1) (u.2.2.1) (u.2.2.2.1) tpA sw st sf sq) [(cI, .int), (cJ, .long), (cB, .byte)] t) (va_A (kW bh br rh th tb sh cI cJ cB (nI cc) nA mA aA (fun j => nI (fcA j)) fA (fun j => nI (mcA j)) mmA wA tcA g1A g2A nuA (fun j => nI (erA j)) reA (fun j => nI (liA j)) (fun j => nI (lcA j)) rm ry rf (nI tl) (nI ta) ts so tv tpA sw st sf sq) sz)) 0 0 (va_A (kW bh br rh th tb sh cI cJ cB (nI cc) nA mA aA (fun j => nI (fcA j)) fA (fun j => nI (mcA j)) mmA wA tcA g1A g2A nuA (fun j => nI (erA j)) reA (fun j => nI (liA j)) (fun j => nI (lcA j)) rm ry rf (nI tl) (nI ta) ts so tv tpA sw st sf sq) sz) := by
  refine Met.ofW (cc := cX2_readsAbove) (maxL := 2) (ret := (some .boolean)) (by decide) rfl ?_
  intro p e s m args below meth c s₁ B hml hv
  obtain ⟨rfl, hsz, hP, hK, hD0, hE⟩ := hv
  have hx := B.exec
  have hb := B.bytes
  have hr := B.returns
  have hts := atoms_spec (ws := zwX2_readsAbove) B.pre
  have hown : s.vm.findClass RX2 = some m.cls := findClass_of_methodNamed B.named
  have hiX2 : ∀ w ∈ wsX20, w ∈ zwX2_readsAbove := (fun w hw => (List.mem_cons_of_mem _ (List.mem_append_left _ (List.mem_append_left _ (List.mem_append_right _ hw)))))
  have hiX4 : ∀ w ∈ wsX40, w ∈ zwX2_readsAbove := (fun w hw => (List.mem_cons_of_mem _ (List.mem_append_left _ (List.mem_append_right _ hw))))
  obtain ⟨hcc, htl, hta, hfcA, hmcA, herA, hliA, hlcA⟩ := hI
  subst hsz
  have hD := hD0.self (sz := s.heap.size)
  generalize hAe : va_A (kW bh br rh th tb sh cI cJ cB (nI cc) nA mA aA (fun j => nI (fcA j)) fA (fun j => nI (mcA j)) mmA wA tcA g1A g2A nuA (fun j => nI (erA j)) reA (fun j => nI (liA j)) (fun j => nI (lcA j)) rm ry rf (nI tl) (nI ta) ts so tv tpA sw st sf sq) s.heap.size = A at hD ⊢
  have hA : ∀ q : Nat, s.heap.size ≤ q → A q := fun q h => by rw [← hAe]; exact Or.inr h
  have hS : va_S A s.heap s.heap [] := va_S.rf
  have hl := lv_entry ([.ref rh, .ref bh]) (n := 2) (Nat.le_of_ble_eq_true rfl)
  rw [lg_entry_eq]
  generalize (lg_sl ([.ref rh, .ref bh]) ++ List.replicate (2 - (lg_sl ([.ref rh, .ref bh])).length) Slot.unset).toArray = ls at hl ⊢
  have hl : lv_has ls 2 [(0, .ref rh), (1, .ref bh)] := hl
  refine lv_aload_n hx hb dX2_readsAbove_0 rfl (lv_at hl 0 rfl) ?_
  refine va_get (D := (dC, dI)) (ci := 1) (v := .ref th) (C := RX2) (T := TX2) (N := 5) hx hb hts hiX2 hown hK hP 17 rfl rfl 0 (by decide) (hts (.fieldLink RX2 14 "LinkModels$Reader" "tokens" "LLinkModels$Tokens;") (by decide +kernel)) (fun _ h9 => h9) rfl dX2_readsAbove_1 ?_
  refine lv_bipush (v := 60) hx hb dX2_readsAbove_4 (by decide) ?_
  refine vp_callSi (W.runV (As := [.int 60]) (rest := []) ⟨hx, hb, hml, hown, hts⟩ (kX4_isSign l dC dI rh th tb sh cI cJ cB rm ry rf tl ta ts so tv tpA sw st sf sq ⟨by omega, by omega⟩ (60 : Int32)) (cwV 1 hts zgX2_readsAbove_X4_isSign_47 rfl rfl rfl (by decide +kernel) ⟨(show 0 + 1 ≤ 2 by omega), (show 8 + (2 + 11) + 0 ≤ 42 by omega)⟩) (zVq (ci := 3) (q0 := 1) (q := (RX4, TX4, 6)) hK (hP.sub (ws' := (rdW rh th tb sh cI cJ cB rm ry rf (nI tl) (nI ta) ts so tv tpA sw st sf sq)) [17, 18, 19, 20] rfl) hE rfl rfl rfl) rfl rfl hl.1 rfl (lv_room (Nat.le_of_ble_eq_true rfl)) dX2_readsAbove_6 ⟨(show 0 + 0 ≤ 0 by omega), (show 0 + 0 ≤ 0 by omega)⟩) (fun r1 hw => ?_)
  have hw : (r1 = 0 ∨ r1 = 1) := hw
  have w0r1 := hw
  refine lv_if_ne (tgt := 14) hx hb dX2_readsAbove_9 (by decide) (fun cp9 => ?_) (fun cp9 => ?_)
  · refine lv_aload_n hx hb dX2_readsAbove_14 rfl (lv_at hl 0 rfl) ?_
    refine va_get (D := (dC, dI)) (ci := 1) (v := .ref th) (C := RX2) (T := TX2) (N := 5) hx hb hts hiX2 hown hK hP 17 rfl rfl 0 (by decide) (hts (.fieldLink RX2 14 "LinkModels$Reader" "tokens" "LLinkModels$Tokens;") (by decide +kernel)) (fun _ h9 => h9) rfl dX2_readsAbove_15 ?_
    have hFc := z_freeW hD hS hA
    refine va_callv (va_runV (As := []) (rest := []) ⟨hx, hb, hml, hown, hts⟩ (kX4_step l dC dI bh br rh th tb sh cI cJ cB cc nA mA aA fcA fA mcA mmA wA tcA g1A g2A nuA erA reA liA lcA rm ry rf tl ta ts so tv tpA sw st sf sq ⟨by omega, by omega, by omega, hfcA, hmcA, herA, hliA, hlcA⟩ s.heap.size) (cwV 0 hts zgX2_readsAbove_X4_step_54 rfl rfl rfl (by decide +kernel) ⟨(show 1 + 1 ≤ 2 by omega), (show 8 + (2 + 11) + 21 ≤ 42 by omega)⟩) (zVk (ci := 3) (q0 := 18) (q := (RX4, TX4, 6)) hK hP hD hE rfl rfl rfl) rfl rfl hl.1 rfl (lv_room (Nat.le_of_ble_eq_true rfl)) dX2_readsAbove_18 ⟨(show 0 + 0 ≤ 0 by omega), (show 0 + 0 ≤ 0 by omega)⟩) hS (fun q _ h => hFc q h) hFc (fun u7 t H1 locs ht hvm hw hB hz1 hk1 hS => ?_)
    obtain ⟨o3, o4, o5, o6⟩ := u7
    obtain ⟨hP, hK9, hD⟩ := hB
    rw [ht] at hP
    have hD := hD.weaken (fun k q _ h => hFc q.1 h)
    generalize H1 = H at hP hS
    have hP : va_P (dC, dI) vwCl (kW bh br rh th tb sh cI cJ cB (nI cc) nA mA aA (fun j => nI (fcA j)) fA (fun j => nI (mcA j)) mmA wA tcA g1A g2A nuA (fun j => nI (erA j)) reA (fun j => nI (liA j)) (fun j => nI (lcA j)) rm ry rf (nI tl) (nI o3) o4 o5 o6 tpA sw st sf sq) H := hP
    have hD : va_D A (kW bh br rh th tb sh cI cJ cB (nI cc) nA mA aA (fun j => nI (fcA j)) fA (fun j => nI (mcA j)) mmA wA tcA g1A g2A nuA (fun j => nI (erA j)) reA (fun j => nI (liA j)) (fun j => nI (lcA j)) rm ry rf (nI tl) (nI o3) o4 o5 o6 tpA sw st sf sq) := hD
    have hw : (ta ≤ o3) ∧ (o3 ≤ tl) := hw
    obtain ⟨w0r2, w1r2⟩ := hw
    refine lv_aload_n hx hb dX2_readsAbove_21 rfl (lv_at hl 0 rfl) ?_
    refine va_get (D := (dC, dI)) (ci := 1) (v := .ref th) (C := RX2) (T := TX2) (N := 5) hx hb hts hiX2 hown hK hP 17 rfl rfl 0 (by decide) (hts (.fieldLink RX2 14 "LinkModels$Reader" "tokens" "LLinkModels$Tokens;") (by decide +kernel)) (fun _ h9 => h9) rfl dX2_readsAbove_22 ?_
    refine va_get (D := (dC, dI)) (ci := 3) (v := .int o5) (C := RX4) (T := TX4) (N := 6) hx hb hts hiX4 hown hK hP 18 rfl rfl 4 (by decide) (hts (.fieldLink RX2 40 "LinkModels$Tokens" "sort" "I") (by decide +kernel)) (fun _ h9 => h9) rfl dX2_readsAbove_25 ?_
    refine lv_iconst (v := 1) hx hb dX2_readsAbove_28 (by decide) ?_
    refine lv_icmp_eq (tgt := 38) hx hb dX2_readsAbove_29 (by decide) (fun cp29 => ?_) (fun cp29 => ?_)
    · refine lv_aload_n hx hb dX2_readsAbove_38 rfl (lv_at hl 1 rfl) ?_
      refine lv_aload_n hx hb dX2_readsAbove_39 rfl (lv_at hl 0 rfl) ?_
      refine va_get (D := (dC, dI)) (ci := 1) (v := .ref th) (C := RX2) (T := TX2) (N := 5) hx hb hts hiX2 hown hK hP 17 rfl rfl 0 (by decide) (hts (.fieldLink RX2 14 "LinkModels$Reader" "tokens" "LLinkModels$Tokens;") (by decide +kernel)) (fun _ h9 => h9) rfl dX2_readsAbove_40 ?_
      refine va_get (D := (dC, dI)) (ci := 3) (v := .long o6) (C := RX4) (T := TX4) (N := 6) hx hb hts hiX4 hown hK hP 18 rfl rfl 5 (by decide) (hts (.fieldLink RX2 74 "LinkModels$Tokens" "value" "J") (by decide +kernel)) (fun _ h9 => h9) rfl dX2_readsAbove_43 ?_
      refine lv_l2i hx hb dX2_readsAbove_46 rfl ?_
      refine lv_topi (fun x8 ex8 => ?_)
      have hFc := z_freeW hD hS hA
      refine va_callv (va_runV (As := [.int x8]) (rest := []) ⟨hx, hb, hml, hown, hts⟩ (kX0_setAbove l dC dI bh br rh th tb sh cI cJ cB cc nA mA aA fcA fA mcA mmA wA tcA g1A g2A nuA erA reA liA lcA rm ry rf tl o3 o4 o5 o6 tpA sw st sf sq ⟨by omega, by omega, by omega, hfcA, hmcA, herA, hliA, hlcA⟩ x8 (by first | omega | assumption | trivial) H.size) (cwV 1 hts zgX2_readsAbove_X0_setAbove_95 rfl rfl rfl (by decide +kernel) ⟨(show 0 + 1 ≤ 2 by omega), (show 8 + (2 + 11) + 0 ≤ 42 by omega)⟩) (zVk (ci := 0) (q0 := 0) (q := (RX0, TX0, 17)) hK hP hD hE rfl rfl rfl) rfl rfl hl.1 rfl (lv_room (Nat.le_of_ble_eq_true rfl)) dX2_readsAbove_47 ⟨(show 0 + 0 ≤ 0 by omega), (show 0 + 0 ≤ 0 by omega)⟩) hS (fun q _ h => hFc q h) hFc (fun o10 t H1 locs ht hvm hw hB hz1 hk1 hS => ?_)
      obtain ⟨hP, hK9, hD⟩ := hB
      rw [ht] at hP
      have hD := hD.weaken (fun k q _ h => hFc q.1 h)
      generalize H1 = H at hP hS
      have hP : va_P (dC, dI) vwCl (kW bh br rh th tb sh cI cJ cB (nI cc) nA mA o10 (fun j => nI (fcA j)) fA (fun j => nI (mcA j)) mmA wA tcA g1A g2A nuA (fun j => nI (erA j)) reA (fun j => nI (liA j)) (fun j => nI (lcA j)) rm ry rf (nI tl) (nI o3) o4 o5 o6 tpA sw st sf sq) H := hP
      have hD : va_D A (kW bh br rh th tb sh cI cJ cB (nI cc) nA mA o10 (fun j => nI (fcA j)) fA (fun j => nI (mcA j)) mmA wA tcA g1A g2A nuA (fun j => nI (erA j)) reA (fun j => nI (liA j)) (fun j => nI (lcA j)) rm ry rf (nI tl) (nI o3) o4 o5 o6 tpA sw st sf sq) := hD
      have hw : (True) := hw
      have w0r9 := hw
      refine lv_aload_n hx hb dX2_readsAbove_50 rfl (lv_at hl 0 rfl) ?_
      refine va_get (D := (dC, dI)) (ci := 1) (v := .ref th) (C := RX2) (T := TX2) (N := 5) hx hb hts hiX2 hown hK hP 17 rfl rfl 0 (by decide) (hts (.fieldLink RX2 14 "LinkModels$Reader" "tokens" "LLinkModels$Tokens;") (by decide +kernel)) (fun _ h9 => h9) rfl dX2_readsAbove_51 ?_
      have hFc := z_freeW hD hS hA
      refine va_callv (va_runV (As := []) (rest := []) ⟨hx, hb, hml, hown, hts⟩ (kX4_step l dC dI bh br rh th tb sh cI cJ cB cc nA mA o10 fcA fA mcA mmA wA tcA g1A g2A nuA erA reA liA lcA rm ry rf tl o3 o4 o5 o6 tpA sw st sf sq ⟨by omega, by omega, by omega, hfcA, hmcA, herA, hliA, hlcA⟩ H.size) (cwV 0 hts zgX2_readsAbove_X4_step_54 rfl rfl rfl (by decide +kernel) ⟨(show 1 + 1 ≤ 2 by omega), (show 8 + (2 + 11) + 21 ≤ 42 by omega)⟩) (zVk (ci := 3) (q0 := 18) (q := (RX4, TX4, 6)) hK hP hD hE rfl rfl rfl) rfl rfl hl.1 rfl (lv_room (Nat.le_of_ble_eq_true rfl)) dX2_readsAbove_54 ⟨(show 0 + 0 ≤ 0 by omega), (show 0 + 0 ≤ 0 by omega)⟩) hS (fun q _ h => hFc q h) hFc (fun u16 t H1 locs ht hvm hw hB hz1 hk1 hS => ?_)
      obtain ⟨o12, o13, o14, o15⟩ := u16
      obtain ⟨hP, hK9, hD⟩ := hB
      rw [ht] at hP
      have hD := hD.weaken (fun k q _ h => hFc q.1 h)
      generalize H1 = H at hP hS
      have hP : va_P (dC, dI) vwCl (kW bh br rh th tb sh cI cJ cB (nI cc) nA mA o10 (fun j => nI (fcA j)) fA (fun j => nI (mcA j)) mmA wA tcA g1A g2A nuA (fun j => nI (erA j)) reA (fun j => nI (liA j)) (fun j => nI (lcA j)) rm ry rf (nI tl) (nI o12) o13 o14 o15 tpA sw st sf sq) H := hP
      have hD : va_D A (kW bh br rh th tb sh cI cJ cB (nI cc) nA mA o10 (fun j => nI (fcA j)) fA (fun j => nI (mcA j)) mmA wA tcA g1A g2A nuA (fun j => nI (erA j)) reA (fun j => nI (liA j)) (fun j => nI (lcA j)) rm ry rf (nI tl) (nI o12) o13 o14 o15 tpA sw st sf sq) := hD
      have hw : (o3 ≤ o12) ∧ (o12 ≤ tl) := hw
      obtain ⟨w0r11, w1r11⟩ := hw
      refine lv_iconst (v := 1) hx hb dX2_readsAbove_57 (by decide) ?_
      have hP9 : va_P (dC, dI) vwCl (kW bh br rh th tb sh cI cJ cB (nI cc) nA mA o10 (fun j => nI (fcA j)) fA (fun j => nI (mcA j)) mmA wA tcA g1A g2A nuA (fun j => nI (erA j)) reA (fun j => nI (liA j)) (fun j => nI (lcA j)) rm ry rf (nI tl) (nI o12) o13 o14 o15 tpA sw st sf sq) H := hP
      have hD9 : va_D A (kW bh br rh th tb sh cI cJ cB (nI cc) nA mA o10 (fun j => nI (fcA j)) fA (fun j => nI (mcA j)) mmA wA tcA g1A g2A nuA (fun j => nI (erA j)) reA (fun j => nI (liA j)) (fun j => nI (lcA j)) rm ry rf (nI tl) (nI o12) o13 o14 o15 tpA sw st sf sq) := hD
      exact W.zret (v := (1 : Int32)) hx hb hr rfl (fun t ht hW => ⟨⟨(1 : Int32), (o12, o13, o14, o15, rf, o10), rfl, ⟨(Or.inr rfl), (by first | omega | assumption | trivial)⟩, by rw [ht]; exact hP9, va_K.moved hW.alike hK, hD9⟩, hS.F ht⟩) hS.2.2 dX2_readsAbove_58
    · refine lv_aload_n hx hb dX2_readsAbove_32 rfl (lv_at hl 0 rfl) ?_
      refine lv_iconst (v := 1) hx hb dX2_readsAbove_33 (by decide) ?_
      have hFc := z_freeW hD hS hA
      refine va_calli (va_runV (As := [.int 1]) (rest := []) ⟨hx, hb, hml, hown, hts⟩ (kX2_refuse l dC dI bh br rh th tb sh cI cJ cB cc nA mA aA fcA fA mcA mmA wA tcA g1A g2A nuA erA reA liA lcA rm ry rf tl o3 o4 o5 o6 tpA sw st sf sq ⟨by omega, by omega, by omega, hfcA, hmcA, herA, hliA, hlcA⟩ (1 : Int32) H.size) (cwV 1 hts zgX2_readsAbove_X2_refuse_67 rfl rfl rfl (by decide +kernel) ⟨(show 0 + 1 ≤ 2 by omega), (show 8 + (2 + 11) + 0 ≤ 42 by omega)⟩) (zVk (ci := 1) (q0 := 17) (q := (RX2, TX2, 5)) hK hP hD hE rfl rfl rfl) rfl rfl hl.1 rfl (lv_room (Nat.le_of_ble_eq_true rfl)) dX2_readsAbove_34 ⟨(show 0 + 0 ≤ 0 by omega), (show 0 + 0 ≤ 0 by omega)⟩) hS (fun q _ h => hFc q h) hFc (fun r17 o18 t H1 locs ht hvm hw hB hz1 hk1 hS => ?_)
      obtain ⟨hP, hK9, hD⟩ := hB
      rw [ht] at hP
      have hD := hD.weaken (fun k q _ h => hFc q.1 h)
      generalize H1 = H at hP hS
      have hP : va_P (dC, dI) vwCl (kW bh br rh th tb sh cI cJ cB (nI cc) nA mA aA (fun j => nI (fcA j)) fA (fun j => nI (mcA j)) mmA wA tcA g1A g2A nuA (fun j => nI (erA j)) reA (fun j => nI (liA j)) (fun j => nI (lcA j)) rm ry o18 (nI tl) (nI o3) o4 o5 o6 tpA sw st sf sq) H := hP
      have hD : va_D A (kW bh br rh th tb sh cI cJ cB (nI cc) nA mA aA (fun j => nI (fcA j)) fA (fun j => nI (mcA j)) mmA wA tcA g1A g2A nuA (fun j => nI (erA j)) reA (fun j => nI (liA j)) (fun j => nI (lcA j)) rm ry o18 (nI tl) (nI o3) o4 o5 o6 tpA sw st sf sq) := hD
      have hw : (r17 = 0 ∨ r17 = 1) ∧ (r17 = 0) := hw
      obtain ⟨w0r17, w1r17⟩ := hw
      subst w1r17
      have hP9 : va_P (dC, dI) vwCl (kW bh br rh th tb sh cI cJ cB (nI cc) nA mA aA (fun j => nI (fcA j)) fA (fun j => nI (mcA j)) mmA wA tcA g1A g2A nuA (fun j => nI (erA j)) reA (fun j => nI (liA j)) (fun j => nI (lcA j)) rm ry o18 (nI tl) (nI o3) o4 o5 o6 tpA sw st sf sq) H := hP
      have hD9 : va_D A (kW bh br rh th tb sh cI cJ cB (nI cc) nA mA aA (fun j => nI (fcA j)) fA (fun j => nI (mcA j)) mmA wA tcA g1A g2A nuA (fun j => nI (erA j)) reA (fun j => nI (liA j)) (fun j => nI (lcA j)) rm ry o18 (nI tl) (nI o3) o4 o5 o6 tpA sw st sf sq) := hD
      exact W.zret (v := (0 : Int32)) hx hb hr rfl (fun t ht hW => ⟨⟨(0 : Int32), (o3, o4, o5, o6, o18, aA), rfl, ⟨(Or.inl rfl), (by first | omega | assumption | trivial)⟩, by rw [ht]; exact hP9, va_K.moved hW.alike hK, hD9⟩, hS.F ht⟩) hS.2.2 dX2_readsAbove_37
  · refine lv_iconst (v := 1) hx hb dX2_readsAbove_12 (by decide) ?_
    have hP9 : va_P (dC, dI) vwCl (kW bh br rh th tb sh cI cJ cB (nI cc) nA mA aA (fun j => nI (fcA j)) fA (fun j => nI (mcA j)) mmA wA tcA g1A g2A nuA (fun j => nI (erA j)) reA (fun j => nI (liA j)) (fun j => nI (lcA j)) rm ry rf (nI tl) (nI ta) ts so tv tpA sw st sf sq) s.heap := hP
    have hD9 : va_D A (kW bh br rh th tb sh cI cJ cB (nI cc) nA mA aA (fun j => nI (fcA j)) fA (fun j => nI (mcA j)) mmA wA tcA g1A g2A nuA (fun j => nI (erA j)) reA (fun j => nI (liA j)) (fun j => nI (lcA j)) rm ry rf (nI tl) (nI ta) ts so tv tpA sw st sf sq) := hD
    exact W.zret (v := (1 : Int32)) hx hb hr rfl (fun t ht hW => ⟨⟨(1 : Int32), (ta, ts, so, tv, rf, aA), rfl, ⟨(Or.inr rfl), (by first | omega | assumption | trivial)⟩, by rw [ht]; exact hP9, va_K.moved hW.alike hK, hD9⟩, hS.F ht⟩) hS.2.2 dX2_readsAbove_13
theorem dX2_readsFaces_0 : decode cX2_readsFaces 0 = .ok (.aload_n 0, 1) := by decide +kernel
theorem dX2_readsFaces_1 : decode cX2_readsFaces 1 = .ok (.getfield 14, 3) := by decide +kernel
theorem dX2_readsFaces_4 : decode cX2_readsFaces 4 = .ok (.bipush 58, 2) := by decide +kernel
theorem dX2_readsFaces_6 : decode cX2_readsFaces 6 = .ok (.invokevirtual 47, 3) := by decide +kernel
theorem dX2_readsFaces_9 : decode cX2_readsFaces 9 = .ok (.istore_n 2, 1) := by decide +kernel
theorem dX2_readsFaces_10 : decode cX2_readsFaces 10 = .ok (.iconst 0, 1) := by decide +kernel
theorem dX2_readsFaces_11 : decode cX2_readsFaces 11 = .ok (.istore_n 3, 1) := by decide +kernel
theorem dX2_readsFaces_12 : decode cX2_readsFaces 12 = .ok (.iload_n 3, 1) := by decide +kernel
theorem dX2_readsFaces_13 : decode cX2_readsFaces 13 = .ok (.iconst 3, 1) := by decide +kernel
theorem dX2_readsFaces_14 : decode cX2_readsFaces 14 = .ok (.if_icmp .gt 77, 3) := by decide +kernel
theorem dX2_readsFaces_17 : decode cX2_readsFaces 17 = .ok (.iload_n 2, 1) := by decide +kernel
theorem dX2_readsFaces_18 : decode cX2_readsFaces 18 = .ok (.ifCond .eq 73, 3) := by decide +kernel
theorem dX2_readsFaces_21 : decode cX2_readsFaces 21 = .ok (.aload_n 0, 1) := by decide +kernel
theorem dX2_readsFaces_22 : decode cX2_readsFaces 22 = .ok (.getfield 14, 3) := by decide +kernel
theorem dX2_readsFaces_25 : decode cX2_readsFaces 25 = .ok (.invokevirtual 54, 3) := by decide +kernel
theorem dX2_readsFaces_28 : decode cX2_readsFaces 28 = .ok (.aload_n 0, 1) := by decide +kernel
theorem dX2_readsFaces_29 : decode cX2_readsFaces 29 = .ok (.getfield 14, 3) := by decide +kernel
theorem dX2_readsFaces_32 : decode cX2_readsFaces 32 = .ok (.getfield 40, 3) := by decide +kernel
theorem dX2_readsFaces_35 : decode cX2_readsFaces 35 = .ok (.iconst 1, 1) := by decide +kernel
theorem dX2_readsFaces_36 : decode cX2_readsFaces 36 = .ok (.if_icmp .eq 9, 3) := by decide +kernel
theorem dX2_readsFaces_39 : decode cX2_readsFaces 39 = .ok (.aload_n 0, 1) := by decide +kernel
theorem dX2_readsFaces_40 : decode cX2_readsFaces 40 = .ok (.iconst 1, 1) := by decide +kernel
theorem dX2_readsFaces_41 : decode cX2_readsFaces 41 = .ok (.invokevirtual 67, 3) := by decide +kernel
theorem dX2_readsFaces_44 : decode cX2_readsFaces 44 = .ok (.ireturn, 1) := by decide +kernel
theorem dX2_readsFaces_45 : decode cX2_readsFaces 45 = .ok (.iload_n 3, 1) := by decide +kernel
theorem dX2_readsFaces_46 : decode cX2_readsFaces 46 = .ok (.iconst 3, 1) := by decide +kernel
theorem dX2_readsFaces_47 : decode cX2_readsFaces 47 = .ok (.if_icmp .lt 9, 3) := by decide +kernel
theorem dX2_readsFaces_50 : decode cX2_readsFaces 50 = .ok (.aload_n 0, 1) := by decide +kernel
theorem dX2_readsFaces_51 : decode cX2_readsFaces 51 = .ok (.iconst 2, 1) := by decide +kernel
theorem dX2_readsFaces_52 : decode cX2_readsFaces 52 = .ok (.invokevirtual 67, 3) := by decide +kernel
theorem dX2_readsFaces_55 : decode cX2_readsFaces 55 = .ok (.ireturn, 1) := by decide +kernel
theorem dX2_readsFaces_56 : decode cX2_readsFaces 56 = .ok (.aload_n 1, 1) := by decide +kernel
theorem dX2_readsFaces_57 : decode cX2_readsFaces 57 = .ok (.aload_n 0, 1) := by decide +kernel
theorem dX2_readsFaces_58 : decode cX2_readsFaces 58 = .ok (.getfield 14, 3) := by decide +kernel
theorem dX2_readsFaces_61 : decode cX2_readsFaces 61 = .ok (.getfield 74, 3) := by decide +kernel
theorem dX2_readsFaces_64 : decode cX2_readsFaces 64 = .ok (.l2i, 1) := by decide +kernel
theorem dX2_readsFaces_65 : decode cX2_readsFaces 65 = .ok (.invokevirtual 98, 3) := by decide +kernel
theorem dX2_readsFaces_68 : decode cX2_readsFaces 68 = .ok (.aload_n 0, 1) := by decide +kernel
theorem dX2_readsFaces_69 : decode cX2_readsFaces 69 = .ok (.getfield 14, 3) := by decide +kernel
theorem dX2_readsFaces_72 : decode cX2_readsFaces 72 = .ok (.invokevirtual 54, 3) := by decide +kernel
theorem dX2_readsFaces_75 : decode cX2_readsFaces 75 = .ok (.aload_n 0, 1) := by decide +kernel
theorem dX2_readsFaces_76 : decode cX2_readsFaces 76 = .ok (.getfield 14, 3) := by decide +kernel
theorem dX2_readsFaces_79 : decode cX2_readsFaces 79 = .ok (.bipush 44, 2) := by decide +kernel
theorem dX2_readsFaces_81 : decode cX2_readsFaces 81 = .ok (.invokevirtual 47, 3) := by decide +kernel
theorem dX2_readsFaces_84 : decode cX2_readsFaces 84 = .ok (.istore_n 2, 1) := by decide +kernel
theorem dX2_readsFaces_85 : decode cX2_readsFaces 85 = .ok (.iinc 3 1, 3) := by decide +kernel
theorem dX2_readsFaces_88 : decode cX2_readsFaces 88 = .ok (.goto (-76), 3) := by decide +kernel
theorem dX2_readsFaces_91 : decode cX2_readsFaces 91 = .ok (.iconst 1, 1) := by decide +kernel
theorem dX2_readsFaces_92 : decode cX2_readsFaces 92 = .ok (.ireturn, 1) := by decide +kernel
def zwX2_readsFaces : List Cond := .code yX2_readsFaces cX2_readsFaces 4 (some .boolean) :: ([.fieldLink RX2 14 "LinkModels$Reader" "tokens" "LLinkModels$Tokens;", .fieldLink RX2 40 "LinkModels$Tokens" "sort" "I", .fieldLink RX2 74 "LinkModels$Tokens" "value" "J", .methodLink RX2 54 yX4_step, .instanceMethod yX4_step, .selects RX4 yX4_step yX4_step, .initialized RX4, .code yX4_step cX4_step 2 none, .fieldLink RX4 23 "LinkModels$Tokens" "behind" "I", .fieldLink RX4 29 "LinkModels$Tokens" "start" "I", .fieldLink RX4 40 "LinkModels$Tokens" "sort" "I", .fieldLink RX4 19 "LinkModels$Tokens" "length" "I", .fieldLink RX4 7 "LinkModels$Tokens" "tape" "[B", .fieldLink RX4 32 "LinkModels$Tokens" "value" "J", .methodLink RX4 51 yX4_longest, .instanceMethod yX4_longest, .selects RX4 yX4_longest yX4_longest, .code yX4_longest cX4_longest 1 (some .int), .methodLink RX4 43 yX4_take, .instanceMethod yX4_take, .selects RX4 yX4_take yX4_take, .code yX4_take cX4_take 2 none, .constantLong RX4 55 (10), .methodLink RX4 36 yX4_sortOf, .static yX4_sortOf, .code yX4_sortOf cX4_sortOf 1 (some .int), .methodLink RX4 47 yX4_joins, .instanceMethod yX4_joins, .selects RX4 yX4_joins yX4_joins, .code yX4_joins cX4_joins 2 (some .boolean), .methodLink RX2 98 yX0_addFace, .instanceMethod yX0_addFace, .selects RX0 yX0_addFace yX0_addFace, .initialized RX0, .code yX0_addFace cX0_addFace 3 none, .fieldLink RX0 61 "LinkModels$Build" "classCount" "I", .fieldLink RX0 24 "LinkModels$Build" "faceNames" "[I", .fieldLink RX0 21 "LinkModels$Build" "faceCounts" "[I", .methodLink RX2 47 yX4_isSign, .instanceMethod yX4_isSign, .selects RX4 yX4_isSign yX4_isSign, .code yX4_isSign cX4_isSign 2 (some .boolean), .methodLink RX2 67 yX2_refuse, .instanceMethod yX2_refuse, .selects RX2 yX2_refuse yX2_refuse, .initialized RX2, .code yX2_refuse cX2_refuse 2 (some .boolean), .fieldLink RX2 27 "LinkModels$Reader" "fault" "I"] ++ wsX20 ++ wsX40 ++ wsX00)
theorem zgX2_readsFaces_X4_step_54 : GoodIn zwX2_readsFaces (wsV RX2 54 RX4 yX4_step zwX4_step) := goodIn_app (goodIn_r _ [4, 5, 6, 7] rfl (by decide +kernel)) (goodIn_app (goodIn_r _ [8, 9, 10, 11, 12, 13, 14, 15, 16, 17, 7, 18, 19, 20, 21, 22, 23, 24, 25, 26, 27, 28, 29, 30] rfl (by decide +kernel)) (fun w hw => ⟨(List.mem_cons_of_mem _ (List.mem_append_left _ (List.mem_append_right _ hw))), good_of_word (List.all_eq_true.mp zgX4 w hw)⟩))
theorem zgX2_readsFaces_X0_addFace_98 : GoodIn zwX2_readsFaces (wsV RX2 98 RX0 yX0_addFace zwX0_addFace) := goodIn_app (goodIn_r _ [31, 32, 33, 34] rfl (by decide +kernel)) (goodIn_app (goodIn_r _ [35, 36, 37, 38] rfl (by decide +kernel)) (fun w hw => ⟨(List.mem_cons_of_mem _ (List.mem_append_right _ hw)), good_of_word (List.all_eq_true.mp zgX0 w hw)⟩))
theorem zgX2_readsFaces_X4_isSign_47 : GoodIn zwX2_readsFaces (wsV RX2 47 RX4 yX4_isSign zwX4_isSign) := goodIn_app (goodIn_r _ [39, 40, 41, 7] rfl (by decide +kernel)) (goodIn_app (goodIn_r _ [42, 11, 14] rfl (by decide +kernel)) (fun w hw => ⟨(List.mem_cons_of_mem _ (List.mem_append_left _ (List.mem_append_right _ hw))), good_of_word (List.all_eq_true.mp zgX4 w hw)⟩))
theorem zgX2_readsFaces_X2_refuse_67 : GoodIn zwX2_readsFaces (wsV RX2 67 RX2 yX2_refuse zwX2_refuse) := goodIn_app (goodIn_r _ [43, 44, 45, 46] rfl (by decide +kernel)) (goodIn_app (goodIn_r _ [47, 48] rfl (by decide +kernel)) (fun w hw => ⟨(List.mem_cons_of_mem _ (List.mem_append_left _ (List.mem_append_left _ (List.mem_append_right _ hw)))), good_of_word (List.all_eq_true.mp zgX2 w hw)⟩))
set_option maxHeartbeats 4000000 in
set_option maxRecDepth 100000 in
theorem kX2_readsFaces (l : Launch) (dC : Nat → ClassId) (dI : Nat → Nat → Nat) (bh : Nat) (br : Nat → Nat) (rh : Nat) (th : Nat) (tb : Nat) (sh : Nat) (cI : ClassId) (cJ : ClassId) (cB : ClassId) (cc : Nat) (nA : Nat → Int32) (mA : Nat → Int32) (aA : Nat → Int32) (fcA : Nat → Nat) (fA : Nat → Int32) (mcA : Nat → Nat) (mmA : Nat → Int32) (wA : Nat → Int64) (tcA : Nat → Int32) (g1A : Nat → Int32) (g2A : Nat → Int32) (nuA : Nat → Int32) (erA : Nat → Nat) (reA : Nat → Int32) (liA : Nat → Nat) (lcA : Nat → Nat) (rm : Int32) (ry : Int32) (rf : Int32) (tl : Nat) (ta : Nat) (ts : Int32) (so : Int32) (tv : Int64) (tpA : Nat → Int32) (sw : Int64) (st : Int32) (sf : Int32) (sq : Int32) (hI : kWI cc fcA mcA erA liA lcA tl ta) (hp0 : 1 ≤ cc) (hp1 : fcA (cc - 1) = 0) (sz : Nat) : Met l yX2_readsFaces zwX2_readsFaces ({ frames := 2, cells := 0, slots := 0, locals := 42 }) (zPk dC dI [.ref rh, .ref bh] sz (kW bh br rh th tb sh cI cJ cB (nI cc) nA mA aA (fun j => nI (fcA j)) fA (fun j => nI (mcA j)) mmA wA tcA g1A g2A nuA (fun j => nI (erA j)) reA (fun j => nI (liA j)) (fun j => nI (lcA j)) rm ry rf (nI tl) (nI ta) ts so tv tpA sw st sf sq) [(cI, .int), (cJ, .long), (cB, .byte)]) (va_Qi (fun (r : Int32) (u : Nat × Int32 × Int32 × Int64 × Int32 × (Nat → Int32) × (Nat → Nat)) => (r = 0 ∨ r = 1) ∧ ((u.1) ≤ tl) ∧ (∀ j, (u.2.2.2.2.2.2) j ≤ 3)) (fun u t => zB dC dI (va_A (kW bh br rh th tb sh cI cJ cB (nI cc) nA mA aA (fun j => nI (fcA j)) fA (fun j => nI (mcA j)) mmA wA tcA g1A g2A nuA (fun j => nI (erA j)) reA (fun j => nI (liA j)) (fun j => nI (lcA j)) rm ry rf (nI tl) (nI ta) ts so tv tpA sw st sf sq) sz) (kW bh br rh th tb sh cI cJ cB (nI cc) nA mA aA (fun j => nI ((u.2.2.2.2.2.2) j)) (u.2.2.2.2.2.1) (fun j => nI (mcA j)) mmA wA tcA g1A g2A nuA (fun j => nI (erA j)) reA (fun j => nI (liA j)) (fun j => nI (lcA j)) rm ry (u.2.2.2.2.1) (nI tl) (nI (u.1)) (u.2.1) (u.2.2.1) (u.2.2.2.1) tpA sw st sf sq) [(cI, .int), (cJ, .long), (cB, .byte)] t) (va_A (kW bh br rh th tb sh cI cJ cB (nI cc) nA mA aA (fun j => nI (fcA j)) fA (fun j => nI (mcA j)) mmA wA tcA g1A g2A nuA (fun j => nI (erA j)) reA (fun j => nI (liA j)) (fun j => nI (lcA j)) rm ry rf (nI tl) (nI ta) ts so tv tpA sw st sf sq) sz)) 0 0 (va_A (kW bh br rh th tb sh cI cJ cB (nI cc) nA mA aA (fun j => nI (fcA j)) fA (fun j => nI (mcA j)) mmA wA tcA g1A g2A nuA (fun j => nI (erA j)) reA (fun j => nI (liA j)) (fun j => nI (lcA j)) rm ry rf (nI tl) (nI ta) ts so tv tpA sw st sf sq) sz) := by
  refine Met.ofW (cc := cX2_readsFaces) (maxL := 4) (ret := (some .boolean)) (by decide) rfl ?_
  intro p e s m args below meth c s₁ B hml hv
  obtain ⟨rfl, hsz, hP, hK, hD0, hE⟩ := hv
  have hx := B.exec
  have hb := B.bytes
  have hr := B.returns
  have hts := atoms_spec (ws := zwX2_readsFaces) B.pre
  have hown : s.vm.findClass RX2 = some m.cls := findClass_of_methodNamed B.named
  have hiX2 : ∀ w ∈ wsX20, w ∈ zwX2_readsFaces := (fun w hw => (List.mem_cons_of_mem _ (List.mem_append_left _ (List.mem_append_left _ (List.mem_append_right _ hw)))))
  have hiX4 : ∀ w ∈ wsX40, w ∈ zwX2_readsFaces := (fun w hw => (List.mem_cons_of_mem _ (List.mem_append_left _ (List.mem_append_right _ hw))))
  obtain ⟨hcc, htl, hta, hfcA, hmcA, herA, hliA, hlcA⟩ := hI
  subst hsz
  have hD := hD0.self (sz := s.heap.size)
  generalize hAe : va_A (kW bh br rh th tb sh cI cJ cB (nI cc) nA mA aA (fun j => nI (fcA j)) fA (fun j => nI (mcA j)) mmA wA tcA g1A g2A nuA (fun j => nI (erA j)) reA (fun j => nI (liA j)) (fun j => nI (lcA j)) rm ry rf (nI tl) (nI ta) ts so tv tpA sw st sf sq) s.heap.size = A at hD ⊢
  have hA : ∀ q : Nat, s.heap.size ≤ q → A q := fun q h => by rw [← hAe]; exact Or.inr h
  have hS : va_S A s.heap s.heap [] := va_S.rf
  have hl := lv_entry ([.ref rh, .ref bh]) (n := 4) (Nat.le_of_ble_eq_true rfl)
  rw [lg_entry_eq]
  generalize (lg_sl ([.ref rh, .ref bh]) ++ List.replicate (4 - (lg_sl ([.ref rh, .ref bh])).length) Slot.unset).toArray = ls at hl ⊢
  have hl : lv_has ls 4 [(0, .ref rh), (1, .ref bh)] := hl
  have J12 : ∀ (z12 : Nat) (mo : Int32) (ix : Nat) (b2 : Nat) (s2 : Int32) (so2 : Int32) (v2 : Int64) (fn2 : Nat → Int32) (fc2 : Nat → Nat) (H : Heap) (locs : List Loc) (ls : Array Slot), 4 - ix < z12 → (∀ j, fc2 j ≤ 3) → (ix ≤ 3) → (b2 ≤ tl) → (fc2 (cc - 1) = ix) → va_P (dC, dI) vwCl (kW bh br rh th tb sh cI cJ cB (nI cc) nA mA aA (fun j => nI (fc2 j)) fn2 (fun j => nI (mcA j)) mmA wA tcA g1A g2A nuA (fun j => nI (erA j)) reA (fun j => nI (liA j)) (fun j => nI (lcA j)) rm ry rf (nI tl) (nI b2) s2 so2 v2 tpA sw st sf sq) H → va_D A (kW bh br rh th tb sh cI cJ cB (nI cc) nA mA aA (fun j => nI (fc2 j)) fn2 (fun j => nI (mcA j)) mmA wA tcA g1A g2A nuA (fun j => nI (erA j)) reA (fun j => nI (liA j)) (fun j => nI (lcA j)) rm ry rf (nI tl) (nI b2) s2 so2 v2 tpA sw st sf sq) → va_S A s.heap H locs → lv_has ls 4 [(0, .ref rh), (1, .ref bh), (2, .int mo), (3, .int (nI ix))] → W p l e (headSpec zwX2_readsFaces { frames := 2, cells := 0, slots := 0, locals := 42 }).room s m (([.ref rh, .ref bh] : List Value).toArray) below meth c H locs 0 0 (MQ below (va_Qi (fun (r : Int32) (u : Nat × Int32 × Int32 × Int64 × Int32 × (Nat → Int32) × (Nat → Nat)) => (r = 0 ∨ r = 1) ∧ ((u.1) ≤ tl) ∧ (∀ j, (u.2.2.2.2.2.2) j ≤ 3)) (fun u t => zB dC dI (A) (kW bh br rh th tb sh cI cJ cB (nI cc) nA mA aA (fun j => nI ((u.2.2.2.2.2.2) j)) (u.2.2.2.2.2.1) (fun j => nI (mcA j)) mmA wA tcA g1A g2A nuA (fun j => nI (erA j)) reA (fun j => nI (liA j)) (fun j => nI (lcA j)) rm ry (u.2.2.2.2.1) (nI tl) (nI (u.1)) (u.2.1) (u.2.2.1) (u.2.2.2.1) tpA sw st sf sq) [(cI, .int), (cJ, .long), (cB, .byte)] t) (A)) (([.ref rh, .ref bh] : List Value).toArray) s 0 0 A) (F0 m 12 ls []) := by
    intro z12
    induction z12 with
    | zero => intro mo ix b2 s2 so2 v2 fn2 fc2 H locs ls h9; exact absurd h9 (Nat.not_lt_zero _)
    | succ z12 ih12 =>
      intro mo ix b2 s2 so2 v2 fn2 fc2 H locs ls hm12 hbfc2 i12_0 i12_1 i12_2 hP hD hS hl
      refine lv_iload_n hx hb dX2_readsFaces_12 rfl (lv_at hl 3 rfl) ?_
      refine lv_iconst (v := 3) hx hb dX2_readsFaces_13 (by decide) ?_
      refine lv_icmp_gt (tgt := 91) hx hb dX2_readsFaces_14 (by decide) (fun cp14 => ?_) (fun cp14 => ?_)
      · have qcp14 : 3 < ix := (nI_ltI (a := 3) (b := ix) (by omega) (by omega)).mp cp14
        refine lv_iconst (v := 1) hx hb dX2_readsFaces_91 (by decide) ?_
        have hP9 : va_P (dC, dI) vwCl (kW bh br rh th tb sh cI cJ cB (nI cc) nA mA aA (fun j => nI (fc2 j)) fn2 (fun j => nI (mcA j)) mmA wA tcA g1A g2A nuA (fun j => nI (erA j)) reA (fun j => nI (liA j)) (fun j => nI (lcA j)) rm ry rf (nI tl) (nI b2) s2 so2 v2 tpA sw st sf sq) H := hP
        have hD9 : va_D A (kW bh br rh th tb sh cI cJ cB (nI cc) nA mA aA (fun j => nI (fc2 j)) fn2 (fun j => nI (mcA j)) mmA wA tcA g1A g2A nuA (fun j => nI (erA j)) reA (fun j => nI (liA j)) (fun j => nI (lcA j)) rm ry rf (nI tl) (nI b2) s2 so2 v2 tpA sw st sf sq) := hD
        exact W.zret (v := (1 : Int32)) hx hb hr rfl (fun t ht hW => ⟨⟨(1 : Int32), (b2, s2, so2, v2, rf, fn2, fc2), rfl, ⟨(Or.inr rfl), (by first | omega | assumption | trivial), hbfc2⟩, by rw [ht]; exact hP9, va_K.moved hW.alike hK, hD9⟩, hS.F ht⟩) hS.2.2 dX2_readsFaces_92
      · have qcp14 : ¬ 3 < ix := fun h9 => cp14 ((nI_ltI (a := 3) (b := ix) (by omega) (by omega)).mpr h9)
        refine lv_iload_n hx hb dX2_readsFaces_17 rfl (lv_at hl 2 rfl) ?_
        refine lv_if_eq (tgt := 91) hx hb dX2_readsFaces_18 (by decide) (fun cp18 => ?_) (fun cp18 => ?_)
        · refine lv_iconst (v := 1) hx hb dX2_readsFaces_91 (by decide) ?_
          have hP9 : va_P (dC, dI) vwCl (kW bh br rh th tb sh cI cJ cB (nI cc) nA mA aA (fun j => nI (fc2 j)) fn2 (fun j => nI (mcA j)) mmA wA tcA g1A g2A nuA (fun j => nI (erA j)) reA (fun j => nI (liA j)) (fun j => nI (lcA j)) rm ry rf (nI tl) (nI b2) s2 so2 v2 tpA sw st sf sq) H := hP
          have hD9 : va_D A (kW bh br rh th tb sh cI cJ cB (nI cc) nA mA aA (fun j => nI (fc2 j)) fn2 (fun j => nI (mcA j)) mmA wA tcA g1A g2A nuA (fun j => nI (erA j)) reA (fun j => nI (liA j)) (fun j => nI (lcA j)) rm ry rf (nI tl) (nI b2) s2 so2 v2 tpA sw st sf sq) := hD
          exact W.zret (v := (1 : Int32)) hx hb hr rfl (fun t ht hW => ⟨⟨(1 : Int32), (b2, s2, so2, v2, rf, fn2, fc2), rfl, ⟨(Or.inr rfl), (by first | omega | assumption | trivial), hbfc2⟩, by rw [ht]; exact hP9, va_K.moved hW.alike hK, hD9⟩, hS.F ht⟩) hS.2.2 dX2_readsFaces_92
        · refine lv_aload_n hx hb dX2_readsFaces_21 rfl (lv_at hl 0 rfl) ?_
          refine va_get (D := (dC, dI)) (ci := 1) (v := .ref th) (C := RX2) (T := TX2) (N := 5) hx hb hts hiX2 hown hK hP 17 rfl rfl 0 (by decide) (hts (.fieldLink RX2 14 "LinkModels$Reader" "tokens" "LLinkModels$Tokens;") (by decide +kernel)) (fun _ h9 => h9) rfl dX2_readsFaces_22 ?_
          have hFc := z_freeW hD hS hA
          refine va_callv (va_runV (As := []) (rest := []) ⟨hx, hb, hml, hown, hts⟩ (kX4_step l dC dI bh br rh th tb sh cI cJ cB cc nA mA aA fc2 fn2 mcA mmA wA tcA g1A g2A nuA erA reA liA lcA rm ry rf tl b2 s2 so2 v2 tpA sw st sf sq ⟨by omega, by omega, by omega, hbfc2, hmcA, herA, hliA, hlcA⟩ H.size) (cwV 0 hts zgX2_readsFaces_X4_step_54 rfl rfl rfl (by decide +kernel) ⟨(show 1 + 1 ≤ 2 by omega), (show 8 + (2 + 11) + 21 ≤ 42 by omega)⟩) (zVk (ci := 3) (q0 := 18) (q := (RX4, TX4, 6)) hK hP hD hE rfl rfl rfl) rfl rfl hl.1 rfl (lv_room (Nat.le_of_ble_eq_true rfl)) dX2_readsFaces_25 ⟨(show 0 + 0 ≤ 0 by omega), (show 0 + 0 ≤ 0 by omega)⟩) hS (fun q _ h => hFc q h) hFc (fun u6 t H1 locs ht hvm hw hB hz1 hk1 hS => ?_)
          obtain ⟨o2, o3, o4, o5⟩ := u6
          obtain ⟨hP, hK9, hD⟩ := hB
          rw [ht] at hP
          have hD := hD.weaken (fun k q _ h => hFc q.1 h)
          generalize H1 = H at hP hS
          have hP : va_P (dC, dI) vwCl (kW bh br rh th tb sh cI cJ cB (nI cc) nA mA aA (fun j => nI (fc2 j)) fn2 (fun j => nI (mcA j)) mmA wA tcA g1A g2A nuA (fun j => nI (erA j)) reA (fun j => nI (liA j)) (fun j => nI (lcA j)) rm ry rf (nI tl) (nI o2) o3 o4 o5 tpA sw st sf sq) H := hP
          have hD : va_D A (kW bh br rh th tb sh cI cJ cB (nI cc) nA mA aA (fun j => nI (fc2 j)) fn2 (fun j => nI (mcA j)) mmA wA tcA g1A g2A nuA (fun j => nI (erA j)) reA (fun j => nI (liA j)) (fun j => nI (lcA j)) rm ry rf (nI tl) (nI o2) o3 o4 o5 tpA sw st sf sq) := hD
          have hw : (b2 ≤ o2) ∧ (o2 ≤ tl) := hw
          obtain ⟨w0r1, w1r1⟩ := hw
          refine lv_aload_n hx hb dX2_readsFaces_28 rfl (lv_at hl 0 rfl) ?_
          refine va_get (D := (dC, dI)) (ci := 1) (v := .ref th) (C := RX2) (T := TX2) (N := 5) hx hb hts hiX2 hown hK hP 17 rfl rfl 0 (by decide) (hts (.fieldLink RX2 14 "LinkModels$Reader" "tokens" "LLinkModels$Tokens;") (by decide +kernel)) (fun _ h9 => h9) rfl dX2_readsFaces_29 ?_
          refine va_get (D := (dC, dI)) (ci := 3) (v := .int o4) (C := RX4) (T := TX4) (N := 6) hx hb hts hiX4 hown hK hP 18 rfl rfl 4 (by decide) (hts (.fieldLink RX2 40 "LinkModels$Tokens" "sort" "I") (by decide +kernel)) (fun _ h9 => h9) rfl dX2_readsFaces_32 ?_
          refine lv_iconst (v := 1) hx hb dX2_readsFaces_35 (by decide) ?_
          refine lv_icmp_eq (tgt := 45) hx hb dX2_readsFaces_36 (by decide) (fun cp36 => ?_) (fun cp36 => ?_)
          · refine lv_iload_n hx hb dX2_readsFaces_45 rfl (lv_at hl 3 rfl) ?_
            refine lv_iconst (v := 3) hx hb dX2_readsFaces_46 (by decide) ?_
            refine lv_icmp_lt (tgt := 56) hx hb dX2_readsFaces_47 (by decide) (fun cp47 => ?_) (fun cp47 => ?_)
            · have qcp47 : ix < 3 := (nI_ltI (a := ix) (b := 3) (by omega) (by omega)).mp cp47
              refine lv_aload_n hx hb dX2_readsFaces_56 rfl (lv_at hl 1 rfl) ?_
              refine lv_aload_n hx hb dX2_readsFaces_57 rfl (lv_at hl 0 rfl) ?_
              refine va_get (D := (dC, dI)) (ci := 1) (v := .ref th) (C := RX2) (T := TX2) (N := 5) hx hb hts hiX2 hown hK hP 17 rfl rfl 0 (by decide) (hts (.fieldLink RX2 14 "LinkModels$Reader" "tokens" "LLinkModels$Tokens;") (by decide +kernel)) (fun _ h9 => h9) rfl dX2_readsFaces_58 ?_
              refine va_get (D := (dC, dI)) (ci := 3) (v := .long o5) (C := RX4) (T := TX4) (N := 6) hx hb hts hiX4 hown hK hP 18 rfl rfl 5 (by decide) (hts (.fieldLink RX2 74 "LinkModels$Tokens" "value" "J") (by decide +kernel)) (fun _ h9 => h9) rfl dX2_readsFaces_61 ?_
              refine lv_l2i hx hb dX2_readsFaces_64 rfl ?_
              refine lv_topi (fun x7 ex7 => ?_)
              have hFc := z_freeW hD hS hA
              refine va_callv (va_runV (As := [.int x7]) (rest := []) ⟨hx, hb, hml, hown, hts⟩ (kX0_addFace l dC dI bh br rh th tb sh cI cJ cB cc nA mA aA fc2 fn2 mcA mmA wA tcA g1A g2A nuA erA reA liA lcA rm ry rf tl o2 o3 o4 o5 tpA sw st sf sq ⟨by omega, by omega, by omega, hbfc2, hmcA, herA, hliA, hlcA⟩ x7 (by first | omega | assumption | trivial) (by first | omega | assumption | trivial) H.size) (cwV 1 hts zgX2_readsFaces_X0_addFace_98 rfl rfl rfl (by decide +kernel) ⟨(show 0 + 1 ≤ 2 by omega), (show 8 + (3 + 11) + 0 ≤ 42 by omega)⟩) (zVk (ci := 0) (q0 := 0) (q := (RX0, TX0, 17)) hK hP hD hE rfl rfl rfl) rfl rfl hl.1 rfl (lv_room (Nat.le_of_ble_eq_true rfl)) dX2_readsFaces_65 ⟨(show 0 + 0 ≤ 0 by omega), (show 0 + 0 ≤ 0 by omega)⟩) hS (fun q _ h => hFc q h) hFc (fun u11 t H1 locs ht hvm hw hB hz1 hk1 hS => ?_)
              obtain ⟨o9, o10⟩ := u11
              obtain ⟨hP, hK9, hD⟩ := hB
              rw [ht] at hP
              have hD := hD.weaken (fun k q _ h => hFc q.1 h)
              generalize H1 = H at hP hS
              have hP : va_P (dC, dI) vwCl (kW bh br rh th tb sh cI cJ cB (nI cc) nA mA aA (fun j => nI (o10 j)) o9 (fun j => nI (mcA j)) mmA wA tcA g1A g2A nuA (fun j => nI (erA j)) reA (fun j => nI (liA j)) (fun j => nI (lcA j)) rm ry rf (nI tl) (nI o2) o3 o4 o5 tpA sw st sf sq) H := hP
              have hD : va_D A (kW bh br rh th tb sh cI cJ cB (nI cc) nA mA aA (fun j => nI (o10 j)) o9 (fun j => nI (mcA j)) mmA wA tcA g1A g2A nuA (fun j => nI (erA j)) reA (fun j => nI (liA j)) (fun j => nI (lcA j)) rm ry rf (nI tl) (nI o2) o3 o4 o5 tpA sw st sf sq) := hD
              have hw : (o10 (cc - 1) = fc2 (cc - 1) + 1) ∧ (∀ j, o10 j ≤ 3) := hw
              obtain ⟨w0r8, hbo10⟩ := hw
              refine lv_aload_n hx hb dX2_readsFaces_68 rfl (lv_at hl 0 rfl) ?_
              refine va_get (D := (dC, dI)) (ci := 1) (v := .ref th) (C := RX2) (T := TX2) (N := 5) hx hb hts hiX2 hown hK hP 17 rfl rfl 0 (by decide) (hts (.fieldLink RX2 14 "LinkModels$Reader" "tokens" "LLinkModels$Tokens;") (by decide +kernel)) (fun _ h9 => h9) rfl dX2_readsFaces_69 ?_
              have hFc := z_freeW hD hS hA
              refine va_callv (va_runV (As := []) (rest := []) ⟨hx, hb, hml, hown, hts⟩ (kX4_step l dC dI bh br rh th tb sh cI cJ cB cc nA mA aA o10 o9 mcA mmA wA tcA g1A g2A nuA erA reA liA lcA rm ry rf tl o2 o3 o4 o5 tpA sw st sf sq ⟨by omega, by omega, by omega, hbo10, hmcA, herA, hliA, hlcA⟩ H.size) (cwV 0 hts zgX2_readsFaces_X4_step_54 rfl rfl rfl (by decide +kernel) ⟨(show 1 + 1 ≤ 2 by omega), (show 8 + (2 + 11) + 21 ≤ 42 by omega)⟩) (zVk (ci := 3) (q0 := 18) (q := (RX4, TX4, 6)) hK hP hD hE rfl rfl rfl) rfl rfl hl.1 rfl (lv_room (Nat.le_of_ble_eq_true rfl)) dX2_readsFaces_72 ⟨(show 0 + 0 ≤ 0 by omega), (show 0 + 0 ≤ 0 by omega)⟩) hS (fun q _ h => hFc q h) hFc (fun u17 t H1 locs ht hvm hw hB hz1 hk1 hS => ?_)
              obtain ⟨o13, o14, o15, o16⟩ := u17
              obtain ⟨hP, hK9, hD⟩ := hB
              rw [ht] at hP
              have hD := hD.weaken (fun k q _ h => hFc q.1 h)
              generalize H1 = H at hP hS
              have hP : va_P (dC, dI) vwCl (kW bh br rh th tb sh cI cJ cB (nI cc) nA mA aA (fun j => nI (o10 j)) o9 (fun j => nI (mcA j)) mmA wA tcA g1A g2A nuA (fun j => nI (erA j)) reA (fun j => nI (liA j)) (fun j => nI (lcA j)) rm ry rf (nI tl) (nI o13) o14 o15 o16 tpA sw st sf sq) H := hP
              have hD : va_D A (kW bh br rh th tb sh cI cJ cB (nI cc) nA mA aA (fun j => nI (o10 j)) o9 (fun j => nI (mcA j)) mmA wA tcA g1A g2A nuA (fun j => nI (erA j)) reA (fun j => nI (liA j)) (fun j => nI (lcA j)) rm ry rf (nI tl) (nI o13) o14 o15 o16 tpA sw st sf sq) := hD
              have hw : (o2 ≤ o13) ∧ (o13 ≤ tl) := hw
              obtain ⟨w0r12, w1r12⟩ := hw
              refine lv_aload_n hx hb dX2_readsFaces_75 rfl (lv_at hl 0 rfl) ?_
              refine va_get (D := (dC, dI)) (ci := 1) (v := .ref th) (C := RX2) (T := TX2) (N := 5) hx hb hts hiX2 hown hK hP 17 rfl rfl 0 (by decide) (hts (.fieldLink RX2 14 "LinkModels$Reader" "tokens" "LLinkModels$Tokens;") (by decide +kernel)) (fun _ h9 => h9) rfl dX2_readsFaces_76 ?_
              refine lv_bipush (v := 44) hx hb dX2_readsFaces_79 (by decide) ?_
              refine vp_callSi (W.runV (As := [.int 44]) (rest := []) ⟨hx, hb, hml, hown, hts⟩ (kX4_isSign l dC dI rh th tb sh cI cJ cB rm ry rf tl o13 o14 o15 o16 tpA sw st sf sq ⟨by omega, by omega⟩ (44 : Int32)) (cwV 1 hts zgX2_readsFaces_X4_isSign_47 rfl rfl rfl (by decide +kernel) ⟨(show 0 + 1 ≤ 2 by omega), (show 8 + (2 + 11) + 0 ≤ 42 by omega)⟩) (zVq (ci := 3) (q0 := 1) (q := (RX4, TX4, 6)) hK (hP.sub (ws' := (rdW rh th tb sh cI cJ cB rm ry rf (nI tl) (nI o13) o14 o15 o16 tpA sw st sf sq)) [17, 18, 19, 20] rfl) hE rfl rfl rfl) rfl rfl hl.1 rfl (lv_room (Nat.le_of_ble_eq_true rfl)) dX2_readsFaces_81 ⟨(show 0 + 0 ≤ 0 by omega), (show 0 + 0 ≤ 0 by omega)⟩) (fun r18 hw => ?_)
              have hw : (r18 = 0 ∨ r18 = 1) := hw
              have w0r18 := hw
              refine lv_istore_n (lv' := [(2, .int r18), (0, .ref rh), (1, .ref bh), (3, .int (nI ix))]) hx hb dX2_readsFaces_84 rfl hl (by decide) rfl (fun ls hl => ?_)
              obtain ⟨x19, ex19⟩ : ∃ y : Int32, y = (nI ix) + 1 := ⟨_, rfl⟩
              refine lv_iinc (v := x19) (lv' := [(3, .int x19), (2, .int r18), (0, .ref rh), (1, .ref bh)]) hx hb dX2_readsFaces_85 hl (k := 3) rfl (by rw [ex19]; rfl) (by decide) rfl (fun ls hl => ?_)
              obtain rfl : x19 = nI (ix + 1) := by rw [ex19]; exact nI_add (ix) 1
              refine lv_goto (tgt := 12) hx hb dX2_readsFaces_88 (by decide) ?_
              exact ih12 r18 (ix + 1) o13 o14 o15 o16 o9 o10 _ _ ls (by omega) hbo10 (by first | omega | assumption | trivial) (by first | omega | assumption | trivial) (by first | omega | assumption | trivial) hP hD hS (lv_sub hl [2, 3, 1, 0] rfl)
            · have qcp47 : ¬ ix < 3 := fun h9 => cp47 ((nI_ltI (a := ix) (b := 3) (by omega) (by omega)).mpr h9)
              refine lv_aload_n hx hb dX2_readsFaces_50 rfl (lv_at hl 0 rfl) ?_
              refine lv_iconst (v := 2) hx hb dX2_readsFaces_51 (by decide) ?_
              have hFc := z_freeW hD hS hA
              refine va_calli (va_runV (As := [.int 2]) (rest := []) ⟨hx, hb, hml, hown, hts⟩ (kX2_refuse l dC dI bh br rh th tb sh cI cJ cB cc nA mA aA fc2 fn2 mcA mmA wA tcA g1A g2A nuA erA reA liA lcA rm ry rf tl o2 o3 o4 o5 tpA sw st sf sq ⟨by omega, by omega, by omega, hbfc2, hmcA, herA, hliA, hlcA⟩ (2 : Int32) H.size) (cwV 1 hts zgX2_readsFaces_X2_refuse_67 rfl rfl rfl (by decide +kernel) ⟨(show 0 + 1 ≤ 2 by omega), (show 8 + (2 + 11) + 0 ≤ 42 by omega)⟩) (zVk (ci := 1) (q0 := 17) (q := (RX2, TX2, 5)) hK hP hD hE rfl rfl rfl) rfl rfl hl.1 rfl (lv_room (Nat.le_of_ble_eq_true rfl)) dX2_readsFaces_52 ⟨(show 0 + 0 ≤ 0 by omega), (show 0 + 0 ≤ 0 by omega)⟩) hS (fun q _ h => hFc q h) hFc (fun r20 o21 t H1 locs ht hvm hw hB hz1 hk1 hS => ?_)
              obtain ⟨hP, hK9, hD⟩ := hB
              rw [ht] at hP
              have hD := hD.weaken (fun k q _ h => hFc q.1 h)
              generalize H1 = H at hP hS
              have hP : va_P (dC, dI) vwCl (kW bh br rh th tb sh cI cJ cB (nI cc) nA mA aA (fun j => nI (fc2 j)) fn2 (fun j => nI (mcA j)) mmA wA tcA g1A g2A nuA (fun j => nI (erA j)) reA (fun j => nI (liA j)) (fun j => nI (lcA j)) rm ry o21 (nI tl) (nI o2) o3 o4 o5 tpA sw st sf sq) H := hP
              have hD : va_D A (kW bh br rh th tb sh cI cJ cB (nI cc) nA mA aA (fun j => nI (fc2 j)) fn2 (fun j => nI (mcA j)) mmA wA tcA g1A g2A nuA (fun j => nI (erA j)) reA (fun j => nI (liA j)) (fun j => nI (lcA j)) rm ry o21 (nI tl) (nI o2) o3 o4 o5 tpA sw st sf sq) := hD
              have hw : (r20 = 0 ∨ r20 = 1) ∧ (r20 = 0) := hw
              obtain ⟨w0r20, w1r20⟩ := hw
              subst w1r20
              have hP9 : va_P (dC, dI) vwCl (kW bh br rh th tb sh cI cJ cB (nI cc) nA mA aA (fun j => nI (fc2 j)) fn2 (fun j => nI (mcA j)) mmA wA tcA g1A g2A nuA (fun j => nI (erA j)) reA (fun j => nI (liA j)) (fun j => nI (lcA j)) rm ry o21 (nI tl) (nI o2) o3 o4 o5 tpA sw st sf sq) H := hP
              have hD9 : va_D A (kW bh br rh th tb sh cI cJ cB (nI cc) nA mA aA (fun j => nI (fc2 j)) fn2 (fun j => nI (mcA j)) mmA wA tcA g1A g2A nuA (fun j => nI (erA j)) reA (fun j => nI (liA j)) (fun j => nI (lcA j)) rm ry o21 (nI tl) (nI o2) o3 o4 o5 tpA sw st sf sq) := hD
              exact W.zret (v := (0 : Int32)) hx hb hr rfl (fun t ht hW => ⟨⟨(0 : Int32), (o2, o3, o4, o5, o21, fn2, fc2), rfl, ⟨(Or.inl rfl), (by first | omega | assumption | trivial), hbfc2⟩, by rw [ht]; exact hP9, va_K.moved hW.alike hK, hD9⟩, hS.F ht⟩) hS.2.2 dX2_readsFaces_55
          · refine lv_aload_n hx hb dX2_readsFaces_39 rfl (lv_at hl 0 rfl) ?_
            refine lv_iconst (v := 1) hx hb dX2_readsFaces_40 (by decide) ?_
            have hFc := z_freeW hD hS hA
            refine va_calli (va_runV (As := [.int 1]) (rest := []) ⟨hx, hb, hml, hown, hts⟩ (kX2_refuse l dC dI bh br rh th tb sh cI cJ cB cc nA mA aA fc2 fn2 mcA mmA wA tcA g1A g2A nuA erA reA liA lcA rm ry rf tl o2 o3 o4 o5 tpA sw st sf sq ⟨by omega, by omega, by omega, hbfc2, hmcA, herA, hliA, hlcA⟩ (1 : Int32) H.size) (cwV 1 hts zgX2_readsFaces_X2_refuse_67 rfl rfl rfl (by decide +kernel) ⟨(show 0 + 1 ≤ 2 by omega), (show 8 + (2 + 11) + 0 ≤ 42 by omega)⟩) (zVk (ci := 1) (q0 := 17) (q := (RX2, TX2, 5)) hK hP hD hE rfl rfl rfl) rfl rfl hl.1 rfl (lv_room (Nat.le_of_ble_eq_true rfl)) dX2_readsFaces_41 ⟨(show 0 + 0 ≤ 0 by omega), (show 0 + 0 ≤ 0 by omega)⟩) hS (fun q _ h => hFc q h) hFc (fun r22 o23 t H1 locs ht hvm hw hB hz1 hk1 hS => ?_)
            obtain ⟨hP, hK9, hD⟩ := hB
            rw [ht] at hP
            have hD := hD.weaken (fun k q _ h => hFc q.1 h)
            generalize H1 = H at hP hS
            have hP : va_P (dC, dI) vwCl (kW bh br rh th tb sh cI cJ cB (nI cc) nA mA aA (fun j => nI (fc2 j)) fn2 (fun j => nI (mcA j)) mmA wA tcA g1A g2A nuA (fun j => nI (erA j)) reA (fun j => nI (liA j)) (fun j => nI (lcA j)) rm ry o23 (nI tl) (nI o2) o3 o4 o5 tpA sw st sf sq) H := hP
            have hD : va_D A (kW bh br rh th tb sh cI cJ cB (nI cc) nA mA aA (fun j => nI (fc2 j)) fn2 (fun j => nI (mcA j)) mmA wA tcA g1A g2A nuA (fun j => nI (erA j)) reA (fun j => nI (liA j)) (fun j => nI (lcA j)) rm ry o23 (nI tl) (nI o2) o3 o4 o5 tpA sw st sf sq) := hD
            have hw : (r22 = 0 ∨ r22 = 1) ∧ (r22 = 0) := hw
            obtain ⟨w0r22, w1r22⟩ := hw
            subst w1r22
            have hP9 : va_P (dC, dI) vwCl (kW bh br rh th tb sh cI cJ cB (nI cc) nA mA aA (fun j => nI (fc2 j)) fn2 (fun j => nI (mcA j)) mmA wA tcA g1A g2A nuA (fun j => nI (erA j)) reA (fun j => nI (liA j)) (fun j => nI (lcA j)) rm ry o23 (nI tl) (nI o2) o3 o4 o5 tpA sw st sf sq) H := hP
            have hD9 : va_D A (kW bh br rh th tb sh cI cJ cB (nI cc) nA mA aA (fun j => nI (fc2 j)) fn2 (fun j => nI (mcA j)) mmA wA tcA g1A g2A nuA (fun j => nI (erA j)) reA (fun j => nI (liA j)) (fun j => nI (lcA j)) rm ry o23 (nI tl) (nI o2) o3 o4 o5 tpA sw st sf sq) := hD
            exact W.zret (v := (0 : Int32)) hx hb hr rfl (fun t ht hW => ⟨⟨(0 : Int32), (o2, o3, o4, o5, o23, fn2, fc2), rfl, ⟨(Or.inl rfl), (by first | omega | assumption | trivial), hbfc2⟩, by rw [ht]; exact hP9, va_K.moved hW.alike hK, hD9⟩, hS.F ht⟩) hS.2.2 dX2_readsFaces_44
  refine lv_aload_n hx hb dX2_readsFaces_0 rfl (lv_at hl 0 rfl) ?_
  refine va_get (D := (dC, dI)) (ci := 1) (v := .ref th) (C := RX2) (T := TX2) (N := 5) hx hb hts hiX2 hown hK hP 17 rfl rfl 0 (by decide) (hts (.fieldLink RX2 14 "LinkModels$Reader" "tokens" "LLinkModels$Tokens;") (by decide +kernel)) (fun _ h9 => h9) rfl dX2_readsFaces_1 ?_
  refine lv_bipush (v := 58) hx hb dX2_readsFaces_4 (by decide) ?_
  refine vp_callSi (W.runV (As := [.int 58]) (rest := []) ⟨hx, hb, hml, hown, hts⟩ (kX4_isSign l dC dI rh th tb sh cI cJ cB rm ry rf tl ta ts so tv tpA sw st sf sq ⟨by omega, by omega⟩ (58 : Int32)) (cwV 1 hts zgX2_readsFaces_X4_isSign_47 rfl rfl rfl (by decide +kernel) ⟨(show 0 + 1 ≤ 2 by omega), (show 8 + (2 + 11) + 0 ≤ 42 by omega)⟩) (zVq (ci := 3) (q0 := 1) (q := (RX4, TX4, 6)) hK (hP.sub (ws' := (rdW rh th tb sh cI cJ cB rm ry rf (nI tl) (nI ta) ts so tv tpA sw st sf sq)) [17, 18, 19, 20] rfl) hE rfl rfl rfl) rfl rfl hl.1 rfl (lv_room (Nat.le_of_ble_eq_true rfl)) dX2_readsFaces_6 ⟨(show 0 + 0 ≤ 0 by omega), (show 0 + 0 ≤ 0 by omega)⟩) (fun r24 hw => ?_)
  have hw : (r24 = 0 ∨ r24 = 1) := hw
  have w0r24 := hw
  refine lv_istore_n (lv' := [(2, .int r24), (0, .ref rh), (1, .ref bh)]) hx hb dX2_readsFaces_9 rfl hl (by decide) rfl (fun ls hl => ?_)
  refine lv_iconst (v := 0) hx hb dX2_readsFaces_10 (by decide) ?_
  refine lv_istore_n (lv' := [(3, .int 0), (2, .int r24), (0, .ref rh), (1, .ref bh)]) hx hb dX2_readsFaces_11 rfl hl (by decide) rfl (fun ls hl => ?_)
  exact J12 _ r24 0 ta ts so tv fA fcA _ _ ls (Nat.lt_succ_self _) hfcA (by first | omega | assumption | trivial) (by first | omega | assumption | trivial) (by first | omega | assumption | trivial) hP hD hS (lv_sub hl [2, 3, 1, 0] rfl)
theorem dX2_readsMarks_0 : decode cX2_readsMarks 0 = .ok (.aload_n 0, 1) := by decide +kernel
theorem dX2_readsMarks_1 : decode cX2_readsMarks 1 = .ok (.iconst 0, 1) := by decide +kernel
theorem dX2_readsMarks_2 : decode cX2_readsMarks 2 = .ok (.putfield 130, 3) := by decide +kernel
theorem dX2_readsMarks_5 : decode cX2_readsMarks 5 = .ok (.aload_n 0, 1) := by decide +kernel
theorem dX2_readsMarks_6 : decode cX2_readsMarks 6 = .ok (.invokevirtual 101, 3) := by decide +kernel
theorem dX2_readsMarks_9 : decode cX2_readsMarks 9 = .ok (.istore_n 1, 1) := by decide +kernel
theorem dX2_readsMarks_10 : decode cX2_readsMarks 10 = .ok (.iconst 0, 1) := by decide +kernel
theorem dX2_readsMarks_11 : decode cX2_readsMarks 11 = .ok (.istore_n 2, 1) := by decide +kernel
theorem dX2_readsMarks_12 : decode cX2_readsMarks 12 = .ok (.iload_n 2, 1) := by decide +kernel
theorem dX2_readsMarks_13 : decode cX2_readsMarks 13 = .ok (.iconst 4, 1) := by decide +kernel
theorem dX2_readsMarks_14 : decode cX2_readsMarks 14 = .ok (.if_icmp .ge 82, 3) := by decide +kernel
theorem dX2_readsMarks_17 : decode cX2_readsMarks 17 = .ok (.iload_n 1, 1) := by decide +kernel
theorem dX2_readsMarks_18 : decode cX2_readsMarks 18 = .ok (.ifCond .eq 78, 3) := by decide +kernel
theorem dX2_readsMarks_21 : decode cX2_readsMarks 21 = .ok (.iload_n 1, 1) := by decide +kernel
theorem dX2_readsMarks_22 : decode cX2_readsMarks 22 = .ok (.bipush 8, 2) := by decide +kernel
theorem dX2_readsMarks_24 : decode cX2_readsMarks 24 = .ok (.if_icmp .eq 12, 3) := by decide +kernel
theorem dX2_readsMarks_27 : decode cX2_readsMarks 27 = .ok (.aload_n 0, 1) := by decide +kernel
theorem dX2_readsMarks_28 : decode cX2_readsMarks 28 = .ok (.getfield 130, 3) := by decide +kernel
theorem dX2_readsMarks_31 : decode cX2_readsMarks 31 = .ok (.bipush 8, 2) := by decide +kernel
theorem dX2_readsMarks_33 : decode cX2_readsMarks 33 = .ok (.if_icmp .ne 7, 3) := by decide +kernel
theorem dX2_readsMarks_36 : decode cX2_readsMarks 36 = .ok (.iconst 1, 1) := by decide +kernel
theorem dX2_readsMarks_37 : decode cX2_readsMarks 37 = .ok (.goto 4, 3) := by decide +kernel
theorem dX2_readsMarks_40 : decode cX2_readsMarks 40 = .ok (.iconst 0, 1) := by decide +kernel
theorem dX2_readsMarks_41 : decode cX2_readsMarks 41 = .ok (.istore_n 3, 1) := by decide +kernel
theorem dX2_readsMarks_42 : decode cX2_readsMarks 42 = .ok (.aload_n 0, 1) := by decide +kernel
theorem dX2_readsMarks_43 : decode cX2_readsMarks 43 = .ok (.getfield 130, 3) := by decide +kernel
theorem dX2_readsMarks_46 : decode cX2_readsMarks 46 = .ok (.iload_n 1, 1) := by decide +kernel
theorem dX2_readsMarks_47 : decode cX2_readsMarks 47 = .ok (.iand, 1) := by decide +kernel
theorem dX2_readsMarks_48 : decode cX2_readsMarks 48 = .ok (.ifCond .ne 14, 3) := by decide +kernel
theorem dX2_readsMarks_51 : decode cX2_readsMarks 51 = .ok (.iload_n 3, 1) := by decide +kernel
theorem dX2_readsMarks_52 : decode cX2_readsMarks 52 = .ok (.ifCond .eq 16, 3) := by decide +kernel
theorem dX2_readsMarks_55 : decode cX2_readsMarks 55 = .ok (.aload_n 0, 1) := by decide +kernel
theorem dX2_readsMarks_56 : decode cX2_readsMarks 56 = .ok (.getfield 130, 3) := by decide +kernel
theorem dX2_readsMarks_59 : decode cX2_readsMarks 59 = .ok (.ifCond .eq 9, 3) := by decide +kernel
theorem dX2_readsMarks_62 : decode cX2_readsMarks 62 = .ok (.aload_n 0, 1) := by decide +kernel
theorem dX2_readsMarks_63 : decode cX2_readsMarks 63 = .ok (.iconst 1, 1) := by decide +kernel
theorem dX2_readsMarks_64 : decode cX2_readsMarks 64 = .ok (.invokevirtual 67, 3) := by decide +kernel
theorem dX2_readsMarks_67 : decode cX2_readsMarks 67 = .ok (.ireturn, 1) := by decide +kernel
theorem dX2_readsMarks_68 : decode cX2_readsMarks 68 = .ok (.aload_n 0, 1) := by decide +kernel
theorem dX2_readsMarks_69 : decode cX2_readsMarks 69 = .ok (.dup, 1) := by decide +kernel
theorem dX2_readsMarks_70 : decode cX2_readsMarks 70 = .ok (.getfield 130, 3) := by decide +kernel
theorem dX2_readsMarks_73 : decode cX2_readsMarks 73 = .ok (.iload_n 1, 1) := by decide +kernel
theorem dX2_readsMarks_74 : decode cX2_readsMarks 74 = .ok (.ior, 1) := by decide +kernel
theorem dX2_readsMarks_75 : decode cX2_readsMarks 75 = .ok (.putfield 130, 3) := by decide +kernel
theorem dX2_readsMarks_78 : decode cX2_readsMarks 78 = .ok (.aload_n 0, 1) := by decide +kernel
theorem dX2_readsMarks_79 : decode cX2_readsMarks 79 = .ok (.getfield 14, 3) := by decide +kernel
theorem dX2_readsMarks_82 : decode cX2_readsMarks 82 = .ok (.invokevirtual 54, 3) := by decide +kernel
theorem dX2_readsMarks_85 : decode cX2_readsMarks 85 = .ok (.aload_n 0, 1) := by decide +kernel
theorem dX2_readsMarks_86 : decode cX2_readsMarks 86 = .ok (.invokevirtual 101, 3) := by decide +kernel
theorem dX2_readsMarks_89 : decode cX2_readsMarks 89 = .ok (.istore_n 1, 1) := by decide +kernel
theorem dX2_readsMarks_90 : decode cX2_readsMarks 90 = .ok (.iinc 2 1, 3) := by decide +kernel
theorem dX2_readsMarks_93 : decode cX2_readsMarks 93 = .ok (.goto (-81), 3) := by decide +kernel
theorem dX2_readsMarks_96 : decode cX2_readsMarks 96 = .ok (.iconst 1, 1) := by decide +kernel
theorem dX2_readsMarks_97 : decode cX2_readsMarks 97 = .ok (.ireturn, 1) := by decide +kernel
def zwX2_readsMarks : List Cond := .code yX2_readsMarks cX2_readsMarks 4 (some .boolean) :: ([.fieldLink RX2 130 "LinkModels$Reader" "marks" "I", .fieldLink RX2 14 "LinkModels$Reader" "tokens" "LLinkModels$Tokens;", .methodLink RX2 54 yX4_step, .instanceMethod yX4_step, .selects RX4 yX4_step yX4_step, .initialized RX4, .code yX4_step cX4_step 2 none, .fieldLink RX4 23 "LinkModels$Tokens" "behind" "I", .fieldLink RX4 29 "LinkModels$Tokens" "start" "I", .fieldLink RX4 40 "LinkModels$Tokens" "sort" "I", .fieldLink RX4 19 "LinkModels$Tokens" "length" "I", .fieldLink RX4 7 "LinkModels$Tokens" "tape" "[B", .fieldLink RX4 32 "LinkModels$Tokens" "value" "J", .methodLink RX4 51 yX4_longest, .instanceMethod yX4_longest, .selects RX4 yX4_longest yX4_longest, .code yX4_longest cX4_longest 1 (some .int), .methodLink RX4 43 yX4_take, .instanceMethod yX4_take, .selects RX4 yX4_take yX4_take, .code yX4_take cX4_take 2 none, .constantLong RX4 55 (10), .methodLink RX4 36 yX4_sortOf, .static yX4_sortOf, .code yX4_sortOf cX4_sortOf 1 (some .int), .methodLink RX4 47 yX4_joins, .instanceMethod yX4_joins, .selects RX4 yX4_joins yX4_joins, .code yX4_joins cX4_joins 2 (some .boolean), .methodLink RX2 101 yX2_markHere, .instanceMethod yX2_markHere, .selects RX2 yX2_markHere yX2_markHere, .initialized RX2, .code yX2_markHere cX2_markHere 1 (some .int), .constantLong RX2 160 (126943688419683), .constantLong RX2 162 (114801865155950), .constantLong RX2 158 (439855505772), .constantLong RX2 156 (7017298113369039732), .methodLink RX2 63 yX4_isWord, .instanceMethod yX4_isWord, .selects RX4 yX4_isWord yX4_isWord, .code yX4_isWord cX4_isWord 3 (some .boolean), .methodLink RX2 67 yX2_refuse, .instanceMethod yX2_refuse, .selects RX2 yX2_refuse yX2_refuse, .code yX2_refuse cX2_refuse 2 (some .boolean), .fieldLink RX2 27 "LinkModels$Reader" "fault" "I"] ++ wsX20 ++ wsX40)
theorem zgX2_readsMarks_X4_step_54 : GoodIn zwX2_readsMarks (wsV RX2 54 RX4 yX4_step zwX4_step) := goodIn_app (goodIn_r _ [3, 4, 5, 6] rfl (by decide +kernel)) (goodIn_app (goodIn_r _ [7, 8, 9, 10, 11, 12, 13, 14, 15, 16, 6, 17, 18, 19, 20, 21, 22, 23, 24, 25, 26, 27, 28, 29] rfl (by decide +kernel)) (fun w hw => ⟨(List.mem_cons_of_mem _ (List.mem_append_right _ hw)), good_of_word (List.all_eq_true.mp zgX4 w hw)⟩))
theorem zgX2_readsMarks_X2_markHere_101 : GoodIn zwX2_readsMarks (wsV RX2 101 RX2 yX2_markHere zwX2_markHere) := goodIn_app (goodIn_r _ [30, 31, 32, 33] rfl (by decide +kernel)) (goodIn_app (goodIn_app (goodIn_r _ [34, 2, 35, 36, 37, 38, 39, 40, 41, 6, 42, 10, 13] rfl (by decide +kernel)) (fun w hw => ⟨(List.mem_cons_of_mem _ (List.mem_append_left _ (List.mem_append_right _ hw))), good_of_word (List.all_eq_true.mp zgX2 w hw)⟩)) (fun w hw => ⟨(List.mem_cons_of_mem _ (List.mem_append_right _ hw)), good_of_word (List.all_eq_true.mp zgX4 w hw)⟩))
theorem zgX2_readsMarks_X2_refuse_67 : GoodIn zwX2_readsMarks (wsV RX2 67 RX2 yX2_refuse zwX2_refuse) := goodIn_app (goodIn_r _ [43, 44, 45, 33] rfl (by decide +kernel)) (goodIn_app (goodIn_r _ [46, 47] rfl (by decide +kernel)) (fun w hw => ⟨(List.mem_cons_of_mem _ (List.mem_append_left _ (List.mem_append_right _ hw))), good_of_word (List.all_eq_true.mp zgX2 w hw)⟩))
set_option maxHeartbeats 4000000 in
set_option maxRecDepth 100000 in
theorem kX2_readsMarks (l : Launch) (dC : Nat → ClassId) (dI : Nat → Nat → Nat) (bh : Nat) (br : Nat → Nat) (rh : Nat) (th : Nat) (tb : Nat) (sh : Nat) (cI : ClassId) (cJ : ClassId) (cB : ClassId) (cc : Nat) (nA : Nat → Int32) (mA : Nat → Int32) (aA : Nat → Int32) (fcA : Nat → Nat) (fA : Nat → Int32) (mcA : Nat → Nat) (mmA : Nat → Int32) (wA : Nat → Int64) (tcA : Nat → Int32) (g1A : Nat → Int32) (g2A : Nat → Int32) (nuA : Nat → Int32) (erA : Nat → Nat) (reA : Nat → Int32) (liA : Nat → Nat) (lcA : Nat → Nat) (rm : Int32) (ry : Int32) (rf : Int32) (tl : Nat) (ta : Nat) (ts : Int32) (so : Int32) (tv : Int64) (tpA : Nat → Int32) (sw : Int64) (st : Int32) (sf : Int32) (sq : Int32) (hI : kWI cc fcA mcA erA liA lcA tl ta) (sz : Nat) : Met l yX2_readsMarks zwX2_readsMarks ({ frames := 2, cells := 0, slots := 0, locals := 42 }) (zPk dC dI [.ref rh] sz (kW bh br rh th tb sh cI cJ cB (nI cc) nA mA aA (fun j => nI (fcA j)) fA (fun j => nI (mcA j)) mmA wA tcA g1A g2A nuA (fun j => nI (erA j)) reA (fun j => nI (liA j)) (fun j => nI (lcA j)) rm ry rf (nI tl) (nI ta) ts so tv tpA sw st sf sq) [(cI, .int), (cJ, .long), (cB, .byte)]) (va_Qi (fun (r : Int32) (u : Nat × Int32 × Int32 × Int64 × Int32 × Int32) => (r = 0 ∨ r = 1) ∧ ((u.1) ≤ tl)) (fun u t => zB dC dI (va_A (kW bh br rh th tb sh cI cJ cB (nI cc) nA mA aA (fun j => nI (fcA j)) fA (fun j => nI (mcA j)) mmA wA tcA g1A g2A nuA (fun j => nI (erA j)) reA (fun j => nI (liA j)) (fun j => nI (lcA j)) rm ry rf (nI tl) (nI ta) ts so tv tpA sw st sf sq) sz) (kW bh br rh th tb sh cI cJ cB (nI cc) nA mA aA (fun j => nI (fcA j)) fA (fun j => nI (mcA j)) mmA wA tcA g1A g2A nuA (fun j => nI (erA j)) reA (fun j => nI (liA j)) (fun j => nI (lcA j)) (u.2.2.2.2.2) ry (u.2.2.2.2.1) (nI tl) (nI (u.1)) (u.2.1) (u.2.2.1) (u.2.2.2.1) tpA sw st sf sq) [(cI, .int), (cJ, .long), (cB, .byte)] t) (va_A (kW bh br rh th tb sh cI cJ cB (nI cc) nA mA aA (fun j => nI (fcA j)) fA (fun j => nI (mcA j)) mmA wA tcA g1A g2A nuA (fun j => nI (erA j)) reA (fun j => nI (liA j)) (fun j => nI (lcA j)) rm ry rf (nI tl) (nI ta) ts so tv tpA sw st sf sq) sz)) 0 0 (va_A (kW bh br rh th tb sh cI cJ cB (nI cc) nA mA aA (fun j => nI (fcA j)) fA (fun j => nI (mcA j)) mmA wA tcA g1A g2A nuA (fun j => nI (erA j)) reA (fun j => nI (liA j)) (fun j => nI (lcA j)) rm ry rf (nI tl) (nI ta) ts so tv tpA sw st sf sq) sz) := by
  refine Met.ofW (cc := cX2_readsMarks) (maxL := 4) (ret := (some .boolean)) (by decide) rfl ?_
  intro p e s m args below meth c s₁ B hml hv
  obtain ⟨rfl, hsz, hP, hK, hD0, hE⟩ := hv
  have hx := B.exec
  have hb := B.bytes
  have hr := B.returns
  have hts := atoms_spec (ws := zwX2_readsMarks) B.pre
  have hown : s.vm.findClass RX2 = some m.cls := findClass_of_methodNamed B.named
  have hiX2 : ∀ w ∈ wsX20, w ∈ zwX2_readsMarks := (fun w hw => (List.mem_cons_of_mem _ (List.mem_append_left _ (List.mem_append_right _ hw))))
  obtain ⟨hcc, htl, hta, hfcA, hmcA, herA, hliA, hlcA⟩ := hI
  subst hsz
  have hD := hD0.self (sz := s.heap.size)
  generalize hAe : va_A (kW bh br rh th tb sh cI cJ cB (nI cc) nA mA aA (fun j => nI (fcA j)) fA (fun j => nI (mcA j)) mmA wA tcA g1A g2A nuA (fun j => nI (erA j)) reA (fun j => nI (liA j)) (fun j => nI (lcA j)) rm ry rf (nI tl) (nI ta) ts so tv tpA sw st sf sq) s.heap.size = A at hD ⊢
  have hA : ∀ q : Nat, s.heap.size ≤ q → A q := fun q h => by rw [← hAe]; exact Or.inr h
  have hS : va_S A s.heap s.heap [] := va_S.rf
  have hl := lv_entry ([.ref rh]) (n := 4) (Nat.le_of_ble_eq_true rfl)
  rw [lg_entry_eq]
  generalize (lg_sl ([.ref rh]) ++ List.replicate (4 - (lg_sl ([.ref rh])).length) Slot.unset).toArray = ls at hl ⊢
  have hl : lv_has ls 4 [(0, .ref rh)] := hl
  have J12 : ∀ (z12 : Nat) (mk : Int32) (ix : Nat) (b2 : Nat) (s2 : Int32) (so2 : Int32) (v2 : Int64) (m2 : Int32) (H : Heap) (locs : List Loc) (ls : Array Slot), 4 - ix < z12 → (ix ≤ 4) → (b2 ≤ tl) → va_P (dC, dI) vwCl (kW bh br rh th tb sh cI cJ cB (nI cc) nA mA aA (fun j => nI (fcA j)) fA (fun j => nI (mcA j)) mmA wA tcA g1A g2A nuA (fun j => nI (erA j)) reA (fun j => nI (liA j)) (fun j => nI (lcA j)) m2 ry rf (nI tl) (nI b2) s2 so2 v2 tpA sw st sf sq) H → va_D A (kW bh br rh th tb sh cI cJ cB (nI cc) nA mA aA (fun j => nI (fcA j)) fA (fun j => nI (mcA j)) mmA wA tcA g1A g2A nuA (fun j => nI (erA j)) reA (fun j => nI (liA j)) (fun j => nI (lcA j)) m2 ry rf (nI tl) (nI b2) s2 so2 v2 tpA sw st sf sq) → va_S A s.heap H locs → lv_has ls 4 [(0, .ref rh), (1, .int mk), (2, .int (nI ix))] → W p l e (headSpec zwX2_readsMarks { frames := 2, cells := 0, slots := 0, locals := 42 }).room s m (([.ref rh] : List Value).toArray) below meth c H locs 0 0 (MQ below (va_Qi (fun (r : Int32) (u : Nat × Int32 × Int32 × Int64 × Int32 × Int32) => (r = 0 ∨ r = 1) ∧ ((u.1) ≤ tl)) (fun u t => zB dC dI (A) (kW bh br rh th tb sh cI cJ cB (nI cc) nA mA aA (fun j => nI (fcA j)) fA (fun j => nI (mcA j)) mmA wA tcA g1A g2A nuA (fun j => nI (erA j)) reA (fun j => nI (liA j)) (fun j => nI (lcA j)) (u.2.2.2.2.2) ry (u.2.2.2.2.1) (nI tl) (nI (u.1)) (u.2.1) (u.2.2.1) (u.2.2.2.1) tpA sw st sf sq) [(cI, .int), (cJ, .long), (cB, .byte)] t) (A)) (([.ref rh] : List Value).toArray) s 0 0 A) (F0 m 12 ls []) := by
    intro z12
    induction z12 with
    | zero => intro mk ix b2 s2 so2 v2 m2 H locs ls h9; exact absurd h9 (Nat.not_lt_zero _)
    | succ z12 ih12 =>
      intro mk ix b2 s2 so2 v2 m2 H locs ls hm12 i12_0 i12_1 hP hD hS hl
      have J68 : ∀  (H : Heap) (locs : List Loc) (ls : Array Slot), (ix < 4) → va_P (dC, dI) vwCl (kW bh br rh th tb sh cI cJ cB (nI cc) nA mA aA (fun j => nI (fcA j)) fA (fun j => nI (mcA j)) mmA wA tcA g1A g2A nuA (fun j => nI (erA j)) reA (fun j => nI (liA j)) (fun j => nI (lcA j)) m2 ry rf (nI tl) (nI b2) s2 so2 v2 tpA sw st sf sq) H → va_D A (kW bh br rh th tb sh cI cJ cB (nI cc) nA mA aA (fun j => nI (fcA j)) fA (fun j => nI (mcA j)) mmA wA tcA g1A g2A nuA (fun j => nI (erA j)) reA (fun j => nI (liA j)) (fun j => nI (lcA j)) m2 ry rf (nI tl) (nI b2) s2 so2 v2 tpA sw st sf sq) → va_S A s.heap H locs → lv_has ls 4 [(0, .ref rh), (1, .int mk), (2, .int (nI ix))] → W p l e (headSpec zwX2_readsMarks { frames := 2, cells := 0, slots := 0, locals := 42 }).room s m (([.ref rh] : List Value).toArray) below meth c H locs 0 0 (MQ below (va_Qi (fun (r : Int32) (u : Nat × Int32 × Int32 × Int64 × Int32 × Int32) => (r = 0 ∨ r = 1) ∧ ((u.1) ≤ tl)) (fun u t => zB dC dI (A) (kW bh br rh th tb sh cI cJ cB (nI cc) nA mA aA (fun j => nI (fcA j)) fA (fun j => nI (mcA j)) mmA wA tcA g1A g2A nuA (fun j => nI (erA j)) reA (fun j => nI (liA j)) (fun j => nI (lcA j)) (u.2.2.2.2.2) ry (u.2.2.2.2.1) (nI tl) (nI (u.1)) (u.2.1) (u.2.2.1) (u.2.2.2.1) tpA sw st sf sq) [(cI, .int), (cJ, .long), (cB, .byte)] t) (A)) (([.ref rh] : List Value).toArray) s 0 0 A) (F0 m 68 ls []) := by
        intro  H locs ls i68_0 hP hD hS hl
        refine lv_aload_n hx hb dX2_readsMarks_68 rfl (lv_at hl 0 rfl) ?_
        refine lv_dup hx hb dX2_readsMarks_69 rfl ?_
        refine va_get (D := (dC, dI)) (ci := 1) (v := .int m2) (C := RX2) (T := TX2) (N := 5) hx hb hts hiX2 hown hK hP 17 rfl rfl 2 (by decide) (hts (.fieldLink RX2 130 "LinkModels$Reader" "marks" "I") (by decide +kernel)) (fun _ h9 => h9) rfl dX2_readsMarks_70 ?_
        refine lv_iload_n hx hb dX2_readsMarks_73 rfl (lv_at hl 1 rfl) ?_
        refine lv_ior hx hb dX2_readsMarks_74 ?_
        refine lv_topi (fun x1 ex1 => ?_)
        refine va_put (D := (dC, dI)) (ci := 1) (v := .int x1) (ty := (.int)) (C := RX2) (T := TX2) (N := 5) hx hb hts hiX2 tyX2 tyX2_ok nmX2 hown hK hP hD hS 17 rfl rfl 2 (by decide) (hts (.fieldLink RX2 130 "LinkModels$Reader" "marks" "I") (by decide +kernel)) (fun _ h9 => h9) rfl (by decide +kernel) rfl rfl (Nat.le_of_ble_eq_true rfl) dX2_readsMarks_75 (fun H locs hP hD hS => ?_)
        have hP : va_P (dC, dI) vwCl (kW bh br rh th tb sh cI cJ cB (nI cc) nA mA aA (fun j => nI (fcA j)) fA (fun j => nI (mcA j)) mmA wA tcA g1A g2A nuA (fun j => nI (erA j)) reA (fun j => nI (liA j)) (fun j => nI (lcA j)) x1 ry rf (nI tl) (nI b2) s2 so2 v2 tpA sw st sf sq) H := hP
        have hD : va_D A (kW bh br rh th tb sh cI cJ cB (nI cc) nA mA aA (fun j => nI (fcA j)) fA (fun j => nI (mcA j)) mmA wA tcA g1A g2A nuA (fun j => nI (erA j)) reA (fun j => nI (liA j)) (fun j => nI (lcA j)) x1 ry rf (nI tl) (nI b2) s2 so2 v2 tpA sw st sf sq) := hD
        refine lv_aload_n hx hb dX2_readsMarks_78 rfl (lv_at hl 0 rfl) ?_
        refine va_get (D := (dC, dI)) (ci := 1) (v := .ref th) (C := RX2) (T := TX2) (N := 5) hx hb hts hiX2 hown hK hP 17 rfl rfl 0 (by decide) (hts (.fieldLink RX2 14 "LinkModels$Reader" "tokens" "LLinkModels$Tokens;") (by decide +kernel)) (fun _ h9 => h9) rfl dX2_readsMarks_79 ?_
        have hFc := z_freeW hD hS hA
        refine va_callv (va_runV (As := []) (rest := []) ⟨hx, hb, hml, hown, hts⟩ (kX4_step l dC dI bh br rh th tb sh cI cJ cB cc nA mA aA fcA fA mcA mmA wA tcA g1A g2A nuA erA reA liA lcA x1 ry rf tl b2 s2 so2 v2 tpA sw st sf sq ⟨by omega, by omega, by omega, hfcA, hmcA, herA, hliA, hlcA⟩ H.size) (cwV 0 hts zgX2_readsMarks_X4_step_54 rfl rfl rfl (by decide +kernel) ⟨(show 1 + 1 ≤ 2 by omega), (show 8 + (2 + 11) + 21 ≤ 42 by omega)⟩) (zVk (ci := 3) (q0 := 18) (q := (RX4, TX4, 6)) hK hP hD hE rfl rfl rfl) rfl rfl hl.1 rfl (lv_room (Nat.le_of_ble_eq_true rfl)) dX2_readsMarks_82 ⟨(show 0 + 0 ≤ 0 by omega), (show 0 + 0 ≤ 0 by omega)⟩) hS (fun q _ h => hFc q h) hFc (fun u7 t H1 locs ht hvm hw hB hz1 hk1 hS => ?_)
        obtain ⟨o3, o4, o5, o6⟩ := u7
        obtain ⟨hP, hK9, hD⟩ := hB
        rw [ht] at hP
        have hD := hD.weaken (fun k q _ h => hFc q.1 h)
        generalize H1 = H at hP hS
        have hP : va_P (dC, dI) vwCl (kW bh br rh th tb sh cI cJ cB (nI cc) nA mA aA (fun j => nI (fcA j)) fA (fun j => nI (mcA j)) mmA wA tcA g1A g2A nuA (fun j => nI (erA j)) reA (fun j => nI (liA j)) (fun j => nI (lcA j)) x1 ry rf (nI tl) (nI o3) o4 o5 o6 tpA sw st sf sq) H := hP
        have hD : va_D A (kW bh br rh th tb sh cI cJ cB (nI cc) nA mA aA (fun j => nI (fcA j)) fA (fun j => nI (mcA j)) mmA wA tcA g1A g2A nuA (fun j => nI (erA j)) reA (fun j => nI (liA j)) (fun j => nI (lcA j)) x1 ry rf (nI tl) (nI o3) o4 o5 o6 tpA sw st sf sq) := hD
        have hw : (b2 ≤ o3) ∧ (o3 ≤ tl) := hw
        obtain ⟨w0r2, w1r2⟩ := hw
        refine lv_aload_n hx hb dX2_readsMarks_85 rfl (lv_at hl 0 rfl) ?_
        refine vp_callSi (W.runV (As := []) (rest := []) ⟨hx, hb, hml, hown, hts⟩ (kX2_markHere l dC dI rh th tb sh cI cJ cB x1 ry rf tl o3 o4 o5 o6 tpA sw st sf sq ⟨by omega, by omega⟩) (cwV 0 hts zgX2_readsMarks_X2_markHere_101 rfl rfl rfl (by decide +kernel) ⟨(show 1 + 1 ≤ 2 by omega), (show 8 + (1 + 11) + 22 ≤ 42 by omega)⟩) (zVq (ci := 1) (q0 := 0) (q := (RX2, TX2, 5)) hK (hP.sub (ws' := (rdW rh th tb sh cI cJ cB x1 ry rf (nI tl) (nI o3) o4 o5 o6 tpA sw st sf sq)) [17, 18, 19, 20] rfl) hE rfl rfl rfl) rfl rfl hl.1 rfl (lv_room (Nat.le_of_ble_eq_true rfl)) dX2_readsMarks_86 ⟨(show 0 + 0 ≤ 0 by omega), (show 0 + 0 ≤ 0 by omega)⟩) (fun r8 hw => ?_)
        have hw : (True) := hw
        have w0r8 := hw
        refine lv_istore_n (lv' := [(1, .int r8), (0, .ref rh), (2, .int (nI ix))]) hx hb dX2_readsMarks_89 rfl hl (by decide) rfl (fun ls hl => ?_)
        obtain ⟨x9, ex9⟩ : ∃ y : Int32, y = (nI ix) + 1 := ⟨_, rfl⟩
        refine lv_iinc (v := x9) (lv' := [(2, .int x9), (1, .int r8), (0, .ref rh)]) hx hb dX2_readsMarks_90 hl (k := 2) rfl (by rw [ex9]; rfl) (by decide) rfl (fun ls hl => ?_)
        obtain rfl : x9 = nI (ix + 1) := by rw [ex9]; exact nI_add (ix) 1
        refine lv_goto (tgt := 12) hx hb dX2_readsMarks_93 (by decide) ?_
        exact ih12 r8 (ix + 1) o3 o4 o5 o6 x1 _ _ ls (by omega) (by first | omega | assumption | trivial) (by first | omega | assumption | trivial) hP hD hS (lv_sub hl [2, 1, 0] rfl)
      have J42 : ∀ (al : Int32) (H : Heap) (locs : List Loc) (ls : Array Slot), (ix < 4) → va_P (dC, dI) vwCl (kW bh br rh th tb sh cI cJ cB (nI cc) nA mA aA (fun j => nI (fcA j)) fA (fun j => nI (mcA j)) mmA wA tcA g1A g2A nuA (fun j => nI (erA j)) reA (fun j => nI (liA j)) (fun j => nI (lcA j)) m2 ry rf (nI tl) (nI b2) s2 so2 v2 tpA sw st sf sq) H → va_D A (kW bh br rh th tb sh cI cJ cB (nI cc) nA mA aA (fun j => nI (fcA j)) fA (fun j => nI (mcA j)) mmA wA tcA g1A g2A nuA (fun j => nI (erA j)) reA (fun j => nI (liA j)) (fun j => nI (lcA j)) m2 ry rf (nI tl) (nI b2) s2 so2 v2 tpA sw st sf sq) → va_S A s.heap H locs → lv_has ls 4 [(0, .ref rh), (1, .int mk), (2, .int (nI ix)), (3, .int al)] → W p l e (headSpec zwX2_readsMarks { frames := 2, cells := 0, slots := 0, locals := 42 }).room s m (([.ref rh] : List Value).toArray) below meth c H locs 0 0 (MQ below (va_Qi (fun (r : Int32) (u : Nat × Int32 × Int32 × Int64 × Int32 × Int32) => (r = 0 ∨ r = 1) ∧ ((u.1) ≤ tl)) (fun u t => zB dC dI (A) (kW bh br rh th tb sh cI cJ cB (nI cc) nA mA aA (fun j => nI (fcA j)) fA (fun j => nI (mcA j)) mmA wA tcA g1A g2A nuA (fun j => nI (erA j)) reA (fun j => nI (liA j)) (fun j => nI (lcA j)) (u.2.2.2.2.2) ry (u.2.2.2.2.1) (nI tl) (nI (u.1)) (u.2.1) (u.2.2.1) (u.2.2.2.1) tpA sw st sf sq) [(cI, .int), (cJ, .long), (cB, .byte)] t) (A)) (([.ref rh] : List Value).toArray) s 0 0 A) (F0 m 42 ls []) := by
        intro al H locs ls i42_0 hP hD hS hl
        refine lv_aload_n hx hb dX2_readsMarks_42 rfl (lv_at hl 0 rfl) ?_
        refine va_get (D := (dC, dI)) (ci := 1) (v := .int m2) (C := RX2) (T := TX2) (N := 5) hx hb hts hiX2 hown hK hP 17 rfl rfl 2 (by decide) (hts (.fieldLink RX2 130 "LinkModels$Reader" "marks" "I") (by decide +kernel)) (fun _ h9 => h9) rfl dX2_readsMarks_43 ?_
        refine lv_iload_n hx hb dX2_readsMarks_46 rfl (lv_at hl 1 rfl) ?_
        refine lv_iand hx hb dX2_readsMarks_47 ?_
        refine lv_topi (fun x10 ex10 => ?_)
        refine lv_if_ne (tgt := 62) hx hb dX2_readsMarks_48 (by decide) (fun cp48 => ?_) (fun cp48 => ?_)
        · refine lv_aload_n hx hb dX2_readsMarks_62 rfl (lv_at hl 0 rfl) ?_
          refine lv_iconst (v := 1) hx hb dX2_readsMarks_63 (by decide) ?_
          have hFc := z_freeW hD hS hA
          refine va_calli (va_runV (As := [.int 1]) (rest := []) ⟨hx, hb, hml, hown, hts⟩ (kX2_refuse l dC dI bh br rh th tb sh cI cJ cB cc nA mA aA fcA fA mcA mmA wA tcA g1A g2A nuA erA reA liA lcA m2 ry rf tl b2 s2 so2 v2 tpA sw st sf sq ⟨by omega, by omega, by omega, hfcA, hmcA, herA, hliA, hlcA⟩ (1 : Int32) H.size) (cwV 1 hts zgX2_readsMarks_X2_refuse_67 rfl rfl rfl (by decide +kernel) ⟨(show 0 + 1 ≤ 2 by omega), (show 8 + (2 + 11) + 0 ≤ 42 by omega)⟩) (zVk (ci := 1) (q0 := 17) (q := (RX2, TX2, 5)) hK hP hD hE rfl rfl rfl) rfl rfl hl.1 rfl (lv_room (Nat.le_of_ble_eq_true rfl)) dX2_readsMarks_64 ⟨(show 0 + 0 ≤ 0 by omega), (show 0 + 0 ≤ 0 by omega)⟩) hS (fun q _ h => hFc q h) hFc (fun r11 o12 t H1 locs ht hvm hw hB hz1 hk1 hS => ?_)
          obtain ⟨hP, hK9, hD⟩ := hB
          rw [ht] at hP
          have hD := hD.weaken (fun k q _ h => hFc q.1 h)
          generalize H1 = H at hP hS
          have hP : va_P (dC, dI) vwCl (kW bh br rh th tb sh cI cJ cB (nI cc) nA mA aA (fun j => nI (fcA j)) fA (fun j => nI (mcA j)) mmA wA tcA g1A g2A nuA (fun j => nI (erA j)) reA (fun j => nI (liA j)) (fun j => nI (lcA j)) m2 ry o12 (nI tl) (nI b2) s2 so2 v2 tpA sw st sf sq) H := hP
          have hD : va_D A (kW bh br rh th tb sh cI cJ cB (nI cc) nA mA aA (fun j => nI (fcA j)) fA (fun j => nI (mcA j)) mmA wA tcA g1A g2A nuA (fun j => nI (erA j)) reA (fun j => nI (liA j)) (fun j => nI (lcA j)) m2 ry o12 (nI tl) (nI b2) s2 so2 v2 tpA sw st sf sq) := hD
          have hw : (r11 = 0 ∨ r11 = 1) ∧ (r11 = 0) := hw
          obtain ⟨w0r11, w1r11⟩ := hw
          subst w1r11
          have hP9 : va_P (dC, dI) vwCl (kW bh br rh th tb sh cI cJ cB (nI cc) nA mA aA (fun j => nI (fcA j)) fA (fun j => nI (mcA j)) mmA wA tcA g1A g2A nuA (fun j => nI (erA j)) reA (fun j => nI (liA j)) (fun j => nI (lcA j)) m2 ry o12 (nI tl) (nI b2) s2 so2 v2 tpA sw st sf sq) H := hP
          have hD9 : va_D A (kW bh br rh th tb sh cI cJ cB (nI cc) nA mA aA (fun j => nI (fcA j)) fA (fun j => nI (mcA j)) mmA wA tcA g1A g2A nuA (fun j => nI (erA j)) reA (fun j => nI (liA j)) (fun j => nI (lcA j)) m2 ry o12 (nI tl) (nI b2) s2 so2 v2 tpA sw st sf sq) := hD
          exact W.zret (v := (0 : Int32)) hx hb hr rfl (fun t ht hW => ⟨⟨(0 : Int32), (b2, s2, so2, v2, o12, m2), rfl, ⟨(Or.inl rfl), (by first | omega | assumption | trivial)⟩, by rw [ht]; exact hP9, va_K.moved hW.alike hK, hD9⟩, hS.F ht⟩) hS.2.2 dX2_readsMarks_67
        · refine lv_iload_n hx hb dX2_readsMarks_51 rfl (lv_at hl 3 rfl) ?_
          refine lv_if_eq (tgt := 68) hx hb dX2_readsMarks_52 (by decide) (fun cp52 => ?_) (fun cp52 => ?_)
          · exact J68  _ _ ls  (by first | omega | assumption | trivial) hP hD hS (lv_sub hl [0, 1, 2] rfl)
          · refine lv_aload_n hx hb dX2_readsMarks_55 rfl (lv_at hl 0 rfl) ?_
            refine va_get (D := (dC, dI)) (ci := 1) (v := .int m2) (C := RX2) (T := TX2) (N := 5) hx hb hts hiX2 hown hK hP 17 rfl rfl 2 (by decide) (hts (.fieldLink RX2 130 "LinkModels$Reader" "marks" "I") (by decide +kernel)) (fun _ h9 => h9) rfl dX2_readsMarks_56 ?_
            refine lv_if_eq (tgt := 68) hx hb dX2_readsMarks_59 (by decide) (fun cp59 => ?_) (fun cp59 => ?_)
            · exact J68  _ _ ls  (by first | omega | assumption | trivial) hP hD hS (lv_sub hl [0, 1, 2] rfl)
            · refine lv_aload_n hx hb dX2_readsMarks_62 rfl (lv_at hl 0 rfl) ?_
              refine lv_iconst (v := 1) hx hb dX2_readsMarks_63 (by decide) ?_
              have hFc := z_freeW hD hS hA
              refine va_calli (va_runV (As := [.int 1]) (rest := []) ⟨hx, hb, hml, hown, hts⟩ (kX2_refuse l dC dI bh br rh th tb sh cI cJ cB cc nA mA aA fcA fA mcA mmA wA tcA g1A g2A nuA erA reA liA lcA m2 ry rf tl b2 s2 so2 v2 tpA sw st sf sq ⟨by omega, by omega, by omega, hfcA, hmcA, herA, hliA, hlcA⟩ (1 : Int32) H.size) (cwV 1 hts zgX2_readsMarks_X2_refuse_67 rfl rfl rfl (by decide +kernel) ⟨(show 0 + 1 ≤ 2 by omega), (show 8 + (2 + 11) + 0 ≤ 42 by omega)⟩) (zVk (ci := 1) (q0 := 17) (q := (RX2, TX2, 5)) hK hP hD hE rfl rfl rfl) rfl rfl hl.1 rfl (lv_room (Nat.le_of_ble_eq_true rfl)) dX2_readsMarks_64 ⟨(show 0 + 0 ≤ 0 by omega), (show 0 + 0 ≤ 0 by omega)⟩) hS (fun q _ h => hFc q h) hFc (fun r13 o14 t H1 locs ht hvm hw hB hz1 hk1 hS => ?_)
              obtain ⟨hP, hK9, hD⟩ := hB
              rw [ht] at hP
              have hD := hD.weaken (fun k q _ h => hFc q.1 h)
              generalize H1 = H at hP hS
              have hP : va_P (dC, dI) vwCl (kW bh br rh th tb sh cI cJ cB (nI cc) nA mA aA (fun j => nI (fcA j)) fA (fun j => nI (mcA j)) mmA wA tcA g1A g2A nuA (fun j => nI (erA j)) reA (fun j => nI (liA j)) (fun j => nI (lcA j)) m2 ry o14 (nI tl) (nI b2) s2 so2 v2 tpA sw st sf sq) H := hP
              have hD : va_D A (kW bh br rh th tb sh cI cJ cB (nI cc) nA mA aA (fun j => nI (fcA j)) fA (fun j => nI (mcA j)) mmA wA tcA g1A g2A nuA (fun j => nI (erA j)) reA (fun j => nI (liA j)) (fun j => nI (lcA j)) m2 ry o14 (nI tl) (nI b2) s2 so2 v2 tpA sw st sf sq) := hD
              have hw : (r13 = 0 ∨ r13 = 1) ∧ (r13 = 0) := hw
              obtain ⟨w0r13, w1r13⟩ := hw
              subst w1r13
              have hP9 : va_P (dC, dI) vwCl (kW bh br rh th tb sh cI cJ cB (nI cc) nA mA aA (fun j => nI (fcA j)) fA (fun j => nI (mcA j)) mmA wA tcA g1A g2A nuA (fun j => nI (erA j)) reA (fun j => nI (liA j)) (fun j => nI (lcA j)) m2 ry o14 (nI tl) (nI b2) s2 so2 v2 tpA sw st sf sq) H := hP
              have hD9 : va_D A (kW bh br rh th tb sh cI cJ cB (nI cc) nA mA aA (fun j => nI (fcA j)) fA (fun j => nI (mcA j)) mmA wA tcA g1A g2A nuA (fun j => nI (erA j)) reA (fun j => nI (liA j)) (fun j => nI (lcA j)) m2 ry o14 (nI tl) (nI b2) s2 so2 v2 tpA sw st sf sq) := hD
              exact W.zret (v := (0 : Int32)) hx hb hr rfl (fun t ht hW => ⟨⟨(0 : Int32), (b2, s2, so2, v2, o14, m2), rfl, ⟨(Or.inl rfl), (by first | omega | assumption | trivial)⟩, by rw [ht]; exact hP9, va_K.moved hW.alike hK, hD9⟩, hS.F ht⟩) hS.2.2 dX2_readsMarks_67
      refine lv_iload_n hx hb dX2_readsMarks_12 rfl (lv_at hl 2 rfl) ?_
      refine lv_iconst (v := 4) hx hb dX2_readsMarks_13 (by decide) ?_
      refine lv_icmp_ge (tgt := 96) hx hb dX2_readsMarks_14 (by decide) (fun cp14 => ?_) (fun cp14 => ?_)
      · have qcp14 : 4 ≤ ix := (nI_leI (a := 4) (b := ix) (by omega) (by omega)).mp cp14
        refine lv_iconst (v := 1) hx hb dX2_readsMarks_96 (by decide) ?_
        have hP9 : va_P (dC, dI) vwCl (kW bh br rh th tb sh cI cJ cB (nI cc) nA mA aA (fun j => nI (fcA j)) fA (fun j => nI (mcA j)) mmA wA tcA g1A g2A nuA (fun j => nI (erA j)) reA (fun j => nI (liA j)) (fun j => nI (lcA j)) m2 ry rf (nI tl) (nI b2) s2 so2 v2 tpA sw st sf sq) H := hP
        have hD9 : va_D A (kW bh br rh th tb sh cI cJ cB (nI cc) nA mA aA (fun j => nI (fcA j)) fA (fun j => nI (mcA j)) mmA wA tcA g1A g2A nuA (fun j => nI (erA j)) reA (fun j => nI (liA j)) (fun j => nI (lcA j)) m2 ry rf (nI tl) (nI b2) s2 so2 v2 tpA sw st sf sq) := hD
        exact W.zret (v := (1 : Int32)) hx hb hr rfl (fun t ht hW => ⟨⟨(1 : Int32), (b2, s2, so2, v2, rf, m2), rfl, ⟨(Or.inr rfl), (by first | omega | assumption | trivial)⟩, by rw [ht]; exact hP9, va_K.moved hW.alike hK, hD9⟩, hS.F ht⟩) hS.2.2 dX2_readsMarks_97
      · have qcp14 : ¬ 4 ≤ ix := fun h9 => cp14 ((nI_leI (a := 4) (b := ix) (by omega) (by omega)).mpr h9)
        refine lv_iload_n hx hb dX2_readsMarks_17 rfl (lv_at hl 1 rfl) ?_
        refine lv_if_eq (tgt := 96) hx hb dX2_readsMarks_18 (by decide) (fun cp18 => ?_) (fun cp18 => ?_)
        · refine lv_iconst (v := 1) hx hb dX2_readsMarks_96 (by decide) ?_
          have hP9 : va_P (dC, dI) vwCl (kW bh br rh th tb sh cI cJ cB (nI cc) nA mA aA (fun j => nI (fcA j)) fA (fun j => nI (mcA j)) mmA wA tcA g1A g2A nuA (fun j => nI (erA j)) reA (fun j => nI (liA j)) (fun j => nI (lcA j)) m2 ry rf (nI tl) (nI b2) s2 so2 v2 tpA sw st sf sq) H := hP
          have hD9 : va_D A (kW bh br rh th tb sh cI cJ cB (nI cc) nA mA aA (fun j => nI (fcA j)) fA (fun j => nI (mcA j)) mmA wA tcA g1A g2A nuA (fun j => nI (erA j)) reA (fun j => nI (liA j)) (fun j => nI (lcA j)) m2 ry rf (nI tl) (nI b2) s2 so2 v2 tpA sw st sf sq) := hD
          exact W.zret (v := (1 : Int32)) hx hb hr rfl (fun t ht hW => ⟨⟨(1 : Int32), (b2, s2, so2, v2, rf, m2), rfl, ⟨(Or.inr rfl), (by first | omega | assumption | trivial)⟩, by rw [ht]; exact hP9, va_K.moved hW.alike hK, hD9⟩, hS.F ht⟩) hS.2.2 dX2_readsMarks_97
        · refine lv_iload_n hx hb dX2_readsMarks_21 rfl (lv_at hl 1 rfl) ?_
          refine lv_bipush (v := 8) hx hb dX2_readsMarks_22 (by decide) ?_
          refine lv_icmp_eq (tgt := 36) hx hb dX2_readsMarks_24 (by decide) (fun cp24 => ?_) (fun cp24 => ?_)
          · refine lv_iconst (v := 1) hx hb dX2_readsMarks_36 (by decide) ?_
            refine lv_goto (tgt := 41) hx hb dX2_readsMarks_37 (by decide) ?_
            refine lv_istore_n (lv' := [(3, .int 1), (0, .ref rh), (1, .int mk), (2, .int (nI ix))]) hx hb dX2_readsMarks_41 rfl hl (by decide) rfl (fun ls hl => ?_)
            exact J42 (1 : Int32) _ _ ls  (by first | omega | assumption | trivial) hP hD hS (lv_sub hl [1, 2, 3, 0] rfl)
          · refine lv_aload_n hx hb dX2_readsMarks_27 rfl (lv_at hl 0 rfl) ?_
            refine va_get (D := (dC, dI)) (ci := 1) (v := .int m2) (C := RX2) (T := TX2) (N := 5) hx hb hts hiX2 hown hK hP 17 rfl rfl 2 (by decide) (hts (.fieldLink RX2 130 "LinkModels$Reader" "marks" "I") (by decide +kernel)) (fun _ h9 => h9) rfl dX2_readsMarks_28 ?_
            refine lv_bipush (v := 8) hx hb dX2_readsMarks_31 (by decide) ?_
            refine lv_icmp_ne (tgt := 40) hx hb dX2_readsMarks_33 (by decide) (fun cp33 => ?_) (fun cp33 => ?_)
            · refine lv_iconst (v := 0) hx hb dX2_readsMarks_40 (by decide) ?_
              refine lv_istore_n (lv' := [(3, .int 0), (0, .ref rh), (1, .int mk), (2, .int (nI ix))]) hx hb dX2_readsMarks_41 rfl hl (by decide) rfl (fun ls hl => ?_)
              exact J42 (0 : Int32) _ _ ls  (by first | omega | assumption | trivial) hP hD hS (lv_sub hl [1, 2, 3, 0] rfl)
            · refine lv_iconst (v := 1) hx hb dX2_readsMarks_36 (by decide) ?_
              refine lv_goto (tgt := 41) hx hb dX2_readsMarks_37 (by decide) ?_
              refine lv_istore_n (lv' := [(3, .int 1), (0, .ref rh), (1, .int mk), (2, .int (nI ix))]) hx hb dX2_readsMarks_41 rfl hl (by decide) rfl (fun ls hl => ?_)
              exact J42 (1 : Int32) _ _ ls  (by first | omega | assumption | trivial) hP hD hS (lv_sub hl [1, 2, 3, 0] rfl)
  refine lv_aload_n hx hb dX2_readsMarks_0 rfl (lv_at hl 0 rfl) ?_
  refine lv_iconst (v := 0) hx hb dX2_readsMarks_1 (by decide) ?_
  refine va_put (D := (dC, dI)) (ci := 1) (v := .int 0) (ty := (.int)) (C := RX2) (T := TX2) (N := 5) hx hb hts hiX2 tyX2 tyX2_ok nmX2 hown hK hP hD hS 17 rfl rfl 2 (by decide) (hts (.fieldLink RX2 130 "LinkModels$Reader" "marks" "I") (by decide +kernel)) (fun _ h9 => h9) rfl (by decide +kernel) rfl rfl (Nat.le_of_ble_eq_true rfl) dX2_readsMarks_2 (fun H locs hP hD hS => ?_)
  have hP : va_P (dC, dI) vwCl (kW bh br rh th tb sh cI cJ cB (nI cc) nA mA aA (fun j => nI (fcA j)) fA (fun j => nI (mcA j)) mmA wA tcA g1A g2A nuA (fun j => nI (erA j)) reA (fun j => nI (liA j)) (fun j => nI (lcA j)) 0 ry rf (nI tl) (nI ta) ts so tv tpA sw st sf sq) H := hP
  have hD : va_D A (kW bh br rh th tb sh cI cJ cB (nI cc) nA mA aA (fun j => nI (fcA j)) fA (fun j => nI (mcA j)) mmA wA tcA g1A g2A nuA (fun j => nI (erA j)) reA (fun j => nI (liA j)) (fun j => nI (lcA j)) 0 ry rf (nI tl) (nI ta) ts so tv tpA sw st sf sq) := hD
  refine lv_aload_n hx hb dX2_readsMarks_5 rfl (lv_at hl 0 rfl) ?_
  refine vp_callSi (W.runV (As := []) (rest := []) ⟨hx, hb, hml, hown, hts⟩ (kX2_markHere l dC dI rh th tb sh cI cJ cB 0 ry rf tl ta ts so tv tpA sw st sf sq ⟨by omega, by omega⟩) (cwV 0 hts zgX2_readsMarks_X2_markHere_101 rfl rfl rfl (by decide +kernel) ⟨(show 1 + 1 ≤ 2 by omega), (show 8 + (1 + 11) + 22 ≤ 42 by omega)⟩) (zVq (ci := 1) (q0 := 0) (q := (RX2, TX2, 5)) hK (hP.sub (ws' := (rdW rh th tb sh cI cJ cB 0 ry rf (nI tl) (nI ta) ts so tv tpA sw st sf sq)) [17, 18, 19, 20] rfl) hE rfl rfl rfl) rfl rfl hl.1 rfl (lv_room (Nat.le_of_ble_eq_true rfl)) dX2_readsMarks_6 ⟨(show 0 + 0 ≤ 0 by omega), (show 0 + 0 ≤ 0 by omega)⟩) (fun r15 hw => ?_)
  have hw : (True) := hw
  have w0r15 := hw
  refine lv_istore_n (lv' := [(1, .int r15), (0, .ref rh)]) hx hb dX2_readsMarks_9 rfl hl (by decide) rfl (fun ls hl => ?_)
  refine lv_iconst (v := 0) hx hb dX2_readsMarks_10 (by decide) ?_
  refine lv_istore_n (lv' := [(2, .int 0), (1, .int r15), (0, .ref rh)]) hx hb dX2_readsMarks_11 rfl hl (by decide) rfl (fun ls hl => ?_)
  exact J12 _ r15 0 ta ts so tv 0 _ _ ls (Nat.lt_succ_self _) (by first | omega | assumption | trivial) (by first | omega | assumption | trivial) hP hD hS (lv_sub hl [2, 1, 0] rfl)
theorem dX2_readsTypes_0 : decode cX2_readsTypes 0 = .ok (.iconst 1, 1) := by decide +kernel
theorem dX2_readsTypes_1 : decode cX2_readsTypes 1 = .ok (.istore_n 1, 1) := by decide +kernel
theorem dX2_readsTypes_2 : decode cX2_readsTypes 2 = .ok (.iconst 0, 1) := by decide +kernel
theorem dX2_readsTypes_3 : decode cX2_readsTypes 3 = .ok (.istore_n 2, 1) := by decide +kernel
theorem dX2_readsTypes_4 : decode cX2_readsTypes 4 = .ok (.iload_n 2, 1) := by decide +kernel
theorem dX2_readsTypes_5 : decode cX2_readsTypes 5 = .ok (.iconst 2, 1) := by decide +kernel
theorem dX2_readsTypes_6 : decode cX2_readsTypes 6 = .ok (.if_icmp .gt 81, 3) := by decide +kernel
theorem dX2_readsTypes_9 : decode cX2_readsTypes 9 = .ok (.iload_n 1, 1) := by decide +kernel
theorem dX2_readsTypes_10 : decode cX2_readsTypes 10 = .ok (.ifCond .eq 77, 3) := by decide +kernel
theorem dX2_readsTypes_13 : decode cX2_readsTypes 13 = .ok (.aload_n 0, 1) := by decide +kernel
theorem dX2_readsTypes_14 : decode cX2_readsTypes 14 = .ok (.invokevirtual 104, 3) := by decide +kernel
theorem dX2_readsTypes_17 : decode cX2_readsTypes 17 = .ok (.istore_n 3, 1) := by decide +kernel
theorem dX2_readsTypes_18 : decode cX2_readsTypes 18 = .ok (.iload_n 3, 1) := by decide +kernel
theorem dX2_readsTypes_19 : decode cX2_readsTypes 19 = .ok (.iconst (-1), 1) := by decide +kernel
theorem dX2_readsTypes_20 : decode cX2_readsTypes 20 = .ok (.if_icmp .eq 8, 3) := by decide +kernel
theorem dX2_readsTypes_23 : decode cX2_readsTypes 23 = .ok (.iload_n 3, 1) := by decide +kernel
theorem dX2_readsTypes_24 : decode cX2_readsTypes 24 = .ok (.iconst 2, 1) := by decide +kernel
theorem dX2_readsTypes_25 : decode cX2_readsTypes 25 = .ok (.if_icmp .ne 9, 3) := by decide +kernel
theorem dX2_readsTypes_28 : decode cX2_readsTypes 28 = .ok (.aload_n 0, 1) := by decide +kernel
theorem dX2_readsTypes_29 : decode cX2_readsTypes 29 = .ok (.iconst 1, 1) := by decide +kernel
theorem dX2_readsTypes_30 : decode cX2_readsTypes 30 = .ok (.invokevirtual 67, 3) := by decide +kernel
theorem dX2_readsTypes_33 : decode cX2_readsTypes 33 = .ok (.ireturn, 1) := by decide +kernel
theorem dX2_readsTypes_34 : decode cX2_readsTypes 34 = .ok (.iload_n 2, 1) := by decide +kernel
theorem dX2_readsTypes_35 : decode cX2_readsTypes 35 = .ok (.iconst 2, 1) := by decide +kernel
theorem dX2_readsTypes_36 : decode cX2_readsTypes 36 = .ok (.if_icmp .lt 9, 3) := by decide +kernel
theorem dX2_readsTypes_39 : decode cX2_readsTypes 39 = .ok (.aload_n 0, 1) := by decide +kernel
theorem dX2_readsTypes_40 : decode cX2_readsTypes 40 = .ok (.iconst 2, 1) := by decide +kernel
theorem dX2_readsTypes_41 : decode cX2_readsTypes 41 = .ok (.invokevirtual 67, 3) := by decide +kernel
theorem dX2_readsTypes_44 : decode cX2_readsTypes 44 = .ok (.ireturn, 1) := by decide +kernel
theorem dX2_readsTypes_45 : decode cX2_readsTypes 45 = .ok (.aload_n 0, 1) := by decide +kernel
theorem dX2_readsTypes_46 : decode cX2_readsTypes 46 = .ok (.getfield 23, 3) := by decide +kernel
theorem dX2_readsTypes_49 : decode cX2_readsTypes 49 = .ok (.iload_n 3, 1) := by decide +kernel
theorem dX2_readsTypes_50 : decode cX2_readsTypes 50 = .ok (.invokevirtual 151, 3) := by decide +kernel
theorem dX2_readsTypes_53 : decode cX2_readsTypes 53 = .ok (.aload_n 0, 1) := by decide +kernel
theorem dX2_readsTypes_54 : decode cX2_readsTypes 54 = .ok (.getfield 14, 3) := by decide +kernel
theorem dX2_readsTypes_57 : decode cX2_readsTypes 57 = .ok (.invokevirtual 54, 3) := by decide +kernel
theorem dX2_readsTypes_60 : decode cX2_readsTypes 60 = .ok (.aload_n 0, 1) := by decide +kernel
theorem dX2_readsTypes_61 : decode cX2_readsTypes 61 = .ok (.getfield 14, 3) := by decide +kernel
theorem dX2_readsTypes_64 : decode cX2_readsTypes 64 = .ok (.bipush 44, 2) := by decide +kernel
theorem dX2_readsTypes_66 : decode cX2_readsTypes 66 = .ok (.invokevirtual 47, 3) := by decide +kernel
theorem dX2_readsTypes_69 : decode cX2_readsTypes 69 = .ok (.istore_n 1, 1) := by decide +kernel
theorem dX2_readsTypes_70 : decode cX2_readsTypes 70 = .ok (.iload_n 1, 1) := by decide +kernel
theorem dX2_readsTypes_71 : decode cX2_readsTypes 71 = .ok (.ifCond .eq 10, 3) := by decide +kernel
theorem dX2_readsTypes_74 : decode cX2_readsTypes 74 = .ok (.aload_n 0, 1) := by decide +kernel
theorem dX2_readsTypes_75 : decode cX2_readsTypes 75 = .ok (.getfield 14, 3) := by decide +kernel
theorem dX2_readsTypes_78 : decode cX2_readsTypes 78 = .ok (.invokevirtual 54, 3) := by decide +kernel
theorem dX2_readsTypes_81 : decode cX2_readsTypes 81 = .ok (.iinc 2 1, 3) := by decide +kernel
theorem dX2_readsTypes_84 : decode cX2_readsTypes 84 = .ok (.goto (-80), 3) := by decide +kernel
theorem dX2_readsTypes_87 : decode cX2_readsTypes 87 = .ok (.aload_n 0, 1) := by decide +kernel
theorem dX2_readsTypes_88 : decode cX2_readsTypes 88 = .ok (.getfield 14, 3) := by decide +kernel
theorem dX2_readsTypes_91 : decode cX2_readsTypes 91 = .ok (.bipush 41, 2) := by decide +kernel
theorem dX2_readsTypes_93 : decode cX2_readsTypes 93 = .ok (.invokevirtual 47, 3) := by decide +kernel
theorem dX2_readsTypes_96 : decode cX2_readsTypes 96 = .ok (.ifCond .ne 11, 3) := by decide +kernel
theorem dX2_readsTypes_99 : decode cX2_readsTypes 99 = .ok (.aload_n 0, 1) := by decide +kernel
theorem dX2_readsTypes_100 : decode cX2_readsTypes 100 = .ok (.iconst 1, 1) := by decide +kernel
theorem dX2_readsTypes_101 : decode cX2_readsTypes 101 = .ok (.invokevirtual 67, 3) := by decide +kernel
theorem dX2_readsTypes_104 : decode cX2_readsTypes 104 = .ok (.ifCond .eq 7, 3) := by decide +kernel
theorem dX2_readsTypes_107 : decode cX2_readsTypes 107 = .ok (.iconst 1, 1) := by decide +kernel
theorem dX2_readsTypes_108 : decode cX2_readsTypes 108 = .ok (.goto 4, 3) := by decide +kernel
theorem dX2_readsTypes_111 : decode cX2_readsTypes 111 = .ok (.iconst 0, 1) := by decide +kernel
theorem dX2_readsTypes_112 : decode cX2_readsTypes 112 = .ok (.ireturn, 1) := by decide +kernel
def zwX2_readsTypes : List Cond := .code yX2_readsTypes cX2_readsTypes 4 (some .boolean) :: ([.fieldLink RX2 14 "LinkModels$Reader" "tokens" "LLinkModels$Tokens;", .fieldLink RX2 23 "LinkModels$Reader" "signature" "LLinkModels$Signature;", .methodLink RX2 47 yX4_isSign, .instanceMethod yX4_isSign, .selects RX4 yX4_isSign yX4_isSign, .initialized RX4, .code yX4_isSign cX4_isSign 2 (some .boolean), .fieldLink RX4 40 "LinkModels$Tokens" "sort" "I", .fieldLink RX4 32 "LinkModels$Tokens" "value" "J", .methodLink RX2 67 yX2_refuse, .instanceMethod yX2_refuse, .selects RX2 yX2_refuse yX2_refuse, .initialized RX2, .code yX2_refuse cX2_refuse 2 (some .boolean), .fieldLink RX2 27 "LinkModels$Reader" "fault" "I", .methodLink RX2 104 yX2_typeHere, .instanceMethod yX2_typeHere, .selects RX2 yX2_typeHere yX2_typeHere, .code yX2_typeHere cX2_typeHere 1 (some .int), .fieldLink RX2 40 "LinkModels$Tokens" "sort" "I", .constantLong RX2 164 (6909556), .constantLong RX2 166 (1819242087), .constantLong RX2 168 (1987012964), .fieldLink RX2 74 "LinkModels$Tokens" "value" "J", .methodLink RX2 63 yX4_isWord, .instanceMethod yX4_isWord, .selects RX4 yX4_isWord yX4_isWord, .code yX4_isWord cX4_isWord 3 (some .boolean), .methodLink RX2 151 yX3_add, .instanceMethod yX3_add, .selects RX3 yX3_add yX3_add, .initialized RX3, .code yX3_add cX3_add 2 none, .fieldLink RX3 13 "LinkModels$Signature" "typeCount" "I", .fieldLink RX3 20 "LinkModels$Signature" "second" "I", .fieldLink RX3 17 "LinkModels$Signature" "first" "I", .methodLink RX2 54 yX4_step, .instanceMethod yX4_step, .selects RX4 yX4_step yX4_step, .code yX4_step cX4_step 2 none, .fieldLink RX4 23 "LinkModels$Tokens" "behind" "I", .fieldLink RX4 29 "LinkModels$Tokens" "start" "I", .fieldLink RX4 19 "LinkModels$Tokens" "length" "I", .fieldLink RX4 7 "LinkModels$Tokens" "tape" "[B", .methodLink RX4 51 yX4_longest, .instanceMethod yX4_longest, .selects RX4 yX4_longest yX4_longest, .code yX4_longest cX4_longest 1 (some .int), .methodLink RX4 43 yX4_take, .instanceMethod yX4_take, .selects RX4 yX4_take yX4_take, .code yX4_take cX4_take 2 none, .constantLong RX4 55 (10), .methodLink RX4 36 yX4_sortOf, .static yX4_sortOf, .code yX4_sortOf cX4_sortOf 1 (some .int), .methodLink RX4 47 yX4_joins, .instanceMethod yX4_joins, .selects RX4 yX4_joins yX4_joins, .code yX4_joins cX4_joins 2 (some .boolean)] ++ wsX20 ++ wsX40 ++ wsX30)
theorem zgX2_readsTypes_X4_isSign_47 : GoodIn zwX2_readsTypes (wsV RX2 47 RX4 yX4_isSign zwX4_isSign) := goodIn_app (goodIn_r _ [3, 4, 5, 6] rfl (by decide +kernel)) (goodIn_app (goodIn_r _ [7, 8, 9] rfl (by decide +kernel)) (fun w hw => ⟨(List.mem_cons_of_mem _ (List.mem_append_left _ (List.mem_append_right _ hw))), good_of_word (List.all_eq_true.mp zgX4 w hw)⟩))
theorem zgX2_readsTypes_X2_refuse_67 : GoodIn zwX2_readsTypes (wsV RX2 67 RX2 yX2_refuse zwX2_refuse) := goodIn_app (goodIn_r _ [10, 11, 12, 13] rfl (by decide +kernel)) (goodIn_app (goodIn_r _ [14, 15] rfl (by decide +kernel)) (fun w hw => ⟨(List.mem_cons_of_mem _ (List.mem_append_left _ (List.mem_append_left _ (List.mem_append_right _ hw)))), good_of_word (List.all_eq_true.mp zgX2 w hw)⟩))
theorem zgX2_readsTypes_X2_typeHere_104 : GoodIn zwX2_readsTypes (wsV RX2 104 RX2 yX2_typeHere zwX2_typeHere) := goodIn_app (goodIn_r _ [16, 17, 18, 13] rfl (by decide +kernel)) (goodIn_app (goodIn_app (goodIn_r _ [19, 1, 20, 21, 22, 23, 24, 25, 26, 27, 6, 28, 8, 9] rfl (by decide +kernel)) (fun w hw => ⟨(List.mem_cons_of_mem _ (List.mem_append_left _ (List.mem_append_left _ (List.mem_append_right _ hw)))), good_of_word (List.all_eq_true.mp zgX2 w hw)⟩)) (fun w hw => ⟨(List.mem_cons_of_mem _ (List.mem_append_left _ (List.mem_append_right _ hw))), good_of_word (List.all_eq_true.mp zgX4 w hw)⟩))
theorem zgX2_readsTypes_X3_add_151 : GoodIn zwX2_readsTypes (wsV RX2 151 RX3 yX3_add zwX3_add) := goodIn_app (goodIn_r _ [29, 30, 31, 32] rfl (by decide +kernel)) (goodIn_app (goodIn_r _ [33, 34, 35, 36] rfl (by decide +kernel)) (fun w hw => ⟨(List.mem_cons_of_mem _ (List.mem_append_right _ hw)), good_of_word (List.all_eq_true.mp zgX3 w hw)⟩))
theorem zgX2_readsTypes_X4_step_54 : GoodIn zwX2_readsTypes (wsV RX2 54 RX4 yX4_step zwX4_step) := goodIn_app (goodIn_r _ [37, 38, 39, 6] rfl (by decide +kernel)) (goodIn_app (goodIn_r _ [40, 41, 42, 8, 43, 44, 9, 45, 46, 47, 6, 48, 49, 50, 51, 52, 53, 54, 55, 56, 57, 58, 59, 60] rfl (by decide +kernel)) (fun w hw => ⟨(List.mem_cons_of_mem _ (List.mem_append_left _ (List.mem_append_right _ hw))), good_of_word (List.all_eq_true.mp zgX4 w hw)⟩))
set_option maxHeartbeats 4000000 in
set_option maxRecDepth 100000 in
theorem kX2_readsTypes (l : Launch) (dC : Nat → ClassId) (dI : Nat → Nat → Nat) (bh : Nat) (br : Nat → Nat) (rh : Nat) (th : Nat) (tb : Nat) (sh : Nat) (cI : ClassId) (cJ : ClassId) (cB : ClassId) (cc : Nat) (nA : Nat → Int32) (mA : Nat → Int32) (aA : Nat → Int32) (fcA : Nat → Nat) (fA : Nat → Int32) (mcA : Nat → Nat) (mmA : Nat → Int32) (wA : Nat → Int64) (tcA : Nat → Int32) (g1A : Nat → Int32) (g2A : Nat → Int32) (nuA : Nat → Int32) (erA : Nat → Nat) (reA : Nat → Int32) (liA : Nat → Nat) (lcA : Nat → Nat) (rm : Int32) (ry : Int32) (rf : Int32) (tl : Nat) (ta : Nat) (ts : Int32) (so : Int32) (tv : Int64) (tpA : Nat → Int32) (sw : Int64) (st : Int32) (sf : Int32) (sq : Int32) (hI : kWI cc fcA mcA erA liA lcA tl ta) (sz : Nat) : Met l yX2_readsTypes zwX2_readsTypes ({ frames := 2, cells := 0, slots := 0, locals := 42 }) (zPk dC dI [.ref rh] sz (kW bh br rh th tb sh cI cJ cB (nI cc) nA mA aA (fun j => nI (fcA j)) fA (fun j => nI (mcA j)) mmA wA tcA g1A g2A nuA (fun j => nI (erA j)) reA (fun j => nI (liA j)) (fun j => nI (lcA j)) rm ry rf (nI tl) (nI ta) ts so tv tpA sw st sf sq) [(cI, .int), (cJ, .long), (cB, .byte)]) (va_Qi (fun (r : Int32) (u : Nat × Int32 × Int32 × Int64 × Int32 × Int32 × Int32 × Int32) => (r = 0 ∨ r = 1) ∧ ((u.1) ≤ tl)) (fun u t => zB dC dI (va_A (kW bh br rh th tb sh cI cJ cB (nI cc) nA mA aA (fun j => nI (fcA j)) fA (fun j => nI (mcA j)) mmA wA tcA g1A g2A nuA (fun j => nI (erA j)) reA (fun j => nI (liA j)) (fun j => nI (lcA j)) rm ry rf (nI tl) (nI ta) ts so tv tpA sw st sf sq) sz) (kW bh br rh th tb sh cI cJ cB (nI cc) nA mA aA (fun j => nI (fcA j)) fA (fun j => nI (mcA j)) mmA wA tcA g1A g2A nuA (fun j => nI (erA j)) reA (fun j => nI (liA j)) (fun j => nI (lcA j)) rm ry (u.2.2.2.2.1) (nI tl) (nI (u.1)) (u.2.1) (u.2.2.1) (u.2.2.2.1) tpA sw (u.2.2.2.2.2.1) (u.2.2.2.2.2.2.1) (u.2.2.2.2.2.2.2)) [(cI, .int), (cJ, .long), (cB, .byte)] t) (va_A (kW bh br rh th tb sh cI cJ cB (nI cc) nA mA aA (fun j => nI (fcA j)) fA (fun j => nI (mcA j)) mmA wA tcA g1A g2A nuA (fun j => nI (erA j)) reA (fun j => nI (liA j)) (fun j => nI (lcA j)) rm ry rf (nI tl) (nI ta) ts so tv tpA sw st sf sq) sz)) 0 0 (va_A (kW bh br rh th tb sh cI cJ cB (nI cc) nA mA aA (fun j => nI (fcA j)) fA (fun j => nI (mcA j)) mmA wA tcA g1A g2A nuA (fun j => nI (erA j)) reA (fun j => nI (liA j)) (fun j => nI (lcA j)) rm ry rf (nI tl) (nI ta) ts so tv tpA sw st sf sq) sz) := by
  refine Met.ofW (cc := cX2_readsTypes) (maxL := 4) (ret := (some .boolean)) (by decide) rfl ?_
  intro p e s m args below meth c s₁ B hml hv
  obtain ⟨rfl, hsz, hP, hK, hD0, hE⟩ := hv
  have hx := B.exec
  have hb := B.bytes
  have hr := B.returns
  have hts := atoms_spec (ws := zwX2_readsTypes) B.pre
  have hown : s.vm.findClass RX2 = some m.cls := findClass_of_methodNamed B.named
  have hiX2 : ∀ w ∈ wsX20, w ∈ zwX2_readsTypes := (fun w hw => (List.mem_cons_of_mem _ (List.mem_append_left _ (List.mem_append_left _ (List.mem_append_right _ hw)))))
  obtain ⟨hcc, htl, hta, hfcA, hmcA, herA, hliA, hlcA⟩ := hI
  subst hsz
  have hD := hD0.self (sz := s.heap.size)
  generalize hAe : va_A (kW bh br rh th tb sh cI cJ cB (nI cc) nA mA aA (fun j => nI (fcA j)) fA (fun j => nI (mcA j)) mmA wA tcA g1A g2A nuA (fun j => nI (erA j)) reA (fun j => nI (liA j)) (fun j => nI (lcA j)) rm ry rf (nI tl) (nI ta) ts so tv tpA sw st sf sq) s.heap.size = A at hD ⊢
  have hA : ∀ q : Nat, s.heap.size ≤ q → A q := fun q h => by rw [← hAe]; exact Or.inr h
  have hS : va_S A s.heap s.heap [] := va_S.rf
  have hl := lv_entry ([.ref rh]) (n := 4) (Nat.le_of_ble_eq_true rfl)
  rw [lg_entry_eq]
  generalize (lg_sl ([.ref rh]) ++ List.replicate (4 - (lg_sl ([.ref rh])).length) Slot.unset).toArray = ls at hl ⊢
  have hl : lv_has ls 4 [(0, .ref rh)] := hl
  have J4 : ∀ (z4 : Nat) (mo : Int32) (ix : Nat) (b2 : Nat) (s2 : Int32) (so2 : Int32) (v2 : Int64) (c2 : Int32) (q2 : Int32) (e2 : Int32) (H : Heap) (locs : List Loc) (ls : Array Slot), 3 - ix < z4 → (ix ≤ 3) → (b2 ≤ tl) → va_P (dC, dI) vwCl (kW bh br rh th tb sh cI cJ cB (nI cc) nA mA aA (fun j => nI (fcA j)) fA (fun j => nI (mcA j)) mmA wA tcA g1A g2A nuA (fun j => nI (erA j)) reA (fun j => nI (liA j)) (fun j => nI (lcA j)) rm ry rf (nI tl) (nI b2) s2 so2 v2 tpA sw c2 q2 e2) H → va_D A (kW bh br rh th tb sh cI cJ cB (nI cc) nA mA aA (fun j => nI (fcA j)) fA (fun j => nI (mcA j)) mmA wA tcA g1A g2A nuA (fun j => nI (erA j)) reA (fun j => nI (liA j)) (fun j => nI (lcA j)) rm ry rf (nI tl) (nI b2) s2 so2 v2 tpA sw c2 q2 e2) → va_S A s.heap H locs → lv_has ls 4 [(0, .ref rh), (1, .int mo), (2, .int (nI ix))] → W p l e (headSpec zwX2_readsTypes { frames := 2, cells := 0, slots := 0, locals := 42 }).room s m (([.ref rh] : List Value).toArray) below meth c H locs 0 0 (MQ below (va_Qi (fun (r : Int32) (u : Nat × Int32 × Int32 × Int64 × Int32 × Int32 × Int32 × Int32) => (r = 0 ∨ r = 1) ∧ ((u.1) ≤ tl)) (fun u t => zB dC dI (A) (kW bh br rh th tb sh cI cJ cB (nI cc) nA mA aA (fun j => nI (fcA j)) fA (fun j => nI (mcA j)) mmA wA tcA g1A g2A nuA (fun j => nI (erA j)) reA (fun j => nI (liA j)) (fun j => nI (lcA j)) rm ry (u.2.2.2.2.1) (nI tl) (nI (u.1)) (u.2.1) (u.2.2.1) (u.2.2.2.1) tpA sw (u.2.2.2.2.2.1) (u.2.2.2.2.2.2.1) (u.2.2.2.2.2.2.2)) [(cI, .int), (cJ, .long), (cB, .byte)] t) (A)) (([.ref rh] : List Value).toArray) s 0 0 A) (F0 m 4 ls []) := by
    intro z4
    induction z4 with
    | zero => intro mo ix b2 s2 so2 v2 c2 q2 e2 H locs ls h9; exact absurd h9 (Nat.not_lt_zero _)
    | succ z4 ih4 =>
      intro mo ix b2 s2 so2 v2 c2 q2 e2 H locs ls hm4 i4_0 i4_1 hP hD hS hl
      have J81 : ∀ (mo3 : Int32) (b3 : Nat) (s3 : Int32) (so3 : Int32) (v3 : Int64) (c3 : Int32) (q3 : Int32) (e3 : Int32) (H : Heap) (locs : List Loc) (ls : Array Slot), (ix < 3) → (b3 ≤ tl) → va_P (dC, dI) vwCl (kW bh br rh th tb sh cI cJ cB (nI cc) nA mA aA (fun j => nI (fcA j)) fA (fun j => nI (mcA j)) mmA wA tcA g1A g2A nuA (fun j => nI (erA j)) reA (fun j => nI (liA j)) (fun j => nI (lcA j)) rm ry rf (nI tl) (nI b3) s3 so3 v3 tpA sw c3 q3 e3) H → va_D A (kW bh br rh th tb sh cI cJ cB (nI cc) nA mA aA (fun j => nI (fcA j)) fA (fun j => nI (mcA j)) mmA wA tcA g1A g2A nuA (fun j => nI (erA j)) reA (fun j => nI (liA j)) (fun j => nI (lcA j)) rm ry rf (nI tl) (nI b3) s3 so3 v3 tpA sw c3 q3 e3) → va_S A s.heap H locs → lv_has ls 4 [(0, .ref rh), (1, .int mo3), (2, .int (nI ix))] → W p l e (headSpec zwX2_readsTypes { frames := 2, cells := 0, slots := 0, locals := 42 }).room s m (([.ref rh] : List Value).toArray) below meth c H locs 0 0 (MQ below (va_Qi (fun (r : Int32) (u : Nat × Int32 × Int32 × Int64 × Int32 × Int32 × Int32 × Int32) => (r = 0 ∨ r = 1) ∧ ((u.1) ≤ tl)) (fun u t => zB dC dI (A) (kW bh br rh th tb sh cI cJ cB (nI cc) nA mA aA (fun j => nI (fcA j)) fA (fun j => nI (mcA j)) mmA wA tcA g1A g2A nuA (fun j => nI (erA j)) reA (fun j => nI (liA j)) (fun j => nI (lcA j)) rm ry (u.2.2.2.2.1) (nI tl) (nI (u.1)) (u.2.1) (u.2.2.1) (u.2.2.2.1) tpA sw (u.2.2.2.2.2.1) (u.2.2.2.2.2.2.1) (u.2.2.2.2.2.2.2)) [(cI, .int), (cJ, .long), (cB, .byte)] t) (A)) (([.ref rh] : List Value).toArray) s 0 0 A) (F0 m 81 ls []) := by
        intro mo3 b3 s3 so3 v3 c3 q3 e3 H locs ls i81_0 i81_1 hP hD hS hl
        obtain ⟨x1, ex1⟩ : ∃ y : Int32, y = (nI ix) + 1 := ⟨_, rfl⟩
        refine lv_iinc (v := x1) (lv' := [(2, .int x1), (0, .ref rh), (1, .int mo3)]) hx hb dX2_readsTypes_81 hl (k := 2) rfl (by rw [ex1]; rfl) (by decide) rfl (fun ls hl => ?_)
        obtain rfl : x1 = nI (ix + 1) := by rw [ex1]; exact nI_add (ix) 1
        refine lv_goto (tgt := 4) hx hb dX2_readsTypes_84 (by decide) ?_
        exact ih4 mo3 (ix + 1) b3 s3 so3 v3 c3 q3 e3 _ _ ls (by omega) (by first | omega | assumption | trivial) (by first | omega | assumption | trivial) hP hD hS (lv_sub hl [1, 2, 0] rfl)
      refine lv_iload_n hx hb dX2_readsTypes_4 rfl (lv_at hl 2 rfl) ?_
      refine lv_iconst (v := 2) hx hb dX2_readsTypes_5 (by decide) ?_
      refine lv_icmp_gt (tgt := 87) hx hb dX2_readsTypes_6 (by decide) (fun cp6 => ?_) (fun cp6 => ?_)
      · have qcp6 : 2 < ix := (nI_ltI (a := 2) (b := ix) (by omega) (by omega)).mp cp6
        refine lv_aload_n hx hb dX2_readsTypes_87 rfl (lv_at hl 0 rfl) ?_
        refine va_get (D := (dC, dI)) (ci := 1) (v := .ref th) (C := RX2) (T := TX2) (N := 5) hx hb hts hiX2 hown hK hP 17 rfl rfl 0 (by decide) (hts (.fieldLink RX2 14 "LinkModels$Reader" "tokens" "LLinkModels$Tokens;") (by decide +kernel)) (fun _ h9 => h9) rfl dX2_readsTypes_88 ?_
        refine lv_bipush (v := 41) hx hb dX2_readsTypes_91 (by decide) ?_
        refine vp_callSi (W.runV (As := [.int 41]) (rest := []) ⟨hx, hb, hml, hown, hts⟩ (kX4_isSign l dC dI rh th tb sh cI cJ cB rm ry rf tl b2 s2 so2 v2 tpA sw c2 q2 e2 ⟨by omega, by omega⟩ (41 : Int32)) (cwV 1 hts zgX2_readsTypes_X4_isSign_47 rfl rfl rfl (by decide +kernel) ⟨(show 0 + 1 ≤ 2 by omega), (show 8 + (2 + 11) + 0 ≤ 42 by omega)⟩) (zVq (ci := 3) (q0 := 1) (q := (RX4, TX4, 6)) hK (hP.sub (ws' := (rdW rh th tb sh cI cJ cB rm ry rf (nI tl) (nI b2) s2 so2 v2 tpA sw c2 q2 e2)) [17, 18, 19, 20] rfl) hE rfl rfl rfl) rfl rfl hl.1 rfl (lv_room (Nat.le_of_ble_eq_true rfl)) dX2_readsTypes_93 ⟨(show 0 + 0 ≤ 0 by omega), (show 0 + 0 ≤ 0 by omega)⟩) (fun r2 hw => ?_)
        have hw : (r2 = 0 ∨ r2 = 1) := hw
        have w0r2 := hw
        refine lv_if_ne (tgt := 107) hx hb dX2_readsTypes_96 (by decide) (fun cp96 => ?_) (fun cp96 => ?_)
        · refine lv_iconst (v := 1) hx hb dX2_readsTypes_107 (by decide) ?_
          refine lv_goto (tgt := 112) hx hb dX2_readsTypes_108 (by decide) ?_
          have hP9 : va_P (dC, dI) vwCl (kW bh br rh th tb sh cI cJ cB (nI cc) nA mA aA (fun j => nI (fcA j)) fA (fun j => nI (mcA j)) mmA wA tcA g1A g2A nuA (fun j => nI (erA j)) reA (fun j => nI (liA j)) (fun j => nI (lcA j)) rm ry rf (nI tl) (nI b2) s2 so2 v2 tpA sw c2 q2 e2) H := hP
          have hD9 : va_D A (kW bh br rh th tb sh cI cJ cB (nI cc) nA mA aA (fun j => nI (fcA j)) fA (fun j => nI (mcA j)) mmA wA tcA g1A g2A nuA (fun j => nI (erA j)) reA (fun j => nI (liA j)) (fun j => nI (lcA j)) rm ry rf (nI tl) (nI b2) s2 so2 v2 tpA sw c2 q2 e2) := hD
          exact W.zret (v := (1 : Int32)) hx hb hr rfl (fun t ht hW => ⟨⟨(1 : Int32), (b2, s2, so2, v2, rf, c2, q2, e2), rfl, ⟨(Or.inr rfl), (by first | omega | assumption | trivial)⟩, by rw [ht]; exact hP9, va_K.moved hW.alike hK, hD9⟩, hS.F ht⟩) hS.2.2 dX2_readsTypes_112
        · refine lv_aload_n hx hb dX2_readsTypes_99 rfl (lv_at hl 0 rfl) ?_
          refine lv_iconst (v := 1) hx hb dX2_readsTypes_100 (by decide) ?_
          have hFc := z_freeW hD hS hA
          refine va_calli (va_runV (As := [.int 1]) (rest := []) ⟨hx, hb, hml, hown, hts⟩ (kX2_refuse l dC dI bh br rh th tb sh cI cJ cB cc nA mA aA fcA fA mcA mmA wA tcA g1A g2A nuA erA reA liA lcA rm ry rf tl b2 s2 so2 v2 tpA sw c2 q2 e2 ⟨by omega, by omega, by omega, hfcA, hmcA, herA, hliA, hlcA⟩ (1 : Int32) H.size) (cwV 1 hts zgX2_readsTypes_X2_refuse_67 rfl rfl rfl (by decide +kernel) ⟨(show 0 + 1 ≤ 2 by omega), (show 8 + (2 + 11) + 0 ≤ 42 by omega)⟩) (zVk (ci := 1) (q0 := 17) (q := (RX2, TX2, 5)) hK hP hD hE rfl rfl rfl) rfl rfl hl.1 rfl (lv_room (Nat.le_of_ble_eq_true rfl)) dX2_readsTypes_101 ⟨(show 0 + 0 ≤ 0 by omega), (show 0 + 0 ≤ 0 by omega)⟩) hS (fun q _ h => hFc q h) hFc (fun r3 o4 t H1 locs ht hvm hw hB hz1 hk1 hS => ?_)
          obtain ⟨hP, hK9, hD⟩ := hB
          rw [ht] at hP
          have hD := hD.weaken (fun k q _ h => hFc q.1 h)
          generalize H1 = H at hP hS
          have hP : va_P (dC, dI) vwCl (kW bh br rh th tb sh cI cJ cB (nI cc) nA mA aA (fun j => nI (fcA j)) fA (fun j => nI (mcA j)) mmA wA tcA g1A g2A nuA (fun j => nI (erA j)) reA (fun j => nI (liA j)) (fun j => nI (lcA j)) rm ry o4 (nI tl) (nI b2) s2 so2 v2 tpA sw c2 q2 e2) H := hP
          have hD : va_D A (kW bh br rh th tb sh cI cJ cB (nI cc) nA mA aA (fun j => nI (fcA j)) fA (fun j => nI (mcA j)) mmA wA tcA g1A g2A nuA (fun j => nI (erA j)) reA (fun j => nI (liA j)) (fun j => nI (lcA j)) rm ry o4 (nI tl) (nI b2) s2 so2 v2 tpA sw c2 q2 e2) := hD
          have hw : (r3 = 0 ∨ r3 = 1) ∧ (r3 = 0) := hw
          obtain ⟨w0r3, w1r3⟩ := hw
          subst w1r3
          refine lv_if_eq (tgt := 111) hx hb dX2_readsTypes_104 (by decide) (fun _ => ?_) (fun c9 => absurd (by decide) c9)
          refine lv_iconst (v := 0) hx hb dX2_readsTypes_111 (by decide) ?_
          have hP9 : va_P (dC, dI) vwCl (kW bh br rh th tb sh cI cJ cB (nI cc) nA mA aA (fun j => nI (fcA j)) fA (fun j => nI (mcA j)) mmA wA tcA g1A g2A nuA (fun j => nI (erA j)) reA (fun j => nI (liA j)) (fun j => nI (lcA j)) rm ry o4 (nI tl) (nI b2) s2 so2 v2 tpA sw c2 q2 e2) H := hP
          have hD9 : va_D A (kW bh br rh th tb sh cI cJ cB (nI cc) nA mA aA (fun j => nI (fcA j)) fA (fun j => nI (mcA j)) mmA wA tcA g1A g2A nuA (fun j => nI (erA j)) reA (fun j => nI (liA j)) (fun j => nI (lcA j)) rm ry o4 (nI tl) (nI b2) s2 so2 v2 tpA sw c2 q2 e2) := hD
          exact W.zret (v := (0 : Int32)) hx hb hr rfl (fun t ht hW => ⟨⟨(0 : Int32), (b2, s2, so2, v2, o4, c2, q2, e2), rfl, ⟨(Or.inl rfl), (by first | omega | assumption | trivial)⟩, by rw [ht]; exact hP9, va_K.moved hW.alike hK, hD9⟩, hS.F ht⟩) hS.2.2 dX2_readsTypes_112
      · have qcp6 : ¬ 2 < ix := fun h9 => cp6 ((nI_ltI (a := 2) (b := ix) (by omega) (by omega)).mpr h9)
        refine lv_iload_n hx hb dX2_readsTypes_9 rfl (lv_at hl 1 rfl) ?_
        refine lv_if_eq (tgt := 87) hx hb dX2_readsTypes_10 (by decide) (fun cp10 => ?_) (fun cp10 => ?_)
        · refine lv_aload_n hx hb dX2_readsTypes_87 rfl (lv_at hl 0 rfl) ?_
          refine va_get (D := (dC, dI)) (ci := 1) (v := .ref th) (C := RX2) (T := TX2) (N := 5) hx hb hts hiX2 hown hK hP 17 rfl rfl 0 (by decide) (hts (.fieldLink RX2 14 "LinkModels$Reader" "tokens" "LLinkModels$Tokens;") (by decide +kernel)) (fun _ h9 => h9) rfl dX2_readsTypes_88 ?_
          refine lv_bipush (v := 41) hx hb dX2_readsTypes_91 (by decide) ?_
          refine vp_callSi (W.runV (As := [.int 41]) (rest := []) ⟨hx, hb, hml, hown, hts⟩ (kX4_isSign l dC dI rh th tb sh cI cJ cB rm ry rf tl b2 s2 so2 v2 tpA sw c2 q2 e2 ⟨by omega, by omega⟩ (41 : Int32)) (cwV 1 hts zgX2_readsTypes_X4_isSign_47 rfl rfl rfl (by decide +kernel) ⟨(show 0 + 1 ≤ 2 by omega), (show 8 + (2 + 11) + 0 ≤ 42 by omega)⟩) (zVq (ci := 3) (q0 := 1) (q := (RX4, TX4, 6)) hK (hP.sub (ws' := (rdW rh th tb sh cI cJ cB rm ry rf (nI tl) (nI b2) s2 so2 v2 tpA sw c2 q2 e2)) [17, 18, 19, 20] rfl) hE rfl rfl rfl) rfl rfl hl.1 rfl (lv_room (Nat.le_of_ble_eq_true rfl)) dX2_readsTypes_93 ⟨(show 0 + 0 ≤ 0 by omega), (show 0 + 0 ≤ 0 by omega)⟩) (fun r5 hw => ?_)
          have hw : (r5 = 0 ∨ r5 = 1) := hw
          have w0r5 := hw
          refine lv_if_ne (tgt := 107) hx hb dX2_readsTypes_96 (by decide) (fun cp96 => ?_) (fun cp96 => ?_)
          · refine lv_iconst (v := 1) hx hb dX2_readsTypes_107 (by decide) ?_
            refine lv_goto (tgt := 112) hx hb dX2_readsTypes_108 (by decide) ?_
            have hP9 : va_P (dC, dI) vwCl (kW bh br rh th tb sh cI cJ cB (nI cc) nA mA aA (fun j => nI (fcA j)) fA (fun j => nI (mcA j)) mmA wA tcA g1A g2A nuA (fun j => nI (erA j)) reA (fun j => nI (liA j)) (fun j => nI (lcA j)) rm ry rf (nI tl) (nI b2) s2 so2 v2 tpA sw c2 q2 e2) H := hP
            have hD9 : va_D A (kW bh br rh th tb sh cI cJ cB (nI cc) nA mA aA (fun j => nI (fcA j)) fA (fun j => nI (mcA j)) mmA wA tcA g1A g2A nuA (fun j => nI (erA j)) reA (fun j => nI (liA j)) (fun j => nI (lcA j)) rm ry rf (nI tl) (nI b2) s2 so2 v2 tpA sw c2 q2 e2) := hD
            exact W.zret (v := (1 : Int32)) hx hb hr rfl (fun t ht hW => ⟨⟨(1 : Int32), (b2, s2, so2, v2, rf, c2, q2, e2), rfl, ⟨(Or.inr rfl), (by first | omega | assumption | trivial)⟩, by rw [ht]; exact hP9, va_K.moved hW.alike hK, hD9⟩, hS.F ht⟩) hS.2.2 dX2_readsTypes_112
          · refine lv_aload_n hx hb dX2_readsTypes_99 rfl (lv_at hl 0 rfl) ?_
            refine lv_iconst (v := 1) hx hb dX2_readsTypes_100 (by decide) ?_
            have hFc := z_freeW hD hS hA
            refine va_calli (va_runV (As := [.int 1]) (rest := []) ⟨hx, hb, hml, hown, hts⟩ (kX2_refuse l dC dI bh br rh th tb sh cI cJ cB cc nA mA aA fcA fA mcA mmA wA tcA g1A g2A nuA erA reA liA lcA rm ry rf tl b2 s2 so2 v2 tpA sw c2 q2 e2 ⟨by omega, by omega, by omega, hfcA, hmcA, herA, hliA, hlcA⟩ (1 : Int32) H.size) (cwV 1 hts zgX2_readsTypes_X2_refuse_67 rfl rfl rfl (by decide +kernel) ⟨(show 0 + 1 ≤ 2 by omega), (show 8 + (2 + 11) + 0 ≤ 42 by omega)⟩) (zVk (ci := 1) (q0 := 17) (q := (RX2, TX2, 5)) hK hP hD hE rfl rfl rfl) rfl rfl hl.1 rfl (lv_room (Nat.le_of_ble_eq_true rfl)) dX2_readsTypes_101 ⟨(show 0 + 0 ≤ 0 by omega), (show 0 + 0 ≤ 0 by omega)⟩) hS (fun q _ h => hFc q h) hFc (fun r6 o7 t H1 locs ht hvm hw hB hz1 hk1 hS => ?_)
            obtain ⟨hP, hK9, hD⟩ := hB
            rw [ht] at hP
            have hD := hD.weaken (fun k q _ h => hFc q.1 h)
            generalize H1 = H at hP hS
            have hP : va_P (dC, dI) vwCl (kW bh br rh th tb sh cI cJ cB (nI cc) nA mA aA (fun j => nI (fcA j)) fA (fun j => nI (mcA j)) mmA wA tcA g1A g2A nuA (fun j => nI (erA j)) reA (fun j => nI (liA j)) (fun j => nI (lcA j)) rm ry o7 (nI tl) (nI b2) s2 so2 v2 tpA sw c2 q2 e2) H := hP
            have hD : va_D A (kW bh br rh th tb sh cI cJ cB (nI cc) nA mA aA (fun j => nI (fcA j)) fA (fun j => nI (mcA j)) mmA wA tcA g1A g2A nuA (fun j => nI (erA j)) reA (fun j => nI (liA j)) (fun j => nI (lcA j)) rm ry o7 (nI tl) (nI b2) s2 so2 v2 tpA sw c2 q2 e2) := hD
            have hw : (r6 = 0 ∨ r6 = 1) ∧ (r6 = 0) := hw
            obtain ⟨w0r6, w1r6⟩ := hw
            subst w1r6
            refine lv_if_eq (tgt := 111) hx hb dX2_readsTypes_104 (by decide) (fun _ => ?_) (fun c9 => absurd (by decide) c9)
            refine lv_iconst (v := 0) hx hb dX2_readsTypes_111 (by decide) ?_
            have hP9 : va_P (dC, dI) vwCl (kW bh br rh th tb sh cI cJ cB (nI cc) nA mA aA (fun j => nI (fcA j)) fA (fun j => nI (mcA j)) mmA wA tcA g1A g2A nuA (fun j => nI (erA j)) reA (fun j => nI (liA j)) (fun j => nI (lcA j)) rm ry o7 (nI tl) (nI b2) s2 so2 v2 tpA sw c2 q2 e2) H := hP
            have hD9 : va_D A (kW bh br rh th tb sh cI cJ cB (nI cc) nA mA aA (fun j => nI (fcA j)) fA (fun j => nI (mcA j)) mmA wA tcA g1A g2A nuA (fun j => nI (erA j)) reA (fun j => nI (liA j)) (fun j => nI (lcA j)) rm ry o7 (nI tl) (nI b2) s2 so2 v2 tpA sw c2 q2 e2) := hD
            exact W.zret (v := (0 : Int32)) hx hb hr rfl (fun t ht hW => ⟨⟨(0 : Int32), (b2, s2, so2, v2, o7, c2, q2, e2), rfl, ⟨(Or.inl rfl), (by first | omega | assumption | trivial)⟩, by rw [ht]; exact hP9, va_K.moved hW.alike hK, hD9⟩, hS.F ht⟩) hS.2.2 dX2_readsTypes_112
        · refine lv_aload_n hx hb dX2_readsTypes_13 rfl (lv_at hl 0 rfl) ?_
          refine vp_callSi (W.runV (As := []) (rest := []) ⟨hx, hb, hml, hown, hts⟩ (kX2_typeHere l dC dI rh th tb sh cI cJ cB rm ry rf tl b2 s2 so2 v2 tpA sw c2 q2 e2 ⟨by omega, by omega⟩) (cwV 0 hts zgX2_readsTypes_X2_typeHere_104 rfl rfl rfl (by decide +kernel) ⟨(show 1 + 1 ≤ 2 by omega), (show 8 + (1 + 11) + 22 ≤ 42 by omega)⟩) (zVq (ci := 1) (q0 := 0) (q := (RX2, TX2, 5)) hK (hP.sub (ws' := (rdW rh th tb sh cI cJ cB rm ry rf (nI tl) (nI b2) s2 so2 v2 tpA sw c2 q2 e2)) [17, 18, 19, 20] rfl) hE rfl rfl rfl) rfl rfl hl.1 rfl (lv_room (Nat.le_of_ble_eq_true rfl)) dX2_readsTypes_14 ⟨(show 0 + 0 ≤ 0 by omega), (show 0 + 0 ≤ 0 by omega)⟩) (fun r8 hw => ?_)
          have hw : (True) := hw
          have w0r8 := hw
          refine lv_istore_n (lv' := [(3, .int r8), (0, .ref rh), (1, .int mo), (2, .int (nI ix))]) hx hb dX2_readsTypes_17 rfl hl (by decide) rfl (fun ls hl => ?_)
          refine lv_iload_n hx hb dX2_readsTypes_18 rfl (lv_at hl 0 rfl) ?_
          refine lv_iconst (v := (-1)) hx hb dX2_readsTypes_19 (by decide) ?_
          refine lv_icmp_eq (tgt := 28) hx hb dX2_readsTypes_20 (by decide) (fun cp20 => ?_) (fun cp20 => ?_)
          · refine lv_aload_n hx hb dX2_readsTypes_28 rfl (lv_at hl 1 rfl) ?_
            refine lv_iconst (v := 1) hx hb dX2_readsTypes_29 (by decide) ?_
            have hFc := z_freeW hD hS hA
            refine va_calli (va_runV (As := [.int 1]) (rest := []) ⟨hx, hb, hml, hown, hts⟩ (kX2_refuse l dC dI bh br rh th tb sh cI cJ cB cc nA mA aA fcA fA mcA mmA wA tcA g1A g2A nuA erA reA liA lcA rm ry rf tl b2 s2 so2 v2 tpA sw c2 q2 e2 ⟨by omega, by omega, by omega, hfcA, hmcA, herA, hliA, hlcA⟩ (1 : Int32) H.size) (cwV 1 hts zgX2_readsTypes_X2_refuse_67 rfl rfl rfl (by decide +kernel) ⟨(show 0 + 1 ≤ 2 by omega), (show 8 + (2 + 11) + 0 ≤ 42 by omega)⟩) (zVk (ci := 1) (q0 := 17) (q := (RX2, TX2, 5)) hK hP hD hE rfl rfl rfl) rfl rfl hl.1 rfl (lv_room (Nat.le_of_ble_eq_true rfl)) dX2_readsTypes_30 ⟨(show 0 + 0 ≤ 0 by omega), (show 0 + 0 ≤ 0 by omega)⟩) hS (fun q _ h => hFc q h) hFc (fun r9 o10 t H1 locs ht hvm hw hB hz1 hk1 hS => ?_)
            obtain ⟨hP, hK9, hD⟩ := hB
            rw [ht] at hP
            have hD := hD.weaken (fun k q _ h => hFc q.1 h)
            generalize H1 = H at hP hS
            have hP : va_P (dC, dI) vwCl (kW bh br rh th tb sh cI cJ cB (nI cc) nA mA aA (fun j => nI (fcA j)) fA (fun j => nI (mcA j)) mmA wA tcA g1A g2A nuA (fun j => nI (erA j)) reA (fun j => nI (liA j)) (fun j => nI (lcA j)) rm ry o10 (nI tl) (nI b2) s2 so2 v2 tpA sw c2 q2 e2) H := hP
            have hD : va_D A (kW bh br rh th tb sh cI cJ cB (nI cc) nA mA aA (fun j => nI (fcA j)) fA (fun j => nI (mcA j)) mmA wA tcA g1A g2A nuA (fun j => nI (erA j)) reA (fun j => nI (liA j)) (fun j => nI (lcA j)) rm ry o10 (nI tl) (nI b2) s2 so2 v2 tpA sw c2 q2 e2) := hD
            have hw : (r9 = 0 ∨ r9 = 1) ∧ (r9 = 0) := hw
            obtain ⟨w0r9, w1r9⟩ := hw
            subst w1r9
            have hP9 : va_P (dC, dI) vwCl (kW bh br rh th tb sh cI cJ cB (nI cc) nA mA aA (fun j => nI (fcA j)) fA (fun j => nI (mcA j)) mmA wA tcA g1A g2A nuA (fun j => nI (erA j)) reA (fun j => nI (liA j)) (fun j => nI (lcA j)) rm ry o10 (nI tl) (nI b2) s2 so2 v2 tpA sw c2 q2 e2) H := hP
            have hD9 : va_D A (kW bh br rh th tb sh cI cJ cB (nI cc) nA mA aA (fun j => nI (fcA j)) fA (fun j => nI (mcA j)) mmA wA tcA g1A g2A nuA (fun j => nI (erA j)) reA (fun j => nI (liA j)) (fun j => nI (lcA j)) rm ry o10 (nI tl) (nI b2) s2 so2 v2 tpA sw c2 q2 e2) := hD
            exact W.zret (v := (0 : Int32)) hx hb hr rfl (fun t ht hW => ⟨⟨(0 : Int32), (b2, s2, so2, v2, o10, c2, q2, e2), rfl, ⟨(Or.inl rfl), (by first | omega | assumption | trivial)⟩, by rw [ht]; exact hP9, va_K.moved hW.alike hK, hD9⟩, hS.F ht⟩) hS.2.2 dX2_readsTypes_33
          · refine lv_iload_n hx hb dX2_readsTypes_23 rfl (lv_at hl 0 rfl) ?_
            refine lv_iconst (v := 2) hx hb dX2_readsTypes_24 (by decide) ?_
            refine lv_icmp_ne (tgt := 34) hx hb dX2_readsTypes_25 (by decide) (fun cp25 => ?_) (fun cp25 => ?_)
            · refine lv_iload_n hx hb dX2_readsTypes_34 rfl (lv_at hl 3 rfl) ?_
              refine lv_iconst (v := 2) hx hb dX2_readsTypes_35 (by decide) ?_
              refine lv_icmp_lt (tgt := 45) hx hb dX2_readsTypes_36 (by decide) (fun cp36 => ?_) (fun cp36 => ?_)
              · have qcp36 : ix < 2 := (nI_ltI (a := ix) (b := 2) (by omega) (by omega)).mp cp36
                refine lv_aload_n hx hb dX2_readsTypes_45 rfl (lv_at hl 1 rfl) ?_
                refine va_get (D := (dC, dI)) (ci := 1) (v := .ref sh) (C := RX2) (T := TX2) (N := 5) hx hb hts hiX2 hown hK hP 17 rfl rfl 1 (by decide) (hts (.fieldLink RX2 23 "LinkModels$Reader" "signature" "LLinkModels$Signature;") (by decide +kernel)) (fun _ h9 => h9) rfl dX2_readsTypes_46 ?_
                refine lv_iload_n hx hb dX2_readsTypes_49 rfl (lv_at hl 0 rfl) ?_
                have hPc := hP.sub (ws' := (sgW sh cI cJ cB sw c2 q2 e2)) [20] rfl
                have hDc := hD.sub (ws' := (sgW sh cI cJ cB sw c2 q2 e2)) [20] (by decide) rfl
                have hFc := va_free (wc := (sgW sh cI cJ cB sw c2 q2 e2)) hD hS hA [20] rfl
                refine va_callv (va_runV (As := [.int r8]) (rest := []) ⟨hx, hb, hml, hown, hts⟩ (kX3_add l dC dI sh cI cJ cB sw c2 q2 e2 r8 H.size) (cwV 1 hts zgX2_readsTypes_X3_add_151 rfl rfl rfl (by decide +kernel) ⟨(show 0 + 1 ≤ 2 by omega), (show 8 + (2 + 11) + 0 ≤ 42 by omega)⟩) (zVk (ci := 2) (q0 := 0) (q := (RX3, TX3, 4)) hK hPc hDc hE rfl rfl rfl) rfl rfl hl.1 rfl (lv_room (Nat.le_of_ble_eq_true rfl)) dX2_readsTypes_50 ⟨(show 0 + 0 ≤ 0 by omega), (show 0 + 0 ≤ 0 by omega)⟩) hS (fun q _ h => hFc q h) hFc (fun u15 t H1 locs ht hvm hw hB hz1 hk1 hS => ?_)
                obtain ⟨o12, o13, o14⟩ := u15
                obtain ⟨hP1, hK9, hD1⟩ := hB
                rw [ht] at hP1
                obtain ⟨hP, hD⟩ := va_join (wr := [(bh, .inr (0, [.int (nI cc), .ref (br 1), .ref (br 2), .ref (br 3), .ref (br 4), .ref (br 5), .ref (br 6), .ref (br 7), .ref (br 8), .ref (br 9), .ref (br 10), .ref (br 11), .ref (br 12), .ref (br 13), .ref (br 14), .ref (br 15), .ref (br 16)])), (br 1, .inl (cI, 16, .inl nA)), (br 2, .inl (cI, 16, .inl mA)), (br 3, .inl (cI, 16, .inl aA)), (br 4, .inl (cI, 16, .inl (fun j => nI (fcA j)))), (br 5, .inl (cI, 48, .inl fA)), (br 6, .inl (cI, 16, .inl (fun j => nI (mcA j)))), (br 7, .inl (cI, 208, .inl mmA)), (br 8, .inl (cJ, 208, .inr (.inl wA))), (br 9, .inl (cI, 208, .inl tcA)), (br 10, .inl (cI, 208, .inl g1A)), (br 11, .inl (cI, 208, .inl g2A)), (br 12, .inl (cI, 208, .inl nuA)), (br 13, .inl (cI, 16, .inl (fun j => nI (erA j)))), (br 14, .inl (cI, 16, .inl reA)), (br 15, .inl (cI, 256, .inl (fun j => nI (liA j)))), (br 16, .inl (cI, 16, .inl (fun j => nI (lcA j)))), (rh, .inr (1, [.ref th, .ref sh, .int rm, .int ry, .int rf])), (th, .inr (3, [.ref tb, .int (nI tl), .int (nI b2), .int s2, .int so2, .long v2])), (tb, .inl (cB, 800, .inl tpA))]) (w1 := (sgW sh cI cJ cB sw o12 o13 o14)) hP hD [20] [0, 1, 2, 3, 4, 5, 6, 7, 8, 9, 10, 11, 12, 13, 14, 15, 16, 17, 18, 19] rfl rfl (by decide) (by decide) hk1 hFc hP1 hD1
                have hP := hP.sub (ws' := (kW bh br rh th tb sh cI cJ cB (nI cc) nA mA aA (fun j => nI (fcA j)) fA (fun j => nI (mcA j)) mmA wA tcA g1A g2A nuA (fun j => nI (erA j)) reA (fun j => nI (liA j)) (fun j => nI (lcA j)) rm ry rf (nI tl) (nI b2) s2 so2 v2 tpA sw o12 o13 o14)) [0, 1, 2, 3, 4, 5, 6, 7, 8, 9, 10, 11, 12, 13, 14, 15, 16, 17, 18, 19, 20] rfl
                have hD := hD.sub (ws' := (kW bh br rh th tb sh cI cJ cB (nI cc) nA mA aA (fun j => nI (fcA j)) fA (fun j => nI (mcA j)) mmA wA tcA g1A g2A nuA (fun j => nI (erA j)) reA (fun j => nI (liA j)) (fun j => nI (lcA j)) rm ry rf (nI tl) (nI b2) s2 so2 v2 tpA sw o12 o13 o14)) [0, 1, 2, 3, 4, 5, 6, 7, 8, 9, 10, 11, 12, 13, 14, 15, 16, 17, 18, 19, 20] (by decide) rfl
                generalize H1 = H at hP hS
                have hw : (True) := hw
                have w0r11 := hw
                refine lv_aload_n hx hb dX2_readsTypes_53 rfl (lv_at hl 1 rfl) ?_
                refine va_get (D := (dC, dI)) (ci := 1) (v := .ref th) (C := RX2) (T := TX2) (N := 5) hx hb hts hiX2 hown hK hP 17 rfl rfl 0 (by decide) (hts (.fieldLink RX2 14 "LinkModels$Reader" "tokens" "LLinkModels$Tokens;") (by decide +kernel)) (fun _ h9 => h9) rfl dX2_readsTypes_54 ?_
                have hFc := z_freeW hD hS hA
                refine va_callv (va_runV (As := []) (rest := []) ⟨hx, hb, hml, hown, hts⟩ (kX4_step l dC dI bh br rh th tb sh cI cJ cB cc nA mA aA fcA fA mcA mmA wA tcA g1A g2A nuA erA reA liA lcA rm ry rf tl b2 s2 so2 v2 tpA sw o12 o13 o14 ⟨by omega, by omega, by omega, hfcA, hmcA, herA, hliA, hlcA⟩ H.size) (cwV 0 hts zgX2_readsTypes_X4_step_54 rfl rfl rfl (by decide +kernel) ⟨(show 1 + 1 ≤ 2 by omega), (show 8 + (2 + 11) + 21 ≤ 42 by omega)⟩) (zVk (ci := 3) (q0 := 18) (q := (RX4, TX4, 6)) hK hP hD hE rfl rfl rfl) rfl rfl hl.1 rfl (lv_room (Nat.le_of_ble_eq_true rfl)) dX2_readsTypes_57 ⟨(show 0 + 0 ≤ 0 by omega), (show 0 + 0 ≤ 0 by omega)⟩) hS (fun q _ h => hFc q h) hFc (fun u21 t H1 locs ht hvm hw hB hz1 hk1 hS => ?_)
                obtain ⟨o17, o18, o19, o20⟩ := u21
                obtain ⟨hP, hK9, hD⟩ := hB
                rw [ht] at hP
                have hD := hD.weaken (fun k q _ h => hFc q.1 h)
                generalize H1 = H at hP hS
                have hP : va_P (dC, dI) vwCl (kW bh br rh th tb sh cI cJ cB (nI cc) nA mA aA (fun j => nI (fcA j)) fA (fun j => nI (mcA j)) mmA wA tcA g1A g2A nuA (fun j => nI (erA j)) reA (fun j => nI (liA j)) (fun j => nI (lcA j)) rm ry rf (nI tl) (nI o17) o18 o19 o20 tpA sw o12 o13 o14) H := hP
                have hD : va_D A (kW bh br rh th tb sh cI cJ cB (nI cc) nA mA aA (fun j => nI (fcA j)) fA (fun j => nI (mcA j)) mmA wA tcA g1A g2A nuA (fun j => nI (erA j)) reA (fun j => nI (liA j)) (fun j => nI (lcA j)) rm ry rf (nI tl) (nI o17) o18 o19 o20 tpA sw o12 o13 o14) := hD
                have hw : (b2 ≤ o17) ∧ (o17 ≤ tl) := hw
                obtain ⟨w0r16, w1r16⟩ := hw
                refine lv_aload_n hx hb dX2_readsTypes_60 rfl (lv_at hl 1 rfl) ?_
                refine va_get (D := (dC, dI)) (ci := 1) (v := .ref th) (C := RX2) (T := TX2) (N := 5) hx hb hts hiX2 hown hK hP 17 rfl rfl 0 (by decide) (hts (.fieldLink RX2 14 "LinkModels$Reader" "tokens" "LLinkModels$Tokens;") (by decide +kernel)) (fun _ h9 => h9) rfl dX2_readsTypes_61 ?_
                refine lv_bipush (v := 44) hx hb dX2_readsTypes_64 (by decide) ?_
                refine vp_callSi (W.runV (As := [.int 44]) (rest := []) ⟨hx, hb, hml, hown, hts⟩ (kX4_isSign l dC dI rh th tb sh cI cJ cB rm ry rf tl o17 o18 o19 o20 tpA sw o12 o13 o14 ⟨by omega, by omega⟩ (44 : Int32)) (cwV 1 hts zgX2_readsTypes_X4_isSign_47 rfl rfl rfl (by decide +kernel) ⟨(show 0 + 1 ≤ 2 by omega), (show 8 + (2 + 11) + 0 ≤ 42 by omega)⟩) (zVq (ci := 3) (q0 := 1) (q := (RX4, TX4, 6)) hK (hP.sub (ws' := (rdW rh th tb sh cI cJ cB rm ry rf (nI tl) (nI o17) o18 o19 o20 tpA sw o12 o13 o14)) [17, 18, 19, 20] rfl) hE rfl rfl rfl) rfl rfl hl.1 rfl (lv_room (Nat.le_of_ble_eq_true rfl)) dX2_readsTypes_66 ⟨(show 0 + 0 ≤ 0 by omega), (show 0 + 0 ≤ 0 by omega)⟩) (fun r22 hw => ?_)
                have hw : (r22 = 0 ∨ r22 = 1) := hw
                have w0r22 := hw
                refine lv_istore_n (lv' := [(1, .int r22), (3, .int r8), (0, .ref rh), (2, .int (nI ix))]) hx hb dX2_readsTypes_69 rfl hl (by decide) rfl (fun ls hl => ?_)
                refine lv_iload_n hx hb dX2_readsTypes_70 rfl (lv_at hl 0 rfl) ?_
                refine lv_if_eq (tgt := 81) hx hb dX2_readsTypes_71 (by decide) (fun cp71 => ?_) (fun cp71 => ?_)
                · exact J81 r22 o17 o18 o19 o20 o12 o13 o14 _ _ ls  (by first | omega | assumption | trivial) (by first | omega | assumption | trivial) hP hD hS (lv_sub hl [2, 0, 3] rfl)
                · refine lv_aload_n hx hb dX2_readsTypes_74 rfl (lv_at hl 2 rfl) ?_
                  refine va_get (D := (dC, dI)) (ci := 1) (v := .ref th) (C := RX2) (T := TX2) (N := 5) hx hb hts hiX2 hown hK hP 17 rfl rfl 0 (by decide) (hts (.fieldLink RX2 14 "LinkModels$Reader" "tokens" "LLinkModels$Tokens;") (by decide +kernel)) (fun _ h9 => h9) rfl dX2_readsTypes_75 ?_
                  have hFc := z_freeW hD hS hA
                  refine va_callv (va_runV (As := []) (rest := []) ⟨hx, hb, hml, hown, hts⟩ (kX4_step l dC dI bh br rh th tb sh cI cJ cB cc nA mA aA fcA fA mcA mmA wA tcA g1A g2A nuA erA reA liA lcA rm ry rf tl o17 o18 o19 o20 tpA sw o12 o13 o14 ⟨by omega, by omega, by omega, hfcA, hmcA, herA, hliA, hlcA⟩ H.size) (cwV 0 hts zgX2_readsTypes_X4_step_54 rfl rfl rfl (by decide +kernel) ⟨(show 1 + 1 ≤ 2 by omega), (show 8 + (2 + 11) + 21 ≤ 42 by omega)⟩) (zVk (ci := 3) (q0 := 18) (q := (RX4, TX4, 6)) hK hP hD hE rfl rfl rfl) rfl rfl hl.1 rfl (lv_room (Nat.le_of_ble_eq_true rfl)) dX2_readsTypes_78 ⟨(show 0 + 0 ≤ 0 by omega), (show 0 + 0 ≤ 0 by omega)⟩) hS (fun q _ h => hFc q h) hFc (fun u28 t H1 locs ht hvm hw hB hz1 hk1 hS => ?_)
                  obtain ⟨o24, o25, o26, o27⟩ := u28
                  obtain ⟨hP, hK9, hD⟩ := hB
                  rw [ht] at hP
                  have hD := hD.weaken (fun k q _ h => hFc q.1 h)
                  generalize H1 = H at hP hS
                  have hP : va_P (dC, dI) vwCl (kW bh br rh th tb sh cI cJ cB (nI cc) nA mA aA (fun j => nI (fcA j)) fA (fun j => nI (mcA j)) mmA wA tcA g1A g2A nuA (fun j => nI (erA j)) reA (fun j => nI (liA j)) (fun j => nI (lcA j)) rm ry rf (nI tl) (nI o24) o25 o26 o27 tpA sw o12 o13 o14) H := hP
                  have hD : va_D A (kW bh br rh th tb sh cI cJ cB (nI cc) nA mA aA (fun j => nI (fcA j)) fA (fun j => nI (mcA j)) mmA wA tcA g1A g2A nuA (fun j => nI (erA j)) reA (fun j => nI (liA j)) (fun j => nI (lcA j)) rm ry rf (nI tl) (nI o24) o25 o26 o27 tpA sw o12 o13 o14) := hD
                  have hw : (o17 ≤ o24) ∧ (o24 ≤ tl) := hw
                  obtain ⟨w0r23, w1r23⟩ := hw
                  exact J81 r22 o24 o25 o26 o27 o12 o13 o14 _ _ ls  (by first | omega | assumption | trivial) (by first | omega | assumption | trivial) hP hD hS (lv_sub hl [2, 0, 3] rfl)
              · have qcp36 : ¬ ix < 2 := fun h9 => cp36 ((nI_ltI (a := ix) (b := 2) (by omega) (by omega)).mpr h9)
                refine lv_aload_n hx hb dX2_readsTypes_39 rfl (lv_at hl 1 rfl) ?_
                refine lv_iconst (v := 2) hx hb dX2_readsTypes_40 (by decide) ?_
                have hFc := z_freeW hD hS hA
                refine va_calli (va_runV (As := [.int 2]) (rest := []) ⟨hx, hb, hml, hown, hts⟩ (kX2_refuse l dC dI bh br rh th tb sh cI cJ cB cc nA mA aA fcA fA mcA mmA wA tcA g1A g2A nuA erA reA liA lcA rm ry rf tl b2 s2 so2 v2 tpA sw c2 q2 e2 ⟨by omega, by omega, by omega, hfcA, hmcA, herA, hliA, hlcA⟩ (2 : Int32) H.size) (cwV 1 hts zgX2_readsTypes_X2_refuse_67 rfl rfl rfl (by decide +kernel) ⟨(show 0 + 1 ≤ 2 by omega), (show 8 + (2 + 11) + 0 ≤ 42 by omega)⟩) (zVk (ci := 1) (q0 := 17) (q := (RX2, TX2, 5)) hK hP hD hE rfl rfl rfl) rfl rfl hl.1 rfl (lv_room (Nat.le_of_ble_eq_true rfl)) dX2_readsTypes_41 ⟨(show 0 + 0 ≤ 0 by omega), (show 0 + 0 ≤ 0 by omega)⟩) hS (fun q _ h => hFc q h) hFc (fun r29 o30 t H1 locs ht hvm hw hB hz1 hk1 hS => ?_)
                obtain ⟨hP, hK9, hD⟩ := hB
                rw [ht] at hP
                have hD := hD.weaken (fun k q _ h => hFc q.1 h)
                generalize H1 = H at hP hS
                have hP : va_P (dC, dI) vwCl (kW bh br rh th tb sh cI cJ cB (nI cc) nA mA aA (fun j => nI (fcA j)) fA (fun j => nI (mcA j)) mmA wA tcA g1A g2A nuA (fun j => nI (erA j)) reA (fun j => nI (liA j)) (fun j => nI (lcA j)) rm ry o30 (nI tl) (nI b2) s2 so2 v2 tpA sw c2 q2 e2) H := hP
                have hD : va_D A (kW bh br rh th tb sh cI cJ cB (nI cc) nA mA aA (fun j => nI (fcA j)) fA (fun j => nI (mcA j)) mmA wA tcA g1A g2A nuA (fun j => nI (erA j)) reA (fun j => nI (liA j)) (fun j => nI (lcA j)) rm ry o30 (nI tl) (nI b2) s2 so2 v2 tpA sw c2 q2 e2) := hD
                have hw : (r29 = 0 ∨ r29 = 1) ∧ (r29 = 0) := hw
                obtain ⟨w0r29, w1r29⟩ := hw
                subst w1r29
                have hP9 : va_P (dC, dI) vwCl (kW bh br rh th tb sh cI cJ cB (nI cc) nA mA aA (fun j => nI (fcA j)) fA (fun j => nI (mcA j)) mmA wA tcA g1A g2A nuA (fun j => nI (erA j)) reA (fun j => nI (liA j)) (fun j => nI (lcA j)) rm ry o30 (nI tl) (nI b2) s2 so2 v2 tpA sw c2 q2 e2) H := hP
                have hD9 : va_D A (kW bh br rh th tb sh cI cJ cB (nI cc) nA mA aA (fun j => nI (fcA j)) fA (fun j => nI (mcA j)) mmA wA tcA g1A g2A nuA (fun j => nI (erA j)) reA (fun j => nI (liA j)) (fun j => nI (lcA j)) rm ry o30 (nI tl) (nI b2) s2 so2 v2 tpA sw c2 q2 e2) := hD
                exact W.zret (v := (0 : Int32)) hx hb hr rfl (fun t ht hW => ⟨⟨(0 : Int32), (b2, s2, so2, v2, o30, c2, q2, e2), rfl, ⟨(Or.inl rfl), (by first | omega | assumption | trivial)⟩, by rw [ht]; exact hP9, va_K.moved hW.alike hK, hD9⟩, hS.F ht⟩) hS.2.2 dX2_readsTypes_44
            · refine lv_aload_n hx hb dX2_readsTypes_28 rfl (lv_at hl 1 rfl) ?_
              refine lv_iconst (v := 1) hx hb dX2_readsTypes_29 (by decide) ?_
              have hFc := z_freeW hD hS hA
              refine va_calli (va_runV (As := [.int 1]) (rest := []) ⟨hx, hb, hml, hown, hts⟩ (kX2_refuse l dC dI bh br rh th tb sh cI cJ cB cc nA mA aA fcA fA mcA mmA wA tcA g1A g2A nuA erA reA liA lcA rm ry rf tl b2 s2 so2 v2 tpA sw c2 q2 e2 ⟨by omega, by omega, by omega, hfcA, hmcA, herA, hliA, hlcA⟩ (1 : Int32) H.size) (cwV 1 hts zgX2_readsTypes_X2_refuse_67 rfl rfl rfl (by decide +kernel) ⟨(show 0 + 1 ≤ 2 by omega), (show 8 + (2 + 11) + 0 ≤ 42 by omega)⟩) (zVk (ci := 1) (q0 := 17) (q := (RX2, TX2, 5)) hK hP hD hE rfl rfl rfl) rfl rfl hl.1 rfl (lv_room (Nat.le_of_ble_eq_true rfl)) dX2_readsTypes_30 ⟨(show 0 + 0 ≤ 0 by omega), (show 0 + 0 ≤ 0 by omega)⟩) hS (fun q _ h => hFc q h) hFc (fun r31 o32 t H1 locs ht hvm hw hB hz1 hk1 hS => ?_)
              obtain ⟨hP, hK9, hD⟩ := hB
              rw [ht] at hP
              have hD := hD.weaken (fun k q _ h => hFc q.1 h)
              generalize H1 = H at hP hS
              have hP : va_P (dC, dI) vwCl (kW bh br rh th tb sh cI cJ cB (nI cc) nA mA aA (fun j => nI (fcA j)) fA (fun j => nI (mcA j)) mmA wA tcA g1A g2A nuA (fun j => nI (erA j)) reA (fun j => nI (liA j)) (fun j => nI (lcA j)) rm ry o32 (nI tl) (nI b2) s2 so2 v2 tpA sw c2 q2 e2) H := hP
              have hD : va_D A (kW bh br rh th tb sh cI cJ cB (nI cc) nA mA aA (fun j => nI (fcA j)) fA (fun j => nI (mcA j)) mmA wA tcA g1A g2A nuA (fun j => nI (erA j)) reA (fun j => nI (liA j)) (fun j => nI (lcA j)) rm ry o32 (nI tl) (nI b2) s2 so2 v2 tpA sw c2 q2 e2) := hD
              have hw : (r31 = 0 ∨ r31 = 1) ∧ (r31 = 0) := hw
              obtain ⟨w0r31, w1r31⟩ := hw
              subst w1r31
              have hP9 : va_P (dC, dI) vwCl (kW bh br rh th tb sh cI cJ cB (nI cc) nA mA aA (fun j => nI (fcA j)) fA (fun j => nI (mcA j)) mmA wA tcA g1A g2A nuA (fun j => nI (erA j)) reA (fun j => nI (liA j)) (fun j => nI (lcA j)) rm ry o32 (nI tl) (nI b2) s2 so2 v2 tpA sw c2 q2 e2) H := hP
              have hD9 : va_D A (kW bh br rh th tb sh cI cJ cB (nI cc) nA mA aA (fun j => nI (fcA j)) fA (fun j => nI (mcA j)) mmA wA tcA g1A g2A nuA (fun j => nI (erA j)) reA (fun j => nI (liA j)) (fun j => nI (lcA j)) rm ry o32 (nI tl) (nI b2) s2 so2 v2 tpA sw c2 q2 e2) := hD
              exact W.zret (v := (0 : Int32)) hx hb hr rfl (fun t ht hW => ⟨⟨(0 : Int32), (b2, s2, so2, v2, o32, c2, q2, e2), rfl, ⟨(Or.inl rfl), (by first | omega | assumption | trivial)⟩, by rw [ht]; exact hP9, va_K.moved hW.alike hK, hD9⟩, hS.F ht⟩) hS.2.2 dX2_readsTypes_33
  refine lv_iconst (v := 1) hx hb dX2_readsTypes_0 (by decide) ?_
  refine lv_istore_n (lv' := [(1, .int 1), (0, .ref rh)]) hx hb dX2_readsTypes_1 rfl hl (by decide) rfl (fun ls hl => ?_)
  refine lv_iconst (v := 0) hx hb dX2_readsTypes_2 (by decide) ?_
  refine lv_istore_n (lv' := [(2, .int 0), (1, .int 1), (0, .ref rh)]) hx hb dX2_readsTypes_3 rfl hl (by decide) rfl (fun ls hl => ?_)
  exact J4 _ (1 : Int32) 0 ta ts so tv st sf sq _ _ ls (Nat.lt_succ_self _) (by first | omega | assumption | trivial) (by first | omega | assumption | trivial) hP hD hS (lv_sub hl [2, 1, 0] rfl)
theorem dX2_readsField_0 : decode cX2_readsField 0 = .ok (.aload_n 0, 1) := by decide +kernel
theorem dX2_readsField_1 : decode cX2_readsField 1 = .ok (.getfield 14, 3) := by decide +kernel
theorem dX2_readsField_4 : decode cX2_readsField 4 = .ok (.bipush 61, 2) := by decide +kernel
theorem dX2_readsField_6 : decode cX2_readsField 6 = .ok (.invokevirtual 47, 3) := by decide +kernel
theorem dX2_readsField_9 : decode cX2_readsField 9 = .ok (.istore_n 2, 1) := by decide +kernel
theorem dX2_readsField_10 : decode cX2_readsField 10 = .ok (.iload_n 2, 1) := by decide +kernel
theorem dX2_readsField_11 : decode cX2_readsField 11 = .ok (.ifCond .ne 21, 3) := by decide +kernel
theorem dX2_readsField_14 : decode cX2_readsField 14 = .ok (.aload_n 0, 1) := by decide +kernel
theorem dX2_readsField_15 : decode cX2_readsField 15 = .ok (.getfield 14, 3) := by decide +kernel
theorem dX2_readsField_18 : decode cX2_readsField 18 = .ok (.bipush 59, 2) := by decide +kernel
theorem dX2_readsField_20 : decode cX2_readsField 20 = .ok (.invokevirtual 47, 3) := by decide +kernel
theorem dX2_readsField_23 : decode cX2_readsField 23 = .ok (.ifCond .ne 9, 3) := by decide +kernel
theorem dX2_readsField_26 : decode cX2_readsField 26 = .ok (.aload_n 0, 1) := by decide +kernel
theorem dX2_readsField_27 : decode cX2_readsField 27 = .ok (.iconst 1, 1) := by decide +kernel
theorem dX2_readsField_28 : decode cX2_readsField 28 = .ok (.invokevirtual 67, 3) := by decide +kernel
theorem dX2_readsField_31 : decode cX2_readsField 31 = .ok (.ireturn, 1) := by decide +kernel
theorem dX2_readsField_32 : decode cX2_readsField 32 = .ok (.aload_n 0, 1) := by decide +kernel
theorem dX2_readsField_33 : decode cX2_readsField 33 = .ok (.getfield 114, 3) := by decide +kernel
theorem dX2_readsField_36 : decode cX2_readsField 36 = .ok (.iconst 2, 1) := by decide +kernel
theorem dX2_readsField_37 : decode cX2_readsField 37 = .ok (.if_icmp .eq 12, 3) := by decide +kernel
theorem dX2_readsField_40 : decode cX2_readsField 40 = .ok (.aload_n 0, 1) := by decide +kernel
theorem dX2_readsField_41 : decode cX2_readsField 41 = .ok (.getfield 130, 3) := by decide +kernel
theorem dX2_readsField_44 : decode cX2_readsField 44 = .ok (.bipush 8, 2) := by decide +kernel
theorem dX2_readsField_46 : decode cX2_readsField 46 = .ok (.if_icmp .ne 9, 3) := by decide +kernel
theorem dX2_readsField_49 : decode cX2_readsField 49 = .ok (.aload_n 0, 1) := by decide +kernel
theorem dX2_readsField_50 : decode cX2_readsField 50 = .ok (.iconst 1, 1) := by decide +kernel
theorem dX2_readsField_51 : decode cX2_readsField 51 = .ok (.invokevirtual 67, 3) := by decide +kernel
theorem dX2_readsField_54 : decode cX2_readsField 54 = .ok (.ireturn, 1) := by decide +kernel
theorem dX2_readsField_55 : decode cX2_readsField 55 = .ok (.aload_n 1, 1) := by decide +kernel
theorem dX2_readsField_56 : decode cX2_readsField 56 = .ok (.aload_n 1, 1) := by decide +kernel
theorem dX2_readsField_57 : decode cX2_readsField 57 = .ok (.getfield 71, 3) := by decide +kernel
theorem dX2_readsField_60 : decode cX2_readsField 60 = .ok (.iconst 1, 1) := by decide +kernel
theorem dX2_readsField_61 : decode cX2_readsField 61 = .ok (.isub, 1) := by decide +kernel
theorem dX2_readsField_62 : decode cX2_readsField 62 = .ok (.aload_n 0, 1) := by decide +kernel
theorem dX2_readsField_63 : decode cX2_readsField 63 = .ok (.getfield 23, 3) := by decide +kernel
theorem dX2_readsField_66 : decode cX2_readsField 66 = .ok (.getfield 133, 3) := by decide +kernel
theorem dX2_readsField_69 : decode cX2_readsField 69 = .ok (.invokevirtual 136, 3) := by decide +kernel
theorem dX2_readsField_72 : decode cX2_readsField 72 = .ok (.iconst (-1), 1) := by decide +kernel
theorem dX2_readsField_73 : decode cX2_readsField 73 = .ok (.if_icmp .eq 9, 3) := by decide +kernel
theorem dX2_readsField_76 : decode cX2_readsField 76 = .ok (.aload_n 0, 1) := by decide +kernel
theorem dX2_readsField_77 : decode cX2_readsField 77 = .ok (.iconst 3, 1) := by decide +kernel
theorem dX2_readsField_78 : decode cX2_readsField 78 = .ok (.invokevirtual 67, 3) := by decide +kernel
theorem dX2_readsField_81 : decode cX2_readsField 81 = .ok (.ireturn, 1) := by decide +kernel
theorem dX2_readsField_82 : decode cX2_readsField 82 = .ok (.iconst (-1), 1) := by decide +kernel
theorem dX2_readsField_83 : decode cX2_readsField 83 = .ok (.istore_n 3, 1) := by decide +kernel
theorem dX2_readsField_84 : decode cX2_readsField 84 = .ok (.iload_n 2, 1) := by decide +kernel
theorem dX2_readsField_85 : decode cX2_readsField 85 = .ok (.ifCond .eq 85, 3) := by decide +kernel
theorem dX2_readsField_88 : decode cX2_readsField 88 = .ok (.aload_n 0, 1) := by decide +kernel
theorem dX2_readsField_89 : decode cX2_readsField 89 = .ok (.getfield 114, 3) := by decide +kernel
theorem dX2_readsField_92 : decode cX2_readsField 92 = .ok (.ifCond .ne 21, 3) := by decide +kernel
theorem dX2_readsField_95 : decode cX2_readsField 95 = .ok (.aload_n 0, 1) := by decide +kernel
theorem dX2_readsField_96 : decode cX2_readsField 96 = .ok (.getfield 130, 3) := by decide +kernel
theorem dX2_readsField_99 : decode cX2_readsField 99 = .ok (.iconst 1, 1) := by decide +kernel
theorem dX2_readsField_100 : decode cX2_readsField 100 = .ok (.iand, 1) := by decide +kernel
theorem dX2_readsField_101 : decode cX2_readsField 101 = .ok (.ifCond .eq 12, 3) := by decide +kernel
theorem dX2_readsField_104 : decode cX2_readsField 104 = .ok (.aload_n 0, 1) := by decide +kernel
theorem dX2_readsField_105 : decode cX2_readsField 105 = .ok (.getfield 130, 3) := by decide +kernel
theorem dX2_readsField_108 : decode cX2_readsField 108 = .ok (.iconst 4, 1) := by decide +kernel
theorem dX2_readsField_109 : decode cX2_readsField 109 = .ok (.iand, 1) := by decide +kernel
theorem dX2_readsField_110 : decode cX2_readsField 110 = .ok (.ifCond .ne 9, 3) := by decide +kernel
theorem dX2_readsField_113 : decode cX2_readsField 113 = .ok (.aload_n 0, 1) := by decide +kernel
theorem dX2_readsField_114 : decode cX2_readsField 114 = .ok (.iconst 4, 1) := by decide +kernel
theorem dX2_readsField_115 : decode cX2_readsField 115 = .ok (.invokevirtual 67, 3) := by decide +kernel
theorem dX2_readsField_118 : decode cX2_readsField 118 = .ok (.ireturn, 1) := by decide +kernel
theorem dX2_readsField_119 : decode cX2_readsField 119 = .ok (.aload_n 0, 1) := by decide +kernel
theorem dX2_readsField_120 : decode cX2_readsField 120 = .ok (.dup, 1) := by decide +kernel
theorem dX2_readsField_121 : decode cX2_readsField 121 = .ok (.getfield 130, 3) := by decide +kernel
theorem dX2_readsField_124 : decode cX2_readsField 124 = .ok (.bipush 32, 2) := by decide +kernel
theorem dX2_readsField_126 : decode cX2_readsField 126 = .ok (.ior, 1) := by decide +kernel
theorem dX2_readsField_127 : decode cX2_readsField 127 = .ok (.putfield 130, 3) := by decide +kernel
theorem dX2_readsField_130 : decode cX2_readsField 130 = .ok (.aload_n 0, 1) := by decide +kernel
theorem dX2_readsField_131 : decode cX2_readsField 131 = .ok (.getfield 14, 3) := by decide +kernel
theorem dX2_readsField_134 : decode cX2_readsField 134 = .ok (.invokevirtual 54, 3) := by decide +kernel
theorem dX2_readsField_137 : decode cX2_readsField 137 = .ok (.aload_n 0, 1) := by decide +kernel
theorem dX2_readsField_138 : decode cX2_readsField 138 = .ok (.getfield 14, 3) := by decide +kernel
theorem dX2_readsField_141 : decode cX2_readsField 141 = .ok (.getfield 40, 3) := by decide +kernel
theorem dX2_readsField_144 : decode cX2_readsField 144 = .ok (.iconst 3, 1) := by decide +kernel
theorem dX2_readsField_145 : decode cX2_readsField 145 = .ok (.if_icmp .eq 9, 3) := by decide +kernel
theorem dX2_readsField_148 : decode cX2_readsField 148 = .ok (.aload_n 0, 1) := by decide +kernel
theorem dX2_readsField_149 : decode cX2_readsField 149 = .ok (.iconst 1, 1) := by decide +kernel
theorem dX2_readsField_150 : decode cX2_readsField 150 = .ok (.invokevirtual 67, 3) := by decide +kernel
theorem dX2_readsField_153 : decode cX2_readsField 153 = .ok (.ireturn, 1) := by decide +kernel
theorem dX2_readsField_154 : decode cX2_readsField 154 = .ok (.aload_n 0, 1) := by decide +kernel
theorem dX2_readsField_155 : decode cX2_readsField 155 = .ok (.getfield 14, 3) := by decide +kernel
theorem dX2_readsField_158 : decode cX2_readsField 158 = .ok (.getfield 74, 3) := by decide +kernel
theorem dX2_readsField_161 : decode cX2_readsField 161 = .ok (.l2i, 1) := by decide +kernel
theorem dX2_readsField_162 : decode cX2_readsField 162 = .ok (.istore_n 3, 1) := by decide +kernel
theorem dX2_readsField_163 : decode cX2_readsField 163 = .ok (.aload_n 0, 1) := by decide +kernel
theorem dX2_readsField_164 : decode cX2_readsField 164 = .ok (.getfield 14, 3) := by decide +kernel
theorem dX2_readsField_167 : decode cX2_readsField 167 = .ok (.invokevirtual 54, 3) := by decide +kernel
theorem dX2_readsField_170 : decode cX2_readsField 170 = .ok (.aload_n 1, 1) := by decide +kernel
theorem dX2_readsField_171 : decode cX2_readsField 171 = .ok (.aload_n 0, 1) := by decide +kernel
theorem dX2_readsField_172 : decode cX2_readsField 172 = .ok (.getfield 130, 3) := by decide +kernel
theorem dX2_readsField_175 : decode cX2_readsField 175 = .ok (.aload_n 0, 1) := by decide +kernel
theorem dX2_readsField_176 : decode cX2_readsField 176 = .ok (.getfield 23, 3) := by decide +kernel
theorem dX2_readsField_179 : decode cX2_readsField 179 = .ok (.iload_n 3, 1) := by decide +kernel
theorem dX2_readsField_180 : decode cX2_readsField 180 = .ok (.invokevirtual 140, 3) := by decide +kernel
theorem dX2_readsField_183 : decode cX2_readsField 183 = .ok (.aload_n 0, 1) := by decide +kernel
theorem dX2_readsField_184 : decode cX2_readsField 184 = .ok (.bipush 59, 2) := by decide +kernel
theorem dX2_readsField_186 : decode cX2_readsField 186 = .ok (.invokevirtual 92, 3) := by decide +kernel
theorem dX2_readsField_189 : decode cX2_readsField 189 = .ok (.ireturn, 1) := by decide +kernel
def zwX2_readsField : List Cond := .code yX2_readsField cX2_readsField 4 (some .boolean) :: ([.fieldLink RX2 130 "LinkModels$Reader" "marks" "I", .fieldLink RX2 23 "LinkModels$Reader" "signature" "LLinkModels$Signature;", .fieldLink RX2 71 "LinkModels$Build" "classCount" "I", .fieldLink RX2 133 "LinkModels$Signature" "word" "J", .fieldLink RX2 114 "LinkModels$Reader" "type" "I", .fieldLink RX2 14 "LinkModels$Reader" "tokens" "LLinkModels$Tokens;", .fieldLink RX2 40 "LinkModels$Tokens" "sort" "I", .fieldLink RX2 74 "LinkModels$Tokens" "value" "J", .methodLink RX2 140 yX0_addMember, .instanceMethod yX0_addMember, .selects RX0 yX0_addMember yX0_addMember, .initialized RX0, .code yX0_addMember cX0_addMember 6 none, .fieldLink RX0 61 "LinkModels$Build" "classCount" "I", .fieldLink RX0 27 "LinkModels$Build" "memberCounts" "[I", .fieldLink RX0 30 "LinkModels$Build" "memberMarks" "[I", .fieldLink RX0 33 "LinkModels$Build" "words" "[J", .fieldLink RX0 65 "LinkModels$Signature" "word" "J", .fieldLink RX0 37 "LinkModels$Build" "typeCounts" "[I", .fieldLink RX0 71 "LinkModels$Signature" "typeCount" "I", .fieldLink RX0 40 "LinkModels$Build" "firsts" "[I", .fieldLink RX0 74 "LinkModels$Signature" "first" "I", .fieldLink RX0 43 "LinkModels$Build" "seconds" "[I", .fieldLink RX0 77 "LinkModels$Signature" "second" "I", .fieldLink RX0 46 "LinkModels$Build" "numbers" "[I", .methodLink RX2 92 yX2_passes, .instanceMethod yX2_passes, .selects RX2 yX2_passes yX2_passes, .initialized RX2, .code yX2_passes cX2_passes 2 (some .boolean), .methodLink RX2 47 yX4_isSign, .instanceMethod yX4_isSign, .selects RX4 yX4_isSign yX4_isSign, .initialized RX4, .code yX4_isSign cX4_isSign 2 (some .boolean), .fieldLink RX4 40 "LinkModels$Tokens" "sort" "I", .fieldLink RX4 32 "LinkModels$Tokens" "value" "J", .methodLink RX2 54 yX4_step, .instanceMethod yX4_step, .selects RX4 yX4_step yX4_step, .code yX4_step cX4_step 2 none, .fieldLink RX4 23 "LinkModels$Tokens" "behind" "I", .fieldLink RX4 29 "LinkModels$Tokens" "start" "I", .fieldLink RX4 19 "LinkModels$Tokens" "length" "I", .fieldLink RX4 7 "LinkModels$Tokens" "tape" "[B", .methodLink RX4 51 yX4_longest, .instanceMethod yX4_longest, .selects RX4 yX4_longest yX4_longest, .code yX4_longest cX4_longest 1 (some .int), .methodLink RX4 43 yX4_take, .instanceMethod yX4_take, .selects RX4 yX4_take yX4_take, .code yX4_take cX4_take 2 none, .constantLong RX4 55 (10), .methodLink RX4 36 yX4_sortOf, .static yX4_sortOf, .code yX4_sortOf cX4_sortOf 1 (some .int), .methodLink RX4 47 yX4_joins, .instanceMethod yX4_joins, .selects RX4 yX4_joins yX4_joins, .code yX4_joins cX4_joins 2 (some .boolean), .methodLink RX2 67 yX2_refuse, .instanceMethod yX2_refuse, .selects RX2 yX2_refuse yX2_refuse, .code yX2_refuse cX2_refuse 2 (some .boolean), .fieldLink RX2 27 "LinkModels$Reader" "fault" "I", .methodLink RX2 136 yX0_fieldIn, .instanceMethod yX0_fieldIn, .selects RX0 yX0_fieldIn yX0_fieldIn, .code yX0_fieldIn cX0_fieldIn 5 (some .int), .methodLink RX0 82 yX0_has, .instanceMethod yX0_has, .selects RX0 yX0_has yX0_has, .code yX0_has cX0_has 3 (some .boolean)] ++ wsX20 ++ wsX00 ++ wsX30 ++ wsX40)
theorem zgX2_readsField_X0_addMember_140 : GoodIn zwX2_readsField (wsV RX2 140 RX0 yX0_addMember zwX0_addMember) := goodIn_app (goodIn_r _ [9, 10, 11, 12] rfl (by decide +kernel)) (goodIn_app (goodIn_app (goodIn_r _ [13, 14, 15, 16, 17, 18, 19, 20, 21, 22, 23, 24, 25] rfl (by decide +kernel)) (fun w hw => ⟨(List.mem_cons_of_mem _ (List.mem_append_left _ (List.mem_append_left _ (List.mem_append_right _ hw)))), good_of_word (List.all_eq_true.mp zgX0 w hw)⟩)) (fun w hw => ⟨(List.mem_cons_of_mem _ (List.mem_append_left _ (List.mem_append_right _ hw))), good_of_word (List.all_eq_true.mp zgX3 w hw)⟩))
theorem zgX2_readsField_X2_passes_92 : GoodIn zwX2_readsField (wsV RX2 92 RX2 yX2_passes zwX2_passes) := goodIn_app (goodIn_r _ [26, 27, 28, 29] rfl (by decide +kernel)) (goodIn_app (goodIn_app (goodIn_r _ [30, 6, 31, 32, 33, 34, 35, 36, 37, 38, 39, 40, 41, 42, 43, 44, 45, 46, 47, 48, 49, 50, 51, 52, 53, 54, 55, 56, 57, 58, 59, 60, 61, 62, 63, 64, 29, 65, 66] rfl (by decide +kernel)) (fun w hw => ⟨(List.mem_cons_of_mem _ (List.mem_append_left _ (List.mem_append_left _ (List.mem_append_left _ (List.mem_append_right _ hw))))), good_of_word (List.all_eq_true.mp zgX2 w hw)⟩)) (fun w hw => ⟨(List.mem_cons_of_mem _ (List.mem_append_right _ hw)), good_of_word (List.all_eq_true.mp zgX4 w hw)⟩))
theorem zgX2_readsField_X0_fieldIn_136 : GoodIn zwX2_readsField (wsV RX2 136 RX0 yX0_fieldIn zwX0_fieldIn) := goodIn_app (goodIn_r _ [67, 68, 69, 12] rfl (by decide +kernel)) (goodIn_app (goodIn_r _ [70, 15, 17, 71, 72, 73, 12, 74, 16] rfl (by decide +kernel)) (fun w hw => ⟨(List.mem_cons_of_mem _ (List.mem_append_left _ (List.mem_append_left _ (List.mem_append_right _ hw)))), good_of_word (List.all_eq_true.mp zgX0 w hw)⟩))
theorem zgX2_readsField_X2_refuse_67 : GoodIn zwX2_readsField (wsV RX2 67 RX2 yX2_refuse zwX2_refuse) := goodIn_app (goodIn_r _ [62, 63, 64, 29] rfl (by decide +kernel)) (goodIn_app (goodIn_r _ [65, 66] rfl (by decide +kernel)) (fun w hw => ⟨(List.mem_cons_of_mem _ (List.mem_append_left _ (List.mem_append_left _ (List.mem_append_left _ (List.mem_append_right _ hw))))), good_of_word (List.all_eq_true.mp zgX2 w hw)⟩))
theorem zgX2_readsField_X4_step_54 : GoodIn zwX2_readsField (wsV RX2 54 RX4 yX4_step zwX4_step) := goodIn_app (goodIn_r _ [38, 39, 40, 34] rfl (by decide +kernel)) (goodIn_app (goodIn_r _ [41, 42, 43, 36, 44, 45, 37, 46, 47, 48, 34, 49, 50, 51, 52, 53, 54, 55, 56, 57, 58, 59, 60, 61] rfl (by decide +kernel)) (fun w hw => ⟨(List.mem_cons_of_mem _ (List.mem_append_right _ hw)), good_of_word (List.all_eq_true.mp zgX4 w hw)⟩))
theorem zgX2_readsField_X4_isSign_47 : GoodIn zwX2_readsField (wsV RX2 47 RX4 yX4_isSign zwX4_isSign) := goodIn_app (goodIn_r _ [31, 32, 33, 34] rfl (by decide +kernel)) (goodIn_app (goodIn_r _ [35, 36, 37] rfl (by decide +kernel)) (fun w hw => ⟨(List.mem_cons_of_mem _ (List.mem_append_right _ hw)), good_of_word (List.all_eq_true.mp zgX4 w hw)⟩))
set_option maxHeartbeats 4000000 in
set_option maxRecDepth 100000 in
theorem kX2_readsField (l : Launch) (dC : Nat → ClassId) (dI : Nat → Nat → Nat) (bh : Nat) (br : Nat → Nat) (rh : Nat) (th : Nat) (tb : Nat) (sh : Nat) (cI : ClassId) (cJ : ClassId) (cB : ClassId) (cc : Nat) (nA : Nat → Int32) (mA : Nat → Int32) (aA : Nat → Int32) (fcA : Nat → Nat) (fA : Nat → Int32) (mcA : Nat → Nat) (mmA : Nat → Int32) (wA : Nat → Int64) (tcA : Nat → Int32) (g1A : Nat → Int32) (g2A : Nat → Int32) (nuA : Nat → Int32) (erA : Nat → Nat) (reA : Nat → Int32) (liA : Nat → Nat) (lcA : Nat → Nat) (rm : Int32) (ry : Int32) (rf : Int32) (tl : Nat) (ta : Nat) (ts : Int32) (so : Int32) (tv : Int64) (tpA : Nat → Int32) (sw : Int64) (st : Int32) (sf : Int32) (sq : Int32) (hI : kWI cc fcA mcA erA liA lcA tl ta) (hp0 : 1 ≤ cc) (hp1 : mcA (cc - 1) ≤ 11) (sz : Nat) : Met l yX2_readsField zwX2_readsField ({ frames := 3, cells := 0, slots := 0, locals := 63 }) (zPk dC dI [.ref rh, .ref bh] sz (kW bh br rh th tb sh cI cJ cB (nI cc) nA mA aA (fun j => nI (fcA j)) fA (fun j => nI (mcA j)) mmA wA tcA g1A g2A nuA (fun j => nI (erA j)) reA (fun j => nI (liA j)) (fun j => nI (lcA j)) rm ry rf (nI tl) (nI ta) ts so tv tpA sw st sf sq) [(cI, .int), (cJ, .long), (cB, .byte)]) (va_Qi (fun (r : Int32) (u : Nat × Int32 × Int32 × Int64 × Int32 × Int32 × (Nat → Nat) × (Nat → Int32) × (Nat → Int64) × (Nat → Int32) × (Nat → Int32) × (Nat → Int32) × (Nat → Int32)) => (r = 0 ∨ r = 1) ∧ ((u.1) ≤ tl) ∧ (∀ j, (u.2.2.2.2.2.2.1) j ≤ 12)) (fun u t => zB dC dI (va_A (kW bh br rh th tb sh cI cJ cB (nI cc) nA mA aA (fun j => nI (fcA j)) fA (fun j => nI (mcA j)) mmA wA tcA g1A g2A nuA (fun j => nI (erA j)) reA (fun j => nI (liA j)) (fun j => nI (lcA j)) rm ry rf (nI tl) (nI ta) ts so tv tpA sw st sf sq) sz) (kW bh br rh th tb sh cI cJ cB (nI cc) nA mA aA (fun j => nI (fcA j)) fA (fun j => nI ((u.2.2.2.2.2.2.1) j)) (u.2.2.2.2.2.2.2.1) (u.2.2.2.2.2.2.2.2.1) (u.2.2.2.2.2.2.2.2.2.1) (u.2.2.2.2.2.2.2.2.2.2.1) (u.2.2.2.2.2.2.2.2.2.2.2.1) (u.2.2.2.2.2.2.2.2.2.2.2.2) (fun j => nI (erA j)) reA (fun j => nI (liA j)) (fun j => nI (lcA j)) (u.2.2.2.2.2.1) ry (u.2.2.2.2.1) (nI tl) (nI (u.1)) (u.2.1) (u.2.2.1) (u.2.2.2.1) tpA sw st sf sq) [(cI, .int), (cJ, .long), (cB, .byte)] t) (va_A (kW bh br rh th tb sh cI cJ cB (nI cc) nA mA aA (fun j => nI (fcA j)) fA (fun j => nI (mcA j)) mmA wA tcA g1A g2A nuA (fun j => nI (erA j)) reA (fun j => nI (liA j)) (fun j => nI (lcA j)) rm ry rf (nI tl) (nI ta) ts so tv tpA sw st sf sq) sz)) 0 0 (va_A (kW bh br rh th tb sh cI cJ cB (nI cc) nA mA aA (fun j => nI (fcA j)) fA (fun j => nI (mcA j)) mmA wA tcA g1A g2A nuA (fun j => nI (erA j)) reA (fun j => nI (liA j)) (fun j => nI (lcA j)) rm ry rf (nI tl) (nI ta) ts so tv tpA sw st sf sq) sz) := by
  refine Met.ofW (cc := cX2_readsField) (maxL := 4) (ret := (some .boolean)) (by decide) rfl ?_
  intro p e s m args below meth c s₁ B hml hv
  obtain ⟨rfl, hsz, hP, hK, hD0, hE⟩ := hv
  have hx := B.exec
  have hb := B.bytes
  have hr := B.returns
  have hts := atoms_spec (ws := zwX2_readsField) B.pre
  have hown : s.vm.findClass RX2 = some m.cls := findClass_of_methodNamed B.named
  have hiX2 : ∀ w ∈ wsX20, w ∈ zwX2_readsField := (fun w hw => (List.mem_cons_of_mem _ (List.mem_append_left _ (List.mem_append_left _ (List.mem_append_left _ (List.mem_append_right _ hw))))))
  have hiX0 : ∀ w ∈ wsX00, w ∈ zwX2_readsField := (fun w hw => (List.mem_cons_of_mem _ (List.mem_append_left _ (List.mem_append_left _ (List.mem_append_right _ hw)))))
  have hiX3 : ∀ w ∈ wsX30, w ∈ zwX2_readsField := (fun w hw => (List.mem_cons_of_mem _ (List.mem_append_left _ (List.mem_append_right _ hw))))
  have hiX4 : ∀ w ∈ wsX40, w ∈ zwX2_readsField := (fun w hw => (List.mem_cons_of_mem _ (List.mem_append_right _ hw)))
  obtain ⟨hcc, htl, hta, hfcA, hmcA, herA, hliA, hlcA⟩ := hI
  subst hsz
  have hD := hD0.self (sz := s.heap.size)
  generalize hAe : va_A (kW bh br rh th tb sh cI cJ cB (nI cc) nA mA aA (fun j => nI (fcA j)) fA (fun j => nI (mcA j)) mmA wA tcA g1A g2A nuA (fun j => nI (erA j)) reA (fun j => nI (liA j)) (fun j => nI (lcA j)) rm ry rf (nI tl) (nI ta) ts so tv tpA sw st sf sq) s.heap.size = A at hD ⊢
  have hA : ∀ q : Nat, s.heap.size ≤ q → A q := fun q h => by rw [← hAe]; exact Or.inr h
  have hS : va_S A s.heap s.heap [] := va_S.rf
  have hl := lv_entry ([.ref rh, .ref bh]) (n := 4) (Nat.le_of_ble_eq_true rfl)
  rw [lg_entry_eq]
  generalize (lg_sl ([.ref rh, .ref bh]) ++ List.replicate (4 - (lg_sl ([.ref rh, .ref bh])).length) Slot.unset).toArray = ls at hl ⊢
  have hl : lv_has ls 4 [(0, .ref rh), (1, .ref bh)] := hl
  have J170 : ∀ (nx : Int32) (b2 : Nat) (s2 : Int32) (so2 : Int32) (v2 : Int64) (m2 : Int32) (H : Heap) (locs : List Loc) (ls : Array Slot), (b2 ≤ tl) → va_P (dC, dI) vwCl (kW bh br rh th tb sh cI cJ cB (nI cc) nA mA aA (fun j => nI (fcA j)) fA (fun j => nI (mcA j)) mmA wA tcA g1A g2A nuA (fun j => nI (erA j)) reA (fun j => nI (liA j)) (fun j => nI (lcA j)) m2 ry rf (nI tl) (nI b2) s2 so2 v2 tpA sw st sf sq) H → va_D A (kW bh br rh th tb sh cI cJ cB (nI cc) nA mA aA (fun j => nI (fcA j)) fA (fun j => nI (mcA j)) mmA wA tcA g1A g2A nuA (fun j => nI (erA j)) reA (fun j => nI (liA j)) (fun j => nI (lcA j)) m2 ry rf (nI tl) (nI b2) s2 so2 v2 tpA sw st sf sq) → va_S A s.heap H locs → lv_has ls 4 [(0, .ref rh), (1, .ref bh), (3, .int nx)] → W p l e (headSpec zwX2_readsField { frames := 3, cells := 0, slots := 0, locals := 63 }).room s m (([.ref rh, .ref bh] : List Value).toArray) below meth c H locs 0 0 (MQ below (va_Qi (fun (r : Int32) (u : Nat × Int32 × Int32 × Int64 × Int32 × Int32 × (Nat → Nat) × (Nat → Int32) × (Nat → Int64) × (Nat → Int32) × (Nat → Int32) × (Nat → Int32) × (Nat → Int32)) => (r = 0 ∨ r = 1) ∧ ((u.1) ≤ tl) ∧ (∀ j, (u.2.2.2.2.2.2.1) j ≤ 12)) (fun u t => zB dC dI (A) (kW bh br rh th tb sh cI cJ cB (nI cc) nA mA aA (fun j => nI (fcA j)) fA (fun j => nI ((u.2.2.2.2.2.2.1) j)) (u.2.2.2.2.2.2.2.1) (u.2.2.2.2.2.2.2.2.1) (u.2.2.2.2.2.2.2.2.2.1) (u.2.2.2.2.2.2.2.2.2.2.1) (u.2.2.2.2.2.2.2.2.2.2.2.1) (u.2.2.2.2.2.2.2.2.2.2.2.2) (fun j => nI (erA j)) reA (fun j => nI (liA j)) (fun j => nI (lcA j)) (u.2.2.2.2.2.1) ry (u.2.2.2.2.1) (nI tl) (nI (u.1)) (u.2.1) (u.2.2.1) (u.2.2.2.1) tpA sw st sf sq) [(cI, .int), (cJ, .long), (cB, .byte)] t) (A)) (([.ref rh, .ref bh] : List Value).toArray) s 0 0 A) (F0 m 170 ls []) := by
    intro nx b2 s2 so2 v2 m2 H locs ls i170_0 hP hD hS hl
    refine lv_aload_n hx hb dX2_readsField_170 rfl (lv_at hl 1 rfl) ?_
    refine lv_aload_n hx hb dX2_readsField_171 rfl (lv_at hl 0 rfl) ?_
    refine va_get (D := (dC, dI)) (ci := 1) (v := .int m2) (C := RX2) (T := TX2) (N := 5) hx hb hts hiX2 hown hK hP 17 rfl rfl 2 (by decide) (hts (.fieldLink RX2 130 "LinkModels$Reader" "marks" "I") (by decide +kernel)) (fun _ h9 => h9) rfl dX2_readsField_172 ?_
    refine lv_aload_n hx hb dX2_readsField_175 rfl (lv_at hl 0 rfl) ?_
    refine va_get (D := (dC, dI)) (ci := 1) (v := .ref sh) (C := RX2) (T := TX2) (N := 5) hx hb hts hiX2 hown hK hP 17 rfl rfl 1 (by decide) (hts (.fieldLink RX2 23 "LinkModels$Reader" "signature" "LLinkModels$Signature;") (by decide +kernel)) (fun _ h9 => h9) rfl dX2_readsField_176 ?_
    refine lv_iload_n hx hb dX2_readsField_179 rfl (lv_at hl 2 rfl) ?_
    have hFc := z_freeW hD hS hA
    refine va_callv (va_runV (As := [.int m2, .ref sh, .int nx]) (rest := []) ⟨hx, hb, hml, hown, hts⟩ (kX0_addMember l dC dI bh br rh th tb sh cI cJ cB cc nA mA aA fcA fA mcA mmA wA tcA g1A g2A nuA erA reA liA lcA m2 ry rf tl b2 s2 so2 v2 tpA sw st sf sq ⟨by omega, by omega, by omega, hfcA, hmcA, herA, hliA, hlcA⟩ m2 nx (by first | omega | assumption | trivial) (by first | omega | assumption | trivial) H.size) (cwV 3 hts zgX2_readsField_X0_addMember_140 rfl rfl rfl (by decide +kernel) ⟨(show 0 + 1 ≤ 3 by omega), (show 8 + (6 + 11) + 0 ≤ 63 by omega)⟩) (zVk (ci := 0) (q0 := 0) (q := (RX0, TX0, 17)) hK hP hD hE rfl rfl rfl) rfl rfl hl.1 rfl (lv_room (Nat.le_of_ble_eq_true rfl)) dX2_readsField_180 ⟨(show 0 + 0 ≤ 0 by omega), (show 0 + 0 ≤ 0 by omega)⟩) hS (fun q _ h => hFc q h) hFc (fun u9 t H1 locs ht hvm hw hB hz1 hk1 hS => ?_)
    obtain ⟨o2, o3, o4, o5, o6, o7, o8⟩ := u9
    obtain ⟨hP, hK9, hD⟩ := hB
    rw [ht] at hP
    have hD := hD.weaken (fun k q _ h => hFc q.1 h)
    generalize H1 = H at hP hS
    have hP : va_P (dC, dI) vwCl (kW bh br rh th tb sh cI cJ cB (nI cc) nA mA aA (fun j => nI (fcA j)) fA (fun j => nI (o2 j)) o3 o4 o5 o6 o7 o8 (fun j => nI (erA j)) reA (fun j => nI (liA j)) (fun j => nI (lcA j)) m2 ry rf (nI tl) (nI b2) s2 so2 v2 tpA sw st sf sq) H := hP
    have hD : va_D A (kW bh br rh th tb sh cI cJ cB (nI cc) nA mA aA (fun j => nI (fcA j)) fA (fun j => nI (o2 j)) o3 o4 o5 o6 o7 o8 (fun j => nI (erA j)) reA (fun j => nI (liA j)) (fun j => nI (lcA j)) m2 ry rf (nI tl) (nI b2) s2 so2 v2 tpA sw st sf sq) := hD
    have hw : (∀ j, o2 j ≤ 12) := hw
    have hbo2 := hw
    refine lv_aload_n hx hb dX2_readsField_183 rfl (lv_at hl 0 rfl) ?_
    refine lv_bipush (v := 59) hx hb dX2_readsField_184 (by decide) ?_
    have hFc := z_freeW hD hS hA
    refine va_calli (va_runV (As := [.int 59]) (rest := []) ⟨hx, hb, hml, hown, hts⟩ (kX2_passes l dC dI bh br rh th tb sh cI cJ cB cc nA mA aA fcA fA o2 o3 o4 o5 o6 o7 o8 erA reA liA lcA m2 ry rf tl b2 s2 so2 v2 tpA sw st sf sq ⟨by omega, by omega, by omega, hfcA, hbo2, herA, hliA, hlcA⟩ (59 : Int32) H.size) (cwV 1 hts zgX2_readsField_X2_passes_92 rfl rfl rfl (by decide +kernel) ⟨(show 2 + 1 ≤ 3 by omega), (show 8 + (2 + 11) + 42 ≤ 63 by omega)⟩) (zVk (ci := 1) (q0 := 17) (q := (RX2, TX2, 5)) hK hP hD hE rfl rfl rfl) rfl rfl hl.1 rfl (lv_room (Nat.le_of_ble_eq_true rfl)) dX2_readsField_186 ⟨(show 0 + 0 ≤ 0 by omega), (show 0 + 0 ≤ 0 by omega)⟩) hS (fun q _ h => hFc q h) hFc (fun r10 u16 t H1 locs ht hvm hw hB hz1 hk1 hS => ?_)
    obtain ⟨o11, o12, o13, o14, o15⟩ := u16
    obtain ⟨hP, hK9, hD⟩ := hB
    rw [ht] at hP
    have hD := hD.weaken (fun k q _ h => hFc q.1 h)
    generalize H1 = H at hP hS
    have hP : va_P (dC, dI) vwCl (kW bh br rh th tb sh cI cJ cB (nI cc) nA mA aA (fun j => nI (fcA j)) fA (fun j => nI (o2 j)) o3 o4 o5 o6 o7 o8 (fun j => nI (erA j)) reA (fun j => nI (liA j)) (fun j => nI (lcA j)) m2 ry o15 (nI tl) (nI o11) o12 o13 o14 tpA sw st sf sq) H := hP
    have hD : va_D A (kW bh br rh th tb sh cI cJ cB (nI cc) nA mA aA (fun j => nI (fcA j)) fA (fun j => nI (o2 j)) o3 o4 o5 o6 o7 o8 (fun j => nI (erA j)) reA (fun j => nI (liA j)) (fun j => nI (lcA j)) m2 ry o15 (nI tl) (nI o11) o12 o13 o14 tpA sw st sf sq) := hD
    have hw : (r10 = 0 ∨ r10 = 1) ∧ (o11 ≤ tl) := hw
    obtain ⟨w0r10, w1r10⟩ := hw
    have hP9 : va_P (dC, dI) vwCl (kW bh br rh th tb sh cI cJ cB (nI cc) nA mA aA (fun j => nI (fcA j)) fA (fun j => nI (o2 j)) o3 o4 o5 o6 o7 o8 (fun j => nI (erA j)) reA (fun j => nI (liA j)) (fun j => nI (lcA j)) m2 ry o15 (nI tl) (nI o11) o12 o13 o14 tpA sw st sf sq) H := hP
    have hD9 : va_D A (kW bh br rh th tb sh cI cJ cB (nI cc) nA mA aA (fun j => nI (fcA j)) fA (fun j => nI (o2 j)) o3 o4 o5 o6 o7 o8 (fun j => nI (erA j)) reA (fun j => nI (liA j)) (fun j => nI (lcA j)) m2 ry o15 (nI tl) (nI o11) o12 o13 o14 tpA sw st sf sq) := hD
    exact W.zret (v := r10) hx hb hr (z_nb w0r10) (fun t ht hW => ⟨⟨r10, (o11, o12, o13, o14, o15, m2, o2, o3, o4, o5, o6, o7, o8), rfl, ⟨w0r10, (by first | omega | assumption | trivial), hbo2⟩, by rw [ht]; exact hP9, va_K.moved hW.alike hK, hD9⟩, hS.F ht⟩) hS.2.2 dX2_readsField_189
  have J55 : ∀ (ct : Int32) (H : Heap) (locs : List Loc) (ls : Array Slot), va_P (dC, dI) vwCl (kW bh br rh th tb sh cI cJ cB (nI cc) nA mA aA (fun j => nI (fcA j)) fA (fun j => nI (mcA j)) mmA wA tcA g1A g2A nuA (fun j => nI (erA j)) reA (fun j => nI (liA j)) (fun j => nI (lcA j)) rm ry rf (nI tl) (nI ta) ts so tv tpA sw st sf sq) H → va_D A (kW bh br rh th tb sh cI cJ cB (nI cc) nA mA aA (fun j => nI (fcA j)) fA (fun j => nI (mcA j)) mmA wA tcA g1A g2A nuA (fun j => nI (erA j)) reA (fun j => nI (liA j)) (fun j => nI (lcA j)) rm ry rf (nI tl) (nI ta) ts so tv tpA sw st sf sq) → va_S A s.heap H locs → lv_has ls 4 [(0, .ref rh), (1, .ref bh), (2, .int ct)] → W p l e (headSpec zwX2_readsField { frames := 3, cells := 0, slots := 0, locals := 63 }).room s m (([.ref rh, .ref bh] : List Value).toArray) below meth c H locs 0 0 (MQ below (va_Qi (fun (r : Int32) (u : Nat × Int32 × Int32 × Int64 × Int32 × Int32 × (Nat → Nat) × (Nat → Int32) × (Nat → Int64) × (Nat → Int32) × (Nat → Int32) × (Nat → Int32) × (Nat → Int32)) => (r = 0 ∨ r = 1) ∧ ((u.1) ≤ tl) ∧ (∀ j, (u.2.2.2.2.2.2.1) j ≤ 12)) (fun u t => zB dC dI (A) (kW bh br rh th tb sh cI cJ cB (nI cc) nA mA aA (fun j => nI (fcA j)) fA (fun j => nI ((u.2.2.2.2.2.2.1) j)) (u.2.2.2.2.2.2.2.1) (u.2.2.2.2.2.2.2.2.1) (u.2.2.2.2.2.2.2.2.2.1) (u.2.2.2.2.2.2.2.2.2.2.1) (u.2.2.2.2.2.2.2.2.2.2.2.1) (u.2.2.2.2.2.2.2.2.2.2.2.2) (fun j => nI (erA j)) reA (fun j => nI (liA j)) (fun j => nI (lcA j)) (u.2.2.2.2.2.1) ry (u.2.2.2.2.1) (nI tl) (nI (u.1)) (u.2.1) (u.2.2.1) (u.2.2.2.1) tpA sw st sf sq) [(cI, .int), (cJ, .long), (cB, .byte)] t) (A)) (([.ref rh, .ref bh] : List Value).toArray) s 0 0 A) (F0 m 55 ls []) := by
    intro ct H locs ls  hP hD hS hl
    refine lv_aload_n hx hb dX2_readsField_55 rfl (lv_at hl 1 rfl) ?_
    refine lv_aload_n hx hb dX2_readsField_56 rfl (lv_at hl 1 rfl) ?_
    refine va_get (D := (dC, dI)) (ci := 0) (v := .int (nI cc)) (C := RX0) (T := TX0) (N := 17) hx hb hts hiX0 hown hK hP 0 rfl rfl 0 (by decide) (hts (.fieldLink RX2 71 "LinkModels$Build" "classCount" "I") (by decide +kernel)) (fun _ h9 => h9) rfl dX2_readsField_57 ?_
    refine lv_iconst (v := 1) hx hb dX2_readsField_60 (by decide) ?_
    refine lv_isub hx hb dX2_readsField_61 ?_
    refine lv_topi (fun x17 ex17 => ?_)
    obtain rfl : x17 = nI (cc - 1) := by rw [ex17]; exact pk_sub (show 1 ≤ cc by omega)
    refine lv_aload_n hx hb dX2_readsField_62 rfl (lv_at hl 0 rfl) ?_
    refine va_get (D := (dC, dI)) (ci := 1) (v := .ref sh) (C := RX2) (T := TX2) (N := 5) hx hb hts hiX2 hown hK hP 17 rfl rfl 1 (by decide) (hts (.fieldLink RX2 23 "LinkModels$Reader" "signature" "LLinkModels$Signature;") (by decide +kernel)) (fun _ h9 => h9) rfl dX2_readsField_63 ?_
    refine va_get (D := (dC, dI)) (ci := 2) (v := .long sw) (C := RX3) (T := TX3) (N := 4) hx hb hts hiX3 hown hK hP 20 rfl rfl 0 (by decide) (hts (.fieldLink RX2 133 "LinkModels$Signature" "word" "J") (by decide +kernel)) (fun _ h9 => h9) rfl dX2_readsField_66 ?_
    refine vp_callSi (W.runV (As := [.int (nI (cc - 1)), .long sw]) (rest := []) ⟨hx, hb, hml, hown, hts⟩ (kX0_fieldIn l dC dI bh br cI cJ cB cc nA mA aA fcA fA mcA mmA wA tcA g1A g2A nuA erA reA liA lcA ⟨by omega, hfcA, hmcA, herA, hliA, hlcA⟩ (cc - 1) sw (by first | omega | assumption | trivial)) (cwV 2 hts zgX2_readsField_X0_fieldIn_136 rfl rfl rfl (by decide +kernel) ⟨(show 1 + 1 ≤ 3 by omega), (show 8 + (5 + 11) + 22 ≤ 63 by omega)⟩) (zVq (ci := 0) (q0 := 0) (q := (RX0, TX0, 17)) hK (hP.sub (ws' := (bW bh br cI cJ cB (nI cc) nA mA aA (fun j => nI (fcA j)) fA (fun j => nI (mcA j)) mmA wA tcA g1A g2A nuA (fun j => nI (erA j)) reA (fun j => nI (liA j)) (fun j => nI (lcA j)))) [0, 1, 2, 3, 4, 5, 6, 7, 8, 9, 10, 11, 12, 13, 14, 15, 16] rfl) hE rfl rfl rfl) rfl rfl hl.1 rfl (lv_room (Nat.le_of_ble_eq_true rfl)) dX2_readsField_69 ⟨(show 0 + 0 ≤ 0 by omega), (show 0 + 0 ≤ 0 by omega)⟩) (fun r18 hw => ?_)
    have hw : (zM r18 (fun k => k < 208)) := hw
    have w0r18 := hw
    refine lv_iconst (v := (-1)) hx hb dX2_readsField_72 (by decide) ?_
    refine lv_icmp_eq (tgt := 82) hx hb dX2_readsField_73 (by decide) (fun cp73 => ?_) (fun cp73 => ?_)
    · obtain rfl : r18 = -1 := cp73
      refine lv_iconst (v := (-1)) hx hb dX2_readsField_82 (by decide) ?_
      refine lv_istore_n (lv' := [(3, .int (-1)), (0, .ref rh), (1, .ref bh), (2, .int ct)]) hx hb dX2_readsField_83 rfl hl (by decide) rfl (fun ls hl => ?_)
      refine lv_iload_n hx hb dX2_readsField_84 rfl (lv_at hl 3 rfl) ?_
      refine lv_if_eq (tgt := 170) hx hb dX2_readsField_85 (by decide) (fun cp85 => ?_) (fun cp85 => ?_)
      · exact J170 (-1 : Int32) ta ts so tv rm _ _ ls  (by first | omega | assumption | trivial) hP hD hS (lv_sub hl [1, 2, 0] rfl)
      · refine lv_aload_n hx hb dX2_readsField_88 rfl (lv_at hl 1 rfl) ?_
        refine va_get (D := (dC, dI)) (ci := 1) (v := .int ry) (C := RX2) (T := TX2) (N := 5) hx hb hts hiX2 hown hK hP 17 rfl rfl 3 (by decide) (hts (.fieldLink RX2 114 "LinkModels$Reader" "type" "I") (by decide +kernel)) (fun _ h9 => h9) rfl dX2_readsField_89 ?_
        refine lv_if_ne (tgt := 113) hx hb dX2_readsField_92 (by decide) (fun cp92 => ?_) (fun cp92 => ?_)
        · refine lv_aload_n hx hb dX2_readsField_113 rfl (lv_at hl 1 rfl) ?_
          refine lv_iconst (v := 4) hx hb dX2_readsField_114 (by decide) ?_
          have hFc := z_freeW hD hS hA
          refine va_calli (va_runV (As := [.int 4]) (rest := []) ⟨hx, hb, hml, hown, hts⟩ (kX2_refuse l dC dI bh br rh th tb sh cI cJ cB cc nA mA aA fcA fA mcA mmA wA tcA g1A g2A nuA erA reA liA lcA rm ry rf tl ta ts so tv tpA sw st sf sq ⟨by omega, by omega, by omega, hfcA, hmcA, herA, hliA, hlcA⟩ (4 : Int32) H.size) (cwV 1 hts zgX2_readsField_X2_refuse_67 rfl rfl rfl (by decide +kernel) ⟨(show 0 + 1 ≤ 3 by omega), (show 8 + (2 + 11) + 0 ≤ 63 by omega)⟩) (zVk (ci := 1) (q0 := 17) (q := (RX2, TX2, 5)) hK hP hD hE rfl rfl rfl) rfl rfl hl.1 rfl (lv_room (Nat.le_of_ble_eq_true rfl)) dX2_readsField_115 ⟨(show 0 + 0 ≤ 0 by omega), (show 0 + 0 ≤ 0 by omega)⟩) hS (fun q _ h => hFc q h) hFc (fun r19 o20 t H1 locs ht hvm hw hB hz1 hk1 hS => ?_)
          obtain ⟨hP, hK9, hD⟩ := hB
          rw [ht] at hP
          have hD := hD.weaken (fun k q _ h => hFc q.1 h)
          generalize H1 = H at hP hS
          have hP : va_P (dC, dI) vwCl (kW bh br rh th tb sh cI cJ cB (nI cc) nA mA aA (fun j => nI (fcA j)) fA (fun j => nI (mcA j)) mmA wA tcA g1A g2A nuA (fun j => nI (erA j)) reA (fun j => nI (liA j)) (fun j => nI (lcA j)) rm ry o20 (nI tl) (nI ta) ts so tv tpA sw st sf sq) H := hP
          have hD : va_D A (kW bh br rh th tb sh cI cJ cB (nI cc) nA mA aA (fun j => nI (fcA j)) fA (fun j => nI (mcA j)) mmA wA tcA g1A g2A nuA (fun j => nI (erA j)) reA (fun j => nI (liA j)) (fun j => nI (lcA j)) rm ry o20 (nI tl) (nI ta) ts so tv tpA sw st sf sq) := hD
          have hw : (r19 = 0 ∨ r19 = 1) ∧ (r19 = 0) := hw
          obtain ⟨w0r19, w1r19⟩ := hw
          subst w1r19
          have hP9 : va_P (dC, dI) vwCl (kW bh br rh th tb sh cI cJ cB (nI cc) nA mA aA (fun j => nI (fcA j)) fA (fun j => nI (mcA j)) mmA wA tcA g1A g2A nuA (fun j => nI (erA j)) reA (fun j => nI (liA j)) (fun j => nI (lcA j)) rm ry o20 (nI tl) (nI ta) ts so tv tpA sw st sf sq) H := hP
          have hD9 : va_D A (kW bh br rh th tb sh cI cJ cB (nI cc) nA mA aA (fun j => nI (fcA j)) fA (fun j => nI (mcA j)) mmA wA tcA g1A g2A nuA (fun j => nI (erA j)) reA (fun j => nI (liA j)) (fun j => nI (lcA j)) rm ry o20 (nI tl) (nI ta) ts so tv tpA sw st sf sq) := hD
          exact W.zret (v := (0 : Int32)) hx hb hr rfl (fun t ht hW => ⟨⟨(0 : Int32), (ta, ts, so, tv, o20, rm, mcA, mmA, wA, tcA, g1A, g2A, nuA), rfl, ⟨(Or.inl rfl), (by first | omega | assumption | trivial), hmcA⟩, by rw [ht]; exact hP9, va_K.moved hW.alike hK, hD9⟩, hS.F ht⟩) hS.2.2 dX2_readsField_118
        · refine lv_aload_n hx hb dX2_readsField_95 rfl (lv_at hl 1 rfl) ?_
          refine va_get (D := (dC, dI)) (ci := 1) (v := .int rm) (C := RX2) (T := TX2) (N := 5) hx hb hts hiX2 hown hK hP 17 rfl rfl 2 (by decide) (hts (.fieldLink RX2 130 "LinkModels$Reader" "marks" "I") (by decide +kernel)) (fun _ h9 => h9) rfl dX2_readsField_96 ?_
          refine lv_iconst (v := 1) hx hb dX2_readsField_99 (by decide) ?_
          refine lv_iand hx hb dX2_readsField_100 ?_
          refine lv_topi (fun x21 ex21 => ?_)
          refine lv_if_eq (tgt := 113) hx hb dX2_readsField_101 (by decide) (fun cp101 => ?_) (fun cp101 => ?_)
          · refine lv_aload_n hx hb dX2_readsField_113 rfl (lv_at hl 1 rfl) ?_
            refine lv_iconst (v := 4) hx hb dX2_readsField_114 (by decide) ?_
            have hFc := z_freeW hD hS hA
            refine va_calli (va_runV (As := [.int 4]) (rest := []) ⟨hx, hb, hml, hown, hts⟩ (kX2_refuse l dC dI bh br rh th tb sh cI cJ cB cc nA mA aA fcA fA mcA mmA wA tcA g1A g2A nuA erA reA liA lcA rm ry rf tl ta ts so tv tpA sw st sf sq ⟨by omega, by omega, by omega, hfcA, hmcA, herA, hliA, hlcA⟩ (4 : Int32) H.size) (cwV 1 hts zgX2_readsField_X2_refuse_67 rfl rfl rfl (by decide +kernel) ⟨(show 0 + 1 ≤ 3 by omega), (show 8 + (2 + 11) + 0 ≤ 63 by omega)⟩) (zVk (ci := 1) (q0 := 17) (q := (RX2, TX2, 5)) hK hP hD hE rfl rfl rfl) rfl rfl hl.1 rfl (lv_room (Nat.le_of_ble_eq_true rfl)) dX2_readsField_115 ⟨(show 0 + 0 ≤ 0 by omega), (show 0 + 0 ≤ 0 by omega)⟩) hS (fun q _ h => hFc q h) hFc (fun r22 o23 t H1 locs ht hvm hw hB hz1 hk1 hS => ?_)
            obtain ⟨hP, hK9, hD⟩ := hB
            rw [ht] at hP
            have hD := hD.weaken (fun k q _ h => hFc q.1 h)
            generalize H1 = H at hP hS
            have hP : va_P (dC, dI) vwCl (kW bh br rh th tb sh cI cJ cB (nI cc) nA mA aA (fun j => nI (fcA j)) fA (fun j => nI (mcA j)) mmA wA tcA g1A g2A nuA (fun j => nI (erA j)) reA (fun j => nI (liA j)) (fun j => nI (lcA j)) rm ry o23 (nI tl) (nI ta) ts so tv tpA sw st sf sq) H := hP
            have hD : va_D A (kW bh br rh th tb sh cI cJ cB (nI cc) nA mA aA (fun j => nI (fcA j)) fA (fun j => nI (mcA j)) mmA wA tcA g1A g2A nuA (fun j => nI (erA j)) reA (fun j => nI (liA j)) (fun j => nI (lcA j)) rm ry o23 (nI tl) (nI ta) ts so tv tpA sw st sf sq) := hD
            have hw : (r22 = 0 ∨ r22 = 1) ∧ (r22 = 0) := hw
            obtain ⟨w0r22, w1r22⟩ := hw
            subst w1r22
            have hP9 : va_P (dC, dI) vwCl (kW bh br rh th tb sh cI cJ cB (nI cc) nA mA aA (fun j => nI (fcA j)) fA (fun j => nI (mcA j)) mmA wA tcA g1A g2A nuA (fun j => nI (erA j)) reA (fun j => nI (liA j)) (fun j => nI (lcA j)) rm ry o23 (nI tl) (nI ta) ts so tv tpA sw st sf sq) H := hP
            have hD9 : va_D A (kW bh br rh th tb sh cI cJ cB (nI cc) nA mA aA (fun j => nI (fcA j)) fA (fun j => nI (mcA j)) mmA wA tcA g1A g2A nuA (fun j => nI (erA j)) reA (fun j => nI (liA j)) (fun j => nI (lcA j)) rm ry o23 (nI tl) (nI ta) ts so tv tpA sw st sf sq) := hD
            exact W.zret (v := (0 : Int32)) hx hb hr rfl (fun t ht hW => ⟨⟨(0 : Int32), (ta, ts, so, tv, o23, rm, mcA, mmA, wA, tcA, g1A, g2A, nuA), rfl, ⟨(Or.inl rfl), (by first | omega | assumption | trivial), hmcA⟩, by rw [ht]; exact hP9, va_K.moved hW.alike hK, hD9⟩, hS.F ht⟩) hS.2.2 dX2_readsField_118
          · refine lv_aload_n hx hb dX2_readsField_104 rfl (lv_at hl 1 rfl) ?_
            refine va_get (D := (dC, dI)) (ci := 1) (v := .int rm) (C := RX2) (T := TX2) (N := 5) hx hb hts hiX2 hown hK hP 17 rfl rfl 2 (by decide) (hts (.fieldLink RX2 130 "LinkModels$Reader" "marks" "I") (by decide +kernel)) (fun _ h9 => h9) rfl dX2_readsField_105 ?_
            refine lv_iconst (v := 4) hx hb dX2_readsField_108 (by decide) ?_
            refine lv_iand hx hb dX2_readsField_109 ?_
            refine lv_topi (fun x24 ex24 => ?_)
            refine lv_if_ne (tgt := 119) hx hb dX2_readsField_110 (by decide) (fun cp110 => ?_) (fun cp110 => ?_)
            · refine lv_aload_n hx hb dX2_readsField_119 rfl (lv_at hl 1 rfl) ?_
              refine lv_dup hx hb dX2_readsField_120 rfl ?_
              refine va_get (D := (dC, dI)) (ci := 1) (v := .int rm) (C := RX2) (T := TX2) (N := 5) hx hb hts hiX2 hown hK hP 17 rfl rfl 2 (by decide) (hts (.fieldLink RX2 130 "LinkModels$Reader" "marks" "I") (by decide +kernel)) (fun _ h9 => h9) rfl dX2_readsField_121 ?_
              refine lv_bipush (v := 32) hx hb dX2_readsField_124 (by decide) ?_
              refine lv_ior hx hb dX2_readsField_126 ?_
              refine lv_topi (fun x25 ex25 => ?_)
              refine va_put (D := (dC, dI)) (ci := 1) (v := .int x25) (ty := (.int)) (C := RX2) (T := TX2) (N := 5) hx hb hts hiX2 tyX2 tyX2_ok nmX2 hown hK hP hD hS 17 rfl rfl 2 (by decide) (hts (.fieldLink RX2 130 "LinkModels$Reader" "marks" "I") (by decide +kernel)) (fun _ h9 => h9) rfl (by decide +kernel) rfl rfl (Nat.le_of_ble_eq_true rfl) dX2_readsField_127 (fun H locs hP hD hS => ?_)
              have hP : va_P (dC, dI) vwCl (kW bh br rh th tb sh cI cJ cB (nI cc) nA mA aA (fun j => nI (fcA j)) fA (fun j => nI (mcA j)) mmA wA tcA g1A g2A nuA (fun j => nI (erA j)) reA (fun j => nI (liA j)) (fun j => nI (lcA j)) x25 ry rf (nI tl) (nI ta) ts so tv tpA sw st sf sq) H := hP
              have hD : va_D A (kW bh br rh th tb sh cI cJ cB (nI cc) nA mA aA (fun j => nI (fcA j)) fA (fun j => nI (mcA j)) mmA wA tcA g1A g2A nuA (fun j => nI (erA j)) reA (fun j => nI (liA j)) (fun j => nI (lcA j)) x25 ry rf (nI tl) (nI ta) ts so tv tpA sw st sf sq) := hD
              refine lv_aload_n hx hb dX2_readsField_130 rfl (lv_at hl 1 rfl) ?_
              refine va_get (D := (dC, dI)) (ci := 1) (v := .ref th) (C := RX2) (T := TX2) (N := 5) hx hb hts hiX2 hown hK hP 17 rfl rfl 0 (by decide) (hts (.fieldLink RX2 14 "LinkModels$Reader" "tokens" "LLinkModels$Tokens;") (by decide +kernel)) (fun _ h9 => h9) rfl dX2_readsField_131 ?_
              have hFc := z_freeW hD hS hA
              refine va_callv (va_runV (As := []) (rest := []) ⟨hx, hb, hml, hown, hts⟩ (kX4_step l dC dI bh br rh th tb sh cI cJ cB cc nA mA aA fcA fA mcA mmA wA tcA g1A g2A nuA erA reA liA lcA x25 ry rf tl ta ts so tv tpA sw st sf sq ⟨by omega, by omega, by omega, hfcA, hmcA, herA, hliA, hlcA⟩ H.size) (cwV 0 hts zgX2_readsField_X4_step_54 rfl rfl rfl (by decide +kernel) ⟨(show 1 + 1 ≤ 3 by omega), (show 8 + (2 + 11) + 21 ≤ 63 by omega)⟩) (zVk (ci := 3) (q0 := 18) (q := (RX4, TX4, 6)) hK hP hD hE rfl rfl rfl) rfl rfl hl.1 rfl (lv_room (Nat.le_of_ble_eq_true rfl)) dX2_readsField_134 ⟨(show 0 + 0 ≤ 0 by omega), (show 0 + 0 ≤ 0 by omega)⟩) hS (fun q _ h => hFc q h) hFc (fun u31 t H1 locs ht hvm hw hB hz1 hk1 hS => ?_)
              obtain ⟨o27, o28, o29, o30⟩ := u31
              obtain ⟨hP, hK9, hD⟩ := hB
              rw [ht] at hP
              have hD := hD.weaken (fun k q _ h => hFc q.1 h)
              generalize H1 = H at hP hS
              have hP : va_P (dC, dI) vwCl (kW bh br rh th tb sh cI cJ cB (nI cc) nA mA aA (fun j => nI (fcA j)) fA (fun j => nI (mcA j)) mmA wA tcA g1A g2A nuA (fun j => nI (erA j)) reA (fun j => nI (liA j)) (fun j => nI (lcA j)) x25 ry rf (nI tl) (nI o27) o28 o29 o30 tpA sw st sf sq) H := hP
              have hD : va_D A (kW bh br rh th tb sh cI cJ cB (nI cc) nA mA aA (fun j => nI (fcA j)) fA (fun j => nI (mcA j)) mmA wA tcA g1A g2A nuA (fun j => nI (erA j)) reA (fun j => nI (liA j)) (fun j => nI (lcA j)) x25 ry rf (nI tl) (nI o27) o28 o29 o30 tpA sw st sf sq) := hD
              have hw : (ta ≤ o27) ∧ (o27 ≤ tl) := hw
              obtain ⟨w0r26, w1r26⟩ := hw
              refine lv_aload_n hx hb dX2_readsField_137 rfl (lv_at hl 1 rfl) ?_
              refine va_get (D := (dC, dI)) (ci := 1) (v := .ref th) (C := RX2) (T := TX2) (N := 5) hx hb hts hiX2 hown hK hP 17 rfl rfl 0 (by decide) (hts (.fieldLink RX2 14 "LinkModels$Reader" "tokens" "LLinkModels$Tokens;") (by decide +kernel)) (fun _ h9 => h9) rfl dX2_readsField_138 ?_
              refine va_get (D := (dC, dI)) (ci := 3) (v := .int o29) (C := RX4) (T := TX4) (N := 6) hx hb hts hiX4 hown hK hP 18 rfl rfl 4 (by decide) (hts (.fieldLink RX2 40 "LinkModels$Tokens" "sort" "I") (by decide +kernel)) (fun _ h9 => h9) rfl dX2_readsField_141 ?_
              refine lv_iconst (v := 3) hx hb dX2_readsField_144 (by decide) ?_
              refine lv_icmp_eq (tgt := 154) hx hb dX2_readsField_145 (by decide) (fun cp145 => ?_) (fun cp145 => ?_)
              · refine lv_aload_n hx hb dX2_readsField_154 rfl (lv_at hl 1 rfl) ?_
                refine va_get (D := (dC, dI)) (ci := 1) (v := .ref th) (C := RX2) (T := TX2) (N := 5) hx hb hts hiX2 hown hK hP 17 rfl rfl 0 (by decide) (hts (.fieldLink RX2 14 "LinkModels$Reader" "tokens" "LLinkModels$Tokens;") (by decide +kernel)) (fun _ h9 => h9) rfl dX2_readsField_155 ?_
                refine va_get (D := (dC, dI)) (ci := 3) (v := .long o30) (C := RX4) (T := TX4) (N := 6) hx hb hts hiX4 hown hK hP 18 rfl rfl 5 (by decide) (hts (.fieldLink RX2 74 "LinkModels$Tokens" "value" "J") (by decide +kernel)) (fun _ h9 => h9) rfl dX2_readsField_158 ?_
                refine lv_l2i hx hb dX2_readsField_161 rfl ?_
                refine lv_topi (fun x32 ex32 => ?_)
                refine lv_istore_n (lv' := [(3, .int x32), (0, .ref rh), (1, .ref bh), (2, .int ct)]) hx hb dX2_readsField_162 rfl hl (by decide) rfl (fun ls hl => ?_)
                refine lv_aload_n hx hb dX2_readsField_163 rfl (lv_at hl 1 rfl) ?_
                refine va_get (D := (dC, dI)) (ci := 1) (v := .ref th) (C := RX2) (T := TX2) (N := 5) hx hb hts hiX2 hown hK hP 17 rfl rfl 0 (by decide) (hts (.fieldLink RX2 14 "LinkModels$Reader" "tokens" "LLinkModels$Tokens;") (by decide +kernel)) (fun _ h9 => h9) rfl dX2_readsField_164 ?_
                have hFc := z_freeW hD hS hA
                refine va_callv (va_runV (As := []) (rest := []) ⟨hx, hb, hml, hown, hts⟩ (kX4_step l dC dI bh br rh th tb sh cI cJ cB cc nA mA aA fcA fA mcA mmA wA tcA g1A g2A nuA erA reA liA lcA x25 ry rf tl o27 o28 o29 o30 tpA sw st sf sq ⟨by omega, by omega, by omega, hfcA, hmcA, herA, hliA, hlcA⟩ H.size) (cwV 0 hts zgX2_readsField_X4_step_54 rfl rfl rfl (by decide +kernel) ⟨(show 1 + 1 ≤ 3 by omega), (show 8 + (2 + 11) + 21 ≤ 63 by omega)⟩) (zVk (ci := 3) (q0 := 18) (q := (RX4, TX4, 6)) hK hP hD hE rfl rfl rfl) rfl rfl hl.1 rfl (lv_room (Nat.le_of_ble_eq_true rfl)) dX2_readsField_167 ⟨(show 0 + 0 ≤ 0 by omega), (show 0 + 0 ≤ 0 by omega)⟩) hS (fun q _ h => hFc q h) hFc (fun u38 t H1 locs ht hvm hw hB hz1 hk1 hS => ?_)
                obtain ⟨o34, o35, o36, o37⟩ := u38
                obtain ⟨hP, hK9, hD⟩ := hB
                rw [ht] at hP
                have hD := hD.weaken (fun k q _ h => hFc q.1 h)
                generalize H1 = H at hP hS
                have hP : va_P (dC, dI) vwCl (kW bh br rh th tb sh cI cJ cB (nI cc) nA mA aA (fun j => nI (fcA j)) fA (fun j => nI (mcA j)) mmA wA tcA g1A g2A nuA (fun j => nI (erA j)) reA (fun j => nI (liA j)) (fun j => nI (lcA j)) x25 ry rf (nI tl) (nI o34) o35 o36 o37 tpA sw st sf sq) H := hP
                have hD : va_D A (kW bh br rh th tb sh cI cJ cB (nI cc) nA mA aA (fun j => nI (fcA j)) fA (fun j => nI (mcA j)) mmA wA tcA g1A g2A nuA (fun j => nI (erA j)) reA (fun j => nI (liA j)) (fun j => nI (lcA j)) x25 ry rf (nI tl) (nI o34) o35 o36 o37 tpA sw st sf sq) := hD
                have hw : (o27 ≤ o34) ∧ (o34 ≤ tl) := hw
                obtain ⟨w0r33, w1r33⟩ := hw
                exact J170 x32 o34 o35 o36 o37 x25 _ _ ls  (by first | omega | assumption | trivial) hP hD hS (lv_sub hl [1, 2, 0] rfl)
              · refine lv_aload_n hx hb dX2_readsField_148 rfl (lv_at hl 1 rfl) ?_
                refine lv_iconst (v := 1) hx hb dX2_readsField_149 (by decide) ?_
                have hFc := z_freeW hD hS hA
                refine va_calli (va_runV (As := [.int 1]) (rest := []) ⟨hx, hb, hml, hown, hts⟩ (kX2_refuse l dC dI bh br rh th tb sh cI cJ cB cc nA mA aA fcA fA mcA mmA wA tcA g1A g2A nuA erA reA liA lcA x25 ry rf tl o27 o28 o29 o30 tpA sw st sf sq ⟨by omega, by omega, by omega, hfcA, hmcA, herA, hliA, hlcA⟩ (1 : Int32) H.size) (cwV 1 hts zgX2_readsField_X2_refuse_67 rfl rfl rfl (by decide +kernel) ⟨(show 0 + 1 ≤ 3 by omega), (show 8 + (2 + 11) + 0 ≤ 63 by omega)⟩) (zVk (ci := 1) (q0 := 17) (q := (RX2, TX2, 5)) hK hP hD hE rfl rfl rfl) rfl rfl hl.1 rfl (lv_room (Nat.le_of_ble_eq_true rfl)) dX2_readsField_150 ⟨(show 0 + 0 ≤ 0 by omega), (show 0 + 0 ≤ 0 by omega)⟩) hS (fun q _ h => hFc q h) hFc (fun r39 o40 t H1 locs ht hvm hw hB hz1 hk1 hS => ?_)
                obtain ⟨hP, hK9, hD⟩ := hB
                rw [ht] at hP
                have hD := hD.weaken (fun k q _ h => hFc q.1 h)
                generalize H1 = H at hP hS
                have hP : va_P (dC, dI) vwCl (kW bh br rh th tb sh cI cJ cB (nI cc) nA mA aA (fun j => nI (fcA j)) fA (fun j => nI (mcA j)) mmA wA tcA g1A g2A nuA (fun j => nI (erA j)) reA (fun j => nI (liA j)) (fun j => nI (lcA j)) x25 ry o40 (nI tl) (nI o27) o28 o29 o30 tpA sw st sf sq) H := hP
                have hD : va_D A (kW bh br rh th tb sh cI cJ cB (nI cc) nA mA aA (fun j => nI (fcA j)) fA (fun j => nI (mcA j)) mmA wA tcA g1A g2A nuA (fun j => nI (erA j)) reA (fun j => nI (liA j)) (fun j => nI (lcA j)) x25 ry o40 (nI tl) (nI o27) o28 o29 o30 tpA sw st sf sq) := hD
                have hw : (r39 = 0 ∨ r39 = 1) ∧ (r39 = 0) := hw
                obtain ⟨w0r39, w1r39⟩ := hw
                subst w1r39
                have hP9 : va_P (dC, dI) vwCl (kW bh br rh th tb sh cI cJ cB (nI cc) nA mA aA (fun j => nI (fcA j)) fA (fun j => nI (mcA j)) mmA wA tcA g1A g2A nuA (fun j => nI (erA j)) reA (fun j => nI (liA j)) (fun j => nI (lcA j)) x25 ry o40 (nI tl) (nI o27) o28 o29 o30 tpA sw st sf sq) H := hP
                have hD9 : va_D A (kW bh br rh th tb sh cI cJ cB (nI cc) nA mA aA (fun j => nI (fcA j)) fA (fun j => nI (mcA j)) mmA wA tcA g1A g2A nuA (fun j => nI (erA j)) reA (fun j => nI (liA j)) (fun j => nI (lcA j)) x25 ry o40 (nI tl) (nI o27) o28 o29 o30 tpA sw st sf sq) := hD
                exact W.zret (v := (0 : Int32)) hx hb hr rfl (fun t ht hW => ⟨⟨(0 : Int32), (o27, o28, o29, o30, o40, x25, mcA, mmA, wA, tcA, g1A, g2A, nuA), rfl, ⟨(Or.inl rfl), (by first | omega | assumption | trivial), hmcA⟩, by rw [ht]; exact hP9, va_K.moved hW.alike hK, hD9⟩, hS.F ht⟩) hS.2.2 dX2_readsField_153
            · refine lv_aload_n hx hb dX2_readsField_113 rfl (lv_at hl 1 rfl) ?_
              refine lv_iconst (v := 4) hx hb dX2_readsField_114 (by decide) ?_
              have hFc := z_freeW hD hS hA
              refine va_calli (va_runV (As := [.int 4]) (rest := []) ⟨hx, hb, hml, hown, hts⟩ (kX2_refuse l dC dI bh br rh th tb sh cI cJ cB cc nA mA aA fcA fA mcA mmA wA tcA g1A g2A nuA erA reA liA lcA rm ry rf tl ta ts so tv tpA sw st sf sq ⟨by omega, by omega, by omega, hfcA, hmcA, herA, hliA, hlcA⟩ (4 : Int32) H.size) (cwV 1 hts zgX2_readsField_X2_refuse_67 rfl rfl rfl (by decide +kernel) ⟨(show 0 + 1 ≤ 3 by omega), (show 8 + (2 + 11) + 0 ≤ 63 by omega)⟩) (zVk (ci := 1) (q0 := 17) (q := (RX2, TX2, 5)) hK hP hD hE rfl rfl rfl) rfl rfl hl.1 rfl (lv_room (Nat.le_of_ble_eq_true rfl)) dX2_readsField_115 ⟨(show 0 + 0 ≤ 0 by omega), (show 0 + 0 ≤ 0 by omega)⟩) hS (fun q _ h => hFc q h) hFc (fun r41 o42 t H1 locs ht hvm hw hB hz1 hk1 hS => ?_)
              obtain ⟨hP, hK9, hD⟩ := hB
              rw [ht] at hP
              have hD := hD.weaken (fun k q _ h => hFc q.1 h)
              generalize H1 = H at hP hS
              have hP : va_P (dC, dI) vwCl (kW bh br rh th tb sh cI cJ cB (nI cc) nA mA aA (fun j => nI (fcA j)) fA (fun j => nI (mcA j)) mmA wA tcA g1A g2A nuA (fun j => nI (erA j)) reA (fun j => nI (liA j)) (fun j => nI (lcA j)) rm ry o42 (nI tl) (nI ta) ts so tv tpA sw st sf sq) H := hP
              have hD : va_D A (kW bh br rh th tb sh cI cJ cB (nI cc) nA mA aA (fun j => nI (fcA j)) fA (fun j => nI (mcA j)) mmA wA tcA g1A g2A nuA (fun j => nI (erA j)) reA (fun j => nI (liA j)) (fun j => nI (lcA j)) rm ry o42 (nI tl) (nI ta) ts so tv tpA sw st sf sq) := hD
              have hw : (r41 = 0 ∨ r41 = 1) ∧ (r41 = 0) := hw
              obtain ⟨w0r41, w1r41⟩ := hw
              subst w1r41
              have hP9 : va_P (dC, dI) vwCl (kW bh br rh th tb sh cI cJ cB (nI cc) nA mA aA (fun j => nI (fcA j)) fA (fun j => nI (mcA j)) mmA wA tcA g1A g2A nuA (fun j => nI (erA j)) reA (fun j => nI (liA j)) (fun j => nI (lcA j)) rm ry o42 (nI tl) (nI ta) ts so tv tpA sw st sf sq) H := hP
              have hD9 : va_D A (kW bh br rh th tb sh cI cJ cB (nI cc) nA mA aA (fun j => nI (fcA j)) fA (fun j => nI (mcA j)) mmA wA tcA g1A g2A nuA (fun j => nI (erA j)) reA (fun j => nI (liA j)) (fun j => nI (lcA j)) rm ry o42 (nI tl) (nI ta) ts so tv tpA sw st sf sq) := hD
              exact W.zret (v := (0 : Int32)) hx hb hr rfl (fun t ht hW => ⟨⟨(0 : Int32), (ta, ts, so, tv, o42, rm, mcA, mmA, wA, tcA, g1A, g2A, nuA), rfl, ⟨(Or.inl rfl), (by first | omega | assumption | trivial), hmcA⟩, by rw [ht]; exact hP9, va_K.moved hW.alike hK, hD9⟩, hS.F ht⟩) hS.2.2 dX2_readsField_118
    · obtain ⟨k43, hBk43, hQk43, rfl⟩ := w0r18.resolve_left cp73
      refine lv_aload_n hx hb dX2_readsField_76 rfl (lv_at hl 0 rfl) ?_
      refine lv_iconst (v := 3) hx hb dX2_readsField_77 (by decide) ?_
      have hFc := z_freeW hD hS hA
      refine va_calli (va_runV (As := [.int 3]) (rest := []) ⟨hx, hb, hml, hown, hts⟩ (kX2_refuse l dC dI bh br rh th tb sh cI cJ cB cc nA mA aA fcA fA mcA mmA wA tcA g1A g2A nuA erA reA liA lcA rm ry rf tl ta ts so tv tpA sw st sf sq ⟨by omega, by omega, by omega, hfcA, hmcA, herA, hliA, hlcA⟩ (3 : Int32) H.size) (cwV 1 hts zgX2_readsField_X2_refuse_67 rfl rfl rfl (by decide +kernel) ⟨(show 0 + 1 ≤ 3 by omega), (show 8 + (2 + 11) + 0 ≤ 63 by omega)⟩) (zVk (ci := 1) (q0 := 17) (q := (RX2, TX2, 5)) hK hP hD hE rfl rfl rfl) rfl rfl hl.1 rfl (lv_room (Nat.le_of_ble_eq_true rfl)) dX2_readsField_78 ⟨(show 0 + 0 ≤ 0 by omega), (show 0 + 0 ≤ 0 by omega)⟩) hS (fun q _ h => hFc q h) hFc (fun r44 o45 t H1 locs ht hvm hw hB hz1 hk1 hS => ?_)
      obtain ⟨hP, hK9, hD⟩ := hB
      rw [ht] at hP
      have hD := hD.weaken (fun k q _ h => hFc q.1 h)
      generalize H1 = H at hP hS
      have hP : va_P (dC, dI) vwCl (kW bh br rh th tb sh cI cJ cB (nI cc) nA mA aA (fun j => nI (fcA j)) fA (fun j => nI (mcA j)) mmA wA tcA g1A g2A nuA (fun j => nI (erA j)) reA (fun j => nI (liA j)) (fun j => nI (lcA j)) rm ry o45 (nI tl) (nI ta) ts so tv tpA sw st sf sq) H := hP
      have hD : va_D A (kW bh br rh th tb sh cI cJ cB (nI cc) nA mA aA (fun j => nI (fcA j)) fA (fun j => nI (mcA j)) mmA wA tcA g1A g2A nuA (fun j => nI (erA j)) reA (fun j => nI (liA j)) (fun j => nI (lcA j)) rm ry o45 (nI tl) (nI ta) ts so tv tpA sw st sf sq) := hD
      have hw : (r44 = 0 ∨ r44 = 1) ∧ (r44 = 0) := hw
      obtain ⟨w0r44, w1r44⟩ := hw
      subst w1r44
      have hP9 : va_P (dC, dI) vwCl (kW bh br rh th tb sh cI cJ cB (nI cc) nA mA aA (fun j => nI (fcA j)) fA (fun j => nI (mcA j)) mmA wA tcA g1A g2A nuA (fun j => nI (erA j)) reA (fun j => nI (liA j)) (fun j => nI (lcA j)) rm ry o45 (nI tl) (nI ta) ts so tv tpA sw st sf sq) H := hP
      have hD9 : va_D A (kW bh br rh th tb sh cI cJ cB (nI cc) nA mA aA (fun j => nI (fcA j)) fA (fun j => nI (mcA j)) mmA wA tcA g1A g2A nuA (fun j => nI (erA j)) reA (fun j => nI (liA j)) (fun j => nI (lcA j)) rm ry o45 (nI tl) (nI ta) ts so tv tpA sw st sf sq) := hD
      exact W.zret (v := (0 : Int32)) hx hb hr rfl (fun t ht hW => ⟨⟨(0 : Int32), (ta, ts, so, tv, o45, rm, mcA, mmA, wA, tcA, g1A, g2A, nuA), rfl, ⟨(Or.inl rfl), (by first | omega | assumption | trivial), hmcA⟩, by rw [ht]; exact hP9, va_K.moved hW.alike hK, hD9⟩, hS.F ht⟩) hS.2.2 dX2_readsField_81
  have J32 : ∀ (ct : Int32) (H : Heap) (locs : List Loc) (ls : Array Slot), va_P (dC, dI) vwCl (kW bh br rh th tb sh cI cJ cB (nI cc) nA mA aA (fun j => nI (fcA j)) fA (fun j => nI (mcA j)) mmA wA tcA g1A g2A nuA (fun j => nI (erA j)) reA (fun j => nI (liA j)) (fun j => nI (lcA j)) rm ry rf (nI tl) (nI ta) ts so tv tpA sw st sf sq) H → va_D A (kW bh br rh th tb sh cI cJ cB (nI cc) nA mA aA (fun j => nI (fcA j)) fA (fun j => nI (mcA j)) mmA wA tcA g1A g2A nuA (fun j => nI (erA j)) reA (fun j => nI (liA j)) (fun j => nI (lcA j)) rm ry rf (nI tl) (nI ta) ts so tv tpA sw st sf sq) → va_S A s.heap H locs → lv_has ls 4 [(0, .ref rh), (1, .ref bh), (2, .int ct)] → W p l e (headSpec zwX2_readsField { frames := 3, cells := 0, slots := 0, locals := 63 }).room s m (([.ref rh, .ref bh] : List Value).toArray) below meth c H locs 0 0 (MQ below (va_Qi (fun (r : Int32) (u : Nat × Int32 × Int32 × Int64 × Int32 × Int32 × (Nat → Nat) × (Nat → Int32) × (Nat → Int64) × (Nat → Int32) × (Nat → Int32) × (Nat → Int32) × (Nat → Int32)) => (r = 0 ∨ r = 1) ∧ ((u.1) ≤ tl) ∧ (∀ j, (u.2.2.2.2.2.2.1) j ≤ 12)) (fun u t => zB dC dI (A) (kW bh br rh th tb sh cI cJ cB (nI cc) nA mA aA (fun j => nI (fcA j)) fA (fun j => nI ((u.2.2.2.2.2.2.1) j)) (u.2.2.2.2.2.2.2.1) (u.2.2.2.2.2.2.2.2.1) (u.2.2.2.2.2.2.2.2.2.1) (u.2.2.2.2.2.2.2.2.2.2.1) (u.2.2.2.2.2.2.2.2.2.2.2.1) (u.2.2.2.2.2.2.2.2.2.2.2.2) (fun j => nI (erA j)) reA (fun j => nI (liA j)) (fun j => nI (lcA j)) (u.2.2.2.2.2.1) ry (u.2.2.2.2.1) (nI tl) (nI (u.1)) (u.2.1) (u.2.2.1) (u.2.2.2.1) tpA sw st sf sq) [(cI, .int), (cJ, .long), (cB, .byte)] t) (A)) (([.ref rh, .ref bh] : List Value).toArray) s 0 0 A) (F0 m 32 ls []) := by
    intro ct H locs ls  hP hD hS hl
    refine lv_aload_n hx hb dX2_readsField_32 rfl (lv_at hl 0 rfl) ?_
    refine va_get (D := (dC, dI)) (ci := 1) (v := .int ry) (C := RX2) (T := TX2) (N := 5) hx hb hts hiX2 hown hK hP 17 rfl rfl 3 (by decide) (hts (.fieldLink RX2 114 "LinkModels$Reader" "type" "I") (by decide +kernel)) (fun _ h9 => h9) rfl dX2_readsField_33 ?_
    refine lv_iconst (v := 2) hx hb dX2_readsField_36 (by decide) ?_
    refine lv_icmp_eq (tgt := 49) hx hb dX2_readsField_37 (by decide) (fun cp37 => ?_) (fun cp37 => ?_)
    · refine lv_aload_n hx hb dX2_readsField_49 rfl (lv_at hl 0 rfl) ?_
      refine lv_iconst (v := 1) hx hb dX2_readsField_50 (by decide) ?_
      have hFc := z_freeW hD hS hA
      refine va_calli (va_runV (As := [.int 1]) (rest := []) ⟨hx, hb, hml, hown, hts⟩ (kX2_refuse l dC dI bh br rh th tb sh cI cJ cB cc nA mA aA fcA fA mcA mmA wA tcA g1A g2A nuA erA reA liA lcA rm ry rf tl ta ts so tv tpA sw st sf sq ⟨by omega, by omega, by omega, hfcA, hmcA, herA, hliA, hlcA⟩ (1 : Int32) H.size) (cwV 1 hts zgX2_readsField_X2_refuse_67 rfl rfl rfl (by decide +kernel) ⟨(show 0 + 1 ≤ 3 by omega), (show 8 + (2 + 11) + 0 ≤ 63 by omega)⟩) (zVk (ci := 1) (q0 := 17) (q := (RX2, TX2, 5)) hK hP hD hE rfl rfl rfl) rfl rfl hl.1 rfl (lv_room (Nat.le_of_ble_eq_true rfl)) dX2_readsField_51 ⟨(show 0 + 0 ≤ 0 by omega), (show 0 + 0 ≤ 0 by omega)⟩) hS (fun q _ h => hFc q h) hFc (fun r46 o47 t H1 locs ht hvm hw hB hz1 hk1 hS => ?_)
      obtain ⟨hP, hK9, hD⟩ := hB
      rw [ht] at hP
      have hD := hD.weaken (fun k q _ h => hFc q.1 h)
      generalize H1 = H at hP hS
      have hP : va_P (dC, dI) vwCl (kW bh br rh th tb sh cI cJ cB (nI cc) nA mA aA (fun j => nI (fcA j)) fA (fun j => nI (mcA j)) mmA wA tcA g1A g2A nuA (fun j => nI (erA j)) reA (fun j => nI (liA j)) (fun j => nI (lcA j)) rm ry o47 (nI tl) (nI ta) ts so tv tpA sw st sf sq) H := hP
      have hD : va_D A (kW bh br rh th tb sh cI cJ cB (nI cc) nA mA aA (fun j => nI (fcA j)) fA (fun j => nI (mcA j)) mmA wA tcA g1A g2A nuA (fun j => nI (erA j)) reA (fun j => nI (liA j)) (fun j => nI (lcA j)) rm ry o47 (nI tl) (nI ta) ts so tv tpA sw st sf sq) := hD
      have hw : (r46 = 0 ∨ r46 = 1) ∧ (r46 = 0) := hw
      obtain ⟨w0r46, w1r46⟩ := hw
      subst w1r46
      have hP9 : va_P (dC, dI) vwCl (kW bh br rh th tb sh cI cJ cB (nI cc) nA mA aA (fun j => nI (fcA j)) fA (fun j => nI (mcA j)) mmA wA tcA g1A g2A nuA (fun j => nI (erA j)) reA (fun j => nI (liA j)) (fun j => nI (lcA j)) rm ry o47 (nI tl) (nI ta) ts so tv tpA sw st sf sq) H := hP
      have hD9 : va_D A (kW bh br rh th tb sh cI cJ cB (nI cc) nA mA aA (fun j => nI (fcA j)) fA (fun j => nI (mcA j)) mmA wA tcA g1A g2A nuA (fun j => nI (erA j)) reA (fun j => nI (liA j)) (fun j => nI (lcA j)) rm ry o47 (nI tl) (nI ta) ts so tv tpA sw st sf sq) := hD
      exact W.zret (v := (0 : Int32)) hx hb hr rfl (fun t ht hW => ⟨⟨(0 : Int32), (ta, ts, so, tv, o47, rm, mcA, mmA, wA, tcA, g1A, g2A, nuA), rfl, ⟨(Or.inl rfl), (by first | omega | assumption | trivial), hmcA⟩, by rw [ht]; exact hP9, va_K.moved hW.alike hK, hD9⟩, hS.F ht⟩) hS.2.2 dX2_readsField_54
    · refine lv_aload_n hx hb dX2_readsField_40 rfl (lv_at hl 0 rfl) ?_
      refine va_get (D := (dC, dI)) (ci := 1) (v := .int rm) (C := RX2) (T := TX2) (N := 5) hx hb hts hiX2 hown hK hP 17 rfl rfl 2 (by decide) (hts (.fieldLink RX2 130 "LinkModels$Reader" "marks" "I") (by decide +kernel)) (fun _ h9 => h9) rfl dX2_readsField_41 ?_
      refine lv_bipush (v := 8) hx hb dX2_readsField_44 (by decide) ?_
      refine lv_icmp_ne (tgt := 55) hx hb dX2_readsField_46 (by decide) (fun cp46 => ?_) (fun cp46 => ?_)
      · exact J55 ct _ _ ls  hP hD hS (lv_sub hl [0, 1, 2] rfl)
      · refine lv_aload_n hx hb dX2_readsField_49 rfl (lv_at hl 0 rfl) ?_
        refine lv_iconst (v := 1) hx hb dX2_readsField_50 (by decide) ?_
        have hFc := z_freeW hD hS hA
        refine va_calli (va_runV (As := [.int 1]) (rest := []) ⟨hx, hb, hml, hown, hts⟩ (kX2_refuse l dC dI bh br rh th tb sh cI cJ cB cc nA mA aA fcA fA mcA mmA wA tcA g1A g2A nuA erA reA liA lcA rm ry rf tl ta ts so tv tpA sw st sf sq ⟨by omega, by omega, by omega, hfcA, hmcA, herA, hliA, hlcA⟩ (1 : Int32) H.size) (cwV 1 hts zgX2_readsField_X2_refuse_67 rfl rfl rfl (by decide +kernel) ⟨(show 0 + 1 ≤ 3 by omega), (show 8 + (2 + 11) + 0 ≤ 63 by omega)⟩) (zVk (ci := 1) (q0 := 17) (q := (RX2, TX2, 5)) hK hP hD hE rfl rfl rfl) rfl rfl hl.1 rfl (lv_room (Nat.le_of_ble_eq_true rfl)) dX2_readsField_51 ⟨(show 0 + 0 ≤ 0 by omega), (show 0 + 0 ≤ 0 by omega)⟩) hS (fun q _ h => hFc q h) hFc (fun r48 o49 t H1 locs ht hvm hw hB hz1 hk1 hS => ?_)
        obtain ⟨hP, hK9, hD⟩ := hB
        rw [ht] at hP
        have hD := hD.weaken (fun k q _ h => hFc q.1 h)
        generalize H1 = H at hP hS
        have hP : va_P (dC, dI) vwCl (kW bh br rh th tb sh cI cJ cB (nI cc) nA mA aA (fun j => nI (fcA j)) fA (fun j => nI (mcA j)) mmA wA tcA g1A g2A nuA (fun j => nI (erA j)) reA (fun j => nI (liA j)) (fun j => nI (lcA j)) rm ry o49 (nI tl) (nI ta) ts so tv tpA sw st sf sq) H := hP
        have hD : va_D A (kW bh br rh th tb sh cI cJ cB (nI cc) nA mA aA (fun j => nI (fcA j)) fA (fun j => nI (mcA j)) mmA wA tcA g1A g2A nuA (fun j => nI (erA j)) reA (fun j => nI (liA j)) (fun j => nI (lcA j)) rm ry o49 (nI tl) (nI ta) ts so tv tpA sw st sf sq) := hD
        have hw : (r48 = 0 ∨ r48 = 1) ∧ (r48 = 0) := hw
        obtain ⟨w0r48, w1r48⟩ := hw
        subst w1r48
        have hP9 : va_P (dC, dI) vwCl (kW bh br rh th tb sh cI cJ cB (nI cc) nA mA aA (fun j => nI (fcA j)) fA (fun j => nI (mcA j)) mmA wA tcA g1A g2A nuA (fun j => nI (erA j)) reA (fun j => nI (liA j)) (fun j => nI (lcA j)) rm ry o49 (nI tl) (nI ta) ts so tv tpA sw st sf sq) H := hP
        have hD9 : va_D A (kW bh br rh th tb sh cI cJ cB (nI cc) nA mA aA (fun j => nI (fcA j)) fA (fun j => nI (mcA j)) mmA wA tcA g1A g2A nuA (fun j => nI (erA j)) reA (fun j => nI (liA j)) (fun j => nI (lcA j)) rm ry o49 (nI tl) (nI ta) ts so tv tpA sw st sf sq) := hD
        exact W.zret (v := (0 : Int32)) hx hb hr rfl (fun t ht hW => ⟨⟨(0 : Int32), (ta, ts, so, tv, o49, rm, mcA, mmA, wA, tcA, g1A, g2A, nuA), rfl, ⟨(Or.inl rfl), (by first | omega | assumption | trivial), hmcA⟩, by rw [ht]; exact hP9, va_K.moved hW.alike hK, hD9⟩, hS.F ht⟩) hS.2.2 dX2_readsField_54
  refine lv_aload_n hx hb dX2_readsField_0 rfl (lv_at hl 0 rfl) ?_
  refine va_get (D := (dC, dI)) (ci := 1) (v := .ref th) (C := RX2) (T := TX2) (N := 5) hx hb hts hiX2 hown hK hP 17 rfl rfl 0 (by decide) (hts (.fieldLink RX2 14 "LinkModels$Reader" "tokens" "LLinkModels$Tokens;") (by decide +kernel)) (fun _ h9 => h9) rfl dX2_readsField_1 ?_
  refine lv_bipush (v := 61) hx hb dX2_readsField_4 (by decide) ?_
  refine vp_callSi (W.runV (As := [.int 61]) (rest := []) ⟨hx, hb, hml, hown, hts⟩ (kX4_isSign l dC dI rh th tb sh cI cJ cB rm ry rf tl ta ts so tv tpA sw st sf sq ⟨by omega, by omega⟩ (61 : Int32)) (cwV 1 hts zgX2_readsField_X4_isSign_47 rfl rfl rfl (by decide +kernel) ⟨(show 0 + 1 ≤ 3 by omega), (show 8 + (2 + 11) + 0 ≤ 63 by omega)⟩) (zVq (ci := 3) (q0 := 1) (q := (RX4, TX4, 6)) hK (hP.sub (ws' := (rdW rh th tb sh cI cJ cB rm ry rf (nI tl) (nI ta) ts so tv tpA sw st sf sq)) [17, 18, 19, 20] rfl) hE rfl rfl rfl) rfl rfl hl.1 rfl (lv_room (Nat.le_of_ble_eq_true rfl)) dX2_readsField_6 ⟨(show 0 + 0 ≤ 0 by omega), (show 0 + 0 ≤ 0 by omega)⟩) (fun r50 hw => ?_)
  have hw : (r50 = 0 ∨ r50 = 1) := hw
  have w0r50 := hw
  refine lv_istore_n (lv' := [(2, .int r50), (0, .ref rh), (1, .ref bh)]) hx hb dX2_readsField_9 rfl hl (by decide) rfl (fun ls hl => ?_)
  refine lv_iload_n hx hb dX2_readsField_10 rfl (lv_at hl 0 rfl) ?_
  refine lv_if_ne (tgt := 32) hx hb dX2_readsField_11 (by decide) (fun cp11 => ?_) (fun cp11 => ?_)
  · exact J32 r50 _ _ ls  hP hD hS (lv_sub hl [1, 2, 0] rfl)
  · refine lv_aload_n hx hb dX2_readsField_14 rfl (lv_at hl 1 rfl) ?_
    refine va_get (D := (dC, dI)) (ci := 1) (v := .ref th) (C := RX2) (T := TX2) (N := 5) hx hb hts hiX2 hown hK hP 17 rfl rfl 0 (by decide) (hts (.fieldLink RX2 14 "LinkModels$Reader" "tokens" "LLinkModels$Tokens;") (by decide +kernel)) (fun _ h9 => h9) rfl dX2_readsField_15 ?_
    refine lv_bipush (v := 59) hx hb dX2_readsField_18 (by decide) ?_
    refine vp_callSi (W.runV (As := [.int 59]) (rest := []) ⟨hx, hb, hml, hown, hts⟩ (kX4_isSign l dC dI rh th tb sh cI cJ cB rm ry rf tl ta ts so tv tpA sw st sf sq ⟨by omega, by omega⟩ (59 : Int32)) (cwV 1 hts zgX2_readsField_X4_isSign_47 rfl rfl rfl (by decide +kernel) ⟨(show 0 + 1 ≤ 3 by omega), (show 8 + (2 + 11) + 0 ≤ 63 by omega)⟩) (zVq (ci := 3) (q0 := 1) (q := (RX4, TX4, 6)) hK (hP.sub (ws' := (rdW rh th tb sh cI cJ cB rm ry rf (nI tl) (nI ta) ts so tv tpA sw st sf sq)) [17, 18, 19, 20] rfl) hE rfl rfl rfl) rfl rfl hl.1 rfl (lv_room (Nat.le_of_ble_eq_true rfl)) dX2_readsField_20 ⟨(show 0 + 0 ≤ 0 by omega), (show 0 + 0 ≤ 0 by omega)⟩) (fun r51 hw => ?_)
    have hw : (r51 = 0 ∨ r51 = 1) := hw
    have w0r51 := hw
    refine lv_if_ne (tgt := 32) hx hb dX2_readsField_23 (by decide) (fun cp23 => ?_) (fun cp23 => ?_)
    · exact J32 r50 _ _ ls  hP hD hS (lv_sub hl [1, 2, 0] rfl)
    · refine lv_aload_n hx hb dX2_readsField_26 rfl (lv_at hl 1 rfl) ?_
      refine lv_iconst (v := 1) hx hb dX2_readsField_27 (by decide) ?_
      have hFc := z_freeW hD hS hA
      refine va_calli (va_runV (As := [.int 1]) (rest := []) ⟨hx, hb, hml, hown, hts⟩ (kX2_refuse l dC dI bh br rh th tb sh cI cJ cB cc nA mA aA fcA fA mcA mmA wA tcA g1A g2A nuA erA reA liA lcA rm ry rf tl ta ts so tv tpA sw st sf sq ⟨by omega, by omega, by omega, hfcA, hmcA, herA, hliA, hlcA⟩ (1 : Int32) s.heap.size) (cwV 1 hts zgX2_readsField_X2_refuse_67 rfl rfl rfl (by decide +kernel) ⟨(show 0 + 1 ≤ 3 by omega), (show 8 + (2 + 11) + 0 ≤ 63 by omega)⟩) (zVk (ci := 1) (q0 := 17) (q := (RX2, TX2, 5)) hK hP hD hE rfl rfl rfl) rfl rfl hl.1 rfl (lv_room (Nat.le_of_ble_eq_true rfl)) dX2_readsField_28 ⟨(show 0 + 0 ≤ 0 by omega), (show 0 + 0 ≤ 0 by omega)⟩) hS (fun q _ h => hFc q h) hFc (fun r52 o53 t H1 locs ht hvm hw hB hz1 hk1 hS => ?_)
      obtain ⟨hP, hK9, hD⟩ := hB
      rw [ht] at hP
      have hD := hD.weaken (fun k q _ h => hFc q.1 h)
      generalize H1 = H at hP hS
      have hP : va_P (dC, dI) vwCl (kW bh br rh th tb sh cI cJ cB (nI cc) nA mA aA (fun j => nI (fcA j)) fA (fun j => nI (mcA j)) mmA wA tcA g1A g2A nuA (fun j => nI (erA j)) reA (fun j => nI (liA j)) (fun j => nI (lcA j)) rm ry o53 (nI tl) (nI ta) ts so tv tpA sw st sf sq) H := hP
      have hD : va_D A (kW bh br rh th tb sh cI cJ cB (nI cc) nA mA aA (fun j => nI (fcA j)) fA (fun j => nI (mcA j)) mmA wA tcA g1A g2A nuA (fun j => nI (erA j)) reA (fun j => nI (liA j)) (fun j => nI (lcA j)) rm ry o53 (nI tl) (nI ta) ts so tv tpA sw st sf sq) := hD
      have hw : (r52 = 0 ∨ r52 = 1) ∧ (r52 = 0) := hw
      obtain ⟨w0r52, w1r52⟩ := hw
      subst w1r52
      have hP9 : va_P (dC, dI) vwCl (kW bh br rh th tb sh cI cJ cB (nI cc) nA mA aA (fun j => nI (fcA j)) fA (fun j => nI (mcA j)) mmA wA tcA g1A g2A nuA (fun j => nI (erA j)) reA (fun j => nI (liA j)) (fun j => nI (lcA j)) rm ry o53 (nI tl) (nI ta) ts so tv tpA sw st sf sq) H := hP
      have hD9 : va_D A (kW bh br rh th tb sh cI cJ cB (nI cc) nA mA aA (fun j => nI (fcA j)) fA (fun j => nI (mcA j)) mmA wA tcA g1A g2A nuA (fun j => nI (erA j)) reA (fun j => nI (liA j)) (fun j => nI (lcA j)) rm ry o53 (nI tl) (nI ta) ts so tv tpA sw st sf sq) := hD
      exact W.zret (v := (0 : Int32)) hx hb hr rfl (fun t ht hW => ⟨⟨(0 : Int32), (ta, ts, so, tv, o53, rm, mcA, mmA, wA, tcA, g1A, g2A, nuA), rfl, ⟨(Or.inl rfl), (by first | omega | assumption | trivial), hmcA⟩, by rw [ht]; exact hP9, va_K.moved hW.alike hK, hD9⟩, hS.F ht⟩) hS.2.2 dX2_readsField_31
theorem dX2_readsMethod_0 : decode cX2_readsMethod 0 = .ok (.aload_n 0, 1) := by decide +kernel
theorem dX2_readsMethod_1 : decode cX2_readsMethod 1 = .ok (.getfield 130, 3) := by decide +kernel
theorem dX2_readsMethod_4 : decode cX2_readsMethod 4 = .ok (.iconst 4, 1) := by decide +kernel
theorem dX2_readsMethod_5 : decode cX2_readsMethod 5 = .ok (.iand, 1) := by decide +kernel
theorem dX2_readsMethod_6 : decode cX2_readsMethod 6 = .ok (.ifCond .eq 9, 3) := by decide +kernel
theorem dX2_readsMethod_9 : decode cX2_readsMethod 9 = .ok (.aload_n 0, 1) := by decide +kernel
theorem dX2_readsMethod_10 : decode cX2_readsMethod 10 = .ok (.iconst 1, 1) := by decide +kernel
theorem dX2_readsMethod_11 : decode cX2_readsMethod 11 = .ok (.invokevirtual 67, 3) := by decide +kernel
theorem dX2_readsMethod_14 : decode cX2_readsMethod 14 = .ok (.ireturn, 1) := by decide +kernel
theorem dX2_readsMethod_15 : decode cX2_readsMethod 15 = .ok (.aload_n 0, 1) := by decide +kernel
theorem dX2_readsMethod_16 : decode cX2_readsMethod 16 = .ok (.getfield 14, 3) := by decide +kernel
theorem dX2_readsMethod_19 : decode cX2_readsMethod 19 = .ok (.invokevirtual 54, 3) := by decide +kernel
theorem dX2_readsMethod_22 : decode cX2_readsMethod 22 = .ok (.aload_n 0, 1) := by decide +kernel
theorem dX2_readsMethod_23 : decode cX2_readsMethod 23 = .ok (.getfield 14, 3) := by decide +kernel
theorem dX2_readsMethod_26 : decode cX2_readsMethod 26 = .ok (.bipush 41, 2) := by decide +kernel
theorem dX2_readsMethod_28 : decode cX2_readsMethod 28 = .ok (.invokevirtual 47, 3) := by decide +kernel
theorem dX2_readsMethod_31 : decode cX2_readsMethod 31 = .ok (.ifCond .ne 12, 3) := by decide +kernel
theorem dX2_readsMethod_34 : decode cX2_readsMethod 34 = .ok (.aload_n 0, 1) := by decide +kernel
theorem dX2_readsMethod_35 : decode cX2_readsMethod 35 = .ok (.invokevirtual 144, 3) := by decide +kernel
theorem dX2_readsMethod_38 : decode cX2_readsMethod 38 = .ok (.ifCond .ne 5, 3) := by decide +kernel
theorem dX2_readsMethod_41 : decode cX2_readsMethod 41 = .ok (.iconst 0, 1) := by decide +kernel
theorem dX2_readsMethod_42 : decode cX2_readsMethod 42 = .ok (.ireturn, 1) := by decide +kernel
theorem dX2_readsMethod_43 : decode cX2_readsMethod 43 = .ok (.aload_n 1, 1) := by decide +kernel
theorem dX2_readsMethod_44 : decode cX2_readsMethod 44 = .ok (.aload_n 1, 1) := by decide +kernel
theorem dX2_readsMethod_45 : decode cX2_readsMethod 45 = .ok (.getfield 71, 3) := by decide +kernel
theorem dX2_readsMethod_48 : decode cX2_readsMethod 48 = .ok (.iconst 1, 1) := by decide +kernel
theorem dX2_readsMethod_49 : decode cX2_readsMethod 49 = .ok (.isub, 1) := by decide +kernel
theorem dX2_readsMethod_50 : decode cX2_readsMethod 50 = .ok (.aload_n 0, 1) := by decide +kernel
theorem dX2_readsMethod_51 : decode cX2_readsMethod 51 = .ok (.getfield 23, 3) := by decide +kernel
theorem dX2_readsMethod_54 : decode cX2_readsMethod 54 = .ok (.invokevirtual 147, 3) := by decide +kernel
theorem dX2_readsMethod_57 : decode cX2_readsMethod 57 = .ok (.iconst (-1), 1) := by decide +kernel
theorem dX2_readsMethod_58 : decode cX2_readsMethod 58 = .ok (.if_icmp .eq 9, 3) := by decide +kernel
theorem dX2_readsMethod_61 : decode cX2_readsMethod 61 = .ok (.aload_n 0, 1) := by decide +kernel
theorem dX2_readsMethod_62 : decode cX2_readsMethod 62 = .ok (.iconst 3, 1) := by decide +kernel
theorem dX2_readsMethod_63 : decode cX2_readsMethod 63 = .ok (.invokevirtual 67, 3) := by decide +kernel
theorem dX2_readsMethod_66 : decode cX2_readsMethod 66 = .ok (.ireturn, 1) := by decide +kernel
theorem dX2_readsMethod_67 : decode cX2_readsMethod 67 = .ok (.aload_n 1, 1) := by decide +kernel
theorem dX2_readsMethod_68 : decode cX2_readsMethod 68 = .ok (.aload_n 0, 1) := by decide +kernel
theorem dX2_readsMethod_69 : decode cX2_readsMethod 69 = .ok (.getfield 130, 3) := by decide +kernel
theorem dX2_readsMethod_72 : decode cX2_readsMethod 72 = .ok (.bipush 16, 2) := by decide +kernel
theorem dX2_readsMethod_74 : decode cX2_readsMethod 74 = .ok (.ior, 1) := by decide +kernel
theorem dX2_readsMethod_75 : decode cX2_readsMethod 75 = .ok (.aload_n 0, 1) := by decide +kernel
theorem dX2_readsMethod_76 : decode cX2_readsMethod 76 = .ok (.getfield 23, 3) := by decide +kernel
theorem dX2_readsMethod_79 : decode cX2_readsMethod 79 = .ok (.iconst (-1), 1) := by decide +kernel
theorem dX2_readsMethod_80 : decode cX2_readsMethod 80 = .ok (.invokevirtual 140, 3) := by decide +kernel
theorem dX2_readsMethod_83 : decode cX2_readsMethod 83 = .ok (.aload_n 0, 1) := by decide +kernel
theorem dX2_readsMethod_84 : decode cX2_readsMethod 84 = .ok (.getfield 14, 3) := by decide +kernel
theorem dX2_readsMethod_87 : decode cX2_readsMethod 87 = .ok (.invokevirtual 54, 3) := by decide +kernel
theorem dX2_readsMethod_90 : decode cX2_readsMethod 90 = .ok (.aload_n 0, 1) := by decide +kernel
theorem dX2_readsMethod_91 : decode cX2_readsMethod 91 = .ok (.bipush 59, 2) := by decide +kernel
theorem dX2_readsMethod_93 : decode cX2_readsMethod 93 = .ok (.invokevirtual 92, 3) := by decide +kernel
theorem dX2_readsMethod_96 : decode cX2_readsMethod 96 = .ok (.ireturn, 1) := by decide +kernel
def zwX2_readsMethod : List Cond := .code yX2_readsMethod cX2_readsMethod 2 (some .boolean) :: ([.fieldLink RX2 71 "LinkModels$Build" "classCount" "I", .fieldLink RX2 23 "LinkModels$Reader" "signature" "LLinkModels$Signature;", .fieldLink RX2 130 "LinkModels$Reader" "marks" "I", .fieldLink RX2 14 "LinkModels$Reader" "tokens" "LLinkModels$Tokens;", .methodLink RX2 147 yX0_methodIn, .instanceMethod yX0_methodIn, .selects RX0 yX0_methodIn yX0_methodIn, .initialized RX0, .code yX0_methodIn cX0_methodIn 5 (some .int), .fieldLink RX0 37 "LinkModels$Build" "typeCounts" "[I", .fieldLink RX0 71 "LinkModels$Signature" "typeCount" "I", .fieldLink RX0 40 "LinkModels$Build" "firsts" "[I", .fieldLink RX0 74 "LinkModels$Signature" "first" "I", .fieldLink RX0 43 "LinkModels$Build" "seconds" "[I", .fieldLink RX0 77 "LinkModels$Signature" "second" "I", .fieldLink RX0 27 "LinkModels$Build" "memberCounts" "[I", .fieldLink RX0 33 "LinkModels$Build" "words" "[J", .fieldLink RX0 65 "LinkModels$Signature" "word" "J", .fieldLink RX0 30 "LinkModels$Build" "memberMarks" "[I", .methodLink RX2 140 yX0_addMember, .instanceMethod yX0_addMember, .selects RX0 yX0_addMember yX0_addMember, .code yX0_addMember cX0_addMember 6 none, .fieldLink RX0 61 "LinkModels$Build" "classCount" "I", .fieldLink RX0 46 "LinkModels$Build" "numbers" "[I", .methodLink RX2 54 yX4_step, .instanceMethod yX4_step, .selects RX4 yX4_step yX4_step, .initialized RX4, .code yX4_step cX4_step 2 none, .fieldLink RX4 23 "LinkModels$Tokens" "behind" "I", .fieldLink RX4 29 "LinkModels$Tokens" "start" "I", .fieldLink RX4 40 "LinkModels$Tokens" "sort" "I", .fieldLink RX4 19 "LinkModels$Tokens" "length" "I", .fieldLink RX4 7 "LinkModels$Tokens" "tape" "[B", .fieldLink RX4 32 "LinkModels$Tokens" "value" "J", .methodLink RX4 51 yX4_longest, .instanceMethod yX4_longest, .selects RX4 yX4_longest yX4_longest, .code yX4_longest cX4_longest 1 (some .int), .methodLink RX4 43 yX4_take, .instanceMethod yX4_take, .selects RX4 yX4_take yX4_take, .code yX4_take cX4_take 2 none, .constantLong RX4 55 (10), .methodLink RX4 36 yX4_sortOf, .static yX4_sortOf, .code yX4_sortOf cX4_sortOf 1 (some .int), .methodLink RX4 47 yX4_joins, .instanceMethod yX4_joins, .selects RX4 yX4_joins yX4_joins, .code yX4_joins cX4_joins 2 (some .boolean), .methodLink RX2 92 yX2_passes, .instanceMethod yX2_passes, .selects RX2 yX2_passes yX2_passes, .initialized RX2, .code yX2_passes cX2_passes 2 (some .boolean), .methodLink RX2 47 yX4_isSign, .instanceMethod yX4_isSign, .selects RX4 yX4_isSign yX4_isSign, .code yX4_isSign cX4_isSign 2 (some .boolean), .methodLink RX2 67 yX2_refuse, .instanceMethod yX2_refuse, .selects RX2 yX2_refuse yX2_refuse, .code yX2_refuse cX2_refuse 2 (some .boolean), .fieldLink RX2 27 "LinkModels$Reader" "fault" "I", .methodLink RX2 144 yX2_readsTypes, .instanceMethod yX2_readsTypes, .selects RX2 yX2_readsTypes yX2_readsTypes, .code yX2_readsTypes cX2_readsTypes 4 (some .boolean), .methodLink RX2 104 yX2_typeHere, .instanceMethod yX2_typeHere, .selects RX2 yX2_typeHere yX2_typeHere, .code yX2_typeHere cX2_typeHere 1 (some .int), .fieldLink RX2 40 "LinkModels$Tokens" "sort" "I", .constantLong RX2 164 (6909556), .constantLong RX2 166 (1819242087), .constantLong RX2 168 (1987012964), .fieldLink RX2 74 "LinkModels$Tokens" "value" "J", .methodLink RX2 63 yX4_isWord, .instanceMethod yX4_isWord, .selects RX4 yX4_isWord yX4_isWord, .code yX4_isWord cX4_isWord 3 (some .boolean), .methodLink RX2 151 yX3_add, .instanceMethod yX3_add, .selects RX3 yX3_add yX3_add, .initialized RX3, .code yX3_add cX3_add 2 none, .fieldLink RX3 13 "LinkModels$Signature" "typeCount" "I", .fieldLink RX3 20 "LinkModels$Signature" "second" "I", .fieldLink RX3 17 "LinkModels$Signature" "first" "I"] ++ wsX00 ++ wsX20 ++ wsX30 ++ wsX40)
theorem zgX2_readsMethod_X0_methodIn_147 : GoodIn zwX2_readsMethod (wsV RX2 147 RX0 yX0_methodIn zwX0_methodIn) := goodIn_app (goodIn_r _ [5, 6, 7, 8] rfl (by decide +kernel)) (goodIn_app (goodIn_app (goodIn_r _ [9, 10, 11, 12, 13, 14, 15, 16, 17, 18, 19] rfl (by decide +kernel)) (fun w hw => ⟨(List.mem_cons_of_mem _ (List.mem_append_left _ (List.mem_append_left _ (List.mem_append_left _ (List.mem_append_right _ hw))))), good_of_word (List.all_eq_true.mp zgX0 w hw)⟩)) (fun w hw => ⟨(List.mem_cons_of_mem _ (List.mem_append_left _ (List.mem_append_right _ hw))), good_of_word (List.all_eq_true.mp zgX3 w hw)⟩))
theorem zgX2_readsMethod_X0_addMember_140 : GoodIn zwX2_readsMethod (wsV RX2 140 RX0 yX0_addMember zwX0_addMember) := goodIn_app (goodIn_r _ [20, 21, 22, 8] rfl (by decide +kernel)) (goodIn_app (goodIn_app (goodIn_r _ [23, 24, 16, 19, 17, 18, 10, 11, 12, 13, 14, 15, 25] rfl (by decide +kernel)) (fun w hw => ⟨(List.mem_cons_of_mem _ (List.mem_append_left _ (List.mem_append_left _ (List.mem_append_left _ (List.mem_append_right _ hw))))), good_of_word (List.all_eq_true.mp zgX0 w hw)⟩)) (fun w hw => ⟨(List.mem_cons_of_mem _ (List.mem_append_left _ (List.mem_append_right _ hw))), good_of_word (List.all_eq_true.mp zgX3 w hw)⟩))
theorem zgX2_readsMethod_X4_step_54 : GoodIn zwX2_readsMethod (wsV RX2 54 RX4 yX4_step zwX4_step) := goodIn_app (goodIn_r _ [26, 27, 28, 29] rfl (by decide +kernel)) (goodIn_app (goodIn_r _ [30, 31, 32, 33, 34, 35, 36, 37, 38, 39, 29, 40, 41, 42, 43, 44, 45, 46, 47, 48, 49, 50, 51, 52] rfl (by decide +kernel)) (fun w hw => ⟨(List.mem_cons_of_mem _ (List.mem_append_right _ hw)), good_of_word (List.all_eq_true.mp zgX4 w hw)⟩))
theorem zgX2_readsMethod_X2_passes_92 : GoodIn zwX2_readsMethod (wsV RX2 92 RX2 yX2_passes zwX2_passes) := goodIn_app (goodIn_r _ [53, 54, 55, 56] rfl (by decide +kernel)) (goodIn_app (goodIn_app (goodIn_r _ [57, 4, 58, 59, 60, 29, 61, 33, 36, 26, 27, 28, 30, 31, 32, 34, 35, 37, 38, 39, 40, 41, 42, 43, 44, 45, 46, 47, 48, 49, 50, 51, 52, 62, 63, 64, 56, 65, 66] rfl (by decide +kernel)) (fun w hw => ⟨(List.mem_cons_of_mem _ (List.mem_append_left _ (List.mem_append_left _ (List.mem_append_right _ hw)))), good_of_word (List.all_eq_true.mp zgX2 w hw)⟩)) (fun w hw => ⟨(List.mem_cons_of_mem _ (List.mem_append_right _ hw)), good_of_word (List.all_eq_true.mp zgX4 w hw)⟩))
theorem zgX2_readsMethod_X2_refuse_67 : GoodIn zwX2_readsMethod (wsV RX2 67 RX2 yX2_refuse zwX2_refuse) := goodIn_app (goodIn_r _ [62, 63, 64, 56] rfl (by decide +kernel)) (goodIn_app (goodIn_r _ [65, 66] rfl (by decide +kernel)) (fun w hw => ⟨(List.mem_cons_of_mem _ (List.mem_append_left _ (List.mem_append_left _ (List.mem_append_right _ hw)))), good_of_word (List.all_eq_true.mp zgX2 w hw)⟩))
theorem zgX2_readsMethod_X4_isSign_47 : GoodIn zwX2_readsMethod (wsV RX2 47 RX4 yX4_isSign zwX4_isSign) := goodIn_app (goodIn_r _ [58, 59, 60, 29] rfl (by decide +kernel)) (goodIn_app (goodIn_r _ [61, 33, 36] rfl (by decide +kernel)) (fun w hw => ⟨(List.mem_cons_of_mem _ (List.mem_append_right _ hw)), good_of_word (List.all_eq_true.mp zgX4 w hw)⟩))
theorem zgX2_readsMethod_X2_readsTypes_144 : GoodIn zwX2_readsMethod (wsV RX2 144 RX2 yX2_readsTypes zwX2_readsTypes) := goodIn_app (goodIn_r _ [67, 68, 69, 56] rfl (by decide +kernel)) (goodIn_app (goodIn_app (goodIn_app (goodIn_r _ [70, 4, 2, 58, 59, 60, 29, 61, 33, 36, 62, 63, 64, 56, 65, 66, 71, 72, 73, 74, 75, 76, 77, 78, 79, 80, 81, 82, 83, 84, 85, 86, 87, 88, 89, 90, 91, 26, 27, 28, 30, 31, 32, 34, 35, 37, 38, 39, 40, 41, 42, 43, 44, 45, 46, 47, 48, 49, 50, 51, 52] rfl (by decide +kernel)) (fun w hw => ⟨(List.mem_cons_of_mem _ (List.mem_append_left _ (List.mem_append_left _ (List.mem_append_right _ hw)))), good_of_word (List.all_eq_true.mp zgX2 w hw)⟩)) (fun w hw => ⟨(List.mem_cons_of_mem _ (List.mem_append_right _ hw)), good_of_word (List.all_eq_true.mp zgX4 w hw)⟩)) (fun w hw => ⟨(List.mem_cons_of_mem _ (List.mem_append_left _ (List.mem_append_right _ hw))), good_of_word (List.all_eq_true.mp zgX3 w hw)⟩))
set_option maxHeartbeats 4000000 in
set_option maxRecDepth 100000 in
theorem kX2_readsMethod (l : Launch) (dC : Nat → ClassId) (dI : Nat → Nat → Nat) (bh : Nat) (br : Nat → Nat) (rh : Nat) (th : Nat) (tb : Nat) (sh : Nat) (cI : ClassId) (cJ : ClassId) (cB : ClassId) (cc : Nat) (nA : Nat → Int32) (mA : Nat → Int32) (aA : Nat → Int32) (fcA : Nat → Nat) (fA : Nat → Int32) (mcA : Nat → Nat) (mmA : Nat → Int32) (wA : Nat → Int64) (tcA : Nat → Int32) (g1A : Nat → Int32) (g2A : Nat → Int32) (nuA : Nat → Int32) (erA : Nat → Nat) (reA : Nat → Int32) (liA : Nat → Nat) (lcA : Nat → Nat) (rm : Int32) (ry : Int32) (rf : Int32) (tl : Nat) (ta : Nat) (ts : Int32) (so : Int32) (tv : Int64) (tpA : Nat → Int32) (sw : Int64) (st : Int32) (sf : Int32) (sq : Int32) (hI : kWI cc fcA mcA erA liA lcA tl ta) (hp0 : 1 ≤ cc) (hp1 : mcA (cc - 1) ≤ 11) (sz : Nat) : Met l yX2_readsMethod zwX2_readsMethod ({ frames := 3, cells := 0, slots := 0, locals := 65 }) (zPk dC dI [.ref rh, .ref bh] sz (kW bh br rh th tb sh cI cJ cB (nI cc) nA mA aA (fun j => nI (fcA j)) fA (fun j => nI (mcA j)) mmA wA tcA g1A g2A nuA (fun j => nI (erA j)) reA (fun j => nI (liA j)) (fun j => nI (lcA j)) rm ry rf (nI tl) (nI ta) ts so tv tpA sw st sf sq) [(cI, .int), (cJ, .long), (cB, .byte)]) (va_Qi (fun (r : Int32) (u : Nat × Int32 × Int32 × Int64 × Int32 × Int32 × Int32 × Int32 × (Nat → Nat) × (Nat → Int32) × (Nat → Int64) × (Nat → Int32) × (Nat → Int32) × (Nat → Int32) × (Nat → Int32)) => (r = 0 ∨ r = 1) ∧ ((u.1) ≤ tl) ∧ (∀ j, (u.2.2.2.2.2.2.2.2.1) j ≤ 12)) (fun u t => zB dC dI (va_A (kW bh br rh th tb sh cI cJ cB (nI cc) nA mA aA (fun j => nI (fcA j)) fA (fun j => nI (mcA j)) mmA wA tcA g1A g2A nuA (fun j => nI (erA j)) reA (fun j => nI (liA j)) (fun j => nI (lcA j)) rm ry rf (nI tl) (nI ta) ts so tv tpA sw st sf sq) sz) (kW bh br rh th tb sh cI cJ cB (nI cc) nA mA aA (fun j => nI (fcA j)) fA (fun j => nI ((u.2.2.2.2.2.2.2.2.1) j)) (u.2.2.2.2.2.2.2.2.2.1) (u.2.2.2.2.2.2.2.2.2.2.1) (u.2.2.2.2.2.2.2.2.2.2.2.1) (u.2.2.2.2.2.2.2.2.2.2.2.2.1) (u.2.2.2.2.2.2.2.2.2.2.2.2.2.1) (u.2.2.2.2.2.2.2.2.2.2.2.2.2.2) (fun j => nI (erA j)) reA (fun j => nI (liA j)) (fun j => nI (lcA j)) rm ry (u.2.2.2.2.1) (nI tl) (nI (u.1)) (u.2.1) (u.2.2.1) (u.2.2.2.1) tpA sw (u.2.2.2.2.2.1) (u.2.2.2.2.2.2.1) (u.2.2.2.2.2.2.2.1)) [(cI, .int), (cJ, .long), (cB, .byte)] t) (va_A (kW bh br rh th tb sh cI cJ cB (nI cc) nA mA aA (fun j => nI (fcA j)) fA (fun j => nI (mcA j)) mmA wA tcA g1A g2A nuA (fun j => nI (erA j)) reA (fun j => nI (liA j)) (fun j => nI (lcA j)) rm ry rf (nI tl) (nI ta) ts so tv tpA sw st sf sq) sz)) 0 0 (va_A (kW bh br rh th tb sh cI cJ cB (nI cc) nA mA aA (fun j => nI (fcA j)) fA (fun j => nI (mcA j)) mmA wA tcA g1A g2A nuA (fun j => nI (erA j)) reA (fun j => nI (liA j)) (fun j => nI (lcA j)) rm ry rf (nI tl) (nI ta) ts so tv tpA sw st sf sq) sz) := by
  refine Met.ofW (cc := cX2_readsMethod) (maxL := 2) (ret := (some .boolean)) (by decide) rfl ?_
  intro p e s m args below meth c s₁ B hml hv
  obtain ⟨rfl, hsz, hP, hK, hD0, hE⟩ := hv
  have hx := B.exec
  have hb := B.bytes
  have hr := B.returns
  have hts := atoms_spec (ws := zwX2_readsMethod) B.pre
  have hown : s.vm.findClass RX2 = some m.cls := findClass_of_methodNamed B.named
  have hiX0 : ∀ w ∈ wsX00, w ∈ zwX2_readsMethod := (fun w hw => (List.mem_cons_of_mem _ (List.mem_append_left _ (List.mem_append_left _ (List.mem_append_left _ (List.mem_append_right _ hw))))))
  have hiX2 : ∀ w ∈ wsX20, w ∈ zwX2_readsMethod := (fun w hw => (List.mem_cons_of_mem _ (List.mem_append_left _ (List.mem_append_left _ (List.mem_append_right _ hw)))))
  obtain ⟨hcc, htl, hta, hfcA, hmcA, herA, hliA, hlcA⟩ := hI
  subst hsz
  have hD := hD0.self (sz := s.heap.size)
  generalize hAe : va_A (kW bh br rh th tb sh cI cJ cB (nI cc) nA mA aA (fun j => nI (fcA j)) fA (fun j => nI (mcA j)) mmA wA tcA g1A g2A nuA (fun j => nI (erA j)) reA (fun j => nI (liA j)) (fun j => nI (lcA j)) rm ry rf (nI tl) (nI ta) ts so tv tpA sw st sf sq) s.heap.size = A at hD ⊢
  have hA : ∀ q : Nat, s.heap.size ≤ q → A q := fun q h => by rw [← hAe]; exact Or.inr h
  have hS : va_S A s.heap s.heap [] := va_S.rf
  have hl := lv_entry ([.ref rh, .ref bh]) (n := 2) (Nat.le_of_ble_eq_true rfl)
  rw [lg_entry_eq]
  generalize (lg_sl ([.ref rh, .ref bh]) ++ List.replicate (2 - (lg_sl ([.ref rh, .ref bh])).length) Slot.unset).toArray = ls at hl ⊢
  have hl : lv_has ls 2 [(0, .ref rh), (1, .ref bh)] := hl
  have J43 : ∀ (b2 : Nat) (s2 : Int32) (so2 : Int32) (v2 : Int64) (f2 : Int32) (c2 : Int32) (q2 : Int32) (e2 : Int32) (H : Heap) (locs : List Loc) (ls : Array Slot), (b2 ≤ tl) → va_P (dC, dI) vwCl (kW bh br rh th tb sh cI cJ cB (nI cc) nA mA aA (fun j => nI (fcA j)) fA (fun j => nI (mcA j)) mmA wA tcA g1A g2A nuA (fun j => nI (erA j)) reA (fun j => nI (liA j)) (fun j => nI (lcA j)) rm ry f2 (nI tl) (nI b2) s2 so2 v2 tpA sw c2 q2 e2) H → va_D A (kW bh br rh th tb sh cI cJ cB (nI cc) nA mA aA (fun j => nI (fcA j)) fA (fun j => nI (mcA j)) mmA wA tcA g1A g2A nuA (fun j => nI (erA j)) reA (fun j => nI (liA j)) (fun j => nI (lcA j)) rm ry f2 (nI tl) (nI b2) s2 so2 v2 tpA sw c2 q2 e2) → va_S A s.heap H locs → lv_has ls 2 [(0, .ref rh), (1, .ref bh)] → W p l e (headSpec zwX2_readsMethod { frames := 3, cells := 0, slots := 0, locals := 65 }).room s m (([.ref rh, .ref bh] : List Value).toArray) below meth c H locs 0 0 (MQ below (va_Qi (fun (r : Int32) (u : Nat × Int32 × Int32 × Int64 × Int32 × Int32 × Int32 × Int32 × (Nat → Nat) × (Nat → Int32) × (Nat → Int64) × (Nat → Int32) × (Nat → Int32) × (Nat → Int32) × (Nat → Int32)) => (r = 0 ∨ r = 1) ∧ ((u.1) ≤ tl) ∧ (∀ j, (u.2.2.2.2.2.2.2.2.1) j ≤ 12)) (fun u t => zB dC dI (A) (kW bh br rh th tb sh cI cJ cB (nI cc) nA mA aA (fun j => nI (fcA j)) fA (fun j => nI ((u.2.2.2.2.2.2.2.2.1) j)) (u.2.2.2.2.2.2.2.2.2.1) (u.2.2.2.2.2.2.2.2.2.2.1) (u.2.2.2.2.2.2.2.2.2.2.2.1) (u.2.2.2.2.2.2.2.2.2.2.2.2.1) (u.2.2.2.2.2.2.2.2.2.2.2.2.2.1) (u.2.2.2.2.2.2.2.2.2.2.2.2.2.2) (fun j => nI (erA j)) reA (fun j => nI (liA j)) (fun j => nI (lcA j)) rm ry (u.2.2.2.2.1) (nI tl) (nI (u.1)) (u.2.1) (u.2.2.1) (u.2.2.2.1) tpA sw (u.2.2.2.2.2.1) (u.2.2.2.2.2.2.1) (u.2.2.2.2.2.2.2.1)) [(cI, .int), (cJ, .long), (cB, .byte)] t) (A)) (([.ref rh, .ref bh] : List Value).toArray) s 0 0 A) (F0 m 43 ls []) := by
    intro b2 s2 so2 v2 f2 c2 q2 e2 H locs ls i43_0 hP hD hS hl
    refine lv_aload_n hx hb dX2_readsMethod_43 rfl (lv_at hl 1 rfl) ?_
    refine lv_aload_n hx hb dX2_readsMethod_44 rfl (lv_at hl 1 rfl) ?_
    refine va_get (D := (dC, dI)) (ci := 0) (v := .int (nI cc)) (C := RX0) (T := TX0) (N := 17) hx hb hts hiX0 hown hK hP 0 rfl rfl 0 (by decide) (hts (.fieldLink RX2 71 "LinkModels$Build" "classCount" "I") (by decide +kernel)) (fun _ h9 => h9) rfl dX2_readsMethod_45 ?_
    refine lv_iconst (v := 1) hx hb dX2_readsMethod_48 (by decide) ?_
    refine lv_isub hx hb dX2_readsMethod_49 ?_
    refine lv_topi (fun x1 ex1 => ?_)
    obtain rfl : x1 = nI (cc - 1) := by rw [ex1]; exact pk_sub (show 1 ≤ cc by omega)
    refine lv_aload_n hx hb dX2_readsMethod_50 rfl (lv_at hl 0 rfl) ?_
    refine va_get (D := (dC, dI)) (ci := 1) (v := .ref sh) (C := RX2) (T := TX2) (N := 5) hx hb hts hiX2 hown hK hP 17 rfl rfl 1 (by decide) (hts (.fieldLink RX2 23 "LinkModels$Reader" "signature" "LLinkModels$Signature;") (by decide +kernel)) (fun _ h9 => h9) rfl dX2_readsMethod_51 ?_
    refine vp_callSi (W.runV (As := [.int (nI (cc - 1)), .ref sh]) (rest := []) ⟨hx, hb, hml, hown, hts⟩ (kX0_methodIn l dC dI bh br sh cI cJ cB cc nA mA aA fcA fA mcA mmA wA tcA g1A g2A nuA erA reA liA lcA sw c2 q2 e2 ⟨by omega, hfcA, hmcA, herA, hliA, hlcA⟩ (cc - 1) (by first | omega | assumption | trivial)) (cwV 2 hts zgX2_readsMethod_X0_methodIn_147 rfl rfl rfl (by decide +kernel) ⟨(show 0 + 1 ≤ 3 by omega), (show 8 + (5 + 11) + 0 ≤ 65 by omega)⟩) (zVq (ci := 0) (q0 := 0) (q := (RX0, TX0, 17)) hK (hP.sub (ws' := (bsW bh br sh cI cJ cB (nI cc) nA mA aA (fun j => nI (fcA j)) fA (fun j => nI (mcA j)) mmA wA tcA g1A g2A nuA (fun j => nI (erA j)) reA (fun j => nI (liA j)) (fun j => nI (lcA j)) sw c2 q2 e2)) [0, 1, 2, 3, 4, 5, 6, 7, 8, 9, 10, 11, 12, 13, 14, 15, 16, 20] rfl) hE rfl rfl rfl) rfl rfl hl.1 rfl (lv_room (Nat.le_of_ble_eq_true rfl)) dX2_readsMethod_54 ⟨(show 0 + 0 ≤ 0 by omega), (show 0 + 0 ≤ 0 by omega)⟩) (fun r2 hw => ?_)
    have hw : (zM r2 (fun k => k < 208)) := hw
    have w0r2 := hw
    refine lv_iconst (v := (-1)) hx hb dX2_readsMethod_57 (by decide) ?_
    refine lv_icmp_eq (tgt := 67) hx hb dX2_readsMethod_58 (by decide) (fun cp58 => ?_) (fun cp58 => ?_)
    · obtain rfl : r2 = -1 := cp58
      refine lv_aload_n hx hb dX2_readsMethod_67 rfl (lv_at hl 1 rfl) ?_
      refine lv_aload_n hx hb dX2_readsMethod_68 rfl (lv_at hl 0 rfl) ?_
      refine va_get (D := (dC, dI)) (ci := 1) (v := .int rm) (C := RX2) (T := TX2) (N := 5) hx hb hts hiX2 hown hK hP 17 rfl rfl 2 (by decide) (hts (.fieldLink RX2 130 "LinkModels$Reader" "marks" "I") (by decide +kernel)) (fun _ h9 => h9) rfl dX2_readsMethod_69 ?_
      refine lv_bipush (v := 16) hx hb dX2_readsMethod_72 (by decide) ?_
      refine lv_ior hx hb dX2_readsMethod_74 ?_
      refine lv_topi (fun x3 ex3 => ?_)
      refine lv_aload_n hx hb dX2_readsMethod_75 rfl (lv_at hl 0 rfl) ?_
      refine va_get (D := (dC, dI)) (ci := 1) (v := .ref sh) (C := RX2) (T := TX2) (N := 5) hx hb hts hiX2 hown hK hP 17 rfl rfl 1 (by decide) (hts (.fieldLink RX2 23 "LinkModels$Reader" "signature" "LLinkModels$Signature;") (by decide +kernel)) (fun _ h9 => h9) rfl dX2_readsMethod_76 ?_
      refine lv_iconst (v := (-1)) hx hb dX2_readsMethod_79 (by decide) ?_
      have hFc := z_freeW hD hS hA
      refine va_callv (va_runV (As := [.int x3, .ref sh, .int (-1)]) (rest := []) ⟨hx, hb, hml, hown, hts⟩ (kX0_addMember l dC dI bh br rh th tb sh cI cJ cB cc nA mA aA fcA fA mcA mmA wA tcA g1A g2A nuA erA reA liA lcA rm ry f2 tl b2 s2 so2 v2 tpA sw c2 q2 e2 ⟨by omega, by omega, by omega, hfcA, hmcA, herA, hliA, hlcA⟩ x3 (-1 : Int32) (by first | omega | assumption | trivial) (by first | omega | assumption | trivial) H.size) (cwV 3 hts zgX2_readsMethod_X0_addMember_140 rfl rfl rfl (by decide +kernel) ⟨(show 0 + 1 ≤ 3 by omega), (show 8 + (6 + 11) + 0 ≤ 65 by omega)⟩) (zVk (ci := 0) (q0 := 0) (q := (RX0, TX0, 17)) hK hP hD hE rfl rfl rfl) rfl rfl hl.1 rfl (lv_room (Nat.le_of_ble_eq_true rfl)) dX2_readsMethod_80 ⟨(show 0 + 0 ≤ 0 by omega), (show 0 + 0 ≤ 0 by omega)⟩) hS (fun q _ h => hFc q h) hFc (fun u12 t H1 locs ht hvm hw hB hz1 hk1 hS => ?_)
      obtain ⟨o5, o6, o7, o8, o9, o10, o11⟩ := u12
      obtain ⟨hP, hK9, hD⟩ := hB
      rw [ht] at hP
      have hD := hD.weaken (fun k q _ h => hFc q.1 h)
      generalize H1 = H at hP hS
      have hP : va_P (dC, dI) vwCl (kW bh br rh th tb sh cI cJ cB (nI cc) nA mA aA (fun j => nI (fcA j)) fA (fun j => nI (o5 j)) o6 o7 o8 o9 o10 o11 (fun j => nI (erA j)) reA (fun j => nI (liA j)) (fun j => nI (lcA j)) rm ry f2 (nI tl) (nI b2) s2 so2 v2 tpA sw c2 q2 e2) H := hP
      have hD : va_D A (kW bh br rh th tb sh cI cJ cB (nI cc) nA mA aA (fun j => nI (fcA j)) fA (fun j => nI (o5 j)) o6 o7 o8 o9 o10 o11 (fun j => nI (erA j)) reA (fun j => nI (liA j)) (fun j => nI (lcA j)) rm ry f2 (nI tl) (nI b2) s2 so2 v2 tpA sw c2 q2 e2) := hD
      have hw : (∀ j, o5 j ≤ 12) := hw
      have hbo5 := hw
      refine lv_aload_n hx hb dX2_readsMethod_83 rfl (lv_at hl 0 rfl) ?_
      refine va_get (D := (dC, dI)) (ci := 1) (v := .ref th) (C := RX2) (T := TX2) (N := 5) hx hb hts hiX2 hown hK hP 17 rfl rfl 0 (by decide) (hts (.fieldLink RX2 14 "LinkModels$Reader" "tokens" "LLinkModels$Tokens;") (by decide +kernel)) (fun _ h9 => h9) rfl dX2_readsMethod_84 ?_
      have hFc := z_freeW hD hS hA
      refine va_callv (va_runV (As := []) (rest := []) ⟨hx, hb, hml, hown, hts⟩ (kX4_step l dC dI bh br rh th tb sh cI cJ cB cc nA mA aA fcA fA o5 o6 o7 o8 o9 o10 o11 erA reA liA lcA rm ry f2 tl b2 s2 so2 v2 tpA sw c2 q2 e2 ⟨by omega, by omega, by omega, hfcA, hbo5, herA, hliA, hlcA⟩ H.size) (cwV 0 hts zgX2_readsMethod_X4_step_54 rfl rfl rfl (by decide +kernel) ⟨(show 1 + 1 ≤ 3 by omega), (show 8 + (2 + 11) + 21 ≤ 65 by omega)⟩) (zVk (ci := 3) (q0 := 18) (q := (RX4, TX4, 6)) hK hP hD hE rfl rfl rfl) rfl rfl hl.1 rfl (lv_room (Nat.le_of_ble_eq_true rfl)) dX2_readsMethod_87 ⟨(show 0 + 0 ≤ 0 by omega), (show 0 + 0 ≤ 0 by omega)⟩) hS (fun q _ h => hFc q h) hFc (fun u18 t H1 locs ht hvm hw hB hz1 hk1 hS => ?_)
      obtain ⟨o14, o15, o16, o17⟩ := u18
      obtain ⟨hP, hK9, hD⟩ := hB
      rw [ht] at hP
      have hD := hD.weaken (fun k q _ h => hFc q.1 h)
      generalize H1 = H at hP hS
      have hP : va_P (dC, dI) vwCl (kW bh br rh th tb sh cI cJ cB (nI cc) nA mA aA (fun j => nI (fcA j)) fA (fun j => nI (o5 j)) o6 o7 o8 o9 o10 o11 (fun j => nI (erA j)) reA (fun j => nI (liA j)) (fun j => nI (lcA j)) rm ry f2 (nI tl) (nI o14) o15 o16 o17 tpA sw c2 q2 e2) H := hP
      have hD : va_D A (kW bh br rh th tb sh cI cJ cB (nI cc) nA mA aA (fun j => nI (fcA j)) fA (fun j => nI (o5 j)) o6 o7 o8 o9 o10 o11 (fun j => nI (erA j)) reA (fun j => nI (liA j)) (fun j => nI (lcA j)) rm ry f2 (nI tl) (nI o14) o15 o16 o17 tpA sw c2 q2 e2) := hD
      have hw : (b2 ≤ o14) ∧ (o14 ≤ tl) := hw
      obtain ⟨w0r13, w1r13⟩ := hw
      refine lv_aload_n hx hb dX2_readsMethod_90 rfl (lv_at hl 0 rfl) ?_
      refine lv_bipush (v := 59) hx hb dX2_readsMethod_91 (by decide) ?_
      have hFc := z_freeW hD hS hA
      refine va_calli (va_runV (As := [.int 59]) (rest := []) ⟨hx, hb, hml, hown, hts⟩ (kX2_passes l dC dI bh br rh th tb sh cI cJ cB cc nA mA aA fcA fA o5 o6 o7 o8 o9 o10 o11 erA reA liA lcA rm ry f2 tl o14 o15 o16 o17 tpA sw c2 q2 e2 ⟨by omega, by omega, by omega, hfcA, hbo5, herA, hliA, hlcA⟩ (59 : Int32) H.size) (cwV 1 hts zgX2_readsMethod_X2_passes_92 rfl rfl rfl (by decide +kernel) ⟨(show 2 + 1 ≤ 3 by omega), (show 8 + (2 + 11) + 42 ≤ 65 by omega)⟩) (zVk (ci := 1) (q0 := 17) (q := (RX2, TX2, 5)) hK hP hD hE rfl rfl rfl) rfl rfl hl.1 rfl (lv_room (Nat.le_of_ble_eq_true rfl)) dX2_readsMethod_93 ⟨(show 0 + 0 ≤ 0 by omega), (show 0 + 0 ≤ 0 by omega)⟩) hS (fun q _ h => hFc q h) hFc (fun r19 u25 t H1 locs ht hvm hw hB hz1 hk1 hS => ?_)
      obtain ⟨o20, o21, o22, o23, o24⟩ := u25
      obtain ⟨hP, hK9, hD⟩ := hB
      rw [ht] at hP
      have hD := hD.weaken (fun k q _ h => hFc q.1 h)
      generalize H1 = H at hP hS
      have hP : va_P (dC, dI) vwCl (kW bh br rh th tb sh cI cJ cB (nI cc) nA mA aA (fun j => nI (fcA j)) fA (fun j => nI (o5 j)) o6 o7 o8 o9 o10 o11 (fun j => nI (erA j)) reA (fun j => nI (liA j)) (fun j => nI (lcA j)) rm ry o24 (nI tl) (nI o20) o21 o22 o23 tpA sw c2 q2 e2) H := hP
      have hD : va_D A (kW bh br rh th tb sh cI cJ cB (nI cc) nA mA aA (fun j => nI (fcA j)) fA (fun j => nI (o5 j)) o6 o7 o8 o9 o10 o11 (fun j => nI (erA j)) reA (fun j => nI (liA j)) (fun j => nI (lcA j)) rm ry o24 (nI tl) (nI o20) o21 o22 o23 tpA sw c2 q2 e2) := hD
      have hw : (r19 = 0 ∨ r19 = 1) ∧ (o20 ≤ tl) := hw
      obtain ⟨w0r19, w1r19⟩ := hw
      have hP9 : va_P (dC, dI) vwCl (kW bh br rh th tb sh cI cJ cB (nI cc) nA mA aA (fun j => nI (fcA j)) fA (fun j => nI (o5 j)) o6 o7 o8 o9 o10 o11 (fun j => nI (erA j)) reA (fun j => nI (liA j)) (fun j => nI (lcA j)) rm ry o24 (nI tl) (nI o20) o21 o22 o23 tpA sw c2 q2 e2) H := hP
      have hD9 : va_D A (kW bh br rh th tb sh cI cJ cB (nI cc) nA mA aA (fun j => nI (fcA j)) fA (fun j => nI (o5 j)) o6 o7 o8 o9 o10 o11 (fun j => nI (erA j)) reA (fun j => nI (liA j)) (fun j => nI (lcA j)) rm ry o24 (nI tl) (nI o20) o21 o22 o23 tpA sw c2 q2 e2) := hD
      exact W.zret (v := r19) hx hb hr (z_nb w0r19) (fun t ht hW => ⟨⟨r19, (o20, o21, o22, o23, o24, c2, q2, e2, o5, o6, o7, o8, o9, o10, o11), rfl, ⟨w0r19, (by first | omega | assumption | trivial), hbo5⟩, by rw [ht]; exact hP9, va_K.moved hW.alike hK, hD9⟩, hS.F ht⟩) hS.2.2 dX2_readsMethod_96
    · obtain ⟨k26, hBk26, hQk26, rfl⟩ := w0r2.resolve_left cp58
      refine lv_aload_n hx hb dX2_readsMethod_61 rfl (lv_at hl 0 rfl) ?_
      refine lv_iconst (v := 3) hx hb dX2_readsMethod_62 (by decide) ?_
      have hFc := z_freeW hD hS hA
      refine va_calli (va_runV (As := [.int 3]) (rest := []) ⟨hx, hb, hml, hown, hts⟩ (kX2_refuse l dC dI bh br rh th tb sh cI cJ cB cc nA mA aA fcA fA mcA mmA wA tcA g1A g2A nuA erA reA liA lcA rm ry f2 tl b2 s2 so2 v2 tpA sw c2 q2 e2 ⟨by omega, by omega, by omega, hfcA, hmcA, herA, hliA, hlcA⟩ (3 : Int32) H.size) (cwV 1 hts zgX2_readsMethod_X2_refuse_67 rfl rfl rfl (by decide +kernel) ⟨(show 0 + 1 ≤ 3 by omega), (show 8 + (2 + 11) + 0 ≤ 65 by omega)⟩) (zVk (ci := 1) (q0 := 17) (q := (RX2, TX2, 5)) hK hP hD hE rfl rfl rfl) rfl rfl hl.1 rfl (lv_room (Nat.le_of_ble_eq_true rfl)) dX2_readsMethod_63 ⟨(show 0 + 0 ≤ 0 by omega), (show 0 + 0 ≤ 0 by omega)⟩) hS (fun q _ h => hFc q h) hFc (fun r27 o28 t H1 locs ht hvm hw hB hz1 hk1 hS => ?_)
      obtain ⟨hP, hK9, hD⟩ := hB
      rw [ht] at hP
      have hD := hD.weaken (fun k q _ h => hFc q.1 h)
      generalize H1 = H at hP hS
      have hP : va_P (dC, dI) vwCl (kW bh br rh th tb sh cI cJ cB (nI cc) nA mA aA (fun j => nI (fcA j)) fA (fun j => nI (mcA j)) mmA wA tcA g1A g2A nuA (fun j => nI (erA j)) reA (fun j => nI (liA j)) (fun j => nI (lcA j)) rm ry o28 (nI tl) (nI b2) s2 so2 v2 tpA sw c2 q2 e2) H := hP
      have hD : va_D A (kW bh br rh th tb sh cI cJ cB (nI cc) nA mA aA (fun j => nI (fcA j)) fA (fun j => nI (mcA j)) mmA wA tcA g1A g2A nuA (fun j => nI (erA j)) reA (fun j => nI (liA j)) (fun j => nI (lcA j)) rm ry o28 (nI tl) (nI b2) s2 so2 v2 tpA sw c2 q2 e2) := hD
      have hw : (r27 = 0 ∨ r27 = 1) ∧ (r27 = 0) := hw
      obtain ⟨w0r27, w1r27⟩ := hw
      subst w1r27
      have hP9 : va_P (dC, dI) vwCl (kW bh br rh th tb sh cI cJ cB (nI cc) nA mA aA (fun j => nI (fcA j)) fA (fun j => nI (mcA j)) mmA wA tcA g1A g2A nuA (fun j => nI (erA j)) reA (fun j => nI (liA j)) (fun j => nI (lcA j)) rm ry o28 (nI tl) (nI b2) s2 so2 v2 tpA sw c2 q2 e2) H := hP
      have hD9 : va_D A (kW bh br rh th tb sh cI cJ cB (nI cc) nA mA aA (fun j => nI (fcA j)) fA (fun j => nI (mcA j)) mmA wA tcA g1A g2A nuA (fun j => nI (erA j)) reA (fun j => nI (liA j)) (fun j => nI (lcA j)) rm ry o28 (nI tl) (nI b2) s2 so2 v2 tpA sw c2 q2 e2) := hD
      exact W.zret (v := (0 : Int32)) hx hb hr rfl (fun t ht hW => ⟨⟨(0 : Int32), (b2, s2, so2, v2, o28, c2, q2, e2, mcA, mmA, wA, tcA, g1A, g2A, nuA), rfl, ⟨(Or.inl rfl), (by first | omega | assumption | trivial), hmcA⟩, by rw [ht]; exact hP9, va_K.moved hW.alike hK, hD9⟩, hS.F ht⟩) hS.2.2 dX2_readsMethod_66
  refine lv_aload_n hx hb dX2_readsMethod_0 rfl (lv_at hl 0 rfl) ?_
  refine va_get (D := (dC, dI)) (ci := 1) (v := .int rm) (C := RX2) (T := TX2) (N := 5) hx hb hts hiX2 hown hK hP 17 rfl rfl 2 (by decide) (hts (.fieldLink RX2 130 "LinkModels$Reader" "marks" "I") (by decide +kernel)) (fun _ h9 => h9) rfl dX2_readsMethod_1 ?_
  refine lv_iconst (v := 4) hx hb dX2_readsMethod_4 (by decide) ?_
  refine lv_iand hx hb dX2_readsMethod_5 ?_
  refine lv_topi (fun x29 ex29 => ?_)
  refine lv_if_eq (tgt := 15) hx hb dX2_readsMethod_6 (by decide) (fun cp6 => ?_) (fun cp6 => ?_)
  · refine lv_aload_n hx hb dX2_readsMethod_15 rfl (lv_at hl 0 rfl) ?_
    refine va_get (D := (dC, dI)) (ci := 1) (v := .ref th) (C := RX2) (T := TX2) (N := 5) hx hb hts hiX2 hown hK hP 17 rfl rfl 0 (by decide) (hts (.fieldLink RX2 14 "LinkModels$Reader" "tokens" "LLinkModels$Tokens;") (by decide +kernel)) (fun _ h9 => h9) rfl dX2_readsMethod_16 ?_
    have hFc := z_freeW hD hS hA
    refine va_callv (va_runV (As := []) (rest := []) ⟨hx, hb, hml, hown, hts⟩ (kX4_step l dC dI bh br rh th tb sh cI cJ cB cc nA mA aA fcA fA mcA mmA wA tcA g1A g2A nuA erA reA liA lcA rm ry rf tl ta ts so tv tpA sw st sf sq ⟨by omega, by omega, by omega, hfcA, hmcA, herA, hliA, hlcA⟩ s.heap.size) (cwV 0 hts zgX2_readsMethod_X4_step_54 rfl rfl rfl (by decide +kernel) ⟨(show 1 + 1 ≤ 3 by omega), (show 8 + (2 + 11) + 21 ≤ 65 by omega)⟩) (zVk (ci := 3) (q0 := 18) (q := (RX4, TX4, 6)) hK hP hD hE rfl rfl rfl) rfl rfl hl.1 rfl (lv_room (Nat.le_of_ble_eq_true rfl)) dX2_readsMethod_19 ⟨(show 0 + 0 ≤ 0 by omega), (show 0 + 0 ≤ 0 by omega)⟩) hS (fun q _ h => hFc q h) hFc (fun u35 t H1 locs ht hvm hw hB hz1 hk1 hS => ?_)
    obtain ⟨o31, o32, o33, o34⟩ := u35
    obtain ⟨hP, hK9, hD⟩ := hB
    rw [ht] at hP
    have hD := hD.weaken (fun k q _ h => hFc q.1 h)
    generalize H1 = H at hP hS
    have hP : va_P (dC, dI) vwCl (kW bh br rh th tb sh cI cJ cB (nI cc) nA mA aA (fun j => nI (fcA j)) fA (fun j => nI (mcA j)) mmA wA tcA g1A g2A nuA (fun j => nI (erA j)) reA (fun j => nI (liA j)) (fun j => nI (lcA j)) rm ry rf (nI tl) (nI o31) o32 o33 o34 tpA sw st sf sq) H := hP
    have hD : va_D A (kW bh br rh th tb sh cI cJ cB (nI cc) nA mA aA (fun j => nI (fcA j)) fA (fun j => nI (mcA j)) mmA wA tcA g1A g2A nuA (fun j => nI (erA j)) reA (fun j => nI (liA j)) (fun j => nI (lcA j)) rm ry rf (nI tl) (nI o31) o32 o33 o34 tpA sw st sf sq) := hD
    have hw : (ta ≤ o31) ∧ (o31 ≤ tl) := hw
    obtain ⟨w0r30, w1r30⟩ := hw
    refine lv_aload_n hx hb dX2_readsMethod_22 rfl (lv_at hl 0 rfl) ?_
    refine va_get (D := (dC, dI)) (ci := 1) (v := .ref th) (C := RX2) (T := TX2) (N := 5) hx hb hts hiX2 hown hK hP 17 rfl rfl 0 (by decide) (hts (.fieldLink RX2 14 "LinkModels$Reader" "tokens" "LLinkModels$Tokens;") (by decide +kernel)) (fun _ h9 => h9) rfl dX2_readsMethod_23 ?_
    refine lv_bipush (v := 41) hx hb dX2_readsMethod_26 (by decide) ?_
    refine vp_callSi (W.runV (As := [.int 41]) (rest := []) ⟨hx, hb, hml, hown, hts⟩ (kX4_isSign l dC dI rh th tb sh cI cJ cB rm ry rf tl o31 o32 o33 o34 tpA sw st sf sq ⟨by omega, by omega⟩ (41 : Int32)) (cwV 1 hts zgX2_readsMethod_X4_isSign_47 rfl rfl rfl (by decide +kernel) ⟨(show 0 + 1 ≤ 3 by omega), (show 8 + (2 + 11) + 0 ≤ 65 by omega)⟩) (zVq (ci := 3) (q0 := 1) (q := (RX4, TX4, 6)) hK (hP.sub (ws' := (rdW rh th tb sh cI cJ cB rm ry rf (nI tl) (nI o31) o32 o33 o34 tpA sw st sf sq)) [17, 18, 19, 20] rfl) hE rfl rfl rfl) rfl rfl hl.1 rfl (lv_room (Nat.le_of_ble_eq_true rfl)) dX2_readsMethod_28 ⟨(show 0 + 0 ≤ 0 by omega), (show 0 + 0 ≤ 0 by omega)⟩) (fun r36 hw => ?_)
    have hw : (r36 = 0 ∨ r36 = 1) := hw
    have w0r36 := hw
    refine lv_if_ne (tgt := 43) hx hb dX2_readsMethod_31 (by decide) (fun cp31 => ?_) (fun cp31 => ?_)
    · exact J43 o31 o32 o33 o34 rf st sf sq _ _ ls  (by first | omega | assumption | trivial) hP hD hS (lv_sub hl [0, 1] rfl)
    · refine lv_aload_n hx hb dX2_readsMethod_34 rfl (lv_at hl 0 rfl) ?_
      have hFc := z_freeW hD hS hA
      refine va_calli (va_runV (As := []) (rest := []) ⟨hx, hb, hml, hown, hts⟩ (kX2_readsTypes l dC dI bh br rh th tb sh cI cJ cB cc nA mA aA fcA fA mcA mmA wA tcA g1A g2A nuA erA reA liA lcA rm ry rf tl o31 o32 o33 o34 tpA sw st sf sq ⟨by omega, by omega, by omega, hfcA, hmcA, herA, hliA, hlcA⟩ H.size) (cwV 0 hts zgX2_readsMethod_X2_readsTypes_144 rfl rfl rfl (by decide +kernel) ⟨(show 2 + 1 ≤ 3 by omega), (show 8 + (4 + 11) + 42 ≤ 65 by omega)⟩) (zVk (ci := 1) (q0 := 17) (q := (RX2, TX2, 5)) hK hP hD hE rfl rfl rfl) rfl rfl hl.1 rfl (lv_room (Nat.le_of_ble_eq_true rfl)) dX2_readsMethod_35 ⟨(show 0 + 0 ≤ 0 by omega), (show 0 + 0 ≤ 0 by omega)⟩) hS (fun q _ h => hFc q h) hFc (fun r37 u46 t H1 locs ht hvm hw hB hz1 hk1 hS => ?_)
      obtain ⟨o38, o39, o40, o41, o42, o43, o44, o45⟩ := u46
      obtain ⟨hP, hK9, hD⟩ := hB
      rw [ht] at hP
      have hD := hD.weaken (fun k q _ h => hFc q.1 h)
      generalize H1 = H at hP hS
      have hP : va_P (dC, dI) vwCl (kW bh br rh th tb sh cI cJ cB (nI cc) nA mA aA (fun j => nI (fcA j)) fA (fun j => nI (mcA j)) mmA wA tcA g1A g2A nuA (fun j => nI (erA j)) reA (fun j => nI (liA j)) (fun j => nI (lcA j)) rm ry o42 (nI tl) (nI o38) o39 o40 o41 tpA sw o43 o44 o45) H := hP
      have hD : va_D A (kW bh br rh th tb sh cI cJ cB (nI cc) nA mA aA (fun j => nI (fcA j)) fA (fun j => nI (mcA j)) mmA wA tcA g1A g2A nuA (fun j => nI (erA j)) reA (fun j => nI (liA j)) (fun j => nI (lcA j)) rm ry o42 (nI tl) (nI o38) o39 o40 o41 tpA sw o43 o44 o45) := hD
      have hw : (r37 = 0 ∨ r37 = 1) ∧ (o38 ≤ tl) := hw
      obtain ⟨w0r37, w1r37⟩ := hw
      refine lv_if_ne (tgt := 43) hx hb dX2_readsMethod_38 (by decide) (fun cp38 => ?_) (fun cp38 => ?_)
      · exact J43 o38 o39 o40 o41 o42 o43 o44 o45 _ _ ls  (by first | omega | assumption | trivial) hP hD hS (lv_sub hl [0, 1] rfl)
      · refine lv_iconst (v := 0) hx hb dX2_readsMethod_41 (by decide) ?_
        have hP9 : va_P (dC, dI) vwCl (kW bh br rh th tb sh cI cJ cB (nI cc) nA mA aA (fun j => nI (fcA j)) fA (fun j => nI (mcA j)) mmA wA tcA g1A g2A nuA (fun j => nI (erA j)) reA (fun j => nI (liA j)) (fun j => nI (lcA j)) rm ry o42 (nI tl) (nI o38) o39 o40 o41 tpA sw o43 o44 o45) H := hP
        have hD9 : va_D A (kW bh br rh th tb sh cI cJ cB (nI cc) nA mA aA (fun j => nI (fcA j)) fA (fun j => nI (mcA j)) mmA wA tcA g1A g2A nuA (fun j => nI (erA j)) reA (fun j => nI (liA j)) (fun j => nI (lcA j)) rm ry o42 (nI tl) (nI o38) o39 o40 o41 tpA sw o43 o44 o45) := hD
        exact W.zret (v := (0 : Int32)) hx hb hr rfl (fun t ht hW => ⟨⟨(0 : Int32), (o38, o39, o40, o41, o42, o43, o44, o45, mcA, mmA, wA, tcA, g1A, g2A, nuA), rfl, ⟨(Or.inl rfl), (by first | omega | assumption | trivial), hmcA⟩, by rw [ht]; exact hP9, va_K.moved hW.alike hK, hD9⟩, hS.F ht⟩) hS.2.2 dX2_readsMethod_42
  · refine lv_aload_n hx hb dX2_readsMethod_9 rfl (lv_at hl 0 rfl) ?_
    refine lv_iconst (v := 1) hx hb dX2_readsMethod_10 (by decide) ?_
    have hFc := z_freeW hD hS hA
    refine va_calli (va_runV (As := [.int 1]) (rest := []) ⟨hx, hb, hml, hown, hts⟩ (kX2_refuse l dC dI bh br rh th tb sh cI cJ cB cc nA mA aA fcA fA mcA mmA wA tcA g1A g2A nuA erA reA liA lcA rm ry rf tl ta ts so tv tpA sw st sf sq ⟨by omega, by omega, by omega, hfcA, hmcA, herA, hliA, hlcA⟩ (1 : Int32) s.heap.size) (cwV 1 hts zgX2_readsMethod_X2_refuse_67 rfl rfl rfl (by decide +kernel) ⟨(show 0 + 1 ≤ 3 by omega), (show 8 + (2 + 11) + 0 ≤ 65 by omega)⟩) (zVk (ci := 1) (q0 := 17) (q := (RX2, TX2, 5)) hK hP hD hE rfl rfl rfl) rfl rfl hl.1 rfl (lv_room (Nat.le_of_ble_eq_true rfl)) dX2_readsMethod_11 ⟨(show 0 + 0 ≤ 0 by omega), (show 0 + 0 ≤ 0 by omega)⟩) hS (fun q _ h => hFc q h) hFc (fun r47 o48 t H1 locs ht hvm hw hB hz1 hk1 hS => ?_)
    obtain ⟨hP, hK9, hD⟩ := hB
    rw [ht] at hP
    have hD := hD.weaken (fun k q _ h => hFc q.1 h)
    generalize H1 = H at hP hS
    have hP : va_P (dC, dI) vwCl (kW bh br rh th tb sh cI cJ cB (nI cc) nA mA aA (fun j => nI (fcA j)) fA (fun j => nI (mcA j)) mmA wA tcA g1A g2A nuA (fun j => nI (erA j)) reA (fun j => nI (liA j)) (fun j => nI (lcA j)) rm ry o48 (nI tl) (nI ta) ts so tv tpA sw st sf sq) H := hP
    have hD : va_D A (kW bh br rh th tb sh cI cJ cB (nI cc) nA mA aA (fun j => nI (fcA j)) fA (fun j => nI (mcA j)) mmA wA tcA g1A g2A nuA (fun j => nI (erA j)) reA (fun j => nI (liA j)) (fun j => nI (lcA j)) rm ry o48 (nI tl) (nI ta) ts so tv tpA sw st sf sq) := hD
    have hw : (r47 = 0 ∨ r47 = 1) ∧ (r47 = 0) := hw
    obtain ⟨w0r47, w1r47⟩ := hw
    subst w1r47
    have hP9 : va_P (dC, dI) vwCl (kW bh br rh th tb sh cI cJ cB (nI cc) nA mA aA (fun j => nI (fcA j)) fA (fun j => nI (mcA j)) mmA wA tcA g1A g2A nuA (fun j => nI (erA j)) reA (fun j => nI (liA j)) (fun j => nI (lcA j)) rm ry o48 (nI tl) (nI ta) ts so tv tpA sw st sf sq) H := hP
    have hD9 : va_D A (kW bh br rh th tb sh cI cJ cB (nI cc) nA mA aA (fun j => nI (fcA j)) fA (fun j => nI (mcA j)) mmA wA tcA g1A g2A nuA (fun j => nI (erA j)) reA (fun j => nI (liA j)) (fun j => nI (lcA j)) rm ry o48 (nI tl) (nI ta) ts so tv tpA sw st sf sq) := hD
    exact W.zret (v := (0 : Int32)) hx hb hr rfl (fun t ht hW => ⟨⟨(0 : Int32), (ta, ts, so, tv, o48, st, sf, sq, mcA, mmA, wA, tcA, g1A, g2A, nuA), rfl, ⟨(Or.inl rfl), (by first | omega | assumption | trivial), hmcA⟩, by rw [ht]; exact hP9, va_K.moved hW.alike hK, hD9⟩, hS.F ht⟩) hS.2.2 dX2_readsMethod_14
