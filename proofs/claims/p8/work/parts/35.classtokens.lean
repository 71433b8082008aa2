theorem dX4_take_0 : decode cX4_take 0 = .ok (.aload_n 0, 1) := by decide +kernel
theorem dX4_take_1 : decode cX4_take 1 = .ok (.aload_n 0, 1) := by decide +kernel
theorem dX4_take_2 : decode cX4_take 2 = .ok (.getfield 40, 3) := by decide +kernel
theorem dX4_take_5 : decode cX4_take 5 = .ok (.iconst 3, 1) := by decide +kernel
theorem dX4_take_6 : decode cX4_take 6 = .ok (.if_icmp .ne 20, 3) := by decide +kernel
theorem dX4_take_9 : decode cX4_take 9 = .ok (.aload_n 0, 1) := by decide +kernel
theorem dX4_take_10 : decode cX4_take 10 = .ok (.getfield 32, 3) := by decide +kernel
theorem dX4_take_13 : decode cX4_take 13 = .ok (.ldc2_w 55, 3) := by decide +kernel
theorem dX4_take_16 : decode cX4_take 16 = .ok (.lmul, 1) := by decide +kernel
theorem dX4_take_17 : decode cX4_take 17 = .ok (.iload_n 1, 1) := by decide +kernel
theorem dX4_take_18 : decode cX4_take 18 = .ok (.bipush 48, 2) := by decide +kernel
theorem dX4_take_20 : decode cX4_take 20 = .ok (.isub, 1) := by decide +kernel
theorem dX4_take_21 : decode cX4_take 21 = .ok (.i2l, 1) := by decide +kernel
theorem dX4_take_22 : decode cX4_take 22 = .ok (.ladd, 1) := by decide +kernel
theorem dX4_take_23 : decode cX4_take 23 = .ok (.goto 17, 3) := by decide +kernel
theorem dX4_take_26 : decode cX4_take 26 = .ok (.aload_n 0, 1) := by decide +kernel
theorem dX4_take_27 : decode cX4_take 27 = .ok (.getfield 32, 3) := by decide +kernel
theorem dX4_take_30 : decode cX4_take 30 = .ok (.bipush 8, 2) := by decide +kernel
theorem dX4_take_32 : decode cX4_take 32 = .ok (.lshl, 1) := by decide +kernel
theorem dX4_take_33 : decode cX4_take 33 = .ok (.iload_n 1, 1) := by decide +kernel
theorem dX4_take_34 : decode cX4_take 34 = .ok (.sipush 255, 3) := by decide +kernel
theorem dX4_take_37 : decode cX4_take 37 = .ok (.iand, 1) := by decide +kernel
theorem dX4_take_38 : decode cX4_take 38 = .ok (.i2l, 1) := by decide +kernel
theorem dX4_take_39 : decode cX4_take 39 = .ok (.lor, 1) := by decide +kernel
theorem dX4_take_40 : decode cX4_take 40 = .ok (.putfield 32, 3) := by decide +kernel
theorem dX4_take_43 : decode cX4_take 43 = .ok (.return_, 1) := by decide +kernel
def zwX4_take : List Cond := .code yX4_take cX4_take 2 none :: ([.fieldLink RX4 40 "LinkModels$Tokens" "sort" "I", .fieldLink RX4 32 "LinkModels$Tokens" "value" "J", .constantLong RX4 55 (10)] ++ wsX40)
set_option maxHeartbeats 4000000 in
set_option maxRecDepth 100000 in
theorem kX4_take (l : Launch) (dC : Nat → ClassId) (dI : Nat → Nat → Nat) (bh : Nat) (br : Nat → Nat) (rh : Nat) (th : Nat) (tb : Nat) (sh : Nat) (cI : ClassId) (cJ : ClassId) (cB : ClassId) (cc : Nat) (nA : Nat → Int32) (mA : Nat → Int32) (aA : Nat → Int32) (fcA : Nat → Nat) (fA : Nat → Int32) (mcA : Nat → Nat) (mmA : Nat → Int32) (wA : Nat → Int64) (tcA : Nat → Int32) (g1A : Nat → Int32) (g2A : Nat → Int32) (nuA : Nat → Int32) (erA : Nat → Nat) (reA : Nat → Int32) (liA : Nat → Nat) (lcA : Nat → Nat) (rm : Int32) (ry : Int32) (rf : Int32) (tl : Nat) (ta : Nat) (ts : Int32) (so : Int32) (tv : Int64) (tpA : Nat → Int32) (sw : Int64) (st : Int32) (sf : Int32) (sq : Int32) (hI : kWI cc fcA mcA erA liA lcA tl ta) (bx : Int32) (sz : Nat) : Met l yX4_take zwX4_take ({ frames := 0, cells := 0, slots := 0, locals := 0 }) (zPk dC dI [.ref th, .int bx] sz (kW bh br rh th tb sh cI cJ cB (nI cc) nA mA aA (fun j => nI (fcA j)) fA (fun j => nI (mcA j)) mmA wA tcA g1A g2A nuA (fun j => nI (erA j)) reA (fun j => nI (liA j)) (fun j => nI (lcA j)) rm ry rf (nI tl) (nI ta) ts so tv tpA sw st sf sq) [(cI, .int), (cJ, .long), (cB, .byte)]) (va_Qv (fun u : Int64 => (True)) (fun u t => zB dC dI (va_A (kW bh br rh th tb sh cI cJ cB (nI cc) nA mA aA (fun j => nI (fcA j)) fA (fun j => nI (mcA j)) mmA wA tcA g1A g2A nuA (fun j => nI (erA j)) reA (fun j => nI (liA j)) (fun j => nI (lcA j)) rm ry rf (nI tl) (nI ta) ts so tv tpA sw st sf sq) sz) (kW bh br rh th tb sh cI cJ cB (nI cc) nA mA aA (fun j => nI (fcA j)) fA (fun j => nI (mcA j)) mmA wA tcA g1A g2A nuA (fun j => nI (erA j)) reA (fun j => nI (liA j)) (fun j => nI (lcA j)) rm ry rf (nI tl) (nI ta) ts so u tpA sw st sf sq) [(cI, .int), (cJ, .long), (cB, .byte)] t) (va_A (kW bh br rh th tb sh cI cJ cB (nI cc) nA mA aA (fun j => nI (fcA j)) fA (fun j => nI (mcA j)) mmA wA tcA g1A g2A nuA (fun j => nI (erA j)) reA (fun j => nI (liA j)) (fun j => nI (lcA j)) rm ry rf (nI tl) (nI ta) ts so tv tpA sw st sf sq) sz)) 0 0 (va_A (kW bh br rh th tb sh cI cJ cB (nI cc) nA mA aA (fun j => nI (fcA j)) fA (fun j => nI (mcA j)) mmA wA tcA g1A g2A nuA (fun j => nI (erA j)) reA (fun j => nI (liA j)) (fun j => nI (lcA j)) rm ry rf (nI tl) (nI ta) ts so tv tpA sw st sf sq) sz) := by
  refine Met.ofW (cc := cX4_take) (maxL := 2) (ret := none) (by decide) rfl ?_
  intro p e s m args below meth c s₁ B hml hv
  obtain ⟨rfl, hsz, hP, hK, hD0, hE⟩ := hv
  have hx := B.exec
  have hb := B.bytes
  have hr := B.returns
  have hts := atoms_spec (ws := zwX4_take) B.pre
  have hown : s.vm.findClass RX4 = some m.cls := findClass_of_methodNamed B.named
  have hiX4 : ∀ w ∈ wsX40, w ∈ zwX4_take := (fun w hw => (List.mem_cons_of_mem _ (List.mem_append_right _ hw)))
  obtain ⟨hcc, htl, hta, hfcA, hmcA, herA, hliA, hlcA⟩ := hI
  subst hsz
  have hD := hD0.self (sz := s.heap.size)
  generalize hAe : va_A (kW bh br rh th tb sh cI cJ cB (nI cc) nA mA aA (fun j => nI (fcA j)) fA (fun j => nI (mcA j)) mmA wA tcA g1A g2A nuA (fun j => nI (erA j)) reA (fun j => nI (liA j)) (fun j => nI (lcA j)) rm ry rf (nI tl) (nI ta) ts so tv tpA sw st sf sq) s.heap.size = A at hD ⊢
  have hA : ∀ q : Nat, s.heap.size ≤ q → A q := fun q h => by rw [← hAe]; exact Or.inr h
  have hS : va_S A s.heap s.heap [] := va_S.rf
  have hl := lv_entry ([.ref th, .int bx]) (n := 2) (Nat.le_of_ble_eq_true rfl)
  rw [lg_entry_eq]
  generalize (lg_sl ([.ref th, .int bx]) ++ List.replicate (2 - (lg_sl ([.ref th, .int bx])).length) Slot.unset).toArray = ls at hl ⊢
  have hl : lv_has ls 2 [(0, .ref th), (1, .int bx)] := hl
  refine lv_aload_n hx hb dX4_take_0 rfl (lv_at hl 0 rfl) ?_
  refine lv_aload_n hx hb dX4_take_1 rfl (lv_at hl 0 rfl) ?_
  refine va_get (D := (dC, dI)) (ci := 3) (v := .int so) (C := RX4) (T := TX4) (N := 6) hx hb hts hiX4 hown hK hP 18 rfl rfl 4 (by decide) (hts (.fieldLink RX4 40 "LinkModels$Tokens" "sort" "I") (by decide +kernel)) (fun _ h9 => h9) rfl dX4_take_2 ?_
  refine lv_iconst (v := 3) hx hb dX4_take_5 (by decide) ?_
  refine lv_icmp_ne (tgt := 26) hx hb dX4_take_6 (by decide) (fun cp6 => ?_) (fun cp6 => ?_)
  · refine lv_aload_n hx hb dX4_take_26 rfl (lv_at hl 0 rfl) ?_
    refine va_get (D := (dC, dI)) (ci := 3) (v := .long tv) (C := RX4) (T := TX4) (N := 6) hx hb hts hiX4 hown hK hP 18 rfl rfl 5 (by decide) (hts (.fieldLink RX4 32 "LinkModels$Tokens" "value" "J") (by decide +kernel)) (fun _ h9 => h9) rfl dX4_take_27 ?_
    refine lv_bipush (v := 8) hx hb dX4_take_30 (by decide) ?_
    refine lv_lshl hx hb dX4_take_32 rfl ?_
    refine lv_topl (fun x1 ex1 => ?_)
    refine lv_iload_n hx hb dX4_take_33 rfl (lv_at hl 1 rfl) ?_
    refine lv_sipush (v := 255) hx hb dX4_take_34 (by decide) ?_
    refine lv_iand hx hb dX4_take_37 ?_
    refine lv_topi (fun x2 ex2 => ?_)
    refine lv_i2l hx hb dX4_take_38 rfl ?_
    refine lv_topl (fun x3 ex3 => ?_)
    refine lv_lor hx hb dX4_take_39 ?_
    refine lv_topl (fun x4 ex4 => ?_)
    refine va_put (D := (dC, dI)) (ci := 3) (v := .long x4) (ty := (.long)) (C := RX4) (T := TX4) (N := 6) hx hb hts hiX4 tyX4 tyX4_ok nmX4 hown hK hP hD hS 18 rfl rfl 5 (by decide) (hts (.fieldLink RX4 32 "LinkModels$Tokens" "value" "J") (by decide +kernel)) (fun _ h9 => h9) rfl (by decide +kernel) rfl rfl (Nat.le_of_ble_eq_true rfl) dX4_take_40 (fun H locs hP hD hS => ?_)
    have hP : va_P (dC, dI) vwCl (kW bh br rh th tb sh cI cJ cB (nI cc) nA mA aA (fun j => nI (fcA j)) fA (fun j => nI (mcA j)) mmA wA tcA g1A g2A nuA (fun j => nI (erA j)) reA (fun j => nI (liA j)) (fun j => nI (lcA j)) rm ry rf (nI tl) (nI ta) ts so x4 tpA sw st sf sq) H := hP
    have hD : va_D A (kW bh br rh th tb sh cI cJ cB (nI cc) nA mA aA (fun j => nI (fcA j)) fA (fun j => nI (mcA j)) mmA wA tcA g1A g2A nuA (fun j => nI (erA j)) reA (fun j => nI (liA j)) (fun j => nI (lcA j)) rm ry rf (nI tl) (nI ta) ts so x4 tpA sw st sf sq) := hD
    have hP9 : va_P (dC, dI) vwCl (kW bh br rh th tb sh cI cJ cB (nI cc) nA mA aA (fun j => nI (fcA j)) fA (fun j => nI (mcA j)) mmA wA tcA g1A g2A nuA (fun j => nI (erA j)) reA (fun j => nI (liA j)) (fun j => nI (lcA j)) rm ry rf (nI tl) (nI ta) ts so x4 tpA sw st sf sq) H := hP
    have hD9 : va_D A (kW bh br rh th tb sh cI cJ cB (nI cc) nA mA aA (fun j => nI (fcA j)) fA (fun j => nI (mcA j)) mmA wA tcA g1A g2A nuA (fun j => nI (erA j)) reA (fun j => nI (liA j)) (fun j => nI (lcA j)) rm ry rf (nI tl) (nI ta) ts so x4 tpA sw st sf sq) := hD
    exact W.vret hx hb hr (fun t ht hW => ⟨⟨(x4), rfl, trivial, by rw [ht]; exact hP9, va_K.moved hW.alike hK, hD9⟩, hS.F ht⟩) hS.2.2 dX4_take_43
  · refine lv_aload_n hx hb dX4_take_9 rfl (lv_at hl 0 rfl) ?_
    refine va_get (D := (dC, dI)) (ci := 3) (v := .long tv) (C := RX4) (T := TX4) (N := 6) hx hb hts hiX4 hown hK hP 18 rfl rfl 5 (by decide) (hts (.fieldLink RX4 32 "LinkModels$Tokens" "value" "J") (by decide +kernel)) (fun _ h9 => h9) rfl dX4_take_10 ?_
    refine lv_ldc2 (v := 10) hx hb hown (hts (.constantLong RX4 55 (10)) (by decide +kernel)) dX4_take_13 ?_
    refine lv_lmul hx hb dX4_take_16 ?_
    refine lv_topl (fun x5 ex5 => ?_)
    refine lv_iload_n hx hb dX4_take_17 rfl (lv_at hl 1 rfl) ?_
    refine lv_bipush (v := 48) hx hb dX4_take_18 (by decide) ?_
    refine lv_isub hx hb dX4_take_20 ?_
    refine lv_topi (fun x6 ex6 => ?_)
    refine lv_i2l hx hb dX4_take_21 rfl ?_
    refine lv_topl (fun x7 ex7 => ?_)
    refine lv_ladd hx hb dX4_take_22 ?_
    refine lv_topl (fun x8 ex8 => ?_)
    refine lv_goto (tgt := 40) hx hb dX4_take_23 (by decide) ?_
    refine va_put (D := (dC, dI)) (ci := 3) (v := .long x8) (ty := (.long)) (C := RX4) (T := TX4) (N := 6) hx hb hts hiX4 tyX4 tyX4_ok nmX4 hown hK hP hD hS 18 rfl rfl 5 (by decide) (hts (.fieldLink RX4 32 "LinkModels$Tokens" "value" "J") (by decide +kernel)) (fun _ h9 => h9) rfl (by decide +kernel) rfl rfl (Nat.le_of_ble_eq_true rfl) dX4_take_40 (fun H locs hP hD hS => ?_)
    have hP : va_P (dC, dI) vwCl (kW bh br rh th tb sh cI cJ cB (nI cc) nA mA aA (fun j => nI (fcA j)) fA (fun j => nI (mcA j)) mmA wA tcA g1A g2A nuA (fun j => nI (erA j)) reA (fun j => nI (liA j)) (fun j => nI (lcA j)) rm ry rf (nI tl) (nI ta) ts so x8 tpA sw st sf sq) H := hP
    have hD : va_D A (kW bh br rh th tb sh cI cJ cB (nI cc) nA mA aA (fun j => nI (fcA j)) fA (fun j => nI (mcA j)) mmA wA tcA g1A g2A nuA (fun j => nI (erA j)) reA (fun j => nI (liA j)) (fun j => nI (lcA j)) rm ry rf (nI tl) (nI ta) ts so x8 tpA sw st sf sq) := hD
    have hP9 : va_P (dC, dI) vwCl (kW bh br rh th tb sh cI cJ cB (nI cc) nA mA aA (fun j => nI (fcA j)) fA (fun j => nI (mcA j)) mmA wA tcA g1A g2A nuA (fun j => nI (erA j)) reA (fun j => nI (liA j)) (fun j => nI (lcA j)) rm ry rf (nI tl) (nI ta) ts so x8 tpA sw st sf sq) H := hP
    have hD9 : va_D A (kW bh br rh th tb sh cI cJ cB (nI cc) nA mA aA (fun j => nI (fcA j)) fA (fun j => nI (mcA j)) mmA wA tcA g1A g2A nuA (fun j => nI (erA j)) reA (fun j => nI (liA j)) (fun j => nI (lcA j)) rm ry rf (nI tl) (nI ta) ts so x8 tpA sw st sf sq) := hD
    exact W.vret hx hb hr (fun t ht hW => ⟨⟨(x8), rfl, trivial, by rw [ht]; exact hP9, va_K.moved hW.alike hK, hD9⟩, hS.F ht⟩) hS.2.2 dX4_take_43
theorem dX4_step_0 : decode cX4_step 0 = .ok (.aload_n 0, 1) := by decide +kernel
theorem dX4_step_1 : decode cX4_step 1 = .ok (.getfield 23, 3) := by decide +kernel
theorem dX4_step_4 : decode cX4_step 4 = .ok (.aload_n 0, 1) := by decide +kernel
theorem dX4_step_5 : decode cX4_step 5 = .ok (.getfield 19, 3) := by decide +kernel
theorem dX4_step_8 : decode cX4_step 8 = .ok (.if_icmp .ge 44, 3) := by decide +kernel
theorem dX4_step_11 : decode cX4_step 11 = .ok (.aload_n 0, 1) := by decide +kernel
theorem dX4_step_12 : decode cX4_step 12 = .ok (.getfield 7, 3) := by decide +kernel
theorem dX4_step_15 : decode cX4_step 15 = .ok (.aload_n 0, 1) := by decide +kernel
theorem dX4_step_16 : decode cX4_step 16 = .ok (.getfield 23, 3) := by decide +kernel
theorem dX4_step_19 : decode cX4_step 19 = .ok (.baload, 1) := by decide +kernel
theorem dX4_step_20 : decode cX4_step 20 = .ok (.bipush 32, 2) := by decide +kernel
theorem dX4_step_22 : decode cX4_step 22 = .ok (.if_icmp .eq 17, 3) := by decide +kernel
theorem dX4_step_25 : decode cX4_step 25 = .ok (.aload_n 0, 1) := by decide +kernel
theorem dX4_step_26 : decode cX4_step 26 = .ok (.getfield 7, 3) := by decide +kernel
theorem dX4_step_29 : decode cX4_step 29 = .ok (.aload_n 0, 1) := by decide +kernel
theorem dX4_step_30 : decode cX4_step 30 = .ok (.getfield 23, 3) := by decide +kernel
theorem dX4_step_33 : decode cX4_step 33 = .ok (.baload, 1) := by decide +kernel
theorem dX4_step_34 : decode cX4_step 34 = .ok (.bipush 10, 2) := by decide +kernel
theorem dX4_step_36 : decode cX4_step 36 = .ok (.if_icmp .ne 16, 3) := by decide +kernel
theorem dX4_step_39 : decode cX4_step 39 = .ok (.aload_n 0, 1) := by decide +kernel
theorem dX4_step_40 : decode cX4_step 40 = .ok (.dup, 1) := by decide +kernel
theorem dX4_step_41 : decode cX4_step 41 = .ok (.getfield 23, 3) := by decide +kernel
theorem dX4_step_44 : decode cX4_step 44 = .ok (.iconst 1, 1) := by decide +kernel
theorem dX4_step_45 : decode cX4_step 45 = .ok (.iadd, 1) := by decide +kernel
theorem dX4_step_46 : decode cX4_step 46 = .ok (.putfield 23, 3) := by decide +kernel
theorem dX4_step_49 : decode cX4_step 49 = .ok (.goto (-49), 3) := by decide +kernel
theorem dX4_step_52 : decode cX4_step 52 = .ok (.aload_n 0, 1) := by decide +kernel
theorem dX4_step_53 : decode cX4_step 53 = .ok (.aload_n 0, 1) := by decide +kernel
theorem dX4_step_54 : decode cX4_step 54 = .ok (.getfield 23, 3) := by decide +kernel
theorem dX4_step_57 : decode cX4_step 57 = .ok (.putfield 29, 3) := by decide +kernel
theorem dX4_step_60 : decode cX4_step 60 = .ok (.aload_n 0, 1) := by decide +kernel
theorem dX4_step_61 : decode cX4_step 61 = .ok (.lconst 0, 1) := by decide +kernel
theorem dX4_step_62 : decode cX4_step 62 = .ok (.putfield 32, 3) := by decide +kernel
theorem dX4_step_65 : decode cX4_step 65 = .ok (.aload_n 0, 1) := by decide +kernel
theorem dX4_step_66 : decode cX4_step 66 = .ok (.aload_n 0, 1) := by decide +kernel
theorem dX4_step_67 : decode cX4_step 67 = .ok (.getfield 23, 3) := by decide +kernel
theorem dX4_step_70 : decode cX4_step 70 = .ok (.aload_n 0, 1) := by decide +kernel
theorem dX4_step_71 : decode cX4_step 71 = .ok (.getfield 19, 3) := by decide +kernel
theorem dX4_step_74 : decode cX4_step 74 = .ok (.if_icmp .ge 18, 3) := by decide +kernel
theorem dX4_step_77 : decode cX4_step 77 = .ok (.aload_n 0, 1) := by decide +kernel
theorem dX4_step_78 : decode cX4_step 78 = .ok (.getfield 7, 3) := by decide +kernel
theorem dX4_step_81 : decode cX4_step 81 = .ok (.aload_n 0, 1) := by decide +kernel
theorem dX4_step_82 : decode cX4_step 82 = .ok (.getfield 23, 3) := by decide +kernel
theorem dX4_step_85 : decode cX4_step 85 = .ok (.baload, 1) := by decide +kernel
theorem dX4_step_86 : decode cX4_step 86 = .ok (.invokestatic 36, 3) := by decide +kernel
theorem dX4_step_89 : decode cX4_step 89 = .ok (.goto 4, 3) := by decide +kernel
theorem dX4_step_92 : decode cX4_step 92 = .ok (.iconst 0, 1) := by decide +kernel
theorem dX4_step_93 : decode cX4_step 93 = .ok (.putfield 40, 3) := by decide +kernel
theorem dX4_step_96 : decode cX4_step 96 = .ok (.aload_n 0, 1) := by decide +kernel
theorem dX4_step_97 : decode cX4_step 97 = .ok (.getfield 40, 3) := by decide +kernel
theorem dX4_step_100 : decode cX4_step 100 = .ok (.ifCond .eq 7, 3) := by decide +kernel
theorem dX4_step_103 : decode cX4_step 103 = .ok (.iconst 1, 1) := by decide +kernel
theorem dX4_step_104 : decode cX4_step 104 = .ok (.goto 4, 3) := by decide +kernel
theorem dX4_step_107 : decode cX4_step 107 = .ok (.iconst 0, 1) := by decide +kernel
theorem dX4_step_108 : decode cX4_step 108 = .ok (.istore_n 1, 1) := by decide +kernel
theorem dX4_step_109 : decode cX4_step 109 = .ok (.iload_n 1, 1) := by decide +kernel
theorem dX4_step_110 : decode cX4_step 110 = .ok (.ifCond .eq 76, 3) := by decide +kernel
theorem dX4_step_113 : decode cX4_step 113 = .ok (.aload_n 0, 1) := by decide +kernel
theorem dX4_step_114 : decode cX4_step 114 = .ok (.getfield 23, 3) := by decide +kernel
theorem dX4_step_117 : decode cX4_step 117 = .ok (.aload_n 0, 1) := by decide +kernel
theorem dX4_step_118 : decode cX4_step 118 = .ok (.getfield 19, 3) := by decide +kernel
theorem dX4_step_121 : decode cX4_step 121 = .ok (.if_icmp .ge 65, 3) := by decide +kernel
theorem dX4_step_124 : decode cX4_step 124 = .ok (.aload_n 0, 1) := by decide +kernel
theorem dX4_step_125 : decode cX4_step 125 = .ok (.aload_n 0, 1) := by decide +kernel
theorem dX4_step_126 : decode cX4_step 126 = .ok (.getfield 7, 3) := by decide +kernel
theorem dX4_step_129 : decode cX4_step 129 = .ok (.aload_n 0, 1) := by decide +kernel
theorem dX4_step_130 : decode cX4_step 130 = .ok (.getfield 23, 3) := by decide +kernel
theorem dX4_step_133 : decode cX4_step 133 = .ok (.baload, 1) := by decide +kernel
theorem dX4_step_134 : decode cX4_step 134 = .ok (.invokevirtual 43, 3) := by decide +kernel
theorem dX4_step_137 : decode cX4_step 137 = .ok (.aload_n 0, 1) := by decide +kernel
theorem dX4_step_138 : decode cX4_step 138 = .ok (.dup, 1) := by decide +kernel
theorem dX4_step_139 : decode cX4_step 139 = .ok (.getfield 23, 3) := by decide +kernel
theorem dX4_step_142 : decode cX4_step 142 = .ok (.iconst 1, 1) := by decide +kernel
theorem dX4_step_143 : decode cX4_step 143 = .ok (.iadd, 1) := by decide +kernel
theorem dX4_step_144 : decode cX4_step 144 = .ok (.putfield 23, 3) := by decide +kernel
theorem dX4_step_147 : decode cX4_step 147 = .ok (.aload_n 0, 1) := by decide +kernel
theorem dX4_step_148 : decode cX4_step 148 = .ok (.getfield 23, 3) := by decide +kernel
theorem dX4_step_151 : decode cX4_step 151 = .ok (.aload_n 0, 1) := by decide +kernel
theorem dX4_step_152 : decode cX4_step 152 = .ok (.getfield 19, 3) := by decide +kernel
theorem dX4_step_155 : decode cX4_step 155 = .ok (.if_icmp .ge 26, 3) := by decide +kernel
theorem dX4_step_158 : decode cX4_step 158 = .ok (.aload_n 0, 1) := by decide +kernel
theorem dX4_step_159 : decode cX4_step 159 = .ok (.aload_n 0, 1) := by decide +kernel
theorem dX4_step_160 : decode cX4_step 160 = .ok (.getfield 7, 3) := by decide +kernel
theorem dX4_step_163 : decode cX4_step 163 = .ok (.aload_n 0, 1) := by decide +kernel
theorem dX4_step_164 : decode cX4_step 164 = .ok (.getfield 23, 3) := by decide +kernel
theorem dX4_step_167 : decode cX4_step 167 = .ok (.baload, 1) := by decide +kernel
theorem dX4_step_168 : decode cX4_step 168 = .ok (.invokestatic 36, 3) := by decide +kernel
theorem dX4_step_171 : decode cX4_step 171 = .ok (.invokevirtual 47, 3) := by decide +kernel
theorem dX4_step_174 : decode cX4_step 174 = .ok (.ifCond .eq 7, 3) := by decide +kernel
theorem dX4_step_177 : decode cX4_step 177 = .ok (.iconst 1, 1) := by decide +kernel
theorem dX4_step_178 : decode cX4_step 178 = .ok (.goto 4, 3) := by decide +kernel
theorem dX4_step_181 : decode cX4_step 181 = .ok (.iconst 0, 1) := by decide +kernel
theorem dX4_step_182 : decode cX4_step 182 = .ok (.istore_n 1, 1) := by decide +kernel
theorem dX4_step_183 : decode cX4_step 183 = .ok (.goto (-74), 3) := by decide +kernel
theorem dX4_step_186 : decode cX4_step 186 = .ok (.aload_n 0, 1) := by decide +kernel
theorem dX4_step_187 : decode cX4_step 187 = .ok (.getfield 23, 3) := by decide +kernel
theorem dX4_step_190 : decode cX4_step 190 = .ok (.aload_n 0, 1) := by decide +kernel
theorem dX4_step_191 : decode cX4_step 191 = .ok (.getfield 29, 3) := by decide +kernel
theorem dX4_step_194 : decode cX4_step 194 = .ok (.isub, 1) := by decide +kernel
theorem dX4_step_195 : decode cX4_step 195 = .ok (.aload_n 0, 1) := by decide +kernel
theorem dX4_step_196 : decode cX4_step 196 = .ok (.invokevirtual 51, 3) := by decide +kernel
theorem dX4_step_199 : decode cX4_step 199 = .ok (.if_icmp .le 8, 3) := by decide +kernel
theorem dX4_step_202 : decode cX4_step 202 = .ok (.aload_n 0, 1) := by decide +kernel
theorem dX4_step_203 : decode cX4_step 203 = .ok (.iconst 5, 1) := by decide +kernel
theorem dX4_step_204 : decode cX4_step 204 = .ok (.putfield 40, 3) := by decide +kernel
theorem dX4_step_207 : decode cX4_step 207 = .ok (.return_, 1) := by decide +kernel
def zwX4_step : List Cond := .code yX4_step cX4_step 2 none :: ([.fieldLink RX4 23 "LinkModels$Tokens" "behind" "I", .fieldLink RX4 29 "LinkModels$Tokens" "start" "I", .fieldLink RX4 40 "LinkModels$Tokens" "sort" "I", .fieldLink RX4 19 "LinkModels$Tokens" "length" "I", .fieldLink RX4 7 "LinkModels$Tokens" "tape" "[B", .fieldLink RX4 32 "LinkModels$Tokens" "value" "J", .methodLink RX4 51 yX4_longest, .instanceMethod yX4_longest, .selects RX4 yX4_longest yX4_longest, .initialized RX4, .code yX4_longest cX4_longest 1 (some .int), .methodLink RX4 43 yX4_take, .instanceMethod yX4_take, .selects RX4 yX4_take yX4_take, .code yX4_take cX4_take 2 none, .constantLong RX4 55 (10), .methodLink RX4 36 yX4_sortOf, .static yX4_sortOf, .code yX4_sortOf cX4_sortOf 1 (some .int), .methodLink RX4 47 yX4_joins, .instanceMethod yX4_joins, .selects RX4 yX4_joins yX4_joins, .code yX4_joins cX4_joins 2 (some .boolean)] ++ wsX40)
theorem zgX4_step_X4_longest_51 : GoodIn zwX4_step (wsV RX4 51 RX4 yX4_longest zwX4_longest) := goodIn_app (goodIn_r _ [7, 8, 9, 10] rfl (by decide +kernel)) (goodIn_app (goodIn_r _ [11, 3] rfl (by decide +kernel)) (fun w hw => ⟨(List.mem_cons_of_mem _ (List.mem_append_right _ hw)), good_of_word (List.all_eq_true.mp zgX4 w hw)⟩))
theorem zgX4_step_X4_take_43 : GoodIn zwX4_step (wsV RX4 43 RX4 yX4_take zwX4_take) := goodIn_app (goodIn_r _ [12, 13, 14, 10] rfl (by decide +kernel)) (goodIn_app (goodIn_r _ [15, 3, 6, 16] rfl (by decide +kernel)) (fun w hw => ⟨(List.mem_cons_of_mem _ (List.mem_append_right _ hw)), good_of_word (List.all_eq_true.mp zgX4 w hw)⟩))
theorem zgX4_step_X4_sortOf_36 : GoodIn zwX4_step (va_wsS RX4 36 yX4_sortOf zwX4_sortOf) := goodIn_app (goodIn_r _ [17, 18, 10] rfl (by decide +kernel)) (goodIn_r _ [19] rfl (by decide +kernel))
theorem zgX4_step_X4_joins_47 : GoodIn zwX4_step (wsV RX4 47 RX4 yX4_joins zwX4_joins) := goodIn_app (goodIn_r _ [20, 21, 22, 10] rfl (by decide +kernel)) (goodIn_app (goodIn_r _ [23, 3] rfl (by decide +kernel)) (fun w hw => ⟨(List.mem_cons_of_mem _ (List.mem_append_right _ hw)), good_of_word (List.all_eq_true.mp zgX4 w hw)⟩))
set_option maxHeartbeats 4000000 in
set_option maxRecDepth 100000 in
theorem kX4_step (l : Launch) (dC : Nat → ClassId) (dI : Nat → Nat → Nat) (bh : Nat) (br : Nat → Nat) (rh : Nat) (th : Nat) (tb : Nat) (sh : Nat) (cI : ClassId) (cJ : ClassId) (cB : ClassId) (cc : Nat) (nA : Nat → Int32) (mA : Nat → Int32) (aA : Nat → Int32) (fcA : Nat → Nat) (fA : Nat → Int32) (mcA : Nat → Nat) (mmA : Nat → Int32) (wA : Nat → Int64) (tcA : Nat → Int32) (g1A : Nat → Int32) (g2A : Nat → Int32) (nuA : Nat → Int32) (erA : Nat → Nat) (reA : Nat → Int32) (liA : Nat → Nat) (lcA : Nat → Nat) (rm : Int32) (ry : Int32) (rf : Int32) (tl : Nat) (ta : Nat) (ts : Int32) (so : Int32) (tv : Int64) (tpA : Nat → Int32) (sw : Int64) (st : Int32) (sf : Int32) (sq : Int32) (hI : kWI cc fcA mcA erA liA lcA tl ta) (sz : Nat) : Met l yX4_step zwX4_step ({ frames := 1, cells := 0, slots := 0, locals := 21 }) (zPk dC dI [.ref th] sz (kW bh br rh th tb sh cI cJ cB (nI cc) nA mA aA (fun j => nI (fcA j)) fA (fun j => nI (mcA j)) mmA wA tcA g1A g2A nuA (fun j => nI (erA j)) reA (fun j => nI (liA j)) (fun j => nI (lcA j)) rm ry rf (nI tl) (nI ta) ts so tv tpA sw st sf sq) [(cI, .int), (cJ, .long), (cB, .byte)]) (va_Qv (fun u : Nat × Int32 × Int32 × Int64 => (ta ≤ (u.1)) ∧ ((u.1) ≤ tl)) (fun u t => zB dC dI (va_A (kW bh br rh th tb sh cI cJ cB (nI cc) nA mA aA (fun j => nI (fcA j)) fA (fun j => nI (mcA j)) mmA wA tcA g1A g2A nuA (fun j => nI (erA j)) reA (fun j => nI (liA j)) (fun j => nI (lcA j)) rm ry rf (nI tl) (nI ta) ts so tv tpA sw st sf sq) sz) (kW bh br rh th tb sh cI cJ cB (nI cc) nA mA aA (fun j => nI (fcA j)) fA (fun j => nI (mcA j)) mmA wA tcA g1A g2A nuA (fun j => nI (erA j)) reA (fun j => nI (liA j)) (fun j => nI (lcA j)) rm ry rf (nI tl) (nI (u.1)) (u.2.1) (u.2.2.1) (u.2.2.2) tpA sw st sf sq) [(cI, .int), (cJ, .long), (cB, .byte)] t) (va_A (kW bh br rh th tb sh cI cJ cB (nI cc) nA mA aA (fun j => nI (fcA j)) fA (fun j => nI (mcA j)) mmA wA tcA g1A g2A nuA (fun j => nI (erA j)) reA (fun j => nI (liA j)) (fun j => nI (lcA j)) rm ry rf (nI tl) (nI ta) ts so tv tpA sw st sf sq) sz)) 0 0 (va_A (kW bh br rh th tb sh cI cJ cB (nI cc) nA mA aA (fun j => nI (fcA j)) fA (fun j => nI (mcA j)) mmA wA tcA g1A g2A nuA (fun j => nI (erA j)) reA (fun j => nI (liA j)) (fun j => nI (lcA j)) rm ry rf (nI tl) (nI ta) ts so tv tpA sw st sf sq) sz) := by
  refine Met.ofW (cc := cX4_step) (maxL := 2) (ret := none) (by decide) rfl ?_
  intro p e s m args below meth c s₁ B hml hv
  obtain ⟨rfl, hsz, hP, hK, hD0, hE⟩ := hv
  have hx := B.exec
  have hb := B.bytes
  have hr := B.returns
  have hts := atoms_spec (ws := zwX4_step) B.pre
  have hown : s.vm.findClass RX4 = some m.cls := findClass_of_methodNamed B.named
  have hiX4 : ∀ w ∈ wsX40, w ∈ zwX4_step := (fun w hw => (List.mem_cons_of_mem _ (List.mem_append_right _ hw)))
  obtain ⟨hcc, htl, hta, hfcA, hmcA, herA, hliA, hlcA⟩ := hI
  subst hsz
  have hD := hD0.self (sz := s.heap.size)
  generalize hAe : va_A (kW bh br rh th tb sh cI cJ cB (nI cc) nA mA aA (fun j => nI (fcA j)) fA (fun j => nI (mcA j)) mmA wA tcA g1A g2A nuA (fun j => nI (erA j)) reA (fun j => nI (liA j)) (fun j => nI (lcA j)) rm ry rf (nI tl) (nI ta) ts so tv tpA sw st sf sq) s.heap.size = A at hD ⊢
  have hA : ∀ q : Nat, s.heap.size ≤ q → A q := fun q h => by rw [← hAe]; exact Or.inr h
  have hS : va_S A s.heap s.heap [] := va_S.rf
  have hl := lv_entry ([.ref th]) (n := 2) (Nat.le_of_ble_eq_true rfl)
  rw [lg_entry_eq]
  generalize (lg_sl ([.ref th]) ++ List.replicate (2 - (lg_sl ([.ref th])).length) Slot.unset).toArray = ls at hl ⊢
  have hl : lv_has ls 2 [(0, .ref th)] := hl
  have J186 : ∀ (b : Nat) (s4 : Int32) (so4 : Int32) (v4 : Int64) (H : Heap) (locs : List Loc) (ls : Array Slot), (ta ≤ b) → (b ≤ tl) → va_P (dC, dI) vwCl (kW bh br rh th tb sh cI cJ cB (nI cc) nA mA aA (fun j => nI (fcA j)) fA (fun j => nI (mcA j)) mmA wA tcA g1A g2A nuA (fun j => nI (erA j)) reA (fun j => nI (liA j)) (fun j => nI (lcA j)) rm ry rf (nI tl) (nI b) s4 so4 v4 tpA sw st sf sq) H → va_D A (kW bh br rh th tb sh cI cJ cB (nI cc) nA mA aA (fun j => nI (fcA j)) fA (fun j => nI (mcA j)) mmA wA tcA g1A g2A nuA (fun j => nI (erA j)) reA (fun j => nI (liA j)) (fun j => nI (lcA j)) rm ry rf (nI tl) (nI b) s4 so4 v4 tpA sw st sf sq) → va_S A s.heap H locs → lv_has ls 2 [(0, .ref th)] → W p l e (headSpec zwX4_step { frames := 1, cells := 0, slots := 0, locals := 21 }).room s m (([.ref th] : List Value).toArray) below meth c H locs 0 0 (MQ below (va_Qv (fun u : Nat × Int32 × Int32 × Int64 => (ta ≤ (u.1)) ∧ ((u.1) ≤ tl)) (fun u t => zB dC dI (A) (kW bh br rh th tb sh cI cJ cB (nI cc) nA mA aA (fun j => nI (fcA j)) fA (fun j => nI (mcA j)) mmA wA tcA g1A g2A nuA (fun j => nI (erA j)) reA (fun j => nI (liA j)) (fun j => nI (lcA j)) rm ry rf (nI tl) (nI (u.1)) (u.2.1) (u.2.2.1) (u.2.2.2) tpA sw st sf sq) [(cI, .int), (cJ, .long), (cB, .byte)] t) (A)) (([.ref th] : List Value).toArray) s 0 0 A) (F0 m 186 ls []) := by
    intro b s4 so4 v4 H locs ls i186_0 i186_1 hP hD hS hl
    refine lv_aload_n hx hb dX4_step_186 rfl (lv_at hl 0 rfl) ?_
    refine va_get (D := (dC, dI)) (ci := 3) (v := .int (nI b)) (C := RX4) (T := TX4) (N := 6) hx hb hts hiX4 hown hK hP 18 rfl rfl 2 (by decide) (hts (.fieldLink RX4 23 "LinkModels$Tokens" "behind" "I") (by decide +kernel)) (fun _ h9 => h9) rfl dX4_step_187 ?_
    refine lv_aload_n hx hb dX4_step_190 rfl (lv_at hl 0 rfl) ?_
    refine va_get (D := (dC, dI)) (ci := 3) (v := .int s4) (C := RX4) (T := TX4) (N := 6) hx hb hts hiX4 hown hK hP 18 rfl rfl 3 (by decide) (hts (.fieldLink RX4 29 "LinkModels$Tokens" "start" "I") (by decide +kernel)) (fun _ h9 => h9) rfl dX4_step_191 ?_
    refine lv_isub hx hb dX4_step_194 ?_
    refine lv_topi (fun x1 ex1 => ?_)
    refine lv_aload_n hx hb dX4_step_195 rfl (lv_at hl 0 rfl) ?_
    refine vp_callSi (W.runV (As := []) (rest := [.int x1]) ⟨hx, hb, hml, hown, hts⟩ (kX4_longest l dC dI rh th tb sh cI cJ cB rm ry rf tl b s4 so4 v4 tpA sw st sf sq ⟨by omega, by omega⟩) (cwV 0 hts zgX4_step_X4_longest_51 rfl rfl rfl (by decide +kernel) ⟨(show 0 + 1 ≤ 1 by omega), (show 8 + (1 + 11) + 0 ≤ 21 by omega)⟩) (zVq (ci := 3) (q0 := 1) (q := (RX4, TX4, 6)) hK (hP.sub (ws' := (rdW rh th tb sh cI cJ cB rm ry rf (nI tl) (nI b) s4 so4 v4 tpA sw st sf sq)) [17, 18, 19, 20] rfl) hE rfl rfl rfl) rfl rfl hl.1 rfl (lv_room (Nat.le_of_ble_eq_true rfl)) dX4_step_196 ⟨(show 0 + 0 ≤ 0 by omega), (show 0 + 0 ≤ 0 by omega)⟩) (fun r2 hw => ?_)
    have hw : (True) := hw
    have w0r2 := hw
    refine lv_icmp_le (tgt := 207) hx hb dX4_step_199 (by decide) (fun cp199 => ?_) (fun cp199 => ?_)
    · have hP9 : va_P (dC, dI) vwCl (kW bh br rh th tb sh cI cJ cB (nI cc) nA mA aA (fun j => nI (fcA j)) fA (fun j => nI (mcA j)) mmA wA tcA g1A g2A nuA (fun j => nI (erA j)) reA (fun j => nI (liA j)) (fun j => nI (lcA j)) rm ry rf (nI tl) (nI b) s4 so4 v4 tpA sw st sf sq) H := hP
      have hD9 : va_D A (kW bh br rh th tb sh cI cJ cB (nI cc) nA mA aA (fun j => nI (fcA j)) fA (fun j => nI (mcA j)) mmA wA tcA g1A g2A nuA (fun j => nI (erA j)) reA (fun j => nI (liA j)) (fun j => nI (lcA j)) rm ry rf (nI tl) (nI b) s4 so4 v4 tpA sw st sf sq) := hD
      exact W.vret hx hb hr (fun t ht hW => ⟨⟨(b, s4, so4, v4), rfl, ⟨(by first | omega | assumption | trivial), (by first | omega | assumption | trivial)⟩, by rw [ht]; exact hP9, va_K.moved hW.alike hK, hD9⟩, hS.F ht⟩) hS.2.2 dX4_step_207
    · refine lv_aload_n hx hb dX4_step_202 rfl (lv_at hl 0 rfl) ?_
      refine lv_iconst (v := 5) hx hb dX4_step_203 (by decide) ?_
      refine va_put (D := (dC, dI)) (ci := 3) (v := .int 5) (ty := (.int)) (C := RX4) (T := TX4) (N := 6) hx hb hts hiX4 tyX4 tyX4_ok nmX4 hown hK hP hD hS 18 rfl rfl 4 (by decide) (hts (.fieldLink RX4 40 "LinkModels$Tokens" "sort" "I") (by decide +kernel)) (fun _ h9 => h9) rfl (by decide +kernel) rfl rfl (Nat.le_of_ble_eq_true rfl) dX4_step_204 (fun H locs hP hD hS => ?_)
      have hP : va_P (dC, dI) vwCl (kW bh br rh th tb sh cI cJ cB (nI cc) nA mA aA (fun j => nI (fcA j)) fA (fun j => nI (mcA j)) mmA wA tcA g1A g2A nuA (fun j => nI (erA j)) reA (fun j => nI (liA j)) (fun j => nI (lcA j)) rm ry rf (nI tl) (nI b) s4 5 v4 tpA sw st sf sq) H := hP
      have hD : va_D A (kW bh br rh th tb sh cI cJ cB (nI cc) nA mA aA (fun j => nI (fcA j)) fA (fun j => nI (mcA j)) mmA wA tcA g1A g2A nuA (fun j => nI (erA j)) reA (fun j => nI (liA j)) (fun j => nI (lcA j)) rm ry rf (nI tl) (nI b) s4 5 v4 tpA sw st sf sq) := hD
      have hP9 : va_P (dC, dI) vwCl (kW bh br rh th tb sh cI cJ cB (nI cc) nA mA aA (fun j => nI (fcA j)) fA (fun j => nI (mcA j)) mmA wA tcA g1A g2A nuA (fun j => nI (erA j)) reA (fun j => nI (liA j)) (fun j => nI (lcA j)) rm ry rf (nI tl) (nI b) s4 5 v4 tpA sw st sf sq) H := hP
      have hD9 : va_D A (kW bh br rh th tb sh cI cJ cB (nI cc) nA mA aA (fun j => nI (fcA j)) fA (fun j => nI (mcA j)) mmA wA tcA g1A g2A nuA (fun j => nI (erA j)) reA (fun j => nI (liA j)) (fun j => nI (lcA j)) rm ry rf (nI tl) (nI b) s4 5 v4 tpA sw st sf sq) := hD
      exact W.vret hx hb hr (fun t ht hW => ⟨⟨(b, s4, 5, v4), rfl, ⟨(by first | omega | assumption | trivial), (by first | omega | assumption | trivial)⟩, by rw [ht]; exact hP9, va_K.moved hW.alike hK, hD9⟩, hS.F ht⟩) hS.2.2 dX4_step_207
  have J109 : ∀ (z109 : Nat) (go : Int32) (b : Nat) (s4 : Int32) (so4 : Int32) (v4 : Int64) (H : Heap) (locs : List Loc) (ls : Array Slot), tl - b < z109 → (ta ≤ b) → (b ≤ tl) → va_P (dC, dI) vwCl (kW bh br rh th tb sh cI cJ cB (nI cc) nA mA aA (fun j => nI (fcA j)) fA (fun j => nI (mcA j)) mmA wA tcA g1A g2A nuA (fun j => nI (erA j)) reA (fun j => nI (liA j)) (fun j => nI (lcA j)) rm ry rf (nI tl) (nI b) s4 so4 v4 tpA sw st sf sq) H → va_D A (kW bh br rh th tb sh cI cJ cB (nI cc) nA mA aA (fun j => nI (fcA j)) fA (fun j => nI (mcA j)) mmA wA tcA g1A g2A nuA (fun j => nI (erA j)) reA (fun j => nI (liA j)) (fun j => nI (lcA j)) rm ry rf (nI tl) (nI b) s4 so4 v4 tpA sw st sf sq) → va_S A s.heap H locs → lv_has ls 2 [(0, .ref th), (1, .int go)] → W p l e (headSpec zwX4_step { frames := 1, cells := 0, slots := 0, locals := 21 }).room s m (([.ref th] : List Value).toArray) below meth c H locs 0 0 (MQ below (va_Qv (fun u : Nat × Int32 × Int32 × Int64 => (ta ≤ (u.1)) ∧ ((u.1) ≤ tl)) (fun u t => zB dC dI (A) (kW bh br rh th tb sh cI cJ cB (nI cc) nA mA aA (fun j => nI (fcA j)) fA (fun j => nI (mcA j)) mmA wA tcA g1A g2A nuA (fun j => nI (erA j)) reA (fun j => nI (liA j)) (fun j => nI (lcA j)) rm ry rf (nI tl) (nI (u.1)) (u.2.1) (u.2.2.1) (u.2.2.2) tpA sw st sf sq) [(cI, .int), (cJ, .long), (cB, .byte)] t) (A)) (([.ref th] : List Value).toArray) s 0 0 A) (F0 m 109 ls []) := by
    intro z109
    induction z109 with
    | zero => intro go b s4 so4 v4 H locs ls h9; exact absurd h9 (Nat.not_lt_zero _)
    | succ z109 ih109 =>
      intro go b s4 so4 v4 H locs ls hm109 i109_0 i109_1 hP hD hS hl
      refine lv_iload_n hx hb dX4_step_109 rfl (lv_at hl 1 rfl) ?_
      refine lv_if_eq (tgt := 186) hx hb dX4_step_110 (by decide) (fun cp110 => ?_) (fun cp110 => ?_)
      · exact J186 b s4 so4 v4 _ _ ls  (by first | omega | assumption | trivial) (by first | omega | assumption | trivial) hP hD hS (lv_sub hl [0] rfl)
      · refine lv_aload_n hx hb dX4_step_113 rfl (lv_at hl 0 rfl) ?_
        refine va_get (D := (dC, dI)) (ci := 3) (v := .int (nI b)) (C := RX4) (T := TX4) (N := 6) hx hb hts hiX4 hown hK hP 18 rfl rfl 2 (by decide) (hts (.fieldLink RX4 23 "LinkModels$Tokens" "behind" "I") (by decide +kernel)) (fun _ h9 => h9) rfl dX4_step_114 ?_
        refine lv_aload_n hx hb dX4_step_117 rfl (lv_at hl 0 rfl) ?_
        refine va_get (D := (dC, dI)) (ci := 3) (v := .int (nI tl)) (C := RX4) (T := TX4) (N := 6) hx hb hts hiX4 hown hK hP 18 rfl rfl 1 (by decide) (hts (.fieldLink RX4 19 "LinkModels$Tokens" "length" "I") (by decide +kernel)) (fun _ h9 => h9) rfl dX4_step_118 ?_
        refine lv_icmp_ge (tgt := 186) hx hb dX4_step_121 (by decide) (fun cp121 => ?_) (fun cp121 => ?_)
        · have qcp121 : tl ≤ b := (nI_leI (a := tl) (b := b) (by omega) (by omega)).mp cp121
          exact J186 b s4 so4 v4 _ _ ls  (by first | omega | assumption | trivial) (by first | omega | assumption | trivial) hP hD hS (lv_sub hl [0] rfl)
        · have qcp121 : ¬ tl ≤ b := fun h9 => cp121 ((nI_leI (a := tl) (b := b) (by omega) (by omega)).mpr h9)
          refine lv_aload_n hx hb dX4_step_124 rfl (lv_at hl 0 rfl) ?_
          refine lv_aload_n hx hb dX4_step_125 rfl (lv_at hl 0 rfl) ?_
          refine va_get (D := (dC, dI)) (ci := 3) (v := .ref tb) (C := RX4) (T := TX4) (N := 6) hx hb hts hiX4 hown hK hP 18 rfl rfl 0 (by decide) (hts (.fieldLink RX4 7 "LinkModels$Tokens" "tape" "[B") (by decide +kernel)) (fun _ h9 => h9) rfl dX4_step_126 ?_
          refine lv_aload_n hx hb dX4_step_129 rfl (lv_at hl 0 rfl) ?_
          refine va_get (D := (dC, dI)) (ci := 3) (v := .int (nI b)) (C := RX4) (T := TX4) (N := 6) hx hb hts hiX4 hown hK hP 18 rfl rfl 2 (by decide) (hts (.fieldLink RX4 23 "LinkModels$Tokens" "behind" "I") (by decide +kernel)) (fun _ h9 => h9) rfl dX4_step_130 ?_
          refine va_bald hx hb hK hP 19 2 rfl rfl (vp_in_nI (show b < 800 by omega) (by decide)) dX4_step_133 ?_
          refine lv_topi (fun x3 ex3 => ?_)
          obtain rfl : x3 = tpA b := by rw [ex3, nI_clamp (show b < 2 ^ 31 by omega)]
          have hFc := z_freeW hD hS hA
          refine va_callv (va_runV (As := [.int (tpA b)]) (rest := []) ⟨hx, hb, hml, hown, hts⟩ (kX4_take l dC dI bh br rh th tb sh cI cJ cB cc nA mA aA fcA fA mcA mmA wA tcA g1A g2A nuA erA reA liA lcA rm ry rf tl b s4 so4 v4 tpA sw st sf sq ⟨by omega, by omega, by omega, hfcA, hmcA, herA, hliA, hlcA⟩ (tpA b) H.size) (cwV 1 hts zgX4_step_X4_take_43 rfl rfl rfl (by decide +kernel) ⟨(show 0 + 1 ≤ 1 by omega), (show 8 + (2 + 11) + 0 ≤ 21 by omega)⟩) (zVk (ci := 3) (q0 := 18) (q := (RX4, TX4, 6)) hK hP hD hE rfl rfl rfl) rfl rfl hl.1 rfl (lv_room (Nat.le_of_ble_eq_true rfl)) dX4_step_134 ⟨(show 0 + 0 ≤ 0 by omega), (show 0 + 0 ≤ 0 by omega)⟩) hS (fun q _ h => hFc q h) hFc (fun o5 t H1 locs ht hvm hw hB hz1 hk1 hS => ?_)
          obtain ⟨hP, hK9, hD⟩ := hB
          rw [ht] at hP
          have hD := hD.weaken (fun k q _ h => hFc q.1 h)
          generalize H1 = H at hP hS
          have hP : va_P (dC, dI) vwCl (kW bh br rh th tb sh cI cJ cB (nI cc) nA mA aA (fun j => nI (fcA j)) fA (fun j => nI (mcA j)) mmA wA tcA g1A g2A nuA (fun j => nI (erA j)) reA (fun j => nI (liA j)) (fun j => nI (lcA j)) rm ry rf (nI tl) (nI b) s4 so4 o5 tpA sw st sf sq) H := hP
          have hD : va_D A (kW bh br rh th tb sh cI cJ cB (nI cc) nA mA aA (fun j => nI (fcA j)) fA (fun j => nI (mcA j)) mmA wA tcA g1A g2A nuA (fun j => nI (erA j)) reA (fun j => nI (liA j)) (fun j => nI (lcA j)) rm ry rf (nI tl) (nI b) s4 so4 o5 tpA sw st sf sq) := hD
          have hw : (True) := hw
          have w0r4 := hw
          refine lv_aload_n hx hb dX4_step_137 rfl (lv_at hl 0 rfl) ?_
          refine lv_dup hx hb dX4_step_138 rfl ?_
          refine va_get (D := (dC, dI)) (ci := 3) (v := .int (nI b)) (C := RX4) (T := TX4) (N := 6) hx hb hts hiX4 hown hK hP 18 rfl rfl 2 (by decide) (hts (.fieldLink RX4 23 "LinkModels$Tokens" "behind" "I") (by decide +kernel)) (fun _ h9 => h9) rfl dX4_step_139 ?_
          refine lv_iconst (v := 1) hx hb dX4_step_142 (by decide) ?_
          refine lv_iadd hx hb dX4_step_143 ?_
          refine lv_topi (fun x6 ex6 => ?_)
          obtain rfl : x6 = nI (b + 1) := by rw [ex6]; exact nI_add (b) (1)
          refine va_put (D := (dC, dI)) (ci := 3) (v := .int (nI (b + 1))) (ty := (.int)) (C := RX4) (T := TX4) (N := 6) hx hb hts hiX4 tyX4 tyX4_ok nmX4 hown hK hP hD hS 18 rfl rfl 2 (by decide) (hts (.fieldLink RX4 23 "LinkModels$Tokens" "behind" "I") (by decide +kernel)) (fun _ h9 => h9) rfl (by decide +kernel) rfl rfl (Nat.le_of_ble_eq_true rfl) dX4_step_144 (fun H locs hP hD hS => ?_)
          have hP : va_P (dC, dI) vwCl (kW bh br rh th tb sh cI cJ cB (nI cc) nA mA aA (fun j => nI (fcA j)) fA (fun j => nI (mcA j)) mmA wA tcA g1A g2A nuA (fun j => nI (erA j)) reA (fun j => nI (liA j)) (fun j => nI (lcA j)) rm ry rf (nI tl) (nI (b + 1)) s4 so4 o5 tpA sw st sf sq) H := hP
          have hD : va_D A (kW bh br rh th tb sh cI cJ cB (nI cc) nA mA aA (fun j => nI (fcA j)) fA (fun j => nI (mcA j)) mmA wA tcA g1A g2A nuA (fun j => nI (erA j)) reA (fun j => nI (liA j)) (fun j => nI (lcA j)) rm ry rf (nI tl) (nI (b + 1)) s4 so4 o5 tpA sw st sf sq) := hD
          refine lv_aload_n hx hb dX4_step_147 rfl (lv_at hl 0 rfl) ?_
          refine va_get (D := (dC, dI)) (ci := 3) (v := .int (nI (b + 1))) (C := RX4) (T := TX4) (N := 6) hx hb hts hiX4 hown hK hP 18 rfl rfl 2 (by decide) (hts (.fieldLink RX4 23 "LinkModels$Tokens" "behind" "I") (by decide +kernel)) (fun _ h9 => h9) rfl dX4_step_148 ?_
          refine lv_aload_n hx hb dX4_step_151 rfl (lv_at hl 0 rfl) ?_
          refine va_get (D := (dC, dI)) (ci := 3) (v := .int (nI tl)) (C := RX4) (T := TX4) (N := 6) hx hb hts hiX4 hown hK hP 18 rfl rfl 1 (by decide) (hts (.fieldLink RX4 19 "LinkModels$Tokens" "length" "I") (by decide +kernel)) (fun _ h9 => h9) rfl dX4_step_152 ?_
          refine lv_icmp_ge (tgt := 181) hx hb dX4_step_155 (by decide) (fun cp155 => ?_) (fun cp155 => ?_)
          · have qcp155 : tl ≤ (b + 1) := (nI_leI (a := tl) (b := b + 1) (by omega) (by omega)).mp cp155
            refine lv_iconst (v := 0) hx hb dX4_step_181 (by decide) ?_
            refine lv_istore_n (lv' := [(1, .int 0), (0, .ref th)]) hx hb dX4_step_182 rfl hl (by decide) rfl (fun ls hl => ?_)
            refine lv_goto (tgt := 109) hx hb dX4_step_183 (by decide) ?_
            exact ih109 (0 : Int32) (b + 1) s4 so4 o5 _ _ ls (by omega) (by first | omega | assumption | trivial) (by first | omega | assumption | trivial) hP hD hS (lv_sub hl [1, 0] rfl)
          · have qcp155 : ¬ tl ≤ (b + 1) := fun h9 => cp155 ((nI_leI (a := tl) (b := b + 1) (by omega) (by omega)).mpr h9)
            refine lv_aload_n hx hb dX4_step_158 rfl (lv_at hl 0 rfl) ?_
            refine lv_aload_n hx hb dX4_step_159 rfl (lv_at hl 0 rfl) ?_
            refine va_get (D := (dC, dI)) (ci := 3) (v := .ref tb) (C := RX4) (T := TX4) (N := 6) hx hb hts hiX4 hown hK hP 18 rfl rfl 0 (by decide) (hts (.fieldLink RX4 7 "LinkModels$Tokens" "tape" "[B") (by decide +kernel)) (fun _ h9 => h9) rfl dX4_step_160 ?_
            refine lv_aload_n hx hb dX4_step_163 rfl (lv_at hl 0 rfl) ?_
            refine va_get (D := (dC, dI)) (ci := 3) (v := .int (nI (b + 1))) (C := RX4) (T := TX4) (N := 6) hx hb hts hiX4 hown hK hP 18 rfl rfl 2 (by decide) (hts (.fieldLink RX4 23 "LinkModels$Tokens" "behind" "I") (by decide +kernel)) (fun _ h9 => h9) rfl dX4_step_164 ?_
            refine va_bald hx hb hK hP 19 2 rfl rfl (vp_in_nI (show b + 1 < 800 by omega) (by decide)) dX4_step_167 ?_
            refine lv_topi (fun x7 ex7 => ?_)
            obtain rfl : x7 = tpA (b + 1) := by rw [ex7, nI_clamp (show b + 1 < 2 ^ 31 by omega)]
            refine vp_callSi (W.runS (As := [.int (tpA (b + 1))]) (rest := [.ref th]) ⟨hx, hb, hml, hown, hts⟩ (kX4_sortOf l dC dI   (tpA (b + 1))) (va_cwS 1 hts zgX4_step_X4_sortOf_36 rfl rfl rfl (by decide +kernel) ⟨(show 0 + 1 ≤ 1 by omega), (show 8 + (1 + 11) + 0 ≤ 21 by omega)⟩) (zSq (hK.sub (tys' := []) [] rfl) (hP.sub (ws' := ([] : va_W)) [] rfl) hE) rfl rfl hl.1 rfl (lv_room (Nat.le_of_ble_eq_true rfl)) dX4_step_168 ⟨(show 0 + 0 ≤ 0 by omega), (show 0 + 0 ≤ 0 by omega)⟩) (fun r8 hw => ?_)
            have hw : (True) := hw
            have w0r8 := hw
            refine vp_callSi (W.runV (As := [.int r8]) (rest := []) ⟨hx, hb, hml, hown, hts⟩ (kX4_joins l dC dI rh th tb sh cI cJ cB rm ry rf tl (b + 1) s4 so4 o5 tpA sw st sf sq ⟨by omega, by omega⟩ r8) (cwV 1 hts zgX4_step_X4_joins_47 rfl rfl rfl (by decide +kernel) ⟨(show 0 + 1 ≤ 1 by omega), (show 8 + (2 + 11) + 0 ≤ 21 by omega)⟩) (zVq (ci := 3) (q0 := 1) (q := (RX4, TX4, 6)) hK (hP.sub (ws' := (rdW rh th tb sh cI cJ cB rm ry rf (nI tl) (nI (b + 1)) s4 so4 o5 tpA sw st sf sq)) [17, 18, 19, 20] rfl) hE rfl rfl rfl) rfl rfl hl.1 rfl (lv_room (Nat.le_of_ble_eq_true rfl)) dX4_step_171 ⟨(show 0 + 0 ≤ 0 by omega), (show 0 + 0 ≤ 0 by omega)⟩) (fun r9 hw => ?_)
            have hw : (r9 = 0 ∨ r9 = 1) := hw
            have w0r9 := hw
            refine lv_if_eq (tgt := 181) hx hb dX4_step_174 (by decide) (fun cp174 => ?_) (fun cp174 => ?_)
            · refine lv_iconst (v := 0) hx hb dX4_step_181 (by decide) ?_
              refine lv_istore_n (lv' := [(1, .int 0), (0, .ref th)]) hx hb dX4_step_182 rfl hl (by decide) rfl (fun ls hl => ?_)
              refine lv_goto (tgt := 109) hx hb dX4_step_183 (by decide) ?_
              exact ih109 (0 : Int32) (b + 1) s4 so4 o5 _ _ ls (by omega) (by first | omega | assumption | trivial) (by first | omega | assumption | trivial) hP hD hS (lv_sub hl [1, 0] rfl)
            · refine lv_iconst (v := 1) hx hb dX4_step_177 (by decide) ?_
              refine lv_goto (tgt := 182) hx hb dX4_step_178 (by decide) ?_
              refine lv_istore_n (lv' := [(1, .int 1), (0, .ref th)]) hx hb dX4_step_182 rfl hl (by decide) rfl (fun ls hl => ?_)
              refine lv_goto (tgt := 109) hx hb dX4_step_183 (by decide) ?_
              exact ih109 (1 : Int32) (b + 1) s4 so4 o5 _ _ ls (by omega) (by first | omega | assumption | trivial) (by first | omega | assumption | trivial) hP hD hS (lv_sub hl [1, 0] rfl)
  have J93 : ∀ (sx : Int32) (b : Nat) (s4 : Int32) (v4 : Int64) (H : Heap) (locs : List Loc) (ls : Array Slot), (ta ≤ b) → (b ≤ tl) → va_P (dC, dI) vwCl (kW bh br rh th tb sh cI cJ cB (nI cc) nA mA aA (fun j => nI (fcA j)) fA (fun j => nI (mcA j)) mmA wA tcA g1A g2A nuA (fun j => nI (erA j)) reA (fun j => nI (liA j)) (fun j => nI (lcA j)) rm ry rf (nI tl) (nI b) s4 so v4 tpA sw st sf sq) H → va_D A (kW bh br rh th tb sh cI cJ cB (nI cc) nA mA aA (fun j => nI (fcA j)) fA (fun j => nI (mcA j)) mmA wA tcA g1A g2A nuA (fun j => nI (erA j)) reA (fun j => nI (liA j)) (fun j => nI (lcA j)) rm ry rf (nI tl) (nI b) s4 so v4 tpA sw st sf sq) → va_S A s.heap H locs → lv_has ls 2 [(0, .ref th)] → W p l e (headSpec zwX4_step { frames := 1, cells := 0, slots := 0, locals := 21 }).room s m (([.ref th] : List Value).toArray) below meth c H locs 0 0 (MQ below (va_Qv (fun u : Nat × Int32 × Int32 × Int64 => (ta ≤ (u.1)) ∧ ((u.1) ≤ tl)) (fun u t => zB dC dI (A) (kW bh br rh th tb sh cI cJ cB (nI cc) nA mA aA (fun j => nI (fcA j)) fA (fun j => nI (mcA j)) mmA wA tcA g1A g2A nuA (fun j => nI (erA j)) reA (fun j => nI (liA j)) (fun j => nI (lcA j)) rm ry rf (nI tl) (nI (u.1)) (u.2.1) (u.2.2.1) (u.2.2.2) tpA sw st sf sq) [(cI, .int), (cJ, .long), (cB, .byte)] t) (A)) (([.ref th] : List Value).toArray) s 0 0 A) (F0 m 93 ls [.int sx, .ref th]) := by
    intro sx b s4 v4 H locs ls i93_0 i93_1 hP hD hS hl
    refine va_put (D := (dC, dI)) (ci := 3) (v := .int sx) (ty := (.int)) (C := RX4) (T := TX4) (N := 6) hx hb hts hiX4 tyX4 tyX4_ok nmX4 hown hK hP hD hS 18 rfl rfl 4 (by decide) (hts (.fieldLink RX4 40 "LinkModels$Tokens" "sort" "I") (by decide +kernel)) (fun _ h9 => h9) rfl (by decide +kernel) rfl rfl (Nat.le_of_ble_eq_true rfl) dX4_step_93 (fun H locs hP hD hS => ?_)
    have hP : va_P (dC, dI) vwCl (kW bh br rh th tb sh cI cJ cB (nI cc) nA mA aA (fun j => nI (fcA j)) fA (fun j => nI (mcA j)) mmA wA tcA g1A g2A nuA (fun j => nI (erA j)) reA (fun j => nI (liA j)) (fun j => nI (lcA j)) rm ry rf (nI tl) (nI b) s4 sx v4 tpA sw st sf sq) H := hP
    have hD : va_D A (kW bh br rh th tb sh cI cJ cB (nI cc) nA mA aA (fun j => nI (fcA j)) fA (fun j => nI (mcA j)) mmA wA tcA g1A g2A nuA (fun j => nI (erA j)) reA (fun j => nI (liA j)) (fun j => nI (lcA j)) rm ry rf (nI tl) (nI b) s4 sx v4 tpA sw st sf sq) := hD
    refine lv_aload_n hx hb dX4_step_96 rfl (lv_at hl 0 rfl) ?_
    refine va_get (D := (dC, dI)) (ci := 3) (v := .int sx) (C := RX4) (T := TX4) (N := 6) hx hb hts hiX4 hown hK hP 18 rfl rfl 4 (by decide) (hts (.fieldLink RX4 40 "LinkModels$Tokens" "sort" "I") (by decide +kernel)) (fun _ h9 => h9) rfl dX4_step_97 ?_
    refine lv_if_eq (tgt := 107) hx hb dX4_step_100 (by decide) (fun cp100 => ?_) (fun cp100 => ?_)
    · refine lv_iconst (v := 0) hx hb dX4_step_107 (by decide) ?_
      refine lv_istore_n (lv' := [(1, .int 0), (0, .ref th)]) hx hb dX4_step_108 rfl hl (by decide) rfl (fun ls hl => ?_)
      exact J109 _ (0 : Int32) b s4 sx v4 _ _ ls (Nat.lt_succ_self _) (by first | omega | assumption | trivial) (by first | omega | assumption | trivial) hP hD hS (lv_sub hl [1, 0] rfl)
    · refine lv_iconst (v := 1) hx hb dX4_step_103 (by decide) ?_
      refine lv_goto (tgt := 108) hx hb dX4_step_104 (by decide) ?_
      refine lv_istore_n (lv' := [(1, .int 1), (0, .ref th)]) hx hb dX4_step_108 rfl hl (by decide) rfl (fun ls hl => ?_)
      exact J109 _ (1 : Int32) b s4 sx v4 _ _ ls (Nat.lt_succ_self _) (by first | omega | assumption | trivial) (by first | omega | assumption | trivial) hP hD hS (lv_sub hl [1, 0] rfl)
  have J52 : ∀ (b : Nat) (H : Heap) (locs : List Loc) (ls : Array Slot), (ta ≤ b) → (b ≤ tl) → va_P (dC, dI) vwCl (kW bh br rh th tb sh cI cJ cB (nI cc) nA mA aA (fun j => nI (fcA j)) fA (fun j => nI (mcA j)) mmA wA tcA g1A g2A nuA (fun j => nI (erA j)) reA (fun j => nI (liA j)) (fun j => nI (lcA j)) rm ry rf (nI tl) (nI b) ts so tv tpA sw st sf sq) H → va_D A (kW bh br rh th tb sh cI cJ cB (nI cc) nA mA aA (fun j => nI (fcA j)) fA (fun j => nI (mcA j)) mmA wA tcA g1A g2A nuA (fun j => nI (erA j)) reA (fun j => nI (liA j)) (fun j => nI (lcA j)) rm ry rf (nI tl) (nI b) ts so tv tpA sw st sf sq) → va_S A s.heap H locs → lv_has ls 2 [(0, .ref th)] → W p l e (headSpec zwX4_step { frames := 1, cells := 0, slots := 0, locals := 21 }).room s m (([.ref th] : List Value).toArray) below meth c H locs 0 0 (MQ below (va_Qv (fun u : Nat × Int32 × Int32 × Int64 => (ta ≤ (u.1)) ∧ ((u.1) ≤ tl)) (fun u t => zB dC dI (A) (kW bh br rh th tb sh cI cJ cB (nI cc) nA mA aA (fun j => nI (fcA j)) fA (fun j => nI (mcA j)) mmA wA tcA g1A g2A nuA (fun j => nI (erA j)) reA (fun j => nI (liA j)) (fun j => nI (lcA j)) rm ry rf (nI tl) (nI (u.1)) (u.2.1) (u.2.2.1) (u.2.2.2) tpA sw st sf sq) [(cI, .int), (cJ, .long), (cB, .byte)] t) (A)) (([.ref th] : List Value).toArray) s 0 0 A) (F0 m 52 ls []) := by
    intro b H locs ls i52_0 i52_1 hP hD hS hl
    refine lv_aload_n hx hb dX4_step_52 rfl (lv_at hl 0 rfl) ?_
    refine lv_aload_n hx hb dX4_step_53 rfl (lv_at hl 0 rfl) ?_
    refine va_get (D := (dC, dI)) (ci := 3) (v := .int (nI b)) (C := RX4) (T := TX4) (N := 6) hx hb hts hiX4 hown hK hP 18 rfl rfl 2 (by decide) (hts (.fieldLink RX4 23 "LinkModels$Tokens" "behind" "I") (by decide +kernel)) (fun _ h9 => h9) rfl dX4_step_54 ?_
    refine va_put (D := (dC, dI)) (ci := 3) (v := .int (nI b)) (ty := (.int)) (C := RX4) (T := TX4) (N := 6) hx hb hts hiX4 tyX4 tyX4_ok nmX4 hown hK hP hD hS 18 rfl rfl 3 (by decide) (hts (.fieldLink RX4 29 "LinkModels$Tokens" "start" "I") (by decide +kernel)) (fun _ h9 => h9) rfl (by decide +kernel) rfl rfl (Nat.le_of_ble_eq_true rfl) dX4_step_57 (fun H locs hP hD hS => ?_)
    have hP : va_P (dC, dI) vwCl (kW bh br rh th tb sh cI cJ cB (nI cc) nA mA aA (fun j => nI (fcA j)) fA (fun j => nI (mcA j)) mmA wA tcA g1A g2A nuA (fun j => nI (erA j)) reA (fun j => nI (liA j)) (fun j => nI (lcA j)) rm ry rf (nI tl) (nI b) (nI b) so tv tpA sw st sf sq) H := hP
    have hD : va_D A (kW bh br rh th tb sh cI cJ cB (nI cc) nA mA aA (fun j => nI (fcA j)) fA (fun j => nI (mcA j)) mmA wA tcA g1A g2A nuA (fun j => nI (erA j)) reA (fun j => nI (liA j)) (fun j => nI (lcA j)) rm ry rf (nI tl) (nI b) (nI b) so tv tpA sw st sf sq) := hD
    refine lv_aload_n hx hb dX4_step_60 rfl (lv_at hl 0 rfl) ?_
    refine lv_lconst (v := 0) hx hb dX4_step_61 (by decide) ?_
    refine va_put (D := (dC, dI)) (ci := 3) (v := .long 0) (ty := (.long)) (C := RX4) (T := TX4) (N := 6) hx hb hts hiX4 tyX4 tyX4_ok nmX4 hown hK hP hD hS 18 rfl rfl 5 (by decide) (hts (.fieldLink RX4 32 "LinkModels$Tokens" "value" "J") (by decide +kernel)) (fun _ h9 => h9) rfl (by decide +kernel) rfl rfl (Nat.le_of_ble_eq_true rfl) dX4_step_62 (fun H locs hP hD hS => ?_)
    have hP : va_P (dC, dI) vwCl (kW bh br rh th tb sh cI cJ cB (nI cc) nA mA aA (fun j => nI (fcA j)) fA (fun j => nI (mcA j)) mmA wA tcA g1A g2A nuA (fun j => nI (erA j)) reA (fun j => nI (liA j)) (fun j => nI (lcA j)) rm ry rf (nI tl) (nI b) (nI b) so 0 tpA sw st sf sq) H := hP
    have hD : va_D A (kW bh br rh th tb sh cI cJ cB (nI cc) nA mA aA (fun j => nI (fcA j)) fA (fun j => nI (mcA j)) mmA wA tcA g1A g2A nuA (fun j => nI (erA j)) reA (fun j => nI (liA j)) (fun j => nI (lcA j)) rm ry rf (nI tl) (nI b) (nI b) so 0 tpA sw st sf sq) := hD
    refine lv_aload_n hx hb dX4_step_65 rfl (lv_at hl 0 rfl) ?_
    refine lv_aload_n hx hb dX4_step_66 rfl (lv_at hl 0 rfl) ?_
    refine va_get (D := (dC, dI)) (ci := 3) (v := .int (nI b)) (C := RX4) (T := TX4) (N := 6) hx hb hts hiX4 hown hK hP 18 rfl rfl 2 (by decide) (hts (.fieldLink RX4 23 "LinkModels$Tokens" "behind" "I") (by decide +kernel)) (fun _ h9 => h9) rfl dX4_step_67 ?_
    refine lv_aload_n hx hb dX4_step_70 rfl (lv_at hl 0 rfl) ?_
    refine va_get (D := (dC, dI)) (ci := 3) (v := .int (nI tl)) (C := RX4) (T := TX4) (N := 6) hx hb hts hiX4 hown hK hP 18 rfl rfl 1 (by decide) (hts (.fieldLink RX4 19 "LinkModels$Tokens" "length" "I") (by decide +kernel)) (fun _ h9 => h9) rfl dX4_step_71 ?_
    refine lv_icmp_ge (tgt := 92) hx hb dX4_step_74 (by decide) (fun cp74 => ?_) (fun cp74 => ?_)
    · have qcp74 : tl ≤ b := (nI_leI (a := tl) (b := b) (by omega) (by omega)).mp cp74
      refine lv_iconst (v := 0) hx hb dX4_step_92 (by decide) ?_
      exact J93 (0 : Int32) b (nI b) 0 _ _ ls  (by first | omega | assumption | trivial) (by first | omega | assumption | trivial) hP hD hS (lv_sub hl [0] rfl)
    · have qcp74 : ¬ tl ≤ b := fun h9 => cp74 ((nI_leI (a := tl) (b := b) (by omega) (by omega)).mpr h9)
      refine lv_aload_n hx hb dX4_step_77 rfl (lv_at hl 0 rfl) ?_
      refine va_get (D := (dC, dI)) (ci := 3) (v := .ref tb) (C := RX4) (T := TX4) (N := 6) hx hb hts hiX4 hown hK hP 18 rfl rfl 0 (by decide) (hts (.fieldLink RX4 7 "LinkModels$Tokens" "tape" "[B") (by decide +kernel)) (fun _ h9 => h9) rfl dX4_step_78 ?_
      refine lv_aload_n hx hb dX4_step_81 rfl (lv_at hl 0 rfl) ?_
      refine va_get (D := (dC, dI)) (ci := 3) (v := .int (nI b)) (C := RX4) (T := TX4) (N := 6) hx hb hts hiX4 hown hK hP 18 rfl rfl 2 (by decide) (hts (.fieldLink RX4 23 "LinkModels$Tokens" "behind" "I") (by decide +kernel)) (fun _ h9 => h9) rfl dX4_step_82 ?_
      refine va_bald hx hb hK hP 19 2 rfl rfl (vp_in_nI (show b < 800 by omega) (by decide)) dX4_step_85 ?_
      refine lv_topi (fun x10 ex10 => ?_)
      obtain rfl : x10 = tpA b := by rw [ex10, nI_clamp (show b < 2 ^ 31 by omega)]
      refine vp_callSi (W.runS (As := [.int (tpA b)]) (rest := [.ref th]) ⟨hx, hb, hml, hown, hts⟩ (kX4_sortOf l dC dI   (tpA b)) (va_cwS 1 hts zgX4_step_X4_sortOf_36 rfl rfl rfl (by decide +kernel) ⟨(show 0 + 1 ≤ 1 by omega), (show 8 + (1 + 11) + 0 ≤ 21 by omega)⟩) (zSq (hK.sub (tys' := []) [] rfl) (hP.sub (ws' := ([] : va_W)) [] rfl) hE) rfl rfl hl.1 rfl (lv_room (Nat.le_of_ble_eq_true rfl)) dX4_step_86 ⟨(show 0 + 0 ≤ 0 by omega), (show 0 + 0 ≤ 0 by omega)⟩) (fun r11 hw => ?_)
      have hw : (True) := hw
      have w0r11 := hw
      refine lv_goto (tgt := 93) hx hb dX4_step_89 (by decide) ?_
      exact J93 r11 b (nI b) 0 _ _ ls  (by first | omega | assumption | trivial) (by first | omega | assumption | trivial) hP hD hS (lv_sub hl [0] rfl)
  have J0 : ∀ (z0 : Nat) (b : Nat) (H : Heap) (locs : List Loc) (ls : Array Slot), tl - b < z0 → (ta ≤ b) → (b ≤ tl) → va_P (dC, dI) vwCl (kW bh br rh th tb sh cI cJ cB (nI cc) nA mA aA (fun j => nI (fcA j)) fA (fun j => nI (mcA j)) mmA wA tcA g1A g2A nuA (fun j => nI (erA j)) reA (fun j => nI (liA j)) (fun j => nI (lcA j)) rm ry rf (nI tl) (nI b) ts so tv tpA sw st sf sq) H → va_D A (kW bh br rh th tb sh cI cJ cB (nI cc) nA mA aA (fun j => nI (fcA j)) fA (fun j => nI (mcA j)) mmA wA tcA g1A g2A nuA (fun j => nI (erA j)) reA (fun j => nI (liA j)) (fun j => nI (lcA j)) rm ry rf (nI tl) (nI b) ts so tv tpA sw st sf sq) → va_S A s.heap H locs → lv_has ls 2 [(0, .ref th)] → W p l e (headSpec zwX4_step { frames := 1, cells := 0, slots := 0, locals := 21 }).room s m (([.ref th] : List Value).toArray) below meth c H locs 0 0 (MQ below (va_Qv (fun u : Nat × Int32 × Int32 × Int64 => (ta ≤ (u.1)) ∧ ((u.1) ≤ tl)) (fun u t => zB dC dI (A) (kW bh br rh th tb sh cI cJ cB (nI cc) nA mA aA (fun j => nI (fcA j)) fA (fun j => nI (mcA j)) mmA wA tcA g1A g2A nuA (fun j => nI (erA j)) reA (fun j => nI (liA j)) (fun j => nI (lcA j)) rm ry rf (nI tl) (nI (u.1)) (u.2.1) (u.2.2.1) (u.2.2.2) tpA sw st sf sq) [(cI, .int), (cJ, .long), (cB, .byte)] t) (A)) (([.ref th] : List Value).toArray) s 0 0 A) (F0 m 0 ls []) := by
    intro z0
    induction z0 with
    | zero => intro b H locs ls h9; exact absurd h9 (Nat.not_lt_zero _)
    | succ z0 ih0 =>
      intro b H locs ls hm0 i0_0 i0_1 hP hD hS hl
      refine lv_aload_n hx hb dX4_step_0 rfl (lv_at hl 0 rfl) ?_
      refine va_get (D := (dC, dI)) (ci := 3) (v := .int (nI b)) (C := RX4) (T := TX4) (N := 6) hx hb hts hiX4 hown hK hP 18 rfl rfl 2 (by decide) (hts (.fieldLink RX4 23 "LinkModels$Tokens" "behind" "I") (by decide +kernel)) (fun _ h9 => h9) rfl dX4_step_1 ?_
      refine lv_aload_n hx hb dX4_step_4 rfl (lv_at hl 0 rfl) ?_
      refine va_get (D := (dC, dI)) (ci := 3) (v := .int (nI tl)) (C := RX4) (T := TX4) (N := 6) hx hb hts hiX4 hown hK hP 18 rfl rfl 1 (by decide) (hts (.fieldLink RX4 19 "LinkModels$Tokens" "length" "I") (by decide +kernel)) (fun _ h9 => h9) rfl dX4_step_5 ?_
      refine lv_icmp_ge (tgt := 52) hx hb dX4_step_8 (by decide) (fun cp8 => ?_) (fun cp8 => ?_)
      · have qcp8 : tl ≤ b := (nI_leI (a := tl) (b := b) (by omega) (by omega)).mp cp8
        exact J52 b _ _ ls  (by first | omega | assumption | trivial) (by first | omega | assumption | trivial) hP hD hS (lv_sub hl [0] rfl)
      · have qcp8 : ¬ tl ≤ b := fun h9 => cp8 ((nI_leI (a := tl) (b := b) (by omega) (by omega)).mpr h9)
        refine lv_aload_n hx hb dX4_step_11 rfl (lv_at hl 0 rfl) ?_
        refine va_get (D := (dC, dI)) (ci := 3) (v := .ref tb) (C := RX4) (T := TX4) (N := 6) hx hb hts hiX4 hown hK hP 18 rfl rfl 0 (by decide) (hts (.fieldLink RX4 7 "LinkModels$Tokens" "tape" "[B") (by decide +kernel)) (fun _ h9 => h9) rfl dX4_step_12 ?_
        refine lv_aload_n hx hb dX4_step_15 rfl (lv_at hl 0 rfl) ?_
        refine va_get (D := (dC, dI)) (ci := 3) (v := .int (nI b)) (C := RX4) (T := TX4) (N := 6) hx hb hts hiX4 hown hK hP 18 rfl rfl 2 (by decide) (hts (.fieldLink RX4 23 "LinkModels$Tokens" "behind" "I") (by decide +kernel)) (fun _ h9 => h9) rfl dX4_step_16 ?_
        refine va_bald hx hb hK hP 19 2 rfl rfl (vp_in_nI (show b < 800 by omega) (by decide)) dX4_step_19 ?_
        refine lv_topi (fun x12 ex12 => ?_)
        obtain rfl : x12 = tpA b := by rw [ex12, nI_clamp (show b < 2 ^ 31 by omega)]
        refine lv_bipush (v := 32) hx hb dX4_step_20 (by decide) ?_
        refine lv_icmp_eq (tgt := 39) hx hb dX4_step_22 (by decide) (fun cp22 => ?_) (fun cp22 => ?_)
        · refine lv_aload_n hx hb dX4_step_39 rfl (lv_at hl 0 rfl) ?_
          refine lv_dup hx hb dX4_step_40 rfl ?_
          refine va_get (D := (dC, dI)) (ci := 3) (v := .int (nI b)) (C := RX4) (T := TX4) (N := 6) hx hb hts hiX4 hown hK hP 18 rfl rfl 2 (by decide) (hts (.fieldLink RX4 23 "LinkModels$Tokens" "behind" "I") (by decide +kernel)) (fun _ h9 => h9) rfl dX4_step_41 ?_
          refine lv_iconst (v := 1) hx hb dX4_step_44 (by decide) ?_
          refine lv_iadd hx hb dX4_step_45 ?_
          refine lv_topi (fun x13 ex13 => ?_)
          obtain rfl : x13 = nI (b + 1) := by rw [ex13]; exact nI_add (b) (1)
          refine va_put (D := (dC, dI)) (ci := 3) (v := .int (nI (b + 1))) (ty := (.int)) (C := RX4) (T := TX4) (N := 6) hx hb hts hiX4 tyX4 tyX4_ok nmX4 hown hK hP hD hS 18 rfl rfl 2 (by decide) (hts (.fieldLink RX4 23 "LinkModels$Tokens" "behind" "I") (by decide +kernel)) (fun _ h9 => h9) rfl (by decide +kernel) rfl rfl (Nat.le_of_ble_eq_true rfl) dX4_step_46 (fun H locs hP hD hS => ?_)
          have hP : va_P (dC, dI) vwCl (kW bh br rh th tb sh cI cJ cB (nI cc) nA mA aA (fun j => nI (fcA j)) fA (fun j => nI (mcA j)) mmA wA tcA g1A g2A nuA (fun j => nI (erA j)) reA (fun j => nI (liA j)) (fun j => nI (lcA j)) rm ry rf (nI tl) (nI (b + 1)) ts so tv tpA sw st sf sq) H := hP
          have hD : va_D A (kW bh br rh th tb sh cI cJ cB (nI cc) nA mA aA (fun j => nI (fcA j)) fA (fun j => nI (mcA j)) mmA wA tcA g1A g2A nuA (fun j => nI (erA j)) reA (fun j => nI (liA j)) (fun j => nI (lcA j)) rm ry rf (nI tl) (nI (b + 1)) ts so tv tpA sw st sf sq) := hD
          refine lv_goto (tgt := 0) hx hb dX4_step_49 (by decide) ?_
          exact ih0 (b + 1) _ _ ls (by omega) (by first | omega | assumption | trivial) (by first | omega | assumption | trivial) hP hD hS (lv_sub hl [0] rfl)
        · refine lv_aload_n hx hb dX4_step_25 rfl (lv_at hl 0 rfl) ?_
          refine va_get (D := (dC, dI)) (ci := 3) (v := .ref tb) (C := RX4) (T := TX4) (N := 6) hx hb hts hiX4 hown hK hP 18 rfl rfl 0 (by decide) (hts (.fieldLink RX4 7 "LinkModels$Tokens" "tape" "[B") (by decide +kernel)) (fun _ h9 => h9) rfl dX4_step_26 ?_
          refine lv_aload_n hx hb dX4_step_29 rfl (lv_at hl 0 rfl) ?_
          refine va_get (D := (dC, dI)) (ci := 3) (v := .int (nI b)) (C := RX4) (T := TX4) (N := 6) hx hb hts hiX4 hown hK hP 18 rfl rfl 2 (by decide) (hts (.fieldLink RX4 23 "LinkModels$Tokens" "behind" "I") (by decide +kernel)) (fun _ h9 => h9) rfl dX4_step_30 ?_
          refine va_bald hx hb hK hP 19 2 rfl rfl (vp_in_nI (show b < 800 by omega) (by decide)) dX4_step_33 ?_
          refine lv_topi (fun x14 ex14 => ?_)
          obtain rfl : x14 = tpA b := by rw [ex14, nI_clamp (show b < 2 ^ 31 by omega)]
          refine lv_bipush (v := 10) hx hb dX4_step_34 (by decide) ?_
          refine lv_icmp_ne (tgt := 52) hx hb dX4_step_36 (by decide) (fun cp36 => ?_) (fun cp36 => ?_)
          · exact J52 b _ _ ls  (by first | omega | assumption | trivial) (by first | omega | assumption | trivial) hP hD hS (lv_sub hl [0] rfl)
          · refine lv_aload_n hx hb dX4_step_39 rfl (lv_at hl 0 rfl) ?_
            refine lv_dup hx hb dX4_step_40 rfl ?_
            refine va_get (D := (dC, dI)) (ci := 3) (v := .int (nI b)) (C := RX4) (T := TX4) (N := 6) hx hb hts hiX4 hown hK hP 18 rfl rfl 2 (by decide) (hts (.fieldLink RX4 23 "LinkModels$Tokens" "behind" "I") (by decide +kernel)) (fun _ h9 => h9) rfl dX4_step_41 ?_
            refine lv_iconst (v := 1) hx hb dX4_step_44 (by decide) ?_
            refine lv_iadd hx hb dX4_step_45 ?_
            refine lv_topi (fun x15 ex15 => ?_)
            obtain rfl : x15 = nI (b + 1) := by rw [ex15]; exact nI_add (b) (1)
            refine va_put (D := (dC, dI)) (ci := 3) (v := .int (nI (b + 1))) (ty := (.int)) (C := RX4) (T := TX4) (N := 6) hx hb hts hiX4 tyX4 tyX4_ok nmX4 hown hK hP hD hS 18 rfl rfl 2 (by decide) (hts (.fieldLink RX4 23 "LinkModels$Tokens" "behind" "I") (by decide +kernel)) (fun _ h9 => h9) rfl (by decide +kernel) rfl rfl (Nat.le_of_ble_eq_true rfl) dX4_step_46 (fun H locs hP hD hS => ?_)
            have hP : va_P (dC, dI) vwCl (kW bh br rh th tb sh cI cJ cB (nI cc) nA mA aA (fun j => nI (fcA j)) fA (fun j => nI (mcA j)) mmA wA tcA g1A g2A nuA (fun j => nI (erA j)) reA (fun j => nI (liA j)) (fun j => nI (lcA j)) rm ry rf (nI tl) (nI (b + 1)) ts so tv tpA sw st sf sq) H := hP
            have hD : va_D A (kW bh br rh th tb sh cI cJ cB (nI cc) nA mA aA (fun j => nI (fcA j)) fA (fun j => nI (mcA j)) mmA wA tcA g1A g2A nuA (fun j => nI (erA j)) reA (fun j => nI (liA j)) (fun j => nI (lcA j)) rm ry rf (nI tl) (nI (b + 1)) ts so tv tpA sw st sf sq) := hD
            refine lv_goto (tgt := 0) hx hb dX4_step_49 (by decide) ?_
            exact ih0 (b + 1) _ _ ls (by omega) (by first | omega | assumption | trivial) (by first | omega | assumption | trivial) hP hD hS (lv_sub hl [0] rfl)
  exact J0 _ ta _ _ ls (Nat.lt_succ_self _) (by first | omega | assumption | trivial) (by first | omega | assumption | trivial) hP hD hS (lv_sub hl [0] rfl)
theorem dX4_open_0 : decode cX4_open 0 = .ok (.aload_n 0, 1) := by decide +kernel
theorem dX4_open_1 : decode cX4_open 1 = .ok (.iload_n 1, 1) := by decide +kernel
theorem dX4_open_2 : decode cX4_open 2 = .ok (.aload_n 0, 1) := by decide +kernel
theorem dX4_open_3 : decode cX4_open 3 = .ok (.getfield 7, 3) := by decide +kernel
theorem dX4_open_6 : decode cX4_open 6 = .ok (.arraylength, 1) := by decide +kernel
theorem dX4_open_7 : decode cX4_open 7 = .ok (.invokestatic 13, 3) := by decide +kernel
theorem dX4_open_10 : decode cX4_open 10 = .ok (.putfield 19, 3) := by decide +kernel
theorem dX4_open_13 : decode cX4_open 13 = .ok (.aload_n 0, 1) := by decide +kernel
theorem dX4_open_14 : decode cX4_open 14 = .ok (.iconst 0, 1) := by decide +kernel
theorem dX4_open_15 : decode cX4_open 15 = .ok (.putfield 23, 3) := by decide +kernel
theorem dX4_open_18 : decode cX4_open 18 = .ok (.aload_n 0, 1) := by decide +kernel
theorem dX4_open_19 : decode cX4_open 19 = .ok (.invokevirtual 26, 3) := by decide +kernel
theorem dX4_open_22 : decode cX4_open 22 = .ok (.return_, 1) := by decide +kernel
def zwX4_open : List Cond := .code yX4_open cX4_open 2 none :: ([.fieldLink RX4 7 "LinkModels$Tokens" "tape" "[B", .methodLink RX4 13 Lib.Math.min.name, .static Lib.Math.min.name, .initialized "java/lang/Math", .code Lib.Math.min.name Lib.Math.min.code 2 (some .int), .fieldLink RX4 19 "LinkModels$Tokens" "length" "I", .fieldLink RX4 23 "LinkModels$Tokens" "behind" "I", .methodLink RX4 26 yX4_step, .instanceMethod yX4_step, .selects RX4 yX4_step yX4_step, .initialized RX4, .code yX4_step cX4_step 2 none, .fieldLink RX4 29 "LinkModels$Tokens" "start" "I", .fieldLink RX4 40 "LinkModels$Tokens" "sort" "I", .fieldLink RX4 32 "LinkModels$Tokens" "value" "J", .methodLink RX4 51 yX4_longest, .instanceMethod yX4_longest, .selects RX4 yX4_longest yX4_longest, .code yX4_longest cX4_longest 1 (some .int), .methodLink RX4 43 yX4_take, .instanceMethod yX4_take, .selects RX4 yX4_take yX4_take, .code yX4_take cX4_take 2 none, .constantLong RX4 55 (10), .methodLink RX4 36 yX4_sortOf, .static yX4_sortOf, .code yX4_sortOf cX4_sortOf 1 (some .int), .methodLink RX4 47 yX4_joins, .instanceMethod yX4_joins, .selects RX4 yX4_joins yX4_joins, .code yX4_joins cX4_joins 2 (some .boolean)] ++ wsX40)
theorem zgX4_open_X4_step_26 : GoodIn zwX4_open (wsV RX4 26 RX4 yX4_step zwX4_step) := goodIn_app (goodIn_r _ [8, 9, 10, 11] rfl (by decide +kernel)) (goodIn_app (goodIn_r _ [12, 7, 13, 14, 6, 1, 15, 16, 17, 18, 11, 19, 20, 21, 22, 23, 24, 25, 26, 27, 28, 29, 30, 31] rfl (by decide +kernel)) (fun w hw => ⟨(List.mem_cons_of_mem _ (List.mem_append_right _ hw)), good_of_word (List.all_eq_true.mp zgX4 w hw)⟩))
set_option maxHeartbeats 4000000 in
set_option maxRecDepth 100000 in
theorem kX4_open (l : Launch) (dC : Nat → ClassId) (dI : Nat → Nat → Nat) (bh : Nat) (br : Nat → Nat) (rh : Nat) (th : Nat) (tb : Nat) (sh : Nat) (cI : ClassId) (cJ : ClassId) (cB : ClassId) (cc : Nat) (nA : Nat → Int32) (mA : Nat → Int32) (aA : Nat → Int32) (fcA : Nat → Nat) (fA : Nat → Int32) (mcA : Nat → Nat) (mmA : Nat → Int32) (wA : Nat → Int64) (tcA : Nat → Int32) (g1A : Nat → Int32) (g2A : Nat → Int32) (nuA : Nat → Int32) (erA : Nat → Nat) (reA : Nat → Int32) (liA : Nat → Nat) (lcA : Nat → Nat) (rm : Int32) (ry : Int32) (rf : Int32) (tl : Nat) (ta : Nat) (ts : Int32) (so : Int32) (tv : Int64) (tpA : Nat → Int32) (sw : Int64) (st : Int32) (sf : Int32) (sq : Int32) (hI : kWI cc fcA mcA erA liA lcA tl ta) (ln : Nat) (hp0 : ln ≤ 800) (sz : Nat) : Met l yX4_open zwX4_open ({ frames := 2, cells := 0, slots := 0, locals := 42 }) (zPk dC dI [.ref th, .int (nI ln)] sz (kW bh br rh th tb sh cI cJ cB (nI cc) nA mA aA (fun j => nI (fcA j)) fA (fun j => nI (mcA j)) mmA wA tcA g1A g2A nuA (fun j => nI (erA j)) reA (fun j => nI (liA j)) (fun j => nI (lcA j)) rm ry rf (nI tl) (nI ta) ts so tv tpA sw st sf sq) [(cI, .int), (cJ, .long), (cB, .byte)]) (va_Qv (fun u : Nat × Nat × Int32 × Int32 × Int64 => ((u.1) = ln) ∧ ((u.2.1) ≤ ln)) (fun u t => zB dC dI (va_A (kW bh br rh th tb sh cI cJ cB (nI cc) nA mA aA (fun j => nI (fcA j)) fA (fun j => nI (mcA j)) mmA wA tcA g1A g2A nuA (fun j => nI (erA j)) reA (fun j => nI (liA j)) (fun j => nI (lcA j)) rm ry rf (nI tl) (nI ta) ts so tv tpA sw st sf sq) sz) (kW bh br rh th tb sh cI cJ cB (nI cc) nA mA aA (fun j => nI (fcA j)) fA (fun j => nI (mcA j)) mmA wA tcA g1A g2A nuA (fun j => nI (erA j)) reA (fun j => nI (liA j)) (fun j => nI (lcA j)) rm ry rf (nI (u.1)) (nI (u.2.1)) (u.2.2.1) (u.2.2.2.1) (u.2.2.2.2) tpA sw st sf sq) [(cI, .int), (cJ, .long), (cB, .byte)] t) (va_A (kW bh br rh th tb sh cI cJ cB (nI cc) nA mA aA (fun j => nI (fcA j)) fA (fun j => nI (mcA j)) mmA wA tcA g1A g2A nuA (fun j => nI (erA j)) reA (fun j => nI (liA j)) (fun j => nI (lcA j)) rm ry rf (nI tl) (nI ta) ts so tv tpA sw st sf sq) sz)) 0 0 (va_A (kW bh br rh th tb sh cI cJ cB (nI cc) nA mA aA (fun j => nI (fcA j)) fA (fun j => nI (mcA j)) mmA wA tcA g1A g2A nuA (fun j => nI (erA j)) reA (fun j => nI (liA j)) (fun j => nI (lcA j)) rm ry rf (nI tl) (nI ta) ts so tv tpA sw st sf sq) sz) := by
  refine Met.ofW (cc := cX4_open) (maxL := 2) (ret := none) (by decide) rfl ?_
  intro p e s m args below meth c s₁ B hml hv
  obtain ⟨rfl, hsz, hP, hK, hD0, hE⟩ := hv
  have hx := B.exec
  have hb := B.bytes
  have hr := B.returns
  have hts := atoms_spec (ws := zwX4_open) B.pre
  have hown : s.vm.findClass RX4 = some m.cls := findClass_of_methodNamed B.named
  have hiX4 : ∀ w ∈ wsX40, w ∈ zwX4_open := (fun w hw => (List.mem_cons_of_mem _ (List.mem_append_right _ hw)))
  obtain ⟨hcc, htl, hta, hfcA, hmcA, herA, hliA, hlcA⟩ := hI
  subst hsz
  have hD := hD0.self (sz := s.heap.size)
  generalize hAe : va_A (kW bh br rh th tb sh cI cJ cB (nI cc) nA mA aA (fun j => nI (fcA j)) fA (fun j => nI (mcA j)) mmA wA tcA g1A g2A nuA (fun j => nI (erA j)) reA (fun j => nI (liA j)) (fun j => nI (lcA j)) rm ry rf (nI tl) (nI ta) ts so tv tpA sw st sf sq) s.heap.size = A at hD ⊢
  have hA : ∀ q : Nat, s.heap.size ≤ q → A q := fun q h => by rw [← hAe]; exact Or.inr h
  have hS : va_S A s.heap s.heap [] := va_S.rf
  have hl := lv_entry ([.ref th, .int (nI ln)]) (n := 2) (Nat.le_of_ble_eq_true rfl)
  rw [lg_entry_eq]
  generalize (lg_sl ([.ref th, .int (nI ln)]) ++ List.replicate (2 - (lg_sl ([.ref th, .int (nI ln)])).length) Slot.unset).toArray = ls at hl ⊢
  have hl : lv_has ls 2 [(0, .ref th), (1, .int (nI ln))] := hl
  refine lv_aload_n hx hb dX4_open_0 rfl (lv_at hl 0 rfl) ?_
  refine lv_iload_n hx hb dX4_open_1 rfl (lv_at hl 1 rfl) ?_
  refine lv_aload_n hx hb dX4_open_2 rfl (lv_at hl 0 rfl) ?_
  refine va_get (D := (dC, dI)) (ci := 3) (v := .ref tb) (C := RX4) (T := TX4) (N := 6) hx hb hts hiX4 hown hK hP 18 rfl rfl 0 (by decide) (hts (.fieldLink RX4 7 "LinkModels$Tokens" "tape" "[B") (by decide +kernel)) (fun _ h9 => h9) rfl dX4_open_3 ?_
  refine va_alen (v := 800) hx hb hK hP 19 2 rfl rfl (show Int32.ofNat 800 = 800 by decide) dX4_open_6 ?_
  refine va_mmin hx hb (by rw [hml]; exact hl.1.symm) hown (hts (.methodLink RX4 13 Lib.Math.min.name) (by decide +kernel)) (hts (.static Lib.Math.min.name) (by decide +kernel)) (hts (.initialized "java/lang/Math") (by decide +kernel)) (hts (.code Lib.Math.min.name Lib.Math.min.code 2 (some .int)) (by decide +kernel)) (Nat.le_of_ble_eq_true rfl) (Nat.le_of_ble_eq_true rfl) (show 0 ≤ 0 by omega) (show 0 ≤ 0 by omega) dX4_open_7 ?_
  refine lv_topi (fun x1 ex1 => ?_)
  obtain rfl : x1 = nI ln := by rw [ex1]; exact if_neg (fun h9 => absurd ((nI_ltI (a := 800) (b := ln) (by omega) (by omega)).mp h9) (by omega))
  refine va_put (D := (dC, dI)) (ci := 3) (v := .int (nI ln)) (ty := (.int)) (C := RX4) (T := TX4) (N := 6) hx hb hts hiX4 tyX4 tyX4_ok nmX4 hown hK hP hD hS 18 rfl rfl 1 (by decide) (hts (.fieldLink RX4 19 "LinkModels$Tokens" "length" "I") (by decide +kernel)) (fun _ h9 => h9) rfl (by decide +kernel) rfl rfl (Nat.le_of_ble_eq_true rfl) dX4_open_10 (fun H locs hP hD hS => ?_)
  have hP : va_P (dC, dI) vwCl (kW bh br rh th tb sh cI cJ cB (nI cc) nA mA aA (fun j => nI (fcA j)) fA (fun j => nI (mcA j)) mmA wA tcA g1A g2A nuA (fun j => nI (erA j)) reA (fun j => nI (liA j)) (fun j => nI (lcA j)) rm ry rf (nI ln) (nI ta) ts so tv tpA sw st sf sq) H := hP
  have hD : va_D A (kW bh br rh th tb sh cI cJ cB (nI cc) nA mA aA (fun j => nI (fcA j)) fA (fun j => nI (mcA j)) mmA wA tcA g1A g2A nuA (fun j => nI (erA j)) reA (fun j => nI (liA j)) (fun j => nI (lcA j)) rm ry rf (nI ln) (nI ta) ts so tv tpA sw st sf sq) := hD
  refine lv_aload_n hx hb dX4_open_13 rfl (lv_at hl 0 rfl) ?_
  refine lv_iconst (v := 0) hx hb dX4_open_14 (by decide) ?_
  refine va_put (D := (dC, dI)) (ci := 3) (v := .int 0) (ty := (.int)) (C := RX4) (T := TX4) (N := 6) hx hb hts hiX4 tyX4 tyX4_ok nmX4 hown hK hP hD hS 18 rfl rfl 2 (by decide) (hts (.fieldLink RX4 23 "LinkModels$Tokens" "behind" "I") (by decide +kernel)) (fun _ h9 => h9) rfl (by decide +kernel) rfl rfl (Nat.le_of_ble_eq_true rfl) dX4_open_15 (fun H locs hP hD hS => ?_)
  have hP : va_P (dC, dI) vwCl (kW bh br rh th tb sh cI cJ cB (nI cc) nA mA aA (fun j => nI (fcA j)) fA (fun j => nI (mcA j)) mmA wA tcA g1A g2A nuA (fun j => nI (erA j)) reA (fun j => nI (liA j)) (fun j => nI (lcA j)) rm ry rf (nI ln) 0 ts so tv tpA sw st sf sq) H := hP
  have hD : va_D A (kW bh br rh th tb sh cI cJ cB (nI cc) nA mA aA (fun j => nI (fcA j)) fA (fun j => nI (mcA j)) mmA wA tcA g1A g2A nuA (fun j => nI (erA j)) reA (fun j => nI (liA j)) (fun j => nI (lcA j)) rm ry rf (nI ln) 0 ts so tv tpA sw st sf sq) := hD
  refine lv_aload_n hx hb dX4_open_18 rfl (lv_at hl 0 rfl) ?_
  have hFc := z_freeW hD hS hA
  refine va_callv (va_runV (As := []) (rest := []) ⟨hx, hb, hml, hown, hts⟩ (kX4_step l dC dI bh br rh th tb sh cI cJ cB cc nA mA aA fcA fA mcA mmA wA tcA g1A g2A nuA erA reA liA lcA rm ry rf ln 0 ts so tv tpA sw st sf sq ⟨by omega, by omega, by omega, hfcA, hmcA, herA, hliA, hlcA⟩ H.size) (cwV 0 hts zgX4_open_X4_step_26 rfl rfl rfl (by decide +kernel) ⟨(show 1 + 1 ≤ 2 by omega), (show 8 + (2 + 11) + 21 ≤ 42 by omega)⟩) (zVk (ci := 3) (q0 := 18) (q := (RX4, TX4, 6)) hK hP hD hE rfl rfl rfl) rfl rfl hl.1 rfl (lv_room (Nat.le_of_ble_eq_true rfl)) dX4_open_19 ⟨(show 0 + 0 ≤ 0 by omega), (show 0 + 0 ≤ 0 by omega)⟩) hS (fun q _ h => hFc q h) hFc (fun u7 t H1 locs ht hvm hw hB hz1 hk1 hS => ?_)
  obtain ⟨o3, o4, o5, o6⟩ := u7
  obtain ⟨hP, hK9, hD⟩ := hB
  rw [ht] at hP
  have hD := hD.weaken (fun k q _ h => hFc q.1 h)
  generalize H1 = H at hP hS
  have hP : va_P (dC, dI) vwCl (kW bh br rh th tb sh cI cJ cB (nI cc) nA mA aA (fun j => nI (fcA j)) fA (fun j => nI (mcA j)) mmA wA tcA g1A g2A nuA (fun j => nI (erA j)) reA (fun j => nI (liA j)) (fun j => nI (lcA j)) rm ry rf (nI ln) (nI o3) o4 o5 o6 tpA sw st sf sq) H := hP
  have hD : va_D A (kW bh br rh th tb sh cI cJ cB (nI cc) nA mA aA (fun j => nI (fcA j)) fA (fun j => nI (mcA j)) mmA wA tcA g1A g2A nuA (fun j => nI (erA j)) reA (fun j => nI (liA j)) (fun j => nI (lcA j)) rm ry rf (nI ln) (nI o3) o4 o5 o6 tpA sw st sf sq) := hD
  have hw : (0 ≤ o3) ∧ (o3 ≤ ln) := hw
  obtain ⟨w0r2, w1r2⟩ := hw
  have hP9 : va_P (dC, dI) vwCl (kW bh br rh th tb sh cI cJ cB (nI cc) nA mA aA (fun j => nI (fcA j)) fA (fun j => nI (mcA j)) mmA wA tcA g1A g2A nuA (fun j => nI (erA j)) reA (fun j => nI (liA j)) (fun j => nI (lcA j)) rm ry rf (nI ln) (nI o3) o4 o5 o6 tpA sw st sf sq) H := hP
  have hD9 : va_D A (kW bh br rh th tb sh cI cJ cB (nI cc) nA mA aA (fun j => nI (fcA j)) fA (fun j => nI (mcA j)) mmA wA tcA g1A g2A nuA (fun j => nI (erA j)) reA (fun j => nI (liA j)) (fun j => nI (lcA j)) rm ry rf (nI ln) (nI o3) o4 o5 o6 tpA sw st sf sq) := hD
  exact W.vret hx hb hr (fun t ht hW => ⟨⟨(ln, o3, o4, o5, o6), rfl, ⟨(by first | omega | assumption | trivial), (by first | omega | assumption | trivial)⟩, by rw [ht]; exact hP9, va_K.moved hW.alike hK, hD9⟩, hS.F ht⟩) hS.2.2 dX4_open_22
