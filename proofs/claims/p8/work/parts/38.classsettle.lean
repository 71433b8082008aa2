theorem dX0_joinLine_0 : decode cX0_joinLine 0 = .ok (.iload_n 2, 1) := by decide +kernel
theorem dX0_joinLine_1 : decode cX0_joinLine 1 = .ok (.iconst (-1), 1) := by decide +kernel
theorem dX0_joinLine_2 : decode cX0_joinLine 2 = .ok (.if_icmp .ne 4, 3) := by decide +kernel
theorem dX0_joinLine_5 : decode cX0_joinLine 5 = .ok (.return_, 1) := by decide +kernel
theorem dX0_joinLine_6 : decode cX0_joinLine 6 = .ok (.iconst 0, 1) := by decide +kernel
theorem dX0_joinLine_7 : decode cX0_joinLine 7 = .ok (.istore_n 3, 1) := by decide +kernel
theorem dX0_joinLine_8 : decode cX0_joinLine 8 = .ok (.iload_n 3, 1) := by decide +kernel
theorem dX0_joinLine_9 : decode cX0_joinLine 9 = .ok (.aload_n 0, 1) := by decide +kernel
theorem dX0_joinLine_10 : decode cX0_joinLine 10 = .ok (.getfield 58, 3) := by decide +kernel
theorem dX0_joinLine_13 : decode cX0_joinLine 13 = .ok (.iload_n 2, 1) := by decide +kernel
theorem dX0_joinLine_14 : decode cX0_joinLine 14 = .ok (.iaload, 1) := by decide +kernel
theorem dX0_joinLine_15 : decode cX0_joinLine 15 = .ok (.if_icmp .ge 71, 3) := by decide +kernel
theorem dX0_joinLine_18 : decode cX0_joinLine 18 = .ok (.aload_n 0, 1) := by decide +kernel
theorem dX0_joinLine_19 : decode cX0_joinLine 19 = .ok (.getfield 55, 3) := by decide +kernel
theorem dX0_joinLine_22 : decode cX0_joinLine 22 = .ok (.iload_n 2, 1) := by decide +kernel
theorem dX0_joinLine_23 : decode cX0_joinLine 23 = .ok (.bipush 16, 2) := by decide +kernel
theorem dX0_joinLine_25 : decode cX0_joinLine 25 = .ok (.imul, 1) := by decide +kernel
theorem dX0_joinLine_26 : decode cX0_joinLine 26 = .ok (.iload_n 3, 1) := by decide +kernel
theorem dX0_joinLine_27 : decode cX0_joinLine 27 = .ok (.iadd, 1) := by decide +kernel
theorem dX0_joinLine_28 : decode cX0_joinLine 28 = .ok (.iaload, 1) := by decide +kernel
theorem dX0_joinLine_29 : decode cX0_joinLine 29 = .ok (.istore 4, 2) := by decide +kernel
theorem dX0_joinLine_31 : decode cX0_joinLine 31 = .ok (.aload_n 0, 1) := by decide +kernel
theorem dX0_joinLine_32 : decode cX0_joinLine 32 = .ok (.iload_n 1, 1) := by decide +kernel
theorem dX0_joinLine_33 : decode cX0_joinLine 33 = .ok (.iload 4, 2) := by decide +kernel
theorem dX0_joinLine_35 : decode cX0_joinLine 35 = .ok (.invokevirtual 122, 3) := by decide +kernel
theorem dX0_joinLine_38 : decode cX0_joinLine 38 = .ok (.ifCond .ne 42, 3) := by decide +kernel
theorem dX0_joinLine_41 : decode cX0_joinLine 41 = .ok (.aload_n 0, 1) := by decide +kernel
theorem dX0_joinLine_42 : decode cX0_joinLine 42 = .ok (.getfield 58, 3) := by decide +kernel
theorem dX0_joinLine_45 : decode cX0_joinLine 45 = .ok (.iload_n 1, 1) := by decide +kernel
theorem dX0_joinLine_46 : decode cX0_joinLine 46 = .ok (.iaload, 1) := by decide +kernel
theorem dX0_joinLine_47 : decode cX0_joinLine 47 = .ok (.bipush 16, 2) := by decide +kernel
theorem dX0_joinLine_49 : decode cX0_joinLine 49 = .ok (.if_icmp .ge 31, 3) := by decide +kernel
theorem dX0_joinLine_52 : decode cX0_joinLine 52 = .ok (.aload_n 0, 1) := by decide +kernel
theorem dX0_joinLine_53 : decode cX0_joinLine 53 = .ok (.getfield 55, 3) := by decide +kernel
theorem dX0_joinLine_56 : decode cX0_joinLine 56 = .ok (.iload_n 1, 1) := by decide +kernel
theorem dX0_joinLine_57 : decode cX0_joinLine 57 = .ok (.bipush 16, 2) := by decide +kernel
theorem dX0_joinLine_59 : decode cX0_joinLine 59 = .ok (.imul, 1) := by decide +kernel
theorem dX0_joinLine_60 : decode cX0_joinLine 60 = .ok (.aload_n 0, 1) := by decide +kernel
theorem dX0_joinLine_61 : decode cX0_joinLine 61 = .ok (.getfield 58, 3) := by decide +kernel
theorem dX0_joinLine_64 : decode cX0_joinLine 64 = .ok (.iload_n 1, 1) := by decide +kernel
theorem dX0_joinLine_65 : decode cX0_joinLine 65 = .ok (.iaload, 1) := by decide +kernel
theorem dX0_joinLine_66 : decode cX0_joinLine 66 = .ok (.iadd, 1) := by decide +kernel
theorem dX0_joinLine_67 : decode cX0_joinLine 67 = .ok (.iload 4, 2) := by decide +kernel
theorem dX0_joinLine_69 : decode cX0_joinLine 69 = .ok (.iastore, 1) := by decide +kernel
theorem dX0_joinLine_70 : decode cX0_joinLine 70 = .ok (.aload_n 0, 1) := by decide +kernel
theorem dX0_joinLine_71 : decode cX0_joinLine 71 = .ok (.getfield 58, 3) := by decide +kernel
theorem dX0_joinLine_74 : decode cX0_joinLine 74 = .ok (.iload_n 1, 1) := by decide +kernel
theorem dX0_joinLine_75 : decode cX0_joinLine 75 = .ok (.dup2, 1) := by decide +kernel
theorem dX0_joinLine_76 : decode cX0_joinLine 76 = .ok (.iaload, 1) := by decide +kernel
theorem dX0_joinLine_77 : decode cX0_joinLine 77 = .ok (.iconst 1, 1) := by decide +kernel
theorem dX0_joinLine_78 : decode cX0_joinLine 78 = .ok (.iadd, 1) := by decide +kernel
theorem dX0_joinLine_79 : decode cX0_joinLine 79 = .ok (.iastore, 1) := by decide +kernel
theorem dX0_joinLine_80 : decode cX0_joinLine 80 = .ok (.iinc 3 1, 3) := by decide +kernel
theorem dX0_joinLine_83 : decode cX0_joinLine 83 = .ok (.goto (-75), 3) := by decide +kernel
theorem dX0_joinLine_86 : decode cX0_joinLine 86 = .ok (.return_, 1) := by decide +kernel
def zwX0_joinLine : List Cond := .code yX0_joinLine cX0_joinLine 5 none :: ([.fieldLink RX0 58 "LinkModels$Build" "lineCounts" "[I", .fieldLink RX0 55 "LinkModels$Build" "lines" "[I", .methodLink RX0 122 yX0_isInLine, .instanceMethod yX0_isInLine, .selects RX0 yX0_isInLine yX0_isInLine, .initialized RX0, .code yX0_isInLine cX0_isInLine 4 (some .boolean)] ++ wsX00)
set_option maxRecDepth 100000 in
theorem zgX0_joinLine_X0_isInLine_122 : GoodIn zwX0_joinLine (wsV RX0 122 RX0 yX0_isInLine zwX0_isInLine) := goodIn_app (goodIn_r _ [3, 4, 5, 6] rfl (by decide +kernel)) (goodIn_app (goodIn_r _ [7, 1, 2] rfl (by decide +kernel)) (fun w hw => ⟨(List.mem_cons_of_mem _ (List.mem_append_right _ hw)), good_of_word (List.all_eq_true.mp zgX0 w hw)⟩))
set_option maxHeartbeats 4000000 in
set_option maxRecDepth 100000 in
theorem kX0_joinLine (l : Launch) (dC : Nat → ClassId) (dI : Nat → Nat → Nat) (bh : Nat) (br : Nat → Nat) (cI : ClassId) (cJ : ClassId) (cB : ClassId) (cc : Nat) (nA : Nat → Int32) (mA : Nat → Int32) (aA : Nat → Int32) (fcA : Nat → Nat) (fA : Nat → Int32) (mcA : Nat → Nat) (mmA : Nat → Int32) (wA : Nat → Int64) (tcA : Nat → Int32) (g1A : Nat → Int32) (g2A : Nat → Int32) (nuA : Nat → Int32) (erA : Nat → Nat) (reA : Nat → Int32) (liA : Nat → Nat) (lcA : Nat → Nat) (hI : bWI cc fcA mcA erA liA lcA) (ci : Nat) (ot : Int32) (hpm_ot : zM ot (fun k => k < 16)) (hp0 : ci < 16) (sz : Nat) : Met l yX0_joinLine zwX0_joinLine ({ frames := 1, cells := 0, slots := 0, locals := 23 }) (zPk dC dI [.ref bh, .int (nI ci), .int ot] sz (bW bh br cI cJ cB (nI cc) nA mA aA (fun j => nI (fcA j)) fA (fun j => nI (mcA j)) mmA wA tcA g1A g2A nuA (fun j => nI (erA j)) reA (fun j => nI (liA j)) (fun j => nI (lcA j))) [(cI, .int), (cJ, .long), (cB, .byte)]) (va_Qv (fun u : (Nat → Nat) × (Nat → Nat) => (∀ j, (u.1) j ≤ 15) ∧ (∀ j, (u.2) j ≤ 16)) (fun u t => zB dC dI (va_A (bW bh br cI cJ cB (nI cc) nA mA aA (fun j => nI (fcA j)) fA (fun j => nI (mcA j)) mmA wA tcA g1A g2A nuA (fun j => nI (erA j)) reA (fun j => nI (liA j)) (fun j => nI (lcA j))) sz) (bW bh br cI cJ cB (nI cc) nA mA aA (fun j => nI (fcA j)) fA (fun j => nI (mcA j)) mmA wA tcA g1A g2A nuA (fun j => nI (erA j)) reA (fun j => nI ((u.1) j)) (fun j => nI ((u.2) j))) [(cI, .int), (cJ, .long), (cB, .byte)] t) (va_A (bW bh br cI cJ cB (nI cc) nA mA aA (fun j => nI (fcA j)) fA (fun j => nI (mcA j)) mmA wA tcA g1A g2A nuA (fun j => nI (erA j)) reA (fun j => nI (liA j)) (fun j => nI (lcA j))) sz)) 0 0 (va_A (bW bh br cI cJ cB (nI cc) nA mA aA (fun j => nI (fcA j)) fA (fun j => nI (mcA j)) mmA wA tcA g1A g2A nuA (fun j => nI (erA j)) reA (fun j => nI (liA j)) (fun j => nI (lcA j))) sz) := by
  refine Met.ofW (cc := cX0_joinLine) (maxL := 5) (ret := none) (by decide) rfl ?_
  intro p e s m args below meth c s₁ B hml hv
  obtain ⟨rfl, hsz, hP, hK, hD0, hE⟩ := hv
  have hx := B.exec
  have hb := B.bytes
  have hr := B.returns
  have hts := atoms_spec (ws := zwX0_joinLine) B.pre
  have hown : s.vm.findClass RX0 = some m.cls := findClass_of_methodNamed B.named
  have hiX0 : ∀ w ∈ wsX00, w ∈ zwX0_joinLine := (fun w hw => (List.mem_cons_of_mem _ (List.mem_append_right _ hw)))
  obtain ⟨hcc, hfcA, hmcA, herA, hliA, hlcA⟩ := hI
  subst hsz
  have hD := hD0.self (sz := s.heap.size)
  generalize hAe : va_A (bW bh br cI cJ cB (nI cc) nA mA aA (fun j => nI (fcA j)) fA (fun j => nI (mcA j)) mmA wA tcA g1A g2A nuA (fun j => nI (erA j)) reA (fun j => nI (liA j)) (fun j => nI (lcA j))) s.heap.size = A at hD ⊢
  have hA : ∀ q : Nat, s.heap.size ≤ q → A q := fun q h => by rw [← hAe]; exact Or.inr h
  have hS : va_S A s.heap s.heap [] := va_S.rf
  have hl := lv_entry ([.ref bh, .int (nI ci), .int ot]) (n := 5) (Nat.le_of_ble_eq_true rfl)
  rw [lg_entry_eq]
  generalize (lg_sl ([.ref bh, .int (nI ci), .int ot]) ++ List.replicate (5 - (lg_sl ([.ref bh, .int (nI ci), .int ot])).length) Slot.unset).toArray = ls at hl ⊢
  have hl : lv_has ls 5 [(0, .ref bh), (1, .int (nI ci)), (2, .int ot)] := hl
  have J8 : ∀ (z8 : Nat) (o2 : Nat) (ii : Nat) (li2 : Nat → Nat) (lc2 : Nat → Nat) (H : Heap) (locs : List Loc) (ls : Array Slot), 16 - ii < z8 → (∀ j, li2 j ≤ 15) → (∀ j, lc2 j ≤ 16) → (ii ≤ 16) → (o2 < 16) → va_P (dC, dI) vwCl (bW bh br cI cJ cB (nI cc) nA mA aA (fun j => nI (fcA j)) fA (fun j => nI (mcA j)) mmA wA tcA g1A g2A nuA (fun j => nI (erA j)) reA (fun j => nI (li2 j)) (fun j => nI (lc2 j))) H → va_D A (bW bh br cI cJ cB (nI cc) nA mA aA (fun j => nI (fcA j)) fA (fun j => nI (mcA j)) mmA wA tcA g1A g2A nuA (fun j => nI (erA j)) reA (fun j => nI (li2 j)) (fun j => nI (lc2 j))) → va_S A s.heap H locs → lv_has ls 5 [(0, .ref bh), (1, .int (nI ci)), (2, .int (nI o2)), (3, .int (nI ii))] → W p l e (headSpec zwX0_joinLine { frames := 1, cells := 0, slots := 0, locals := 23 }).room s m (([.ref bh, .int (nI ci), .int ot] : List Value).toArray) below meth c H locs 0 0 (MQ below (va_Qv (fun u : (Nat → Nat) × (Nat → Nat) => (∀ j, (u.1) j ≤ 15) ∧ (∀ j, (u.2) j ≤ 16)) (fun u t => zB dC dI (A) (bW bh br cI cJ cB (nI cc) nA mA aA (fun j => nI (fcA j)) fA (fun j => nI (mcA j)) mmA wA tcA g1A g2A nuA (fun j => nI (erA j)) reA (fun j => nI ((u.1) j)) (fun j => nI ((u.2) j))) [(cI, .int), (cJ, .long), (cB, .byte)] t) (A)) (([.ref bh, .int (nI ci), .int ot] : List Value).toArray) s 0 0 A) (F0 m 8 ls []) := by
    intro z8
    induction z8 with
    | zero => intro o2 ii li2 lc2 H locs ls h9; exact absurd h9 (Nat.not_lt_zero _)
    | succ z8 ih8 =>
      intro o2 ii li2 lc2 H locs ls hm8 hbli2 hblc2 i8_0 i8_1 hP hD hS hl
      have hl9 := hblc2 ci
      have hl8 := hblc2 o2
      refine lv_iload_n hx hb dX0_joinLine_8 rfl (lv_at hl 3 rfl) ?_
      refine lv_aload_n hx hb dX0_joinLine_9 rfl (lv_at hl 0 rfl) ?_
      refine va_get (D := (dC, dI)) (ci := 0) (v := .ref (br 16)) (C := RX0) (T := TX0) (N := 17) hx hb hts hiX0 hown hK hP 0 rfl rfl 16 (by decide) (hts (.fieldLink RX0 58 "LinkModels$Build" "lineCounts" "[I") (by decide +kernel)) (fun _ h9 => h9) rfl dX0_joinLine_10 ?_
      refine lv_iload_n hx hb dX0_joinLine_13 rfl (lv_at hl 2 rfl) ?_
      refine va_iald hx hb hK hP 16 0 rfl rfl (vp_in_nI (show o2 < 16 by omega) (by decide)) dX0_joinLine_14 ?_
      refine lv_topi (fun x1 ex1 => ?_)
      obtain rfl : x1 = nI (lc2 o2) := by rw [ex1, nI_clamp (show o2 < 2 ^ 31 by omega)]
      have hqx1 := hblc2 o2
      refine lv_icmp_ge (tgt := 86) hx hb dX0_joinLine_15 (by decide) (fun cp15 => ?_) (fun cp15 => ?_)
      · have qcp15 : (lc2 o2) ≤ ii := (nI_leI (a := lc2 o2) (b := ii) (by omega) (by omega)).mp cp15
        have hP9 : va_P (dC, dI) vwCl (bW bh br cI cJ cB (nI cc) nA mA aA (fun j => nI (fcA j)) fA (fun j => nI (mcA j)) mmA wA tcA g1A g2A nuA (fun j => nI (erA j)) reA (fun j => nI (li2 j)) (fun j => nI (lc2 j))) H := hP
        have hD9 : va_D A (bW bh br cI cJ cB (nI cc) nA mA aA (fun j => nI (fcA j)) fA (fun j => nI (mcA j)) mmA wA tcA g1A g2A nuA (fun j => nI (erA j)) reA (fun j => nI (li2 j)) (fun j => nI (lc2 j))) := hD
        exact W.vret hx hb hr (fun t ht hW => ⟨⟨(li2, lc2), rfl, ⟨hbli2, hblc2⟩, by rw [ht]; exact hP9, va_K.moved hW.alike hK, hD9⟩, hS.F ht⟩) hS.2.2 dX0_joinLine_86
      · have qcp15 : ¬ (lc2 o2) ≤ ii := fun h9 => cp15 ((nI_leI (a := lc2 o2) (b := ii) (by omega) (by omega)).mpr h9)
        refine lv_aload_n hx hb dX0_joinLine_18 rfl (lv_at hl 0 rfl) ?_
        refine va_get (D := (dC, dI)) (ci := 0) (v := .ref (br 15)) (C := RX0) (T := TX0) (N := 17) hx hb hts hiX0 hown hK hP 0 rfl rfl 15 (by decide) (hts (.fieldLink RX0 55 "LinkModels$Build" "lines" "[I") (by decide +kernel)) (fun _ h9 => h9) rfl dX0_joinLine_19 ?_
        refine lv_iload_n hx hb dX0_joinLine_22 rfl (lv_at hl 2 rfl) ?_
        refine lv_bipush (v := 16) hx hb dX0_joinLine_23 (by decide) ?_
        refine lv_imul hx hb dX0_joinLine_25 ?_
        refine lv_topi (fun x2 ex2 => ?_)
        obtain rfl : x2 = nI (o2 * 16) := by rw [ex2]; exact pk_mul (o2) (16)
        refine lv_iload_n hx hb dX0_joinLine_26 rfl (lv_at hl 3 rfl) ?_
        refine lv_iadd hx hb dX0_joinLine_27 ?_
        refine lv_topi (fun x3 ex3 => ?_)
        obtain rfl : x3 = nI ((o2 * 16) + ii) := by rw [ex3]; exact nI_add (o2 * 16) (ii)
        refine va_iald hx hb hK hP 15 0 rfl rfl (vp_in_nI (show (o2 * 16) + ii < 256 by omega) (by decide)) dX0_joinLine_28 ?_
        refine lv_topi (fun x4 ex4 => ?_)
        obtain rfl : x4 = nI (li2 ((o2 * 16) + ii)) := by rw [ex4, nI_clamp (show (o2 * 16) + ii < 2 ^ 31 by omega)]
        have hqx4 := hbli2 ((o2 * 16) + ii)
        refine lv_istore (lv' := [(4, .int (nI (li2 ((o2 * 16) + ii)))), (0, .ref bh), (1, .int (nI ci)), (2, .int (nI o2)), (3, .int (nI ii))]) hx hb dX0_joinLine_29 hl (by decide) rfl (fun ls hl => ?_)
        refine lv_aload_n hx hb dX0_joinLine_31 rfl (lv_at hl 1 rfl) ?_
        refine lv_iload_n hx hb dX0_joinLine_32 rfl (lv_at hl 2 rfl) ?_
        refine lv_iload hx hb dX0_joinLine_33 (lv_at hl 0 rfl) ?_
        refine vp_callSi (W.runV (As := [.int (nI ci), .int (nI (li2 ((o2 * 16) + ii)))]) (rest := []) ⟨hx, hb, hml, hown, hts⟩ (kX0_isInLine l dC dI bh br cI cJ cB cc nA mA aA fcA fA mcA mmA wA tcA g1A g2A nuA erA reA li2 lc2 ⟨by omega, hfcA, hmcA, herA, hbli2, hblc2⟩ ci (nI (li2 ((o2 * 16) + ii))) (by first | omega | assumption | trivial)) (cwV 2 hts zgX0_joinLine_X0_isInLine_122 rfl rfl rfl (by decide +kernel) ⟨(show 0 + 1 ≤ 1 by omega), (show 8 + (4 + 11) + 0 ≤ 23 by omega)⟩) (zVq (ci := 0) (q0 := 0) (q := (RX0, TX0, 17)) hK hP hE rfl rfl rfl) rfl rfl hl.1 rfl (lv_room (Nat.le_of_ble_eq_true rfl)) dX0_joinLine_35 ⟨(show 0 + 0 ≤ 0 by omega), (show 0 + 0 ≤ 0 by omega)⟩) (fun r5 hw => ?_)
        have hw : (r5 = 0 ∨ r5 = 1) := hw
        have w0r5 := hw
        refine lv_if_ne (tgt := 80) hx hb dX0_joinLine_38 (by decide) (fun cp38 => ?_) (fun cp38 => ?_)
        · obtain ⟨x6, ex6⟩ : ∃ y : Int32, y = (nI ii) + 1 := ⟨_, rfl⟩
          refine lv_iinc (v := x6) (lv' := [(3, .int x6), (4, .int (nI (li2 ((o2 * 16) + ii)))), (0, .ref bh), (1, .int (nI ci)), (2, .int (nI o2))]) hx hb dX0_joinLine_80 hl (k := 4) rfl (by rw [ex6]; rfl) (by decide) rfl (fun ls hl => ?_)
          obtain rfl : x6 = nI (ii + 1) := by rw [ex6]; exact nI_add (ii) 1
          refine lv_goto (tgt := 8) hx hb dX0_joinLine_83 (by decide) ?_
          exact ih8 o2 (ii + 1) li2 lc2 _ _ ls (by omega) hbli2 hblc2 (by first | omega | assumption | trivial) (by first | omega | assumption | trivial) hP hD hS (lv_sub hl [2, 3, 4, 0] rfl)
        · refine lv_aload_n hx hb dX0_joinLine_41 rfl (lv_at hl 1 rfl) ?_
          refine va_get (D := (dC, dI)) (ci := 0) (v := .ref (br 16)) (C := RX0) (T := TX0) (N := 17) hx hb hts hiX0 hown hK hP 0 rfl rfl 16 (by decide) (hts (.fieldLink RX0 58 "LinkModels$Build" "lineCounts" "[I") (by decide +kernel)) (fun _ h9 => h9) rfl dX0_joinLine_42 ?_
          refine lv_iload_n hx hb dX0_joinLine_45 rfl (lv_at hl 2 rfl) ?_
          refine va_iald hx hb hK hP 16 0 rfl rfl (vp_in_nI (show ci < 16 by omega) (by decide)) dX0_joinLine_46 ?_
          refine lv_topi (fun x7 ex7 => ?_)
          obtain rfl : x7 = nI (lc2 ci) := by rw [ex7, nI_clamp (show ci < 2 ^ 31 by omega)]
          have hqx7 := hblc2 ci
          refine lv_bipush (v := 16) hx hb dX0_joinLine_47 (by decide) ?_
          refine lv_icmp_ge (tgt := 80) hx hb dX0_joinLine_49 (by decide) (fun cp49 => ?_) (fun cp49 => ?_)
          · have qcp49 : 16 ≤ (lc2 ci) := (nI_leI (a := 16) (b := lc2 ci) (by omega) (by omega)).mp cp49
            obtain ⟨x8, ex8⟩ : ∃ y : Int32, y = (nI ii) + 1 := ⟨_, rfl⟩
            refine lv_iinc (v := x8) (lv' := [(3, .int x8), (4, .int (nI (li2 ((o2 * 16) + ii)))), (0, .ref bh), (1, .int (nI ci)), (2, .int (nI o2))]) hx hb dX0_joinLine_80 hl (k := 4) rfl (by rw [ex8]; rfl) (by decide) rfl (fun ls hl => ?_)
            obtain rfl : x8 = nI (ii + 1) := by rw [ex8]; exact nI_add (ii) 1
            refine lv_goto (tgt := 8) hx hb dX0_joinLine_83 (by decide) ?_
            exact ih8 o2 (ii + 1) li2 lc2 _ _ ls (by omega) hbli2 hblc2 (by first | omega | assumption | trivial) (by first | omega | assumption | trivial) hP hD hS (lv_sub hl [2, 3, 4, 0] rfl)
          · have qcp49 : ¬ 16 ≤ (lc2 ci) := fun h9 => cp49 ((nI_leI (a := 16) (b := lc2 ci) (by omega) (by omega)).mpr h9)
            refine lv_aload_n hx hb dX0_joinLine_52 rfl (lv_at hl 1 rfl) ?_
            refine va_get (D := (dC, dI)) (ci := 0) (v := .ref (br 15)) (C := RX0) (T := TX0) (N := 17) hx hb hts hiX0 hown hK hP 0 rfl rfl 15 (by decide) (hts (.fieldLink RX0 55 "LinkModels$Build" "lines" "[I") (by decide +kernel)) (fun _ h9 => h9) rfl dX0_joinLine_53 ?_
            refine lv_iload_n hx hb dX0_joinLine_56 rfl (lv_at hl 2 rfl) ?_
            refine lv_bipush (v := 16) hx hb dX0_joinLine_57 (by decide) ?_
            refine lv_imul hx hb dX0_joinLine_59 ?_
            refine lv_topi (fun x9 ex9 => ?_)
            obtain rfl : x9 = nI (ci * 16) := by rw [ex9]; exact pk_mul (ci) (16)
            refine lv_aload_n hx hb dX0_joinLine_60 rfl (lv_at hl 1 rfl) ?_
            refine va_get (D := (dC, dI)) (ci := 0) (v := .ref (br 16)) (C := RX0) (T := TX0) (N := 17) hx hb hts hiX0 hown hK hP 0 rfl rfl 16 (by decide) (hts (.fieldLink RX0 58 "LinkModels$Build" "lineCounts" "[I") (by decide +kernel)) (fun _ h9 => h9) rfl dX0_joinLine_61 ?_
            refine lv_iload_n hx hb dX0_joinLine_64 rfl (lv_at hl 2 rfl) ?_
            refine va_iald hx hb hK hP 16 0 rfl rfl (vp_in_nI (show ci < 16 by omega) (by decide)) dX0_joinLine_65 ?_
            refine lv_topi (fun x10 ex10 => ?_)
            obtain rfl : x10 = nI (lc2 ci) := by rw [ex10, nI_clamp (show ci < 2 ^ 31 by omega)]
            have hqx10 := hblc2 ci
            refine lv_iadd hx hb dX0_joinLine_66 ?_
            refine lv_topi (fun x11 ex11 => ?_)
            obtain rfl : x11 = nI ((ci * 16) + (lc2 ci)) := by rw [ex11]; exact nI_add (ci * 16) (lc2 ci)
            refine lv_iload hx hb dX0_joinLine_67 (lv_at hl 0 rfl) ?_
            refine va_iast hx hb hK hP hD hS 15 0 rfl rfl (vp_in_nI (show (ci * 16) + (lc2 ci) < 256 by omega) (by decide)) dX0_joinLine_69 (fun H locs hP hD hS => ?_)
            obtain ⟨f12, ef12⟩ : ∃ g, g = z_up li2 ((ci * 16) + (lc2 ci)) (li2 ((o2 * 16) + ii)) := ⟨_, rfl⟩
            have hP : va_P (dC, dI) vwCl (bW bh br cI cJ cB (nI cc) nA mA aA (fun j => nI (fcA j)) fA (fun j => nI (mcA j)) mmA wA tcA g1A g2A nuA (fun j => nI (erA j)) reA (fun j => nI (f12 j)) (fun j => nI (lc2 j))) H := by rw [ef12, ← z_upd (show (ci * 16) + (lc2 ci) < 2 ^ 31 by omega)]; exact hP
            have hD : va_D A (bW bh br cI cJ cB (nI cc) nA mA aA (fun j => nI (fcA j)) fA (fun j => nI (mcA j)) mmA wA tcA g1A g2A nuA (fun j => nI (erA j)) reA (fun j => nI (f12 j)) (fun j => nI (lc2 j))) := by rw [ef12, ← z_upd (show (ci * 16) + (lc2 ci) < 2 ^ 31 by omega)]; exact hD
            have hbf12 : ∀ j, f12 j ≤ 15 := by rw [ef12]; exact z_upb hbli2 (by omega)
            refine lv_aload_n hx hb dX0_joinLine_70 rfl (lv_at hl 1 rfl) ?_
            refine va_get (D := (dC, dI)) (ci := 0) (v := .ref (br 16)) (C := RX0) (T := TX0) (N := 17) hx hb hts hiX0 hown hK hP 0 rfl rfl 16 (by decide) (hts (.fieldLink RX0 58 "LinkModels$Build" "lineCounts" "[I") (by decide +kernel)) (fun _ h9 => h9) rfl dX0_joinLine_71 ?_
            refine lv_iload_n hx hb dX0_joinLine_74 rfl (lv_at hl 2 rfl) ?_
            refine lv_dup2_11 hx hb dX0_joinLine_75 rfl rfl ?_
            refine va_iald hx hb hK hP 16 0 rfl rfl (vp_in_nI (show ci < 16 by omega) (by decide)) dX0_joinLine_76 ?_
            refine lv_topi (fun x13 ex13 => ?_)
            obtain rfl : x13 = nI (lc2 ci) := by rw [ex13, nI_clamp (show ci < 2 ^ 31 by omega)]
            have hqx13 := hblc2 ci
            refine lv_iconst (v := 1) hx hb dX0_joinLine_77 (by decide) ?_
            refine lv_iadd hx hb dX0_joinLine_78 ?_
            refine lv_topi (fun x14 ex14 => ?_)
            obtain rfl : x14 = nI ((lc2 ci) + 1) := by rw [ex14]; exact nI_add (lc2 ci) (1)
            refine va_iast hx hb hK hP hD hS 16 0 rfl rfl (vp_in_nI (show ci < 16 by omega) (by decide)) dX0_joinLine_79 (fun H locs hP hD hS => ?_)
            obtain ⟨f15, ef15⟩ : ∃ g, g = z_up lc2 ci ((lc2 ci) + 1) := ⟨_, rfl⟩
            have hP : va_P (dC, dI) vwCl (bW bh br cI cJ cB (nI cc) nA mA aA (fun j => nI (fcA j)) fA (fun j => nI (mcA j)) mmA wA tcA g1A g2A nuA (fun j => nI (erA j)) reA (fun j => nI (f12 j)) (fun j => nI (f15 j))) H := by rw [ef15, ← z_upd (show ci < 2 ^ 31 by omega)]; exact hP
            have hD : va_D A (bW bh br cI cJ cB (nI cc) nA mA aA (fun j => nI (fcA j)) fA (fun j => nI (mcA j)) mmA wA tcA g1A g2A nuA (fun j => nI (erA j)) reA (fun j => nI (f12 j)) (fun j => nI (f15 j))) := by rw [ef15, ← z_upd (show ci < 2 ^ 31 by omega)]; exact hD
            have hbf15 : ∀ j, f15 j ≤ 16 := by rw [ef15]; exact z_upb hblc2 (by omega)
            obtain ⟨x16, ex16⟩ : ∃ y : Int32, y = (nI ii) + 1 := ⟨_, rfl⟩
            refine lv_iinc (v := x16) (lv' := [(3, .int x16), (4, .int (nI (li2 ((o2 * 16) + ii)))), (0, .ref bh), (1, .int (nI ci)), (2, .int (nI o2))]) hx hb dX0_joinLine_80 hl (k := 4) rfl (by rw [ex16]; rfl) (by decide) rfl (fun ls hl => ?_)
            obtain rfl : x16 = nI (ii + 1) := by rw [ex16]; exact nI_add (ii) 1
            refine lv_goto (tgt := 8) hx hb dX0_joinLine_83 (by decide) ?_
            exact ih8 o2 (ii + 1) f12 f15 _ _ ls (by omega) hbf12 hbf15 (by first | omega | assumption | trivial) (by first | omega | assumption | trivial) hP hD hS (lv_sub hl [2, 3, 4, 0] rfl)
  refine lv_iload_n hx hb dX0_joinLine_0 rfl (lv_at hl 2 rfl) ?_
  refine lv_iconst (v := (-1)) hx hb dX0_joinLine_1 (by decide) ?_
  refine lv_icmp_ne (tgt := 6) hx hb dX0_joinLine_2 (by decide) (fun cp2 => ?_) (fun cp2 => ?_)
  · obtain ⟨k17, hBk17, hQk17, rfl⟩ := hpm_ot.resolve_left cp2
    refine lv_iconst (v := 0) hx hb dX0_joinLine_6 (by decide) ?_
    refine lv_istore_n (lv' := [(3, .int 0), (0, .ref bh), (1, .int (nI ci)), (2, .int (nI k17))]) hx hb dX0_joinLine_7 rfl hl (by decide) rfl (fun ls hl => ?_)
    exact J8 _ k17 0 liA lcA _ _ ls (Nat.lt_succ_self _) hliA hlcA (by first | omega | assumption | trivial) (by first | omega | assumption | trivial) hP hD hS (lv_sub hl [1, 2, 3, 0] rfl)
  · obtain rfl : ot = -1 := cp2
    have hP9 : va_P (dC, dI) vwCl (bW bh br cI cJ cB (nI cc) nA mA aA (fun j => nI (fcA j)) fA (fun j => nI (mcA j)) mmA wA tcA g1A g2A nuA (fun j => nI (erA j)) reA (fun j => nI (liA j)) (fun j => nI (lcA j))) s.heap := hP
    have hD9 : va_D A (bW bh br cI cJ cB (nI cc) nA mA aA (fun j => nI (fcA j)) fA (fun j => nI (mcA j)) mmA wA tcA g1A g2A nuA (fun j => nI (erA j)) reA (fun j => nI (liA j)) (fun j => nI (lcA j))) := hD
    exact W.vret hx hb hr (fun t ht hW => ⟨⟨(liA, lcA), rfl, ⟨hliA, hlcA⟩, by rw [ht]; exact hP9, va_K.moved hW.alike hK, hD9⟩, hS.F ht⟩) hS.2.2 dX0_joinLine_5
theorem dX0_settleClass_0 : decode cX0_settleClass 0 = .ok (.aload_n 0, 1) := by decide +kernel
theorem dX0_settleClass_1 : decode cX0_settleClass 1 = .ok (.getfield 49, 3) := by decide +kernel
theorem dX0_settleClass_4 : decode cX0_settleClass 4 = .ok (.iload_n 1, 1) := by decide +kernel
theorem dX0_settleClass_5 : decode cX0_settleClass 5 = .ok (.aload_n 0, 1) := by decide +kernel
theorem dX0_settleClass_6 : decode cX0_settleClass 6 = .ok (.iload_n 1, 1) := by decide +kernel
theorem dX0_settleClass_7 : decode cX0_settleClass 7 = .ok (.invokevirtual 112, 3) := by decide +kernel
theorem dX0_settleClass_10 : decode cX0_settleClass 10 = .ok (.iastore, 1) := by decide +kernel
theorem dX0_settleClass_11 : decode cX0_settleClass 11 = .ok (.aload_n 0, 1) := by decide +kernel
theorem dX0_settleClass_12 : decode cX0_settleClass 12 = .ok (.getfield 49, 3) := by decide +kernel
theorem dX0_settleClass_15 : decode cX0_settleClass 15 = .ok (.iload_n 1, 1) := by decide +kernel
theorem dX0_settleClass_16 : decode cX0_settleClass 16 = .ok (.iaload, 1) := by decide +kernel
theorem dX0_settleClass_17 : decode cX0_settleClass 17 = .ok (.ifCond .eq 4, 3) := by decide +kernel
theorem dX0_settleClass_20 : decode cX0_settleClass 20 = .ok (.return_, 1) := by decide +kernel
theorem dX0_settleClass_21 : decode cX0_settleClass 21 = .ok (.aload_n 0, 1) := by decide +kernel
theorem dX0_settleClass_22 : decode cX0_settleClass 22 = .ok (.getfield 55, 3) := by decide +kernel
theorem dX0_settleClass_25 : decode cX0_settleClass 25 = .ok (.iload_n 1, 1) := by decide +kernel
theorem dX0_settleClass_26 : decode cX0_settleClass 26 = .ok (.bipush 16, 2) := by decide +kernel
theorem dX0_settleClass_28 : decode cX0_settleClass 28 = .ok (.imul, 1) := by decide +kernel
theorem dX0_settleClass_29 : decode cX0_settleClass 29 = .ok (.iload_n 1, 1) := by decide +kernel
theorem dX0_settleClass_30 : decode cX0_settleClass 30 = .ok (.iastore, 1) := by decide +kernel
theorem dX0_settleClass_31 : decode cX0_settleClass 31 = .ok (.aload_n 0, 1) := by decide +kernel
theorem dX0_settleClass_32 : decode cX0_settleClass 32 = .ok (.getfield 58, 3) := by decide +kernel
theorem dX0_settleClass_35 : decode cX0_settleClass 35 = .ok (.iload_n 1, 1) := by decide +kernel
theorem dX0_settleClass_36 : decode cX0_settleClass 36 = .ok (.iconst 1, 1) := by decide +kernel
theorem dX0_settleClass_37 : decode cX0_settleClass 37 = .ok (.iastore, 1) := by decide +kernel
theorem dX0_settleClass_38 : decode cX0_settleClass 38 = .ok (.iconst 0, 1) := by decide +kernel
theorem dX0_settleClass_39 : decode cX0_settleClass 39 = .ok (.istore_n 2, 1) := by decide +kernel
theorem dX0_settleClass_40 : decode cX0_settleClass 40 = .ok (.iload_n 2, 1) := by decide +kernel
theorem dX0_settleClass_41 : decode cX0_settleClass 41 = .ok (.aload_n 0, 1) := by decide +kernel
theorem dX0_settleClass_42 : decode cX0_settleClass 42 = .ok (.getfield 21, 3) := by decide +kernel
theorem dX0_settleClass_45 : decode cX0_settleClass 45 = .ok (.iload_n 1, 1) := by decide +kernel
theorem dX0_settleClass_46 : decode cX0_settleClass 46 = .ok (.iaload, 1) := by decide +kernel
theorem dX0_settleClass_47 : decode cX0_settleClass 47 = .ok (.if_icmp .ge 28, 3) := by decide +kernel
theorem dX0_settleClass_50 : decode cX0_settleClass 50 = .ok (.aload_n 0, 1) := by decide +kernel
theorem dX0_settleClass_51 : decode cX0_settleClass 51 = .ok (.iload_n 1, 1) := by decide +kernel
theorem dX0_settleClass_52 : decode cX0_settleClass 52 = .ok (.aload_n 0, 1) := by decide +kernel
theorem dX0_settleClass_53 : decode cX0_settleClass 53 = .ok (.aload_n 0, 1) := by decide +kernel
theorem dX0_settleClass_54 : decode cX0_settleClass 54 = .ok (.getfield 24, 3) := by decide +kernel
theorem dX0_settleClass_57 : decode cX0_settleClass 57 = .ok (.iload_n 1, 1) := by decide +kernel
theorem dX0_settleClass_58 : decode cX0_settleClass 58 = .ok (.iconst 3, 1) := by decide +kernel
theorem dX0_settleClass_59 : decode cX0_settleClass 59 = .ok (.imul, 1) := by decide +kernel
theorem dX0_settleClass_60 : decode cX0_settleClass 60 = .ok (.iload_n 2, 1) := by decide +kernel
theorem dX0_settleClass_61 : decode cX0_settleClass 61 = .ok (.iadd, 1) := by decide +kernel
theorem dX0_settleClass_62 : decode cX0_settleClass 62 = .ok (.iaload, 1) := by decide +kernel
theorem dX0_settleClass_63 : decode cX0_settleClass 63 = .ok (.invokevirtual 109, 3) := by decide +kernel
theorem dX0_settleClass_66 : decode cX0_settleClass 66 = .ok (.invokevirtual 115, 3) := by decide +kernel
theorem dX0_settleClass_69 : decode cX0_settleClass 69 = .ok (.iinc 2 1, 3) := by decide +kernel
theorem dX0_settleClass_72 : decode cX0_settleClass 72 = .ok (.goto (-32), 3) := by decide +kernel
theorem dX0_settleClass_75 : decode cX0_settleClass 75 = .ok (.aload_n 0, 1) := by decide +kernel
theorem dX0_settleClass_76 : decode cX0_settleClass 76 = .ok (.iload_n 1, 1) := by decide +kernel
theorem dX0_settleClass_77 : decode cX0_settleClass 77 = .ok (.aload_n 0, 1) := by decide +kernel
theorem dX0_settleClass_78 : decode cX0_settleClass 78 = .ok (.aload_n 0, 1) := by decide +kernel
theorem dX0_settleClass_79 : decode cX0_settleClass 79 = .ok (.getfield 18, 3) := by decide +kernel
theorem dX0_settleClass_82 : decode cX0_settleClass 82 = .ok (.iload_n 1, 1) := by decide +kernel
theorem dX0_settleClass_83 : decode cX0_settleClass 83 = .ok (.iaload, 1) := by decide +kernel
theorem dX0_settleClass_84 : decode cX0_settleClass 84 = .ok (.invokevirtual 109, 3) := by decide +kernel
theorem dX0_settleClass_87 : decode cX0_settleClass 87 = .ok (.invokevirtual 115, 3) := by decide +kernel
theorem dX0_settleClass_90 : decode cX0_settleClass 90 = .ok (.return_, 1) := by decide +kernel
def zwX0_settleClass : List Cond := .code yX0_settleClass cX0_settleClass 3 none :: ([.fieldLink RX0 21 "LinkModels$Build" "faceCounts" "[I", .fieldLink RX0 18 "LinkModels$Build" "aboveNames" "[I", .fieldLink RX0 24 "LinkModels$Build" "faceNames" "[I", .fieldLink RX0 49 "LinkModels$Build" "errors" "[I", .fieldLink RX0 55 "LinkModels$Build" "lines" "[I", .fieldLink RX0 58 "LinkModels$Build" "lineCounts" "[I", .methodLink RX0 109 yX0_placeOf, .instanceMethod yX0_placeOf, .selects RX0 yX0_placeOf yX0_placeOf, .initialized RX0, .code yX0_placeOf cX0_placeOf 3 (some .int), .fieldLink RX0 61 "LinkModels$Build" "classCount" "I", .fieldLink RX0 11 "LinkModels$Build" "names" "[I", .methodLink RX0 115 yX0_joinLine, .instanceMethod yX0_joinLine, .selects RX0 yX0_joinLine yX0_joinLine, .code yX0_joinLine cX0_joinLine 5 none, .methodLink RX0 122 yX0_isInLine, .instanceMethod yX0_isInLine, .selects RX0 yX0_isInLine yX0_isInLine, .code yX0_isInLine cX0_isInLine 4 (some .boolean), .methodLink RX0 112 yX0_firstError, .instanceMethod yX0_firstError, .selects RX0 yX0_firstError yX0_firstError, .code yX0_firstError cX0_firstError 4 (some .int), .fieldLink RX0 15 "LinkModels$Build" "classMarks" "[I", .methodLink RX0 119 yX0_errorAt, .instanceMethod yX0_errorAt, .selects RX0 yX0_errorAt yX0_errorAt, .code yX0_errorAt cX0_errorAt 2 (some .int), .methodLink RX0 90 yX0_isFace, .instanceMethod yX0_isFace, .selects RX0 yX0_isFace yX0_isFace, .code yX0_isFace cX0_isFace 2 (some .boolean)] ++ wsX00)
set_option maxRecDepth 100000 in
theorem zgX0_settleClass_X0_placeOf_109 : GoodIn zwX0_settleClass (wsV RX0 109 RX0 yX0_placeOf zwX0_placeOf) := goodIn_app (goodIn_r _ [7, 8, 9, 10] rfl (by decide +kernel)) (goodIn_app (goodIn_r _ [11, 12, 13] rfl (by decide +kernel)) (fun w hw => ⟨(List.mem_cons_of_mem _ (List.mem_append_right _ hw)), good_of_word (List.all_eq_true.mp zgX0 w hw)⟩))
set_option maxRecDepth 100000 in
theorem zgX0_settleClass_X0_joinLine_115 : GoodIn zwX0_settleClass (wsV RX0 115 RX0 yX0_joinLine zwX0_joinLine) := goodIn_app (goodIn_r _ [14, 15, 16, 10] rfl (by decide +kernel)) (goodIn_app (goodIn_r _ [17, 6, 5, 18, 19, 20, 10, 21] rfl (by decide +kernel)) (fun w hw => ⟨(List.mem_cons_of_mem _ (List.mem_append_right _ hw)), good_of_word (List.all_eq_true.mp zgX0 w hw)⟩))
set_option maxRecDepth 100000 in
theorem zgX0_settleClass_X0_firstError_112 : GoodIn zwX0_settleClass (wsV RX0 112 RX0 yX0_firstError zwX0_firstError) := goodIn_app (goodIn_r _ [22, 23, 24, 10] rfl (by decide +kernel)) (goodIn_app (goodIn_r _ [25, 1, 3, 2, 26, 7, 8, 9, 10, 11, 12, 13, 27, 28, 29, 30, 4, 31, 32, 33, 34] rfl (by decide +kernel)) (fun w hw => ⟨(List.mem_cons_of_mem _ (List.mem_append_right _ hw)), good_of_word (List.all_eq_true.mp zgX0 w hw)⟩))
set_option maxHeartbeats 4000000 in
set_option maxRecDepth 100000 in
theorem kX0_settleClass (l : Launch) (dC : Nat → ClassId) (dI : Nat → Nat → Nat) (bh : Nat) (br : Nat → Nat) (cI : ClassId) (cJ : ClassId) (cB : ClassId) (cc : Nat) (nA : Nat → Int32) (mA : Nat → Int32) (aA : Nat → Int32) (fcA : Nat → Nat) (fA : Nat → Int32) (mcA : Nat → Nat) (mmA : Nat → Int32) (wA : Nat → Int64) (tcA : Nat → Int32) (g1A : Nat → Int32) (g2A : Nat → Int32) (nuA : Nat → Int32) (erA : Nat → Nat) (reA : Nat → Int32) (liA : Nat → Nat) (lcA : Nat → Nat) (hI : bWI cc fcA mcA erA liA lcA) (ci : Nat) (hp0 : ci < 16) (sz : Nat) : Met l yX0_settleClass zwX0_settleClass ({ frames := 2, cells := 0, slots := 0, locals := 47 }) (zPk dC dI [.ref bh, .int (nI ci)] sz (bW bh br cI cJ cB (nI cc) nA mA aA (fun j => nI (fcA j)) fA (fun j => nI (mcA j)) mmA wA tcA g1A g2A nuA (fun j => nI (erA j)) reA (fun j => nI (liA j)) (fun j => nI (lcA j))) [(cI, .int), (cJ, .long), (cB, .byte)]) (va_Qv (fun u : (Nat → Nat) × (Nat → Nat) × (Nat → Nat) => (∀ j, (u.1) j ≤ 5) ∧ (∀ j, (u.2.1) j ≤ 15) ∧ (∀ j, (u.2.2) j ≤ 16)) (fun u t => zB dC dI (va_A (bW bh br cI cJ cB (nI cc) nA mA aA (fun j => nI (fcA j)) fA (fun j => nI (mcA j)) mmA wA tcA g1A g2A nuA (fun j => nI (erA j)) reA (fun j => nI (liA j)) (fun j => nI (lcA j))) sz) (bW bh br cI cJ cB (nI cc) nA mA aA (fun j => nI (fcA j)) fA (fun j => nI (mcA j)) mmA wA tcA g1A g2A nuA (fun j => nI ((u.1) j)) reA (fun j => nI ((u.2.1) j)) (fun j => nI ((u.2.2) j))) [(cI, .int), (cJ, .long), (cB, .byte)] t) (va_A (bW bh br cI cJ cB (nI cc) nA mA aA (fun j => nI (fcA j)) fA (fun j => nI (mcA j)) mmA wA tcA g1A g2A nuA (fun j => nI (erA j)) reA (fun j => nI (liA j)) (fun j => nI (lcA j))) sz)) 0 0 (va_A (bW bh br cI cJ cB (nI cc) nA mA aA (fun j => nI (fcA j)) fA (fun j => nI (mcA j)) mmA wA tcA g1A g2A nuA (fun j => nI (erA j)) reA (fun j => nI (liA j)) (fun j => nI (lcA j))) sz) := by
  refine Met.ofW (cc := cX0_settleClass) (maxL := 3) (ret := none) (by decide) rfl ?_
  intro p e s m args below meth c s₁ B hml hv
  obtain ⟨rfl, hsz, hP, hK, hD0, hE⟩ := hv
  have hx := B.exec
  have hb := B.bytes
  have hr := B.returns
  have hts := atoms_spec (ws := zwX0_settleClass) B.pre
  have hown : s.vm.findClass RX0 = some m.cls := findClass_of_methodNamed B.named
  have hiX0 : ∀ w ∈ wsX00, w ∈ zwX0_settleClass := (fun w hw => (List.mem_cons_of_mem _ (List.mem_append_right _ hw)))
  obtain ⟨hcc, hfcA, hmcA, herA, hliA, hlcA⟩ := hI
  subst hsz
  have hD := hD0.self (sz := s.heap.size)
  generalize hAe : va_A (bW bh br cI cJ cB (nI cc) nA mA aA (fun j => nI (fcA j)) fA (fun j => nI (mcA j)) mmA wA tcA g1A g2A nuA (fun j => nI (erA j)) reA (fun j => nI (liA j)) (fun j => nI (lcA j))) s.heap.size = A at hD ⊢
  have hA : ∀ q : Nat, s.heap.size ≤ q → A q := fun q h => by rw [← hAe]; exact Or.inr h
  have hS : va_S A s.heap s.heap [] := va_S.rf
  have hf9 := hfcA ci
  have hl := lv_entry ([.ref bh, .int (nI ci)]) (n := 3) (Nat.le_of_ble_eq_true rfl)
  rw [lg_entry_eq]
  generalize (lg_sl ([.ref bh, .int (nI ci)]) ++ List.replicate (3 - (lg_sl ([.ref bh, .int (nI ci)])).length) Slot.unset).toArray = ls at hl ⊢
  have hl : lv_has ls 3 [(0, .ref bh), (1, .int (nI ci))] := hl
  have J40 : ∀ (z40 : Nat) (kf : Nat) (er2 : Nat → Nat) (li2 : Nat → Nat) (lc2 : Nat → Nat) (H : Heap) (locs : List Loc) (ls : Array Slot), fcA ci - kf < z40 → (∀ j, er2 j ≤ 5) → (∀ j, li2 j ≤ 15) → (∀ j, lc2 j ≤ 16) → (kf ≤ fcA ci) → va_P (dC, dI) vwCl (bW bh br cI cJ cB (nI cc) nA mA aA (fun j => nI (fcA j)) fA (fun j => nI (mcA j)) mmA wA tcA g1A g2A nuA (fun j => nI (er2 j)) reA (fun j => nI (li2 j)) (fun j => nI (lc2 j))) H → va_D A (bW bh br cI cJ cB (nI cc) nA mA aA (fun j => nI (fcA j)) fA (fun j => nI (mcA j)) mmA wA tcA g1A g2A nuA (fun j => nI (er2 j)) reA (fun j => nI (li2 j)) (fun j => nI (lc2 j))) → va_S A s.heap H locs → lv_has ls 3 [(0, .ref bh), (1, .int (nI ci)), (2, .int (nI kf))] → W p l e (headSpec zwX0_settleClass { frames := 2, cells := 0, slots := 0, locals := 47 }).room s m (([.ref bh, .int (nI ci)] : List Value).toArray) below meth c H locs 0 0 (MQ below (va_Qv (fun u : (Nat → Nat) × (Nat → Nat) × (Nat → Nat) => (∀ j, (u.1) j ≤ 5) ∧ (∀ j, (u.2.1) j ≤ 15) ∧ (∀ j, (u.2.2) j ≤ 16)) (fun u t => zB dC dI (A) (bW bh br cI cJ cB (nI cc) nA mA aA (fun j => nI (fcA j)) fA (fun j => nI (mcA j)) mmA wA tcA g1A g2A nuA (fun j => nI ((u.1) j)) reA (fun j => nI ((u.2.1) j)) (fun j => nI ((u.2.2) j))) [(cI, .int), (cJ, .long), (cB, .byte)] t) (A)) (([.ref bh, .int (nI ci)] : List Value).toArray) s 0 0 A) (F0 m 40 ls []) := by
    intro z40
    induction z40 with
    | zero => intro kf er2 li2 lc2 H locs ls h9; exact absurd h9 (Nat.not_lt_zero _)
    | succ z40 ih40 =>
      intro kf er2 li2 lc2 H locs ls hm40 hber2 hbli2 hblc2 i40_0 hP hD hS hl
      refine lv_iload_n hx hb dX0_settleClass_40 rfl (lv_at hl 2 rfl) ?_
      refine lv_aload_n hx hb dX0_settleClass_41 rfl (lv_at hl 0 rfl) ?_
      refine va_get (D := (dC, dI)) (ci := 0) (v := .ref (br 4)) (C := RX0) (T := TX0) (N := 17) hx hb hts hiX0 hown hK hP 0 rfl rfl 4 (by decide) (hts (.fieldLink RX0 21 "LinkModels$Build" "faceCounts" "[I") (by decide +kernel)) (fun _ h9 => h9) rfl dX0_settleClass_42 ?_
      refine lv_iload_n hx hb dX0_settleClass_45 rfl (lv_at hl 1 rfl) ?_
      refine va_iald hx hb hK hP 4 0 rfl rfl (vp_in_nI (show ci < 16 by omega) (by decide)) dX0_settleClass_46 ?_
      refine lv_topi (fun x1 ex1 => ?_)
      obtain rfl : x1 = nI (fcA ci) := by rw [ex1, nI_clamp (show ci < 2 ^ 31 by omega)]
      have hqx1 := hfcA ci
      refine lv_icmp_ge (tgt := 75) hx hb dX0_settleClass_47 (by decide) (fun cp47 => ?_) (fun cp47 => ?_)
      · have qcp47 : (fcA ci) ≤ kf := (nI_leI (a := fcA ci) (b := kf) (by omega) (by omega)).mp cp47
        refine lv_aload_n hx hb dX0_settleClass_75 rfl (lv_at hl 0 rfl) ?_
        refine lv_iload_n hx hb dX0_settleClass_76 rfl (lv_at hl 1 rfl) ?_
        refine lv_aload_n hx hb dX0_settleClass_77 rfl (lv_at hl 0 rfl) ?_
        refine lv_aload_n hx hb dX0_settleClass_78 rfl (lv_at hl 0 rfl) ?_
        refine va_get (D := (dC, dI)) (ci := 0) (v := .ref (br 3)) (C := RX0) (T := TX0) (N := 17) hx hb hts hiX0 hown hK hP 0 rfl rfl 3 (by decide) (hts (.fieldLink RX0 18 "LinkModels$Build" "aboveNames" "[I") (by decide +kernel)) (fun _ h9 => h9) rfl dX0_settleClass_79 ?_
        refine lv_iload_n hx hb dX0_settleClass_82 rfl (lv_at hl 1 rfl) ?_
        refine va_iald hx hb hK hP 3 0 rfl rfl (vp_in_nI (show ci < 16 by omega) (by decide)) dX0_settleClass_83 ?_
        refine lv_topi (fun x2 ex2 => ?_)
        obtain rfl : x2 = aA ci := by rw [ex2, nI_clamp (show ci < 2 ^ 31 by omega)]
        refine vp_callSi (W.runV (As := [.int (aA ci)]) (rest := [.int (nI ci), .ref bh]) ⟨hx, hb, hml, hown, hts⟩ (kX0_placeOf l dC dI bh br cI cJ cB cc nA mA aA fcA fA mcA mmA wA tcA g1A g2A nuA er2 reA li2 lc2 ⟨by omega, hfcA, hmcA, hber2, hbli2, hblc2⟩ (aA ci)) (cwV 1 hts zgX0_settleClass_X0_placeOf_109 rfl rfl rfl (by decide +kernel) ⟨(show 0 + 1 ≤ 2 by omega), (show 8 + (3 + 11) + 0 ≤ 47 by omega)⟩) (zVq (ci := 0) (q0 := 0) (q := (RX0, TX0, 17)) hK hP hE rfl rfl rfl) rfl rfl hl.1 rfl (lv_room (Nat.le_of_ble_eq_true rfl)) dX0_settleClass_84 ⟨(show 0 + 0 ≤ 0 by omega), (show 0 + 0 ≤ 0 by omega)⟩) (fun r3 hw => ?_)
        have hw : (zM r3 (fun k => k < cc)) := hw
        have w0r3 := hw
        have hFc := z_freeW hD hS hA
        refine va_callv (va_runV (As := [.int (nI ci), .int r3]) (rest := []) ⟨hx, hb, hml, hown, hts⟩ (kX0_joinLine l dC dI bh br cI cJ cB cc nA mA aA fcA fA mcA mmA wA tcA g1A g2A nuA er2 reA li2 lc2 ⟨by omega, hfcA, hmcA, hber2, hbli2, hblc2⟩ ci r3 (zM.imp w0r3 (fun k hk hq => by first | exact hq | trivial | omega)) (by first | omega | assumption | trivial) H.size) (cwV 2 hts zgX0_settleClass_X0_joinLine_115 rfl rfl rfl (by decide +kernel) ⟨(show 1 + 1 ≤ 2 by omega), (show 8 + (5 + 11) + 23 ≤ 47 by omega)⟩) (zVk (ci := 0) (q0 := 0) (q := (RX0, TX0, 17)) hK hP hD hE rfl rfl rfl) rfl rfl hl.1 rfl (lv_room (Nat.le_of_ble_eq_true rfl)) dX0_settleClass_87 ⟨(show 0 + 0 ≤ 0 by omega), (show 0 + 0 ≤ 0 by omega)⟩) hS (fun q _ h => hFc q h) hFc (fun u7 t H1 locs ht hvm hw hB hz1 hk1 hS => ?_)
        obtain ⟨o5, o6⟩ := u7
        obtain ⟨hP, hK9, hD⟩ := hB
        rw [ht] at hP
        have hD := hD.weaken (fun k q _ h => hFc q.1 h)
        generalize H1 = H at hP hS
        have hP : va_P (dC, dI) vwCl (bW bh br cI cJ cB (nI cc) nA mA aA (fun j => nI (fcA j)) fA (fun j => nI (mcA j)) mmA wA tcA g1A g2A nuA (fun j => nI (er2 j)) reA (fun j => nI (o5 j)) (fun j => nI (o6 j))) H := hP
        have hD : va_D A (bW bh br cI cJ cB (nI cc) nA mA aA (fun j => nI (fcA j)) fA (fun j => nI (mcA j)) mmA wA tcA g1A g2A nuA (fun j => nI (er2 j)) reA (fun j => nI (o5 j)) (fun j => nI (o6 j))) := hD
        have hw : (∀ j, o5 j ≤ 15) ∧ (∀ j, o6 j ≤ 16) := hw
        obtain ⟨hbo5, hbo6⟩ := hw
        have hP9 : va_P (dC, dI) vwCl (bW bh br cI cJ cB (nI cc) nA mA aA (fun j => nI (fcA j)) fA (fun j => nI (mcA j)) mmA wA tcA g1A g2A nuA (fun j => nI (er2 j)) reA (fun j => nI (o5 j)) (fun j => nI (o6 j))) H := hP
        have hD9 : va_D A (bW bh br cI cJ cB (nI cc) nA mA aA (fun j => nI (fcA j)) fA (fun j => nI (mcA j)) mmA wA tcA g1A g2A nuA (fun j => nI (er2 j)) reA (fun j => nI (o5 j)) (fun j => nI (o6 j))) := hD
        exact W.vret hx hb hr (fun t ht hW => ⟨⟨(er2, o5, o6), rfl, ⟨hber2, hbo5, hbo6⟩, by rw [ht]; exact hP9, va_K.moved hW.alike hK, hD9⟩, hS.F ht⟩) hS.2.2 dX0_settleClass_90
      · have qcp47 : ¬ (fcA ci) ≤ kf := fun h9 => cp47 ((nI_leI (a := fcA ci) (b := kf) (by omega) (by omega)).mpr h9)
        refine lv_aload_n hx hb dX0_settleClass_50 rfl (lv_at hl 0 rfl) ?_
        refine lv_iload_n hx hb dX0_settleClass_51 rfl (lv_at hl 1 rfl) ?_
        refine lv_aload_n hx hb dX0_settleClass_52 rfl (lv_at hl 0 rfl) ?_
        refine lv_aload_n hx hb dX0_settleClass_53 rfl (lv_at hl 0 rfl) ?_
        refine va_get (D := (dC, dI)) (ci := 0) (v := .ref (br 5)) (C := RX0) (T := TX0) (N := 17) hx hb hts hiX0 hown hK hP 0 rfl rfl 5 (by decide) (hts (.fieldLink RX0 24 "LinkModels$Build" "faceNames" "[I") (by decide +kernel)) (fun _ h9 => h9) rfl dX0_settleClass_54 ?_
        refine lv_iload_n hx hb dX0_settleClass_57 rfl (lv_at hl 1 rfl) ?_
        refine lv_iconst (v := 3) hx hb dX0_settleClass_58 (by decide) ?_
        refine lv_imul hx hb dX0_settleClass_59 ?_
        refine lv_topi (fun x8 ex8 => ?_)
        obtain rfl : x8 = nI (ci * 3) := by rw [ex8]; exact pk_mul (ci) (3)
        refine lv_iload_n hx hb dX0_settleClass_60 rfl (lv_at hl 2 rfl) ?_
        refine lv_iadd hx hb dX0_settleClass_61 ?_
        refine lv_topi (fun x9 ex9 => ?_)
        obtain rfl : x9 = nI ((ci * 3) + kf) := by rw [ex9]; exact nI_add (ci * 3) (kf)
        refine va_iald hx hb hK hP 5 0 rfl rfl (vp_in_nI (show (ci * 3) + kf < 48 by omega) (by decide)) dX0_settleClass_62 ?_
        refine lv_topi (fun x10 ex10 => ?_)
        obtain rfl : x10 = fA ((ci * 3) + kf) := by rw [ex10, nI_clamp (show (ci * 3) + kf < 2 ^ 31 by omega)]
        refine vp_callSi (W.runV (As := [.int (fA ((ci * 3) + kf))]) (rest := [.int (nI ci), .ref bh]) ⟨hx, hb, hml, hown, hts⟩ (kX0_placeOf l dC dI bh br cI cJ cB cc nA mA aA fcA fA mcA mmA wA tcA g1A g2A nuA er2 reA li2 lc2 ⟨by omega, hfcA, hmcA, hber2, hbli2, hblc2⟩ (fA ((ci * 3) + kf))) (cwV 1 hts zgX0_settleClass_X0_placeOf_109 rfl rfl rfl (by decide +kernel) ⟨(show 0 + 1 ≤ 2 by omega), (show 8 + (3 + 11) + 0 ≤ 47 by omega)⟩) (zVq (ci := 0) (q0 := 0) (q := (RX0, TX0, 17)) hK hP hE rfl rfl rfl) rfl rfl hl.1 rfl (lv_room (Nat.le_of_ble_eq_true rfl)) dX0_settleClass_63 ⟨(show 0 + 0 ≤ 0 by omega), (show 0 + 0 ≤ 0 by omega)⟩) (fun r11 hw => ?_)
        have hw : (zM r11 (fun k => k < cc)) := hw
        have w0r11 := hw
        have hFc := z_freeW hD hS hA
        refine va_callv (va_runV (As := [.int (nI ci), .int r11]) (rest := []) ⟨hx, hb, hml, hown, hts⟩ (kX0_joinLine l dC dI bh br cI cJ cB cc nA mA aA fcA fA mcA mmA wA tcA g1A g2A nuA er2 reA li2 lc2 ⟨by omega, hfcA, hmcA, hber2, hbli2, hblc2⟩ ci r11 (zM.imp w0r11 (fun k hk hq => by first | exact hq | trivial | omega)) (by first | omega | assumption | trivial) H.size) (cwV 2 hts zgX0_settleClass_X0_joinLine_115 rfl rfl rfl (by decide +kernel) ⟨(show 1 + 1 ≤ 2 by omega), (show 8 + (5 + 11) + 23 ≤ 47 by omega)⟩) (zVk (ci := 0) (q0 := 0) (q := (RX0, TX0, 17)) hK hP hD hE rfl rfl rfl) rfl rfl hl.1 rfl (lv_room (Nat.le_of_ble_eq_true rfl)) dX0_settleClass_66 ⟨(show 0 + 0 ≤ 0 by omega), (show 0 + 0 ≤ 0 by omega)⟩) hS (fun q _ h => hFc q h) hFc (fun u15 t H1 locs ht hvm hw hB hz1 hk1 hS => ?_)
        obtain ⟨o13, o14⟩ := u15
        obtain ⟨hP, hK9, hD⟩ := hB
        rw [ht] at hP
        have hD := hD.weaken (fun k q _ h => hFc q.1 h)
        generalize H1 = H at hP hS
        have hP : va_P (dC, dI) vwCl (bW bh br cI cJ cB (nI cc) nA mA aA (fun j => nI (fcA j)) fA (fun j => nI (mcA j)) mmA wA tcA g1A g2A nuA (fun j => nI (er2 j)) reA (fun j => nI (o13 j)) (fun j => nI (o14 j))) H := hP
        have hD : va_D A (bW bh br cI cJ cB (nI cc) nA mA aA (fun j => nI (fcA j)) fA (fun j => nI (mcA j)) mmA wA tcA g1A g2A nuA (fun j => nI (er2 j)) reA (fun j => nI (o13 j)) (fun j => nI (o14 j))) := hD
        have hw : (∀ j, o13 j ≤ 15) ∧ (∀ j, o14 j ≤ 16) := hw
        obtain ⟨hbo13, hbo14⟩ := hw
        obtain ⟨x16, ex16⟩ : ∃ y : Int32, y = (nI kf) + 1 := ⟨_, rfl⟩
        refine lv_iinc (v := x16) (lv' := [(2, .int x16), (0, .ref bh), (1, .int (nI ci))]) hx hb dX0_settleClass_69 hl (k := 2) rfl (by rw [ex16]; rfl) (by decide) rfl (fun ls hl => ?_)
        obtain rfl : x16 = nI (kf + 1) := by rw [ex16]; exact nI_add (kf) 1
        refine lv_goto (tgt := 40) hx hb dX0_settleClass_72 (by decide) ?_
        exact ih40 (kf + 1) er2 o13 o14 _ _ ls (by omega) hber2 hbo13 hbo14 (by first | omega | assumption | trivial) hP hD hS (lv_sub hl [1, 2, 0] rfl)
  refine lv_aload_n hx hb dX0_settleClass_0 rfl (lv_at hl 0 rfl) ?_
  refine va_get (D := (dC, dI)) (ci := 0) (v := .ref (br 13)) (C := RX0) (T := TX0) (N := 17) hx hb hts hiX0 hown hK hP 0 rfl rfl 13 (by decide) (hts (.fieldLink RX0 49 "LinkModels$Build" "errors" "[I") (by decide +kernel)) (fun _ h9 => h9) rfl dX0_settleClass_1 ?_
  refine lv_iload_n hx hb dX0_settleClass_4 rfl (lv_at hl 1 rfl) ?_
  refine lv_aload_n hx hb dX0_settleClass_5 rfl (lv_at hl 0 rfl) ?_
  refine lv_iload_n hx hb dX0_settleClass_6 rfl (lv_at hl 1 rfl) ?_
  refine vp_callSi (W.runV (As := [.int (nI ci)]) (rest := [.int (nI ci), .ref (br 13)]) ⟨hx, hb, hml, hown, hts⟩ (kX0_firstError l dC dI bh br cI cJ cB cc nA mA aA fcA fA mcA mmA wA tcA g1A g2A nuA erA reA liA lcA ⟨by omega, hfcA, hmcA, herA, hliA, hlcA⟩ ci (by first | omega | assumption | trivial)) (cwV 1 hts zgX0_settleClass_X0_firstError_112 rfl rfl rfl (by decide +kernel) ⟨(show 1 + 1 ≤ 2 by omega), (show 8 + (4 + 11) + 22 ≤ 47 by omega)⟩) (zVq (ci := 0) (q0 := 0) (q := (RX0, TX0, 17)) hK hP hE rfl rfl rfl) rfl rfl hl.1 rfl (lv_room (Nat.le_of_ble_eq_true rfl)) dX0_settleClass_7 ⟨(show 0 + 0 ≤ 0 by omega), (show 0 + 0 ≤ 0 by omega)⟩) (fun r17 hw => ?_)
  have hw : (zN r17 (fun k => k ≤ 5)) := hw
  have w0r17 := hw
  obtain ⟨k18, hBk18, hQk18, rfl⟩ := w0r17
  refine va_iast hx hb hK hP hD hS 13 0 rfl rfl (vp_in_nI (show ci < 16 by omega) (by decide)) dX0_settleClass_10 (fun H locs hP hD hS => ?_)
  obtain ⟨f19, ef19⟩ : ∃ g, g = z_up erA ci k18 := ⟨_, rfl⟩
  have hP : va_P (dC, dI) vwCl (bW bh br cI cJ cB (nI cc) nA mA aA (fun j => nI (fcA j)) fA (fun j => nI (mcA j)) mmA wA tcA g1A g2A nuA (fun j => nI (f19 j)) reA (fun j => nI (liA j)) (fun j => nI (lcA j))) H := by rw [ef19, ← z_upd (show ci < 2 ^ 31 by omega)]; exact hP
  have hD : va_D A (bW bh br cI cJ cB (nI cc) nA mA aA (fun j => nI (fcA j)) fA (fun j => nI (mcA j)) mmA wA tcA g1A g2A nuA (fun j => nI (f19 j)) reA (fun j => nI (liA j)) (fun j => nI (lcA j))) := by rw [ef19, ← z_upd (show ci < 2 ^ 31 by omega)]; exact hD
  have hbf19 : ∀ j, f19 j ≤ 5 := by rw [ef19]; exact z_upb herA (by omega)
  refine lv_aload_n hx hb dX0_settleClass_11 rfl (lv_at hl 0 rfl) ?_
  refine va_get (D := (dC, dI)) (ci := 0) (v := .ref (br 13)) (C := RX0) (T := TX0) (N := 17) hx hb hts hiX0 hown hK hP 0 rfl rfl 13 (by decide) (hts (.fieldLink RX0 49 "LinkModels$Build" "errors" "[I") (by decide +kernel)) (fun _ h9 => h9) rfl dX0_settleClass_12 ?_
  refine lv_iload_n hx hb dX0_settleClass_15 rfl (lv_at hl 1 rfl) ?_
  refine va_iald hx hb hK hP 13 0 rfl rfl (vp_in_nI (show ci < 16 by omega) (by decide)) dX0_settleClass_16 ?_
  refine lv_topi (fun x20 ex20 => ?_)
  obtain rfl : x20 = nI (f19 ci) := by rw [ex20, nI_clamp (show ci < 2 ^ 31 by omega)]
  have hqx20 := hbf19 ci
  refine lv_if_eq (tgt := 21) hx hb dX0_settleClass_17 (by decide) (fun cp17 => ?_) (fun cp17 => ?_)
  · have qcp17 : (f19 ci) = 0 := (nI_eq (a := f19 ci) (b := 0) (by omega) (by omega)).mp cp17
    refine lv_aload_n hx hb dX0_settleClass_21 rfl (lv_at hl 0 rfl) ?_
    refine va_get (D := (dC, dI)) (ci := 0) (v := .ref (br 15)) (C := RX0) (T := TX0) (N := 17) hx hb hts hiX0 hown hK hP 0 rfl rfl 15 (by decide) (hts (.fieldLink RX0 55 "LinkModels$Build" "lines" "[I") (by decide +kernel)) (fun _ h9 => h9) rfl dX0_settleClass_22 ?_
    refine lv_iload_n hx hb dX0_settleClass_25 rfl (lv_at hl 1 rfl) ?_
    refine lv_bipush (v := 16) hx hb dX0_settleClass_26 (by decide) ?_
    refine lv_imul hx hb dX0_settleClass_28 ?_
    refine lv_topi (fun x21 ex21 => ?_)
    obtain rfl : x21 = nI (ci * 16) := by rw [ex21]; exact pk_mul (ci) (16)
    refine lv_iload_n hx hb dX0_settleClass_29 rfl (lv_at hl 1 rfl) ?_
    refine va_iast hx hb hK hP hD hS 15 0 rfl rfl (vp_in_nI (show ci * 16 < 256 by omega) (by decide)) dX0_settleClass_30 (fun H locs hP hD hS => ?_)
    obtain ⟨f22, ef22⟩ : ∃ g, g = z_up liA (ci * 16) ci := ⟨_, rfl⟩
    have hP : va_P (dC, dI) vwCl (bW bh br cI cJ cB (nI cc) nA mA aA (fun j => nI (fcA j)) fA (fun j => nI (mcA j)) mmA wA tcA g1A g2A nuA (fun j => nI (f19 j)) reA (fun j => nI (f22 j)) (fun j => nI (lcA j))) H := by rw [ef22, ← z_upd (show ci * 16 < 2 ^ 31 by omega)]; exact hP
    have hD : va_D A (bW bh br cI cJ cB (nI cc) nA mA aA (fun j => nI (fcA j)) fA (fun j => nI (mcA j)) mmA wA tcA g1A g2A nuA (fun j => nI (f19 j)) reA (fun j => nI (f22 j)) (fun j => nI (lcA j))) := by rw [ef22, ← z_upd (show ci * 16 < 2 ^ 31 by omega)]; exact hD
    have hbf22 : ∀ j, f22 j ≤ 15 := by rw [ef22]; exact z_upb hliA (by omega)
    refine lv_aload_n hx hb dX0_settleClass_31 rfl (lv_at hl 0 rfl) ?_
    refine va_get (D := (dC, dI)) (ci := 0) (v := .ref (br 16)) (C := RX0) (T := TX0) (N := 17) hx hb hts hiX0 hown hK hP 0 rfl rfl 16 (by decide) (hts (.fieldLink RX0 58 "LinkModels$Build" "lineCounts" "[I") (by decide +kernel)) (fun _ h9 => h9) rfl dX0_settleClass_32 ?_
    refine lv_iload_n hx hb dX0_settleClass_35 rfl (lv_at hl 1 rfl) ?_
    refine lv_iconst (v := 1) hx hb dX0_settleClass_36 (by decide) ?_
    refine va_iast hx hb hK hP hD hS 16 0 rfl rfl (vp_in_nI (show ci < 16 by omega) (by decide)) dX0_settleClass_37 (fun H locs hP hD hS => ?_)
    obtain ⟨f23, ef23⟩ : ∃ g, g = z_up lcA ci 1 := ⟨_, rfl⟩
    have hP : va_P (dC, dI) vwCl (bW bh br cI cJ cB (nI cc) nA mA aA (fun j => nI (fcA j)) fA (fun j => nI (mcA j)) mmA wA tcA g1A g2A nuA (fun j => nI (f19 j)) reA (fun j => nI (f22 j)) (fun j => nI (f23 j))) H := by rw [ef23, ← z_upd (show ci < 2 ^ 31 by omega)]; exact hP
    have hD : va_D A (bW bh br cI cJ cB (nI cc) nA mA aA (fun j => nI (fcA j)) fA (fun j => nI (mcA j)) mmA wA tcA g1A g2A nuA (fun j => nI (f19 j)) reA (fun j => nI (f22 j)) (fun j => nI (f23 j))) := by rw [ef23, ← z_upd (show ci < 2 ^ 31 by omega)]; exact hD
    have hbf23 : ∀ j, f23 j ≤ 16 := by rw [ef23]; exact z_upb hlcA (by omega)
    refine lv_iconst (v := 0) hx hb dX0_settleClass_38 (by decide) ?_
    refine lv_istore_n (lv' := [(2, .int 0), (0, .ref bh), (1, .int (nI ci))]) hx hb dX0_settleClass_39 rfl hl (by decide) rfl (fun ls hl => ?_)
    exact J40 _ 0 f19 f22 f23 _ _ ls (Nat.lt_succ_self _) hbf19 hbf22 hbf23 (by first | omega | assumption | trivial) hP hD hS (lv_sub hl [1, 2, 0] rfl)
  · have qcp17 : ¬ (f19 ci) = 0 := fun h9 => cp17 ((nI_eq (a := f19 ci) (b := 0) (by omega) (by omega)).mpr h9)
    have hP9 : va_P (dC, dI) vwCl (bW bh br cI cJ cB (nI cc) nA mA aA (fun j => nI (fcA j)) fA (fun j => nI (mcA j)) mmA wA tcA g1A g2A nuA (fun j => nI (f19 j)) reA (fun j => nI (liA j)) (fun j => nI (lcA j))) H := hP
    have hD9 : va_D A (bW bh br cI cJ cB (nI cc) nA mA aA (fun j => nI (fcA j)) fA (fun j => nI (mcA j)) mmA wA tcA g1A g2A nuA (fun j => nI (f19 j)) reA (fun j => nI (liA j)) (fun j => nI (lcA j))) := hD
    exact W.vret hx hb hr (fun t ht hW => ⟨⟨(f19, liA, lcA), rfl, ⟨hbf19, hliA, hlcA⟩, by rw [ht]; exact hP9, va_K.moved hW.alike hK, hD9⟩, hS.F ht⟩) hS.2.2 dX0_settleClass_20
theorem dX0_traceWays_0 : decode cX0_traceWays 0 = .ok (.iconst 0, 1) := by decide +kernel
theorem dX0_traceWays_1 : decode cX0_traceWays 1 = .ok (.istore_n 1, 1) := by decide +kernel
theorem dX0_traceWays_2 : decode cX0_traceWays 2 = .ok (.iload_n 1, 1) := by decide +kernel
theorem dX0_traceWays_3 : decode cX0_traceWays 3 = .ok (.aload_n 0, 1) := by decide +kernel
theorem dX0_traceWays_4 : decode cX0_traceWays 4 = .ok (.getfield 61, 3) := by decide +kernel
theorem dX0_traceWays_7 : decode cX0_traceWays 7 = .ok (.if_icmp .ge 66, 3) := by decide +kernel
theorem dX0_traceWays_10 : decode cX0_traceWays 10 = .ok (.aload_n 0, 1) := by decide +kernel
theorem dX0_traceWays_11 : decode cX0_traceWays 11 = .ok (.getfield 52, 3) := by decide +kernel
theorem dX0_traceWays_14 : decode cX0_traceWays 14 = .ok (.iload_n 1, 1) := by decide +kernel
theorem dX0_traceWays_15 : decode cX0_traceWays 15 = .ok (.aload_n 0, 1) := by decide +kernel
theorem dX0_traceWays_16 : decode cX0_traceWays 16 = .ok (.aload_n 0, 1) := by decide +kernel
theorem dX0_traceWays_17 : decode cX0_traceWays 17 = .ok (.getfield 18, 3) := by decide +kernel
theorem dX0_traceWays_20 : decode cX0_traceWays 20 = .ok (.iload_n 1, 1) := by decide +kernel
theorem dX0_traceWays_21 : decode cX0_traceWays 21 = .ok (.iaload, 1) := by decide +kernel
theorem dX0_traceWays_22 : decode cX0_traceWays 22 = .ok (.invokevirtual 105, 3) := by decide +kernel
theorem dX0_traceWays_25 : decode cX0_traceWays 25 = .ok (.iastore, 1) := by decide +kernel
theorem dX0_traceWays_26 : decode cX0_traceWays 26 = .ok (.iconst 0, 1) := by decide +kernel
theorem dX0_traceWays_27 : decode cX0_traceWays 27 = .ok (.istore_n 2, 1) := by decide +kernel
theorem dX0_traceWays_28 : decode cX0_traceWays 28 = .ok (.iload_n 2, 1) := by decide +kernel
theorem dX0_traceWays_29 : decode cX0_traceWays 29 = .ok (.aload_n 0, 1) := by decide +kernel
theorem dX0_traceWays_30 : decode cX0_traceWays 30 = .ok (.getfield 21, 3) := by decide +kernel
theorem dX0_traceWays_33 : decode cX0_traceWays 33 = .ok (.iload_n 1, 1) := by decide +kernel
theorem dX0_traceWays_34 : decode cX0_traceWays 34 = .ok (.iaload, 1) := by decide +kernel
theorem dX0_traceWays_35 : decode cX0_traceWays 35 = .ok (.if_icmp .ge 32, 3) := by decide +kernel
theorem dX0_traceWays_38 : decode cX0_traceWays 38 = .ok (.aload_n 0, 1) := by decide +kernel
theorem dX0_traceWays_39 : decode cX0_traceWays 39 = .ok (.getfield 52, 3) := by decide +kernel
theorem dX0_traceWays_42 : decode cX0_traceWays 42 = .ok (.iload_n 1, 1) := by decide +kernel
theorem dX0_traceWays_43 : decode cX0_traceWays 43 = .ok (.dup2, 1) := by decide +kernel
theorem dX0_traceWays_44 : decode cX0_traceWays 44 = .ok (.iaload, 1) := by decide +kernel
theorem dX0_traceWays_45 : decode cX0_traceWays 45 = .ok (.aload_n 0, 1) := by decide +kernel
theorem dX0_traceWays_46 : decode cX0_traceWays 46 = .ok (.aload_n 0, 1) := by decide +kernel
theorem dX0_traceWays_47 : decode cX0_traceWays 47 = .ok (.getfield 24, 3) := by decide +kernel
theorem dX0_traceWays_50 : decode cX0_traceWays 50 = .ok (.iload_n 1, 1) := by decide +kernel
theorem dX0_traceWays_51 : decode cX0_traceWays 51 = .ok (.iconst 3, 1) := by decide +kernel
theorem dX0_traceWays_52 : decode cX0_traceWays 52 = .ok (.imul, 1) := by decide +kernel
theorem dX0_traceWays_53 : decode cX0_traceWays 53 = .ok (.iload_n 2, 1) := by decide +kernel
theorem dX0_traceWays_54 : decode cX0_traceWays 54 = .ok (.iadd, 1) := by decide +kernel
theorem dX0_traceWays_55 : decode cX0_traceWays 55 = .ok (.iaload, 1) := by decide +kernel
theorem dX0_traceWays_56 : decode cX0_traceWays 56 = .ok (.invokevirtual 105, 3) := by decide +kernel
theorem dX0_traceWays_59 : decode cX0_traceWays 59 = .ok (.ior, 1) := by decide +kernel
theorem dX0_traceWays_60 : decode cX0_traceWays 60 = .ok (.iastore, 1) := by decide +kernel
theorem dX0_traceWays_61 : decode cX0_traceWays 61 = .ok (.iinc 2 1, 3) := by decide +kernel
theorem dX0_traceWays_64 : decode cX0_traceWays 64 = .ok (.goto (-36), 3) := by decide +kernel
theorem dX0_traceWays_67 : decode cX0_traceWays 67 = .ok (.iinc 1 1, 3) := by decide +kernel
theorem dX0_traceWays_70 : decode cX0_traceWays 70 = .ok (.goto (-68), 3) := by decide +kernel
theorem dX0_traceWays_73 : decode cX0_traceWays 73 = .ok (.iconst 0, 1) := by decide +kernel
theorem dX0_traceWays_74 : decode cX0_traceWays 74 = .ok (.istore_n 1, 1) := by decide +kernel
theorem dX0_traceWays_75 : decode cX0_traceWays 75 = .ok (.iload_n 1, 1) := by decide +kernel
theorem dX0_traceWays_76 : decode cX0_traceWays 76 = .ok (.aload_n 0, 1) := by decide +kernel
theorem dX0_traceWays_77 : decode cX0_traceWays 77 = .ok (.getfield 61, 3) := by decide +kernel
theorem dX0_traceWays_80 : decode cX0_traceWays 80 = .ok (.if_icmp .ge 54, 3) := by decide +kernel
theorem dX0_traceWays_83 : decode cX0_traceWays 83 = .ok (.iconst 0, 1) := by decide +kernel
theorem dX0_traceWays_84 : decode cX0_traceWays 84 = .ok (.istore_n 2, 1) := by decide +kernel
theorem dX0_traceWays_85 : decode cX0_traceWays 85 = .ok (.iload_n 2, 1) := by decide +kernel
theorem dX0_traceWays_86 : decode cX0_traceWays 86 = .ok (.aload_n 0, 1) := by decide +kernel
theorem dX0_traceWays_87 : decode cX0_traceWays 87 = .ok (.getfield 61, 3) := by decide +kernel
theorem dX0_traceWays_90 : decode cX0_traceWays 90 = .ok (.if_icmp .ge 38, 3) := by decide +kernel
theorem dX0_traceWays_93 : decode cX0_traceWays 93 = .ok (.aload_n 0, 1) := by decide +kernel
theorem dX0_traceWays_94 : decode cX0_traceWays 94 = .ok (.getfield 52, 3) := by decide +kernel
theorem dX0_traceWays_97 : decode cX0_traceWays 97 = .ok (.iload_n 2, 1) := by decide +kernel
theorem dX0_traceWays_98 : decode cX0_traceWays 98 = .ok (.iaload, 1) := by decide +kernel
theorem dX0_traceWays_99 : decode cX0_traceWays 99 = .ok (.iload_n 1, 1) := by decide +kernel
theorem dX0_traceWays_100 : decode cX0_traceWays 100 = .ok (.ishr, 1) := by decide +kernel
theorem dX0_traceWays_101 : decode cX0_traceWays 101 = .ok (.iconst 1, 1) := by decide +kernel
theorem dX0_traceWays_102 : decode cX0_traceWays 102 = .ok (.iand, 1) := by decide +kernel
theorem dX0_traceWays_103 : decode cX0_traceWays 103 = .ok (.iconst 1, 1) := by decide +kernel
theorem dX0_traceWays_104 : decode cX0_traceWays 104 = .ok (.if_icmp .ne 18, 3) := by decide +kernel
theorem dX0_traceWays_107 : decode cX0_traceWays 107 = .ok (.aload_n 0, 1) := by decide +kernel
theorem dX0_traceWays_108 : decode cX0_traceWays 108 = .ok (.getfield 52, 3) := by decide +kernel
theorem dX0_traceWays_111 : decode cX0_traceWays 111 = .ok (.iload_n 2, 1) := by decide +kernel
theorem dX0_traceWays_112 : decode cX0_traceWays 112 = .ok (.dup2, 1) := by decide +kernel
theorem dX0_traceWays_113 : decode cX0_traceWays 113 = .ok (.iaload, 1) := by decide +kernel
theorem dX0_traceWays_114 : decode cX0_traceWays 114 = .ok (.aload_n 0, 1) := by decide +kernel
theorem dX0_traceWays_115 : decode cX0_traceWays 115 = .ok (.getfield 52, 3) := by decide +kernel
theorem dX0_traceWays_118 : decode cX0_traceWays 118 = .ok (.iload_n 1, 1) := by decide +kernel
theorem dX0_traceWays_119 : decode cX0_traceWays 119 = .ok (.iaload, 1) := by decide +kernel
theorem dX0_traceWays_120 : decode cX0_traceWays 120 = .ok (.ior, 1) := by decide +kernel
theorem dX0_traceWays_121 : decode cX0_traceWays 121 = .ok (.iastore, 1) := by decide +kernel
theorem dX0_traceWays_122 : decode cX0_traceWays 122 = .ok (.iinc 2 1, 3) := by decide +kernel
theorem dX0_traceWays_125 : decode cX0_traceWays 125 = .ok (.goto (-40), 3) := by decide +kernel
theorem dX0_traceWays_128 : decode cX0_traceWays 128 = .ok (.iinc 1 1, 3) := by decide +kernel
theorem dX0_traceWays_131 : decode cX0_traceWays 131 = .ok (.goto (-56), 3) := by decide +kernel
theorem dX0_traceWays_134 : decode cX0_traceWays 134 = .ok (.return_, 1) := by decide +kernel
def zwX0_traceWays : List Cond := .code yX0_traceWays cX0_traceWays 3 none :: ([.fieldLink RX0 61 "LinkModels$Build" "classCount" "I", .fieldLink RX0 52 "LinkModels$Build" "reached" "[I", .fieldLink RX0 21 "LinkModels$Build" "faceCounts" "[I", .fieldLink RX0 24 "LinkModels$Build" "faceNames" "[I", .fieldLink RX0 18 "LinkModels$Build" "aboveNames" "[I", .methodLink RX0 105 yX0_bitOf, .instanceMethod yX0_bitOf, .selects RX0 yX0_bitOf yX0_bitOf, .initialized RX0, .code yX0_bitOf cX0_bitOf 3 (some .int), .methodLink RX0 109 yX0_placeOf, .instanceMethod yX0_placeOf, .selects RX0 yX0_placeOf yX0_placeOf, .code yX0_placeOf cX0_placeOf 3 (some .int), .fieldLink RX0 11 "LinkModels$Build" "names" "[I"] ++ wsX00)
set_option maxRecDepth 100000 in
theorem zgX0_traceWays_X0_bitOf_105 : GoodIn zwX0_traceWays (wsV RX0 105 RX0 yX0_bitOf zwX0_bitOf) := goodIn_app (goodIn_r _ [6, 7, 8, 9] rfl (by decide +kernel)) (goodIn_app (goodIn_r _ [10, 11, 12, 13, 9, 14, 1, 15] rfl (by decide +kernel)) (fun w hw => ⟨(List.mem_cons_of_mem _ (List.mem_append_right _ hw)), good_of_word (List.all_eq_true.mp zgX0 w hw)⟩))
set_option maxHeartbeats 4000000 in
set_option maxRecDepth 100000 in
theorem kX0_traceWays (l : Launch) (dC : Nat → ClassId) (dI : Nat → Nat → Nat) (bh : Nat) (br : Nat → Nat) (cI : ClassId) (cJ : ClassId) (cB : ClassId) (cc : Nat) (nA : Nat → Int32) (mA : Nat → Int32) (aA : Nat → Int32) (fcA : Nat → Nat) (fA : Nat → Int32) (mcA : Nat → Nat) (mmA : Nat → Int32) (wA : Nat → Int64) (tcA : Nat → Int32) (g1A : Nat → Int32) (g2A : Nat → Int32) (nuA : Nat → Int32) (erA : Nat → Nat) (reA : Nat → Int32) (liA : Nat → Nat) (lcA : Nat → Nat) (hI : bWI cc fcA mcA erA liA lcA) (sz : Nat) : Met l yX0_traceWays zwX0_traceWays ({ frames := 2, cells := 0, slots := 0, locals := 44 }) (zPk dC dI [.ref bh] sz (bW bh br cI cJ cB (nI cc) nA mA aA (fun j => nI (fcA j)) fA (fun j => nI (mcA j)) mmA wA tcA g1A g2A nuA (fun j => nI (erA j)) reA (fun j => nI (liA j)) (fun j => nI (lcA j))) [(cI, .int), (cJ, .long), (cB, .byte)]) (va_Qv (fun u : (Nat → Int32) => (True)) (fun u t => zB dC dI (va_A (bW bh br cI cJ cB (nI cc) nA mA aA (fun j => nI (fcA j)) fA (fun j => nI (mcA j)) mmA wA tcA g1A g2A nuA (fun j => nI (erA j)) reA (fun j => nI (liA j)) (fun j => nI (lcA j))) sz) (bW bh br cI cJ cB (nI cc) nA mA aA (fun j => nI (fcA j)) fA (fun j => nI (mcA j)) mmA wA tcA g1A g2A nuA (fun j => nI (erA j)) u (fun j => nI (liA j)) (fun j => nI (lcA j))) [(cI, .int), (cJ, .long), (cB, .byte)] t) (va_A (bW bh br cI cJ cB (nI cc) nA mA aA (fun j => nI (fcA j)) fA (fun j => nI (mcA j)) mmA wA tcA g1A g2A nuA (fun j => nI (erA j)) reA (fun j => nI (liA j)) (fun j => nI (lcA j))) sz)) 0 0 (va_A (bW bh br cI cJ cB (nI cc) nA mA aA (fun j => nI (fcA j)) fA (fun j => nI (mcA j)) mmA wA tcA g1A g2A nuA (fun j => nI (erA j)) reA (fun j => nI (liA j)) (fun j => nI (lcA j))) sz) := by
  refine Met.ofW (cc := cX0_traceWays) (maxL := 3) (ret := none) (by decide) rfl ?_
  intro p e s m args below meth c s₁ B hml hv
  obtain ⟨rfl, hsz, hP, hK, hD0, hE⟩ := hv
  have hx := B.exec
  have hb := B.bytes
  have hr := B.returns
  have hts := atoms_spec (ws := zwX0_traceWays) B.pre
  have hown : s.vm.findClass RX0 = some m.cls := findClass_of_methodNamed B.named
  have hiX0 : ∀ w ∈ wsX00, w ∈ zwX0_traceWays := (fun w hw => (List.mem_cons_of_mem _ (List.mem_append_right _ hw)))
  obtain ⟨hcc, hfcA, hmcA, herA, hliA, hlcA⟩ := hI
  subst hsz
  have hD := hD0.self (sz := s.heap.size)
  generalize hAe : va_A (bW bh br cI cJ cB (nI cc) nA mA aA (fun j => nI (fcA j)) fA (fun j => nI (mcA j)) mmA wA tcA g1A g2A nuA (fun j => nI (erA j)) reA (fun j => nI (liA j)) (fun j => nI (lcA j))) s.heap.size = A at hD ⊢
  have hA : ∀ q : Nat, s.heap.size ≤ q → A q := fun q h => by rw [← hAe]; exact Or.inr h
  have hS : va_S A s.heap s.heap [] := va_S.rf
  have hl := lv_entry ([.ref bh]) (n := 3) (Nat.le_of_ble_eq_true rfl)
  rw [lg_entry_eq]
  generalize (lg_sl ([.ref bh]) ++ List.replicate (3 - (lg_sl ([.ref bh])).length) Slot.unset).toArray = ls at hl ⊢
  have hl : lv_has ls 3 [(0, .ref bh)] := hl
  have J75 : ∀ (z75 : Nat) (c1 : Nat) (re2 : Nat → Int32) (H : Heap) (locs : List Loc) (ls : Array Slot), cc - c1 < z75 → (c1 ≤ cc) → va_P (dC, dI) vwCl (bW bh br cI cJ cB (nI cc) nA mA aA (fun j => nI (fcA j)) fA (fun j => nI (mcA j)) mmA wA tcA g1A g2A nuA (fun j => nI (erA j)) re2 (fun j => nI (liA j)) (fun j => nI (lcA j))) H → va_D A (bW bh br cI cJ cB (nI cc) nA mA aA (fun j => nI (fcA j)) fA (fun j => nI (mcA j)) mmA wA tcA g1A g2A nuA (fun j => nI (erA j)) re2 (fun j => nI (liA j)) (fun j => nI (lcA j))) → va_S A s.heap H locs → lv_has ls 3 [(0, .ref bh), (1, .int (nI c1))] → W p l e (headSpec zwX0_traceWays { frames := 2, cells := 0, slots := 0, locals := 44 }).room s m (([.ref bh] : List Value).toArray) below meth c H locs 0 0 (MQ below (va_Qv (fun u : (Nat → Int32) => (True)) (fun u t => zB dC dI (A) (bW bh br cI cJ cB (nI cc) nA mA aA (fun j => nI (fcA j)) fA (fun j => nI (mcA j)) mmA wA tcA g1A g2A nuA (fun j => nI (erA j)) u (fun j => nI (liA j)) (fun j => nI (lcA j))) [(cI, .int), (cJ, .long), (cB, .byte)] t) (A)) (([.ref bh] : List Value).toArray) s 0 0 A) (F0 m 75 ls []) := by
    intro z75
    induction z75 with
    | zero => intro c1 re2 H locs ls h9; exact absurd h9 (Nat.not_lt_zero _)
    | succ z75 ih75 =>
      intro c1 re2 H locs ls hm75 i75_0 hP hD hS hl
      have J85 : ∀ (z85 : Nat) (k2 : Nat) (re3 : Nat → Int32) (H : Heap) (locs : List Loc) (ls : Array Slot), cc - k2 < z85 → (k2 ≤ cc) → (c1 < cc) → va_P (dC, dI) vwCl (bW bh br cI cJ cB (nI cc) nA mA aA (fun j => nI (fcA j)) fA (fun j => nI (mcA j)) mmA wA tcA g1A g2A nuA (fun j => nI (erA j)) re3 (fun j => nI (liA j)) (fun j => nI (lcA j))) H → va_D A (bW bh br cI cJ cB (nI cc) nA mA aA (fun j => nI (fcA j)) fA (fun j => nI (mcA j)) mmA wA tcA g1A g2A nuA (fun j => nI (erA j)) re3 (fun j => nI (liA j)) (fun j => nI (lcA j))) → va_S A s.heap H locs → lv_has ls 3 [(0, .ref bh), (1, .int (nI c1)), (2, .int (nI k2))] → W p l e (headSpec zwX0_traceWays { frames := 2, cells := 0, slots := 0, locals := 44 }).room s m (([.ref bh] : List Value).toArray) below meth c H locs 0 0 (MQ below (va_Qv (fun u : (Nat → Int32) => (True)) (fun u t => zB dC dI (A) (bW bh br cI cJ cB (nI cc) nA mA aA (fun j => nI (fcA j)) fA (fun j => nI (mcA j)) mmA wA tcA g1A g2A nuA (fun j => nI (erA j)) u (fun j => nI (liA j)) (fun j => nI (lcA j))) [(cI, .int), (cJ, .long), (cB, .byte)] t) (A)) (([.ref bh] : List Value).toArray) s 0 0 A) (F0 m 85 ls []) := by
        intro z85
        induction z85 with
        | zero => intro k2 re3 H locs ls h9; exact absurd h9 (Nat.not_lt_zero _)
        | succ z85 ih85 =>
          intro k2 re3 H locs ls hm85 i85_0 i85_1 hP hD hS hl
          refine lv_iload_n hx hb dX0_traceWays_85 rfl (lv_at hl 2 rfl) ?_
          refine lv_aload_n hx hb dX0_traceWays_86 rfl (lv_at hl 0 rfl) ?_
          refine va_get (D := (dC, dI)) (ci := 0) (v := .int (nI cc)) (C := RX0) (T := TX0) (N := 17) hx hb hts hiX0 hown hK hP 0 rfl rfl 0 (by decide) (hts (.fieldLink RX0 61 "LinkModels$Build" "classCount" "I") (by decide +kernel)) (fun _ h9 => h9) rfl dX0_traceWays_87 ?_
          refine lv_icmp_ge (tgt := 128) hx hb dX0_traceWays_90 (by decide) (fun cp90 => ?_) (fun cp90 => ?_)
          · have qcp90 : cc ≤ k2 := (nI_leI (a := cc) (b := k2) (by omega) (by omega)).mp cp90
            obtain ⟨x1, ex1⟩ : ∃ y : Int32, y = (nI c1) + 1 := ⟨_, rfl⟩
            refine lv_iinc (v := x1) (lv' := [(1, .int x1), (0, .ref bh), (2, .int (nI k2))]) hx hb dX0_traceWays_128 hl (k := 1) rfl (by rw [ex1]; rfl) (by decide) rfl (fun ls hl => ?_)
            obtain rfl : x1 = nI (c1 + 1) := by rw [ex1]; exact nI_add (c1) 1
            refine lv_goto (tgt := 75) hx hb dX0_traceWays_131 (by decide) ?_
            exact ih75 (c1 + 1) re3 _ _ ls (by omega) (by first | omega | assumption | trivial) hP hD hS (lv_sub hl [1, 0] rfl)
          · have qcp90 : ¬ cc ≤ k2 := fun h9 => cp90 ((nI_leI (a := cc) (b := k2) (by omega) (by omega)).mpr h9)
            refine lv_aload_n hx hb dX0_traceWays_93 rfl (lv_at hl 0 rfl) ?_
            refine va_get (D := (dC, dI)) (ci := 0) (v := .ref (br 14)) (C := RX0) (T := TX0) (N := 17) hx hb hts hiX0 hown hK hP 0 rfl rfl 14 (by decide) (hts (.fieldLink RX0 52 "LinkModels$Build" "reached" "[I") (by decide +kernel)) (fun _ h9 => h9) rfl dX0_traceWays_94 ?_
            refine lv_iload_n hx hb dX0_traceWays_97 rfl (lv_at hl 2 rfl) ?_
            refine va_iald hx hb hK hP 14 0 rfl rfl (vp_in_nI (show k2 < 16 by omega) (by decide)) dX0_traceWays_98 ?_
            refine lv_topi (fun x2 ex2 => ?_)
            obtain rfl : x2 = re3 k2 := by rw [ex2, nI_clamp (show k2 < 2 ^ 31 by omega)]
            refine lv_iload_n hx hb dX0_traceWays_99 rfl (lv_at hl 1 rfl) ?_
            refine lv_ishr hx hb dX0_traceWays_100 ?_
            refine lv_topi (fun x3 ex3 => ?_)
            refine lv_iconst (v := 1) hx hb dX0_traceWays_101 (by decide) ?_
            refine lv_iand hx hb dX0_traceWays_102 ?_
            refine lv_topi (fun x4 ex4 => ?_)
            refine lv_iconst (v := 1) hx hb dX0_traceWays_103 (by decide) ?_
            refine lv_icmp_ne (tgt := 122) hx hb dX0_traceWays_104 (by decide) (fun cp104 => ?_) (fun cp104 => ?_)
            · obtain ⟨x5, ex5⟩ : ∃ y : Int32, y = (nI k2) + 1 := ⟨_, rfl⟩
              refine lv_iinc (v := x5) (lv' := [(2, .int x5), (0, .ref bh), (1, .int (nI c1))]) hx hb dX0_traceWays_122 hl (k := 2) rfl (by rw [ex5]; rfl) (by decide) rfl (fun ls hl => ?_)
              obtain rfl : x5 = nI (k2 + 1) := by rw [ex5]; exact nI_add (k2) 1
              refine lv_goto (tgt := 85) hx hb dX0_traceWays_125 (by decide) ?_
              exact ih85 (k2 + 1) re3 _ _ ls (by omega) (by first | omega | assumption | trivial) (by first | omega | assumption | trivial) hP hD hS (lv_sub hl [1, 2, 0] rfl)
            · refine lv_aload_n hx hb dX0_traceWays_107 rfl (lv_at hl 0 rfl) ?_
              refine va_get (D := (dC, dI)) (ci := 0) (v := .ref (br 14)) (C := RX0) (T := TX0) (N := 17) hx hb hts hiX0 hown hK hP 0 rfl rfl 14 (by decide) (hts (.fieldLink RX0 52 "LinkModels$Build" "reached" "[I") (by decide +kernel)) (fun _ h9 => h9) rfl dX0_traceWays_108 ?_
              refine lv_iload_n hx hb dX0_traceWays_111 rfl (lv_at hl 2 rfl) ?_
              refine lv_dup2_11 hx hb dX0_traceWays_112 rfl rfl ?_
              refine va_iald hx hb hK hP 14 0 rfl rfl (vp_in_nI (show k2 < 16 by omega) (by decide)) dX0_traceWays_113 ?_
              refine lv_topi (fun x6 ex6 => ?_)
              obtain rfl : x6 = re3 k2 := by rw [ex6, nI_clamp (show k2 < 2 ^ 31 by omega)]
              refine lv_aload_n hx hb dX0_traceWays_114 rfl (lv_at hl 0 rfl) ?_
              refine va_get (D := (dC, dI)) (ci := 0) (v := .ref (br 14)) (C := RX0) (T := TX0) (N := 17) hx hb hts hiX0 hown hK hP 0 rfl rfl 14 (by decide) (hts (.fieldLink RX0 52 "LinkModels$Build" "reached" "[I") (by decide +kernel)) (fun _ h9 => h9) rfl dX0_traceWays_115 ?_
              refine lv_iload_n hx hb dX0_traceWays_118 rfl (lv_at hl 1 rfl) ?_
              refine va_iald hx hb hK hP 14 0 rfl rfl (vp_in_nI (show c1 < 16 by omega) (by decide)) dX0_traceWays_119 ?_
              refine lv_topi (fun x7 ex7 => ?_)
              obtain rfl : x7 = re3 c1 := by rw [ex7, nI_clamp (show c1 < 2 ^ 31 by omega)]
              refine lv_ior hx hb dX0_traceWays_120 ?_
              refine lv_topi (fun x8 ex8 => ?_)
              refine va_iast hx hb hK hP hD hS 14 0 rfl rfl (vp_in_nI (show k2 < 16 by omega) (by decide)) dX0_traceWays_121 (fun H locs hP hD hS => ?_)
              obtain ⟨f9, hP, hD⟩ : ∃ g : Nat → Int32, va_P (dC, dI) vwCl (bW bh br cI cJ cB (nI cc) nA mA aA (fun j => nI (fcA j)) fA (fun j => nI (mcA j)) mmA wA tcA g1A g2A nuA (fun j => nI (erA j)) g (fun j => nI (liA j)) (fun j => nI (lcA j))) H ∧ va_D A (bW bh br cI cJ cB (nI cc) nA mA aA (fun j => nI (fcA j)) fA (fun j => nI (mcA j)) mmA wA tcA g1A g2A nuA (fun j => nI (erA j)) g (fun j => nI (liA j)) (fun j => nI (lcA j))) := ⟨_, hP, hD⟩
              obtain ⟨x10, ex10⟩ : ∃ y : Int32, y = (nI k2) + 1 := ⟨_, rfl⟩
              refine lv_iinc (v := x10) (lv' := [(2, .int x10), (0, .ref bh), (1, .int (nI c1))]) hx hb dX0_traceWays_122 hl (k := 2) rfl (by rw [ex10]; rfl) (by decide) rfl (fun ls hl => ?_)
              obtain rfl : x10 = nI (k2 + 1) := by rw [ex10]; exact nI_add (k2) 1
              refine lv_goto (tgt := 85) hx hb dX0_traceWays_125 (by decide) ?_
              exact ih85 (k2 + 1) f9 _ _ ls (by omega) (by first | omega | assumption | trivial) (by first | omega | assumption | trivial) hP hD hS (lv_sub hl [1, 2, 0] rfl)
      refine lv_iload_n hx hb dX0_traceWays_75 rfl (lv_at hl 1 rfl) ?_
      refine lv_aload_n hx hb dX0_traceWays_76 rfl (lv_at hl 0 rfl) ?_
      refine va_get (D := (dC, dI)) (ci := 0) (v := .int (nI cc)) (C := RX0) (T := TX0) (N := 17) hx hb hts hiX0 hown hK hP 0 rfl rfl 0 (by decide) (hts (.fieldLink RX0 61 "LinkModels$Build" "classCount" "I") (by decide +kernel)) (fun _ h9 => h9) rfl dX0_traceWays_77 ?_
      refine lv_icmp_ge (tgt := 134) hx hb dX0_traceWays_80 (by decide) (fun cp80 => ?_) (fun cp80 => ?_)
      · have qcp80 : cc ≤ c1 := (nI_leI (a := cc) (b := c1) (by omega) (by omega)).mp cp80
        have hP9 : va_P (dC, dI) vwCl (bW bh br cI cJ cB (nI cc) nA mA aA (fun j => nI (fcA j)) fA (fun j => nI (mcA j)) mmA wA tcA g1A g2A nuA (fun j => nI (erA j)) re2 (fun j => nI (liA j)) (fun j => nI (lcA j))) H := hP
        have hD9 : va_D A (bW bh br cI cJ cB (nI cc) nA mA aA (fun j => nI (fcA j)) fA (fun j => nI (mcA j)) mmA wA tcA g1A g2A nuA (fun j => nI (erA j)) re2 (fun j => nI (liA j)) (fun j => nI (lcA j))) := hD
        exact W.vret hx hb hr (fun t ht hW => ⟨⟨(re2), rfl, trivial, by rw [ht]; exact hP9, va_K.moved hW.alike hK, hD9⟩, hS.F ht⟩) hS.2.2 dX0_traceWays_134
      · have qcp80 : ¬ cc ≤ c1 := fun h9 => cp80 ((nI_leI (a := cc) (b := c1) (by omega) (by omega)).mpr h9)
        refine lv_iconst (v := 0) hx hb dX0_traceWays_83 (by decide) ?_
        refine lv_istore_n (lv' := [(2, .int 0), (0, .ref bh), (1, .int (nI c1))]) hx hb dX0_traceWays_84 rfl hl (by decide) rfl (fun ls hl => ?_)
        exact J85 _ 0 re2 _ _ ls (Nat.lt_succ_self _) (by first | omega | assumption | trivial) (by first | omega | assumption | trivial) hP hD hS (lv_sub hl [1, 2, 0] rfl)
  have J2 : ∀ (z2 : Nat) (c1 : Nat) (re2 : Nat → Int32) (H : Heap) (locs : List Loc) (ls : Array Slot), cc - c1 < z2 → (c1 ≤ cc) → va_P (dC, dI) vwCl (bW bh br cI cJ cB (nI cc) nA mA aA (fun j => nI (fcA j)) fA (fun j => nI (mcA j)) mmA wA tcA g1A g2A nuA (fun j => nI (erA j)) re2 (fun j => nI (liA j)) (fun j => nI (lcA j))) H → va_D A (bW bh br cI cJ cB (nI cc) nA mA aA (fun j => nI (fcA j)) fA (fun j => nI (mcA j)) mmA wA tcA g1A g2A nuA (fun j => nI (erA j)) re2 (fun j => nI (liA j)) (fun j => nI (lcA j))) → va_S A s.heap H locs → lv_has ls 3 [(0, .ref bh), (1, .int (nI c1))] → W p l e (headSpec zwX0_traceWays { frames := 2, cells := 0, slots := 0, locals := 44 }).room s m (([.ref bh] : List Value).toArray) below meth c H locs 0 0 (MQ below (va_Qv (fun u : (Nat → Int32) => (True)) (fun u t => zB dC dI (A) (bW bh br cI cJ cB (nI cc) nA mA aA (fun j => nI (fcA j)) fA (fun j => nI (mcA j)) mmA wA tcA g1A g2A nuA (fun j => nI (erA j)) u (fun j => nI (liA j)) (fun j => nI (lcA j))) [(cI, .int), (cJ, .long), (cB, .byte)] t) (A)) (([.ref bh] : List Value).toArray) s 0 0 A) (F0 m 2 ls []) := by
    intro z2
    induction z2 with
    | zero => intro c1 re2 H locs ls h9; exact absurd h9 (Nat.not_lt_zero _)
    | succ z2 ih2 =>
      intro c1 re2 H locs ls hm2 i2_0 hP hD hS hl
      have J28 : ∀ (z28 : Nat) (k2 : Nat) (re3 : Nat → Int32) (H : Heap) (locs : List Loc) (ls : Array Slot), fcA c1 - k2 < z28 → (k2 ≤ fcA c1) → (c1 < cc) → va_P (dC, dI) vwCl (bW bh br cI cJ cB (nI cc) nA mA aA (fun j => nI (fcA j)) fA (fun j => nI (mcA j)) mmA wA tcA g1A g2A nuA (fun j => nI (erA j)) re3 (fun j => nI (liA j)) (fun j => nI (lcA j))) H → va_D A (bW bh br cI cJ cB (nI cc) nA mA aA (fun j => nI (fcA j)) fA (fun j => nI (mcA j)) mmA wA tcA g1A g2A nuA (fun j => nI (erA j)) re3 (fun j => nI (liA j)) (fun j => nI (lcA j))) → va_S A s.heap H locs → lv_has ls 3 [(0, .ref bh), (1, .int (nI c1)), (2, .int (nI k2))] → W p l e (headSpec zwX0_traceWays { frames := 2, cells := 0, slots := 0, locals := 44 }).room s m (([.ref bh] : List Value).toArray) below meth c H locs 0 0 (MQ below (va_Qv (fun u : (Nat → Int32) => (True)) (fun u t => zB dC dI (A) (bW bh br cI cJ cB (nI cc) nA mA aA (fun j => nI (fcA j)) fA (fun j => nI (mcA j)) mmA wA tcA g1A g2A nuA (fun j => nI (erA j)) u (fun j => nI (liA j)) (fun j => nI (lcA j))) [(cI, .int), (cJ, .long), (cB, .byte)] t) (A)) (([.ref bh] : List Value).toArray) s 0 0 A) (F0 m 28 ls []) := by
        intro z28
        induction z28 with
        | zero => intro k2 re3 H locs ls h9; exact absurd h9 (Nat.not_lt_zero _)
        | succ z28 ih28 =>
          intro k2 re3 H locs ls hm28 i28_0 i28_1 hP hD hS hl
          have hf9 := hfcA c1
          refine lv_iload_n hx hb dX0_traceWays_28 rfl (lv_at hl 2 rfl) ?_
          refine lv_aload_n hx hb dX0_traceWays_29 rfl (lv_at hl 0 rfl) ?_
          refine va_get (D := (dC, dI)) (ci := 0) (v := .ref (br 4)) (C := RX0) (T := TX0) (N := 17) hx hb hts hiX0 hown hK hP 0 rfl rfl 4 (by decide) (hts (.fieldLink RX0 21 "LinkModels$Build" "faceCounts" "[I") (by decide +kernel)) (fun _ h9 => h9) rfl dX0_traceWays_30 ?_
          refine lv_iload_n hx hb dX0_traceWays_33 rfl (lv_at hl 1 rfl) ?_
          refine va_iald hx hb hK hP 4 0 rfl rfl (vp_in_nI (show c1 < 16 by omega) (by decide)) dX0_traceWays_34 ?_
          refine lv_topi (fun x11 ex11 => ?_)
          obtain rfl : x11 = nI (fcA c1) := by rw [ex11, nI_clamp (show c1 < 2 ^ 31 by omega)]
          have hqx11 := hfcA c1
          refine lv_icmp_ge (tgt := 67) hx hb dX0_traceWays_35 (by decide) (fun cp35 => ?_) (fun cp35 => ?_)
          · have qcp35 : (fcA c1) ≤ k2 := (nI_leI (a := fcA c1) (b := k2) (by omega) (by omega)).mp cp35
            obtain ⟨x12, ex12⟩ : ∃ y : Int32, y = (nI c1) + 1 := ⟨_, rfl⟩
            refine lv_iinc (v := x12) (lv' := [(1, .int x12), (0, .ref bh), (2, .int (nI k2))]) hx hb dX0_traceWays_67 hl (k := 1) rfl (by rw [ex12]; rfl) (by decide) rfl (fun ls hl => ?_)
            obtain rfl : x12 = nI (c1 + 1) := by rw [ex12]; exact nI_add (c1) 1
            refine lv_goto (tgt := 2) hx hb dX0_traceWays_70 (by decide) ?_
            exact ih2 (c1 + 1) re3 _ _ ls (by omega) (by first | omega | assumption | trivial) hP hD hS (lv_sub hl [1, 0] rfl)
          · have qcp35 : ¬ (fcA c1) ≤ k2 := fun h9 => cp35 ((nI_leI (a := fcA c1) (b := k2) (by omega) (by omega)).mpr h9)
            refine lv_aload_n hx hb dX0_traceWays_38 rfl (lv_at hl 0 rfl) ?_
            refine va_get (D := (dC, dI)) (ci := 0) (v := .ref (br 14)) (C := RX0) (T := TX0) (N := 17) hx hb hts hiX0 hown hK hP 0 rfl rfl 14 (by decide) (hts (.fieldLink RX0 52 "LinkModels$Build" "reached" "[I") (by decide +kernel)) (fun _ h9 => h9) rfl dX0_traceWays_39 ?_
            refine lv_iload_n hx hb dX0_traceWays_42 rfl (lv_at hl 1 rfl) ?_
            refine lv_dup2_11 hx hb dX0_traceWays_43 rfl rfl ?_
            refine va_iald hx hb hK hP 14 0 rfl rfl (vp_in_nI (show c1 < 16 by omega) (by decide)) dX0_traceWays_44 ?_
            refine lv_topi (fun x13 ex13 => ?_)
            obtain rfl : x13 = re3 c1 := by rw [ex13, nI_clamp (show c1 < 2 ^ 31 by omega)]
            refine lv_aload_n hx hb dX0_traceWays_45 rfl (lv_at hl 0 rfl) ?_
            refine lv_aload_n hx hb dX0_traceWays_46 rfl (lv_at hl 0 rfl) ?_
            refine va_get (D := (dC, dI)) (ci := 0) (v := .ref (br 5)) (C := RX0) (T := TX0) (N := 17) hx hb hts hiX0 hown hK hP 0 rfl rfl 5 (by decide) (hts (.fieldLink RX0 24 "LinkModels$Build" "faceNames" "[I") (by decide +kernel)) (fun _ h9 => h9) rfl dX0_traceWays_47 ?_
            refine lv_iload_n hx hb dX0_traceWays_50 rfl (lv_at hl 1 rfl) ?_
            refine lv_iconst (v := 3) hx hb dX0_traceWays_51 (by decide) ?_
            refine lv_imul hx hb dX0_traceWays_52 ?_
            refine lv_topi (fun x14 ex14 => ?_)
            obtain rfl : x14 = nI (c1 * 3) := by rw [ex14]; exact pk_mul (c1) (3)
            refine lv_iload_n hx hb dX0_traceWays_53 rfl (lv_at hl 2 rfl) ?_
            refine lv_iadd hx hb dX0_traceWays_54 ?_
            refine lv_topi (fun x15 ex15 => ?_)
            obtain rfl : x15 = nI ((c1 * 3) + k2) := by rw [ex15]; exact nI_add (c1 * 3) (k2)
            refine va_iald hx hb hK hP 5 0 rfl rfl (vp_in_nI (show (c1 * 3) + k2 < 48 by omega) (by decide)) dX0_traceWays_55 ?_
            refine lv_topi (fun x16 ex16 => ?_)
            obtain rfl : x16 = fA ((c1 * 3) + k2) := by rw [ex16, nI_clamp (show (c1 * 3) + k2 < 2 ^ 31 by omega)]
            refine vp_callSi (W.runV (As := [.int (fA ((c1 * 3) + k2))]) (rest := [.int (re3 c1), .int (nI c1), .ref (br 14)]) ⟨hx, hb, hml, hown, hts⟩ (kX0_bitOf l dC dI bh br cI cJ cB cc nA mA aA fcA fA mcA mmA wA tcA g1A g2A nuA erA re3 liA lcA ⟨by omega, hfcA, hmcA, herA, hliA, hlcA⟩ (fA ((c1 * 3) + k2))) (cwV 1 hts zgX0_traceWays_X0_bitOf_105 rfl rfl rfl (by decide +kernel) ⟨(show 1 + 1 ≤ 2 by omega), (show 8 + (3 + 11) + 22 ≤ 44 by omega)⟩) (zVq (ci := 0) (q0 := 0) (q := (RX0, TX0, 17)) hK hP hE rfl rfl rfl) rfl rfl hl.1 rfl (lv_room (Nat.le_of_ble_eq_true rfl)) dX0_traceWays_56 ⟨(show 0 + 0 ≤ 0 by omega), (show 0 + 0 ≤ 0 by omega)⟩) (fun r17 hw => ?_)
            have hw : (True) := hw
            have w0r17 := hw
            refine lv_ior hx hb dX0_traceWays_59 ?_
            refine lv_topi (fun x18 ex18 => ?_)
            refine va_iast hx hb hK hP hD hS 14 0 rfl rfl (vp_in_nI (show c1 < 16 by omega) (by decide)) dX0_traceWays_60 (fun H locs hP hD hS => ?_)
            obtain ⟨f19, hP, hD⟩ : ∃ g : Nat → Int32, va_P (dC, dI) vwCl (bW bh br cI cJ cB (nI cc) nA mA aA (fun j => nI (fcA j)) fA (fun j => nI (mcA j)) mmA wA tcA g1A g2A nuA (fun j => nI (erA j)) g (fun j => nI (liA j)) (fun j => nI (lcA j))) H ∧ va_D A (bW bh br cI cJ cB (nI cc) nA mA aA (fun j => nI (fcA j)) fA (fun j => nI (mcA j)) mmA wA tcA g1A g2A nuA (fun j => nI (erA j)) g (fun j => nI (liA j)) (fun j => nI (lcA j))) := ⟨_, hP, hD⟩
            obtain ⟨x20, ex20⟩ : ∃ y : Int32, y = (nI k2) + 1 := ⟨_, rfl⟩
            refine lv_iinc (v := x20) (lv' := [(2, .int x20), (0, .ref bh), (1, .int (nI c1))]) hx hb dX0_traceWays_61 hl (k := 2) rfl (by rw [ex20]; rfl) (by decide) rfl (fun ls hl => ?_)
            obtain rfl : x20 = nI (k2 + 1) := by rw [ex20]; exact nI_add (k2) 1
            refine lv_goto (tgt := 28) hx hb dX0_traceWays_64 (by decide) ?_
            exact ih28 (k2 + 1) f19 _ _ ls (by omega) (by first | omega | assumption | trivial) (by first | omega | assumption | trivial) hP hD hS (lv_sub hl [1, 2, 0] rfl)
      refine lv_iload_n hx hb dX0_traceWays_2 rfl (lv_at hl 1 rfl) ?_
      refine lv_aload_n hx hb dX0_traceWays_3 rfl (lv_at hl 0 rfl) ?_
      refine va_get (D := (dC, dI)) (ci := 0) (v := .int (nI cc)) (C := RX0) (T := TX0) (N := 17) hx hb hts hiX0 hown hK hP 0 rfl rfl 0 (by decide) (hts (.fieldLink RX0 61 "LinkModels$Build" "classCount" "I") (by decide +kernel)) (fun _ h9 => h9) rfl dX0_traceWays_4 ?_
      refine lv_icmp_ge (tgt := 73) hx hb dX0_traceWays_7 (by decide) (fun cp7 => ?_) (fun cp7 => ?_)
      · have qcp7 : cc ≤ c1 := (nI_leI (a := cc) (b := c1) (by omega) (by omega)).mp cp7
        refine lv_iconst (v := 0) hx hb dX0_traceWays_73 (by decide) ?_
        refine lv_istore_n (lv' := [(1, .int 0), (0, .ref bh)]) hx hb dX0_traceWays_74 rfl hl (by decide) rfl (fun ls hl => ?_)
        exact J75 _ 0 re2 _ _ ls (Nat.lt_succ_self _) (by first | omega | assumption | trivial) hP hD hS (lv_sub hl [1, 0] rfl)
      · have qcp7 : ¬ cc ≤ c1 := fun h9 => cp7 ((nI_leI (a := cc) (b := c1) (by omega) (by omega)).mpr h9)
        refine lv_aload_n hx hb dX0_traceWays_10 rfl (lv_at hl 0 rfl) ?_
        refine va_get (D := (dC, dI)) (ci := 0) (v := .ref (br 14)) (C := RX0) (T := TX0) (N := 17) hx hb hts hiX0 hown hK hP 0 rfl rfl 14 (by decide) (hts (.fieldLink RX0 52 "LinkModels$Build" "reached" "[I") (by decide +kernel)) (fun _ h9 => h9) rfl dX0_traceWays_11 ?_
        refine lv_iload_n hx hb dX0_traceWays_14 rfl (lv_at hl 1 rfl) ?_
        refine lv_aload_n hx hb dX0_traceWays_15 rfl (lv_at hl 0 rfl) ?_
        refine lv_aload_n hx hb dX0_traceWays_16 rfl (lv_at hl 0 rfl) ?_
        refine va_get (D := (dC, dI)) (ci := 0) (v := .ref (br 3)) (C := RX0) (T := TX0) (N := 17) hx hb hts hiX0 hown hK hP 0 rfl rfl 3 (by decide) (hts (.fieldLink RX0 18 "LinkModels$Build" "aboveNames" "[I") (by decide +kernel)) (fun _ h9 => h9) rfl dX0_traceWays_17 ?_
        refine lv_iload_n hx hb dX0_traceWays_20 rfl (lv_at hl 1 rfl) ?_
        refine va_iald hx hb hK hP 3 0 rfl rfl (vp_in_nI (show c1 < 16 by omega) (by decide)) dX0_traceWays_21 ?_
        refine lv_topi (fun x21 ex21 => ?_)
        obtain rfl : x21 = aA c1 := by rw [ex21, nI_clamp (show c1 < 2 ^ 31 by omega)]
        refine vp_callSi (W.runV (As := [.int (aA c1)]) (rest := [.int (nI c1), .ref (br 14)]) ⟨hx, hb, hml, hown, hts⟩ (kX0_bitOf l dC dI bh br cI cJ cB cc nA mA aA fcA fA mcA mmA wA tcA g1A g2A nuA erA re2 liA lcA ⟨by omega, hfcA, hmcA, herA, hliA, hlcA⟩ (aA c1)) (cwV 1 hts zgX0_traceWays_X0_bitOf_105 rfl rfl rfl (by decide +kernel) ⟨(show 1 + 1 ≤ 2 by omega), (show 8 + (3 + 11) + 22 ≤ 44 by omega)⟩) (zVq (ci := 0) (q0 := 0) (q := (RX0, TX0, 17)) hK hP hE rfl rfl rfl) rfl rfl hl.1 rfl (lv_room (Nat.le_of_ble_eq_true rfl)) dX0_traceWays_22 ⟨(show 0 + 0 ≤ 0 by omega), (show 0 + 0 ≤ 0 by omega)⟩) (fun r22 hw => ?_)
        have hw : (True) := hw
        have w0r22 := hw
        refine va_iast hx hb hK hP hD hS 14 0 rfl rfl (vp_in_nI (show c1 < 16 by omega) (by decide)) dX0_traceWays_25 (fun H locs hP hD hS => ?_)
        obtain ⟨f23, hP, hD⟩ : ∃ g : Nat → Int32, va_P (dC, dI) vwCl (bW bh br cI cJ cB (nI cc) nA mA aA (fun j => nI (fcA j)) fA (fun j => nI (mcA j)) mmA wA tcA g1A g2A nuA (fun j => nI (erA j)) g (fun j => nI (liA j)) (fun j => nI (lcA j))) H ∧ va_D A (bW bh br cI cJ cB (nI cc) nA mA aA (fun j => nI (fcA j)) fA (fun j => nI (mcA j)) mmA wA tcA g1A g2A nuA (fun j => nI (erA j)) g (fun j => nI (liA j)) (fun j => nI (lcA j))) := ⟨_, hP, hD⟩
        refine lv_iconst (v := 0) hx hb dX0_traceWays_26 (by decide) ?_
        refine lv_istore_n (lv' := [(2, .int 0), (0, .ref bh), (1, .int (nI c1))]) hx hb dX0_traceWays_27 rfl hl (by decide) rfl (fun ls hl => ?_)
        exact J28 _ 0 f23 _ _ ls (Nat.lt_succ_self _) (by first | omega | assumption | trivial) (by first | omega | assumption | trivial) hP hD hS (lv_sub hl [1, 2, 0] rfl)
  refine lv_iconst (v := 0) hx hb dX0_traceWays_0 (by decide) ?_
  refine lv_istore_n (lv' := [(1, .int 0), (0, .ref bh)]) hx hb dX0_traceWays_1 rfl hl (by decide) rfl (fun ls hl => ?_)
  exact J2 _ 0 reA _ _ ls (Nat.lt_succ_self _) (by first | omega | assumption | trivial) hP hD hS (lv_sub hl [1, 0] rfl)
theorem dX0_settle_0 : decode cX0_settle 0 = .ok (.aload_n 0, 1) := by decide +kernel
theorem dX0_settle_1 : decode cX0_settle 1 = .ok (.invokevirtual 98, 3) := by decide +kernel
theorem dX0_settle_4 : decode cX0_settle 4 = .ok (.iconst 0, 1) := by decide +kernel
theorem dX0_settle_5 : decode cX0_settle 5 = .ok (.istore_n 1, 1) := by decide +kernel
theorem dX0_settle_6 : decode cX0_settle 6 = .ok (.iconst 0, 1) := by decide +kernel
theorem dX0_settle_7 : decode cX0_settle 7 = .ok (.istore_n 2, 1) := by decide +kernel
theorem dX0_settle_8 : decode cX0_settle 8 = .ok (.iload_n 2, 1) := by decide +kernel
theorem dX0_settle_9 : decode cX0_settle 9 = .ok (.aload_n 0, 1) := by decide +kernel
theorem dX0_settle_10 : decode cX0_settle 10 = .ok (.getfield 61, 3) := by decide +kernel
theorem dX0_settle_13 : decode cX0_settle 13 = .ok (.if_icmp .ge 42, 3) := by decide +kernel
theorem dX0_settle_16 : decode cX0_settle 16 = .ok (.aload_n 0, 1) := by decide +kernel
theorem dX0_settle_17 : decode cX0_settle 17 = .ok (.getfield 58, 3) := by decide +kernel
theorem dX0_settle_20 : decode cX0_settle 20 = .ok (.iload_n 2, 1) := by decide +kernel
theorem dX0_settle_21 : decode cX0_settle 21 = .ok (.iconst 0, 1) := by decide +kernel
theorem dX0_settle_22 : decode cX0_settle 22 = .ok (.iastore, 1) := by decide +kernel
theorem dX0_settle_23 : decode cX0_settle 23 = .ok (.aload_n 0, 1) := by decide +kernel
theorem dX0_settle_24 : decode cX0_settle 24 = .ok (.getfield 49, 3) := by decide +kernel
theorem dX0_settle_27 : decode cX0_settle 27 = .ok (.iload_n 2, 1) := by decide +kernel
theorem dX0_settle_28 : decode cX0_settle 28 = .ok (.iconst 3, 1) := by decide +kernel
theorem dX0_settle_29 : decode cX0_settle 29 = .ok (.iastore, 1) := by decide +kernel
theorem dX0_settle_30 : decode cX0_settle 30 = .ok (.aload_n 0, 1) := by decide +kernel
theorem dX0_settle_31 : decode cX0_settle 31 = .ok (.getfield 52, 3) := by decide +kernel
theorem dX0_settle_34 : decode cX0_settle 34 = .ok (.iload_n 2, 1) := by decide +kernel
theorem dX0_settle_35 : decode cX0_settle 35 = .ok (.iaload, 1) := by decide +kernel
theorem dX0_settle_36 : decode cX0_settle 36 = .ok (.iload_n 2, 1) := by decide +kernel
theorem dX0_settle_37 : decode cX0_settle 37 = .ok (.ishr, 1) := by decide +kernel
theorem dX0_settle_38 : decode cX0_settle 38 = .ok (.iconst 1, 1) := by decide +kernel
theorem dX0_settle_39 : decode cX0_settle 39 = .ok (.iand, 1) := by decide +kernel
theorem dX0_settle_40 : decode cX0_settle 40 = .ok (.ifCond .ne 9, 3) := by decide +kernel
theorem dX0_settle_43 : decode cX0_settle 43 = .ok (.iload_n 1, 1) := by decide +kernel
theorem dX0_settle_44 : decode cX0_settle 44 = .ok (.iconst 1, 1) := by decide +kernel
theorem dX0_settle_45 : decode cX0_settle 45 = .ok (.iload_n 2, 1) := by decide +kernel
theorem dX0_settle_46 : decode cX0_settle 46 = .ok (.ishl, 1) := by decide +kernel
theorem dX0_settle_47 : decode cX0_settle 47 = .ok (.ior, 1) := by decide +kernel
theorem dX0_settle_48 : decode cX0_settle 48 = .ok (.istore_n 1, 1) := by decide +kernel
theorem dX0_settle_49 : decode cX0_settle 49 = .ok (.iinc 2 1, 3) := by decide +kernel
theorem dX0_settle_52 : decode cX0_settle 52 = .ok (.goto (-44), 3) := by decide +kernel
theorem dX0_settle_55 : decode cX0_settle 55 = .ok (.iconst 0, 1) := by decide +kernel
theorem dX0_settle_56 : decode cX0_settle 56 = .ok (.istore_n 2, 1) := by decide +kernel
theorem dX0_settle_57 : decode cX0_settle 57 = .ok (.iload_n 2, 1) := by decide +kernel
theorem dX0_settle_58 : decode cX0_settle 58 = .ok (.aload_n 0, 1) := by decide +kernel
theorem dX0_settle_59 : decode cX0_settle 59 = .ok (.getfield 61, 3) := by decide +kernel
theorem dX0_settle_62 : decode cX0_settle 62 = .ok (.if_icmp .ge 62, 3) := by decide +kernel
theorem dX0_settle_65 : decode cX0_settle 65 = .ok (.iload_n 1, 1) := by decide +kernel
theorem dX0_settle_66 : decode cX0_settle 66 = .ok (.ifCond .eq 58, 3) := by decide +kernel
theorem dX0_settle_69 : decode cX0_settle 69 = .ok (.iconst 0, 1) := by decide +kernel
theorem dX0_settle_70 : decode cX0_settle 70 = .ok (.istore_n 3, 1) := by decide +kernel
theorem dX0_settle_71 : decode cX0_settle 71 = .ok (.iload_n 3, 1) := by decide +kernel
theorem dX0_settle_72 : decode cX0_settle 72 = .ok (.aload_n 0, 1) := by decide +kernel
theorem dX0_settle_73 : decode cX0_settle 73 = .ok (.getfield 61, 3) := by decide +kernel
theorem dX0_settle_76 : decode cX0_settle 76 = .ok (.if_icmp .ge 42, 3) := by decide +kernel
theorem dX0_settle_79 : decode cX0_settle 79 = .ok (.iload_n 1, 1) := by decide +kernel
theorem dX0_settle_80 : decode cX0_settle 80 = .ok (.iload_n 3, 1) := by decide +kernel
theorem dX0_settle_81 : decode cX0_settle 81 = .ok (.ishr, 1) := by decide +kernel
theorem dX0_settle_82 : decode cX0_settle 82 = .ok (.iconst 1, 1) := by decide +kernel
theorem dX0_settle_83 : decode cX0_settle 83 = .ok (.iand, 1) := by decide +kernel
theorem dX0_settle_84 : decode cX0_settle 84 = .ok (.iconst 1, 1) := by decide +kernel
theorem dX0_settle_85 : decode cX0_settle 85 = .ok (.if_icmp .ne 27, 3) := by decide +kernel
theorem dX0_settle_88 : decode cX0_settle 88 = .ok (.aload_n 0, 1) := by decide +kernel
theorem dX0_settle_89 : decode cX0_settle 89 = .ok (.getfield 52, 3) := by decide +kernel
theorem dX0_settle_92 : decode cX0_settle 92 = .ok (.iload_n 3, 1) := by decide +kernel
theorem dX0_settle_93 : decode cX0_settle 93 = .ok (.iaload, 1) := by decide +kernel
theorem dX0_settle_94 : decode cX0_settle 94 = .ok (.iload_n 1, 1) := by decide +kernel
theorem dX0_settle_95 : decode cX0_settle 95 = .ok (.iand, 1) := by decide +kernel
theorem dX0_settle_96 : decode cX0_settle 96 = .ok (.ifCond .ne 16, 3) := by decide +kernel
theorem dX0_settle_99 : decode cX0_settle 99 = .ok (.iload_n 1, 1) := by decide +kernel
theorem dX0_settle_100 : decode cX0_settle 100 = .ok (.iconst 1, 1) := by decide +kernel
theorem dX0_settle_101 : decode cX0_settle 101 = .ok (.iload_n 3, 1) := by decide +kernel
theorem dX0_settle_102 : decode cX0_settle 102 = .ok (.ishl, 1) := by decide +kernel
theorem dX0_settle_103 : decode cX0_settle 103 = .ok (.iconst (-1), 1) := by decide +kernel
theorem dX0_settle_104 : decode cX0_settle 104 = .ok (.ixor, 1) := by decide +kernel
theorem dX0_settle_105 : decode cX0_settle 105 = .ok (.iand, 1) := by decide +kernel
theorem dX0_settle_106 : decode cX0_settle 106 = .ok (.istore_n 1, 1) := by decide +kernel
theorem dX0_settle_107 : decode cX0_settle 107 = .ok (.aload_n 0, 1) := by decide +kernel
theorem dX0_settle_108 : decode cX0_settle 108 = .ok (.iload_n 3, 1) := by decide +kernel
theorem dX0_settle_109 : decode cX0_settle 109 = .ok (.invokevirtual 101, 3) := by decide +kernel
theorem dX0_settle_112 : decode cX0_settle 112 = .ok (.iinc 3 1, 3) := by decide +kernel
theorem dX0_settle_115 : decode cX0_settle 115 = .ok (.goto (-44), 3) := by decide +kernel
theorem dX0_settle_118 : decode cX0_settle 118 = .ok (.iinc 2 1, 3) := by decide +kernel
theorem dX0_settle_121 : decode cX0_settle 121 = .ok (.goto (-64), 3) := by decide +kernel
theorem dX0_settle_124 : decode cX0_settle 124 = .ok (.return_, 1) := by decide +kernel
def zwX0_settle : List Cond := .code yX0_settle cX0_settle 4 none :: ([.fieldLink RX0 61 "LinkModels$Build" "classCount" "I", .fieldLink RX0 52 "LinkModels$Build" "reached" "[I", .fieldLink RX0 58 "LinkModels$Build" "lineCounts" "[I", .fieldLink RX0 49 "LinkModels$Build" "errors" "[I", .methodLink RX0 101 yX0_settleClass, .instanceMethod yX0_settleClass, .selects RX0 yX0_settleClass yX0_settleClass, .initialized RX0, .code yX0_settleClass cX0_settleClass 3 none, .fieldLink RX0 21 "LinkModels$Build" "faceCounts" "[I", .fieldLink RX0 18 "LinkModels$Build" "aboveNames" "[I", .fieldLink RX0 24 "LinkModels$Build" "faceNames" "[I", .fieldLink RX0 55 "LinkModels$Build" "lines" "[I", .methodLink RX0 109 yX0_placeOf, .instanceMethod yX0_placeOf, .selects RX0 yX0_placeOf yX0_placeOf, .code yX0_placeOf cX0_placeOf 3 (some .int), .fieldLink RX0 11 "LinkModels$Build" "names" "[I", .methodLink RX0 115 yX0_joinLine, .instanceMethod yX0_joinLine, .selects RX0 yX0_joinLine yX0_joinLine, .code yX0_joinLine cX0_joinLine 5 none, .methodLink RX0 122 yX0_isInLine, .instanceMethod yX0_isInLine, .selects RX0 yX0_isInLine yX0_isInLine, .code yX0_isInLine cX0_isInLine 4 (some .boolean), .methodLink RX0 112 yX0_firstError, .instanceMethod yX0_firstError, .selects RX0 yX0_firstError yX0_firstError, .code yX0_firstError cX0_firstError 4 (some .int), .fieldLink RX0 15 "LinkModels$Build" "classMarks" "[I", .methodLink RX0 119 yX0_errorAt, .instanceMethod yX0_errorAt, .selects RX0 yX0_errorAt yX0_errorAt, .code yX0_errorAt cX0_errorAt 2 (some .int), .methodLink RX0 90 yX0_isFace, .instanceMethod yX0_isFace, .selects RX0 yX0_isFace yX0_isFace, .code yX0_isFace cX0_isFace 2 (some .boolean), .methodLink RX0 98 yX0_traceWays, .instanceMethod yX0_traceWays, .selects RX0 yX0_traceWays yX0_traceWays, .code yX0_traceWays cX0_traceWays 3 none, .methodLink RX0 105 yX0_bitOf, .instanceMethod yX0_bitOf, .selects RX0 yX0_bitOf yX0_bitOf, .code yX0_bitOf cX0_bitOf 3 (some .int)] ++ wsX00)
set_option maxRecDepth 100000 in
theorem zgX0_settle_X0_settleClass_101 : GoodIn zwX0_settle (wsV RX0 101 RX0 yX0_settleClass zwX0_settleClass) := goodIn_app (goodIn_r _ [5, 6, 7, 8] rfl (by decide +kernel)) (goodIn_app (goodIn_r _ [9, 10, 11, 12, 4, 13, 3, 14, 15, 16, 8, 17, 1, 18, 19, 20, 21, 22, 23, 24, 25, 26, 27, 28, 29, 30, 31, 32, 33, 34, 35, 36, 37, 38, 39] rfl (by decide +kernel)) (fun w hw => ⟨(List.mem_cons_of_mem _ (List.mem_append_right _ hw)), good_of_word (List.all_eq_true.mp zgX0 w hw)⟩))
set_option maxRecDepth 100000 in
theorem zgX0_settle_X0_traceWays_98 : GoodIn zwX0_settle (wsV RX0 98 RX0 yX0_traceWays zwX0_traceWays) := goodIn_app (goodIn_r _ [40, 41, 42, 8] rfl (by decide +kernel)) (goodIn_app (goodIn_r _ [43, 1, 2, 10, 12, 11, 44, 45, 46, 8, 47, 14, 15, 16, 17, 18] rfl (by decide +kernel)) (fun w hw => ⟨(List.mem_cons_of_mem _ (List.mem_append_right _ hw)), good_of_word (List.all_eq_true.mp zgX0 w hw)⟩))
set_option maxHeartbeats 4000000 in
set_option maxRecDepth 100000 in
theorem kX0_settle (l : Launch) (dC : Nat → ClassId) (dI : Nat → Nat → Nat) (bh : Nat) (br : Nat → Nat) (cI : ClassId) (cJ : ClassId) (cB : ClassId) (cc : Nat) (nA : Nat → Int32) (mA : Nat → Int32) (aA : Nat → Int32) (fcA : Nat → Nat) (fA : Nat → Int32) (mcA : Nat → Nat) (mmA : Nat → Int32) (wA : Nat → Int64) (tcA : Nat → Int32) (g1A : Nat → Int32) (g2A : Nat → Int32) (nuA : Nat → Int32) (erA : Nat → Nat) (reA : Nat → Int32) (liA : Nat → Nat) (lcA : Nat → Nat) (hI : bWI cc fcA mcA erA liA lcA) (sz : Nat) : Met l yX0_settle zwX0_settle ({ frames := 3, cells := 0, slots := 0, locals := 69 }) (zPk dC dI [.ref bh] sz (bW bh br cI cJ cB (nI cc) nA mA aA (fun j => nI (fcA j)) fA (fun j => nI (mcA j)) mmA wA tcA g1A g2A nuA (fun j => nI (erA j)) reA (fun j => nI (liA j)) (fun j => nI (lcA j))) [(cI, .int), (cJ, .long), (cB, .byte)]) (va_Qv (fun u : (Nat → Int32) × (Nat → Nat) × (Nat → Nat) × (Nat → Nat) => (∀ j, (u.2.1) j ≤ 5) ∧ (∀ j, (u.2.2.1) j ≤ 15) ∧ (∀ j, (u.2.2.2) j ≤ 16)) (fun u t => zB dC dI (va_A (bW bh br cI cJ cB (nI cc) nA mA aA (fun j => nI (fcA j)) fA (fun j => nI (mcA j)) mmA wA tcA g1A g2A nuA (fun j => nI (erA j)) reA (fun j => nI (liA j)) (fun j => nI (lcA j))) sz) (bW bh br cI cJ cB (nI cc) nA mA aA (fun j => nI (fcA j)) fA (fun j => nI (mcA j)) mmA wA tcA g1A g2A nuA (fun j => nI ((u.2.1) j)) (u.1) (fun j => nI ((u.2.2.1) j)) (fun j => nI ((u.2.2.2) j))) [(cI, .int), (cJ, .long), (cB, .byte)] t) (va_A (bW bh br cI cJ cB (nI cc) nA mA aA (fun j => nI (fcA j)) fA (fun j => nI (mcA j)) mmA wA tcA g1A g2A nuA (fun j => nI (erA j)) reA (fun j => nI (liA j)) (fun j => nI (lcA j))) sz)) 0 0 (va_A (bW bh br cI cJ cB (nI cc) nA mA aA (fun j => nI (fcA j)) fA (fun j => nI (mcA j)) mmA wA tcA g1A g2A nuA (fun j => nI (erA j)) reA (fun j => nI (liA j)) (fun j => nI (lcA j))) sz) := by
  refine Met.ofW (cc := cX0_settle) (maxL := 4) (ret := none) (by decide) rfl ?_
  intro p e s m args below meth c s₁ B hml hv
  obtain ⟨rfl, hsz, hP, hK, hD0, hE⟩ := hv
  have hx := B.exec
  have hb := B.bytes
  have hr := B.returns
  have hts := atoms_spec (ws := zwX0_settle) B.pre
  have hown : s.vm.findClass RX0 = some m.cls := findClass_of_methodNamed B.named
  have hiX0 : ∀ w ∈ wsX00, w ∈ zwX0_settle := (fun w hw => (List.mem_cons_of_mem _ (List.mem_append_right _ hw)))
  obtain ⟨hcc, hfcA, hmcA, herA, hliA, hlcA⟩ := hI
  subst hsz
  have hD := hD0.self (sz := s.heap.size)
  generalize hAe : va_A (bW bh br cI cJ cB (nI cc) nA mA aA (fun j => nI (fcA j)) fA (fun j => nI (mcA j)) mmA wA tcA g1A g2A nuA (fun j => nI (erA j)) reA (fun j => nI (liA j)) (fun j => nI (lcA j))) s.heap.size = A at hD ⊢
  have hA : ∀ q : Nat, s.heap.size ≤ q → A q := fun q h => by rw [← hAe]; exact Or.inr h
  have hS : va_S A s.heap s.heap [] := va_S.rf
  have hl := lv_entry ([.ref bh]) (n := 4) (Nat.le_of_ble_eq_true rfl)
  rw [lg_entry_eq]
  generalize (lg_sl ([.ref bh]) ++ List.replicate (4 - (lg_sl ([.ref bh])).length) Slot.unset).toArray = ls at hl ⊢
  have hl : lv_has ls 4 [(0, .ref bh)] := hl
  have J57 : ∀ (z57 : Nat) (op : Int32) (rd : Nat) (re2 : Nat → Int32) (er2 : Nat → Nat) (li2 : Nat → Nat) (lc2 : Nat → Nat) (H : Heap) (locs : List Loc) (ls : Array Slot), cc - rd < z57 → (∀ j, er2 j ≤ 5) → (∀ j, li2 j ≤ 15) → (∀ j, lc2 j ≤ 16) → (rd ≤ cc) → va_P (dC, dI) vwCl (bW bh br cI cJ cB (nI cc) nA mA aA (fun j => nI (fcA j)) fA (fun j => nI (mcA j)) mmA wA tcA g1A g2A nuA (fun j => nI (er2 j)) re2 (fun j => nI (li2 j)) (fun j => nI (lc2 j))) H → va_D A (bW bh br cI cJ cB (nI cc) nA mA aA (fun j => nI (fcA j)) fA (fun j => nI (mcA j)) mmA wA tcA g1A g2A nuA (fun j => nI (er2 j)) re2 (fun j => nI (li2 j)) (fun j => nI (lc2 j))) → va_S A s.heap H locs → lv_has ls 4 [(0, .ref bh), (1, .int op), (2, .int (nI rd))] → W p l e (headSpec zwX0_settle { frames := 3, cells := 0, slots := 0, locals := 69 }).room s m (([.ref bh] : List Value).toArray) below meth c H locs 0 0 (MQ below (va_Qv (fun u : (Nat → Int32) × (Nat → Nat) × (Nat → Nat) × (Nat → Nat) => (∀ j, (u.2.1) j ≤ 5) ∧ (∀ j, (u.2.2.1) j ≤ 15) ∧ (∀ j, (u.2.2.2) j ≤ 16)) (fun u t => zB dC dI (A) (bW bh br cI cJ cB (nI cc) nA mA aA (fun j => nI (fcA j)) fA (fun j => nI (mcA j)) mmA wA tcA g1A g2A nuA (fun j => nI ((u.2.1) j)) (u.1) (fun j => nI ((u.2.2.1) j)) (fun j => nI ((u.2.2.2) j))) [(cI, .int), (cJ, .long), (cB, .byte)] t) (A)) (([.ref bh] : List Value).toArray) s 0 0 A) (F0 m 57 ls []) := by
    intro z57
    induction z57 with
    | zero => intro op rd re2 er2 li2 lc2 H locs ls h9; exact absurd h9 (Nat.not_lt_zero _)
    | succ z57 ih57 =>
      intro op rd re2 er2 li2 lc2 H locs ls hm57 hber2 hbli2 hblc2 i57_0 hP hD hS hl
      have J71 : ∀ (z71 : Nat) (o3 : Int32) (c3 : Nat) (re3 : Nat → Int32) (er3 : Nat → Nat) (li3 : Nat → Nat) (lc3 : Nat → Nat) (H : Heap) (locs : List Loc) (ls : Array Slot), cc - c3 < z71 → (∀ j, er3 j ≤ 5) → (∀ j, li3 j ≤ 15) → (∀ j, lc3 j ≤ 16) → (c3 ≤ cc) → (rd < cc) → va_P (dC, dI) vwCl (bW bh br cI cJ cB (nI cc) nA mA aA (fun j => nI (fcA j)) fA (fun j => nI (mcA j)) mmA wA tcA g1A g2A nuA (fun j => nI (er3 j)) re3 (fun j => nI (li3 j)) (fun j => nI (lc3 j))) H → va_D A (bW bh br cI cJ cB (nI cc) nA mA aA (fun j => nI (fcA j)) fA (fun j => nI (mcA j)) mmA wA tcA g1A g2A nuA (fun j => nI (er3 j)) re3 (fun j => nI (li3 j)) (fun j => nI (lc3 j))) → va_S A s.heap H locs → lv_has ls 4 [(0, .ref bh), (1, .int o3), (2, .int (nI rd)), (3, .int (nI c3))] → W p l e (headSpec zwX0_settle { frames := 3, cells := 0, slots := 0, locals := 69 }).room s m (([.ref bh] : List Value).toArray) below meth c H locs 0 0 (MQ below (va_Qv (fun u : (Nat → Int32) × (Nat → Nat) × (Nat → Nat) × (Nat → Nat) => (∀ j, (u.2.1) j ≤ 5) ∧ (∀ j, (u.2.2.1) j ≤ 15) ∧ (∀ j, (u.2.2.2) j ≤ 16)) (fun u t => zB dC dI (A) (bW bh br cI cJ cB (nI cc) nA mA aA (fun j => nI (fcA j)) fA (fun j => nI (mcA j)) mmA wA tcA g1A g2A nuA (fun j => nI ((u.2.1) j)) (u.1) (fun j => nI ((u.2.2.1) j)) (fun j => nI ((u.2.2.2) j))) [(cI, .int), (cJ, .long), (cB, .byte)] t) (A)) (([.ref bh] : List Value).toArray) s 0 0 A) (F0 m 71 ls []) := by
        intro z71
        induction z71 with
        | zero => intro o3 c3 re3 er3 li3 lc3 H locs ls h9; exact absurd h9 (Nat.not_lt_zero _)
        | succ z71 ih71 =>
          intro o3 c3 re3 er3 li3 lc3 H locs ls hm71 hber3 hbli3 hblc3 i71_0 i71_1 hP hD hS hl
          refine lv_iload_n hx hb dX0_settle_71 rfl (lv_at hl 3 rfl) ?_
          refine lv_aload_n hx hb dX0_settle_72 rfl (lv_at hl 0 rfl) ?_
          refine va_get (D := (dC, dI)) (ci := 0) (v := .int (nI cc)) (C := RX0) (T := TX0) (N := 17) hx hb hts hiX0 hown hK hP 0 rfl rfl 0 (by decide) (hts (.fieldLink RX0 61 "LinkModels$Build" "classCount" "I") (by decide +kernel)) (fun _ h9 => h9) rfl dX0_settle_73 ?_
          refine lv_icmp_ge (tgt := 118) hx hb dX0_settle_76 (by decide) (fun cp76 => ?_) (fun cp76 => ?_)
          · have qcp76 : cc ≤ c3 := (nI_leI (a := cc) (b := c3) (by omega) (by omega)).mp cp76
            obtain ⟨x1, ex1⟩ : ∃ y : Int32, y = (nI rd) + 1 := ⟨_, rfl⟩
            refine lv_iinc (v := x1) (lv' := [(2, .int x1), (0, .ref bh), (1, .int o3), (3, .int (nI c3))]) hx hb dX0_settle_118 hl (k := 2) rfl (by rw [ex1]; rfl) (by decide) rfl (fun ls hl => ?_)
            obtain rfl : x1 = nI (rd + 1) := by rw [ex1]; exact nI_add (rd) 1
            refine lv_goto (tgt := 57) hx hb dX0_settle_121 (by decide) ?_
            exact ih57 o3 (rd + 1) re3 er3 li3 lc3 _ _ ls (by omega) hber3 hbli3 hblc3 (by first | omega | assumption | trivial) hP hD hS (lv_sub hl [1, 2, 0] rfl)
          · have qcp76 : ¬ cc ≤ c3 := fun h9 => cp76 ((nI_leI (a := cc) (b := c3) (by omega) (by omega)).mpr h9)
            refine lv_iload_n hx hb dX0_settle_79 rfl (lv_at hl 1 rfl) ?_
            refine lv_iload_n hx hb dX0_settle_80 rfl (lv_at hl 3 rfl) ?_
            refine lv_ishr hx hb dX0_settle_81 ?_
            refine lv_topi (fun x2 ex2 => ?_)
            refine lv_iconst (v := 1) hx hb dX0_settle_82 (by decide) ?_
            refine lv_iand hx hb dX0_settle_83 ?_
            refine lv_topi (fun x3 ex3 => ?_)
            refine lv_iconst (v := 1) hx hb dX0_settle_84 (by decide) ?_
            refine lv_icmp_ne (tgt := 112) hx hb dX0_settle_85 (by decide) (fun cp85 => ?_) (fun cp85 => ?_)
            · obtain ⟨x4, ex4⟩ : ∃ y : Int32, y = (nI c3) + 1 := ⟨_, rfl⟩
              refine lv_iinc (v := x4) (lv' := [(3, .int x4), (0, .ref bh), (1, .int o3), (2, .int (nI rd))]) hx hb dX0_settle_112 hl (k := 3) rfl (by rw [ex4]; rfl) (by decide) rfl (fun ls hl => ?_)
              obtain rfl : x4 = nI (c3 + 1) := by rw [ex4]; exact nI_add (c3) 1
              refine lv_goto (tgt := 71) hx hb dX0_settle_115 (by decide) ?_
              exact ih71 o3 (c3 + 1) re3 er3 li3 lc3 _ _ ls (by omega) hber3 hbli3 hblc3 (by first | omega | assumption | trivial) (by first | omega | assumption | trivial) hP hD hS (lv_sub hl [1, 2, 3, 0] rfl)
            · refine lv_aload_n hx hb dX0_settle_88 rfl (lv_at hl 0 rfl) ?_
              refine va_get (D := (dC, dI)) (ci := 0) (v := .ref (br 14)) (C := RX0) (T := TX0) (N := 17) hx hb hts hiX0 hown hK hP 0 rfl rfl 14 (by decide) (hts (.fieldLink RX0 52 "LinkModels$Build" "reached" "[I") (by decide +kernel)) (fun _ h9 => h9) rfl dX0_settle_89 ?_
              refine lv_iload_n hx hb dX0_settle_92 rfl (lv_at hl 3 rfl) ?_
              refine va_iald hx hb hK hP 14 0 rfl rfl (vp_in_nI (show c3 < 16 by omega) (by decide)) dX0_settle_93 ?_
              refine lv_topi (fun x5 ex5 => ?_)
              obtain rfl : x5 = re3 c3 := by rw [ex5, nI_clamp (show c3 < 2 ^ 31 by omega)]
              refine lv_iload_n hx hb dX0_settle_94 rfl (lv_at hl 1 rfl) ?_
              refine lv_iand hx hb dX0_settle_95 ?_
              refine lv_topi (fun x6 ex6 => ?_)
              refine lv_if_ne (tgt := 112) hx hb dX0_settle_96 (by decide) (fun cp96 => ?_) (fun cp96 => ?_)
              · obtain ⟨x7, ex7⟩ : ∃ y : Int32, y = (nI c3) + 1 := ⟨_, rfl⟩
                refine lv_iinc (v := x7) (lv' := [(3, .int x7), (0, .ref bh), (1, .int o3), (2, .int (nI rd))]) hx hb dX0_settle_112 hl (k := 3) rfl (by rw [ex7]; rfl) (by decide) rfl (fun ls hl => ?_)
                obtain rfl : x7 = nI (c3 + 1) := by rw [ex7]; exact nI_add (c3) 1
                refine lv_goto (tgt := 71) hx hb dX0_settle_115 (by decide) ?_
                exact ih71 o3 (c3 + 1) re3 er3 li3 lc3 _ _ ls (by omega) hber3 hbli3 hblc3 (by first | omega | assumption | trivial) (by first | omega | assumption | trivial) hP hD hS (lv_sub hl [1, 2, 3, 0] rfl)
              · refine lv_iload_n hx hb dX0_settle_99 rfl (lv_at hl 1 rfl) ?_
                refine lv_iconst (v := 1) hx hb dX0_settle_100 (by decide) ?_
                refine lv_iload_n hx hb dX0_settle_101 rfl (lv_at hl 3 rfl) ?_
                refine lv_ishl hx hb dX0_settle_102 ?_
                refine lv_topi (fun x8 ex8 => ?_)
                refine lv_iconst (v := (-1)) hx hb dX0_settle_103 (by decide) ?_
                refine lv_ixor hx hb dX0_settle_104 ?_
                refine lv_topi (fun x9 ex9 => ?_)
                refine lv_iand hx hb dX0_settle_105 ?_
                refine lv_topi (fun x10 ex10 => ?_)
                refine lv_istore_n (lv' := [(1, .int x10), (0, .ref bh), (2, .int (nI rd)), (3, .int (nI c3))]) hx hb dX0_settle_106 rfl hl (by decide) rfl (fun ls hl => ?_)
                refine lv_aload_n hx hb dX0_settle_107 rfl (lv_at hl 1 rfl) ?_
                refine lv_iload_n hx hb dX0_settle_108 rfl (lv_at hl 3 rfl) ?_
                have hFc := z_freeW hD hS hA
                refine va_callv (va_runV (As := [.int (nI c3)]) (rest := []) ⟨hx, hb, hml, hown, hts⟩ (kX0_settleClass l dC dI bh br cI cJ cB cc nA mA aA fcA fA mcA mmA wA tcA g1A g2A nuA er3 re3 li3 lc3 ⟨by omega, hfcA, hmcA, hber3, hbli3, hblc3⟩ c3 (by first | omega | assumption | trivial) H.size) (cwV 1 hts zgX0_settle_X0_settleClass_101 rfl rfl rfl (by decide +kernel) ⟨(show 2 + 1 ≤ 3 by omega), (show 8 + (3 + 11) + 47 ≤ 69 by omega)⟩) (zVk (ci := 0) (q0 := 0) (q := (RX0, TX0, 17)) hK hP hD hE rfl rfl rfl) rfl rfl hl.1 rfl (lv_room (Nat.le_of_ble_eq_true rfl)) dX0_settle_109 ⟨(show 0 + 0 ≤ 0 by omega), (show 0 + 0 ≤ 0 by omega)⟩) hS (fun q _ h => hFc q h) hFc (fun u15 t H1 locs ht hvm hw hB hz1 hk1 hS => ?_)
                obtain ⟨o12, o13, o14⟩ := u15
                obtain ⟨hP, hK9, hD⟩ := hB
                rw [ht] at hP
                have hD := hD.weaken (fun k q _ h => hFc q.1 h)
                generalize H1 = H at hP hS
                have hP : va_P (dC, dI) vwCl (bW bh br cI cJ cB (nI cc) nA mA aA (fun j => nI (fcA j)) fA (fun j => nI (mcA j)) mmA wA tcA g1A g2A nuA (fun j => nI (o12 j)) re3 (fun j => nI (o13 j)) (fun j => nI (o14 j))) H := hP
                have hD : va_D A (bW bh br cI cJ cB (nI cc) nA mA aA (fun j => nI (fcA j)) fA (fun j => nI (mcA j)) mmA wA tcA g1A g2A nuA (fun j => nI (o12 j)) re3 (fun j => nI (o13 j)) (fun j => nI (o14 j))) := hD
                have hw : (∀ j, o12 j ≤ 5) ∧ (∀ j, o13 j ≤ 15) ∧ (∀ j, o14 j ≤ 16) := hw
                obtain ⟨hbo12, hbo13, hbo14⟩ := hw
                obtain ⟨x16, ex16⟩ : ∃ y : Int32, y = (nI c3) + 1 := ⟨_, rfl⟩
                refine lv_iinc (v := x16) (lv' := [(3, .int x16), (1, .int x10), (0, .ref bh), (2, .int (nI rd))]) hx hb dX0_settle_112 hl (k := 3) rfl (by rw [ex16]; rfl) (by decide) rfl (fun ls hl => ?_)
                obtain rfl : x16 = nI (c3 + 1) := by rw [ex16]; exact nI_add (c3) 1
                refine lv_goto (tgt := 71) hx hb dX0_settle_115 (by decide) ?_
                exact ih71 x10 (c3 + 1) re3 o12 o13 o14 _ _ ls (by omega) hbo12 hbo13 hbo14 (by first | omega | assumption | trivial) (by first | omega | assumption | trivial) hP hD hS (lv_sub hl [2, 1, 3, 0] rfl)
      refine lv_iload_n hx hb dX0_settle_57 rfl (lv_at hl 2 rfl) ?_
      refine lv_aload_n hx hb dX0_settle_58 rfl (lv_at hl 0 rfl) ?_
      refine va_get (D := (dC, dI)) (ci := 0) (v := .int (nI cc)) (C := RX0) (T := TX0) (N := 17) hx hb hts hiX0 hown hK hP 0 rfl rfl 0 (by decide) (hts (.fieldLink RX0 61 "LinkModels$Build" "classCount" "I") (by decide +kernel)) (fun _ h9 => h9) rfl dX0_settle_59 ?_
      refine lv_icmp_ge (tgt := 124) hx hb dX0_settle_62 (by decide) (fun cp62 => ?_) (fun cp62 => ?_)
      · have qcp62 : cc ≤ rd := (nI_leI (a := cc) (b := rd) (by omega) (by omega)).mp cp62
        have hP9 : va_P (dC, dI) vwCl (bW bh br cI cJ cB (nI cc) nA mA aA (fun j => nI (fcA j)) fA (fun j => nI (mcA j)) mmA wA tcA g1A g2A nuA (fun j => nI (er2 j)) re2 (fun j => nI (li2 j)) (fun j => nI (lc2 j))) H := hP
        have hD9 : va_D A (bW bh br cI cJ cB (nI cc) nA mA aA (fun j => nI (fcA j)) fA (fun j => nI (mcA j)) mmA wA tcA g1A g2A nuA (fun j => nI (er2 j)) re2 (fun j => nI (li2 j)) (fun j => nI (lc2 j))) := hD
        exact W.vret hx hb hr (fun t ht hW => ⟨⟨(re2, er2, li2, lc2), rfl, ⟨hber2, hbli2, hblc2⟩, by rw [ht]; exact hP9, va_K.moved hW.alike hK, hD9⟩, hS.F ht⟩) hS.2.2 dX0_settle_124
      · have qcp62 : ¬ cc ≤ rd := fun h9 => cp62 ((nI_leI (a := cc) (b := rd) (by omega) (by omega)).mpr h9)
        refine lv_iload_n hx hb dX0_settle_65 rfl (lv_at hl 1 rfl) ?_
        refine lv_if_eq (tgt := 124) hx hb dX0_settle_66 (by decide) (fun cp66 => ?_) (fun cp66 => ?_)
        · have hP9 : va_P (dC, dI) vwCl (bW bh br cI cJ cB (nI cc) nA mA aA (fun j => nI (fcA j)) fA (fun j => nI (mcA j)) mmA wA tcA g1A g2A nuA (fun j => nI (er2 j)) re2 (fun j => nI (li2 j)) (fun j => nI (lc2 j))) H := hP
          have hD9 : va_D A (bW bh br cI cJ cB (nI cc) nA mA aA (fun j => nI (fcA j)) fA (fun j => nI (mcA j)) mmA wA tcA g1A g2A nuA (fun j => nI (er2 j)) re2 (fun j => nI (li2 j)) (fun j => nI (lc2 j))) := hD
          exact W.vret hx hb hr (fun t ht hW => ⟨⟨(re2, er2, li2, lc2), rfl, ⟨hber2, hbli2, hblc2⟩, by rw [ht]; exact hP9, va_K.moved hW.alike hK, hD9⟩, hS.F ht⟩) hS.2.2 dX0_settle_124
        · refine lv_iconst (v := 0) hx hb dX0_settle_69 (by decide) ?_
          refine lv_istore_n (lv' := [(3, .int 0), (0, .ref bh), (1, .int op), (2, .int (nI rd))]) hx hb dX0_settle_70 rfl hl (by decide) rfl (fun ls hl => ?_)
          exact J71 _ op 0 re2 er2 li2 lc2 _ _ ls (Nat.lt_succ_self _) hber2 hbli2 hblc2 (by first | omega | assumption | trivial) (by first | omega | assumption | trivial) hP hD hS (lv_sub hl [1, 2, 3, 0] rfl)
  have J8 : ∀ (z8 : Nat) (op : Int32) (c2 : Nat) (re2 : Nat → Int32) (er2 : Nat → Nat) (lc2 : Nat → Nat) (H : Heap) (locs : List Loc) (ls : Array Slot), cc - c2 < z8 → (∀ j, er2 j ≤ 5) → (∀ j, lc2 j ≤ 16) → (c2 ≤ cc) → va_P (dC, dI) vwCl (bW bh br cI cJ cB (nI cc) nA mA aA (fun j => nI (fcA j)) fA (fun j => nI (mcA j)) mmA wA tcA g1A g2A nuA (fun j => nI (er2 j)) re2 (fun j => nI (liA j)) (fun j => nI (lc2 j))) H → va_D A (bW bh br cI cJ cB (nI cc) nA mA aA (fun j => nI (fcA j)) fA (fun j => nI (mcA j)) mmA wA tcA g1A g2A nuA (fun j => nI (er2 j)) re2 (fun j => nI (liA j)) (fun j => nI (lc2 j))) → va_S A s.heap H locs → lv_has ls 4 [(0, .ref bh), (1, .int op), (2, .int (nI c2))] → W p l e (headSpec zwX0_settle { frames := 3, cells := 0, slots := 0, locals := 69 }).room s m (([.ref bh] : List Value).toArray) below meth c H locs 0 0 (MQ below (va_Qv (fun u : (Nat → Int32) × (Nat → Nat) × (Nat → Nat) × (Nat → Nat) => (∀ j, (u.2.1) j ≤ 5) ∧ (∀ j, (u.2.2.1) j ≤ 15) ∧ (∀ j, (u.2.2.2) j ≤ 16)) (fun u t => zB dC dI (A) (bW bh br cI cJ cB (nI cc) nA mA aA (fun j => nI (fcA j)) fA (fun j => nI (mcA j)) mmA wA tcA g1A g2A nuA (fun j => nI ((u.2.1) j)) (u.1) (fun j => nI ((u.2.2.1) j)) (fun j => nI ((u.2.2.2) j))) [(cI, .int), (cJ, .long), (cB, .byte)] t) (A)) (([.ref bh] : List Value).toArray) s 0 0 A) (F0 m 8 ls []) := by
    intro z8
    induction z8 with
    | zero => intro op c2 re2 er2 lc2 H locs ls h9; exact absurd h9 (Nat.not_lt_zero _)
    | succ z8 ih8 =>
      intro op c2 re2 er2 lc2 H locs ls hm8 hber2 hblc2 i8_0 hP hD hS hl
      refine lv_iload_n hx hb dX0_settle_8 rfl (lv_at hl 2 rfl) ?_
      refine lv_aload_n hx hb dX0_settle_9 rfl (lv_at hl 0 rfl) ?_
      refine va_get (D := (dC, dI)) (ci := 0) (v := .int (nI cc)) (C := RX0) (T := TX0) (N := 17) hx hb hts hiX0 hown hK hP 0 rfl rfl 0 (by decide) (hts (.fieldLink RX0 61 "LinkModels$Build" "classCount" "I") (by decide +kernel)) (fun _ h9 => h9) rfl dX0_settle_10 ?_
      refine lv_icmp_ge (tgt := 55) hx hb dX0_settle_13 (by decide) (fun cp13 => ?_) (fun cp13 => ?_)
      · have qcp13 : cc ≤ c2 := (nI_leI (a := cc) (b := c2) (by omega) (by omega)).mp cp13
        refine lv_iconst (v := 0) hx hb dX0_settle_55 (by decide) ?_
        refine lv_istore_n (lv' := [(2, .int 0), (0, .ref bh), (1, .int op)]) hx hb dX0_settle_56 rfl hl (by decide) rfl (fun ls hl => ?_)
        exact J57 _ op 0 re2 er2 liA lc2 _ _ ls (Nat.lt_succ_self _) hber2 hliA hblc2 (by first | omega | assumption | trivial) hP hD hS (lv_sub hl [1, 2, 0] rfl)
      · have qcp13 : ¬ cc ≤ c2 := fun h9 => cp13 ((nI_leI (a := cc) (b := c2) (by omega) (by omega)).mpr h9)
        refine lv_aload_n hx hb dX0_settle_16 rfl (lv_at hl 0 rfl) ?_
        refine va_get (D := (dC, dI)) (ci := 0) (v := .ref (br 16)) (C := RX0) (T := TX0) (N := 17) hx hb hts hiX0 hown hK hP 0 rfl rfl 16 (by decide) (hts (.fieldLink RX0 58 "LinkModels$Build" "lineCounts" "[I") (by decide +kernel)) (fun _ h9 => h9) rfl dX0_settle_17 ?_
        refine lv_iload_n hx hb dX0_settle_20 rfl (lv_at hl 2 rfl) ?_
        refine lv_iconst (v := 0) hx hb dX0_settle_21 (by decide) ?_
        refine va_iast hx hb hK hP hD hS 16 0 rfl rfl (vp_in_nI (show c2 < 16 by omega) (by decide)) dX0_settle_22 (fun H locs hP hD hS => ?_)
        obtain ⟨f17, ef17⟩ : ∃ g, g = z_up lc2 c2 0 := ⟨_, rfl⟩
        have hP : va_P (dC, dI) vwCl (bW bh br cI cJ cB (nI cc) nA mA aA (fun j => nI (fcA j)) fA (fun j => nI (mcA j)) mmA wA tcA g1A g2A nuA (fun j => nI (er2 j)) re2 (fun j => nI (liA j)) (fun j => nI (f17 j))) H := by rw [ef17, ← z_upd (show c2 < 2 ^ 31 by omega)]; exact hP
        have hD : va_D A (bW bh br cI cJ cB (nI cc) nA mA aA (fun j => nI (fcA j)) fA (fun j => nI (mcA j)) mmA wA tcA g1A g2A nuA (fun j => nI (er2 j)) re2 (fun j => nI (liA j)) (fun j => nI (f17 j))) := by rw [ef17, ← z_upd (show c2 < 2 ^ 31 by omega)]; exact hD
        have hbf17 : ∀ j, f17 j ≤ 16 := by rw [ef17]; exact z_upb hblc2 (by omega)
        refine lv_aload_n hx hb dX0_settle_23 rfl (lv_at hl 0 rfl) ?_
        refine va_get (D := (dC, dI)) (ci := 0) (v := .ref (br 13)) (C := RX0) (T := TX0) (N := 17) hx hb hts hiX0 hown hK hP 0 rfl rfl 13 (by decide) (hts (.fieldLink RX0 49 "LinkModels$Build" "errors" "[I") (by decide +kernel)) (fun _ h9 => h9) rfl dX0_settle_24 ?_
        refine lv_iload_n hx hb dX0_settle_27 rfl (lv_at hl 2 rfl) ?_
        refine lv_iconst (v := 3) hx hb dX0_settle_28 (by decide) ?_
        refine va_iast hx hb hK hP hD hS 13 0 rfl rfl (vp_in_nI (show c2 < 16 by omega) (by decide)) dX0_settle_29 (fun H locs hP hD hS => ?_)
        obtain ⟨f18, ef18⟩ : ∃ g, g = z_up er2 c2 3 := ⟨_, rfl⟩
        have hP : va_P (dC, dI) vwCl (bW bh br cI cJ cB (nI cc) nA mA aA (fun j => nI (fcA j)) fA (fun j => nI (mcA j)) mmA wA tcA g1A g2A nuA (fun j => nI (f18 j)) re2 (fun j => nI (liA j)) (fun j => nI (f17 j))) H := by rw [ef18, ← z_upd (show c2 < 2 ^ 31 by omega)]; exact hP
        have hD : va_D A (bW bh br cI cJ cB (nI cc) nA mA aA (fun j => nI (fcA j)) fA (fun j => nI (mcA j)) mmA wA tcA g1A g2A nuA (fun j => nI (f18 j)) re2 (fun j => nI (liA j)) (fun j => nI (f17 j))) := by rw [ef18, ← z_upd (show c2 < 2 ^ 31 by omega)]; exact hD
        have hbf18 : ∀ j, f18 j ≤ 5 := by rw [ef18]; exact z_upb hber2 (by omega)
        refine lv_aload_n hx hb dX0_settle_30 rfl (lv_at hl 0 rfl) ?_
        refine va_get (D := (dC, dI)) (ci := 0) (v := .ref (br 14)) (C := RX0) (T := TX0) (N := 17) hx hb hts hiX0 hown hK hP 0 rfl rfl 14 (by decide) (hts (.fieldLink RX0 52 "LinkModels$Build" "reached" "[I") (by decide +kernel)) (fun _ h9 => h9) rfl dX0_settle_31 ?_
        refine lv_iload_n hx hb dX0_settle_34 rfl (lv_at hl 2 rfl) ?_
        refine va_iald hx hb hK hP 14 0 rfl rfl (vp_in_nI (show c2 < 16 by omega) (by decide)) dX0_settle_35 ?_
        refine lv_topi (fun x19 ex19 => ?_)
        obtain rfl : x19 = re2 c2 := by rw [ex19, nI_clamp (show c2 < 2 ^ 31 by omega)]
        refine lv_iload_n hx hb dX0_settle_36 rfl (lv_at hl 2 rfl) ?_
        refine lv_ishr hx hb dX0_settle_37 ?_
        refine lv_topi (fun x20 ex20 => ?_)
        refine lv_iconst (v := 1) hx hb dX0_settle_38 (by decide) ?_
        refine lv_iand hx hb dX0_settle_39 ?_
        refine lv_topi (fun x21 ex21 => ?_)
        refine lv_if_ne (tgt := 49) hx hb dX0_settle_40 (by decide) (fun cp40 => ?_) (fun cp40 => ?_)
        · obtain ⟨x22, ex22⟩ : ∃ y : Int32, y = (nI c2) + 1 := ⟨_, rfl⟩
          refine lv_iinc (v := x22) (lv' := [(2, .int x22), (0, .ref bh), (1, .int op)]) hx hb dX0_settle_49 hl (k := 2) rfl (by rw [ex22]; rfl) (by decide) rfl (fun ls hl => ?_)
          obtain rfl : x22 = nI (c2 + 1) := by rw [ex22]; exact nI_add (c2) 1
          refine lv_goto (tgt := 8) hx hb dX0_settle_52 (by decide) ?_
          exact ih8 op (c2 + 1) re2 f18 f17 _ _ ls (by omega) hbf18 hbf17 (by first | omega | assumption | trivial) hP hD hS (lv_sub hl [1, 2, 0] rfl)
        · refine lv_iload_n hx hb dX0_settle_43 rfl (lv_at hl 1 rfl) ?_
          refine lv_iconst (v := 1) hx hb dX0_settle_44 (by decide) ?_
          refine lv_iload_n hx hb dX0_settle_45 rfl (lv_at hl 2 rfl) ?_
          refine lv_ishl hx hb dX0_settle_46 ?_
          refine lv_topi (fun x23 ex23 => ?_)
          refine lv_ior hx hb dX0_settle_47 ?_
          refine lv_topi (fun x24 ex24 => ?_)
          refine lv_istore_n (lv' := [(1, .int x24), (0, .ref bh), (2, .int (nI c2))]) hx hb dX0_settle_48 rfl hl (by decide) rfl (fun ls hl => ?_)
          obtain ⟨x25, ex25⟩ : ∃ y : Int32, y = (nI c2) + 1 := ⟨_, rfl⟩
          refine lv_iinc (v := x25) (lv' := [(2, .int x25), (1, .int x24), (0, .ref bh)]) hx hb dX0_settle_49 hl (k := 2) rfl (by rw [ex25]; rfl) (by decide) rfl (fun ls hl => ?_)
          obtain rfl : x25 = nI (c2 + 1) := by rw [ex25]; exact nI_add (c2) 1
          refine lv_goto (tgt := 8) hx hb dX0_settle_52 (by decide) ?_
          exact ih8 x24 (c2 + 1) re2 f18 f17 _ _ ls (by omega) hbf18 hbf17 (by first | omega | assumption | trivial) hP hD hS (lv_sub hl [2, 1, 0] rfl)
  refine lv_aload_n hx hb dX0_settle_0 rfl (lv_at hl 0 rfl) ?_
  have hFc := z_freeW hD hS hA
  refine va_callv (va_runV (As := []) (rest := []) ⟨hx, hb, hml, hown, hts⟩ (kX0_traceWays l dC dI bh br cI cJ cB cc nA mA aA fcA fA mcA mmA wA tcA g1A g2A nuA erA reA liA lcA ⟨by omega, hfcA, hmcA, herA, hliA, hlcA⟩ s.heap.size) (cwV 0 hts zgX0_settle_X0_traceWays_98 rfl rfl rfl (by decide +kernel) ⟨(show 2 + 1 ≤ 3 by omega), (show 8 + (3 + 11) + 44 ≤ 69 by omega)⟩) (zVk (ci := 0) (q0 := 0) (q := (RX0, TX0, 17)) hK hP hD hE rfl rfl rfl) rfl rfl hl.1 rfl (lv_room (Nat.le_of_ble_eq_true rfl)) dX0_settle_1 ⟨(show 0 + 0 ≤ 0 by omega), (show 0 + 0 ≤ 0 by omega)⟩) hS (fun q _ h => hFc q h) hFc (fun o27 t H1 locs ht hvm hw hB hz1 hk1 hS => ?_)
  obtain ⟨hP, hK9, hD⟩ := hB
  rw [ht] at hP
  have hD := hD.weaken (fun k q _ h => hFc q.1 h)
  generalize H1 = H at hP hS
  have hP : va_P (dC, dI) vwCl (bW bh br cI cJ cB (nI cc) nA mA aA (fun j => nI (fcA j)) fA (fun j => nI (mcA j)) mmA wA tcA g1A g2A nuA (fun j => nI (erA j)) o27 (fun j => nI (liA j)) (fun j => nI (lcA j))) H := hP
  have hD : va_D A (bW bh br cI cJ cB (nI cc) nA mA aA (fun j => nI (fcA j)) fA (fun j => nI (mcA j)) mmA wA tcA g1A g2A nuA (fun j => nI (erA j)) o27 (fun j => nI (liA j)) (fun j => nI (lcA j))) := hD
  have hw : (True) := hw
  have w0r26 := hw
  refine lv_iconst (v := 0) hx hb dX0_settle_4 (by decide) ?_
  refine lv_istore_n (lv' := [(1, .int 0), (0, .ref bh)]) hx hb dX0_settle_5 rfl hl (by decide) rfl (fun ls hl => ?_)
  refine lv_iconst (v := 0) hx hb dX0_settle_6 (by decide) ?_
  refine lv_istore_n (lv' := [(2, .int 0), (1, .int 0), (0, .ref bh)]) hx hb dX0_settle_7 rfl hl (by decide) rfl (fun ls hl => ?_)
  exact J8 _ (0 : Int32) 0 o27 erA lcA _ _ ls (Nat.lt_succ_self _) herA hlcA (by first | omega | assumption | trivial) hP hD hS (lv_sub hl [2, 1, 0] rfl)
