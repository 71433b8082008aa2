theorem dX0_isFilled_0 : decode cX0_isFilled 0 = .ok (.aload_n 0, 1) := by decide +kernel
theorem dX0_isFilled_1 : decode cX0_isFilled 1 = .ok (.getfield 27, 3) := by decide +kernel
theorem dX0_isFilled_4 : decode cX0_isFilled 4 = .ok (.aload_n 0, 1) := by decide +kernel
theorem dX0_isFilled_5 : decode cX0_isFilled 5 = .ok (.getfield 61, 3) := by decide +kernel
theorem dX0_isFilled_8 : decode cX0_isFilled 8 = .ok (.iconst 1, 1) := by decide +kernel
theorem dX0_isFilled_9 : decode cX0_isFilled 9 = .ok (.isub, 1) := by decide +kernel
theorem dX0_isFilled_10 : decode cX0_isFilled 10 = .ok (.iaload, 1) := by decide +kernel
theorem dX0_isFilled_11 : decode cX0_isFilled 11 = .ok (.bipush 12, 2) := by decide +kernel
theorem dX0_isFilled_13 : decode cX0_isFilled 13 = .ok (.if_icmp .lt 7, 3) := by decide +kernel
theorem dX0_isFilled_16 : decode cX0_isFilled 16 = .ok (.iconst 1, 1) := by decide +kernel
theorem dX0_isFilled_17 : decode cX0_isFilled 17 = .ok (.goto 4, 3) := by decide +kernel
theorem dX0_isFilled_20 : decode cX0_isFilled 20 = .ok (.iconst 0, 1) := by decide +kernel
theorem dX0_isFilled_21 : decode cX0_isFilled 21 = .ok (.ireturn, 1) := by decide +kernel
def zwX0_isFilled : List Cond := .code yX0_isFilled cX0_isFilled 1 (some .boolean) :: ([.fieldLink RX0 27 "LinkModels$Build" "memberCounts" "[I", .fieldLink RX0 61 "LinkModels$Build" "classCount" "I"] ++ wsX00)
set_option maxHeartbeats 4000000 in
set_option maxRecDepth 100000 in
theorem kX0_isFilled (l : Launch) (dC : Nat → ClassId) (dI : Nat → Nat → Nat) (bh : Nat) (br : Nat → Nat) (cI : ClassId) (cJ : ClassId) (cB : ClassId) (cc : Nat) (nA : Nat → Int32) (mA : Nat → Int32) (aA : Nat → Int32) (fcA : Nat → Nat) (fA : Nat → Int32) (mcA : Nat → Nat) (mmA : Nat → Int32) (wA : Nat → Int64) (tcA : Nat → Int32) (g1A : Nat → Int32) (g2A : Nat → Int32) (nuA : Nat → Int32) (erA : Nat → Nat) (reA : Nat → Int32) (liA : Nat → Nat) (lcA : Nat → Nat) (hI : bWI cc fcA mcA erA liA lcA) (hp0 : 1 ≤ cc) : Met l yX0_isFilled zwX0_isFilled ({ frames := 0, cells := 0, slots := 0, locals := 0 }) (zPq dC dI [.ref bh] (bW bh br cI cJ cB (nI cc) nA mA aA (fun j => nI (fcA j)) fA (fun j => nI (mcA j)) mmA wA tcA g1A g2A nuA (fun j => nI (erA j)) reA (fun j => nI (liA j)) (fun j => nI (lcA j))) [(cI, .int), (cJ, .long), (cB, .byte)]) (vp_Si (fun r => (r = 0 ∨ r = 1) ∧ (r = 0 → mcA (cc - 1) ≤ 11))) 0 0 (fun _ => False) := by
  refine Met.ofW (cc := cX0_isFilled) (maxL := 1) (ret := (some .boolean)) (by decide) rfl ?_
  intro p e s m args below meth c s₁ B hml hv
  obtain ⟨rfl, hP, hK, hE⟩ := hv
  have hx := B.exec
  have hb := B.bytes
  have hr := B.returns
  have hts := atoms_spec (ws := zwX0_isFilled) B.pre
  have hown : s.vm.findClass RX0 = some m.cls := findClass_of_methodNamed B.named
  have hiX0 : ∀ w ∈ wsX00, w ∈ zwX0_isFilled := (fun w hw => (List.mem_cons_of_mem _ (List.mem_append_right _ hw)))
  obtain ⟨hcc, hfcA, hmcA, herA, hliA, hlcA⟩ := hI
  have hl := lv_entry ([.ref bh]) (n := 1) (Nat.le_of_ble_eq_true rfl)
  rw [lg_entry_eq]
  generalize (lg_sl ([.ref bh]) ++ List.replicate (1 - (lg_sl ([.ref bh])).length) Slot.unset).toArray = ls at hl ⊢
  have hl : lv_has ls 1 [(0, .ref bh)] := hl
  refine lv_aload_n hx hb dX0_isFilled_0 rfl (lv_at hl 0 rfl) ?_
  refine va_get (D := (dC, dI)) (ci := 0) (v := .ref (br 6)) (C := RX0) (T := TX0) (N := 17) hx hb hts hiX0 hown hK hP 0 rfl rfl 6 (by decide) (hts (.fieldLink RX0 27 "LinkModels$Build" "memberCounts" "[I") (by decide +kernel)) (fun _ h9 => h9) rfl dX0_isFilled_1 ?_
  refine lv_aload_n hx hb dX0_isFilled_4 rfl (lv_at hl 0 rfl) ?_
  refine va_get (D := (dC, dI)) (ci := 0) (v := .int (nI cc)) (C := RX0) (T := TX0) (N := 17) hx hb hts hiX0 hown hK hP 0 rfl rfl 0 (by decide) (hts (.fieldLink RX0 61 "LinkModels$Build" "classCount" "I") (by decide +kernel)) (fun _ h9 => h9) rfl dX0_isFilled_5 ?_
  refine lv_iconst (v := 1) hx hb dX0_isFilled_8 (by decide) ?_
  refine lv_isub hx hb dX0_isFilled_9 ?_
  refine lv_topi (fun x1 ex1 => ?_)
  obtain rfl : x1 = nI (cc - 1) := by rw [ex1]; exact pk_sub (show 1 ≤ cc by omega)
  refine va_iald hx hb hK hP 6 0 rfl rfl (vp_in_nI (show cc - 1 < 16 by omega) (by decide)) dX0_isFilled_10 ?_
  refine lv_topi (fun x2 ex2 => ?_)
  obtain rfl : x2 = nI (mcA (cc - 1)) := by rw [ex2, nI_clamp (show cc - 1 < 2 ^ 31 by omega)]
  have hqx2 := hmcA (cc - 1)
  refine lv_bipush (v := 12) hx hb dX0_isFilled_11 (by decide) ?_
  refine lv_icmp_lt (tgt := 20) hx hb dX0_isFilled_13 (by decide) (fun cp13 => ?_) (fun cp13 => ?_)
  · have qcp13 : (mcA (cc - 1)) < 12 := (nI_ltI (a := mcA (cc - 1)) (b := 12) (by omega) (by omega)).mp cp13
    refine lv_iconst (v := 0) hx hb dX0_isFilled_20 (by decide) ?_
    exact W.zret (v := (0 : Int32)) hx hb hr rfl (fun t ht hW => ⟨(0 : Int32), rfl, ⟨(Or.inl rfl), (by first | (intro h9; exact absurd h9 (by decide)) | (intro _; omega))⟩, ht⟩) (fun _ h => by cases h) dX0_isFilled_21
  · have qcp13 : ¬ (mcA (cc - 1)) < 12 := fun h9 => cp13 ((nI_ltI (a := mcA (cc - 1)) (b := 12) (by omega) (by omega)).mpr h9)
    refine lv_iconst (v := 1) hx hb dX0_isFilled_16 (by decide) ?_
    refine lv_goto (tgt := 21) hx hb dX0_isFilled_17 (by decide) ?_
    exact W.zret (v := (1 : Int32)) hx hb hr rfl (fun t ht hW => ⟨(1 : Int32), rfl, ⟨(Or.inr rfl), (by first | (intro h9; exact absurd h9 (by decide)) | (intro _; omega))⟩, ht⟩) (fun _ h => by cases h) dX0_isFilled_21
theorem dX0_placeOf_0 : decode cX0_placeOf 0 = .ok (.iconst 0, 1) := by decide +kernel
theorem dX0_placeOf_1 : decode cX0_placeOf 1 = .ok (.istore_n 2, 1) := by decide +kernel
theorem dX0_placeOf_2 : decode cX0_placeOf 2 = .ok (.iload_n 2, 1) := by decide +kernel
theorem dX0_placeOf_3 : decode cX0_placeOf 3 = .ok (.aload_n 0, 1) := by decide +kernel
theorem dX0_placeOf_4 : decode cX0_placeOf 4 = .ok (.getfield 61, 3) := by decide +kernel
theorem dX0_placeOf_7 : decode cX0_placeOf 7 = .ok (.if_icmp .ge 21, 3) := by decide +kernel
theorem dX0_placeOf_10 : decode cX0_placeOf 10 = .ok (.aload_n 0, 1) := by decide +kernel
theorem dX0_placeOf_11 : decode cX0_placeOf 11 = .ok (.getfield 11, 3) := by decide +kernel
theorem dX0_placeOf_14 : decode cX0_placeOf 14 = .ok (.iload_n 2, 1) := by decide +kernel
theorem dX0_placeOf_15 : decode cX0_placeOf 15 = .ok (.iaload, 1) := by decide +kernel
theorem dX0_placeOf_16 : decode cX0_placeOf 16 = .ok (.iload_n 1, 1) := by decide +kernel
theorem dX0_placeOf_17 : decode cX0_placeOf 17 = .ok (.if_icmp .ne 5, 3) := by decide +kernel
theorem dX0_placeOf_20 : decode cX0_placeOf 20 = .ok (.iload_n 2, 1) := by decide +kernel
theorem dX0_placeOf_21 : decode cX0_placeOf 21 = .ok (.ireturn, 1) := by decide +kernel
theorem dX0_placeOf_22 : decode cX0_placeOf 22 = .ok (.iinc 2 1, 3) := by decide +kernel
theorem dX0_placeOf_25 : decode cX0_placeOf 25 = .ok (.goto (-23), 3) := by decide +kernel
theorem dX0_placeOf_28 : decode cX0_placeOf 28 = .ok (.iconst (-1), 1) := by decide +kernel
theorem dX0_placeOf_29 : decode cX0_placeOf 29 = .ok (.ireturn, 1) := by decide +kernel
def zwX0_placeOf : List Cond := .code yX0_placeOf cX0_placeOf 3 (some .int) :: ([.fieldLink RX0 61 "LinkModels$Build" "classCount" "I", .fieldLink RX0 11 "LinkModels$Build" "names" "[I"] ++ wsX00)
set_option maxHeartbeats 4000000 in
set_option maxRecDepth 100000 in
theorem kX0_placeOf (l : Launch) (dC : Nat → ClassId) (dI : Nat → Nat → Nat) (bh : Nat) (br : Nat → Nat) (cI : ClassId) (cJ : ClassId) (cB : ClassId) (cc : Nat) (nA : Nat → Int32) (mA : Nat → Int32) (aA : Nat → Int32) (fcA : Nat → Nat) (fA : Nat → Int32) (mcA : Nat → Nat) (mmA : Nat → Int32) (wA : Nat → Int64) (tcA : Nat → Int32) (g1A : Nat → Int32) (g2A : Nat → Int32) (nuA : Nat → Int32) (erA : Nat → Nat) (reA : Nat → Int32) (liA : Nat → Nat) (lcA : Nat → Nat) (hI : bWI cc fcA mcA erA liA lcA) (nm : Int32) : Met l yX0_placeOf zwX0_placeOf ({ frames := 0, cells := 0, slots := 0, locals := 0 }) (zPq dC dI [.ref bh, .int nm] (bW bh br cI cJ cB (nI cc) nA mA aA (fun j => nI (fcA j)) fA (fun j => nI (mcA j)) mmA wA tcA g1A g2A nuA (fun j => nI (erA j)) reA (fun j => nI (liA j)) (fun j => nI (lcA j))) [(cI, .int), (cJ, .long), (cB, .byte)]) (vp_Si (fun r => (zM r (fun k => k < cc)))) 0 0 (fun _ => False) := by
  refine Met.ofW (cc := cX0_placeOf) (maxL := 3) (ret := (some .int)) (by decide) rfl ?_
  intro p e s m args below meth c s₁ B hml hv
  obtain ⟨rfl, hP, hK, hE⟩ := hv
  have hx := B.exec
  have hb := B.bytes
  have hr := B.returns
  have hts := atoms_spec (ws := zwX0_placeOf) B.pre
  have hown : s.vm.findClass RX0 = some m.cls := findClass_of_methodNamed B.named
  have hiX0 : ∀ w ∈ wsX00, w ∈ zwX0_placeOf := (fun w hw => (List.mem_cons_of_mem _ (List.mem_append_right _ hw)))
  obtain ⟨hcc, hfcA, hmcA, herA, hliA, hlcA⟩ := hI
  have hl := lv_entry ([.ref bh, .int nm]) (n := 3) (Nat.le_of_ble_eq_true rfl)
  rw [lg_entry_eq]
  generalize (lg_sl ([.ref bh, .int nm]) ++ List.replicate (3 - (lg_sl ([.ref bh, .int nm])).length) Slot.unset).toArray = ls at hl ⊢
  have hl : lv_has ls 3 [(0, .ref bh), (1, .int nm)] := hl
  have J2 : ∀ (z2 : Nat) (kx : Nat) (ls : Array Slot), cc - kx < z2 → (kx ≤ cc) → lv_has ls 3 [(0, .ref bh), (1, .int nm), (2, .int (nI kx))] → W p l e (headSpec zwX0_placeOf { frames := 0, cells := 0, slots := 0, locals := 0 }).room s m (([.ref bh, .int nm] : List Value).toArray) below meth c s.heap [] 0 0 (MQ below (vp_Si (fun r => (zM r (fun k => k < cc)))) (([.ref bh, .int nm] : List Value).toArray) s 0 0 (fun _ => False)) (F0 m 2 ls []) := by
    intro z2
    induction z2 with
    | zero => intro kx ls h9; exact absurd h9 (Nat.not_lt_zero _)
    | succ z2 ih2 =>
      intro kx ls hm2 i2_0 hl
      refine lv_iload_n hx hb dX0_placeOf_2 rfl (lv_at hl 2 rfl) ?_
      refine lv_aload_n hx hb dX0_placeOf_3 rfl (lv_at hl 0 rfl) ?_
      refine va_get (D := (dC, dI)) (ci := 0) (v := .int (nI cc)) (C := RX0) (T := TX0) (N := 17) hx hb hts hiX0 hown hK hP 0 rfl rfl 0 (by decide) (hts (.fieldLink RX0 61 "LinkModels$Build" "classCount" "I") (by decide +kernel)) (fun _ h9 => h9) rfl dX0_placeOf_4 ?_
      refine lv_icmp_ge (tgt := 28) hx hb dX0_placeOf_7 (by decide) (fun cp7 => ?_) (fun cp7 => ?_)
      · have qcp7 : cc ≤ kx := (nI_leI (a := cc) (b := kx) (by omega) (by omega)).mp cp7
        refine lv_iconst (v := (-1)) hx hb dX0_placeOf_28 (by decide) ?_
        exact W.iret (v := (-1 : Int32)) hx hb hr (fun t ht hW => ⟨(-1 : Int32), rfl, (Or.inl rfl), ht⟩) (fun _ h => by cases h) dX0_placeOf_29
      · have qcp7 : ¬ cc ≤ kx := fun h9 => cp7 ((nI_leI (a := cc) (b := kx) (by omega) (by omega)).mpr h9)
        refine lv_aload_n hx hb dX0_placeOf_10 rfl (lv_at hl 0 rfl) ?_
        refine va_get (D := (dC, dI)) (ci := 0) (v := .ref (br 1)) (C := RX0) (T := TX0) (N := 17) hx hb hts hiX0 hown hK hP 0 rfl rfl 1 (by decide) (hts (.fieldLink RX0 11 "LinkModels$Build" "names" "[I") (by decide +kernel)) (fun _ h9 => h9) rfl dX0_placeOf_11 ?_
        refine lv_iload_n hx hb dX0_placeOf_14 rfl (lv_at hl 2 rfl) ?_
        refine va_iald hx hb hK hP 1 0 rfl rfl (vp_in_nI (show kx < 16 by omega) (by decide)) dX0_placeOf_15 ?_
        refine lv_topi (fun x1 ex1 => ?_)
        obtain rfl : x1 = nA kx := by rw [ex1, nI_clamp (show kx < 2 ^ 31 by omega)]
        refine lv_iload_n hx hb dX0_placeOf_16 rfl (lv_at hl 1 rfl) ?_
        refine lv_icmp_ne (tgt := 22) hx hb dX0_placeOf_17 (by decide) (fun cp17 => ?_) (fun cp17 => ?_)
        · obtain ⟨x2, ex2⟩ : ∃ y : Int32, y = (nI kx) + 1 := ⟨_, rfl⟩
          refine lv_iinc (v := x2) (lv' := [(2, .int x2), (0, .ref bh), (1, .int nm)]) hx hb dX0_placeOf_22 hl (k := 2) rfl (by rw [ex2]; rfl) (by decide) rfl (fun ls hl => ?_)
          obtain rfl : x2 = nI (kx + 1) := by rw [ex2]; exact nI_add (kx) 1
          refine lv_goto (tgt := 2) hx hb dX0_placeOf_25 (by decide) ?_
          exact ih2 (kx + 1) ls (by omega) (by first | omega | assumption | trivial) (lv_sub hl [1, 2, 0] rfl)
        · refine lv_iload_n hx hb dX0_placeOf_20 rfl (lv_at hl 2 rfl) ?_
          exact W.iret (v := (nI kx)) hx hb hr (fun t ht hW => ⟨(nI kx), rfl, (zM.mk (by omega) (by first | trivial | omega | assumption | (refine ⟨?_, ?_⟩ <;> first | trivial | omega | assumption))), ht⟩) (fun _ h => by cases h) dX0_placeOf_21
  refine lv_iconst (v := 0) hx hb dX0_placeOf_0 (by decide) ?_
  refine lv_istore_n (lv' := [(2, .int 0), (0, .ref bh), (1, .int nm)]) hx hb dX0_placeOf_1 rfl hl (by decide) rfl (fun ls hl => ?_)
  exact J2 _ 0 ls (Nat.lt_succ_self _) (by first | omega | assumption | trivial) (lv_sub hl [1, 2, 0] rfl)
theorem dX0_errorAt_0 : decode cX0_errorAt 0 = .ok (.iload_n 1, 1) := by decide +kernel
theorem dX0_errorAt_1 : decode cX0_errorAt 1 = .ok (.iconst (-1), 1) := by decide +kernel
theorem dX0_errorAt_2 : decode cX0_errorAt 2 = .ok (.if_icmp .ne 7, 3) := by decide +kernel
theorem dX0_errorAt_5 : decode cX0_errorAt 5 = .ok (.iconst 1, 1) := by decide +kernel
theorem dX0_errorAt_6 : decode cX0_errorAt 6 = .ok (.goto 9, 3) := by decide +kernel
theorem dX0_errorAt_9 : decode cX0_errorAt 9 = .ok (.aload_n 0, 1) := by decide +kernel
theorem dX0_errorAt_10 : decode cX0_errorAt 10 = .ok (.getfield 49, 3) := by decide +kernel
theorem dX0_errorAt_13 : decode cX0_errorAt 13 = .ok (.iload_n 1, 1) := by decide +kernel
theorem dX0_errorAt_14 : decode cX0_errorAt 14 = .ok (.iaload, 1) := by decide +kernel
theorem dX0_errorAt_15 : decode cX0_errorAt 15 = .ok (.ireturn, 1) := by decide +kernel
def zwX0_errorAt : List Cond := .code yX0_errorAt cX0_errorAt 2 (some .int) :: ([.fieldLink RX0 49 "LinkModels$Build" "errors" "[I"] ++ wsX00)
set_option maxHeartbeats 4000000 in
set_option maxRecDepth 100000 in
theorem kX0_errorAt (l : Launch) (dC : Nat → ClassId) (dI : Nat → Nat → Nat) (bh : Nat) (br : Nat → Nat) (cI : ClassId) (cJ : ClassId) (cB : ClassId) (cc : Nat) (nA : Nat → Int32) (mA : Nat → Int32) (aA : Nat → Int32) (fcA : Nat → Nat) (fA : Nat → Int32) (mcA : Nat → Nat) (mmA : Nat → Int32) (wA : Nat → Int64) (tcA : Nat → Int32) (g1A : Nat → Int32) (g2A : Nat → Int32) (nuA : Nat → Int32) (erA : Nat → Nat) (reA : Nat → Int32) (liA : Nat → Nat) (lcA : Nat → Nat) (hI : bWI cc fcA mcA erA liA lcA) (cx : Int32) (hpm_cx : zM cx (fun k => k < 16)) : Met l yX0_errorAt zwX0_errorAt ({ frames := 0, cells := 0, slots := 0, locals := 0 }) (zPq dC dI [.ref bh, .int cx] (bW bh br cI cJ cB (nI cc) nA mA aA (fun j => nI (fcA j)) fA (fun j => nI (mcA j)) mmA wA tcA g1A g2A nuA (fun j => nI (erA j)) reA (fun j => nI (liA j)) (fun j => nI (lcA j))) [(cI, .int), (cJ, .long), (cB, .byte)]) (vp_Si (fun r => (zN r (fun k => k ≤ 5 ∧ (k = 0 → zIn16 cx))))) 0 0 (fun _ => False) := by
  refine Met.ofW (cc := cX0_errorAt) (maxL := 2) (ret := (some .int)) (by decide) rfl ?_
  intro p e s m args below meth c s₁ B hml hv
  obtain ⟨rfl, hP, hK, hE⟩ := hv
  have hx := B.exec
  have hb := B.bytes
  have hr := B.returns
  have hts := atoms_spec (ws := zwX0_errorAt) B.pre
  have hown : s.vm.findClass RX0 = some m.cls := findClass_of_methodNamed B.named
  have hiX0 : ∀ w ∈ wsX00, w ∈ zwX0_errorAt := (fun w hw => (List.mem_cons_of_mem _ (List.mem_append_right _ hw)))
  obtain ⟨hcc, hfcA, hmcA, herA, hliA, hlcA⟩ := hI
  have hl := lv_entry ([.ref bh, .int cx]) (n := 2) (Nat.le_of_ble_eq_true rfl)
  rw [lg_entry_eq]
  generalize (lg_sl ([.ref bh, .int cx]) ++ List.replicate (2 - (lg_sl ([.ref bh, .int cx])).length) Slot.unset).toArray = ls at hl ⊢
  have hl : lv_has ls 2 [(0, .ref bh), (1, .int cx)] := hl
  refine lv_iload_n hx hb dX0_errorAt_0 rfl (lv_at hl 1 rfl) ?_
  refine lv_iconst (v := (-1)) hx hb dX0_errorAt_1 (by decide) ?_
  refine lv_icmp_ne (tgt := 9) hx hb dX0_errorAt_2 (by decide) (fun cp2 => ?_) (fun cp2 => ?_)
  · obtain ⟨k1, hBk1, hQk1, rfl⟩ := hpm_cx.resolve_left cp2
    refine lv_aload_n hx hb dX0_errorAt_9 rfl (lv_at hl 0 rfl) ?_
    refine va_get (D := (dC, dI)) (ci := 0) (v := .ref (br 13)) (C := RX0) (T := TX0) (N := 17) hx hb hts hiX0 hown hK hP 0 rfl rfl 13 (by decide) (hts (.fieldLink RX0 49 "LinkModels$Build" "errors" "[I") (by decide +kernel)) (fun _ h9 => h9) rfl dX0_errorAt_10 ?_
    refine lv_iload_n hx hb dX0_errorAt_13 rfl (lv_at hl 1 rfl) ?_
    refine va_iald hx hb hK hP 13 0 rfl rfl (vp_in_nI (show k1 < 16 by omega) (by decide)) dX0_errorAt_14 ?_
    refine lv_topi (fun x2 ex2 => ?_)
    obtain rfl : x2 = nI (erA k1) := by rw [ex2, nI_clamp (show k1 < 2 ^ 31 by omega)]
    have hqx2 := herA k1
    exact W.iret (v := (nI (erA k1))) hx hb hr (fun t ht hW => ⟨(nI (erA k1)), rfl, ⟨erA k1, by omega, (by exact ⟨herA _, fun _ => zIn16.mk (by omega)⟩), rfl⟩, ht⟩) (fun _ h => by cases h) dX0_errorAt_15
  · obtain rfl : cx = -1 := cp2
    refine lv_iconst (v := 1) hx hb dX0_errorAt_5 (by decide) ?_
    refine lv_goto (tgt := 15) hx hb dX0_errorAt_6 (by decide) ?_
    exact W.iret (v := (1 : Int32)) hx hb hr (fun t ht hW => ⟨(1 : Int32), rfl, ⟨1, by omega, (by exact ⟨by omega, fun h9 => absurd h9 (by decide)⟩), rfl⟩, ht⟩) (fun _ h => by cases h) dX0_errorAt_15
theorem dX0_isFace_0 : decode cX0_isFace 0 = .ok (.aload_n 0, 1) := by decide +kernel
theorem dX0_isFace_1 : decode cX0_isFace 1 = .ok (.getfield 15, 3) := by decide +kernel
theorem dX0_isFace_4 : decode cX0_isFace 4 = .ok (.iload_n 1, 1) := by decide +kernel
theorem dX0_isFace_5 : decode cX0_isFace 5 = .ok (.iaload, 1) := by decide +kernel
theorem dX0_isFace_6 : decode cX0_isFace 6 = .ok (.bipush 64, 2) := by decide +kernel
theorem dX0_isFace_8 : decode cX0_isFace 8 = .ok (.if_icmp .ne 7, 3) := by decide +kernel
theorem dX0_isFace_11 : decode cX0_isFace 11 = .ok (.iconst 1, 1) := by decide +kernel
theorem dX0_isFace_12 : decode cX0_isFace 12 = .ok (.goto 4, 3) := by decide +kernel
theorem dX0_isFace_15 : decode cX0_isFace 15 = .ok (.iconst 0, 1) := by decide +kernel
theorem dX0_isFace_16 : decode cX0_isFace 16 = .ok (.ireturn, 1) := by decide +kernel
def zwX0_isFace : List Cond := .code yX0_isFace cX0_isFace 2 (some .boolean) :: ([.fieldLink RX0 15 "LinkModels$Build" "classMarks" "[I"] ++ wsX00)
set_option maxHeartbeats 4000000 in
set_option maxRecDepth 100000 in
theorem kX0_isFace (l : Launch) (dC : Nat → ClassId) (dI : Nat → Nat → Nat) (bh : Nat) (br : Nat → Nat) (cI : ClassId) (cJ : ClassId) (cB : ClassId) (cc : Nat) (nA : Nat → Int32) (mA : Nat → Int32) (aA : Nat → Int32) (fcA : Nat → Nat) (fA : Nat → Int32) (mcA : Nat → Nat) (mmA : Nat → Int32) (wA : Nat → Int64) (tcA : Nat → Int32) (g1A : Nat → Int32) (g2A : Nat → Int32) (nuA : Nat → Int32) (erA : Nat → Nat) (reA : Nat → Int32) (liA : Nat → Nat) (lcA : Nat → Nat) (hI : bWI cc fcA mcA erA liA lcA) (ci : Nat) (hp0 : ci < 16) : Met l yX0_isFace zwX0_isFace ({ frames := 0, cells := 0, slots := 0, locals := 0 }) (zPq dC dI [.ref bh, .int (nI ci)] (bW bh br cI cJ cB (nI cc) nA mA aA (fun j => nI (fcA j)) fA (fun j => nI (mcA j)) mmA wA tcA g1A g2A nuA (fun j => nI (erA j)) reA (fun j => nI (liA j)) (fun j => nI (lcA j))) [(cI, .int), (cJ, .long), (cB, .byte)]) (vp_Si (fun r => (r = 0 ∨ r = 1))) 0 0 (fun _ => False) := by
  refine Met.ofW (cc := cX0_isFace) (maxL := 2) (ret := (some .boolean)) (by decide) rfl ?_
  intro p e s m args below meth c s₁ B hml hv
  obtain ⟨rfl, hP, hK, hE⟩ := hv
  have hx := B.exec
  have hb := B.bytes
  have hr := B.returns
  have hts := atoms_spec (ws := zwX0_isFace) B.pre
  have hown : s.vm.findClass RX0 = some m.cls := findClass_of_methodNamed B.named
  have hiX0 : ∀ w ∈ wsX00, w ∈ zwX0_isFace := (fun w hw => (List.mem_cons_of_mem _ (List.mem_append_right _ hw)))
  obtain ⟨hcc, hfcA, hmcA, herA, hliA, hlcA⟩ := hI
  have hl := lv_entry ([.ref bh, .int (nI ci)]) (n := 2) (Nat.le_of_ble_eq_true rfl)
  rw [lg_entry_eq]
  generalize (lg_sl ([.ref bh, .int (nI ci)]) ++ List.replicate (2 - (lg_sl ([.ref bh, .int (nI ci)])).length) Slot.unset).toArray = ls at hl ⊢
  have hl : lv_has ls 2 [(0, .ref bh), (1, .int (nI ci))] := hl
  refine lv_aload_n hx hb dX0_isFace_0 rfl (lv_at hl 0 rfl) ?_
  refine va_get (D := (dC, dI)) (ci := 0) (v := .ref (br 2)) (C := RX0) (T := TX0) (N := 17) hx hb hts hiX0 hown hK hP 0 rfl rfl 2 (by decide) (hts (.fieldLink RX0 15 "LinkModels$Build" "classMarks" "[I") (by decide +kernel)) (fun _ h9 => h9) rfl dX0_isFace_1 ?_
  refine lv_iload_n hx hb dX0_isFace_4 rfl (lv_at hl 1 rfl) ?_
  refine va_iald hx hb hK hP 2 0 rfl rfl (vp_in_nI (show ci < 16 by omega) (by decide)) dX0_isFace_5 ?_
  refine lv_topi (fun x1 ex1 => ?_)
  obtain rfl : x1 = mA ci := by rw [ex1, nI_clamp (show ci < 2 ^ 31 by omega)]
  refine lv_bipush (v := 64) hx hb dX0_isFace_6 (by decide) ?_
  refine lv_icmp_ne (tgt := 15) hx hb dX0_isFace_8 (by decide) (fun cp8 => ?_) (fun cp8 => ?_)
  · refine lv_iconst (v := 0) hx hb dX0_isFace_15 (by decide) ?_
    exact W.zret (v := (0 : Int32)) hx hb hr rfl (fun t ht hW => ⟨(0 : Int32), rfl, (Or.inl rfl), ht⟩) (fun _ h => by cases h) dX0_isFace_16
  · refine lv_iconst (v := 1) hx hb dX0_isFace_11 (by decide) ?_
    refine lv_goto (tgt := 16) hx hb dX0_isFace_12 (by decide) ?_
    exact W.zret (v := (1 : Int32)) hx hb hr rfl (fun t ht hW => ⟨(1 : Int32), rfl, (Or.inr rfl), ht⟩) (fun _ h => by cases h) dX0_isFace_16
theorem dX0_isWhole_0 : decode cX0_isWhole 0 = .ok (.aload_n 0, 1) := by decide +kernel
theorem dX0_isWhole_1 : decode cX0_isWhole 1 = .ok (.getfield 15, 3) := by decide +kernel
theorem dX0_isWhole_4 : decode cX0_isWhole 4 = .ok (.iload_n 1, 1) := by decide +kernel
theorem dX0_isWhole_5 : decode cX0_isWhole 5 = .ok (.iaload, 1) := by decide +kernel
theorem dX0_isWhole_6 : decode cX0_isWhole 6 = .ok (.bipush 64, 2) := by decide +kernel
theorem dX0_isWhole_8 : decode cX0_isWhole 8 = .ok (.if_icmp .eq 18, 3) := by decide +kernel
theorem dX0_isWhole_11 : decode cX0_isWhole 11 = .ok (.aload_n 0, 1) := by decide +kernel
theorem dX0_isWhole_12 : decode cX0_isWhole 12 = .ok (.getfield 15, 3) := by decide +kernel
theorem dX0_isWhole_15 : decode cX0_isWhole 15 = .ok (.iload_n 1, 1) := by decide +kernel
theorem dX0_isWhole_16 : decode cX0_isWhole 16 = .ok (.iaload, 1) := by decide +kernel
theorem dX0_isWhole_17 : decode cX0_isWhole 17 = .ok (.bipush 8, 2) := by decide +kernel
theorem dX0_isWhole_19 : decode cX0_isWhole 19 = .ok (.if_icmp .eq 7, 3) := by decide +kernel
theorem dX0_isWhole_22 : decode cX0_isWhole 22 = .ok (.iconst 1, 1) := by decide +kernel
theorem dX0_isWhole_23 : decode cX0_isWhole 23 = .ok (.goto 4, 3) := by decide +kernel
theorem dX0_isWhole_26 : decode cX0_isWhole 26 = .ok (.iconst 0, 1) := by decide +kernel
theorem dX0_isWhole_27 : decode cX0_isWhole 27 = .ok (.ireturn, 1) := by decide +kernel
def zwX0_isWhole : List Cond := .code yX0_isWhole cX0_isWhole 2 (some .boolean) :: ([.fieldLink RX0 15 "LinkModels$Build" "classMarks" "[I"] ++ wsX00)
set_option maxHeartbeats 4000000 in
set_option maxRecDepth 100000 in
theorem kX0_isWhole (l : Launch) (dC : Nat → ClassId) (dI : Nat → Nat → Nat) (bh : Nat) (br : Nat → Nat) (cI : ClassId) (cJ : ClassId) (cB : ClassId) (cc : Nat) (nA : Nat → Int32) (mA : Nat → Int32) (aA : Nat → Int32) (fcA : Nat → Nat) (fA : Nat → Int32) (mcA : Nat → Nat) (mmA : Nat → Int32) (wA : Nat → Int64) (tcA : Nat → Int32) (g1A : Nat → Int32) (g2A : Nat → Int32) (nuA : Nat → Int32) (erA : Nat → Nat) (reA : Nat → Int32) (liA : Nat → Nat) (lcA : Nat → Nat) (hI : bWI cc fcA mcA erA liA lcA) (ci : Nat) (hp0 : ci < 16) : Met l yX0_isWhole zwX0_isWhole ({ frames := 0, cells := 0, slots := 0, locals := 0 }) (zPq dC dI [.ref bh, .int (nI ci)] (bW bh br cI cJ cB (nI cc) nA mA aA (fun j => nI (fcA j)) fA (fun j => nI (mcA j)) mmA wA tcA g1A g2A nuA (fun j => nI (erA j)) reA (fun j => nI (liA j)) (fun j => nI (lcA j))) [(cI, .int), (cJ, .long), (cB, .byte)]) (vp_Si (fun r => (r = 0 ∨ r = 1))) 0 0 (fun _ => False) := by
  refine Met.ofW (cc := cX0_isWhole) (maxL := 2) (ret := (some .boolean)) (by decide) rfl ?_
  intro p e s m args below meth c s₁ B hml hv
  obtain ⟨rfl, hP, hK, hE⟩ := hv
  have hx := B.exec
  have hb := B.bytes
  have hr := B.returns
  have hts := atoms_spec (ws := zwX0_isWhole) B.pre
  have hown : s.vm.findClass RX0 = some m.cls := findClass_of_methodNamed B.named
  have hiX0 : ∀ w ∈ wsX00, w ∈ zwX0_isWhole := (fun w hw => (List.mem_cons_of_mem _ (List.mem_append_right _ hw)))
  obtain ⟨hcc, hfcA, hmcA, herA, hliA, hlcA⟩ := hI
  have hl := lv_entry ([.ref bh, .int (nI ci)]) (n := 2) (Nat.le_of_ble_eq_true rfl)
  rw [lg_entry_eq]
  generalize (lg_sl ([.ref bh, .int (nI ci)]) ++ List.replicate (2 - (lg_sl ([.ref bh, .int (nI ci)])).length) Slot.unset).toArray = ls at hl ⊢
  have hl : lv_has ls 2 [(0, .ref bh), (1, .int (nI ci))] := hl
  refine lv_aload_n hx hb dX0_isWhole_0 rfl (lv_at hl 0 rfl) ?_
  refine va_get (D := (dC, dI)) (ci := 0) (v := .ref (br 2)) (C := RX0) (T := TX0) (N := 17) hx hb hts hiX0 hown hK hP 0 rfl rfl 2 (by decide) (hts (.fieldLink RX0 15 "LinkModels$Build" "classMarks" "[I") (by decide +kernel)) (fun _ h9 => h9) rfl dX0_isWhole_1 ?_
  refine lv_iload_n hx hb dX0_isWhole_4 rfl (lv_at hl 1 rfl) ?_
  refine va_iald hx hb hK hP 2 0 rfl rfl (vp_in_nI (show ci < 16 by omega) (by decide)) dX0_isWhole_5 ?_
  refine lv_topi (fun x1 ex1 => ?_)
  obtain rfl : x1 = mA ci := by rw [ex1, nI_clamp (show ci < 2 ^ 31 by omega)]
  refine lv_bipush (v := 64) hx hb dX0_isWhole_6 (by decide) ?_
  refine lv_icmp_eq (tgt := 26) hx hb dX0_isWhole_8 (by decide) (fun cp8 => ?_) (fun cp8 => ?_)
  · refine lv_iconst (v := 0) hx hb dX0_isWhole_26 (by decide) ?_
    exact W.zret (v := (0 : Int32)) hx hb hr rfl (fun t ht hW => ⟨(0 : Int32), rfl, (Or.inl rfl), ht⟩) (fun _ h => by cases h) dX0_isWhole_27
  · refine lv_aload_n hx hb dX0_isWhole_11 rfl (lv_at hl 0 rfl) ?_
    refine va_get (D := (dC, dI)) (ci := 0) (v := .ref (br 2)) (C := RX0) (T := TX0) (N := 17) hx hb hts hiX0 hown hK hP 0 rfl rfl 2 (by decide) (hts (.fieldLink RX0 15 "LinkModels$Build" "classMarks" "[I") (by decide +kernel)) (fun _ h9 => h9) rfl dX0_isWhole_12 ?_
    refine lv_iload_n hx hb dX0_isWhole_15 rfl (lv_at hl 1 rfl) ?_
    refine va_iald hx hb hK hP 2 0 rfl rfl (vp_in_nI (show ci < 16 by omega) (by decide)) dX0_isWhole_16 ?_
    refine lv_topi (fun x2 ex2 => ?_)
    obtain rfl : x2 = mA ci := by rw [ex2, nI_clamp (show ci < 2 ^ 31 by omega)]
    refine lv_bipush (v := 8) hx hb dX0_isWhole_17 (by decide) ?_
    refine lv_icmp_eq (tgt := 26) hx hb dX0_isWhole_19 (by decide) (fun cp19 => ?_) (fun cp19 => ?_)
    · refine lv_iconst (v := 0) hx hb dX0_isWhole_26 (by decide) ?_
      exact W.zret (v := (0 : Int32)) hx hb hr rfl (fun t ht hW => ⟨(0 : Int32), rfl, (Or.inl rfl), ht⟩) (fun _ h => by cases h) dX0_isWhole_27
    · refine lv_iconst (v := 1) hx hb dX0_isWhole_22 (by decide) ?_
      refine lv_goto (tgt := 27) hx hb dX0_isWhole_23 (by decide) ?_
      exact W.zret (v := (1 : Int32)) hx hb hr rfl (fun t ht hW => ⟨(1 : Int32), rfl, (Or.inr rfl), ht⟩) (fun _ h => by cases h) dX0_isWhole_27
theorem dX0_isOf_0 : decode cX0_isOf 0 = .ok (.iload_n 1, 1) := by decide +kernel
theorem dX0_isOf_1 : decode cX0_isOf 1 = .ok (.iload_n 2, 1) := by decide +kernel
theorem dX0_isOf_2 : decode cX0_isOf 2 = .ok (.if_icmp .eq 17, 3) := by decide +kernel
theorem dX0_isOf_5 : decode cX0_isOf 5 = .ok (.aload_n 0, 1) := by decide +kernel
theorem dX0_isOf_6 : decode cX0_isOf 6 = .ok (.getfield 52, 3) := by decide +kernel
theorem dX0_isOf_9 : decode cX0_isOf 9 = .ok (.iload_n 1, 1) := by decide +kernel
theorem dX0_isOf_10 : decode cX0_isOf 10 = .ok (.iaload, 1) := by decide +kernel
theorem dX0_isOf_11 : decode cX0_isOf 11 = .ok (.iload_n 2, 1) := by decide +kernel
theorem dX0_isOf_12 : decode cX0_isOf 12 = .ok (.ishr, 1) := by decide +kernel
theorem dX0_isOf_13 : decode cX0_isOf 13 = .ok (.iconst 1, 1) := by decide +kernel
theorem dX0_isOf_14 : decode cX0_isOf 14 = .ok (.iand, 1) := by decide +kernel
theorem dX0_isOf_15 : decode cX0_isOf 15 = .ok (.iconst 1, 1) := by decide +kernel
theorem dX0_isOf_16 : decode cX0_isOf 16 = .ok (.if_icmp .ne 7, 3) := by decide +kernel
theorem dX0_isOf_19 : decode cX0_isOf 19 = .ok (.iconst 1, 1) := by decide +kernel
theorem dX0_isOf_20 : decode cX0_isOf 20 = .ok (.goto 4, 3) := by decide +kernel
theorem dX0_isOf_23 : decode cX0_isOf 23 = .ok (.iconst 0, 1) := by decide +kernel
theorem dX0_isOf_24 : decode cX0_isOf 24 = .ok (.ireturn, 1) := by decide +kernel
def zwX0_isOf : List Cond := .code yX0_isOf cX0_isOf 3 (some .boolean) :: ([.fieldLink RX0 52 "LinkModels$Build" "reached" "[I"] ++ wsX00)
set_option maxHeartbeats 4000000 in
set_option maxRecDepth 100000 in
theorem kX0_isOf (l : Launch) (dC : Nat → ClassId) (dI : Nat → Nat → Nat) (bh : Nat) (br : Nat → Nat) (cI : ClassId) (cJ : ClassId) (cB : ClassId) (cc : Nat) (nA : Nat → Int32) (mA : Nat → Int32) (aA : Nat → Int32) (fcA : Nat → Nat) (fA : Nat → Int32) (mcA : Nat → Nat) (mmA : Nat → Int32) (wA : Nat → Int64) (tcA : Nat → Int32) (g1A : Nat → Int32) (g2A : Nat → Int32) (nuA : Nat → Int32) (erA : Nat → Nat) (reA : Nat → Int32) (liA : Nat → Nat) (lcA : Nat → Nat) (hI : bWI cc fcA mcA erA liA lcA) (ci : Nat) (ot : Int32) (hp0 : ci < 16) : Met l yX0_isOf zwX0_isOf ({ frames := 0, cells := 0, slots := 0, locals := 0 }) (zPq dC dI [.ref bh, .int (nI ci), .int ot] (bW bh br cI cJ cB (nI cc) nA mA aA (fun j => nI (fcA j)) fA (fun j => nI (mcA j)) mmA wA tcA g1A g2A nuA (fun j => nI (erA j)) reA (fun j => nI (liA j)) (fun j => nI (lcA j))) [(cI, .int), (cJ, .long), (cB, .byte)]) (vp_Si (fun r => (r = 0 ∨ r = 1))) 0 0 (fun _ => False) := by
  refine Met.ofW (cc := cX0_isOf) (maxL := 3) (ret := (some .boolean)) (by decide) rfl ?_
  intro p e s m args below meth c s₁ B hml hv
  obtain ⟨rfl, hP, hK, hE⟩ := hv
  have hx := B.exec
  have hb := B.bytes
  have hr := B.returns
  have hts := atoms_spec (ws := zwX0_isOf) B.pre
  have hown : s.vm.findClass RX0 = some m.cls := findClass_of_methodNamed B.named
  have hiX0 : ∀ w ∈ wsX00, w ∈ zwX0_isOf := (fun w hw => (List.mem_cons_of_mem _ (List.mem_append_right _ hw)))
  obtain ⟨hcc, hfcA, hmcA, herA, hliA, hlcA⟩ := hI
  have hl := lv_entry ([.ref bh, .int (nI ci), .int ot]) (n := 3) (Nat.le_of_ble_eq_true rfl)
  rw [lg_entry_eq]
  generalize (lg_sl ([.ref bh, .int (nI ci), .int ot]) ++ List.replicate (3 - (lg_sl ([.ref bh, .int (nI ci), .int ot])).length) Slot.unset).toArray = ls at hl ⊢
  have hl : lv_has ls 3 [(0, .ref bh), (1, .int (nI ci)), (2, .int ot)] := hl
  refine lv_iload_n hx hb dX0_isOf_0 rfl (lv_at hl 1 rfl) ?_
  refine lv_iload_n hx hb dX0_isOf_1 rfl (lv_at hl 2 rfl) ?_
  refine lv_icmp_eq (tgt := 19) hx hb dX0_isOf_2 (by decide) (fun cp2 => ?_) (fun cp2 => ?_)
  · refine lv_iconst (v := 1) hx hb dX0_isOf_19 (by decide) ?_
    refine lv_goto (tgt := 24) hx hb dX0_isOf_20 (by decide) ?_
    exact W.zret (v := (1 : Int32)) hx hb hr rfl (fun t ht hW => ⟨(1 : Int32), rfl, (Or.inr rfl), ht⟩) (fun _ h => by cases h) dX0_isOf_24
  · refine lv_aload_n hx hb dX0_isOf_5 rfl (lv_at hl 0 rfl) ?_
    refine va_get (D := (dC, dI)) (ci := 0) (v := .ref (br 14)) (C := RX0) (T := TX0) (N := 17) hx hb hts hiX0 hown hK hP 0 rfl rfl 14 (by decide) (hts (.fieldLink RX0 52 "LinkModels$Build" "reached" "[I") (by decide +kernel)) (fun _ h9 => h9) rfl dX0_isOf_6 ?_
    refine lv_iload_n hx hb dX0_isOf_9 rfl (lv_at hl 1 rfl) ?_
    refine va_iald hx hb hK hP 14 0 rfl rfl (vp_in_nI (show ci < 16 by omega) (by decide)) dX0_isOf_10 ?_
    refine lv_topi (fun x1 ex1 => ?_)
    obtain rfl : x1 = reA ci := by rw [ex1, nI_clamp (show ci < 2 ^ 31 by omega)]
    refine lv_iload_n hx hb dX0_isOf_11 rfl (lv_at hl 2 rfl) ?_
    refine lv_ishr hx hb dX0_isOf_12 ?_
    refine lv_topi (fun x2 ex2 => ?_)
    refine lv_iconst (v := 1) hx hb dX0_isOf_13 (by decide) ?_
    refine lv_iand hx hb dX0_isOf_14 ?_
    refine lv_topi (fun x3 ex3 => ?_)
    refine lv_iconst (v := 1) hx hb dX0_isOf_15 (by decide) ?_
    refine lv_icmp_ne (tgt := 23) hx hb dX0_isOf_16 (by decide) (fun cp16 => ?_) (fun cp16 => ?_)
    · refine lv_iconst (v := 0) hx hb dX0_isOf_23 (by decide) ?_
      exact W.zret (v := (0 : Int32)) hx hb hr rfl (fun t ht hW => ⟨(0 : Int32), rfl, (Or.inl rfl), ht⟩) (fun _ h => by cases h) dX0_isOf_24
    · refine lv_iconst (v := 1) hx hb dX0_isOf_19 (by decide) ?_
      refine lv_goto (tgt := 24) hx hb dX0_isOf_20 (by decide) ?_
      exact W.zret (v := (1 : Int32)) hx hb hr rfl (fun t ht hW => ⟨(1 : Int32), rfl, (Or.inr rfl), ht⟩) (fun _ h => by cases h) dX0_isOf_24
theorem dX0_has_0 : decode cX0_has 0 = .ok (.aload_n 0, 1) := by decide +kernel
theorem dX0_has_1 : decode cX0_has 1 = .ok (.getfield 30, 3) := by decide +kernel
theorem dX0_has_4 : decode cX0_has 4 = .ok (.iload_n 1, 1) := by decide +kernel
theorem dX0_has_5 : decode cX0_has 5 = .ok (.iaload, 1) := by decide +kernel
theorem dX0_has_6 : decode cX0_has 6 = .ok (.iload_n 2, 1) := by decide +kernel
theorem dX0_has_7 : decode cX0_has 7 = .ok (.iand, 1) := by decide +kernel
theorem dX0_has_8 : decode cX0_has 8 = .ok (.ifCond .eq 7, 3) := by decide +kernel
theorem dX0_has_11 : decode cX0_has 11 = .ok (.iconst 1, 1) := by decide +kernel
theorem dX0_has_12 : decode cX0_has 12 = .ok (.goto 4, 3) := by decide +kernel
theorem dX0_has_15 : decode cX0_has 15 = .ok (.iconst 0, 1) := by decide +kernel
theorem dX0_has_16 : decode cX0_has 16 = .ok (.ireturn, 1) := by decide +kernel
def zwX0_has : List Cond := .code yX0_has cX0_has 3 (some .boolean) :: ([.fieldLink RX0 30 "LinkModels$Build" "memberMarks" "[I"] ++ wsX00)
set_option maxHeartbeats 4000000 in
set_option maxRecDepth 100000 in
theorem kX0_has (l : Launch) (dC : Nat → ClassId) (dI : Nat → Nat → Nat) (bh : Nat) (br : Nat → Nat) (cI : ClassId) (cJ : ClassId) (cB : ClassId) (cc : Nat) (nA : Nat → Int32) (mA : Nat → Int32) (aA : Nat → Int32) (fcA : Nat → Nat) (fA : Nat → Int32) (mcA : Nat → Nat) (mmA : Nat → Int32) (wA : Nat → Int64) (tcA : Nat → Int32) (g1A : Nat → Int32) (g2A : Nat → Int32) (nuA : Nat → Int32) (erA : Nat → Nat) (reA : Nat → Int32) (liA : Nat → Nat) (lcA : Nat → Nat) (hI : bWI cc fcA mcA erA liA lcA) (sp : Nat) (mk : Int32) (hp0 : sp < 208) : Met l yX0_has zwX0_has ({ frames := 0, cells := 0, slots := 0, locals := 0 }) (zPq dC dI [.ref bh, .int (nI sp), .int mk] (bW bh br cI cJ cB (nI cc) nA mA aA (fun j => nI (fcA j)) fA (fun j => nI (mcA j)) mmA wA tcA g1A g2A nuA (fun j => nI (erA j)) reA (fun j => nI (liA j)) (fun j => nI (lcA j))) [(cI, .int), (cJ, .long), (cB, .byte)]) (vp_Si (fun r => (r = 0 ∨ r = 1))) 0 0 (fun _ => False) := by
  refine Met.ofW (cc := cX0_has) (maxL := 3) (ret := (some .boolean)) (by decide) rfl ?_
  intro p e s m args below meth c s₁ B hml hv
  obtain ⟨rfl, hP, hK, hE⟩ := hv
  have hx := B.exec
  have hb := B.bytes
  have hr := B.returns
  have hts := atoms_spec (ws := zwX0_has) B.pre
  have hown : s.vm.findClass RX0 = some m.cls := findClass_of_methodNamed B.named
  have hiX0 : ∀ w ∈ wsX00, w ∈ zwX0_has := (fun w hw => (List.mem_cons_of_mem _ (List.mem_append_right _ hw)))
  obtain ⟨hcc, hfcA, hmcA, herA, hliA, hlcA⟩ := hI
  have hl := lv_entry ([.ref bh, .int (nI sp), .int mk]) (n := 3) (Nat.le_of_ble_eq_true rfl)
  rw [lg_entry_eq]
  generalize (lg_sl ([.ref bh, .int (nI sp), .int mk]) ++ List.replicate (3 - (lg_sl ([.ref bh, .int (nI sp), .int mk])).length) Slot.unset).toArray = ls at hl ⊢
  have hl : lv_has ls 3 [(0, .ref bh), (1, .int (nI sp)), (2, .int mk)] := hl
  refine lv_aload_n hx hb dX0_has_0 rfl (lv_at hl 0 rfl) ?_
  refine va_get (D := (dC, dI)) (ci := 0) (v := .ref (br 7)) (C := RX0) (T := TX0) (N := 17) hx hb hts hiX0 hown hK hP 0 rfl rfl 7 (by decide) (hts (.fieldLink RX0 30 "LinkModels$Build" "memberMarks" "[I") (by decide +kernel)) (fun _ h9 => h9) rfl dX0_has_1 ?_
  refine lv_iload_n hx hb dX0_has_4 rfl (lv_at hl 1 rfl) ?_
  refine va_iald hx hb hK hP 7 0 rfl rfl (vp_in_nI (show sp < 208 by omega) (by decide)) dX0_has_5 ?_
  refine lv_topi (fun x1 ex1 => ?_)
  obtain rfl : x1 = mmA sp := by rw [ex1, nI_clamp (show sp < 2 ^ 31 by omega)]
  refine lv_iload_n hx hb dX0_has_6 rfl (lv_at hl 2 rfl) ?_
  refine lv_iand hx hb dX0_has_7 ?_
  refine lv_topi (fun x2 ex2 => ?_)
  refine lv_if_eq (tgt := 15) hx hb dX0_has_8 (by decide) (fun cp8 => ?_) (fun cp8 => ?_)
  · refine lv_iconst (v := 0) hx hb dX0_has_15 (by decide) ?_
    exact W.zret (v := (0 : Int32)) hx hb hr rfl (fun t ht hW => ⟨(0 : Int32), rfl, (Or.inl rfl), ht⟩) (fun _ h => by cases h) dX0_has_16
  · refine lv_iconst (v := 1) hx hb dX0_has_11 (by decide) ?_
    refine lv_goto (tgt := 16) hx hb dX0_has_12 (by decide) ?_
    exact W.zret (v := (1 : Int32)) hx hb hr rfl (fun t ht hW => ⟨(1 : Int32), rfl, (Or.inr rfl), ht⟩) (fun _ h => by cases h) dX0_has_16
theorem dX0_numberAt_0 : decode cX0_numberAt 0 = .ok (.aload_n 0, 1) := by decide +kernel
theorem dX0_numberAt_1 : decode cX0_numberAt 1 = .ok (.getfield 46, 3) := by decide +kernel
theorem dX0_numberAt_4 : decode cX0_numberAt 4 = .ok (.iload_n 1, 1) := by decide +kernel
theorem dX0_numberAt_5 : decode cX0_numberAt 5 = .ok (.iaload, 1) := by decide +kernel
theorem dX0_numberAt_6 : decode cX0_numberAt 6 = .ok (.ireturn, 1) := by decide +kernel
def zwX0_numberAt : List Cond := .code yX0_numberAt cX0_numberAt 2 (some .int) :: ([.fieldLink RX0 46 "LinkModels$Build" "numbers" "[I"] ++ wsX00)
set_option maxHeartbeats 4000000 in
set_option maxRecDepth 100000 in
theorem kX0_numberAt (l : Launch) (dC : Nat → ClassId) (dI : Nat → Nat → Nat) (bh : Nat) (br : Nat → Nat) (cI : ClassId) (cJ : ClassId) (cB : ClassId) (cc : Nat) (nA : Nat → Int32) (mA : Nat → Int32) (aA : Nat → Int32) (fcA : Nat → Nat) (fA : Nat → Int32) (mcA : Nat → Nat) (mmA : Nat → Int32) (wA : Nat → Int64) (tcA : Nat → Int32) (g1A : Nat → Int32) (g2A : Nat → Int32) (nuA : Nat → Int32) (erA : Nat → Nat) (reA : Nat → Int32) (liA : Nat → Nat) (lcA : Nat → Nat) (hI : bWI cc fcA mcA erA liA lcA) (sp : Nat) (hp0 : sp < 208) : Met l yX0_numberAt zwX0_numberAt ({ frames := 0, cells := 0, slots := 0, locals := 0 }) (zPq dC dI [.ref bh, .int (nI sp)] (bW bh br cI cJ cB (nI cc) nA mA aA (fun j => nI (fcA j)) fA (fun j => nI (mcA j)) mmA wA tcA g1A g2A nuA (fun j => nI (erA j)) reA (fun j => nI (liA j)) (fun j => nI (lcA j))) [(cI, .int), (cJ, .long), (cB, .byte)]) (vp_Si (fun r => (True))) 0 0 (fun _ => False) := by
  refine Met.ofW (cc := cX0_numberAt) (maxL := 2) (ret := (some .int)) (by decide) rfl ?_
  intro p e s m args below meth c s₁ B hml hv
  obtain ⟨rfl, hP, hK, hE⟩ := hv
  have hx := B.exec
  have hb := B.bytes
  have hr := B.returns
  have hts := atoms_spec (ws := zwX0_numberAt) B.pre
  have hown : s.vm.findClass RX0 = some m.cls := findClass_of_methodNamed B.named
  have hiX0 : ∀ w ∈ wsX00, w ∈ zwX0_numberAt := (fun w hw => (List.mem_cons_of_mem _ (List.mem_append_right _ hw)))
  obtain ⟨hcc, hfcA, hmcA, herA, hliA, hlcA⟩ := hI
  have hl := lv_entry ([.ref bh, .int (nI sp)]) (n := 2) (Nat.le_of_ble_eq_true rfl)
  rw [lg_entry_eq]
  generalize (lg_sl ([.ref bh, .int (nI sp)]) ++ List.replicate (2 - (lg_sl ([.ref bh, .int (nI sp)])).length) Slot.unset).toArray = ls at hl ⊢
  have hl : lv_has ls 2 [(0, .ref bh), (1, .int (nI sp))] := hl
  refine lv_aload_n hx hb dX0_numberAt_0 rfl (lv_at hl 0 rfl) ?_
  refine va_get (D := (dC, dI)) (ci := 0) (v := .ref (br 12)) (C := RX0) (T := TX0) (N := 17) hx hb hts hiX0 hown hK hP 0 rfl rfl 12 (by decide) (hts (.fieldLink RX0 46 "LinkModels$Build" "numbers" "[I") (by decide +kernel)) (fun _ h9 => h9) rfl dX0_numberAt_1 ?_
  refine lv_iload_n hx hb dX0_numberAt_4 rfl (lv_at hl 1 rfl) ?_
  refine va_iald hx hb hK hP 12 0 rfl rfl (vp_in_nI (show sp < 208 by omega) (by decide)) dX0_numberAt_5 ?_
  refine lv_topi (fun x1 ex1 => ?_)
  obtain rfl : x1 = nuA sp := by rw [ex1, nI_clamp (show sp < 2 ^ 31 by omega)]
  exact W.iret (v := (nuA sp)) hx hb hr (fun t ht hW => ⟨(nuA sp), rfl, trivial, ht⟩) (fun _ h => by cases h) dX0_numberAt_6
theorem dX0_membersWith_0 : decode cX0_membersWith 0 = .ok (.iconst 0, 1) := by decide +kernel
theorem dX0_membersWith_1 : decode cX0_membersWith 1 = .ok (.istore_n 3, 1) := by decide +kernel
theorem dX0_membersWith_2 : decode cX0_membersWith 2 = .ok (.iconst 0, 1) := by decide +kernel
theorem dX0_membersWith_3 : decode cX0_membersWith 3 = .ok (.istore 4, 2) := by decide +kernel
theorem dX0_membersWith_5 : decode cX0_membersWith 5 = .ok (.iload 4, 2) := by decide +kernel
theorem dX0_membersWith_7 : decode cX0_membersWith 7 = .ok (.aload_n 0, 1) := by decide +kernel
theorem dX0_membersWith_8 : decode cX0_membersWith 8 = .ok (.getfield 61, 3) := by decide +kernel
theorem dX0_membersWith_11 : decode cX0_membersWith 11 = .ok (.if_icmp .ge 58, 3) := by decide +kernel
theorem dX0_membersWith_14 : decode cX0_membersWith 14 = .ok (.iload 4, 2) := by decide +kernel
theorem dX0_membersWith_16 : decode cX0_membersWith 16 = .ok (.bipush 13, 2) := by decide +kernel
theorem dX0_membersWith_18 : decode cX0_membersWith 18 = .ok (.imul, 1) := by decide +kernel
theorem dX0_membersWith_19 : decode cX0_membersWith 19 = .ok (.iconst 1, 1) := by decide +kernel
theorem dX0_membersWith_20 : decode cX0_membersWith 20 = .ok (.iadd, 1) := by decide +kernel
theorem dX0_membersWith_21 : decode cX0_membersWith 21 = .ok (.istore 5, 2) := by decide +kernel
theorem dX0_membersWith_23 : decode cX0_membersWith 23 = .ok (.iload 5, 2) := by decide +kernel
theorem dX0_membersWith_25 : decode cX0_membersWith 25 = .ok (.iload 4, 2) := by decide +kernel
theorem dX0_membersWith_27 : decode cX0_membersWith 27 = .ok (.bipush 13, 2) := by decide +kernel
theorem dX0_membersWith_29 : decode cX0_membersWith 29 = .ok (.imul, 1) := by decide +kernel
theorem dX0_membersWith_30 : decode cX0_membersWith 30 = .ok (.aload_n 0, 1) := by decide +kernel
theorem dX0_membersWith_31 : decode cX0_membersWith 31 = .ok (.getfield 27, 3) := by decide +kernel
theorem dX0_membersWith_34 : decode cX0_membersWith 34 = .ok (.iload 4, 2) := by decide +kernel
theorem dX0_membersWith_36 : decode cX0_membersWith 36 = .ok (.iaload, 1) := by decide +kernel
theorem dX0_membersWith_37 : decode cX0_membersWith 37 = .ok (.iadd, 1) := by decide +kernel
theorem dX0_membersWith_38 : decode cX0_membersWith 38 = .ok (.if_icmp .gt 25, 3) := by decide +kernel
theorem dX0_membersWith_41 : decode cX0_membersWith 41 = .ok (.aload_n 0, 1) := by decide +kernel
theorem dX0_membersWith_42 : decode cX0_membersWith 42 = .ok (.getfield 30, 3) := by decide +kernel
theorem dX0_membersWith_45 : decode cX0_membersWith 45 = .ok (.iload 5, 2) := by decide +kernel
theorem dX0_membersWith_47 : decode cX0_membersWith 47 = .ok (.iaload, 1) := by decide +kernel
theorem dX0_membersWith_48 : decode cX0_membersWith 48 = .ok (.iload_n 1, 1) := by decide +kernel
theorem dX0_membersWith_49 : decode cX0_membersWith 49 = .ok (.iand, 1) := by decide +kernel
theorem dX0_membersWith_50 : decode cX0_membersWith 50 = .ok (.iload_n 2, 1) := by decide +kernel
theorem dX0_membersWith_51 : decode cX0_membersWith 51 = .ok (.if_icmp .ne 6, 3) := by decide +kernel
theorem dX0_membersWith_54 : decode cX0_membersWith 54 = .ok (.iinc 3 1, 3) := by decide +kernel
theorem dX0_membersWith_57 : decode cX0_membersWith 57 = .ok (.iinc 5 1, 3) := by decide +kernel
theorem dX0_membersWith_60 : decode cX0_membersWith 60 = .ok (.goto (-37), 3) := by decide +kernel
theorem dX0_membersWith_63 : decode cX0_membersWith 63 = .ok (.iinc 4 1, 3) := by decide +kernel
theorem dX0_membersWith_66 : decode cX0_membersWith 66 = .ok (.goto (-61), 3) := by decide +kernel
theorem dX0_membersWith_69 : decode cX0_membersWith 69 = .ok (.iload_n 3, 1) := by decide +kernel
theorem dX0_membersWith_70 : decode cX0_membersWith 70 = .ok (.ireturn, 1) := by decide +kernel
def zwX0_membersWith : List Cond := .code yX0_membersWith cX0_membersWith 6 (some .int) :: ([.fieldLink RX0 27 "LinkModels$Build" "memberCounts" "[I", .fieldLink RX0 30 "LinkModels$Build" "memberMarks" "[I", .fieldLink RX0 61 "LinkModels$Build" "classCount" "I"] ++ wsX00)
set_option maxHeartbeats 4000000 in
set_option maxRecDepth 100000 in
theorem kX0_membersWith (l : Launch) (dC : Nat → ClassId) (dI : Nat → Nat → Nat) (bh : Nat) (br : Nat → Nat) (cI : ClassId) (cJ : ClassId) (cB : ClassId) (cc : Nat) (nA : Nat → Int32) (mA : Nat → Int32) (aA : Nat → Int32) (fcA : Nat → Nat) (fA : Nat → Int32) (mcA : Nat → Nat) (mmA : Nat → Int32) (wA : Nat → Int64) (tcA : Nat → Int32) (g1A : Nat → Int32) (g2A : Nat → Int32) (nuA : Nat → Int32) (erA : Nat → Nat) (reA : Nat → Int32) (liA : Nat → Nat) (lcA : Nat → Nat) (hI : bWI cc fcA mcA erA liA lcA) (ma : Int32) (mk : Int32) : Met l yX0_membersWith zwX0_membersWith ({ frames := 0, cells := 0, slots := 0, locals := 0 }) (zPq dC dI [.ref bh, .int ma, .int mk] (bW bh br cI cJ cB (nI cc) nA mA aA (fun j => nI (fcA j)) fA (fun j => nI (mcA j)) mmA wA tcA g1A g2A nuA (fun j => nI (erA j)) reA (fun j => nI (liA j)) (fun j => nI (lcA j))) [(cI, .int), (cJ, .long), (cB, .byte)]) (vp_Si (fun r => (True))) 0 0 (fun _ => False) := by
  refine Met.ofW (cc := cX0_membersWith) (maxL := 6) (ret := (some .int)) (by decide) rfl ?_
  intro p e s m args below meth c s₁ B hml hv
  obtain ⟨rfl, hP, hK, hE⟩ := hv
  have hx := B.exec
  have hb := B.bytes
  have hr := B.returns
  have hts := atoms_spec (ws := zwX0_membersWith) B.pre
  have hown : s.vm.findClass RX0 = some m.cls := findClass_of_methodNamed B.named
  have hiX0 : ∀ w ∈ wsX00, w ∈ zwX0_membersWith := (fun w hw => (List.mem_cons_of_mem _ (List.mem_append_right _ hw)))
  obtain ⟨hcc, hfcA, hmcA, herA, hliA, hlcA⟩ := hI
  have hl := lv_entry ([.ref bh, .int ma, .int mk]) (n := 6) (Nat.le_of_ble_eq_true rfl)
  rw [lg_entry_eq]
  generalize (lg_sl ([.ref bh, .int ma, .int mk]) ++ List.replicate (6 - (lg_sl ([.ref bh, .int ma, .int mk])).length) Slot.unset).toArray = ls at hl ⊢
  have hl : lv_has ls 6 [(0, .ref bh), (1, .int ma), (2, .int mk)] := hl
  have J5 : ∀ (z5 : Nat) (sn : Int32) (c4 : Nat) (ls : Array Slot), cc - c4 < z5 → (c4 ≤ cc) → lv_has ls 6 [(0, .ref bh), (1, .int ma), (2, .int mk), (3, .int sn), (4, .int (nI c4))] → W p l e (headSpec zwX0_membersWith { frames := 0, cells := 0, slots := 0, locals := 0 }).room s m (([.ref bh, .int ma, .int mk] : List Value).toArray) below meth c s.heap [] 0 0 (MQ below (vp_Si (fun r => (True))) (([.ref bh, .int ma, .int mk] : List Value).toArray) s 0 0 (fun _ => False)) (F0 m 5 ls []) := by
    intro z5
    induction z5 with
    | zero => intro sn c4 ls h9; exact absurd h9 (Nat.not_lt_zero _)
    | succ z5 ih5 =>
      intro sn c4 ls hm5 i5_0 hl
      have J23 : ∀ (z23 : Nat) (s2 : Int32) (s5 : Nat) (ls : Array Slot), c4 * 13 + mcA c4 + 1 - s5 < z23 → (s5 ≤ c4 * 13 + mcA c4 + 1) → (c4 < cc) → lv_has ls 6 [(0, .ref bh), (1, .int ma), (2, .int mk), (3, .int s2), (4, .int (nI c4)), (5, .int (nI s5))] → W p l e (headSpec zwX0_membersWith { frames := 0, cells := 0, slots := 0, locals := 0 }).room s m (([.ref bh, .int ma, .int mk] : List Value).toArray) below meth c s.heap [] 0 0 (MQ below (vp_Si (fun r => (True))) (([.ref bh, .int ma, .int mk] : List Value).toArray) s 0 0 (fun _ => False)) (F0 m 23 ls []) := by
        intro z23
        induction z23 with
        | zero => intro s2 s5 ls h9; exact absurd h9 (Nat.not_lt_zero _)
        | succ z23 ih23 =>
          intro s2 s5 ls hm23 i23_0 i23_1 hl
          have hm9 := hmcA c4
          refine lv_iload hx hb dX0_membersWith_23 (lv_at hl 5 rfl) ?_
          refine lv_iload hx hb dX0_membersWith_25 (lv_at hl 4 rfl) ?_
          refine lv_bipush (v := 13) hx hb dX0_membersWith_27 (by decide) ?_
          refine lv_imul hx hb dX0_membersWith_29 ?_
          refine lv_topi (fun x1 ex1 => ?_)
          obtain rfl : x1 = nI (c4 * 13) := by rw [ex1]; exact pk_mul (c4) (13)
          refine lv_aload_n hx hb dX0_membersWith_30 rfl (lv_at hl 0 rfl) ?_
          refine va_get (D := (dC, dI)) (ci := 0) (v := .ref (br 6)) (C := RX0) (T := TX0) (N := 17) hx hb hts hiX0 hown hK hP 0 rfl rfl 6 (by decide) (hts (.fieldLink RX0 27 "LinkModels$Build" "memberCounts" "[I") (by decide +kernel)) (fun _ h9 => h9) rfl dX0_membersWith_31 ?_
          refine lv_iload hx hb dX0_membersWith_34 (lv_at hl 4 rfl) ?_
          refine va_iald hx hb hK hP 6 0 rfl rfl (vp_in_nI (show c4 < 16 by omega) (by decide)) dX0_membersWith_36 ?_
          refine lv_topi (fun x2 ex2 => ?_)
          obtain rfl : x2 = nI (mcA c4) := by rw [ex2, nI_clamp (show c4 < 2 ^ 31 by omega)]
          have hqx2 := hmcA c4
          refine lv_iadd hx hb dX0_membersWith_37 ?_
          refine lv_topi (fun x3 ex3 => ?_)
          obtain rfl : x3 = nI ((c4 * 13) + (mcA c4)) := by rw [ex3]; exact nI_add (c4 * 13) (mcA c4)
          refine lv_icmp_gt (tgt := 63) hx hb dX0_membersWith_38 (by decide) (fun cp38 => ?_) (fun cp38 => ?_)
          · have qcp38 : ((c4 * 13) + (mcA c4)) < s5 := (nI_ltI (a := (c4 * 13) + (mcA c4)) (b := s5) (by omega) (by omega)).mp cp38
            obtain ⟨x4, ex4⟩ : ∃ y : Int32, y = (nI c4) + 1 := ⟨_, rfl⟩
            refine lv_iinc (v := x4) (lv' := [(4, .int x4), (0, .ref bh), (1, .int ma), (2, .int mk), (3, .int s2), (5, .int (nI s5))]) hx hb dX0_membersWith_63 hl (k := 4) rfl (by rw [ex4]; rfl) (by decide) rfl (fun ls hl => ?_)
            obtain rfl : x4 = nI (c4 + 1) := by rw [ex4]; exact nI_add (c4) 1
            refine lv_goto (tgt := 5) hx hb dX0_membersWith_66 (by decide) ?_
            exact ih5 s2 (c4 + 1) ls (by omega) (by first | omega | assumption | trivial) (lv_sub hl [1, 2, 3, 4, 0] rfl)
          · have qcp38 : ¬ ((c4 * 13) + (mcA c4)) < s5 := fun h9 => cp38 ((nI_ltI (a := (c4 * 13) + (mcA c4)) (b := s5) (by omega) (by omega)).mpr h9)
            refine lv_aload_n hx hb dX0_membersWith_41 rfl (lv_at hl 0 rfl) ?_
            refine va_get (D := (dC, dI)) (ci := 0) (v := .ref (br 7)) (C := RX0) (T := TX0) (N := 17) hx hb hts hiX0 hown hK hP 0 rfl rfl 7 (by decide) (hts (.fieldLink RX0 30 "LinkModels$Build" "memberMarks" "[I") (by decide +kernel)) (fun _ h9 => h9) rfl dX0_membersWith_42 ?_
            refine lv_iload hx hb dX0_membersWith_45 (lv_at hl 5 rfl) ?_
            refine va_iald hx hb hK hP 7 0 rfl rfl (vp_in_nI (show s5 < 208 by omega) (by decide)) dX0_membersWith_47 ?_
            refine lv_topi (fun x5 ex5 => ?_)
            obtain rfl : x5 = mmA s5 := by rw [ex5, nI_clamp (show s5 < 2 ^ 31 by omega)]
            refine lv_iload_n hx hb dX0_membersWith_48 rfl (lv_at hl 1 rfl) ?_
            refine lv_iand hx hb dX0_membersWith_49 ?_
            refine lv_topi (fun x6 ex6 => ?_)
            refine lv_iload_n hx hb dX0_membersWith_50 rfl (lv_at hl 2 rfl) ?_
            refine lv_icmp_ne (tgt := 57) hx hb dX0_membersWith_51 (by decide) (fun cp51 => ?_) (fun cp51 => ?_)
            · obtain ⟨x7, ex7⟩ : ∃ y : Int32, y = (nI s5) + 1 := ⟨_, rfl⟩
              refine lv_iinc (v := x7) (lv' := [(5, .int x7), (0, .ref bh), (1, .int ma), (2, .int mk), (3, .int s2), (4, .int (nI c4))]) hx hb dX0_membersWith_57 hl (k := 5) rfl (by rw [ex7]; rfl) (by decide) rfl (fun ls hl => ?_)
              obtain rfl : x7 = nI (s5 + 1) := by rw [ex7]; exact nI_add (s5) 1
              refine lv_goto (tgt := 23) hx hb dX0_membersWith_60 (by decide) ?_
              exact ih23 s2 (s5 + 1) ls (by omega) (by first | omega | assumption | trivial) (by first | omega | assumption | trivial) (lv_sub hl [1, 2, 3, 4, 5, 0] rfl)
            · obtain ⟨x8, ex8⟩ : ∃ y : Int32, y = s2 + 1 := ⟨_, rfl⟩
              refine lv_iinc (v := x8) (lv' := [(3, .int x8), (0, .ref bh), (1, .int ma), (2, .int mk), (4, .int (nI c4)), (5, .int (nI s5))]) hx hb dX0_membersWith_54 hl (k := 3) rfl (by rw [ex8]; rfl) (by decide) rfl (fun ls hl => ?_)
              obtain ⟨x9, ex9⟩ : ∃ y : Int32, y = (nI s5) + 1 := ⟨_, rfl⟩
              refine lv_iinc (v := x9) (lv' := [(5, .int x9), (3, .int x8), (0, .ref bh), (1, .int ma), (2, .int mk), (4, .int (nI c4))]) hx hb dX0_membersWith_57 hl (k := 5) rfl (by rw [ex9]; rfl) (by decide) rfl (fun ls hl => ?_)
              obtain rfl : x9 = nI (s5 + 1) := by rw [ex9]; exact nI_add (s5) 1
              refine lv_goto (tgt := 23) hx hb dX0_membersWith_60 (by decide) ?_
              exact ih23 x8 (s5 + 1) ls (by omega) (by first | omega | assumption | trivial) (by first | omega | assumption | trivial) (lv_sub hl [2, 3, 4, 1, 5, 0] rfl)
      refine lv_iload hx hb dX0_membersWith_5 (lv_at hl 4 rfl) ?_
      refine lv_aload_n hx hb dX0_membersWith_7 rfl (lv_at hl 0 rfl) ?_
      refine va_get (D := (dC, dI)) (ci := 0) (v := .int (nI cc)) (C := RX0) (T := TX0) (N := 17) hx hb hts hiX0 hown hK hP 0 rfl rfl 0 (by decide) (hts (.fieldLink RX0 61 "LinkModels$Build" "classCount" "I") (by decide +kernel)) (fun _ h9 => h9) rfl dX0_membersWith_8 ?_
      refine lv_icmp_ge (tgt := 69) hx hb dX0_membersWith_11 (by decide) (fun cp11 => ?_) (fun cp11 => ?_)
      · have qcp11 : cc ≤ c4 := (nI_leI (a := cc) (b := c4) (by omega) (by omega)).mp cp11
        refine lv_iload_n hx hb dX0_membersWith_69 rfl (lv_at hl 3 rfl) ?_
        exact W.iret (v := sn) hx hb hr (fun t ht hW => ⟨sn, rfl, trivial, ht⟩) (fun _ h => by cases h) dX0_membersWith_70
      · have qcp11 : ¬ cc ≤ c4 := fun h9 => cp11 ((nI_leI (a := cc) (b := c4) (by omega) (by omega)).mpr h9)
        refine lv_iload hx hb dX0_membersWith_14 (lv_at hl 4 rfl) ?_
        refine lv_bipush (v := 13) hx hb dX0_membersWith_16 (by decide) ?_
        refine lv_imul hx hb dX0_membersWith_18 ?_
        refine lv_topi (fun x10 ex10 => ?_)
        obtain rfl : x10 = nI (c4 * 13) := by rw [ex10]; exact pk_mul (c4) (13)
        refine lv_iconst (v := 1) hx hb dX0_membersWith_19 (by decide) ?_
        refine lv_iadd hx hb dX0_membersWith_20 ?_
        refine lv_topi (fun x11 ex11 => ?_)
        obtain rfl : x11 = nI ((c4 * 13) + 1) := by rw [ex11]; exact nI_add (c4 * 13) (1)
        refine lv_istore (lv' := [(5, .int (nI ((c4 * 13) + 1))), (0, .ref bh), (1, .int ma), (2, .int mk), (3, .int sn), (4, .int (nI c4))]) hx hb dX0_membersWith_21 hl (by decide) rfl (fun ls hl => ?_)
        exact J23 _ sn ((c4 * 13) + 1) ls (Nat.lt_succ_self _) (by first | omega | assumption | trivial) (by first | omega | assumption | trivial) (lv_sub hl [1, 2, 3, 4, 5, 0] rfl)
  refine lv_iconst (v := 0) hx hb dX0_membersWith_0 (by decide) ?_
  refine lv_istore_n (lv' := [(3, .int 0), (0, .ref bh), (1, .int ma), (2, .int mk)]) hx hb dX0_membersWith_1 rfl hl (by decide) rfl (fun ls hl => ?_)
  refine lv_iconst (v := 0) hx hb dX0_membersWith_2 (by decide) ?_
  refine lv_istore (lv' := [(4, .int 0), (3, .int 0), (0, .ref bh), (1, .int ma), (2, .int mk)]) hx hb dX0_membersWith_3 hl (by decide) rfl (fun ls hl => ?_)
  exact J5 _ (0 : Int32) 0 ls (Nat.lt_succ_self _) (by first | omega | assumption | trivial) (lv_sub hl [2, 3, 4, 1, 0] rfl)
theorem dX0_fieldIn_0 : decode cX0_fieldIn 0 = .ok (.iload_n 1, 1) := by decide +kernel
theorem dX0_fieldIn_1 : decode cX0_fieldIn 1 = .ok (.bipush 13, 2) := by decide +kernel
theorem dX0_fieldIn_3 : decode cX0_fieldIn 3 = .ok (.imul, 1) := by decide +kernel
theorem dX0_fieldIn_4 : decode cX0_fieldIn 4 = .ok (.iconst 1, 1) := by decide +kernel
theorem dX0_fieldIn_5 : decode cX0_fieldIn 5 = .ok (.iadd, 1) := by decide +kernel
theorem dX0_fieldIn_6 : decode cX0_fieldIn 6 = .ok (.istore 4, 2) := by decide +kernel
theorem dX0_fieldIn_8 : decode cX0_fieldIn 8 = .ok (.iload 4, 2) := by decide +kernel
theorem dX0_fieldIn_10 : decode cX0_fieldIn 10 = .ok (.iload_n 1, 1) := by decide +kernel
theorem dX0_fieldIn_11 : decode cX0_fieldIn 11 = .ok (.bipush 13, 2) := by decide +kernel
theorem dX0_fieldIn_13 : decode cX0_fieldIn 13 = .ok (.imul, 1) := by decide +kernel
theorem dX0_fieldIn_14 : decode cX0_fieldIn 14 = .ok (.aload_n 0, 1) := by decide +kernel
theorem dX0_fieldIn_15 : decode cX0_fieldIn 15 = .ok (.getfield 27, 3) := by decide +kernel
theorem dX0_fieldIn_18 : decode cX0_fieldIn 18 = .ok (.iload_n 1, 1) := by decide +kernel
theorem dX0_fieldIn_19 : decode cX0_fieldIn 19 = .ok (.iaload, 1) := by decide +kernel
theorem dX0_fieldIn_20 : decode cX0_fieldIn 20 = .ok (.iadd, 1) := by decide +kernel
theorem dX0_fieldIn_21 : decode cX0_fieldIn 21 = .ok (.if_icmp .gt 35, 3) := by decide +kernel
theorem dX0_fieldIn_24 : decode cX0_fieldIn 24 = .ok (.aload_n 0, 1) := by decide +kernel
theorem dX0_fieldIn_25 : decode cX0_fieldIn 25 = .ok (.getfield 33, 3) := by decide +kernel
theorem dX0_fieldIn_28 : decode cX0_fieldIn 28 = .ok (.iload 4, 2) := by decide +kernel
theorem dX0_fieldIn_30 : decode cX0_fieldIn 30 = .ok (.laload, 1) := by decide +kernel
theorem dX0_fieldIn_31 : decode cX0_fieldIn 31 = .ok (.lload_n 2, 1) := by decide +kernel
theorem dX0_fieldIn_32 : decode cX0_fieldIn 32 = .ok (.lcmp, 1) := by decide +kernel
theorem dX0_fieldIn_33 : decode cX0_fieldIn 33 = .ok (.ifCond .ne 17, 3) := by decide +kernel
theorem dX0_fieldIn_36 : decode cX0_fieldIn 36 = .ok (.aload_n 0, 1) := by decide +kernel
theorem dX0_fieldIn_37 : decode cX0_fieldIn 37 = .ok (.iload 4, 2) := by decide +kernel
theorem dX0_fieldIn_39 : decode cX0_fieldIn 39 = .ok (.bipush 16, 2) := by decide +kernel
theorem dX0_fieldIn_41 : decode cX0_fieldIn 41 = .ok (.invokevirtual 82, 3) := by decide +kernel
theorem dX0_fieldIn_44 : decode cX0_fieldIn 44 = .ok (.ifCond .ne 6, 3) := by decide +kernel
theorem dX0_fieldIn_47 : decode cX0_fieldIn 47 = .ok (.iload 4, 2) := by decide +kernel
theorem dX0_fieldIn_49 : decode cX0_fieldIn 49 = .ok (.ireturn, 1) := by decide +kernel
theorem dX0_fieldIn_50 : decode cX0_fieldIn 50 = .ok (.iinc 4 1, 3) := by decide +kernel
theorem dX0_fieldIn_53 : decode cX0_fieldIn 53 = .ok (.goto (-45), 3) := by decide +kernel
theorem dX0_fieldIn_56 : decode cX0_fieldIn 56 = .ok (.iconst (-1), 1) := by decide +kernel
theorem dX0_fieldIn_57 : decode cX0_fieldIn 57 = .ok (.ireturn, 1) := by decide +kernel
def zwX0_fieldIn : List Cond := .code yX0_fieldIn cX0_fieldIn 5 (some .int) :: ([.fieldLink RX0 27 "LinkModels$Build" "memberCounts" "[I", .fieldLink RX0 33 "LinkModels$Build" "words" "[J", .methodLink RX0 82 yX0_has, .instanceMethod yX0_has, .selects RX0 yX0_has yX0_has, .initialized RX0, .code yX0_has cX0_has 3 (some .boolean), .fieldLink RX0 30 "LinkModels$Build" "memberMarks" "[I"] ++ wsX00)
theorem zgX0_fieldIn_X0_has_82 : GoodIn zwX0_fieldIn (wsV RX0 82 RX0 yX0_has zwX0_has) := goodIn_app (goodIn_r _ [3, 4, 5, 6] rfl (by decide +kernel)) (goodIn_app (goodIn_r _ [7, 8] rfl (by decide +kernel)) (fun w hw => ⟨(List.mem_cons_of_mem _ (List.mem_append_right _ hw)), good_of_word (List.all_eq_true.mp zgX0 w hw)⟩))
set_option maxHeartbeats 4000000 in
set_option maxRecDepth 100000 in
theorem kX0_fieldIn (l : Launch) (dC : Nat → ClassId) (dI : Nat → Nat → Nat) (bh : Nat) (br : Nat → Nat) (cI : ClassId) (cJ : ClassId) (cB : ClassId) (cc : Nat) (nA : Nat → Int32) (mA : Nat → Int32) (aA : Nat → Int32) (fcA : Nat → Nat) (fA : Nat → Int32) (mcA : Nat → Nat) (mmA : Nat → Int32) (wA : Nat → Int64) (tcA : Nat → Int32) (g1A : Nat → Int32) (g2A : Nat → Int32) (nuA : Nat → Int32) (erA : Nat → Nat) (reA : Nat → Int32) (liA : Nat → Nat) (lcA : Nat → Nat) (hI : bWI cc fcA mcA erA liA lcA) (ci : Nat) (wo : Int64) (hp0 : ci < 16) : Met l yX0_fieldIn zwX0_fieldIn ({ frames := 1, cells := 0, slots := 0, locals := 22 }) (zPq dC dI [.ref bh, .int (nI ci), .long wo] (bW bh br cI cJ cB (nI cc) nA mA aA (fun j => nI (fcA j)) fA (fun j => nI (mcA j)) mmA wA tcA g1A g2A nuA (fun j => nI (erA j)) reA (fun j => nI (liA j)) (fun j => nI (lcA j))) [(cI, .int), (cJ, .long), (cB, .byte)]) (vp_Si (fun r => (zM r (fun k => k < 208)))) 0 0 (fun _ => False) := by
  refine Met.ofW (cc := cX0_fieldIn) (maxL := 5) (ret := (some .int)) (by decide) rfl ?_
  intro p e s m args below meth c s₁ B hml hv
  obtain ⟨rfl, hP, hK, hE⟩ := hv
  have hx := B.exec
  have hb := B.bytes
  have hr := B.returns
  have hts := atoms_spec (ws := zwX0_fieldIn) B.pre
  have hown : s.vm.findClass RX0 = some m.cls := findClass_of_methodNamed B.named
  have hiX0 : ∀ w ∈ wsX00, w ∈ zwX0_fieldIn := (fun w hw => (List.mem_cons_of_mem _ (List.mem_append_right _ hw)))
  obtain ⟨hcc, hfcA, hmcA, herA, hliA, hlcA⟩ := hI
  have hm9 := hmcA ci
  have hl := lv_entry ([.ref bh, .int (nI ci), .long wo]) (n := 5) (Nat.le_of_ble_eq_true rfl)
  rw [lg_entry_eq]
  generalize (lg_sl ([.ref bh, .int (nI ci), .long wo]) ++ List.replicate (5 - (lg_sl ([.ref bh, .int (nI ci), .long wo])).length) Slot.unset).toArray = ls at hl ⊢
  have hl : lv_has ls 5 [(0, .ref bh), (1, .int (nI ci)), (2, .long wo)] := hl
  have J8 : ∀ (z8 : Nat) (sp : Nat) (ls : Array Slot), ci * 13 + mcA ci + 1 - sp < z8 → (sp ≤ ci * 13 + mcA ci + 1) → lv_has ls 5 [(0, .ref bh), (1, .int (nI ci)), (2, .long wo), (4, .int (nI sp))] → W p l e (headSpec zwX0_fieldIn { frames := 1, cells := 0, slots := 0, locals := 22 }).room s m (([.ref bh, .int (nI ci), .long wo] : List Value).toArray) below meth c s.heap [] 0 0 (MQ below (vp_Si (fun r => (zM r (fun k => k < 208)))) (([.ref bh, .int (nI ci), .long wo] : List Value).toArray) s 0 0 (fun _ => False)) (F0 m 8 ls []) := by
    intro z8
    induction z8 with
    | zero => intro sp ls h9; exact absurd h9 (Nat.not_lt_zero _)
    | succ z8 ih8 =>
      intro sp ls hm8 i8_0 hl
      refine lv_iload hx hb dX0_fieldIn_8 (lv_at hl 3 rfl) ?_
      refine lv_iload_n hx hb dX0_fieldIn_10 rfl (lv_at hl 1 rfl) ?_
      refine lv_bipush (v := 13) hx hb dX0_fieldIn_11 (by decide) ?_
      refine lv_imul hx hb dX0_fieldIn_13 ?_
      refine lv_topi (fun x1 ex1 => ?_)
      obtain rfl : x1 = nI (ci * 13) := by rw [ex1]; exact pk_mul (ci) (13)
      refine lv_aload_n hx hb dX0_fieldIn_14 rfl (lv_at hl 0 rfl) ?_
      refine va_get (D := (dC, dI)) (ci := 0) (v := .ref (br 6)) (C := RX0) (T := TX0) (N := 17) hx hb hts hiX0 hown hK hP 0 rfl rfl 6 (by decide) (hts (.fieldLink RX0 27 "LinkModels$Build" "memberCounts" "[I") (by decide +kernel)) (fun _ h9 => h9) rfl dX0_fieldIn_15 ?_
      refine lv_iload_n hx hb dX0_fieldIn_18 rfl (lv_at hl 1 rfl) ?_
      refine va_iald hx hb hK hP 6 0 rfl rfl (vp_in_nI (show ci < 16 by omega) (by decide)) dX0_fieldIn_19 ?_
      refine lv_topi (fun x2 ex2 => ?_)
      obtain rfl : x2 = nI (mcA ci) := by rw [ex2, nI_clamp (show ci < 2 ^ 31 by omega)]
      have hqx2 := hmcA ci
      refine lv_iadd hx hb dX0_fieldIn_20 ?_
      refine lv_topi (fun x3 ex3 => ?_)
      obtain rfl : x3 = nI ((ci * 13) + (mcA ci)) := by rw [ex3]; exact nI_add (ci * 13) (mcA ci)
      refine lv_icmp_gt (tgt := 56) hx hb dX0_fieldIn_21 (by decide) (fun cp21 => ?_) (fun cp21 => ?_)
      · have qcp21 : ((ci * 13) + (mcA ci)) < sp := (nI_ltI (a := (ci * 13) + (mcA ci)) (b := sp) (by omega) (by omega)).mp cp21
        refine lv_iconst (v := (-1)) hx hb dX0_fieldIn_56 (by decide) ?_
        exact W.iret (v := (-1 : Int32)) hx hb hr (fun t ht hW => ⟨(-1 : Int32), rfl, (Or.inl rfl), ht⟩) (fun _ h => by cases h) dX0_fieldIn_57
      · have qcp21 : ¬ ((ci * 13) + (mcA ci)) < sp := fun h9 => cp21 ((nI_ltI (a := (ci * 13) + (mcA ci)) (b := sp) (by omega) (by omega)).mpr h9)
        refine lv_aload_n hx hb dX0_fieldIn_24 rfl (lv_at hl 0 rfl) ?_
        refine va_get (D := (dC, dI)) (ci := 0) (v := .ref (br 8)) (C := RX0) (T := TX0) (N := 17) hx hb hts hiX0 hown hK hP 0 rfl rfl 8 (by decide) (hts (.fieldLink RX0 33 "LinkModels$Build" "words" "[J") (by decide +kernel)) (fun _ h9 => h9) rfl dX0_fieldIn_25 ?_
        refine lv_iload hx hb dX0_fieldIn_28 (lv_at hl 3 rfl) ?_
        refine va_lald hx hb hK hP 8 1 rfl rfl (vp_in_nI (show sp < 208 by omega) (by decide)) dX0_fieldIn_30 ?_
        refine lv_topl (fun x4 ex4 => ?_)
        refine lv_lload_n hx hb dX0_fieldIn_31 rfl (lv_at hl 2 rfl) ?_
        refine W.lcmp hx hb dX0_fieldIn_32 ?_
        refine lv_if_ne (tgt := 50) hx hb dX0_fieldIn_33 (by decide) (fun cp33 => ?_) (fun cp33 => ?_)
        · obtain ⟨x5, ex5⟩ : ∃ y : Int32, y = (nI sp) + 1 := ⟨_, rfl⟩
          refine lv_iinc (v := x5) (lv' := [(4, .int x5), (0, .ref bh), (1, .int (nI ci)), (2, .long wo)]) hx hb dX0_fieldIn_50 hl (k := 3) rfl (by rw [ex5]; rfl) (by decide) rfl (fun ls hl => ?_)
          obtain rfl : x5 = nI (sp + 1) := by rw [ex5]; exact nI_add (sp) 1
          refine lv_goto (tgt := 8) hx hb dX0_fieldIn_53 (by decide) ?_
          exact ih8 (sp + 1) ls (by omega) (by first | omega | assumption | trivial) (lv_sub hl [1, 2, 3, 0] rfl)
        · refine lv_aload_n hx hb dX0_fieldIn_36 rfl (lv_at hl 0 rfl) ?_
          refine lv_iload hx hb dX0_fieldIn_37 (lv_at hl 3 rfl) ?_
          refine lv_bipush (v := 16) hx hb dX0_fieldIn_39 (by decide) ?_
          refine vp_callSi (W.runV (As := [.int (nI sp), .int 16]) (rest := []) ⟨hx, hb, hml, hown, hts⟩ (kX0_has l dC dI bh br cI cJ cB cc nA mA aA fcA fA mcA mmA wA tcA g1A g2A nuA erA reA liA lcA ⟨by omega, hfcA, hmcA, herA, hliA, hlcA⟩ sp (16 : Int32) (by first | omega | assumption | trivial)) (cwV 2 hts zgX0_fieldIn_X0_has_82 rfl rfl rfl (by decide +kernel) ⟨(show 0 + 1 ≤ 1 by omega), (show 8 + (3 + 11) + 0 ≤ 22 by omega)⟩) (zVq (ci := 0) (q0 := 0) (q := (RX0, TX0, 17)) hK hP hE rfl rfl rfl) rfl rfl hl.1 rfl (lv_room (Nat.le_of_ble_eq_true rfl)) dX0_fieldIn_41 ⟨(show 0 + 0 ≤ 0 by omega), (show 0 + 0 ≤ 0 by omega)⟩) (fun r6 hw => ?_)
          have hw : (r6 = 0 ∨ r6 = 1) := hw
          have w0r6 := hw
          refine lv_if_ne (tgt := 50) hx hb dX0_fieldIn_44 (by decide) (fun cp44 => ?_) (fun cp44 => ?_)
          · obtain ⟨x7, ex7⟩ : ∃ y : Int32, y = (nI sp) + 1 := ⟨_, rfl⟩
            refine lv_iinc (v := x7) (lv' := [(4, .int x7), (0, .ref bh), (1, .int (nI ci)), (2, .long wo)]) hx hb dX0_fieldIn_50 hl (k := 3) rfl (by rw [ex7]; rfl) (by decide) rfl (fun ls hl => ?_)
            obtain rfl : x7 = nI (sp + 1) := by rw [ex7]; exact nI_add (sp) 1
            refine lv_goto (tgt := 8) hx hb dX0_fieldIn_53 (by decide) ?_
            exact ih8 (sp + 1) ls (by omega) (by first | omega | assumption | trivial) (lv_sub hl [1, 2, 3, 0] rfl)
          · refine lv_iload hx hb dX0_fieldIn_47 (lv_at hl 3 rfl) ?_
            exact W.iret (v := (nI sp)) hx hb hr (fun t ht hW => ⟨(nI sp), rfl, (zM.mk (by omega) (by first | trivial | omega | assumption | (refine ⟨?_, ?_⟩ <;> first | trivial | omega | assumption))), ht⟩) (fun _ h => by cases h) dX0_fieldIn_49
  refine lv_iload_n hx hb dX0_fieldIn_0 rfl (lv_at hl 1 rfl) ?_
  refine lv_bipush (v := 13) hx hb dX0_fieldIn_1 (by decide) ?_
  refine lv_imul hx hb dX0_fieldIn_3 ?_
  refine lv_topi (fun x8 ex8 => ?_)
  obtain rfl : x8 = nI (ci * 13) := by rw [ex8]; exact pk_mul (ci) (13)
  refine lv_iconst (v := 1) hx hb dX0_fieldIn_4 (by decide) ?_
  refine lv_iadd hx hb dX0_fieldIn_5 ?_
  refine lv_topi (fun x9 ex9 => ?_)
  obtain rfl : x9 = nI ((ci * 13) + 1) := by rw [ex9]; exact nI_add (ci * 13) (1)
  refine lv_istore (lv' := [(4, .int (nI ((ci * 13) + 1))), (0, .ref bh), (1, .int (nI ci)), (2, .long wo)]) hx hb dX0_fieldIn_6 hl (by decide) rfl (fun ls hl => ?_)
  exact J8 _ ((ci * 13) + 1) ls (Nat.lt_succ_self _) (by first | omega | assumption | trivial) (lv_sub hl [1, 2, 3, 0] rfl)
theorem dX0_methodIn_0 : decode cX0_methodIn 0 = .ok (.iload_n 1, 1) := by decide +kernel
theorem dX0_methodIn_1 : decode cX0_methodIn 1 = .ok (.bipush 13, 2) := by decide +kernel
theorem dX0_methodIn_3 : decode cX0_methodIn 3 = .ok (.imul, 1) := by decide +kernel
theorem dX0_methodIn_4 : decode cX0_methodIn 4 = .ok (.iconst 1, 1) := by decide +kernel
theorem dX0_methodIn_5 : decode cX0_methodIn 5 = .ok (.iadd, 1) := by decide +kernel
theorem dX0_methodIn_6 : decode cX0_methodIn 6 = .ok (.istore_n 3, 1) := by decide +kernel
theorem dX0_methodIn_7 : decode cX0_methodIn 7 = .ok (.iload_n 3, 1) := by decide +kernel
theorem dX0_methodIn_8 : decode cX0_methodIn 8 = .ok (.iload_n 1, 1) := by decide +kernel
theorem dX0_methodIn_9 : decode cX0_methodIn 9 = .ok (.bipush 13, 2) := by decide +kernel
theorem dX0_methodIn_11 : decode cX0_methodIn 11 = .ok (.imul, 1) := by decide +kernel
theorem dX0_methodIn_12 : decode cX0_methodIn 12 = .ok (.aload_n 0, 1) := by decide +kernel
theorem dX0_methodIn_13 : decode cX0_methodIn 13 = .ok (.getfield 27, 3) := by decide +kernel
theorem dX0_methodIn_16 : decode cX0_methodIn 16 = .ok (.iload_n 1, 1) := by decide +kernel
theorem dX0_methodIn_17 : decode cX0_methodIn 17 = .ok (.iaload, 1) := by decide +kernel
theorem dX0_methodIn_18 : decode cX0_methodIn 18 = .ok (.iadd, 1) := by decide +kernel
theorem dX0_methodIn_19 : decode cX0_methodIn 19 = .ok (.if_icmp .gt 88, 3) := by decide +kernel
theorem dX0_methodIn_22 : decode cX0_methodIn 22 = .ok (.aload_n 0, 1) := by decide +kernel
theorem dX0_methodIn_23 : decode cX0_methodIn 23 = .ok (.getfield 33, 3) := by decide +kernel
theorem dX0_methodIn_26 : decode cX0_methodIn 26 = .ok (.iload_n 3, 1) := by decide +kernel
theorem dX0_methodIn_27 : decode cX0_methodIn 27 = .ok (.laload, 1) := by decide +kernel
theorem dX0_methodIn_28 : decode cX0_methodIn 28 = .ok (.aload_n 2, 1) := by decide +kernel
theorem dX0_methodIn_29 : decode cX0_methodIn 29 = .ok (.getfield 65, 3) := by decide +kernel
theorem dX0_methodIn_32 : decode cX0_methodIn 32 = .ok (.lcmp, 1) := by decide +kernel
theorem dX0_methodIn_33 : decode cX0_methodIn 33 = .ok (.ifCond .ne 19, 3) := by decide +kernel
theorem dX0_methodIn_36 : decode cX0_methodIn 36 = .ok (.aload_n 0, 1) := by decide +kernel
theorem dX0_methodIn_37 : decode cX0_methodIn 37 = .ok (.getfield 30, 3) := by decide +kernel
theorem dX0_methodIn_40 : decode cX0_methodIn 40 = .ok (.iload_n 3, 1) := by decide +kernel
theorem dX0_methodIn_41 : decode cX0_methodIn 41 = .ok (.iaload, 1) := by decide +kernel
theorem dX0_methodIn_42 : decode cX0_methodIn 42 = .ok (.bipush 16, 2) := by decide +kernel
theorem dX0_methodIn_44 : decode cX0_methodIn 44 = .ok (.iand, 1) := by decide +kernel
theorem dX0_methodIn_45 : decode cX0_methodIn 45 = .ok (.ifCond .eq 7, 3) := by decide +kernel
theorem dX0_methodIn_48 : decode cX0_methodIn 48 = .ok (.iconst 1, 1) := by decide +kernel
theorem dX0_methodIn_49 : decode cX0_methodIn 49 = .ok (.goto 4, 3) := by decide +kernel
theorem dX0_methodIn_52 : decode cX0_methodIn 52 = .ok (.iconst 0, 1) := by decide +kernel
theorem dX0_methodIn_53 : decode cX0_methodIn 53 = .ok (.istore 4, 2) := by decide +kernel
theorem dX0_methodIn_55 : decode cX0_methodIn 55 = .ok (.iload 4, 2) := by decide +kernel
theorem dX0_methodIn_57 : decode cX0_methodIn 57 = .ok (.ifCond .eq 44, 3) := by decide +kernel
theorem dX0_methodIn_60 : decode cX0_methodIn 60 = .ok (.aload_n 0, 1) := by decide +kernel
theorem dX0_methodIn_61 : decode cX0_methodIn 61 = .ok (.getfield 37, 3) := by decide +kernel
theorem dX0_methodIn_64 : decode cX0_methodIn 64 = .ok (.iload_n 3, 1) := by decide +kernel
theorem dX0_methodIn_65 : decode cX0_methodIn 65 = .ok (.iaload, 1) := by decide +kernel
theorem dX0_methodIn_66 : decode cX0_methodIn 66 = .ok (.aload_n 2, 1) := by decide +kernel
theorem dX0_methodIn_67 : decode cX0_methodIn 67 = .ok (.getfield 71, 3) := by decide +kernel
theorem dX0_methodIn_70 : decode cX0_methodIn 70 = .ok (.if_icmp .ne 31, 3) := by decide +kernel
theorem dX0_methodIn_73 : decode cX0_methodIn 73 = .ok (.aload_n 0, 1) := by decide +kernel
theorem dX0_methodIn_74 : decode cX0_methodIn 74 = .ok (.getfield 40, 3) := by decide +kernel
theorem dX0_methodIn_77 : decode cX0_methodIn 77 = .ok (.iload_n 3, 1) := by decide +kernel
theorem dX0_methodIn_78 : decode cX0_methodIn 78 = .ok (.iaload, 1) := by decide +kernel
theorem dX0_methodIn_79 : decode cX0_methodIn 79 = .ok (.aload_n 2, 1) := by decide +kernel
theorem dX0_methodIn_80 : decode cX0_methodIn 80 = .ok (.getfield 74, 3) := by decide +kernel
theorem dX0_methodIn_83 : decode cX0_methodIn 83 = .ok (.if_icmp .ne 18, 3) := by decide +kernel
theorem dX0_methodIn_86 : decode cX0_methodIn 86 = .ok (.aload_n 0, 1) := by decide +kernel
theorem dX0_methodIn_87 : decode cX0_methodIn 87 = .ok (.getfield 43, 3) := by decide +kernel
theorem dX0_methodIn_90 : decode cX0_methodIn 90 = .ok (.iload_n 3, 1) := by decide +kernel
theorem dX0_methodIn_91 : decode cX0_methodIn 91 = .ok (.iaload, 1) := by decide +kernel
theorem dX0_methodIn_92 : decode cX0_methodIn 92 = .ok (.aload_n 2, 1) := by decide +kernel
theorem dX0_methodIn_93 : decode cX0_methodIn 93 = .ok (.getfield 77, 3) := by decide +kernel
theorem dX0_methodIn_96 : decode cX0_methodIn 96 = .ok (.if_icmp .ne 5, 3) := by decide +kernel
theorem dX0_methodIn_99 : decode cX0_methodIn 99 = .ok (.iload_n 3, 1) := by decide +kernel
theorem dX0_methodIn_100 : decode cX0_methodIn 100 = .ok (.ireturn, 1) := by decide +kernel
theorem dX0_methodIn_101 : decode cX0_methodIn 101 = .ok (.iinc 3 1, 3) := by decide +kernel
theorem dX0_methodIn_104 : decode cX0_methodIn 104 = .ok (.goto (-97), 3) := by decide +kernel
theorem dX0_methodIn_107 : decode cX0_methodIn 107 = .ok (.iconst (-1), 1) := by decide +kernel
theorem dX0_methodIn_108 : decode cX0_methodIn 108 = .ok (.ireturn, 1) := by decide +kernel
def zwX0_methodIn : List Cond := .code yX0_methodIn cX0_methodIn 5 (some .int) :: ([.fieldLink RX0 37 "LinkModels$Build" "typeCounts" "[I", .fieldLink RX0 71 "LinkModels$Signature" "typeCount" "I", .fieldLink RX0 40 "LinkModels$Build" "firsts" "[I", .fieldLink RX0 74 "LinkModels$Signature" "first" "I", .fieldLink RX0 43 "LinkModels$Build" "seconds" "[I", .fieldLink RX0 77 "LinkModels$Signature" "second" "I", .fieldLink RX0 27 "LinkModels$Build" "memberCounts" "[I", .fieldLink RX0 33 "LinkModels$Build" "words" "[J", .fieldLink RX0 65 "LinkModels$Signature" "word" "J", .fieldLink RX0 30 "LinkModels$Build" "memberMarks" "[I"] ++ wsX00 ++ wsX30)
set_option maxHeartbeats 4000000 in
set_option maxRecDepth 100000 in
theorem kX0_methodIn (l : Launch) (dC : Nat → ClassId) (dI : Nat → Nat → Nat) (bh : Nat) (br : Nat → Nat) (sg : Nat) (cI : ClassId) (cJ : ClassId) (cB : ClassId) (cc : Nat) (nA : Nat → Int32) (mA : Nat → Int32) (aA : Nat → Int32) (fcA : Nat → Nat) (fA : Nat → Int32) (mcA : Nat → Nat) (mmA : Nat → Int32) (wA : Nat → Int64) (tcA : Nat → Int32) (g1A : Nat → Int32) (g2A : Nat → Int32) (nuA : Nat → Int32) (erA : Nat → Nat) (reA : Nat → Int32) (liA : Nat → Nat) (lcA : Nat → Nat) (sw : Int64) (st : Int32) (sf : Int32) (sq : Int32) (hI : bsWI cc fcA mcA erA liA lcA) (ci : Nat) (hp0 : ci < 16) : Met l yX0_methodIn zwX0_methodIn ({ frames := 0, cells := 0, slots := 0, locals := 0 }) (zPq dC dI [.ref bh, .int (nI ci), .ref sg] (bsW bh br sg cI cJ cB (nI cc) nA mA aA (fun j => nI (fcA j)) fA (fun j => nI (mcA j)) mmA wA tcA g1A g2A nuA (fun j => nI (erA j)) reA (fun j => nI (liA j)) (fun j => nI (lcA j)) sw st sf sq) [(cI, .int), (cJ, .long), (cB, .byte)]) (vp_Si (fun r => (zM r (fun k => k < 208)))) 0 0 (fun _ => False) := by
  refine Met.ofW (cc := cX0_methodIn) (maxL := 5) (ret := (some .int)) (by decide) rfl ?_
  intro p e s m args below meth c s₁ B hml hv
  obtain ⟨rfl, hP, hK, hE⟩ := hv
  have hx := B.exec
  have hb := B.bytes
  have hr := B.returns
  have hts := atoms_spec (ws := zwX0_methodIn) B.pre
  have hown : s.vm.findClass RX0 = some m.cls := findClass_of_methodNamed B.named
  have hiX0 : ∀ w ∈ wsX00, w ∈ zwX0_methodIn := (fun w hw => (List.mem_cons_of_mem _ (List.mem_append_left _ (List.mem_append_right _ hw))))
  have hiX3 : ∀ w ∈ wsX30, w ∈ zwX0_methodIn := (fun w hw => (List.mem_cons_of_mem _ (List.mem_append_right _ hw)))
  obtain ⟨hcc, hfcA, hmcA, herA, hliA, hlcA⟩ := hI
  have hm9 := hmcA ci
  have hl := lv_entry ([.ref bh, .int (nI ci), .ref sg]) (n := 5) (Nat.le_of_ble_eq_true rfl)
  rw [lg_entry_eq]
  generalize (lg_sl ([.ref bh, .int (nI ci), .ref sg]) ++ List.replicate (5 - (lg_sl ([.ref bh, .int (nI ci), .ref sg])).length) Slot.unset).toArray = ls at hl ⊢
  have hl : lv_has ls 5 [(0, .ref bh), (1, .int (nI ci)), (2, .ref sg)] := hl
  have J7 : ∀ (z7 : Nat) (sp : Nat) (ls : Array Slot), ci * 13 + mcA ci + 1 - sp < z7 → (sp ≤ ci * 13 + mcA ci + 1) → lv_has ls 5 [(0, .ref bh), (1, .int (nI ci)), (2, .ref sg), (3, .int (nI sp))] → W p l e (headSpec zwX0_methodIn { frames := 0, cells := 0, slots := 0, locals := 0 }).room s m (([.ref bh, .int (nI ci), .ref sg] : List Value).toArray) below meth c s.heap [] 0 0 (MQ below (vp_Si (fun r => (zM r (fun k => k < 208)))) (([.ref bh, .int (nI ci), .ref sg] : List Value).toArray) s 0 0 (fun _ => False)) (F0 m 7 ls []) := by
    intro z7
    induction z7 with
    | zero => intro sp ls h9; exact absurd h9 (Nat.not_lt_zero _)
    | succ z7 ih7 =>
      intro sp ls hm7 i7_0 hl
      have J55 : ∀ (nd : Int32) (ls : Array Slot), (sp ≤ ci * 13 + mcA ci) → lv_has ls 5 [(0, .ref bh), (1, .int (nI ci)), (2, .ref sg), (3, .int (nI sp)), (4, .int nd)] → W p l e (headSpec zwX0_methodIn { frames := 0, cells := 0, slots := 0, locals := 0 }).room s m (([.ref bh, .int (nI ci), .ref sg] : List Value).toArray) below meth c s.heap [] 0 0 (MQ below (vp_Si (fun r => (zM r (fun k => k < 208)))) (([.ref bh, .int (nI ci), .ref sg] : List Value).toArray) s 0 0 (fun _ => False)) (F0 m 55 ls []) := by
        intro nd ls i55_0 hl
        refine lv_iload hx hb dX0_methodIn_55 (lv_at hl 4 rfl) ?_
        refine lv_if_eq (tgt := 101) hx hb dX0_methodIn_57 (by decide) (fun cp57 => ?_) (fun cp57 => ?_)
        · obtain ⟨x1, ex1⟩ : ∃ y : Int32, y = (nI sp) + 1 := ⟨_, rfl⟩
          refine lv_iinc (v := x1) (lv' := [(3, .int x1), (0, .ref bh), (1, .int (nI ci)), (2, .ref sg), (4, .int nd)]) hx hb dX0_methodIn_101 hl (k := 3) rfl (by rw [ex1]; rfl) (by decide) rfl (fun ls hl => ?_)
          obtain rfl : x1 = nI (sp + 1) := by rw [ex1]; exact nI_add (sp) 1
          refine lv_goto (tgt := 7) hx hb dX0_methodIn_104 (by decide) ?_
          exact ih7 (sp + 1) ls (by omega) (by first | omega | assumption | trivial) (lv_sub hl [1, 2, 3, 0] rfl)
        · refine lv_aload_n hx hb dX0_methodIn_60 rfl (lv_at hl 0 rfl) ?_
          refine va_get (D := (dC, dI)) (ci := 0) (v := .ref (br 9)) (C := RX0) (T := TX0) (N := 17) hx hb hts hiX0 hown hK hP 0 rfl rfl 9 (by decide) (hts (.fieldLink RX0 37 "LinkModels$Build" "typeCounts" "[I") (by decide +kernel)) (fun _ h9 => h9) rfl dX0_methodIn_61 ?_
          refine lv_iload_n hx hb dX0_methodIn_64 rfl (lv_at hl 3 rfl) ?_
          refine va_iald hx hb hK hP 9 0 rfl rfl (vp_in_nI (show sp < 208 by omega) (by decide)) dX0_methodIn_65 ?_
          refine lv_topi (fun x2 ex2 => ?_)
          obtain rfl : x2 = tcA sp := by rw [ex2, nI_clamp (show sp < 2 ^ 31 by omega)]
          refine lv_aload_n hx hb dX0_methodIn_66 rfl (lv_at hl 2 rfl) ?_
          refine va_get (D := (dC, dI)) (ci := 2) (v := .int st) (C := RX3) (T := TX3) (N := 4) hx hb hts hiX3 hown hK hP 17 rfl rfl 1 (by decide) (hts (.fieldLink RX0 71 "LinkModels$Signature" "typeCount" "I") (by decide +kernel)) (fun _ h9 => h9) rfl dX0_methodIn_67 ?_
          refine lv_icmp_ne (tgt := 101) hx hb dX0_methodIn_70 (by decide) (fun cp70 => ?_) (fun cp70 => ?_)
          · obtain ⟨x3, ex3⟩ : ∃ y : Int32, y = (nI sp) + 1 := ⟨_, rfl⟩
            refine lv_iinc (v := x3) (lv' := [(3, .int x3), (0, .ref bh), (1, .int (nI ci)), (2, .ref sg), (4, .int nd)]) hx hb dX0_methodIn_101 hl (k := 3) rfl (by rw [ex3]; rfl) (by decide) rfl (fun ls hl => ?_)
            obtain rfl : x3 = nI (sp + 1) := by rw [ex3]; exact nI_add (sp) 1
            refine lv_goto (tgt := 7) hx hb dX0_methodIn_104 (by decide) ?_
            exact ih7 (sp + 1) ls (by omega) (by first | omega | assumption | trivial) (lv_sub hl [1, 2, 3, 0] rfl)
          · refine lv_aload_n hx hb dX0_methodIn_73 rfl (lv_at hl 0 rfl) ?_
            refine va_get (D := (dC, dI)) (ci := 0) (v := .ref (br 10)) (C := RX0) (T := TX0) (N := 17) hx hb hts hiX0 hown hK hP 0 rfl rfl 10 (by decide) (hts (.fieldLink RX0 40 "LinkModels$Build" "firsts" "[I") (by decide +kernel)) (fun _ h9 => h9) rfl dX0_methodIn_74 ?_
            refine lv_iload_n hx hb dX0_methodIn_77 rfl (lv_at hl 3 rfl) ?_
            refine va_iald hx hb hK hP 10 0 rfl rfl (vp_in_nI (show sp < 208 by omega) (by decide)) dX0_methodIn_78 ?_
            refine lv_topi (fun x4 ex4 => ?_)
            obtain rfl : x4 = g1A sp := by rw [ex4, nI_clamp (show sp < 2 ^ 31 by omega)]
            refine lv_aload_n hx hb dX0_methodIn_79 rfl (lv_at hl 2 rfl) ?_
            refine va_get (D := (dC, dI)) (ci := 2) (v := .int sf) (C := RX3) (T := TX3) (N := 4) hx hb hts hiX3 hown hK hP 17 rfl rfl 2 (by decide) (hts (.fieldLink RX0 74 "LinkModels$Signature" "first" "I") (by decide +kernel)) (fun _ h9 => h9) rfl dX0_methodIn_80 ?_
            refine lv_icmp_ne (tgt := 101) hx hb dX0_methodIn_83 (by decide) (fun cp83 => ?_) (fun cp83 => ?_)
            · obtain ⟨x5, ex5⟩ : ∃ y : Int32, y = (nI sp) + 1 := ⟨_, rfl⟩
              refine lv_iinc (v := x5) (lv' := [(3, .int x5), (0, .ref bh), (1, .int (nI ci)), (2, .ref sg), (4, .int nd)]) hx hb dX0_methodIn_101 hl (k := 3) rfl (by rw [ex5]; rfl) (by decide) rfl (fun ls hl => ?_)
              obtain rfl : x5 = nI (sp + 1) := by rw [ex5]; exact nI_add (sp) 1
              refine lv_goto (tgt := 7) hx hb dX0_methodIn_104 (by decide) ?_
              exact ih7 (sp + 1) ls (by omega) (by first | omega | assumption | trivial) (lv_sub hl [1, 2, 3, 0] rfl)
            · refine lv_aload_n hx hb dX0_methodIn_86 rfl (lv_at hl 0 rfl) ?_
              refine va_get (D := (dC, dI)) (ci := 0) (v := .ref (br 11)) (C := RX0) (T := TX0) (N := 17) hx hb hts hiX0 hown hK hP 0 rfl rfl 11 (by decide) (hts (.fieldLink RX0 43 "LinkModels$Build" "seconds" "[I") (by decide +kernel)) (fun _ h9 => h9) rfl dX0_methodIn_87 ?_
              refine lv_iload_n hx hb dX0_methodIn_90 rfl (lv_at hl 3 rfl) ?_
              refine va_iald hx hb hK hP 11 0 rfl rfl (vp_in_nI (show sp < 208 by omega) (by decide)) dX0_methodIn_91 ?_
              refine lv_topi (fun x6 ex6 => ?_)
              obtain rfl : x6 = g2A sp := by rw [ex6, nI_clamp (show sp < 2 ^ 31 by omega)]
              refine lv_aload_n hx hb dX0_methodIn_92 rfl (lv_at hl 2 rfl) ?_
              refine va_get (D := (dC, dI)) (ci := 2) (v := .int sq) (C := RX3) (T := TX3) (N := 4) hx hb hts hiX3 hown hK hP 17 rfl rfl 3 (by decide) (hts (.fieldLink RX0 77 "LinkModels$Signature" "second" "I") (by decide +kernel)) (fun _ h9 => h9) rfl dX0_methodIn_93 ?_
              refine lv_icmp_ne (tgt := 101) hx hb dX0_methodIn_96 (by decide) (fun cp96 => ?_) (fun cp96 => ?_)
              · obtain ⟨x7, ex7⟩ : ∃ y : Int32, y = (nI sp) + 1 := ⟨_, rfl⟩
                refine lv_iinc (v := x7) (lv' := [(3, .int x7), (0, .ref bh), (1, .int (nI ci)), (2, .ref sg), (4, .int nd)]) hx hb dX0_methodIn_101 hl (k := 3) rfl (by rw [ex7]; rfl) (by decide) rfl (fun ls hl => ?_)
                obtain rfl : x7 = nI (sp + 1) := by rw [ex7]; exact nI_add (sp) 1
                refine lv_goto (tgt := 7) hx hb dX0_methodIn_104 (by decide) ?_
                exact ih7 (sp + 1) ls (by omega) (by first | omega | assumption | trivial) (lv_sub hl [1, 2, 3, 0] rfl)
              · refine lv_iload_n hx hb dX0_methodIn_99 rfl (lv_at hl 3 rfl) ?_
                exact W.iret (v := (nI sp)) hx hb hr (fun t ht hW => ⟨(nI sp), rfl, (zM.mk (by omega) (by first | trivial | omega | assumption | (refine ⟨?_, ?_⟩ <;> first | trivial | omega | assumption))), ht⟩) (fun _ h => by cases h) dX0_methodIn_100
      refine lv_iload_n hx hb dX0_methodIn_7 rfl (lv_at hl 3 rfl) ?_
      refine lv_iload_n hx hb dX0_methodIn_8 rfl (lv_at hl 1 rfl) ?_
      refine lv_bipush (v := 13) hx hb dX0_methodIn_9 (by decide) ?_
      refine lv_imul hx hb dX0_methodIn_11 ?_
      refine lv_topi (fun x8 ex8 => ?_)
      obtain rfl : x8 = nI (ci * 13) := by rw [ex8]; exact pk_mul (ci) (13)
      refine lv_aload_n hx hb dX0_methodIn_12 rfl (lv_at hl 0 rfl) ?_
      refine va_get (D := (dC, dI)) (ci := 0) (v := .ref (br 6)) (C := RX0) (T := TX0) (N := 17) hx hb hts hiX0 hown hK hP 0 rfl rfl 6 (by decide) (hts (.fieldLink RX0 27 "LinkModels$Build" "memberCounts" "[I") (by decide +kernel)) (fun _ h9 => h9) rfl dX0_methodIn_13 ?_
      refine lv_iload_n hx hb dX0_methodIn_16 rfl (lv_at hl 1 rfl) ?_
      refine va_iald hx hb hK hP 6 0 rfl rfl (vp_in_nI (show ci < 16 by omega) (by decide)) dX0_methodIn_17 ?_
      refine lv_topi (fun x9 ex9 => ?_)
      obtain rfl : x9 = nI (mcA ci) := by rw [ex9, nI_clamp (show ci < 2 ^ 31 by omega)]
      have hqx9 := hmcA ci
      refine lv_iadd hx hb dX0_methodIn_18 ?_
      refine lv_topi (fun x10 ex10 => ?_)
      obtain rfl : x10 = nI ((ci * 13) + (mcA ci)) := by rw [ex10]; exact nI_add (ci * 13) (mcA ci)
      refine lv_icmp_gt (tgt := 107) hx hb dX0_methodIn_19 (by decide) (fun cp19 => ?_) (fun cp19 => ?_)
      · have qcp19 : ((ci * 13) + (mcA ci)) < sp := (nI_ltI (a := (ci * 13) + (mcA ci)) (b := sp) (by omega) (by omega)).mp cp19
        refine lv_iconst (v := (-1)) hx hb dX0_methodIn_107 (by decide) ?_
        exact W.iret (v := (-1 : Int32)) hx hb hr (fun t ht hW => ⟨(-1 : Int32), rfl, (Or.inl rfl), ht⟩) (fun _ h => by cases h) dX0_methodIn_108
      · have qcp19 : ¬ ((ci * 13) + (mcA ci)) < sp := fun h9 => cp19 ((nI_ltI (a := (ci * 13) + (mcA ci)) (b := sp) (by omega) (by omega)).mpr h9)
        refine lv_aload_n hx hb dX0_methodIn_22 rfl (lv_at hl 0 rfl) ?_
        refine va_get (D := (dC, dI)) (ci := 0) (v := .ref (br 8)) (C := RX0) (T := TX0) (N := 17) hx hb hts hiX0 hown hK hP 0 rfl rfl 8 (by decide) (hts (.fieldLink RX0 33 "LinkModels$Build" "words" "[J") (by decide +kernel)) (fun _ h9 => h9) rfl dX0_methodIn_23 ?_
        refine lv_iload_n hx hb dX0_methodIn_26 rfl (lv_at hl 3 rfl) ?_
        refine va_lald hx hb hK hP 8 1 rfl rfl (vp_in_nI (show sp < 208 by omega) (by decide)) dX0_methodIn_27 ?_
        refine lv_topl (fun x11 ex11 => ?_)
        refine lv_aload_n hx hb dX0_methodIn_28 rfl (lv_at hl 2 rfl) ?_
        refine va_get (D := (dC, dI)) (ci := 2) (v := .long sw) (C := RX3) (T := TX3) (N := 4) hx hb hts hiX3 hown hK hP 17 rfl rfl 0 (by decide) (hts (.fieldLink RX0 65 "LinkModels$Signature" "word" "J") (by decide +kernel)) (fun _ h9 => h9) rfl dX0_methodIn_29 ?_
        refine W.lcmp hx hb dX0_methodIn_32 ?_
        refine lv_if_ne (tgt := 52) hx hb dX0_methodIn_33 (by decide) (fun cp33 => ?_) (fun cp33 => ?_)
        · refine lv_iconst (v := 0) hx hb dX0_methodIn_52 (by decide) ?_
          refine lv_istore (lv' := [(4, .int 0), (0, .ref bh), (1, .int (nI ci)), (2, .ref sg), (3, .int (nI sp))]) hx hb dX0_methodIn_53 hl (by decide) rfl (fun ls hl => ?_)
          exact J55 (0 : Int32) ls  (by first | omega | assumption | trivial) (lv_sub hl [1, 2, 3, 4, 0] rfl)
        · refine lv_aload_n hx hb dX0_methodIn_36 rfl (lv_at hl 0 rfl) ?_
          refine va_get (D := (dC, dI)) (ci := 0) (v := .ref (br 7)) (C := RX0) (T := TX0) (N := 17) hx hb hts hiX0 hown hK hP 0 rfl rfl 7 (by decide) (hts (.fieldLink RX0 30 "LinkModels$Build" "memberMarks" "[I") (by decide +kernel)) (fun _ h9 => h9) rfl dX0_methodIn_37 ?_
          refine lv_iload_n hx hb dX0_methodIn_40 rfl (lv_at hl 3 rfl) ?_
          refine va_iald hx hb hK hP 7 0 rfl rfl (vp_in_nI (show sp < 208 by omega) (by decide)) dX0_methodIn_41 ?_
          refine lv_topi (fun x12 ex12 => ?_)
          obtain rfl : x12 = mmA sp := by rw [ex12, nI_clamp (show sp < 2 ^ 31 by omega)]
          refine lv_bipush (v := 16) hx hb dX0_methodIn_42 (by decide) ?_
          refine lv_iand hx hb dX0_methodIn_44 ?_
          refine lv_topi (fun x13 ex13 => ?_)
          refine lv_if_eq (tgt := 52) hx hb dX0_methodIn_45 (by decide) (fun cp45 => ?_) (fun cp45 => ?_)
          · refine lv_iconst (v := 0) hx hb dX0_methodIn_52 (by decide) ?_
            refine lv_istore (lv' := [(4, .int 0), (0, .ref bh), (1, .int (nI ci)), (2, .ref sg), (3, .int (nI sp))]) hx hb dX0_methodIn_53 hl (by decide) rfl (fun ls hl => ?_)
            exact J55 (0 : Int32) ls  (by first | omega | assumption | trivial) (lv_sub hl [1, 2, 3, 4, 0] rfl)
          · refine lv_iconst (v := 1) hx hb dX0_methodIn_48 (by decide) ?_
            refine lv_goto (tgt := 53) hx hb dX0_methodIn_49 (by decide) ?_
            refine lv_istore (lv' := [(4, .int 1), (0, .ref bh), (1, .int (nI ci)), (2, .ref sg), (3, .int (nI sp))]) hx hb dX0_methodIn_53 hl (by decide) rfl (fun ls hl => ?_)
            exact J55 (1 : Int32) ls  (by first | omega | assumption | trivial) (lv_sub hl [1, 2, 3, 4, 0] rfl)
  refine lv_iload_n hx hb dX0_methodIn_0 rfl (lv_at hl 1 rfl) ?_
  refine lv_bipush (v := 13) hx hb dX0_methodIn_1 (by decide) ?_
  refine lv_imul hx hb dX0_methodIn_3 ?_
  refine lv_topi (fun x14 ex14 => ?_)
  obtain rfl : x14 = nI (ci * 13) := by rw [ex14]; exact pk_mul (ci) (13)
  refine lv_iconst (v := 1) hx hb dX0_methodIn_4 (by decide) ?_
  refine lv_iadd hx hb dX0_methodIn_5 ?_
  refine lv_topi (fun x15 ex15 => ?_)
  obtain rfl : x15 = nI ((ci * 13) + 1) := by rw [ex15]; exact nI_add (ci * 13) (1)
  refine lv_istore_n (lv' := [(3, .int (nI ((ci * 13) + 1))), (0, .ref bh), (1, .int (nI ci)), (2, .ref sg)]) hx hb dX0_methodIn_6 rfl hl (by decide) rfl (fun ls hl => ?_)
  exact J7 _ ((ci * 13) + 1) ls (Nat.lt_succ_self _) (by first | omega | assumption | trivial) (lv_sub hl [1, 2, 3, 0] rfl)
theorem dX0_fieldFrom_0 : decode cX0_fieldFrom 0 = .ok (.iconst 0, 1) := by decide +kernel
theorem dX0_fieldFrom_1 : decode cX0_fieldFrom 1 = .ok (.istore 4, 2) := by decide +kernel
theorem dX0_fieldFrom_3 : decode cX0_fieldFrom 3 = .ok (.iload 4, 2) := by decide +kernel
theorem dX0_fieldFrom_5 : decode cX0_fieldFrom 5 = .ok (.aload_n 0, 1) := by decide +kernel
theorem dX0_fieldFrom_6 : decode cX0_fieldFrom 6 = .ok (.getfield 58, 3) := by decide +kernel
theorem dX0_fieldFrom_9 : decode cX0_fieldFrom 9 = .ok (.iload_n 1, 1) := by decide +kernel
theorem dX0_fieldFrom_10 : decode cX0_fieldFrom 10 = .ok (.iaload, 1) := by decide +kernel
theorem dX0_fieldFrom_11 : decode cX0_fieldFrom 11 = .ok (.if_icmp .ge 37, 3) := by decide +kernel
theorem dX0_fieldFrom_14 : decode cX0_fieldFrom 14 = .ok (.aload_n 0, 1) := by decide +kernel
theorem dX0_fieldFrom_15 : decode cX0_fieldFrom 15 = .ok (.aload_n 0, 1) := by decide +kernel
theorem dX0_fieldFrom_16 : decode cX0_fieldFrom 16 = .ok (.getfield 55, 3) := by decide +kernel
theorem dX0_fieldFrom_19 : decode cX0_fieldFrom 19 = .ok (.iload_n 1, 1) := by decide +kernel
theorem dX0_fieldFrom_20 : decode cX0_fieldFrom 20 = .ok (.bipush 16, 2) := by decide +kernel
theorem dX0_fieldFrom_22 : decode cX0_fieldFrom 22 = .ok (.imul, 1) := by decide +kernel
theorem dX0_fieldFrom_23 : decode cX0_fieldFrom 23 = .ok (.iload 4, 2) := by decide +kernel
theorem dX0_fieldFrom_25 : decode cX0_fieldFrom 25 = .ok (.iadd, 1) := by decide +kernel
theorem dX0_fieldFrom_26 : decode cX0_fieldFrom 26 = .ok (.iaload, 1) := by decide +kernel
theorem dX0_fieldFrom_27 : decode cX0_fieldFrom 27 = .ok (.lload_n 2, 1) := by decide +kernel
theorem dX0_fieldFrom_28 : decode cX0_fieldFrom 28 = .ok (.invokevirtual 86, 3) := by decide +kernel
theorem dX0_fieldFrom_31 : decode cX0_fieldFrom 31 = .ok (.istore 5, 2) := by decide +kernel
theorem dX0_fieldFrom_33 : decode cX0_fieldFrom 33 = .ok (.iload 5, 2) := by decide +kernel
theorem dX0_fieldFrom_35 : decode cX0_fieldFrom 35 = .ok (.iconst (-1), 1) := by decide +kernel
theorem dX0_fieldFrom_36 : decode cX0_fieldFrom 36 = .ok (.if_icmp .eq 6, 3) := by decide +kernel
theorem dX0_fieldFrom_39 : decode cX0_fieldFrom 39 = .ok (.iload 5, 2) := by decide +kernel
theorem dX0_fieldFrom_41 : decode cX0_fieldFrom 41 = .ok (.ireturn, 1) := by decide +kernel
theorem dX0_fieldFrom_42 : decode cX0_fieldFrom 42 = .ok (.iinc 4 1, 3) := by decide +kernel
theorem dX0_fieldFrom_45 : decode cX0_fieldFrom 45 = .ok (.goto (-42), 3) := by decide +kernel
theorem dX0_fieldFrom_48 : decode cX0_fieldFrom 48 = .ok (.iconst (-1), 1) := by decide +kernel
theorem dX0_fieldFrom_49 : decode cX0_fieldFrom 49 = .ok (.ireturn, 1) := by decide +kernel
def zwX0_fieldFrom : List Cond := .code yX0_fieldFrom cX0_fieldFrom 6 (some .int) :: ([.fieldLink RX0 58 "LinkModels$Build" "lineCounts" "[I", .fieldLink RX0 55 "LinkModels$Build" "lines" "[I", .methodLink RX0 86 yX0_fieldIn, .instanceMethod yX0_fieldIn, .selects RX0 yX0_fieldIn yX0_fieldIn, .initialized RX0, .code yX0_fieldIn cX0_fieldIn 5 (some .int), .fieldLink RX0 27 "LinkModels$Build" "memberCounts" "[I", .fieldLink RX0 33 "LinkModels$Build" "words" "[J", .methodLink RX0 82 yX0_has, .instanceMethod yX0_has, .selects RX0 yX0_has yX0_has, .code yX0_has cX0_has 3 (some .boolean), .fieldLink RX0 30 "LinkModels$Build" "memberMarks" "[I"] ++ wsX00)
theorem zgX0_fieldFrom_X0_fieldIn_86 : GoodIn zwX0_fieldFrom (wsV RX0 86 RX0 yX0_fieldIn zwX0_fieldIn) := goodIn_app (goodIn_r _ [3, 4, 5, 6] rfl (by decide +kernel)) (goodIn_app (goodIn_r _ [7, 8, 9, 10, 11, 12, 6, 13, 14] rfl (by decide +kernel)) (fun w hw => ⟨(List.mem_cons_of_mem _ (List.mem_append_right _ hw)), good_of_word (List.all_eq_true.mp zgX0 w hw)⟩))
set_option maxHeartbeats 4000000 in
set_option maxRecDepth 100000 in
theorem kX0_fieldFrom (l : Launch) (dC : Nat → ClassId) (dI : Nat → Nat → Nat) (bh : Nat) (br : Nat → Nat) (cI : ClassId) (cJ : ClassId) (cB : ClassId) (cc : Nat) (nA : Nat → Int32) (mA : Nat → Int32) (aA : Nat → Int32) (fcA : Nat → Nat) (fA : Nat → Int32) (mcA : Nat → Nat) (mmA : Nat → Int32) (wA : Nat → Int64) (tcA : Nat → Int32) (g1A : Nat → Int32) (g2A : Nat → Int32) (nuA : Nat → Int32) (erA : Nat → Nat) (reA : Nat → Int32) (liA : Nat → Nat) (lcA : Nat → Nat) (hI : bWI cc fcA mcA erA liA lcA) (ci : Nat) (wo : Int64) (hp0 : ci < 16) : Met l yX0_fieldFrom zwX0_fieldFrom ({ frames := 2, cells := 0, slots := 0, locals := 46 }) (zPq dC dI [.ref bh, .int (nI ci), .long wo] (bW bh br cI cJ cB (nI cc) nA mA aA (fun j => nI (fcA j)) fA (fun j => nI (mcA j)) mmA wA tcA g1A g2A nuA (fun j => nI (erA j)) reA (fun j => nI (liA j)) (fun j => nI (lcA j))) [(cI, .int), (cJ, .long), (cB, .byte)]) (vp_Si (fun r => (zM r (fun k => k < 208)))) 0 0 (fun _ => False) := by
  refine Met.ofW (cc := cX0_fieldFrom) (maxL := 6) (ret := (some .int)) (by decide) rfl ?_
  intro p e s m args below meth c s₁ B hml hv
  obtain ⟨rfl, hP, hK, hE⟩ := hv
  have hx := B.exec
  have hb := B.bytes
  have hr := B.returns
  have hts := atoms_spec (ws := zwX0_fieldFrom) B.pre
  have hown : s.vm.findClass RX0 = some m.cls := findClass_of_methodNamed B.named
  have hiX0 : ∀ w ∈ wsX00, w ∈ zwX0_fieldFrom := (fun w hw => (List.mem_cons_of_mem _ (List.mem_append_right _ hw)))
  obtain ⟨hcc, hfcA, hmcA, herA, hliA, hlcA⟩ := hI
  have hl9 := hlcA ci
  have hl := lv_entry ([.ref bh, .int (nI ci), .long wo]) (n := 6) (Nat.le_of_ble_eq_true rfl)
  rw [lg_entry_eq]
  generalize (lg_sl ([.ref bh, .int (nI ci), .long wo]) ++ List.replicate (6 - (lg_sl ([.ref bh, .int (nI ci), .long wo])).length) Slot.unset).toArray = ls at hl ⊢
  have hl : lv_has ls 6 [(0, .ref bh), (1, .int (nI ci)), (2, .long wo)] := hl
  have J3 : ∀ (z3 : Nat) (ii : Nat) (ls : Array Slot), lcA ci - ii < z3 → (ii ≤ lcA ci) → lv_has ls 6 [(0, .ref bh), (1, .int (nI ci)), (2, .long wo), (4, .int (nI ii))] → W p l e (headSpec zwX0_fieldFrom { frames := 2, cells := 0, slots := 0, locals := 46 }).room s m (([.ref bh, .int (nI ci), .long wo] : List Value).toArray) below meth c s.heap [] 0 0 (MQ below (vp_Si (fun r => (zM r (fun k => k < 208)))) (([.ref bh, .int (nI ci), .long wo] : List Value).toArray) s 0 0 (fun _ => False)) (F0 m 3 ls []) := by
    intro z3
    induction z3 with
    | zero => intro ii ls h9; exact absurd h9 (Nat.not_lt_zero _)
    | succ z3 ih3 =>
      intro ii ls hm3 i3_0 hl
      refine lv_iload hx hb dX0_fieldFrom_3 (lv_at hl 3 rfl) ?_
      refine lv_aload_n hx hb dX0_fieldFrom_5 rfl (lv_at hl 0 rfl) ?_
      refine va_get (D := (dC, dI)) (ci := 0) (v := .ref (br 16)) (C := RX0) (T := TX0) (N := 17) hx hb hts hiX0 hown hK hP 0 rfl rfl 16 (by decide) (hts (.fieldLink RX0 58 "LinkModels$Build" "lineCounts" "[I") (by decide +kernel)) (fun _ h9 => h9) rfl dX0_fieldFrom_6 ?_
      refine lv_iload_n hx hb dX0_fieldFrom_9 rfl (lv_at hl 1 rfl) ?_
      refine va_iald hx hb hK hP 16 0 rfl rfl (vp_in_nI (show ci < 16 by omega) (by decide)) dX0_fieldFrom_10 ?_
      refine lv_topi (fun x1 ex1 => ?_)
      obtain rfl : x1 = nI (lcA ci) := by rw [ex1, nI_clamp (show ci < 2 ^ 31 by omega)]
      have hqx1 := hlcA ci
      refine lv_icmp_ge (tgt := 48) hx hb dX0_fieldFrom_11 (by decide) (fun cp11 => ?_) (fun cp11 => ?_)
      · have qcp11 : (lcA ci) ≤ ii := (nI_leI (a := lcA ci) (b := ii) (by omega) (by omega)).mp cp11
        refine lv_iconst (v := (-1)) hx hb dX0_fieldFrom_48 (by decide) ?_
        exact W.iret (v := (-1 : Int32)) hx hb hr (fun t ht hW => ⟨(-1 : Int32), rfl, (Or.inl rfl), ht⟩) (fun _ h => by cases h) dX0_fieldFrom_49
      · have qcp11 : ¬ (lcA ci) ≤ ii := fun h9 => cp11 ((nI_leI (a := lcA ci) (b := ii) (by omega) (by omega)).mpr h9)
        refine lv_aload_n hx hb dX0_fieldFrom_14 rfl (lv_at hl 0 rfl) ?_
        refine lv_aload_n hx hb dX0_fieldFrom_15 rfl (lv_at hl 0 rfl) ?_
        refine va_get (D := (dC, dI)) (ci := 0) (v := .ref (br 15)) (C := RX0) (T := TX0) (N := 17) hx hb hts hiX0 hown hK hP 0 rfl rfl 15 (by decide) (hts (.fieldLink RX0 55 "LinkModels$Build" "lines" "[I") (by decide +kernel)) (fun _ h9 => h9) rfl dX0_fieldFrom_16 ?_
        refine lv_iload_n hx hb dX0_fieldFrom_19 rfl (lv_at hl 1 rfl) ?_
        refine lv_bipush (v := 16) hx hb dX0_fieldFrom_20 (by decide) ?_
        refine lv_imul hx hb dX0_fieldFrom_22 ?_
        refine lv_topi (fun x2 ex2 => ?_)
        obtain rfl : x2 = nI (ci * 16) := by rw [ex2]; exact pk_mul (ci) (16)
        refine lv_iload hx hb dX0_fieldFrom_23 (lv_at hl 3 rfl) ?_
        refine lv_iadd hx hb dX0_fieldFrom_25 ?_
        refine lv_topi (fun x3 ex3 => ?_)
        obtain rfl : x3 = nI ((ci * 16) + ii) := by rw [ex3]; exact nI_add (ci * 16) (ii)
        refine va_iald hx hb hK hP 15 0 rfl rfl (vp_in_nI (show (ci * 16) + ii < 256 by omega) (by decide)) dX0_fieldFrom_26 ?_
        refine lv_topi (fun x4 ex4 => ?_)
        obtain rfl : x4 = nI (liA ((ci * 16) + ii)) := by rw [ex4, nI_clamp (show (ci * 16) + ii < 2 ^ 31 by omega)]
        have hqx4 := hliA ((ci * 16) + ii)
        refine lv_lload_n hx hb dX0_fieldFrom_27 rfl (lv_at hl 2 rfl) ?_
        refine vp_callSi (W.runV (As := [.int (nI (liA ((ci * 16) + ii))), .long wo]) (rest := []) ⟨hx, hb, hml, hown, hts⟩ (kX0_fieldIn l dC dI bh br cI cJ cB cc nA mA aA fcA fA mcA mmA wA tcA g1A g2A nuA erA reA liA lcA ⟨by omega, hfcA, hmcA, herA, hliA, hlcA⟩ (liA ((ci * 16) + ii)) wo (by first | omega | assumption | trivial)) (cwV 2 hts zgX0_fieldFrom_X0_fieldIn_86 rfl rfl rfl (by decide +kernel) ⟨(show 1 + 1 ≤ 2 by omega), (show 8 + (5 + 11) + 22 ≤ 46 by omega)⟩) (zVq (ci := 0) (q0 := 0) (q := (RX0, TX0, 17)) hK hP hE rfl rfl rfl) rfl rfl hl.1 rfl (lv_room (Nat.le_of_ble_eq_true rfl)) dX0_fieldFrom_28 ⟨(show 0 + 0 ≤ 0 by omega), (show 0 + 0 ≤ 0 by omega)⟩) (fun r5 hw => ?_)
        have hw : (zM r5 (fun k => k < 208)) := hw
        have w0r5 := hw
        refine lv_istore (lv' := [(5, .int r5), (0, .ref bh), (1, .int (nI ci)), (2, .long wo), (4, .int (nI ii))]) hx hb dX0_fieldFrom_31 hl (by decide) rfl (fun ls hl => ?_)
        refine lv_iload hx hb dX0_fieldFrom_33 (lv_at hl 0 rfl) ?_
        refine lv_iconst (v := (-1)) hx hb dX0_fieldFrom_35 (by decide) ?_
        refine lv_icmp_eq (tgt := 42) hx hb dX0_fieldFrom_36 (by decide) (fun cp36 => ?_) (fun cp36 => ?_)
        · obtain rfl : r5 = -1 := cp36
          obtain ⟨x6, ex6⟩ : ∃ y : Int32, y = (nI ii) + 1 := ⟨_, rfl⟩
          refine lv_iinc (v := x6) (lv' := [(4, .int x6), (5, .int (-1)), (0, .ref bh), (1, .int (nI ci)), (2, .long wo)]) hx hb dX0_fieldFrom_42 hl (k := 4) rfl (by rw [ex6]; rfl) (by decide) rfl (fun ls hl => ?_)
          obtain rfl : x6 = nI (ii + 1) := by rw [ex6]; exact nI_add (ii) 1
          refine lv_goto (tgt := 3) hx hb dX0_fieldFrom_45 (by decide) ?_
          exact ih3 (ii + 1) ls (by omega) (by first | omega | assumption | trivial) (lv_sub hl [2, 3, 4, 0] rfl)
        · obtain ⟨k7, hBk7, hQk7, rfl⟩ := w0r5.resolve_left cp36
          refine lv_iload hx hb dX0_fieldFrom_39 (lv_at hl 0 rfl) ?_
          exact W.iret (v := (nI k7)) hx hb hr (fun t ht hW => ⟨(nI k7), rfl, (zM.mk (by omega) (by first | trivial | omega | assumption | (refine ⟨?_, ?_⟩ <;> first | trivial | omega | assumption))), ht⟩) (fun _ h => by cases h) dX0_fieldFrom_41
  refine lv_iconst (v := 0) hx hb dX0_fieldFrom_0 (by decide) ?_
  refine lv_istore (lv' := [(4, .int 0), (0, .ref bh), (1, .int (nI ci)), (2, .long wo)]) hx hb dX0_fieldFrom_1 hl (by decide) rfl (fun ls hl => ?_)
  exact J3 _ 0 ls (Nat.lt_succ_self _) (by first | omega | assumption | trivial) (lv_sub hl [1, 2, 3, 0] rfl)
theorem dX0_methodFrom_0 : decode cX0_methodFrom 0 = .ok (.iconst 0, 1) := by decide +kernel
theorem dX0_methodFrom_1 : decode cX0_methodFrom 1 = .ok (.istore 4, 2) := by decide +kernel
theorem dX0_methodFrom_3 : decode cX0_methodFrom 3 = .ok (.iload 4, 2) := by decide +kernel
theorem dX0_methodFrom_5 : decode cX0_methodFrom 5 = .ok (.aload_n 0, 1) := by decide +kernel
theorem dX0_methodFrom_6 : decode cX0_methodFrom 6 = .ok (.getfield 58, 3) := by decide +kernel
theorem dX0_methodFrom_9 : decode cX0_methodFrom 9 = .ok (.iload_n 1, 1) := by decide +kernel
theorem dX0_methodFrom_10 : decode cX0_methodFrom 10 = .ok (.iaload, 1) := by decide +kernel
theorem dX0_methodFrom_11 : decode cX0_methodFrom 11 = .ok (.if_icmp .ge 70, 3) := by decide +kernel
theorem dX0_methodFrom_14 : decode cX0_methodFrom 14 = .ok (.aload_n 0, 1) := by decide +kernel
theorem dX0_methodFrom_15 : decode cX0_methodFrom 15 = .ok (.getfield 55, 3) := by decide +kernel
theorem dX0_methodFrom_18 : decode cX0_methodFrom 18 = .ok (.iload_n 1, 1) := by decide +kernel
theorem dX0_methodFrom_19 : decode cX0_methodFrom 19 = .ok (.bipush 16, 2) := by decide +kernel
theorem dX0_methodFrom_21 : decode cX0_methodFrom 21 = .ok (.imul, 1) := by decide +kernel
theorem dX0_methodFrom_22 : decode cX0_methodFrom 22 = .ok (.iload 4, 2) := by decide +kernel
theorem dX0_methodFrom_24 : decode cX0_methodFrom 24 = .ok (.iadd, 1) := by decide +kernel
theorem dX0_methodFrom_25 : decode cX0_methodFrom 25 = .ok (.iaload, 1) := by decide +kernel
theorem dX0_methodFrom_26 : decode cX0_methodFrom 26 = .ok (.istore 5, 2) := by decide +kernel
theorem dX0_methodFrom_28 : decode cX0_methodFrom 28 = .ok (.iload 5, 2) := by decide +kernel
theorem dX0_methodFrom_30 : decode cX0_methodFrom 30 = .ok (.iload_n 1, 1) := by decide +kernel
theorem dX0_methodFrom_31 : decode cX0_methodFrom 31 = .ok (.if_icmp .eq 12, 3) := by decide +kernel
theorem dX0_methodFrom_34 : decode cX0_methodFrom 34 = .ok (.aload_n 0, 1) := by decide +kernel
theorem dX0_methodFrom_35 : decode cX0_methodFrom 35 = .ok (.iload 5, 2) := by decide +kernel
theorem dX0_methodFrom_37 : decode cX0_methodFrom 37 = .ok (.invokevirtual 90, 3) := by decide +kernel
theorem dX0_methodFrom_40 : decode cX0_methodFrom 40 = .ok (.ifCond .ne 13, 3) := by decide +kernel
theorem dX0_methodFrom_43 : decode cX0_methodFrom 43 = .ok (.aload_n 0, 1) := by decide +kernel
theorem dX0_methodFrom_44 : decode cX0_methodFrom 44 = .ok (.iload 5, 2) := by decide +kernel
theorem dX0_methodFrom_46 : decode cX0_methodFrom 46 = .ok (.aload_n 2, 1) := by decide +kernel
theorem dX0_methodFrom_47 : decode cX0_methodFrom 47 = .ok (.invokevirtual 94, 3) := by decide +kernel
theorem dX0_methodFrom_50 : decode cX0_methodFrom 50 = .ok (.goto 4, 3) := by decide +kernel
theorem dX0_methodFrom_53 : decode cX0_methodFrom 53 = .ok (.iconst (-1), 1) := by decide +kernel
theorem dX0_methodFrom_54 : decode cX0_methodFrom 54 = .ok (.istore 6, 2) := by decide +kernel
theorem dX0_methodFrom_56 : decode cX0_methodFrom 56 = .ok (.iload 6, 2) := by decide +kernel
theorem dX0_methodFrom_58 : decode cX0_methodFrom 58 = .ok (.iconst (-1), 1) := by decide +kernel
theorem dX0_methodFrom_59 : decode cX0_methodFrom 59 = .ok (.if_icmp .eq 16, 3) := by decide +kernel
theorem dX0_methodFrom_62 : decode cX0_methodFrom 62 = .ok (.aload_n 0, 1) := by decide +kernel
theorem dX0_methodFrom_63 : decode cX0_methodFrom 63 = .ok (.iload 6, 2) := by decide +kernel
theorem dX0_methodFrom_65 : decode cX0_methodFrom 65 = .ok (.iload_n 3, 1) := by decide +kernel
theorem dX0_methodFrom_66 : decode cX0_methodFrom 66 = .ok (.invokevirtual 82, 3) := by decide +kernel
theorem dX0_methodFrom_69 : decode cX0_methodFrom 69 = .ok (.ifCond .ne 6, 3) := by decide +kernel
theorem dX0_methodFrom_72 : decode cX0_methodFrom 72 = .ok (.iload 6, 2) := by decide +kernel
theorem dX0_methodFrom_74 : decode cX0_methodFrom 74 = .ok (.ireturn, 1) := by decide +kernel
theorem dX0_methodFrom_75 : decode cX0_methodFrom 75 = .ok (.iinc 4 1, 3) := by decide +kernel
theorem dX0_methodFrom_78 : decode cX0_methodFrom 78 = .ok (.goto (-75), 3) := by decide +kernel
theorem dX0_methodFrom_81 : decode cX0_methodFrom 81 = .ok (.iconst (-1), 1) := by decide +kernel
theorem dX0_methodFrom_82 : decode cX0_methodFrom 82 = .ok (.ireturn, 1) := by decide +kernel
def zwX0_methodFrom : List Cond := .code yX0_methodFrom cX0_methodFrom 7 (some .int) :: ([.fieldLink RX0 58 "LinkModels$Build" "lineCounts" "[I", .fieldLink RX0 55 "LinkModels$Build" "lines" "[I", .methodLink RX0 82 yX0_has, .instanceMethod yX0_has, .selects RX0 yX0_has yX0_has, .initialized RX0, .code yX0_has cX0_has 3 (some .boolean), .fieldLink RX0 30 "LinkModels$Build" "memberMarks" "[I", .methodLink RX0 94 yX0_methodIn, .instanceMethod yX0_methodIn, .selects RX0 yX0_methodIn yX0_methodIn, .code yX0_methodIn cX0_methodIn 5 (some .int), .fieldLink RX0 37 "LinkModels$Build" "typeCounts" "[I", .fieldLink RX0 71 "LinkModels$Signature" "typeCount" "I", .fieldLink RX0 40 "LinkModels$Build" "firsts" "[I", .fieldLink RX0 74 "LinkModels$Signature" "first" "I", .fieldLink RX0 43 "LinkModels$Build" "seconds" "[I", .fieldLink RX0 77 "LinkModels$Signature" "second" "I", .fieldLink RX0 27 "LinkModels$Build" "memberCounts" "[I", .fieldLink RX0 33 "LinkModels$Build" "words" "[J", .fieldLink RX0 65 "LinkModels$Signature" "word" "J", .methodLink RX0 90 yX0_isFace, .instanceMethod yX0_isFace, .selects RX0 yX0_isFace yX0_isFace, .code yX0_isFace cX0_isFace 2 (some .boolean), .fieldLink RX0 15 "LinkModels$Build" "classMarks" "[I"] ++ wsX00 ++ wsX30)
theorem zgX0_methodFrom_X0_has_82 : GoodIn zwX0_methodFrom (wsV RX0 82 RX0 yX0_has zwX0_has) := goodIn_app (goodIn_r _ [3, 4, 5, 6] rfl (by decide +kernel)) (goodIn_app (goodIn_r _ [7, 8] rfl (by decide +kernel)) (fun w hw => ⟨(List.mem_cons_of_mem _ (List.mem_append_left _ (List.mem_append_right _ hw))), good_of_word (List.all_eq_true.mp zgX0 w hw)⟩))
theorem zgX0_methodFrom_X0_methodIn_94 : GoodIn zwX0_methodFrom (wsV RX0 94 RX0 yX0_methodIn zwX0_methodIn) := goodIn_app (goodIn_r _ [9, 10, 11, 6] rfl (by decide +kernel)) (goodIn_app (goodIn_app (goodIn_r _ [12, 13, 14, 15, 16, 17, 18, 19, 20, 21, 8] rfl (by decide +kernel)) (fun w hw => ⟨(List.mem_cons_of_mem _ (List.mem_append_left _ (List.mem_append_right _ hw))), good_of_word (List.all_eq_true.mp zgX0 w hw)⟩)) (fun w hw => ⟨(List.mem_cons_of_mem _ (List.mem_append_right _ hw)), good_of_word (List.all_eq_true.mp zgX3 w hw)⟩))
theorem zgX0_methodFrom_X0_isFace_90 : GoodIn zwX0_methodFrom (wsV RX0 90 RX0 yX0_isFace zwX0_isFace) := goodIn_app (goodIn_r _ [22, 23, 24, 6] rfl (by decide +kernel)) (goodIn_app (goodIn_r _ [25, 26] rfl (by decide +kernel)) (fun w hw => ⟨(List.mem_cons_of_mem _ (List.mem_append_left _ (List.mem_append_right _ hw))), good_of_word (List.all_eq_true.mp zgX0 w hw)⟩))
set_option maxHeartbeats 4000000 in
set_option maxRecDepth 100000 in
theorem kX0_methodFrom (l : Launch) (dC : Nat → ClassId) (dI : Nat → Nat → Nat) (bh : Nat) (br : Nat → Nat) (sg : Nat) (cI : ClassId) (cJ : ClassId) (cB : ClassId) (cc : Nat) (nA : Nat → Int32) (mA : Nat → Int32) (aA : Nat → Int32) (fcA : Nat → Nat) (fA : Nat → Int32) (mcA : Nat → Nat) (mmA : Nat → Int32) (wA : Nat → Int64) (tcA : Nat → Int32) (g1A : Nat → Int32) (g2A : Nat → Int32) (nuA : Nat → Int32) (erA : Nat → Nat) (reA : Nat → Int32) (liA : Nat → Nat) (lcA : Nat → Nat) (sw : Int64) (st : Int32) (sf : Int32) (sq : Int32) (hI : bsWI cc fcA mcA erA liA lcA) (ci : Nat) (wi : Int32) (hp0 : ci < 16) : Met l yX0_methodFrom zwX0_methodFrom ({ frames := 1, cells := 0, slots := 0, locals := 24 }) (zPq dC dI [.ref bh, .int (nI ci), .ref sg, .int wi] (bsW bh br sg cI cJ cB (nI cc) nA mA aA (fun j => nI (fcA j)) fA (fun j => nI (mcA j)) mmA wA tcA g1A g2A nuA (fun j => nI (erA j)) reA (fun j => nI (liA j)) (fun j => nI (lcA j)) sw st sf sq) [(cI, .int), (cJ, .long), (cB, .byte)]) (vp_Si (fun r => (zM r (fun k => k < 208)))) 0 0 (fun _ => False) := by
  refine Met.ofW (cc := cX0_methodFrom) (maxL := 7) (ret := (some .int)) (by decide) rfl ?_
  intro p e s m args below meth c s₁ B hml hv
  obtain ⟨rfl, hP, hK, hE⟩ := hv
  have hx := B.exec
  have hb := B.bytes
  have hr := B.returns
  have hts := atoms_spec (ws := zwX0_methodFrom) B.pre
  have hown : s.vm.findClass RX0 = some m.cls := findClass_of_methodNamed B.named
  have hiX0 : ∀ w ∈ wsX00, w ∈ zwX0_methodFrom := (fun w hw => (List.mem_cons_of_mem _ (List.mem_append_left _ (List.mem_append_right _ hw))))
  obtain ⟨hcc, hfcA, hmcA, herA, hliA, hlcA⟩ := hI
  have hl9 := hlcA ci
  have hl := lv_entry ([.ref bh, .int (nI ci), .ref sg, .int wi]) (n := 7) (Nat.le_of_ble_eq_true rfl)
  rw [lg_entry_eq]
  generalize (lg_sl ([.ref bh, .int (nI ci), .ref sg, .int wi]) ++ List.replicate (7 - (lg_sl ([.ref bh, .int (nI ci), .ref sg, .int wi])).length) Slot.unset).toArray = ls at hl ⊢
  have hl : lv_has ls 7 [(0, .ref bh), (1, .int (nI ci)), (2, .ref sg), (3, .int wi)] := hl
  have J3 : ∀ (z3 : Nat) (ii : Nat) (ls : Array Slot), lcA ci - ii < z3 → (ii ≤ lcA ci) → lv_has ls 7 [(0, .ref bh), (1, .int (nI ci)), (2, .ref sg), (3, .int wi), (4, .int (nI ii))] → W p l e (headSpec zwX0_methodFrom { frames := 1, cells := 0, slots := 0, locals := 24 }).room s m (([.ref bh, .int (nI ci), .ref sg, .int wi] : List Value).toArray) below meth c s.heap [] 0 0 (MQ below (vp_Si (fun r => (zM r (fun k => k < 208)))) (([.ref bh, .int (nI ci), .ref sg, .int wi] : List Value).toArray) s 0 0 (fun _ => False)) (F0 m 3 ls []) := by
    intro z3
    induction z3 with
    | zero => intro ii ls h9; exact absurd h9 (Nat.not_lt_zero _)
    | succ z3 ih3 =>
      intro ii ls hm3 i3_0 hl
      have J54 : ∀ (sp : Int32) (ls : Array Slot), (zM sp (fun k => k < 208)) → (ii < lcA ci) → lv_has ls 7 [(0, .ref bh), (1, .int (nI ci)), (2, .ref sg), (3, .int wi), (4, .int (nI ii))] → W p l e (headSpec zwX0_methodFrom { frames := 1, cells := 0, slots := 0, locals := 24 }).room s m (([.ref bh, .int (nI ci), .ref sg, .int wi] : List Value).toArray) below meth c s.heap [] 0 0 (MQ below (vp_Si (fun r => (zM r (fun k => k < 208)))) (([.ref bh, .int (nI ci), .ref sg, .int wi] : List Value).toArray) s 0 0 (fun _ => False)) (F0 m 54 ls [.int sp]) := by
        intro sp ls hm54_sp i54_0 hl
        refine lv_istore (lv' := [(6, .int sp), (0, .ref bh), (1, .int (nI ci)), (2, .ref sg), (3, .int wi), (4, .int (nI ii))]) hx hb dX0_methodFrom_54 hl (by decide) rfl (fun ls hl => ?_)
        refine lv_iload hx hb dX0_methodFrom_56 (lv_at hl 0 rfl) ?_
        refine lv_iconst (v := (-1)) hx hb dX0_methodFrom_58 (by decide) ?_
        refine lv_icmp_eq (tgt := 75) hx hb dX0_methodFrom_59 (by decide) (fun cp59 => ?_) (fun cp59 => ?_)
        · obtain rfl : sp = -1 := cp59
          obtain ⟨x1, ex1⟩ : ∃ y : Int32, y = (nI ii) + 1 := ⟨_, rfl⟩
          refine lv_iinc (v := x1) (lv' := [(4, .int x1), (6, .int (-1)), (0, .ref bh), (1, .int (nI ci)), (2, .ref sg), (3, .int wi)]) hx hb dX0_methodFrom_75 hl (k := 5) rfl (by rw [ex1]; rfl) (by decide) rfl (fun ls hl => ?_)
          obtain rfl : x1 = nI (ii + 1) := by rw [ex1]; exact nI_add (ii) 1
          refine lv_goto (tgt := 3) hx hb dX0_methodFrom_78 (by decide) ?_
          exact ih3 (ii + 1) ls (by omega) (by first | omega | assumption | trivial) (lv_sub hl [2, 3, 4, 5, 0] rfl)
        · obtain ⟨k2, hBk2, hQk2, rfl⟩ := hm54_sp.resolve_left cp59
          refine lv_aload_n hx hb dX0_methodFrom_62 rfl (lv_at hl 1 rfl) ?_
          refine lv_iload hx hb dX0_methodFrom_63 (lv_at hl 0 rfl) ?_
          refine lv_iload_n hx hb dX0_methodFrom_65 rfl (lv_at hl 4 rfl) ?_
          refine vp_callSi (W.runV (As := [.int (nI k2), .int wi]) (rest := []) ⟨hx, hb, hml, hown, hts⟩ (kX0_has l dC dI bh br cI cJ cB cc nA mA aA fcA fA mcA mmA wA tcA g1A g2A nuA erA reA liA lcA ⟨by omega, hfcA, hmcA, herA, hliA, hlcA⟩ k2 wi (by first | omega | assumption | trivial)) (cwV 2 hts zgX0_methodFrom_X0_has_82 rfl rfl rfl (by decide +kernel) ⟨(show 0 + 1 ≤ 1 by omega), (show 8 + (3 + 11) + 0 ≤ 24 by omega)⟩) (zVq (ci := 0) (q0 := 0) (q := (RX0, TX0, 17)) hK (hP.sub (ws' := (bW bh br cI cJ cB (nI cc) nA mA aA (fun j => nI (fcA j)) fA (fun j => nI (mcA j)) mmA wA tcA g1A g2A nuA (fun j => nI (erA j)) reA (fun j => nI (liA j)) (fun j => nI (lcA j)))) [0, 1, 2, 3, 4, 5, 6, 7, 8, 9, 10, 11, 12, 13, 14, 15, 16] rfl) hE rfl rfl rfl) rfl rfl hl.1 rfl (lv_room (Nat.le_of_ble_eq_true rfl)) dX0_methodFrom_66 ⟨(show 0 + 0 ≤ 0 by omega), (show 0 + 0 ≤ 0 by omega)⟩) (fun r3 hw => ?_)
          have hw : (r3 = 0 ∨ r3 = 1) := hw
          have w0r3 := hw
          refine lv_if_ne (tgt := 75) hx hb dX0_methodFrom_69 (by decide) (fun cp69 => ?_) (fun cp69 => ?_)
          · obtain ⟨x4, ex4⟩ : ∃ y : Int32, y = (nI ii) + 1 := ⟨_, rfl⟩
            refine lv_iinc (v := x4) (lv' := [(4, .int x4), (6, .int (nI k2)), (0, .ref bh), (1, .int (nI ci)), (2, .ref sg), (3, .int wi)]) hx hb dX0_methodFrom_75 hl (k := 5) rfl (by rw [ex4]; rfl) (by decide) rfl (fun ls hl => ?_)
            obtain rfl : x4 = nI (ii + 1) := by rw [ex4]; exact nI_add (ii) 1
            refine lv_goto (tgt := 3) hx hb dX0_methodFrom_78 (by decide) ?_
            exact ih3 (ii + 1) ls (by omega) (by first | omega | assumption | trivial) (lv_sub hl [2, 3, 4, 5, 0] rfl)
          · refine lv_iload hx hb dX0_methodFrom_72 (lv_at hl 0 rfl) ?_
            exact W.iret (v := (nI k2)) hx hb hr (fun t ht hW => ⟨(nI k2), rfl, (zM.mk (by omega) (by first | trivial | omega | assumption | (refine ⟨?_, ?_⟩ <;> first | trivial | omega | assumption))), ht⟩) (fun _ h => by cases h) dX0_methodFrom_74
      refine lv_iload hx hb dX0_methodFrom_3 (lv_at hl 4 rfl) ?_
      refine lv_aload_n hx hb dX0_methodFrom_5 rfl (lv_at hl 0 rfl) ?_
      refine va_get (D := (dC, dI)) (ci := 0) (v := .ref (br 16)) (C := RX0) (T := TX0) (N := 17) hx hb hts hiX0 hown hK hP 0 rfl rfl 16 (by decide) (hts (.fieldLink RX0 58 "LinkModels$Build" "lineCounts" "[I") (by decide +kernel)) (fun _ h9 => h9) rfl dX0_methodFrom_6 ?_
      refine lv_iload_n hx hb dX0_methodFrom_9 rfl (lv_at hl 1 rfl) ?_
      refine va_iald hx hb hK hP 16 0 rfl rfl (vp_in_nI (show ci < 16 by omega) (by decide)) dX0_methodFrom_10 ?_
      refine lv_topi (fun x5 ex5 => ?_)
      obtain rfl : x5 = nI (lcA ci) := by rw [ex5, nI_clamp (show ci < 2 ^ 31 by omega)]
      have hqx5 := hlcA ci
      refine lv_icmp_ge (tgt := 81) hx hb dX0_methodFrom_11 (by decide) (fun cp11 => ?_) (fun cp11 => ?_)
      · have qcp11 : (lcA ci) ≤ ii := (nI_leI (a := lcA ci) (b := ii) (by omega) (by omega)).mp cp11
        refine lv_iconst (v := (-1)) hx hb dX0_methodFrom_81 (by decide) ?_
        exact W.iret (v := (-1 : Int32)) hx hb hr (fun t ht hW => ⟨(-1 : Int32), rfl, (Or.inl rfl), ht⟩) (fun _ h => by cases h) dX0_methodFrom_82
      · have qcp11 : ¬ (lcA ci) ≤ ii := fun h9 => cp11 ((nI_leI (a := lcA ci) (b := ii) (by omega) (by omega)).mpr h9)
        refine lv_aload_n hx hb dX0_methodFrom_14 rfl (lv_at hl 0 rfl) ?_
        refine va_get (D := (dC, dI)) (ci := 0) (v := .ref (br 15)) (C := RX0) (T := TX0) (N := 17) hx hb hts hiX0 hown hK hP 0 rfl rfl 15 (by decide) (hts (.fieldLink RX0 55 "LinkModels$Build" "lines" "[I") (by decide +kernel)) (fun _ h9 => h9) rfl dX0_methodFrom_15 ?_
        refine lv_iload_n hx hb dX0_methodFrom_18 rfl (lv_at hl 1 rfl) ?_
        refine lv_bipush (v := 16) hx hb dX0_methodFrom_19 (by decide) ?_
        refine lv_imul hx hb dX0_methodFrom_21 ?_
        refine lv_topi (fun x6 ex6 => ?_)
        obtain rfl : x6 = nI (ci * 16) := by rw [ex6]; exact pk_mul (ci) (16)
        refine lv_iload hx hb dX0_methodFrom_22 (lv_at hl 4 rfl) ?_
        refine lv_iadd hx hb dX0_methodFrom_24 ?_
        refine lv_topi (fun x7 ex7 => ?_)
        obtain rfl : x7 = nI ((ci * 16) + ii) := by rw [ex7]; exact nI_add (ci * 16) (ii)
        refine va_iald hx hb hK hP 15 0 rfl rfl (vp_in_nI (show (ci * 16) + ii < 256 by omega) (by decide)) dX0_methodFrom_25 ?_
        refine lv_topi (fun x8 ex8 => ?_)
        obtain rfl : x8 = nI (liA ((ci * 16) + ii)) := by rw [ex8, nI_clamp (show (ci * 16) + ii < 2 ^ 31 by omega)]
        have hqx8 := hliA ((ci * 16) + ii)
        refine lv_istore (lv' := [(5, .int (nI (liA ((ci * 16) + ii)))), (0, .ref bh), (1, .int (nI ci)), (2, .ref sg), (3, .int wi), (4, .int (nI ii))]) hx hb dX0_methodFrom_26 hl (by decide) rfl (fun ls hl => ?_)
        refine lv_iload hx hb dX0_methodFrom_28 (lv_at hl 0 rfl) ?_
        refine lv_iload_n hx hb dX0_methodFrom_30 rfl (lv_at hl 2 rfl) ?_
        refine lv_icmp_eq (tgt := 43) hx hb dX0_methodFrom_31 (by decide) (fun cp31 => ?_) (fun cp31 => ?_)
        · have qcp31 : (liA ((ci * 16) + ii)) = ci := (nI_eq (a := liA ((ci * 16) + ii)) (b := ci) (by omega) (by omega)).mp cp31
          refine lv_aload_n hx hb dX0_methodFrom_43 rfl (lv_at hl 1 rfl) ?_
          refine lv_iload hx hb dX0_methodFrom_44 (lv_at hl 0 rfl) ?_
          refine lv_aload_n hx hb dX0_methodFrom_46 rfl (lv_at hl 3 rfl) ?_
          refine vp_callSi (W.runV (As := [.int (nI (liA ((ci * 16) + ii))), .ref sg]) (rest := []) ⟨hx, hb, hml, hown, hts⟩ (kX0_methodIn l dC dI bh br sg cI cJ cB cc nA mA aA fcA fA mcA mmA wA tcA g1A g2A nuA erA reA liA lcA sw st sf sq ⟨by omega, hfcA, hmcA, herA, hliA, hlcA⟩ (liA ((ci * 16) + ii)) (by first | omega | assumption | trivial)) (cwV 2 hts zgX0_methodFrom_X0_methodIn_94 rfl rfl rfl (by decide +kernel) ⟨(show 0 + 1 ≤ 1 by omega), (show 8 + (5 + 11) + 0 ≤ 24 by omega)⟩) (zVq (ci := 0) (q0 := 0) (q := (RX0, TX0, 17)) hK hP hE rfl rfl rfl) rfl rfl hl.1 rfl (lv_room (Nat.le_of_ble_eq_true rfl)) dX0_methodFrom_47 ⟨(show 0 + 0 ≤ 0 by omega), (show 0 + 0 ≤ 0 by omega)⟩) (fun r9 hw => ?_)
          have hw : (zM r9 (fun k => k < 208)) := hw
          have w0r9 := hw
          refine lv_goto (tgt := 54) hx hb dX0_methodFrom_50 (by decide) ?_
          exact J54 r9 ls  (zM.imp w0r9 (fun k hk hq => by first | exact hq | trivial | omega)) (by first | omega | assumption | trivial) (lv_sub hl [1, 2, 3, 4, 5] rfl)
        · have qcp31 : ¬ (liA ((ci * 16) + ii)) = ci := fun h9 => cp31 ((nI_eq (a := liA ((ci * 16) + ii)) (b := ci) (by omega) (by omega)).mpr h9)
          refine lv_aload_n hx hb dX0_methodFrom_34 rfl (lv_at hl 1 rfl) ?_
          refine lv_iload hx hb dX0_methodFrom_35 (lv_at hl 0 rfl) ?_
          refine vp_callSi (W.runV (As := [.int (nI (liA ((ci * 16) + ii)))]) (rest := []) ⟨hx, hb, hml, hown, hts⟩ (kX0_isFace l dC dI bh br cI cJ cB cc nA mA aA fcA fA mcA mmA wA tcA g1A g2A nuA erA reA liA lcA ⟨by omega, hfcA, hmcA, herA, hliA, hlcA⟩ (liA ((ci * 16) + ii)) (by first | omega | assumption | trivial)) (cwV 1 hts zgX0_methodFrom_X0_isFace_90 rfl rfl rfl (by decide +kernel) ⟨(show 0 + 1 ≤ 1 by omega), (show 8 + (2 + 11) + 0 ≤ 24 by omega)⟩) (zVq (ci := 0) (q0 := 0) (q := (RX0, TX0, 17)) hK (hP.sub (ws' := (bW bh br cI cJ cB (nI cc) nA mA aA (fun j => nI (fcA j)) fA (fun j => nI (mcA j)) mmA wA tcA g1A g2A nuA (fun j => nI (erA j)) reA (fun j => nI (liA j)) (fun j => nI (lcA j)))) [0, 1, 2, 3, 4, 5, 6, 7, 8, 9, 10, 11, 12, 13, 14, 15, 16] rfl) hE rfl rfl rfl) rfl rfl hl.1 rfl (lv_room (Nat.le_of_ble_eq_true rfl)) dX0_methodFrom_37 ⟨(show 0 + 0 ≤ 0 by omega), (show 0 + 0 ≤ 0 by omega)⟩) (fun r10 hw => ?_)
          have hw : (r10 = 0 ∨ r10 = 1) := hw
          have w0r10 := hw
          refine lv_if_ne (tgt := 53) hx hb dX0_methodFrom_40 (by decide) (fun cp40 => ?_) (fun cp40 => ?_)
          · refine lv_iconst (v := (-1)) hx hb dX0_methodFrom_53 (by decide) ?_
            exact J54 (-1 : Int32) ls  (Or.inl rfl) (by first | omega | assumption | trivial) (lv_sub hl [1, 2, 3, 4, 5] rfl)
          · refine lv_aload_n hx hb dX0_methodFrom_43 rfl (lv_at hl 1 rfl) ?_
            refine lv_iload hx hb dX0_methodFrom_44 (lv_at hl 0 rfl) ?_
            refine lv_aload_n hx hb dX0_methodFrom_46 rfl (lv_at hl 3 rfl) ?_
            refine vp_callSi (W.runV (As := [.int (nI (liA ((ci * 16) + ii))), .ref sg]) (rest := []) ⟨hx, hb, hml, hown, hts⟩ (kX0_methodIn l dC dI bh br sg cI cJ cB cc nA mA aA fcA fA mcA mmA wA tcA g1A g2A nuA erA reA liA lcA sw st sf sq ⟨by omega, hfcA, hmcA, herA, hliA, hlcA⟩ (liA ((ci * 16) + ii)) (by first | omega | assumption | trivial)) (cwV 2 hts zgX0_methodFrom_X0_methodIn_94 rfl rfl rfl (by decide +kernel) ⟨(show 0 + 1 ≤ 1 by omega), (show 8 + (5 + 11) + 0 ≤ 24 by omega)⟩) (zVq (ci := 0) (q0 := 0) (q := (RX0, TX0, 17)) hK hP hE rfl rfl rfl) rfl rfl hl.1 rfl (lv_room (Nat.le_of_ble_eq_true rfl)) dX0_methodFrom_47 ⟨(show 0 + 0 ≤ 0 by omega), (show 0 + 0 ≤ 0 by omega)⟩) (fun r11 hw => ?_)
            have hw : (zM r11 (fun k => k < 208)) := hw
            have w0r11 := hw
            refine lv_goto (tgt := 54) hx hb dX0_methodFrom_50 (by decide) ?_
            exact J54 r11 ls  (zM.imp w0r11 (fun k hk hq => by first | exact hq | trivial | omega)) (by first | omega | assumption | trivial) (lv_sub hl [1, 2, 3, 4, 5] rfl)
  refine lv_iconst (v := 0) hx hb dX0_methodFrom_0 (by decide) ?_
  refine lv_istore (lv' := [(4, .int 0), (0, .ref bh), (1, .int (nI ci)), (2, .ref sg), (3, .int wi)]) hx hb dX0_methodFrom_1 hl (by decide) rfl (fun ls hl => ?_)
  exact J3 _ 0 ls (Nat.lt_succ_self _) (by first | omega | assumption | trivial) (lv_sub hl [1, 2, 3, 4, 0] rfl)
theorem dX0_nearestFaces_0 : decode cX0_nearestFaces 0 = .ok (.iconst 0, 1) := by decide +kernel
theorem dX0_nearestFaces_1 : decode cX0_nearestFaces 1 = .ok (.istore_n 3, 1) := by decide +kernel
theorem dX0_nearestFaces_2 : decode cX0_nearestFaces 2 = .ok (.iconst 0, 1) := by decide +kernel
theorem dX0_nearestFaces_3 : decode cX0_nearestFaces 3 = .ok (.istore 4, 2) := by decide +kernel
theorem dX0_nearestFaces_5 : decode cX0_nearestFaces 5 = .ok (.iload 4, 2) := by decide +kernel
theorem dX0_nearestFaces_7 : decode cX0_nearestFaces 7 = .ok (.aload_n 0, 1) := by decide +kernel
theorem dX0_nearestFaces_8 : decode cX0_nearestFaces 8 = .ok (.getfield 58, 3) := by decide +kernel
theorem dX0_nearestFaces_11 : decode cX0_nearestFaces 11 = .ok (.iload_n 1, 1) := by decide +kernel
theorem dX0_nearestFaces_12 : decode cX0_nearestFaces 12 = .ok (.iaload, 1) := by decide +kernel
theorem dX0_nearestFaces_13 : decode cX0_nearestFaces 13 = .ok (.if_icmp .ge 68, 3) := by decide +kernel
theorem dX0_nearestFaces_16 : decode cX0_nearestFaces 16 = .ok (.aload_n 0, 1) := by decide +kernel
theorem dX0_nearestFaces_17 : decode cX0_nearestFaces 17 = .ok (.getfield 55, 3) := by decide +kernel
theorem dX0_nearestFaces_20 : decode cX0_nearestFaces 20 = .ok (.iload_n 1, 1) := by decide +kernel
theorem dX0_nearestFaces_21 : decode cX0_nearestFaces 21 = .ok (.bipush 16, 2) := by decide +kernel
theorem dX0_nearestFaces_23 : decode cX0_nearestFaces 23 = .ok (.imul, 1) := by decide +kernel
theorem dX0_nearestFaces_24 : decode cX0_nearestFaces 24 = .ok (.iload 4, 2) := by decide +kernel
theorem dX0_nearestFaces_26 : decode cX0_nearestFaces 26 = .ok (.iadd, 1) := by decide +kernel
theorem dX0_nearestFaces_27 : decode cX0_nearestFaces 27 = .ok (.iaload, 1) := by decide +kernel
theorem dX0_nearestFaces_28 : decode cX0_nearestFaces 28 = .ok (.istore 5, 2) := by decide +kernel
theorem dX0_nearestFaces_30 : decode cX0_nearestFaces 30 = .ok (.aload_n 0, 1) := by decide +kernel
theorem dX0_nearestFaces_31 : decode cX0_nearestFaces 31 = .ok (.iload 5, 2) := by decide +kernel
theorem dX0_nearestFaces_33 : decode cX0_nearestFaces 33 = .ok (.invokevirtual 90, 3) := by decide +kernel
theorem dX0_nearestFaces_36 : decode cX0_nearestFaces 36 = .ok (.ifCond .eq 13, 3) := by decide +kernel
theorem dX0_nearestFaces_39 : decode cX0_nearestFaces 39 = .ok (.aload_n 0, 1) := by decide +kernel
theorem dX0_nearestFaces_40 : decode cX0_nearestFaces 40 = .ok (.iload 5, 2) := by decide +kernel
theorem dX0_nearestFaces_42 : decode cX0_nearestFaces 42 = .ok (.aload_n 2, 1) := by decide +kernel
theorem dX0_nearestFaces_43 : decode cX0_nearestFaces 43 = .ok (.invokevirtual 94, 3) := by decide +kernel
theorem dX0_nearestFaces_46 : decode cX0_nearestFaces 46 = .ok (.goto 4, 3) := by decide +kernel
theorem dX0_nearestFaces_49 : decode cX0_nearestFaces 49 = .ok (.iconst (-1), 1) := by decide +kernel
theorem dX0_nearestFaces_50 : decode cX0_nearestFaces 50 = .ok (.istore 6, 2) := by decide +kernel
theorem dX0_nearestFaces_52 : decode cX0_nearestFaces 52 = .ok (.iload 6, 2) := by decide +kernel
theorem dX0_nearestFaces_54 : decode cX0_nearestFaces 54 = .ok (.iconst (-1), 1) := by decide +kernel
theorem dX0_nearestFaces_55 : decode cX0_nearestFaces 55 = .ok (.if_icmp .eq 20, 3) := by decide +kernel
theorem dX0_nearestFaces_58 : decode cX0_nearestFaces 58 = .ok (.aload_n 0, 1) := by decide +kernel
theorem dX0_nearestFaces_59 : decode cX0_nearestFaces 59 = .ok (.iload 6, 2) := by decide +kernel
theorem dX0_nearestFaces_61 : decode cX0_nearestFaces 61 = .ok (.iconst 3, 1) := by decide +kernel
theorem dX0_nearestFaces_62 : decode cX0_nearestFaces 62 = .ok (.invokevirtual 82, 3) := by decide +kernel
theorem dX0_nearestFaces_65 : decode cX0_nearestFaces 65 = .ok (.ifCond .ne 10, 3) := by decide +kernel
theorem dX0_nearestFaces_68 : decode cX0_nearestFaces 68 = .ok (.iload_n 3, 1) := by decide +kernel
theorem dX0_nearestFaces_69 : decode cX0_nearestFaces 69 = .ok (.iconst 1, 1) := by decide +kernel
theorem dX0_nearestFaces_70 : decode cX0_nearestFaces 70 = .ok (.iload 5, 2) := by decide +kernel
theorem dX0_nearestFaces_72 : decode cX0_nearestFaces 72 = .ok (.ishl, 1) := by decide +kernel
theorem dX0_nearestFaces_73 : decode cX0_nearestFaces 73 = .ok (.ior, 1) := by decide +kernel
theorem dX0_nearestFaces_74 : decode cX0_nearestFaces 74 = .ok (.istore_n 3, 1) := by decide +kernel
theorem dX0_nearestFaces_75 : decode cX0_nearestFaces 75 = .ok (.iinc 4 1, 3) := by decide +kernel
theorem dX0_nearestFaces_78 : decode cX0_nearestFaces 78 = .ok (.goto (-73), 3) := by decide +kernel
theorem dX0_nearestFaces_81 : decode cX0_nearestFaces 81 = .ok (.iload_n 3, 1) := by decide +kernel
theorem dX0_nearestFaces_82 : decode cX0_nearestFaces 82 = .ok (.istore 4, 2) := by decide +kernel
theorem dX0_nearestFaces_84 : decode cX0_nearestFaces 84 = .ok (.iconst 0, 1) := by decide +kernel
theorem dX0_nearestFaces_85 : decode cX0_nearestFaces 85 = .ok (.istore 5, 2) := by decide +kernel
theorem dX0_nearestFaces_87 : decode cX0_nearestFaces 87 = .ok (.iload 5, 2) := by decide +kernel
theorem dX0_nearestFaces_89 : decode cX0_nearestFaces 89 = .ok (.aload_n 0, 1) := by decide +kernel
theorem dX0_nearestFaces_90 : decode cX0_nearestFaces 90 = .ok (.getfield 61, 3) := by decide +kernel
theorem dX0_nearestFaces_93 : decode cX0_nearestFaces 93 = .ok (.if_icmp .ge 33, 3) := by decide +kernel
theorem dX0_nearestFaces_96 : decode cX0_nearestFaces 96 = .ok (.iload_n 3, 1) := by decide +kernel
theorem dX0_nearestFaces_97 : decode cX0_nearestFaces 97 = .ok (.iload 5, 2) := by decide +kernel
theorem dX0_nearestFaces_99 : decode cX0_nearestFaces 99 = .ok (.ishr, 1) := by decide +kernel
theorem dX0_nearestFaces_100 : decode cX0_nearestFaces 100 = .ok (.iconst 1, 1) := by decide +kernel
theorem dX0_nearestFaces_101 : decode cX0_nearestFaces 101 = .ok (.iand, 1) := by decide +kernel
theorem dX0_nearestFaces_102 : decode cX0_nearestFaces 102 = .ok (.iconst 1, 1) := by decide +kernel
theorem dX0_nearestFaces_103 : decode cX0_nearestFaces 103 = .ok (.if_icmp .ne 17, 3) := by decide +kernel
theorem dX0_nearestFaces_106 : decode cX0_nearestFaces 106 = .ok (.iload 4, 2) := by decide +kernel
theorem dX0_nearestFaces_108 : decode cX0_nearestFaces 108 = .ok (.aload_n 0, 1) := by decide +kernel
theorem dX0_nearestFaces_109 : decode cX0_nearestFaces 109 = .ok (.getfield 52, 3) := by decide +kernel
theorem dX0_nearestFaces_112 : decode cX0_nearestFaces 112 = .ok (.iload 5, 2) := by decide +kernel
theorem dX0_nearestFaces_114 : decode cX0_nearestFaces 114 = .ok (.iaload, 1) := by decide +kernel
theorem dX0_nearestFaces_115 : decode cX0_nearestFaces 115 = .ok (.iconst (-1), 1) := by decide +kernel
theorem dX0_nearestFaces_116 : decode cX0_nearestFaces 116 = .ok (.ixor, 1) := by decide +kernel
theorem dX0_nearestFaces_117 : decode cX0_nearestFaces 117 = .ok (.iand, 1) := by decide +kernel
theorem dX0_nearestFaces_118 : decode cX0_nearestFaces 118 = .ok (.istore 4, 2) := by decide +kernel
theorem dX0_nearestFaces_120 : decode cX0_nearestFaces 120 = .ok (.iinc 5 1, 3) := by decide +kernel
theorem dX0_nearestFaces_123 : decode cX0_nearestFaces 123 = .ok (.goto (-36), 3) := by decide +kernel
theorem dX0_nearestFaces_126 : decode cX0_nearestFaces 126 = .ok (.iload 4, 2) := by decide +kernel
theorem dX0_nearestFaces_128 : decode cX0_nearestFaces 128 = .ok (.ireturn, 1) := by decide +kernel
def zwX0_nearestFaces : List Cond := .code yX0_nearestFaces cX0_nearestFaces 7 (some .int) :: ([.fieldLink RX0 61 "LinkModels$Build" "classCount" "I", .fieldLink RX0 52 "LinkModels$Build" "reached" "[I", .fieldLink RX0 58 "LinkModels$Build" "lineCounts" "[I", .fieldLink RX0 55 "LinkModels$Build" "lines" "[I", .methodLink RX0 82 yX0_has, .instanceMethod yX0_has, .selects RX0 yX0_has yX0_has, .initialized RX0, .code yX0_has cX0_has 3 (some .boolean), .fieldLink RX0 30 "LinkModels$Build" "memberMarks" "[I", .methodLink RX0 90 yX0_isFace, .instanceMethod yX0_isFace, .selects RX0 yX0_isFace yX0_isFace, .code yX0_isFace cX0_isFace 2 (some .boolean), .fieldLink RX0 15 "LinkModels$Build" "classMarks" "[I", .methodLink RX0 94 yX0_methodIn, .instanceMethod yX0_methodIn, .selects RX0 yX0_methodIn yX0_methodIn, .code yX0_methodIn cX0_methodIn 5 (some .int), .fieldLink RX0 37 "LinkModels$Build" "typeCounts" "[I", .fieldLink RX0 71 "LinkModels$Signature" "typeCount" "I", .fieldLink RX0 40 "LinkModels$Build" "firsts" "[I", .fieldLink RX0 74 "LinkModels$Signature" "first" "I", .fieldLink RX0 43 "LinkModels$Build" "seconds" "[I", .fieldLink RX0 77 "LinkModels$Signature" "second" "I", .fieldLink RX0 27 "LinkModels$Build" "memberCounts" "[I", .fieldLink RX0 33 "LinkModels$Build" "words" "[J", .fieldLink RX0 65 "LinkModels$Signature" "word" "J"] ++ wsX00 ++ wsX30)
theorem zgX0_nearestFaces_X0_has_82 : GoodIn zwX0_nearestFaces (wsV RX0 82 RX0 yX0_has zwX0_has) := goodIn_app (goodIn_r _ [5, 6, 7, 8] rfl (by decide +kernel)) (goodIn_app (goodIn_r _ [9, 10] rfl (by decide +kernel)) (fun w hw => ⟨(List.mem_cons_of_mem _ (List.mem_append_left _ (List.mem_append_right _ hw))), good_of_word (List.all_eq_true.mp zgX0 w hw)⟩))
theorem zgX0_nearestFaces_X0_isFace_90 : GoodIn zwX0_nearestFaces (wsV RX0 90 RX0 yX0_isFace zwX0_isFace) := goodIn_app (goodIn_r _ [11, 12, 13, 8] rfl (by decide +kernel)) (goodIn_app (goodIn_r _ [14, 15] rfl (by decide +kernel)) (fun w hw => ⟨(List.mem_cons_of_mem _ (List.mem_append_left _ (List.mem_append_right _ hw))), good_of_word (List.all_eq_true.mp zgX0 w hw)⟩))
theorem zgX0_nearestFaces_X0_methodIn_94 : GoodIn zwX0_nearestFaces (wsV RX0 94 RX0 yX0_methodIn zwX0_methodIn) := goodIn_app (goodIn_r _ [16, 17, 18, 8] rfl (by decide +kernel)) (goodIn_app (goodIn_app (goodIn_r _ [19, 20, 21, 22, 23, 24, 25, 26, 27, 28, 10] rfl (by decide +kernel)) (fun w hw => ⟨(List.mem_cons_of_mem _ (List.mem_append_left _ (List.mem_append_right _ hw))), good_of_word (List.all_eq_true.mp zgX0 w hw)⟩)) (fun w hw => ⟨(List.mem_cons_of_mem _ (List.mem_append_right _ hw)), good_of_word (List.all_eq_true.mp zgX3 w hw)⟩))
set_option maxHeartbeats 4000000 in
set_option maxRecDepth 100000 in
theorem kX0_nearestFaces (l : Launch) (dC : Nat → ClassId) (dI : Nat → Nat → Nat) (bh : Nat) (br : Nat → Nat) (sg : Nat) (cI : ClassId) (cJ : ClassId) (cB : ClassId) (cc : Nat) (nA : Nat → Int32) (mA : Nat → Int32) (aA : Nat → Int32) (fcA : Nat → Nat) (fA : Nat → Int32) (mcA : Nat → Nat) (mmA : Nat → Int32) (wA : Nat → Int64) (tcA : Nat → Int32) (g1A : Nat → Int32) (g2A : Nat → Int32) (nuA : Nat → Int32) (erA : Nat → Nat) (reA : Nat → Int32) (liA : Nat → Nat) (lcA : Nat → Nat) (sw : Int64) (st : Int32) (sf : Int32) (sq : Int32) (hI : bsWI cc fcA mcA erA liA lcA) (ci : Nat) (hp0 : ci < 16) : Met l yX0_nearestFaces zwX0_nearestFaces ({ frames := 1, cells := 0, slots := 0, locals := 24 }) (zPq dC dI [.ref bh, .int (nI ci), .ref sg] (bsW bh br sg cI cJ cB (nI cc) nA mA aA (fun j => nI (fcA j)) fA (fun j => nI (mcA j)) mmA wA tcA g1A g2A nuA (fun j => nI (erA j)) reA (fun j => nI (liA j)) (fun j => nI (lcA j)) sw st sf sq) [(cI, .int), (cJ, .long), (cB, .byte)]) (vp_Si (fun r => (True))) 0 0 (fun _ => False) := by
  refine Met.ofW (cc := cX0_nearestFaces) (maxL := 7) (ret := (some .int)) (by decide) rfl ?_
  intro p e s m args below meth c s₁ B hml hv
  obtain ⟨rfl, hP, hK, hE⟩ := hv
  have hx := B.exec
  have hb := B.bytes
  have hr := B.returns
  have hts := atoms_spec (ws := zwX0_nearestFaces) B.pre
  have hown : s.vm.findClass RX0 = some m.cls := findClass_of_methodNamed B.named
  have hiX0 : ∀ w ∈ wsX00, w ∈ zwX0_nearestFaces := (fun w hw => (List.mem_cons_of_mem _ (List.mem_append_left _ (List.mem_append_right _ hw))))
  obtain ⟨hcc, hfcA, hmcA, herA, hliA, hlcA⟩ := hI
  have hl9 := hlcA ci
  have hl := lv_entry ([.ref bh, .int (nI ci), .ref sg]) (n := 7) (Nat.le_of_ble_eq_true rfl)
  rw [lg_entry_eq]
  generalize (lg_sl ([.ref bh, .int (nI ci), .ref sg]) ++ List.replicate (7 - (lg_sl ([.ref bh, .int (nI ci), .ref sg])).length) Slot.unset).toArray = ls at hl ⊢
  have hl : lv_has ls 7 [(0, .ref bh), (1, .int (nI ci)), (2, .ref sg)] := hl
  have J87 : ∀ (z87 : Nat) (hv : Int32) (nr : Int32) (c5 : Nat) (ls : Array Slot), cc - c5 < z87 → (c5 ≤ cc) → lv_has ls 7 [(0, .ref bh), (3, .int hv), (4, .int nr), (5, .int (nI c5))] → W p l e (headSpec zwX0_nearestFaces { frames := 1, cells := 0, slots := 0, locals := 24 }).room s m (([.ref bh, .int (nI ci), .ref sg] : List Value).toArray) below meth c s.heap [] 0 0 (MQ below (vp_Si (fun r => (True))) (([.ref bh, .int (nI ci), .ref sg] : List Value).toArray) s 0 0 (fun _ => False)) (F0 m 87 ls []) := by
    intro z87
    induction z87 with
    | zero => intro hv nr c5 ls h9; exact absurd h9 (Nat.not_lt_zero _)
    | succ z87 ih87 =>
      intro hv nr c5 ls hm87 i87_0 hl
      refine lv_iload hx hb dX0_nearestFaces_87 (lv_at hl 3 rfl) ?_
      refine lv_aload_n hx hb dX0_nearestFaces_89 rfl (lv_at hl 0 rfl) ?_
      refine va_get (D := (dC, dI)) (ci := 0) (v := .int (nI cc)) (C := RX0) (T := TX0) (N := 17) hx hb hts hiX0 hown hK hP 0 rfl rfl 0 (by decide) (hts (.fieldLink RX0 61 "LinkModels$Build" "classCount" "I") (by decide +kernel)) (fun _ h9 => h9) rfl dX0_nearestFaces_90 ?_
      refine lv_icmp_ge (tgt := 126) hx hb dX0_nearestFaces_93 (by decide) (fun cp93 => ?_) (fun cp93 => ?_)
      · have qcp93 : cc ≤ c5 := (nI_leI (a := cc) (b := c5) (by omega) (by omega)).mp cp93
        refine lv_iload hx hb dX0_nearestFaces_126 (lv_at hl 2 rfl) ?_
        exact W.iret (v := nr) hx hb hr (fun t ht hW => ⟨nr, rfl, trivial, ht⟩) (fun _ h => by cases h) dX0_nearestFaces_128
      · have qcp93 : ¬ cc ≤ c5 := fun h9 => cp93 ((nI_leI (a := cc) (b := c5) (by omega) (by omega)).mpr h9)
        refine lv_iload_n hx hb dX0_nearestFaces_96 rfl (lv_at hl 1 rfl) ?_
        refine lv_iload hx hb dX0_nearestFaces_97 (lv_at hl 3 rfl) ?_
        refine lv_ishr hx hb dX0_nearestFaces_99 ?_
        refine lv_topi (fun x1 ex1 => ?_)
        refine lv_iconst (v := 1) hx hb dX0_nearestFaces_100 (by decide) ?_
        refine lv_iand hx hb dX0_nearestFaces_101 ?_
        refine lv_topi (fun x2 ex2 => ?_)
        refine lv_iconst (v := 1) hx hb dX0_nearestFaces_102 (by decide) ?_
        refine lv_icmp_ne (tgt := 120) hx hb dX0_nearestFaces_103 (by decide) (fun cp103 => ?_) (fun cp103 => ?_)
        · obtain ⟨x3, ex3⟩ : ∃ y : Int32, y = (nI c5) + 1 := ⟨_, rfl⟩
          refine lv_iinc (v := x3) (lv' := [(5, .int x3), (0, .ref bh), (3, .int hv), (4, .int nr)]) hx hb dX0_nearestFaces_120 hl (k := 3) rfl (by rw [ex3]; rfl) (by decide) rfl (fun ls hl => ?_)
          obtain rfl : x3 = nI (c5 + 1) := by rw [ex3]; exact nI_add (c5) 1
          refine lv_goto (tgt := 87) hx hb dX0_nearestFaces_123 (by decide) ?_
          exact ih87 hv nr (c5 + 1) ls (by omega) (by first | omega | assumption | trivial) (lv_sub hl [1, 2, 3, 0] rfl)
        · refine lv_iload hx hb dX0_nearestFaces_106 (lv_at hl 2 rfl) ?_
          refine lv_aload_n hx hb dX0_nearestFaces_108 rfl (lv_at hl 0 rfl) ?_
          refine va_get (D := (dC, dI)) (ci := 0) (v := .ref (br 14)) (C := RX0) (T := TX0) (N := 17) hx hb hts hiX0 hown hK hP 0 rfl rfl 14 (by decide) (hts (.fieldLink RX0 52 "LinkModels$Build" "reached" "[I") (by decide +kernel)) (fun _ h9 => h9) rfl dX0_nearestFaces_109 ?_
          refine lv_iload hx hb dX0_nearestFaces_112 (lv_at hl 3 rfl) ?_
          refine va_iald hx hb hK hP 14 0 rfl rfl (vp_in_nI (show c5 < 16 by omega) (by decide)) dX0_nearestFaces_114 ?_
          refine lv_topi (fun x4 ex4 => ?_)
          obtain rfl : x4 = reA c5 := by rw [ex4, nI_clamp (show c5 < 2 ^ 31 by omega)]
          refine lv_iconst (v := (-1)) hx hb dX0_nearestFaces_115 (by decide) ?_
          refine lv_ixor hx hb dX0_nearestFaces_116 ?_
          refine lv_topi (fun x5 ex5 => ?_)
          refine lv_iand hx hb dX0_nearestFaces_117 ?_
          refine lv_topi (fun x6 ex6 => ?_)
          refine lv_istore (lv' := [(4, .int x6), (0, .ref bh), (3, .int hv), (5, .int (nI c5))]) hx hb dX0_nearestFaces_118 hl (by decide) rfl (fun ls hl => ?_)
          obtain ⟨x7, ex7⟩ : ∃ y : Int32, y = (nI c5) + 1 := ⟨_, rfl⟩
          refine lv_iinc (v := x7) (lv' := [(5, .int x7), (4, .int x6), (0, .ref bh), (3, .int hv)]) hx hb dX0_nearestFaces_120 hl (k := 3) rfl (by rw [ex7]; rfl) (by decide) rfl (fun ls hl => ?_)
          obtain rfl : x7 = nI (c5 + 1) := by rw [ex7]; exact nI_add (c5) 1
          refine lv_goto (tgt := 87) hx hb dX0_nearestFaces_123 (by decide) ?_
          exact ih87 hv x6 (c5 + 1) ls (by omega) (by first | omega | assumption | trivial) (lv_sub hl [2, 3, 1, 0] rfl)
  have J5 : ∀ (z5 : Nat) (hv : Int32) (ii : Nat) (ls : Array Slot), lcA ci - ii < z5 → (ii ≤ lcA ci) → lv_has ls 7 [(0, .ref bh), (1, .int (nI ci)), (2, .ref sg), (3, .int hv), (4, .int (nI ii))] → W p l e (headSpec zwX0_nearestFaces { frames := 1, cells := 0, slots := 0, locals := 24 }).room s m (([.ref bh, .int (nI ci), .ref sg] : List Value).toArray) below meth c s.heap [] 0 0 (MQ below (vp_Si (fun r => (True))) (([.ref bh, .int (nI ci), .ref sg] : List Value).toArray) s 0 0 (fun _ => False)) (F0 m 5 ls []) := by
    intro z5
    induction z5 with
    | zero => intro hv ii ls h9; exact absurd h9 (Nat.not_lt_zero _)
    | succ z5 ih5 =>
      intro hv ii ls hm5 i5_0 hl
      have J50 : ∀ (a5 : Nat) (sp : Int32) (ls : Array Slot), (zM sp (fun k => k < 208)) → (ii < lcA ci) → lv_has ls 7 [(0, .ref bh), (1, .int (nI ci)), (2, .ref sg), (3, .int hv), (4, .int (nI ii)), (5, .int (nI a5))] → W p l e (headSpec zwX0_nearestFaces { frames := 1, cells := 0, slots := 0, locals := 24 }).room s m (([.ref bh, .int (nI ci), .ref sg] : List Value).toArray) below meth c s.heap [] 0 0 (MQ below (vp_Si (fun r => (True))) (([.ref bh, .int (nI ci), .ref sg] : List Value).toArray) s 0 0 (fun _ => False)) (F0 m 50 ls [.int sp]) := by
        intro a5 sp ls hm50_sp i50_0 hl
        refine lv_istore (lv' := [(6, .int sp), (0, .ref bh), (1, .int (nI ci)), (2, .ref sg), (3, .int hv), (4, .int (nI ii)), (5, .int (nI a5))]) hx hb dX0_nearestFaces_50 hl (by decide) rfl (fun ls hl => ?_)
        refine lv_iload hx hb dX0_nearestFaces_52 (lv_at hl 0 rfl) ?_
        refine lv_iconst (v := (-1)) hx hb dX0_nearestFaces_54 (by decide) ?_
        refine lv_icmp_eq (tgt := 75) hx hb dX0_nearestFaces_55 (by decide) (fun cp55 => ?_) (fun cp55 => ?_)
        · obtain rfl : sp = -1 := cp55
          obtain ⟨x8, ex8⟩ : ∃ y : Int32, y = (nI ii) + 1 := ⟨_, rfl⟩
          refine lv_iinc (v := x8) (lv' := [(4, .int x8), (6, .int (-1)), (0, .ref bh), (1, .int (nI ci)), (2, .ref sg), (3, .int hv), (5, .int (nI a5))]) hx hb dX0_nearestFaces_75 hl (k := 5) rfl (by rw [ex8]; rfl) (by decide) rfl (fun ls hl => ?_)
          obtain rfl : x8 = nI (ii + 1) := by rw [ex8]; exact nI_add (ii) 1
          refine lv_goto (tgt := 5) hx hb dX0_nearestFaces_78 (by decide) ?_
          exact ih5 hv (ii + 1) ls (by omega) (by first | omega | assumption | trivial) (lv_sub hl [2, 3, 4, 5, 0] rfl)
        · obtain ⟨k9, hBk9, hQk9, rfl⟩ := hm50_sp.resolve_left cp55
          refine lv_aload_n hx hb dX0_nearestFaces_58 rfl (lv_at hl 1 rfl) ?_
          refine lv_iload hx hb dX0_nearestFaces_59 (lv_at hl 0 rfl) ?_
          refine lv_iconst (v := 3) hx hb dX0_nearestFaces_61 (by decide) ?_
          refine vp_callSi (W.runV (As := [.int (nI k9), .int 3]) (rest := []) ⟨hx, hb, hml, hown, hts⟩ (kX0_has l dC dI bh br cI cJ cB cc nA mA aA fcA fA mcA mmA wA tcA g1A g2A nuA erA reA liA lcA ⟨by omega, hfcA, hmcA, herA, hliA, hlcA⟩ k9 (3 : Int32) (by first | omega | assumption | trivial)) (cwV 2 hts zgX0_nearestFaces_X0_has_82 rfl rfl rfl (by decide +kernel) ⟨(show 0 + 1 ≤ 1 by omega), (show 8 + (3 + 11) + 0 ≤ 24 by omega)⟩) (zVq (ci := 0) (q0 := 0) (q := (RX0, TX0, 17)) hK (hP.sub (ws' := (bW bh br cI cJ cB (nI cc) nA mA aA (fun j => nI (fcA j)) fA (fun j => nI (mcA j)) mmA wA tcA g1A g2A nuA (fun j => nI (erA j)) reA (fun j => nI (liA j)) (fun j => nI (lcA j)))) [0, 1, 2, 3, 4, 5, 6, 7, 8, 9, 10, 11, 12, 13, 14, 15, 16] rfl) hE rfl rfl rfl) rfl rfl hl.1 rfl (lv_room (Nat.le_of_ble_eq_true rfl)) dX0_nearestFaces_62 ⟨(show 0 + 0 ≤ 0 by omega), (show 0 + 0 ≤ 0 by omega)⟩) (fun r10 hw => ?_)
          have hw : (r10 = 0 ∨ r10 = 1) := hw
          have w0r10 := hw
          refine lv_if_ne (tgt := 75) hx hb dX0_nearestFaces_65 (by decide) (fun cp65 => ?_) (fun cp65 => ?_)
          · obtain ⟨x11, ex11⟩ : ∃ y : Int32, y = (nI ii) + 1 := ⟨_, rfl⟩
            refine lv_iinc (v := x11) (lv' := [(4, .int x11), (6, .int (nI k9)), (0, .ref bh), (1, .int (nI ci)), (2, .ref sg), (3, .int hv), (5, .int (nI a5))]) hx hb dX0_nearestFaces_75 hl (k := 5) rfl (by rw [ex11]; rfl) (by decide) rfl (fun ls hl => ?_)
            obtain rfl : x11 = nI (ii + 1) := by rw [ex11]; exact nI_add (ii) 1
            refine lv_goto (tgt := 5) hx hb dX0_nearestFaces_78 (by decide) ?_
            exact ih5 hv (ii + 1) ls (by omega) (by first | omega | assumption | trivial) (lv_sub hl [2, 3, 4, 5, 0] rfl)
          · refine lv_iload_n hx hb dX0_nearestFaces_68 rfl (lv_at hl 4 rfl) ?_
            refine lv_iconst (v := 1) hx hb dX0_nearestFaces_69 (by decide) ?_
            refine lv_iload hx hb dX0_nearestFaces_70 (lv_at hl 6 rfl) ?_
            refine lv_ishl hx hb dX0_nearestFaces_72 ?_
            refine lv_topi (fun x12 ex12 => ?_)
            refine lv_ior hx hb dX0_nearestFaces_73 ?_
            refine lv_topi (fun x13 ex13 => ?_)
            refine lv_istore_n (lv' := [(3, .int x13), (6, .int (nI k9)), (0, .ref bh), (1, .int (nI ci)), (2, .ref sg), (4, .int (nI ii)), (5, .int (nI a5))]) hx hb dX0_nearestFaces_74 rfl hl (by decide) rfl (fun ls hl => ?_)
            obtain ⟨x14, ex14⟩ : ∃ y : Int32, y = (nI ii) + 1 := ⟨_, rfl⟩
            refine lv_iinc (v := x14) (lv' := [(4, .int x14), (3, .int x13), (6, .int (nI k9)), (0, .ref bh), (1, .int (nI ci)), (2, .ref sg), (5, .int (nI a5))]) hx hb dX0_nearestFaces_75 hl (k := 5) rfl (by rw [ex14]; rfl) (by decide) rfl (fun ls hl => ?_)
            obtain rfl : x14 = nI (ii + 1) := by rw [ex14]; exact nI_add (ii) 1
            refine lv_goto (tgt := 5) hx hb dX0_nearestFaces_78 (by decide) ?_
            exact ih5 x13 (ii + 1) ls (by omega) (by first | omega | assumption | trivial) (lv_sub hl [3, 4, 5, 1, 0] rfl)
      refine lv_iload hx hb dX0_nearestFaces_5 (lv_at hl 4 rfl) ?_
      refine lv_aload_n hx hb dX0_nearestFaces_7 rfl (lv_at hl 0 rfl) ?_
      refine va_get (D := (dC, dI)) (ci := 0) (v := .ref (br 16)) (C := RX0) (T := TX0) (N := 17) hx hb hts hiX0 hown hK hP 0 rfl rfl 16 (by decide) (hts (.fieldLink RX0 58 "LinkModels$Build" "lineCounts" "[I") (by decide +kernel)) (fun _ h9 => h9) rfl dX0_nearestFaces_8 ?_
      refine lv_iload_n hx hb dX0_nearestFaces_11 rfl (lv_at hl 1 rfl) ?_
      refine va_iald hx hb hK hP 16 0 rfl rfl (vp_in_nI (show ci < 16 by omega) (by decide)) dX0_nearestFaces_12 ?_
      refine lv_topi (fun x15 ex15 => ?_)
      obtain rfl : x15 = nI (lcA ci) := by rw [ex15, nI_clamp (show ci < 2 ^ 31 by omega)]
      have hqx15 := hlcA ci
      refine lv_icmp_ge (tgt := 81) hx hb dX0_nearestFaces_13 (by decide) (fun cp13 => ?_) (fun cp13 => ?_)
      · have qcp13 : (lcA ci) ≤ ii := (nI_leI (a := lcA ci) (b := ii) (by omega) (by omega)).mp cp13
        refine lv_iload_n hx hb dX0_nearestFaces_81 rfl (lv_at hl 3 rfl) ?_
        refine lv_istore (lv' := [(4, .int hv), (0, .ref bh), (1, .int (nI ci)), (2, .ref sg), (3, .int hv)]) hx hb dX0_nearestFaces_82 hl (by decide) rfl (fun ls hl => ?_)
        refine lv_iconst (v := 0) hx hb dX0_nearestFaces_84 (by decide) ?_
        refine lv_istore (lv' := [(5, .int 0), (4, .int hv), (0, .ref bh), (1, .int (nI ci)), (2, .ref sg), (3, .int hv)]) hx hb dX0_nearestFaces_85 hl (by decide) rfl (fun ls hl => ?_)
        exact J87 _ hv hv 0 ls (Nat.lt_succ_self _) (by first | omega | assumption | trivial) (lv_sub hl [2, 5, 1, 0] rfl)
      · have qcp13 : ¬ (lcA ci) ≤ ii := fun h9 => cp13 ((nI_leI (a := lcA ci) (b := ii) (by omega) (by omega)).mpr h9)
        refine lv_aload_n hx hb dX0_nearestFaces_16 rfl (lv_at hl 0 rfl) ?_
        refine va_get (D := (dC, dI)) (ci := 0) (v := .ref (br 15)) (C := RX0) (T := TX0) (N := 17) hx hb hts hiX0 hown hK hP 0 rfl rfl 15 (by decide) (hts (.fieldLink RX0 55 "LinkModels$Build" "lines" "[I") (by decide +kernel)) (fun _ h9 => h9) rfl dX0_nearestFaces_17 ?_
        refine lv_iload_n hx hb dX0_nearestFaces_20 rfl (lv_at hl 1 rfl) ?_
        refine lv_bipush (v := 16) hx hb dX0_nearestFaces_21 (by decide) ?_
        refine lv_imul hx hb dX0_nearestFaces_23 ?_
        refine lv_topi (fun x16 ex16 => ?_)
        obtain rfl : x16 = nI (ci * 16) := by rw [ex16]; exact pk_mul (ci) (16)
        refine lv_iload hx hb dX0_nearestFaces_24 (lv_at hl 4 rfl) ?_
        refine lv_iadd hx hb dX0_nearestFaces_26 ?_
        refine lv_topi (fun x17 ex17 => ?_)
        obtain rfl : x17 = nI ((ci * 16) + ii) := by rw [ex17]; exact nI_add (ci * 16) (ii)
        refine va_iald hx hb hK hP 15 0 rfl rfl (vp_in_nI (show (ci * 16) + ii < 256 by omega) (by decide)) dX0_nearestFaces_27 ?_
        refine lv_topi (fun x18 ex18 => ?_)
        obtain rfl : x18 = nI (liA ((ci * 16) + ii)) := by rw [ex18, nI_clamp (show (ci * 16) + ii < 2 ^ 31 by omega)]
        have hqx18 := hliA ((ci * 16) + ii)
        refine lv_istore (lv' := [(5, .int (nI (liA ((ci * 16) + ii)))), (0, .ref bh), (1, .int (nI ci)), (2, .ref sg), (3, .int hv), (4, .int (nI ii))]) hx hb dX0_nearestFaces_28 hl (by decide) rfl (fun ls hl => ?_)
        refine lv_aload_n hx hb dX0_nearestFaces_30 rfl (lv_at hl 1 rfl) ?_
        refine lv_iload hx hb dX0_nearestFaces_31 (lv_at hl 0 rfl) ?_
        refine vp_callSi (W.runV (As := [.int (nI (liA ((ci * 16) + ii)))]) (rest := []) ⟨hx, hb, hml, hown, hts⟩ (kX0_isFace l dC dI bh br cI cJ cB cc nA mA aA fcA fA mcA mmA wA tcA g1A g2A nuA erA reA liA lcA ⟨by omega, hfcA, hmcA, herA, hliA, hlcA⟩ (liA ((ci * 16) + ii)) (by first | omega | assumption | trivial)) (cwV 1 hts zgX0_nearestFaces_X0_isFace_90 rfl rfl rfl (by decide +kernel) ⟨(show 0 + 1 ≤ 1 by omega), (show 8 + (2 + 11) + 0 ≤ 24 by omega)⟩) (zVq (ci := 0) (q0 := 0) (q := (RX0, TX0, 17)) hK (hP.sub (ws' := (bW bh br cI cJ cB (nI cc) nA mA aA (fun j => nI (fcA j)) fA (fun j => nI (mcA j)) mmA wA tcA g1A g2A nuA (fun j => nI (erA j)) reA (fun j => nI (liA j)) (fun j => nI (lcA j)))) [0, 1, 2, 3, 4, 5, 6, 7, 8, 9, 10, 11, 12, 13, 14, 15, 16] rfl) hE rfl rfl rfl) rfl rfl hl.1 rfl (lv_room (Nat.le_of_ble_eq_true rfl)) dX0_nearestFaces_33 ⟨(show 0 + 0 ≤ 0 by omega), (show 0 + 0 ≤ 0 by omega)⟩) (fun r19 hw => ?_)
        have hw : (r19 = 0 ∨ r19 = 1) := hw
        have w0r19 := hw
        refine lv_if_eq (tgt := 49) hx hb dX0_nearestFaces_36 (by decide) (fun cp36 => ?_) (fun cp36 => ?_)
        · refine lv_iconst (v := (-1)) hx hb dX0_nearestFaces_49 (by decide) ?_
          exact J50 (liA ((ci * 16) + ii)) (-1 : Int32) ls  (Or.inl rfl) (by first | omega | assumption | trivial) (lv_sub hl [1, 2, 3, 4, 5, 0] rfl)
        · refine lv_aload_n hx hb dX0_nearestFaces_39 rfl (lv_at hl 1 rfl) ?_
          refine lv_iload hx hb dX0_nearestFaces_40 (lv_at hl 0 rfl) ?_
          refine lv_aload_n hx hb dX0_nearestFaces_42 rfl (lv_at hl 3 rfl) ?_
          refine vp_callSi (W.runV (As := [.int (nI (liA ((ci * 16) + ii))), .ref sg]) (rest := []) ⟨hx, hb, hml, hown, hts⟩ (kX0_methodIn l dC dI bh br sg cI cJ cB cc nA mA aA fcA fA mcA mmA wA tcA g1A g2A nuA erA reA liA lcA sw st sf sq ⟨by omega, hfcA, hmcA, herA, hliA, hlcA⟩ (liA ((ci * 16) + ii)) (by first | omega | assumption | trivial)) (cwV 2 hts zgX0_nearestFaces_X0_methodIn_94 rfl rfl rfl (by decide +kernel) ⟨(show 0 + 1 ≤ 1 by omega), (show 8 + (5 + 11) + 0 ≤ 24 by omega)⟩) (zVq (ci := 0) (q0 := 0) (q := (RX0, TX0, 17)) hK hP hE rfl rfl rfl) rfl rfl hl.1 rfl (lv_room (Nat.le_of_ble_eq_true rfl)) dX0_nearestFaces_43 ⟨(show 0 + 0 ≤ 0 by omega), (show 0 + 0 ≤ 0 by omega)⟩) (fun r20 hw => ?_)
          have hw : (zM r20 (fun k => k < 208)) := hw
          have w0r20 := hw
          refine lv_goto (tgt := 50) hx hb dX0_nearestFaces_46 (by decide) ?_
          exact J50 (liA ((ci * 16) + ii)) r20 ls  (zM.imp w0r20 (fun k hk hq => by first | exact hq | trivial | omega)) (by first | omega | assumption | trivial) (lv_sub hl [1, 2, 3, 4, 5, 0] rfl)
  refine lv_iconst (v := 0) hx hb dX0_nearestFaces_0 (by decide) ?_
  refine lv_istore_n (lv' := [(3, .int 0), (0, .ref bh), (1, .int (nI ci)), (2, .ref sg)]) hx hb dX0_nearestFaces_1 rfl hl (by decide) rfl (fun ls hl => ?_)
  refine lv_iconst (v := 0) hx hb dX0_nearestFaces_2 (by decide) ?_
  refine lv_istore (lv' := [(4, .int 0), (3, .int 0), (0, .ref bh), (1, .int (nI ci)), (2, .ref sg)]) hx hb dX0_nearestFaces_3 hl (by decide) rfl (fun ls hl => ?_)
  exact J5 _ (0 : Int32) 0 ls (Nat.lt_succ_self _) (by first | omega | assumption | trivial) (lv_sub hl [2, 3, 4, 1, 0] rfl)
theorem dX0_withBody_0 : decode cX0_withBody 0 = .ok (.iconst 0, 1) := by decide +kernel
theorem dX0_withBody_1 : decode cX0_withBody 1 = .ok (.istore_n 3, 1) := by decide +kernel
theorem dX0_withBody_2 : decode cX0_withBody 2 = .ok (.iconst 0, 1) := by decide +kernel
theorem dX0_withBody_3 : decode cX0_withBody 3 = .ok (.istore 4, 2) := by decide +kernel
theorem dX0_withBody_5 : decode cX0_withBody 5 = .ok (.iload 4, 2) := by decide +kernel
theorem dX0_withBody_7 : decode cX0_withBody 7 = .ok (.aload_n 0, 1) := by decide +kernel
theorem dX0_withBody_8 : decode cX0_withBody 8 = .ok (.getfield 61, 3) := by decide +kernel
theorem dX0_withBody_11 : decode cX0_withBody 11 = .ok (.if_icmp .ge 56, 3) := by decide +kernel
theorem dX0_withBody_14 : decode cX0_withBody 14 = .ok (.iload_n 1, 1) := by decide +kernel
theorem dX0_withBody_15 : decode cX0_withBody 15 = .ok (.iload 4, 2) := by decide +kernel
theorem dX0_withBody_17 : decode cX0_withBody 17 = .ok (.ishr, 1) := by decide +kernel
theorem dX0_withBody_18 : decode cX0_withBody 18 = .ok (.iconst 1, 1) := by decide +kernel
theorem dX0_withBody_19 : decode cX0_withBody 19 = .ok (.iand, 1) := by decide +kernel
theorem dX0_withBody_20 : decode cX0_withBody 20 = .ok (.iconst 1, 1) := by decide +kernel
theorem dX0_withBody_21 : decode cX0_withBody 21 = .ok (.if_icmp .ne 13, 3) := by decide +kernel
theorem dX0_withBody_24 : decode cX0_withBody 24 = .ok (.aload_n 0, 1) := by decide +kernel
theorem dX0_withBody_25 : decode cX0_withBody 25 = .ok (.iload 4, 2) := by decide +kernel
theorem dX0_withBody_27 : decode cX0_withBody 27 = .ok (.aload_n 2, 1) := by decide +kernel
theorem dX0_withBody_28 : decode cX0_withBody 28 = .ok (.invokevirtual 94, 3) := by decide +kernel
theorem dX0_withBody_31 : decode cX0_withBody 31 = .ok (.goto 4, 3) := by decide +kernel
theorem dX0_withBody_34 : decode cX0_withBody 34 = .ok (.iconst (-1), 1) := by decide +kernel
theorem dX0_withBody_35 : decode cX0_withBody 35 = .ok (.istore 5, 2) := by decide +kernel
theorem dX0_withBody_37 : decode cX0_withBody 37 = .ok (.iload 5, 2) := by decide +kernel
theorem dX0_withBody_39 : decode cX0_withBody 39 = .ok (.iconst (-1), 1) := by decide +kernel
theorem dX0_withBody_40 : decode cX0_withBody 40 = .ok (.if_icmp .eq 21, 3) := by decide +kernel
theorem dX0_withBody_43 : decode cX0_withBody 43 = .ok (.aload_n 0, 1) := by decide +kernel
theorem dX0_withBody_44 : decode cX0_withBody 44 = .ok (.iload 5, 2) := by decide +kernel
theorem dX0_withBody_46 : decode cX0_withBody 46 = .ok (.bipush 8, 2) := by decide +kernel
theorem dX0_withBody_48 : decode cX0_withBody 48 = .ok (.invokevirtual 82, 3) := by decide +kernel
theorem dX0_withBody_51 : decode cX0_withBody 51 = .ok (.ifCond .ne 10, 3) := by decide +kernel
theorem dX0_withBody_54 : decode cX0_withBody 54 = .ok (.iload_n 3, 1) := by decide +kernel
theorem dX0_withBody_55 : decode cX0_withBody 55 = .ok (.iconst 1, 1) := by decide +kernel
theorem dX0_withBody_56 : decode cX0_withBody 56 = .ok (.iload 4, 2) := by decide +kernel
theorem dX0_withBody_58 : decode cX0_withBody 58 = .ok (.ishl, 1) := by decide +kernel
theorem dX0_withBody_59 : decode cX0_withBody 59 = .ok (.ior, 1) := by decide +kernel
theorem dX0_withBody_60 : decode cX0_withBody 60 = .ok (.istore_n 3, 1) := by decide +kernel
theorem dX0_withBody_61 : decode cX0_withBody 61 = .ok (.iinc 4 1, 3) := by decide +kernel
theorem dX0_withBody_64 : decode cX0_withBody 64 = .ok (.goto (-59), 3) := by decide +kernel
theorem dX0_withBody_67 : decode cX0_withBody 67 = .ok (.iload_n 3, 1) := by decide +kernel
theorem dX0_withBody_68 : decode cX0_withBody 68 = .ok (.ireturn, 1) := by decide +kernel
def zwX0_withBody : List Cond := .code yX0_withBody cX0_withBody 6 (some .int) :: ([.fieldLink RX0 61 "LinkModels$Build" "classCount" "I", .methodLink RX0 82 yX0_has, .instanceMethod yX0_has, .selects RX0 yX0_has yX0_has, .initialized RX0, .code yX0_has cX0_has 3 (some .boolean), .fieldLink RX0 30 "LinkModels$Build" "memberMarks" "[I", .methodLink RX0 94 yX0_methodIn, .instanceMethod yX0_methodIn, .selects RX0 yX0_methodIn yX0_methodIn, .code yX0_methodIn cX0_methodIn 5 (some .int), .fieldLink RX0 37 "LinkModels$Build" "typeCounts" "[I", .fieldLink RX0 71 "LinkModels$Signature" "typeCount" "I", .fieldLink RX0 40 "LinkModels$Build" "firsts" "[I", .fieldLink RX0 74 "LinkModels$Signature" "first" "I", .fieldLink RX0 43 "LinkModels$Build" "seconds" "[I", .fieldLink RX0 77 "LinkModels$Signature" "second" "I", .fieldLink RX0 27 "LinkModels$Build" "memberCounts" "[I", .fieldLink RX0 33 "LinkModels$Build" "words" "[J", .fieldLink RX0 65 "LinkModels$Signature" "word" "J"] ++ wsX00 ++ wsX30)
theorem zgX0_withBody_X0_has_82 : GoodIn zwX0_withBody (wsV RX0 82 RX0 yX0_has zwX0_has) := goodIn_app (goodIn_r _ [2, 3, 4, 5] rfl (by decide +kernel)) (goodIn_app (goodIn_r _ [6, 7] rfl (by decide +kernel)) (fun w hw => ⟨(List.mem_cons_of_mem _ (List.mem_append_left _ (List.mem_append_right _ hw))), good_of_word (List.all_eq_true.mp zgX0 w hw)⟩))
theorem zgX0_withBody_X0_methodIn_94 : GoodIn zwX0_withBody (wsV RX0 94 RX0 yX0_methodIn zwX0_methodIn) := goodIn_app (goodIn_r _ [8, 9, 10, 5] rfl (by decide +kernel)) (goodIn_app (goodIn_app (goodIn_r _ [11, 12, 13, 14, 15, 16, 17, 18, 19, 20, 7] rfl (by decide +kernel)) (fun w hw => ⟨(List.mem_cons_of_mem _ (List.mem_append_left _ (List.mem_append_right _ hw))), good_of_word (List.all_eq_true.mp zgX0 w hw)⟩)) (fun w hw => ⟨(List.mem_cons_of_mem _ (List.mem_append_right _ hw)), good_of_word (List.all_eq_true.mp zgX3 w hw)⟩))
set_option maxHeartbeats 4000000 in
set_option maxRecDepth 100000 in
theorem kX0_withBody (l : Launch) (dC : Nat → ClassId) (dI : Nat → Nat → Nat) (bh : Nat) (br : Nat → Nat) (sg : Nat) (cI : ClassId) (cJ : ClassId) (cB : ClassId) (cc : Nat) (nA : Nat → Int32) (mA : Nat → Int32) (aA : Nat → Int32) (fcA : Nat → Nat) (fA : Nat → Int32) (mcA : Nat → Nat) (mmA : Nat → Int32) (wA : Nat → Int64) (tcA : Nat → Int32) (g1A : Nat → Int32) (g2A : Nat → Int32) (nuA : Nat → Int32) (erA : Nat → Nat) (reA : Nat → Int32) (liA : Nat → Nat) (lcA : Nat → Nat) (sw : Int64) (st : Int32) (sf : Int32) (sq : Int32) (hI : bsWI cc fcA mcA erA liA lcA) (fx : Int32) : Met l yX0_withBody zwX0_withBody ({ frames := 1, cells := 0, slots := 0, locals := 24 }) (zPq dC dI [.ref bh, .int fx, .ref sg] (bsW bh br sg cI cJ cB (nI cc) nA mA aA (fun j => nI (fcA j)) fA (fun j => nI (mcA j)) mmA wA tcA g1A g2A nuA (fun j => nI (erA j)) reA (fun j => nI (liA j)) (fun j => nI (lcA j)) sw st sf sq) [(cI, .int), (cJ, .long), (cB, .byte)]) (vp_Si (fun r => (True))) 0 0 (fun _ => False) := by
  refine Met.ofW (cc := cX0_withBody) (maxL := 6) (ret := (some .int)) (by decide) rfl ?_
  intro p e s m args below meth c s₁ B hml hv
  obtain ⟨rfl, hP, hK, hE⟩ := hv
  have hx := B.exec
  have hb := B.bytes
  have hr := B.returns
  have hts := atoms_spec (ws := zwX0_withBody) B.pre
  have hown : s.vm.findClass RX0 = some m.cls := findClass_of_methodNamed B.named
  have hiX0 : ∀ w ∈ wsX00, w ∈ zwX0_withBody := (fun w hw => (List.mem_cons_of_mem _ (List.mem_append_left _ (List.mem_append_right _ hw))))
  obtain ⟨hcc, hfcA, hmcA, herA, hliA, hlcA⟩ := hI
  have hl := lv_entry ([.ref bh, .int fx, .ref sg]) (n := 6) (Nat.le_of_ble_eq_true rfl)
  rw [lg_entry_eq]
  generalize (lg_sl ([.ref bh, .int fx, .ref sg]) ++ List.replicate (6 - (lg_sl ([.ref bh, .int fx, .ref sg])).length) Slot.unset).toArray = ls at hl ⊢
  have hl : lv_has ls 6 [(0, .ref bh), (1, .int fx), (2, .ref sg)] := hl
  have J5 : ∀ (z5 : Nat) (bo : Int32) (c4 : Nat) (ls : Array Slot), cc - c4 < z5 → (c4 ≤ cc) → lv_has ls 6 [(0, .ref bh), (1, .int fx), (2, .ref sg), (3, .int bo), (4, .int (nI c4))] → W p l e (headSpec zwX0_withBody { frames := 1, cells := 0, slots := 0, locals := 24 }).room s m (([.ref bh, .int fx, .ref sg] : List Value).toArray) below meth c s.heap [] 0 0 (MQ below (vp_Si (fun r => (True))) (([.ref bh, .int fx, .ref sg] : List Value).toArray) s 0 0 (fun _ => False)) (F0 m 5 ls []) := by
    intro z5
    induction z5 with
    | zero => intro bo c4 ls h9; exact absurd h9 (Nat.not_lt_zero _)
    | succ z5 ih5 =>
      intro bo c4 ls hm5 i5_0 hl
      have J35 : ∀ (sp : Int32) (ls : Array Slot), (zM sp (fun k => k < 208)) → (c4 < cc) → lv_has ls 6 [(0, .ref bh), (1, .int fx), (2, .ref sg), (3, .int bo), (4, .int (nI c4))] → W p l e (headSpec zwX0_withBody { frames := 1, cells := 0, slots := 0, locals := 24 }).room s m (([.ref bh, .int fx, .ref sg] : List Value).toArray) below meth c s.heap [] 0 0 (MQ below (vp_Si (fun r => (True))) (([.ref bh, .int fx, .ref sg] : List Value).toArray) s 0 0 (fun _ => False)) (F0 m 35 ls [.int sp]) := by
        intro sp ls hm35_sp i35_0 hl
        refine lv_istore (lv' := [(5, .int sp), (0, .ref bh), (1, .int fx), (2, .ref sg), (3, .int bo), (4, .int (nI c4))]) hx hb dX0_withBody_35 hl (by decide) rfl (fun ls hl => ?_)
        refine lv_iload hx hb dX0_withBody_37 (lv_at hl 0 rfl) ?_
        refine lv_iconst (v := (-1)) hx hb dX0_withBody_39 (by decide) ?_
        refine lv_icmp_eq (tgt := 61) hx hb dX0_withBody_40 (by decide) (fun cp40 => ?_) (fun cp40 => ?_)
        · obtain rfl : sp = -1 := cp40
          obtain ⟨x1, ex1⟩ : ∃ y : Int32, y = (nI c4) + 1 := ⟨_, rfl⟩
          refine lv_iinc (v := x1) (lv' := [(4, .int x1), (5, .int (-1)), (0, .ref bh), (1, .int fx), (2, .ref sg), (3, .int bo)]) hx hb dX0_withBody_61 hl (k := 5) rfl (by rw [ex1]; rfl) (by decide) rfl (fun ls hl => ?_)
          obtain rfl : x1 = nI (c4 + 1) := by rw [ex1]; exact nI_add (c4) 1
          refine lv_goto (tgt := 5) hx hb dX0_withBody_64 (by decide) ?_
          exact ih5 bo (c4 + 1) ls (by omega) (by first | omega | assumption | trivial) (lv_sub hl [2, 3, 4, 5, 0] rfl)
        · obtain ⟨k2, hBk2, hQk2, rfl⟩ := hm35_sp.resolve_left cp40
          refine lv_aload_n hx hb dX0_withBody_43 rfl (lv_at hl 1 rfl) ?_
          refine lv_iload hx hb dX0_withBody_44 (lv_at hl 0 rfl) ?_
          refine lv_bipush (v := 8) hx hb dX0_withBody_46 (by decide) ?_
          refine vp_callSi (W.runV (As := [.int (nI k2), .int 8]) (rest := []) ⟨hx, hb, hml, hown, hts⟩ (kX0_has l dC dI bh br cI cJ cB cc nA mA aA fcA fA mcA mmA wA tcA g1A g2A nuA erA reA liA lcA ⟨by omega, hfcA, hmcA, herA, hliA, hlcA⟩ k2 (8 : Int32) (by first | omega | assumption | trivial)) (cwV 2 hts zgX0_withBody_X0_has_82 rfl rfl rfl (by decide +kernel) ⟨(show 0 + 1 ≤ 1 by omega), (show 8 + (3 + 11) + 0 ≤ 24 by omega)⟩) (zVq (ci := 0) (q0 := 0) (q := (RX0, TX0, 17)) hK (hP.sub (ws' := (bW bh br cI cJ cB (nI cc) nA mA aA (fun j => nI (fcA j)) fA (fun j => nI (mcA j)) mmA wA tcA g1A g2A nuA (fun j => nI (erA j)) reA (fun j => nI (liA j)) (fun j => nI (lcA j)))) [0, 1, 2, 3, 4, 5, 6, 7, 8, 9, 10, 11, 12, 13, 14, 15, 16] rfl) hE rfl rfl rfl) rfl rfl hl.1 rfl (lv_room (Nat.le_of_ble_eq_true rfl)) dX0_withBody_48 ⟨(show 0 + 0 ≤ 0 by omega), (show 0 + 0 ≤ 0 by omega)⟩) (fun r3 hw => ?_)
          have hw : (r3 = 0 ∨ r3 = 1) := hw
          have w0r3 := hw
          refine lv_if_ne (tgt := 61) hx hb dX0_withBody_51 (by decide) (fun cp51 => ?_) (fun cp51 => ?_)
          · obtain ⟨x4, ex4⟩ : ∃ y : Int32, y = (nI c4) + 1 := ⟨_, rfl⟩
            refine lv_iinc (v := x4) (lv' := [(4, .int x4), (5, .int (nI k2)), (0, .ref bh), (1, .int fx), (2, .ref sg), (3, .int bo)]) hx hb dX0_withBody_61 hl (k := 5) rfl (by rw [ex4]; rfl) (by decide) rfl (fun ls hl => ?_)
            obtain rfl : x4 = nI (c4 + 1) := by rw [ex4]; exact nI_add (c4) 1
            refine lv_goto (tgt := 5) hx hb dX0_withBody_64 (by decide) ?_
            exact ih5 bo (c4 + 1) ls (by omega) (by first | omega | assumption | trivial) (lv_sub hl [2, 3, 4, 5, 0] rfl)
          · refine lv_iload_n hx hb dX0_withBody_54 rfl (lv_at hl 4 rfl) ?_
            refine lv_iconst (v := 1) hx hb dX0_withBody_55 (by decide) ?_
            refine lv_iload hx hb dX0_withBody_56 (lv_at hl 5 rfl) ?_
            refine lv_ishl hx hb dX0_withBody_58 ?_
            refine lv_topi (fun x5 ex5 => ?_)
            refine lv_ior hx hb dX0_withBody_59 ?_
            refine lv_topi (fun x6 ex6 => ?_)
            refine lv_istore_n (lv' := [(3, .int x6), (5, .int (nI k2)), (0, .ref bh), (1, .int fx), (2, .ref sg), (4, .int (nI c4))]) hx hb dX0_withBody_60 rfl hl (by decide) rfl (fun ls hl => ?_)
            obtain ⟨x7, ex7⟩ : ∃ y : Int32, y = (nI c4) + 1 := ⟨_, rfl⟩
            refine lv_iinc (v := x7) (lv' := [(4, .int x7), (3, .int x6), (5, .int (nI k2)), (0, .ref bh), (1, .int fx), (2, .ref sg)]) hx hb dX0_withBody_61 hl (k := 5) rfl (by rw [ex7]; rfl) (by decide) rfl (fun ls hl => ?_)
            obtain rfl : x7 = nI (c4 + 1) := by rw [ex7]; exact nI_add (c4) 1
            refine lv_goto (tgt := 5) hx hb dX0_withBody_64 (by decide) ?_
            exact ih5 x6 (c4 + 1) ls (by omega) (by first | omega | assumption | trivial) (lv_sub hl [3, 4, 5, 1, 0] rfl)
      refine lv_iload hx hb dX0_withBody_5 (lv_at hl 4 rfl) ?_
      refine lv_aload_n hx hb dX0_withBody_7 rfl (lv_at hl 0 rfl) ?_
      refine va_get (D := (dC, dI)) (ci := 0) (v := .int (nI cc)) (C := RX0) (T := TX0) (N := 17) hx hb hts hiX0 hown hK hP 0 rfl rfl 0 (by decide) (hts (.fieldLink RX0 61 "LinkModels$Build" "classCount" "I") (by decide +kernel)) (fun _ h9 => h9) rfl dX0_withBody_8 ?_
      refine lv_icmp_ge (tgt := 67) hx hb dX0_withBody_11 (by decide) (fun cp11 => ?_) (fun cp11 => ?_)
      · have qcp11 : cc ≤ c4 := (nI_leI (a := cc) (b := c4) (by omega) (by omega)).mp cp11
        refine lv_iload_n hx hb dX0_withBody_67 rfl (lv_at hl 3 rfl) ?_
        exact W.iret (v := bo) hx hb hr (fun t ht hW => ⟨bo, rfl, trivial, ht⟩) (fun _ h => by cases h) dX0_withBody_68
      · have qcp11 : ¬ cc ≤ c4 := fun h9 => cp11 ((nI_leI (a := cc) (b := c4) (by omega) (by omega)).mpr h9)
        refine lv_iload_n hx hb dX0_withBody_14 rfl (lv_at hl 1 rfl) ?_
        refine lv_iload hx hb dX0_withBody_15 (lv_at hl 4 rfl) ?_
        refine lv_ishr hx hb dX0_withBody_17 ?_
        refine lv_topi (fun x8 ex8 => ?_)
        refine lv_iconst (v := 1) hx hb dX0_withBody_18 (by decide) ?_
        refine lv_iand hx hb dX0_withBody_19 ?_
        refine lv_topi (fun x9 ex9 => ?_)
        refine lv_iconst (v := 1) hx hb dX0_withBody_20 (by decide) ?_
        refine lv_icmp_ne (tgt := 34) hx hb dX0_withBody_21 (by decide) (fun cp21 => ?_) (fun cp21 => ?_)
        · refine lv_iconst (v := (-1)) hx hb dX0_withBody_34 (by decide) ?_
          exact J35 (-1 : Int32) ls  (Or.inl rfl) (by first | omega | assumption | trivial) (lv_sub hl [0, 1, 2, 3, 4] rfl)
        · refine lv_aload_n hx hb dX0_withBody_24 rfl (lv_at hl 0 rfl) ?_
          refine lv_iload hx hb dX0_withBody_25 (lv_at hl 4 rfl) ?_
          refine lv_aload_n hx hb dX0_withBody_27 rfl (lv_at hl 2 rfl) ?_
          refine vp_callSi (W.runV (As := [.int (nI c4), .ref sg]) (rest := []) ⟨hx, hb, hml, hown, hts⟩ (kX0_methodIn l dC dI bh br sg cI cJ cB cc nA mA aA fcA fA mcA mmA wA tcA g1A g2A nuA erA reA liA lcA sw st sf sq ⟨by omega, hfcA, hmcA, herA, hliA, hlcA⟩ c4 (by first | omega | assumption | trivial)) (cwV 2 hts zgX0_withBody_X0_methodIn_94 rfl rfl rfl (by decide +kernel) ⟨(show 0 + 1 ≤ 1 by omega), (show 8 + (5 + 11) + 0 ≤ 24 by omega)⟩) (zVq (ci := 0) (q0 := 0) (q := (RX0, TX0, 17)) hK hP hE rfl rfl rfl) rfl rfl hl.1 rfl (lv_room (Nat.le_of_ble_eq_true rfl)) dX0_withBody_28 ⟨(show 0 + 0 ≤ 0 by omega), (show 0 + 0 ≤ 0 by omega)⟩) (fun r10 hw => ?_)
          have hw : (zM r10 (fun k => k < 208)) := hw
          have w0r10 := hw
          refine lv_goto (tgt := 35) hx hb dX0_withBody_31 (by decide) ?_
          exact J35 r10 ls  (zM.imp w0r10 (fun k hk hq => by first | exact hq | trivial | omega)) (by first | omega | assumption | trivial) (lv_sub hl [0, 1, 2, 3, 4] rfl)
  refine lv_iconst (v := 0) hx hb dX0_withBody_0 (by decide) ?_
  refine lv_istore_n (lv' := [(3, .int 0), (0, .ref bh), (1, .int fx), (2, .ref sg)]) hx hb dX0_withBody_1 rfl hl (by decide) rfl (fun ls hl => ?_)
  refine lv_iconst (v := 0) hx hb dX0_withBody_2 (by decide) ?_
  refine lv_istore (lv' := [(4, .int 0), (3, .int 0), (0, .ref bh), (1, .int fx), (2, .ref sg)]) hx hb dX0_withBody_3 hl (by decide) rfl (fun ls hl => ?_)
  exact J5 _ (0 : Int32) 0 ls (Nat.lt_succ_self _) (by first | omega | assumption | trivial) (lv_sub hl [2, 3, 4, 1, 0] rfl)
theorem dX0_firstMethodOf_0 : decode cX0_firstMethodOf 0 = .ok (.iconst 0, 1) := by decide +kernel
theorem dX0_firstMethodOf_1 : decode cX0_firstMethodOf 1 = .ok (.istore 4, 2) := by decide +kernel
theorem dX0_firstMethodOf_3 : decode cX0_firstMethodOf 3 = .ok (.iload 4, 2) := by decide +kernel
theorem dX0_firstMethodOf_5 : decode cX0_firstMethodOf 5 = .ok (.aload_n 0, 1) := by decide +kernel
theorem dX0_firstMethodOf_6 : decode cX0_firstMethodOf 6 = .ok (.getfield 58, 3) := by decide +kernel
theorem dX0_firstMethodOf_9 : decode cX0_firstMethodOf 9 = .ok (.iload_n 2, 1) := by decide +kernel
theorem dX0_firstMethodOf_10 : decode cX0_firstMethodOf 10 = .ok (.iaload, 1) := by decide +kernel
theorem dX0_firstMethodOf_11 : decode cX0_firstMethodOf 11 = .ok (.if_icmp .ge 41, 3) := by decide +kernel
theorem dX0_firstMethodOf_14 : decode cX0_firstMethodOf 14 = .ok (.aload_n 0, 1) := by decide +kernel
theorem dX0_firstMethodOf_15 : decode cX0_firstMethodOf 15 = .ok (.getfield 55, 3) := by decide +kernel
theorem dX0_firstMethodOf_18 : decode cX0_firstMethodOf 18 = .ok (.iload_n 2, 1) := by decide +kernel
theorem dX0_firstMethodOf_19 : decode cX0_firstMethodOf 19 = .ok (.bipush 16, 2) := by decide +kernel
theorem dX0_firstMethodOf_21 : decode cX0_firstMethodOf 21 = .ok (.imul, 1) := by decide +kernel
theorem dX0_firstMethodOf_22 : decode cX0_firstMethodOf 22 = .ok (.iload 4, 2) := by decide +kernel
theorem dX0_firstMethodOf_24 : decode cX0_firstMethodOf 24 = .ok (.iadd, 1) := by decide +kernel
theorem dX0_firstMethodOf_25 : decode cX0_firstMethodOf 25 = .ok (.iaload, 1) := by decide +kernel
theorem dX0_firstMethodOf_26 : decode cX0_firstMethodOf 26 = .ok (.istore 5, 2) := by decide +kernel
theorem dX0_firstMethodOf_28 : decode cX0_firstMethodOf 28 = .ok (.iload_n 1, 1) := by decide +kernel
theorem dX0_firstMethodOf_29 : decode cX0_firstMethodOf 29 = .ok (.iload 5, 2) := by decide +kernel
theorem dX0_firstMethodOf_31 : decode cX0_firstMethodOf 31 = .ok (.ishr, 1) := by decide +kernel
theorem dX0_firstMethodOf_32 : decode cX0_firstMethodOf 32 = .ok (.iconst 1, 1) := by decide +kernel
theorem dX0_firstMethodOf_33 : decode cX0_firstMethodOf 33 = .ok (.iand, 1) := by decide +kernel
theorem dX0_firstMethodOf_34 : decode cX0_firstMethodOf 34 = .ok (.iconst 1, 1) := by decide +kernel
theorem dX0_firstMethodOf_35 : decode cX0_firstMethodOf 35 = .ok (.if_icmp .ne 11, 3) := by decide +kernel
theorem dX0_firstMethodOf_38 : decode cX0_firstMethodOf 38 = .ok (.aload_n 0, 1) := by decide +kernel
theorem dX0_firstMethodOf_39 : decode cX0_firstMethodOf 39 = .ok (.iload 5, 2) := by decide +kernel
theorem dX0_firstMethodOf_41 : decode cX0_firstMethodOf 41 = .ok (.aload_n 3, 1) := by decide +kernel
theorem dX0_firstMethodOf_42 : decode cX0_firstMethodOf 42 = .ok (.invokevirtual 94, 3) := by decide +kernel
theorem dX0_firstMethodOf_45 : decode cX0_firstMethodOf 45 = .ok (.ireturn, 1) := by decide +kernel
theorem dX0_firstMethodOf_46 : decode cX0_firstMethodOf 46 = .ok (.iinc 4 1, 3) := by decide +kernel
theorem dX0_firstMethodOf_49 : decode cX0_firstMethodOf 49 = .ok (.goto (-46), 3) := by decide +kernel
theorem dX0_firstMethodOf_52 : decode cX0_firstMethodOf 52 = .ok (.iconst (-1), 1) := by decide +kernel
theorem dX0_firstMethodOf_53 : decode cX0_firstMethodOf 53 = .ok (.ireturn, 1) := by decide +kernel
def zwX0_firstMethodOf : List Cond := .code yX0_firstMethodOf cX0_firstMethodOf 6 (some .int) :: ([.fieldLink RX0 58 "LinkModels$Build" "lineCounts" "[I", .fieldLink RX0 55 "LinkModels$Build" "lines" "[I", .methodLink RX0 94 yX0_methodIn, .instanceMethod yX0_methodIn, .selects RX0 yX0_methodIn yX0_methodIn, .initialized RX0, .code yX0_methodIn cX0_methodIn 5 (some .int), .fieldLink RX0 37 "LinkModels$Build" "typeCounts" "[I", .fieldLink RX0 71 "LinkModels$Signature" "typeCount" "I", .fieldLink RX0 40 "LinkModels$Build" "firsts" "[I", .fieldLink RX0 74 "LinkModels$Signature" "first" "I", .fieldLink RX0 43 "LinkModels$Build" "seconds" "[I", .fieldLink RX0 77 "LinkModels$Signature" "second" "I", .fieldLink RX0 27 "LinkModels$Build" "memberCounts" "[I", .fieldLink RX0 33 "LinkModels$Build" "words" "[J", .fieldLink RX0 65 "LinkModels$Signature" "word" "J", .fieldLink RX0 30 "LinkModels$Build" "memberMarks" "[I"] ++ wsX00 ++ wsX30)
theorem zgX0_firstMethodOf_X0_methodIn_94 : GoodIn zwX0_firstMethodOf (wsV RX0 94 RX0 yX0_methodIn zwX0_methodIn) := goodIn_app (goodIn_r _ [3, 4, 5, 6] rfl (by decide +kernel)) (goodIn_app (goodIn_app (goodIn_r _ [7, 8, 9, 10, 11, 12, 13, 14, 15, 16, 17] rfl (by decide +kernel)) (fun w hw => ⟨(List.mem_cons_of_mem _ (List.mem_append_left _ (List.mem_append_right _ hw))), good_of_word (List.all_eq_true.mp zgX0 w hw)⟩)) (fun w hw => ⟨(List.mem_cons_of_mem _ (List.mem_append_right _ hw)), good_of_word (List.all_eq_true.mp zgX3 w hw)⟩))
set_option maxHeartbeats 4000000 in
set_option maxRecDepth 100000 in
theorem kX0_firstMethodOf (l : Launch) (dC : Nat → ClassId) (dI : Nat → Nat → Nat) (bh : Nat) (br : Nat → Nat) (sg : Nat) (cI : ClassId) (cJ : ClassId) (cB : ClassId) (cc : Nat) (nA : Nat → Int32) (mA : Nat → Int32) (aA : Nat → Int32) (fcA : Nat → Nat) (fA : Nat → Int32) (mcA : Nat → Nat) (mmA : Nat → Int32) (wA : Nat → Int64) (tcA : Nat → Int32) (g1A : Nat → Int32) (g2A : Nat → Int32) (nuA : Nat → Int32) (erA : Nat → Nat) (reA : Nat → Int32) (liA : Nat → Nat) (lcA : Nat → Nat) (sw : Int64) (st : Int32) (sf : Int32) (sq : Int32) (hI : bsWI cc fcA mcA erA liA lcA) (fx : Int32) (ci : Nat) (hp0 : ci < 16) : Met l yX0_firstMethodOf zwX0_firstMethodOf ({ frames := 1, cells := 0, slots := 0, locals := 24 }) (zPq dC dI [.ref bh, .int fx, .int (nI ci), .ref sg] (bsW bh br sg cI cJ cB (nI cc) nA mA aA (fun j => nI (fcA j)) fA (fun j => nI (mcA j)) mmA wA tcA g1A g2A nuA (fun j => nI (erA j)) reA (fun j => nI (liA j)) (fun j => nI (lcA j)) sw st sf sq) [(cI, .int), (cJ, .long), (cB, .byte)]) (vp_Si (fun r => (zM r (fun k => k < 208)))) 0 0 (fun _ => False) := by
  refine Met.ofW (cc := cX0_firstMethodOf) (maxL := 6) (ret := (some .int)) (by decide) rfl ?_
  intro p e s m args below meth c s₁ B hml hv
  obtain ⟨rfl, hP, hK, hE⟩ := hv
  have hx := B.exec
  have hb := B.bytes
  have hr := B.returns
  have hts := atoms_spec (ws := zwX0_firstMethodOf) B.pre
  have hown : s.vm.findClass RX0 = some m.cls := findClass_of_methodNamed B.named
  have hiX0 : ∀ w ∈ wsX00, w ∈ zwX0_firstMethodOf := (fun w hw => (List.mem_cons_of_mem _ (List.mem_append_left _ (List.mem_append_right _ hw))))
  obtain ⟨hcc, hfcA, hmcA, herA, hliA, hlcA⟩ := hI
  have hl9 := hlcA ci
  have hl := lv_entry ([.ref bh, .int fx, .int (nI ci), .ref sg]) (n := 6) (Nat.le_of_ble_eq_true rfl)
  rw [lg_entry_eq]
  generalize (lg_sl ([.ref bh, .int fx, .int (nI ci), .ref sg]) ++ List.replicate (6 - (lg_sl ([.ref bh, .int fx, .int (nI ci), .ref sg])).length) Slot.unset).toArray = ls at hl ⊢
  have hl : lv_has ls 6 [(0, .ref bh), (1, .int fx), (2, .int (nI ci)), (3, .ref sg)] := hl
  have J3 : ∀ (z3 : Nat) (ii : Nat) (ls : Array Slot), lcA ci - ii < z3 → (ii ≤ lcA ci) → lv_has ls 6 [(0, .ref bh), (1, .int fx), (2, .int (nI ci)), (3, .ref sg), (4, .int (nI ii))] → W p l e (headSpec zwX0_firstMethodOf { frames := 1, cells := 0, slots := 0, locals := 24 }).room s m (([.ref bh, .int fx, .int (nI ci), .ref sg] : List Value).toArray) below meth c s.heap [] 0 0 (MQ below (vp_Si (fun r => (zM r (fun k => k < 208)))) (([.ref bh, .int fx, .int (nI ci), .ref sg] : List Value).toArray) s 0 0 (fun _ => False)) (F0 m 3 ls []) := by
    intro z3
    induction z3 with
    | zero => intro ii ls h9; exact absurd h9 (Nat.not_lt_zero _)
    | succ z3 ih3 =>
      intro ii ls hm3 i3_0 hl
      refine lv_iload hx hb dX0_firstMethodOf_3 (lv_at hl 4 rfl) ?_
      refine lv_aload_n hx hb dX0_firstMethodOf_5 rfl (lv_at hl 0 rfl) ?_
      refine va_get (D := (dC, dI)) (ci := 0) (v := .ref (br 16)) (C := RX0) (T := TX0) (N := 17) hx hb hts hiX0 hown hK hP 0 rfl rfl 16 (by decide) (hts (.fieldLink RX0 58 "LinkModels$Build" "lineCounts" "[I") (by decide +kernel)) (fun _ h9 => h9) rfl dX0_firstMethodOf_6 ?_
      refine lv_iload_n hx hb dX0_firstMethodOf_9 rfl (lv_at hl 2 rfl) ?_
      refine va_iald hx hb hK hP 16 0 rfl rfl (vp_in_nI (show ci < 16 by omega) (by decide)) dX0_firstMethodOf_10 ?_
      refine lv_topi (fun x1 ex1 => ?_)
      obtain rfl : x1 = nI (lcA ci) := by rw [ex1, nI_clamp (show ci < 2 ^ 31 by omega)]
      have hqx1 := hlcA ci
      refine lv_icmp_ge (tgt := 52) hx hb dX0_firstMethodOf_11 (by decide) (fun cp11 => ?_) (fun cp11 => ?_)
      · have qcp11 : (lcA ci) ≤ ii := (nI_leI (a := lcA ci) (b := ii) (by omega) (by omega)).mp cp11
        refine lv_iconst (v := (-1)) hx hb dX0_firstMethodOf_52 (by decide) ?_
        exact W.iret (v := (-1 : Int32)) hx hb hr (fun t ht hW => ⟨(-1 : Int32), rfl, (Or.inl rfl), ht⟩) (fun _ h => by cases h) dX0_firstMethodOf_53
      · have qcp11 : ¬ (lcA ci) ≤ ii := fun h9 => cp11 ((nI_leI (a := lcA ci) (b := ii) (by omega) (by omega)).mpr h9)
        refine lv_aload_n hx hb dX0_firstMethodOf_14 rfl (lv_at hl 0 rfl) ?_
        refine va_get (D := (dC, dI)) (ci := 0) (v := .ref (br 15)) (C := RX0) (T := TX0) (N := 17) hx hb hts hiX0 hown hK hP 0 rfl rfl 15 (by decide) (hts (.fieldLink RX0 55 "LinkModels$Build" "lines" "[I") (by decide +kernel)) (fun _ h9 => h9) rfl dX0_firstMethodOf_15 ?_
        refine lv_iload_n hx hb dX0_firstMethodOf_18 rfl (lv_at hl 2 rfl) ?_
        refine lv_bipush (v := 16) hx hb dX0_firstMethodOf_19 (by decide) ?_
        refine lv_imul hx hb dX0_firstMethodOf_21 ?_
        refine lv_topi (fun x2 ex2 => ?_)
        obtain rfl : x2 = nI (ci * 16) := by rw [ex2]; exact pk_mul (ci) (16)
        refine lv_iload hx hb dX0_firstMethodOf_22 (lv_at hl 4 rfl) ?_
        refine lv_iadd hx hb dX0_firstMethodOf_24 ?_
        refine lv_topi (fun x3 ex3 => ?_)
        obtain rfl : x3 = nI ((ci * 16) + ii) := by rw [ex3]; exact nI_add (ci * 16) (ii)
        refine va_iald hx hb hK hP 15 0 rfl rfl (vp_in_nI (show (ci * 16) + ii < 256 by omega) (by decide)) dX0_firstMethodOf_25 ?_
        refine lv_topi (fun x4 ex4 => ?_)
        obtain rfl : x4 = nI (liA ((ci * 16) + ii)) := by rw [ex4, nI_clamp (show (ci * 16) + ii < 2 ^ 31 by omega)]
        have hqx4 := hliA ((ci * 16) + ii)
        refine lv_istore (lv' := [(5, .int (nI (liA ((ci * 16) + ii)))), (0, .ref bh), (1, .int fx), (2, .int (nI ci)), (3, .ref sg), (4, .int (nI ii))]) hx hb dX0_firstMethodOf_26 hl (by decide) rfl (fun ls hl => ?_)
        refine lv_iload_n hx hb dX0_firstMethodOf_28 rfl (lv_at hl 2 rfl) ?_
        refine lv_iload hx hb dX0_firstMethodOf_29 (lv_at hl 0 rfl) ?_
        refine lv_ishr hx hb dX0_firstMethodOf_31 ?_
        refine lv_topi (fun x5 ex5 => ?_)
        refine lv_iconst (v := 1) hx hb dX0_firstMethodOf_32 (by decide) ?_
        refine lv_iand hx hb dX0_firstMethodOf_33 ?_
        refine lv_topi (fun x6 ex6 => ?_)
        refine lv_iconst (v := 1) hx hb dX0_firstMethodOf_34 (by decide) ?_
        refine lv_icmp_ne (tgt := 46) hx hb dX0_firstMethodOf_35 (by decide) (fun cp35 => ?_) (fun cp35 => ?_)
        · obtain ⟨x7, ex7⟩ : ∃ y : Int32, y = (nI ii) + 1 := ⟨_, rfl⟩
          refine lv_iinc (v := x7) (lv' := [(4, .int x7), (5, .int (nI (liA ((ci * 16) + ii)))), (0, .ref bh), (1, .int fx), (2, .int (nI ci)), (3, .ref sg)]) hx hb dX0_firstMethodOf_46 hl (k := 5) rfl (by rw [ex7]; rfl) (by decide) rfl (fun ls hl => ?_)
          obtain rfl : x7 = nI (ii + 1) := by rw [ex7]; exact nI_add (ii) 1
          refine lv_goto (tgt := 3) hx hb dX0_firstMethodOf_49 (by decide) ?_
          exact ih3 (ii + 1) ls (by omega) (by first | omega | assumption | trivial) (lv_sub hl [2, 3, 4, 5, 0] rfl)
        · refine lv_aload_n hx hb dX0_firstMethodOf_38 rfl (lv_at hl 1 rfl) ?_
          refine lv_iload hx hb dX0_firstMethodOf_39 (lv_at hl 0 rfl) ?_
          refine lv_aload_n hx hb dX0_firstMethodOf_41 rfl (lv_at hl 4 rfl) ?_
          refine vp_callSi (W.runV (As := [.int (nI (liA ((ci * 16) + ii))), .ref sg]) (rest := []) ⟨hx, hb, hml, hown, hts⟩ (kX0_methodIn l dC dI bh br sg cI cJ cB cc nA mA aA fcA fA mcA mmA wA tcA g1A g2A nuA erA reA liA lcA sw st sf sq ⟨by omega, hfcA, hmcA, herA, hliA, hlcA⟩ (liA ((ci * 16) + ii)) (by first | omega | assumption | trivial)) (cwV 2 hts zgX0_firstMethodOf_X0_methodIn_94 rfl rfl rfl (by decide +kernel) ⟨(show 0 + 1 ≤ 1 by omega), (show 8 + (5 + 11) + 0 ≤ 24 by omega)⟩) (zVq (ci := 0) (q0 := 0) (q := (RX0, TX0, 17)) hK hP hE rfl rfl rfl) rfl rfl hl.1 rfl (lv_room (Nat.le_of_ble_eq_true rfl)) dX0_firstMethodOf_42 ⟨(show 0 + 0 ≤ 0 by omega), (show 0 + 0 ≤ 0 by omega)⟩) (fun r8 hw => ?_)
          have hw : (zM r8 (fun k => k < 208)) := hw
          have w0r8 := hw
          exact W.iret (v := r8) hx hb hr (fun t ht hW => ⟨r8, rfl, (zM.imp w0r8 (fun k hk hq => by first | exact hq | trivial | omega)), ht⟩) (fun _ h => by cases h) dX0_firstMethodOf_45
  refine lv_iconst (v := 0) hx hb dX0_firstMethodOf_0 (by decide) ?_
  refine lv_istore (lv' := [(4, .int 0), (0, .ref bh), (1, .int fx), (2, .int (nI ci)), (3, .ref sg)]) hx hb dX0_firstMethodOf_1 hl (by decide) rfl (fun ls hl => ?_)
  exact J3 _ 0 ls (Nat.lt_succ_self _) (by first | omega | assumption | trivial) (lv_sub hl [1, 2, 3, 4, 0] rfl)
theorem dX0_bitOf_0 : decode cX0_bitOf 0 = .ok (.aload_n 0, 1) := by decide +kernel
theorem dX0_bitOf_1 : decode cX0_bitOf 1 = .ok (.iload_n 1, 1) := by decide +kernel
theorem dX0_bitOf_2 : decode cX0_bitOf 2 = .ok (.invokevirtual 109, 3) := by decide +kernel
theorem dX0_bitOf_5 : decode cX0_bitOf 5 = .ok (.istore_n 2, 1) := by decide +kernel
theorem dX0_bitOf_6 : decode cX0_bitOf 6 = .ok (.iload_n 2, 1) := by decide +kernel
theorem dX0_bitOf_7 : decode cX0_bitOf 7 = .ok (.iconst (-1), 1) := by decide +kernel
theorem dX0_bitOf_8 : decode cX0_bitOf 8 = .ok (.if_icmp .ne 7, 3) := by decide +kernel
theorem dX0_bitOf_11 : decode cX0_bitOf 11 = .ok (.iconst 0, 1) := by decide +kernel
theorem dX0_bitOf_12 : decode cX0_bitOf 12 = .ok (.goto 6, 3) := by decide +kernel
theorem dX0_bitOf_15 : decode cX0_bitOf 15 = .ok (.iconst 1, 1) := by decide +kernel
theorem dX0_bitOf_16 : decode cX0_bitOf 16 = .ok (.iload_n 2, 1) := by decide +kernel
theorem dX0_bitOf_17 : decode cX0_bitOf 17 = .ok (.ishl, 1) := by decide +kernel
theorem dX0_bitOf_18 : decode cX0_bitOf 18 = .ok (.ireturn, 1) := by decide +kernel
def zwX0_bitOf : List Cond := .code yX0_bitOf cX0_bitOf 3 (some .int) :: ([.methodLink RX0 109 yX0_placeOf, .instanceMethod yX0_placeOf, .selects RX0 yX0_placeOf yX0_placeOf, .initialized RX0, .code yX0_placeOf cX0_placeOf 3 (some .int), .fieldLink RX0 61 "LinkModels$Build" "classCount" "I", .fieldLink RX0 11 "LinkModels$Build" "names" "[I"] ++ wsX00)
theorem zgX0_bitOf_X0_placeOf_109 : GoodIn zwX0_bitOf (wsV RX0 109 RX0 yX0_placeOf zwX0_placeOf) := goodIn_app (goodIn_r _ [1, 2, 3, 4] rfl (by decide +kernel)) (goodIn_app (goodIn_r _ [5, 6, 7] rfl (by decide +kernel)) (fun w hw => ⟨(List.mem_cons_of_mem _ (List.mem_append_right _ hw)), good_of_word (List.all_eq_true.mp zgX0 w hw)⟩))
set_option maxHeartbeats 4000000 in
set_option maxRecDepth 100000 in
theorem kX0_bitOf (l : Launch) (dC : Nat → ClassId) (dI : Nat → Nat → Nat) (bh : Nat) (br : Nat → Nat) (cI : ClassId) (cJ : ClassId) (cB : ClassId) (cc : Nat) (nA : Nat → Int32) (mA : Nat → Int32) (aA : Nat → Int32) (fcA : Nat → Nat) (fA : Nat → Int32) (mcA : Nat → Nat) (mmA : Nat → Int32) (wA : Nat → Int64) (tcA : Nat → Int32) (g1A : Nat → Int32) (g2A : Nat → Int32) (nuA : Nat → Int32) (erA : Nat → Nat) (reA : Nat → Int32) (liA : Nat → Nat) (lcA : Nat → Nat) (hI : bWI cc fcA mcA erA liA lcA) (nm : Int32) : Met l yX0_bitOf zwX0_bitOf ({ frames := 1, cells := 0, slots := 0, locals := 22 }) (zPq dC dI [.ref bh, .int nm] (bW bh br cI cJ cB (nI cc) nA mA aA (fun j => nI (fcA j)) fA (fun j => nI (mcA j)) mmA wA tcA g1A g2A nuA (fun j => nI (erA j)) reA (fun j => nI (liA j)) (fun j => nI (lcA j))) [(cI, .int), (cJ, .long), (cB, .byte)]) (vp_Si (fun r => (True))) 0 0 (fun _ => False) := by
  refine Met.ofW (cc := cX0_bitOf) (maxL := 3) (ret := (some .int)) (by decide) rfl ?_
  intro p e s m args below meth c s₁ B hml hv
  obtain ⟨rfl, hP, hK, hE⟩ := hv
  have hx := B.exec
  have hb := B.bytes
  have hr := B.returns
  have hts := atoms_spec (ws := zwX0_bitOf) B.pre
  have hown : s.vm.findClass RX0 = some m.cls := findClass_of_methodNamed B.named
  obtain ⟨hcc, hfcA, hmcA, herA, hliA, hlcA⟩ := hI
  have hl := lv_entry ([.ref bh, .int nm]) (n := 3) (Nat.le_of_ble_eq_true rfl)
  rw [lg_entry_eq]
  generalize (lg_sl ([.ref bh, .int nm]) ++ List.replicate (3 - (lg_sl ([.ref bh, .int nm])).length) Slot.unset).toArray = ls at hl ⊢
  have hl : lv_has ls 3 [(0, .ref bh), (1, .int nm)] := hl
  refine lv_aload_n hx hb dX0_bitOf_0 rfl (lv_at hl 0 rfl) ?_
  refine lv_iload_n hx hb dX0_bitOf_1 rfl (lv_at hl 1 rfl) ?_
  refine vp_callSi (W.runV (As := [.int nm]) (rest := []) ⟨hx, hb, hml, hown, hts⟩ (kX0_placeOf l dC dI bh br cI cJ cB cc nA mA aA fcA fA mcA mmA wA tcA g1A g2A nuA erA reA liA lcA ⟨by omega, hfcA, hmcA, herA, hliA, hlcA⟩ nm) (cwV 1 hts zgX0_bitOf_X0_placeOf_109 rfl rfl rfl (by decide +kernel) ⟨(show 0 + 1 ≤ 1 by omega), (show 8 + (3 + 11) + 0 ≤ 22 by omega)⟩) (zVq (ci := 0) (q0 := 0) (q := (RX0, TX0, 17)) hK hP hE rfl rfl rfl) rfl rfl hl.1 rfl (lv_room (Nat.le_of_ble_eq_true rfl)) dX0_bitOf_2 ⟨(show 0 + 0 ≤ 0 by omega), (show 0 + 0 ≤ 0 by omega)⟩) (fun r1 hw => ?_)
  have hw : (zM r1 (fun k => k < cc)) := hw
  have w0r1 := hw
  refine lv_istore_n (lv' := [(2, .int r1), (0, .ref bh), (1, .int nm)]) hx hb dX0_bitOf_5 rfl hl (by decide) rfl (fun ls hl => ?_)
  refine lv_iload_n hx hb dX0_bitOf_6 rfl (lv_at hl 0 rfl) ?_
  refine lv_iconst (v := (-1)) hx hb dX0_bitOf_7 (by decide) ?_
  refine lv_icmp_ne (tgt := 15) hx hb dX0_bitOf_8 (by decide) (fun cp8 => ?_) (fun cp8 => ?_)
  · obtain ⟨k2, hBk2, hQk2, rfl⟩ := w0r1.resolve_left cp8
    refine lv_iconst (v := 1) hx hb dX0_bitOf_15 (by decide) ?_
    refine lv_iload_n hx hb dX0_bitOf_16 rfl (lv_at hl 0 rfl) ?_
    refine lv_ishl hx hb dX0_bitOf_17 ?_
    refine lv_topi (fun x3 ex3 => ?_)
    exact W.iret (v := x3) hx hb hr (fun t ht hW => ⟨x3, rfl, trivial, ht⟩) (fun _ h => by cases h) dX0_bitOf_18
  · obtain rfl : r1 = -1 := cp8
    refine lv_iconst (v := 0) hx hb dX0_bitOf_11 (by decide) ?_
    refine lv_goto (tgt := 18) hx hb dX0_bitOf_12 (by decide) ?_
    exact W.iret (v := (0 : Int32)) hx hb hr (fun t ht hW => ⟨(0 : Int32), rfl, trivial, ht⟩) (fun _ h => by cases h) dX0_bitOf_18
theorem dX0_isInLine_0 : decode cX0_isInLine 0 = .ok (.iconst 0, 1) := by decide +kernel
theorem dX0_isInLine_1 : decode cX0_isInLine 1 = .ok (.istore_n 3, 1) := by decide +kernel
theorem dX0_isInLine_2 : decode cX0_isInLine 2 = .ok (.iload_n 3, 1) := by decide +kernel
theorem dX0_isInLine_3 : decode cX0_isInLine 3 = .ok (.aload_n 0, 1) := by decide +kernel
theorem dX0_isInLine_4 : decode cX0_isInLine 4 = .ok (.getfield 58, 3) := by decide +kernel
theorem dX0_isInLine_7 : decode cX0_isInLine 7 = .ok (.iload_n 1, 1) := by decide +kernel
theorem dX0_isInLine_8 : decode cX0_isInLine 8 = .ok (.iaload, 1) := by decide +kernel
theorem dX0_isInLine_9 : decode cX0_isInLine 9 = .ok (.if_icmp .ge 26, 3) := by decide +kernel
theorem dX0_isInLine_12 : decode cX0_isInLine 12 = .ok (.aload_n 0, 1) := by decide +kernel
theorem dX0_isInLine_13 : decode cX0_isInLine 13 = .ok (.getfield 55, 3) := by decide +kernel
theorem dX0_isInLine_16 : decode cX0_isInLine 16 = .ok (.iload_n 1, 1) := by decide +kernel
theorem dX0_isInLine_17 : decode cX0_isInLine 17 = .ok (.bipush 16, 2) := by decide +kernel
theorem dX0_isInLine_19 : decode cX0_isInLine 19 = .ok (.imul, 1) := by decide +kernel
theorem dX0_isInLine_20 : decode cX0_isInLine 20 = .ok (.iload_n 3, 1) := by decide +kernel
theorem dX0_isInLine_21 : decode cX0_isInLine 21 = .ok (.iadd, 1) := by decide +kernel
theorem dX0_isInLine_22 : decode cX0_isInLine 22 = .ok (.iaload, 1) := by decide +kernel
theorem dX0_isInLine_23 : decode cX0_isInLine 23 = .ok (.iload_n 2, 1) := by decide +kernel
theorem dX0_isInLine_24 : decode cX0_isInLine 24 = .ok (.if_icmp .ne 5, 3) := by decide +kernel
theorem dX0_isInLine_27 : decode cX0_isInLine 27 = .ok (.iconst 1, 1) := by decide +kernel
theorem dX0_isInLine_28 : decode cX0_isInLine 28 = .ok (.ireturn, 1) := by decide +kernel
theorem dX0_isInLine_29 : decode cX0_isInLine 29 = .ok (.iinc 3 1, 3) := by decide +kernel
theorem dX0_isInLine_32 : decode cX0_isInLine 32 = .ok (.goto (-30), 3) := by decide +kernel
theorem dX0_isInLine_35 : decode cX0_isInLine 35 = .ok (.iconst 0, 1) := by decide +kernel
theorem dX0_isInLine_36 : decode cX0_isInLine 36 = .ok (.ireturn, 1) := by decide +kernel
def zwX0_isInLine : List Cond := .code yX0_isInLine cX0_isInLine 4 (some .boolean) :: ([.fieldLink RX0 58 "LinkModels$Build" "lineCounts" "[I", .fieldLink RX0 55 "LinkModels$Build" "lines" "[I"] ++ wsX00)
set_option maxHeartbeats 4000000 in
set_option maxRecDepth 100000 in
theorem kX0_isInLine (l : Launch) (dC : Nat → ClassId) (dI : Nat → Nat → Nat) (bh : Nat) (br : Nat → Nat) (cI : ClassId) (cJ : ClassId) (cB : ClassId) (cc : Nat) (nA : Nat → Int32) (mA : Nat → Int32) (aA : Nat → Int32) (fcA : Nat → Nat) (fA : Nat → Int32) (mcA : Nat → Nat) (mmA : Nat → Int32) (wA : Nat → Int64) (tcA : Nat → Int32) (g1A : Nat → Int32) (g2A : Nat → Int32) (nuA : Nat → Int32) (erA : Nat → Nat) (reA : Nat → Int32) (liA : Nat → Nat) (lcA : Nat → Nat) (hI : bWI cc fcA mcA erA liA lcA) (ci : Nat) (ax : Int32) (hp0 : ci < 16) : Met l yX0_isInLine zwX0_isInLine ({ frames := 0, cells := 0, slots := 0, locals := 0 }) (zPq dC dI [.ref bh, .int (nI ci), .int ax] (bW bh br cI cJ cB (nI cc) nA mA aA (fun j => nI (fcA j)) fA (fun j => nI (mcA j)) mmA wA tcA g1A g2A nuA (fun j => nI (erA j)) reA (fun j => nI (liA j)) (fun j => nI (lcA j))) [(cI, .int), (cJ, .long), (cB, .byte)]) (vp_Si (fun r => (r = 0 ∨ r = 1))) 0 0 (fun _ => False) := by
  refine Met.ofW (cc := cX0_isInLine) (maxL := 4) (ret := (some .boolean)) (by decide) rfl ?_
  intro p e s m args below meth c s₁ B hml hv
  obtain ⟨rfl, hP, hK, hE⟩ := hv
  have hx := B.exec
  have hb := B.bytes
  have hr := B.returns
  have hts := atoms_spec (ws := zwX0_isInLine) B.pre
  have hown : s.vm.findClass RX0 = some m.cls := findClass_of_methodNamed B.named
  have hiX0 : ∀ w ∈ wsX00, w ∈ zwX0_isInLine := (fun w hw => (List.mem_cons_of_mem _ (List.mem_append_right _ hw)))
  obtain ⟨hcc, hfcA, hmcA, herA, hliA, hlcA⟩ := hI
  have hl9 := hlcA ci
  have hl := lv_entry ([.ref bh, .int (nI ci), .int ax]) (n := 4) (Nat.le_of_ble_eq_true rfl)
  rw [lg_entry_eq]
  generalize (lg_sl ([.ref bh, .int (nI ci), .int ax]) ++ List.replicate (4 - (lg_sl ([.ref bh, .int (nI ci), .int ax])).length) Slot.unset).toArray = ls at hl ⊢
  have hl : lv_has ls 4 [(0, .ref bh), (1, .int (nI ci)), (2, .int ax)] := hl
  have J2 : ∀ (z2 : Nat) (ii : Nat) (ls : Array Slot), lcA ci - ii < z2 → (ii ≤ lcA ci) → lv_has ls 4 [(0, .ref bh), (1, .int (nI ci)), (2, .int ax), (3, .int (nI ii))] → W p l e (headSpec zwX0_isInLine { frames := 0, cells := 0, slots := 0, locals := 0 }).room s m (([.ref bh, .int (nI ci), .int ax] : List Value).toArray) below meth c s.heap [] 0 0 (MQ below (vp_Si (fun r => (r = 0 ∨ r = 1))) (([.ref bh, .int (nI ci), .int ax] : List Value).toArray) s 0 0 (fun _ => False)) (F0 m 2 ls []) := by
    intro z2
    induction z2 with
    | zero => intro ii ls h9; exact absurd h9 (Nat.not_lt_zero _)
    | succ z2 ih2 =>
      intro ii ls hm2 i2_0 hl
      refine lv_iload_n hx hb dX0_isInLine_2 rfl (lv_at hl 3 rfl) ?_
      refine lv_aload_n hx hb dX0_isInLine_3 rfl (lv_at hl 0 rfl) ?_
      refine va_get (D := (dC, dI)) (ci := 0) (v := .ref (br 16)) (C := RX0) (T := TX0) (N := 17) hx hb hts hiX0 hown hK hP 0 rfl rfl 16 (by decide) (hts (.fieldLink RX0 58 "LinkModels$Build" "lineCounts" "[I") (by decide +kernel)) (fun _ h9 => h9) rfl dX0_isInLine_4 ?_
      refine lv_iload_n hx hb dX0_isInLine_7 rfl (lv_at hl 1 rfl) ?_
      refine va_iald hx hb hK hP 16 0 rfl rfl (vp_in_nI (show ci < 16 by omega) (by decide)) dX0_isInLine_8 ?_
      refine lv_topi (fun x1 ex1 => ?_)
      obtain rfl : x1 = nI (lcA ci) := by rw [ex1, nI_clamp (show ci < 2 ^ 31 by omega)]
      have hqx1 := hlcA ci
      refine lv_icmp_ge (tgt := 35) hx hb dX0_isInLine_9 (by decide) (fun cp9 => ?_) (fun cp9 => ?_)
      · have qcp9 : (lcA ci) ≤ ii := (nI_leI (a := lcA ci) (b := ii) (by omega) (by omega)).mp cp9
        refine lv_iconst (v := 0) hx hb dX0_isInLine_35 (by decide) ?_
        exact W.zret (v := (0 : Int32)) hx hb hr rfl (fun t ht hW => ⟨(0 : Int32), rfl, (Or.inl rfl), ht⟩) (fun _ h => by cases h) dX0_isInLine_36
      · have qcp9 : ¬ (lcA ci) ≤ ii := fun h9 => cp9 ((nI_leI (a := lcA ci) (b := ii) (by omega) (by omega)).mpr h9)
        refine lv_aload_n hx hb dX0_isInLine_12 rfl (lv_at hl 0 rfl) ?_
        refine va_get (D := (dC, dI)) (ci := 0) (v := .ref (br 15)) (C := RX0) (T := TX0) (N := 17) hx hb hts hiX0 hown hK hP 0 rfl rfl 15 (by decide) (hts (.fieldLink RX0 55 "LinkModels$Build" "lines" "[I") (by decide +kernel)) (fun _ h9 => h9) rfl dX0_isInLine_13 ?_
        refine lv_iload_n hx hb dX0_isInLine_16 rfl (lv_at hl 1 rfl) ?_
        refine lv_bipush (v := 16) hx hb dX0_isInLine_17 (by decide) ?_
        refine lv_imul hx hb dX0_isInLine_19 ?_
        refine lv_topi (fun x2 ex2 => ?_)
        obtain rfl : x2 = nI (ci * 16) := by rw [ex2]; exact pk_mul (ci) (16)
        refine lv_iload_n hx hb dX0_isInLine_20 rfl (lv_at hl 3 rfl) ?_
        refine lv_iadd hx hb dX0_isInLine_21 ?_
        refine lv_topi (fun x3 ex3 => ?_)
        obtain rfl : x3 = nI ((ci * 16) + ii) := by rw [ex3]; exact nI_add (ci * 16) (ii)
        refine va_iald hx hb hK hP 15 0 rfl rfl (vp_in_nI (show (ci * 16) + ii < 256 by omega) (by decide)) dX0_isInLine_22 ?_
        refine lv_topi (fun x4 ex4 => ?_)
        obtain rfl : x4 = nI (liA ((ci * 16) + ii)) := by rw [ex4, nI_clamp (show (ci * 16) + ii < 2 ^ 31 by omega)]
        have hqx4 := hliA ((ci * 16) + ii)
        refine lv_iload_n hx hb dX0_isInLine_23 rfl (lv_at hl 2 rfl) ?_
        refine lv_icmp_ne (tgt := 29) hx hb dX0_isInLine_24 (by decide) (fun cp24 => ?_) (fun cp24 => ?_)
        · obtain ⟨x5, ex5⟩ : ∃ y : Int32, y = (nI ii) + 1 := ⟨_, rfl⟩
          refine lv_iinc (v := x5) (lv' := [(3, .int x5), (0, .ref bh), (1, .int (nI ci)), (2, .int ax)]) hx hb dX0_isInLine_29 hl (k := 3) rfl (by rw [ex5]; rfl) (by decide) rfl (fun ls hl => ?_)
          obtain rfl : x5 = nI (ii + 1) := by rw [ex5]; exact nI_add (ii) 1
          refine lv_goto (tgt := 2) hx hb dX0_isInLine_32 (by decide) ?_
          exact ih2 (ii + 1) ls (by omega) (by first | omega | assumption | trivial) (lv_sub hl [1, 2, 3, 0] rfl)
        · refine lv_iconst (v := 1) hx hb dX0_isInLine_27 (by decide) ?_
          exact W.zret (v := (1 : Int32)) hx hb hr rfl (fun t ht hW => ⟨(1 : Int32), rfl, (Or.inr rfl), ht⟩) (fun _ h => by cases h) dX0_isInLine_28
  refine lv_iconst (v := 0) hx hb dX0_isInLine_0 (by decide) ?_
  refine lv_istore_n (lv' := [(3, .int 0), (0, .ref bh), (1, .int (nI ci)), (2, .int ax)]) hx hb dX0_isInLine_1 rfl hl (by decide) rfl (fun ls hl => ?_)
  exact J2 _ 0 ls (Nat.lt_succ_self _) (by first | omega | assumption | trivial) (lv_sub hl [1, 2, 3, 0] rfl)
theorem dX0_firstError_0 : decode cX0_firstError 0 = .ok (.aload_n 0, 1) := by decide +kernel
theorem dX0_firstError_1 : decode cX0_firstError 1 = .ok (.getfield 18, 3) := by decide +kernel
theorem dX0_firstError_4 : decode cX0_firstError 4 = .ok (.iload_n 1, 1) := by decide +kernel
theorem dX0_firstError_5 : decode cX0_firstError 5 = .ok (.iaload, 1) := by decide +kernel
theorem dX0_firstError_6 : decode cX0_firstError 6 = .ok (.ifCond .eq 54, 3) := by decide +kernel
theorem dX0_firstError_9 : decode cX0_firstError 9 = .ok (.aload_n 0, 1) := by decide +kernel
theorem dX0_firstError_10 : decode cX0_firstError 10 = .ok (.aload_n 0, 1) := by decide +kernel
theorem dX0_firstError_11 : decode cX0_firstError 11 = .ok (.getfield 18, 3) := by decide +kernel
theorem dX0_firstError_14 : decode cX0_firstError 14 = .ok (.iload_n 1, 1) := by decide +kernel
theorem dX0_firstError_15 : decode cX0_firstError 15 = .ok (.iaload, 1) := by decide +kernel
theorem dX0_firstError_16 : decode cX0_firstError 16 = .ok (.invokevirtual 109, 3) := by decide +kernel
theorem dX0_firstError_19 : decode cX0_firstError 19 = .ok (.istore_n 2, 1) := by decide +kernel
theorem dX0_firstError_20 : decode cX0_firstError 20 = .ok (.aload_n 0, 1) := by decide +kernel
theorem dX0_firstError_21 : decode cX0_firstError 21 = .ok (.iload_n 2, 1) := by decide +kernel
theorem dX0_firstError_22 : decode cX0_firstError 22 = .ok (.invokevirtual 119, 3) := by decide +kernel
theorem dX0_firstError_25 : decode cX0_firstError 25 = .ok (.ifCond .eq 5, 3) := by decide +kernel
theorem dX0_firstError_28 : decode cX0_firstError 28 = .ok (.iconst 2, 1) := by decide +kernel
theorem dX0_firstError_29 : decode cX0_firstError 29 = .ok (.ireturn, 1) := by decide +kernel
theorem dX0_firstError_30 : decode cX0_firstError 30 = .ok (.aload_n 0, 1) := by decide +kernel
theorem dX0_firstError_31 : decode cX0_firstError 31 = .ok (.iload_n 2, 1) := by decide +kernel
theorem dX0_firstError_32 : decode cX0_firstError 32 = .ok (.invokevirtual 90, 3) := by decide +kernel
theorem dX0_firstError_35 : decode cX0_firstError 35 = .ok (.ifCond .ne 11, 3) := by decide +kernel
theorem dX0_firstError_38 : decode cX0_firstError 38 = .ok (.aload_n 0, 1) := by decide +kernel
theorem dX0_firstError_39 : decode cX0_firstError 39 = .ok (.iload_n 1, 1) := by decide +kernel
theorem dX0_firstError_40 : decode cX0_firstError 40 = .ok (.invokevirtual 90, 3) := by decide +kernel
theorem dX0_firstError_43 : decode cX0_firstError 43 = .ok (.ifCond .eq 5, 3) := by decide +kernel
theorem dX0_firstError_46 : decode cX0_firstError 46 = .ok (.iconst 4, 1) := by decide +kernel
theorem dX0_firstError_47 : decode cX0_firstError 47 = .ok (.ireturn, 1) := by decide +kernel
theorem dX0_firstError_48 : decode cX0_firstError 48 = .ok (.aload_n 0, 1) := by decide +kernel
theorem dX0_firstError_49 : decode cX0_firstError 49 = .ok (.getfield 15, 3) := by decide +kernel
theorem dX0_firstError_52 : decode cX0_firstError 52 = .ok (.iload_n 2, 1) := by decide +kernel
theorem dX0_firstError_53 : decode cX0_firstError 53 = .ok (.iaload, 1) := by decide +kernel
theorem dX0_firstError_54 : decode cX0_firstError 54 = .ok (.iconst 4, 1) := by decide +kernel
theorem dX0_firstError_55 : decode cX0_firstError 55 = .ok (.if_icmp .ne 5, 3) := by decide +kernel
theorem dX0_firstError_58 : decode cX0_firstError 58 = .ok (.iconst 5, 1) := by decide +kernel
theorem dX0_firstError_59 : decode cX0_firstError 59 = .ok (.ireturn, 1) := by decide +kernel
theorem dX0_firstError_60 : decode cX0_firstError 60 = .ok (.iconst 0, 1) := by decide +kernel
theorem dX0_firstError_61 : decode cX0_firstError 61 = .ok (.istore_n 2, 1) := by decide +kernel
theorem dX0_firstError_62 : decode cX0_firstError 62 = .ok (.iload_n 2, 1) := by decide +kernel
theorem dX0_firstError_63 : decode cX0_firstError 63 = .ok (.aload_n 0, 1) := by decide +kernel
theorem dX0_firstError_64 : decode cX0_firstError 64 = .ok (.getfield 21, 3) := by decide +kernel
theorem dX0_firstError_67 : decode cX0_firstError 67 = .ok (.iload_n 1, 1) := by decide +kernel
theorem dX0_firstError_68 : decode cX0_firstError 68 = .ok (.iaload, 1) := by decide +kernel
theorem dX0_firstError_69 : decode cX0_firstError 69 = .ok (.if_icmp .ge 44, 3) := by decide +kernel
theorem dX0_firstError_72 : decode cX0_firstError 72 = .ok (.aload_n 0, 1) := by decide +kernel
theorem dX0_firstError_73 : decode cX0_firstError 73 = .ok (.aload_n 0, 1) := by decide +kernel
theorem dX0_firstError_74 : decode cX0_firstError 74 = .ok (.getfield 24, 3) := by decide +kernel
theorem dX0_firstError_77 : decode cX0_firstError 77 = .ok (.iload_n 1, 1) := by decide +kernel
theorem dX0_firstError_78 : decode cX0_firstError 78 = .ok (.iconst 3, 1) := by decide +kernel
theorem dX0_firstError_79 : decode cX0_firstError 79 = .ok (.imul, 1) := by decide +kernel
theorem dX0_firstError_80 : decode cX0_firstError 80 = .ok (.iload_n 2, 1) := by decide +kernel
theorem dX0_firstError_81 : decode cX0_firstError 81 = .ok (.iadd, 1) := by decide +kernel
theorem dX0_firstError_82 : decode cX0_firstError 82 = .ok (.iaload, 1) := by decide +kernel
theorem dX0_firstError_83 : decode cX0_firstError 83 = .ok (.invokevirtual 109, 3) := by decide +kernel
theorem dX0_firstError_86 : decode cX0_firstError 86 = .ok (.istore_n 3, 1) := by decide +kernel
theorem dX0_firstError_87 : decode cX0_firstError 87 = .ok (.aload_n 0, 1) := by decide +kernel
theorem dX0_firstError_88 : decode cX0_firstError 88 = .ok (.iload_n 3, 1) := by decide +kernel
theorem dX0_firstError_89 : decode cX0_firstError 89 = .ok (.invokevirtual 119, 3) := by decide +kernel
theorem dX0_firstError_92 : decode cX0_firstError 92 = .ok (.ifCond .eq 5, 3) := by decide +kernel
theorem dX0_firstError_95 : decode cX0_firstError 95 = .ok (.iconst 2, 1) := by decide +kernel
theorem dX0_firstError_96 : decode cX0_firstError 96 = .ok (.ireturn, 1) := by decide +kernel
theorem dX0_firstError_97 : decode cX0_firstError 97 = .ok (.aload_n 0, 1) := by decide +kernel
theorem dX0_firstError_98 : decode cX0_firstError 98 = .ok (.iload_n 3, 1) := by decide +kernel
theorem dX0_firstError_99 : decode cX0_firstError 99 = .ok (.invokevirtual 90, 3) := by decide +kernel
theorem dX0_firstError_102 : decode cX0_firstError 102 = .ok (.ifCond .ne 5, 3) := by decide +kernel
theorem dX0_firstError_105 : decode cX0_firstError 105 = .ok (.iconst 4, 1) := by decide +kernel
theorem dX0_firstError_106 : decode cX0_firstError 106 = .ok (.ireturn, 1) := by decide +kernel
theorem dX0_firstError_107 : decode cX0_firstError 107 = .ok (.iinc 2 1, 3) := by decide +kernel
theorem dX0_firstError_110 : decode cX0_firstError 110 = .ok (.goto (-48), 3) := by decide +kernel
theorem dX0_firstError_113 : decode cX0_firstError 113 = .ok (.iconst 0, 1) := by decide +kernel
theorem dX0_firstError_114 : decode cX0_firstError 114 = .ok (.ireturn, 1) := by decide +kernel
def zwX0_firstError : List Cond := .code yX0_firstError cX0_firstError 4 (some .int) :: ([.fieldLink RX0 21 "LinkModels$Build" "faceCounts" "[I", .fieldLink RX0 24 "LinkModels$Build" "faceNames" "[I", .fieldLink RX0 18 "LinkModels$Build" "aboveNames" "[I", .fieldLink RX0 15 "LinkModels$Build" "classMarks" "[I", .methodLink RX0 109 yX0_placeOf, .instanceMethod yX0_placeOf, .selects RX0 yX0_placeOf yX0_placeOf, .initialized RX0, .code yX0_placeOf cX0_placeOf 3 (some .int), .fieldLink RX0 61 "LinkModels$Build" "classCount" "I", .fieldLink RX0 11 "LinkModels$Build" "names" "[I", .methodLink RX0 119 yX0_errorAt, .instanceMethod yX0_errorAt, .selects RX0 yX0_errorAt yX0_errorAt, .code yX0_errorAt cX0_errorAt 2 (some .int), .fieldLink RX0 49 "LinkModels$Build" "errors" "[I", .methodLink RX0 90 yX0_isFace, .instanceMethod yX0_isFace, .selects RX0 yX0_isFace yX0_isFace, .code yX0_isFace cX0_isFace 2 (some .boolean)] ++ wsX00)
theorem zgX0_firstError_X0_placeOf_109 : GoodIn zwX0_firstError (wsV RX0 109 RX0 yX0_placeOf zwX0_placeOf) := goodIn_app (goodIn_r _ [5, 6, 7, 8] rfl (by decide +kernel)) (goodIn_app (goodIn_r _ [9, 10, 11] rfl (by decide +kernel)) (fun w hw => ⟨(List.mem_cons_of_mem _ (List.mem_append_right _ hw)), good_of_word (List.all_eq_true.mp zgX0 w hw)⟩))
theorem zgX0_firstError_X0_errorAt_119 : GoodIn zwX0_firstError (wsV RX0 119 RX0 yX0_errorAt zwX0_errorAt) := goodIn_app (goodIn_r _ [12, 13, 14, 8] rfl (by decide +kernel)) (goodIn_app (goodIn_r _ [15, 16] rfl (by decide +kernel)) (fun w hw => ⟨(List.mem_cons_of_mem _ (List.mem_append_right _ hw)), good_of_word (List.all_eq_true.mp zgX0 w hw)⟩))
theorem zgX0_firstError_X0_isFace_90 : GoodIn zwX0_firstError (wsV RX0 90 RX0 yX0_isFace zwX0_isFace) := goodIn_app (goodIn_r _ [17, 18, 19, 8] rfl (by decide +kernel)) (goodIn_app (goodIn_r _ [20, 4] rfl (by decide +kernel)) (fun w hw => ⟨(List.mem_cons_of_mem _ (List.mem_append_right _ hw)), good_of_word (List.all_eq_true.mp zgX0 w hw)⟩))
set_option maxHeartbeats 4000000 in
set_option maxRecDepth 100000 in
theorem kX0_firstError (l : Launch) (dC : Nat → ClassId) (dI : Nat → Nat → Nat) (bh : Nat) (br : Nat → Nat) (cI : ClassId) (cJ : ClassId) (cB : ClassId) (cc : Nat) (nA : Nat → Int32) (mA : Nat → Int32) (aA : Nat → Int32) (fcA : Nat → Nat) (fA : Nat → Int32) (mcA : Nat → Nat) (mmA : Nat → Int32) (wA : Nat → Int64) (tcA : Nat → Int32) (g1A : Nat → Int32) (g2A : Nat → Int32) (nuA : Nat → Int32) (erA : Nat → Nat) (reA : Nat → Int32) (liA : Nat → Nat) (lcA : Nat → Nat) (hI : bWI cc fcA mcA erA liA lcA) (ci : Nat) (hp0 : ci < 16) : Met l yX0_firstError zwX0_firstError ({ frames := 1, cells := 0, slots := 0, locals := 22 }) (zPq dC dI [.ref bh, .int (nI ci)] (bW bh br cI cJ cB (nI cc) nA mA aA (fun j => nI (fcA j)) fA (fun j => nI (mcA j)) mmA wA tcA g1A g2A nuA (fun j => nI (erA j)) reA (fun j => nI (liA j)) (fun j => nI (lcA j))) [(cI, .int), (cJ, .long), (cB, .byte)]) (vp_Si (fun r => (zN r (fun k => k ≤ 5)))) 0 0 (fun _ => False) := by
  refine Met.ofW (cc := cX0_firstError) (maxL := 4) (ret := (some .int)) (by decide) rfl ?_
  intro p e s m args below meth c s₁ B hml hv
  obtain ⟨rfl, hP, hK, hE⟩ := hv
  have hx := B.exec
  have hb := B.bytes
  have hr := B.returns
  have hts := atoms_spec (ws := zwX0_firstError) B.pre
  have hown : s.vm.findClass RX0 = some m.cls := findClass_of_methodNamed B.named
  have hiX0 : ∀ w ∈ wsX00, w ∈ zwX0_firstError := (fun w hw => (List.mem_cons_of_mem _ (List.mem_append_right _ hw)))
  obtain ⟨hcc, hfcA, hmcA, herA, hliA, hlcA⟩ := hI
  have hf9 := hfcA ci
  have hl := lv_entry ([.ref bh, .int (nI ci)]) (n := 4) (Nat.le_of_ble_eq_true rfl)
  rw [lg_entry_eq]
  generalize (lg_sl ([.ref bh, .int (nI ci)]) ++ List.replicate (4 - (lg_sl ([.ref bh, .int (nI ci)])).length) Slot.unset).toArray = ls at hl ⊢
  have hl : lv_has ls 4 [(0, .ref bh), (1, .int (nI ci))] := hl
  have J62 : ∀ (z62 : Nat) (kf : Nat) (ls : Array Slot), fcA ci - kf < z62 → (kf ≤ fcA ci) → lv_has ls 4 [(0, .ref bh), (1, .int (nI ci)), (2, .int (nI kf))] → W p l e (headSpec zwX0_firstError { frames := 1, cells := 0, slots := 0, locals := 22 }).room s m (([.ref bh, .int (nI ci)] : List Value).toArray) below meth c s.heap [] 0 0 (MQ below (vp_Si (fun r => (zN r (fun k => k ≤ 5)))) (([.ref bh, .int (nI ci)] : List Value).toArray) s 0 0 (fun _ => False)) (F0 m 62 ls []) := by
    intro z62
    induction z62 with
    | zero => intro kf ls h9; exact absurd h9 (Nat.not_lt_zero _)
    | succ z62 ih62 =>
      intro kf ls hm62 i62_0 hl
      refine lv_iload_n hx hb dX0_firstError_62 rfl (lv_at hl 2 rfl) ?_
      refine lv_aload_n hx hb dX0_firstError_63 rfl (lv_at hl 0 rfl) ?_
      refine va_get (D := (dC, dI)) (ci := 0) (v := .ref (br 4)) (C := RX0) (T := TX0) (N := 17) hx hb hts hiX0 hown hK hP 0 rfl rfl 4 (by decide) (hts (.fieldLink RX0 21 "LinkModels$Build" "faceCounts" "[I") (by decide +kernel)) (fun _ h9 => h9) rfl dX0_firstError_64 ?_
      refine lv_iload_n hx hb dX0_firstError_67 rfl (lv_at hl 1 rfl) ?_
      refine va_iald hx hb hK hP 4 0 rfl rfl (vp_in_nI (show ci < 16 by omega) (by decide)) dX0_firstError_68 ?_
      refine lv_topi (fun x1 ex1 => ?_)
      obtain rfl : x1 = nI (fcA ci) := by rw [ex1, nI_clamp (show ci < 2 ^ 31 by omega)]
      have hqx1 := hfcA ci
      refine lv_icmp_ge (tgt := 113) hx hb dX0_firstError_69 (by decide) (fun cp69 => ?_) (fun cp69 => ?_)
      · have qcp69 : (fcA ci) ≤ kf := (nI_leI (a := fcA ci) (b := kf) (by omega) (by omega)).mp cp69
        refine lv_iconst (v := 0) hx hb dX0_firstError_113 (by decide) ?_
        exact W.iret (v := (0 : Int32)) hx hb hr (fun t ht hW => ⟨(0 : Int32), rfl, ⟨0, by omega, (by omega), rfl⟩, ht⟩) (fun _ h => by cases h) dX0_firstError_114
      · have qcp69 : ¬ (fcA ci) ≤ kf := fun h9 => cp69 ((nI_leI (a := fcA ci) (b := kf) (by omega) (by omega)).mpr h9)
        refine lv_aload_n hx hb dX0_firstError_72 rfl (lv_at hl 0 rfl) ?_
        refine lv_aload_n hx hb dX0_firstError_73 rfl (lv_at hl 0 rfl) ?_
        refine va_get (D := (dC, dI)) (ci := 0) (v := .ref (br 5)) (C := RX0) (T := TX0) (N := 17) hx hb hts hiX0 hown hK hP 0 rfl rfl 5 (by decide) (hts (.fieldLink RX0 24 "LinkModels$Build" "faceNames" "[I") (by decide +kernel)) (fun _ h9 => h9) rfl dX0_firstError_74 ?_
        refine lv_iload_n hx hb dX0_firstError_77 rfl (lv_at hl 1 rfl) ?_
        refine lv_iconst (v := 3) hx hb dX0_firstError_78 (by decide) ?_
        refine lv_imul hx hb dX0_firstError_79 ?_
        refine lv_topi (fun x2 ex2 => ?_)
        obtain rfl : x2 = nI (ci * 3) := by rw [ex2]; exact pk_mul (ci) (3)
        refine lv_iload_n hx hb dX0_firstError_80 rfl (lv_at hl 2 rfl) ?_
        refine lv_iadd hx hb dX0_firstError_81 ?_
        refine lv_topi (fun x3 ex3 => ?_)
        obtain rfl : x3 = nI ((ci * 3) + kf) := by rw [ex3]; exact nI_add (ci * 3) (kf)
        refine va_iald hx hb hK hP 5 0 rfl rfl (vp_in_nI (show (ci * 3) + kf < 48 by omega) (by decide)) dX0_firstError_82 ?_
        refine lv_topi (fun x4 ex4 => ?_)
        obtain rfl : x4 = fA ((ci * 3) + kf) := by rw [ex4, nI_clamp (show (ci * 3) + kf < 2 ^ 31 by omega)]
        refine vp_callSi (W.runV (As := [.int (fA ((ci * 3) + kf))]) (rest := []) ⟨hx, hb, hml, hown, hts⟩ (kX0_placeOf l dC dI bh br cI cJ cB cc nA mA aA fcA fA mcA mmA wA tcA g1A g2A nuA erA reA liA lcA ⟨by omega, hfcA, hmcA, herA, hliA, hlcA⟩ (fA ((ci * 3) + kf))) (cwV 1 hts zgX0_firstError_X0_placeOf_109 rfl rfl rfl (by decide +kernel) ⟨(show 0 + 1 ≤ 1 by omega), (show 8 + (3 + 11) + 0 ≤ 22 by omega)⟩) (zVq (ci := 0) (q0 := 0) (q := (RX0, TX0, 17)) hK hP hE rfl rfl rfl) rfl rfl hl.1 rfl (lv_room (Nat.le_of_ble_eq_true rfl)) dX0_firstError_83 ⟨(show 0 + 0 ≤ 0 by omega), (show 0 + 0 ≤ 0 by omega)⟩) (fun r5 hw => ?_)
        have hw : (zM r5 (fun k => k < cc)) := hw
        have w0r5 := hw
        refine lv_istore_n (lv' := [(3, .int r5), (0, .ref bh), (1, .int (nI ci)), (2, .int (nI kf))]) hx hb dX0_firstError_86 rfl hl (by decide) rfl (fun ls hl => ?_)
        refine lv_aload_n hx hb dX0_firstError_87 rfl (lv_at hl 1 rfl) ?_
        refine lv_iload_n hx hb dX0_firstError_88 rfl (lv_at hl 0 rfl) ?_
        refine vp_callSi (W.runV (As := [.int r5]) (rest := []) ⟨hx, hb, hml, hown, hts⟩ (kX0_errorAt l dC dI bh br cI cJ cB cc nA mA aA fcA fA mcA mmA wA tcA g1A g2A nuA erA reA liA lcA ⟨by omega, hfcA, hmcA, herA, hliA, hlcA⟩ r5 (zM.imp w0r5 (fun k hk hq => by first | exact hq | trivial | omega))) (cwV 1 hts zgX0_firstError_X0_errorAt_119 rfl rfl rfl (by decide +kernel) ⟨(show 0 + 1 ≤ 1 by omega), (show 8 + (2 + 11) + 0 ≤ 22 by omega)⟩) (zVq (ci := 0) (q0 := 0) (q := (RX0, TX0, 17)) hK hP hE rfl rfl rfl) rfl rfl hl.1 rfl (lv_room (Nat.le_of_ble_eq_true rfl)) dX0_firstError_89 ⟨(show 0 + 0 ≤ 0 by omega), (show 0 + 0 ≤ 0 by omega)⟩) (fun r6 hw => ?_)
        have hw : (zN r6 (fun k => k ≤ 5 ∧ (k = 0 → zIn16 r5))) := hw
        have w0r6 := hw
        obtain ⟨k7, hBk7, hQk7, rfl⟩ := w0r6
        refine lv_if_eq (tgt := 97) hx hb dX0_firstError_92 (by decide) (fun cp92 => ?_) (fun cp92 => ?_)
        · have qcp92 : k7 = 0 := (nI_eq (a := k7) (b := 0) (by omega) (by omega)).mp cp92
          obtain ⟨j8, hjj8, rfl⟩ := hQk7.2 qcp92
          refine lv_aload_n hx hb dX0_firstError_97 rfl (lv_at hl 1 rfl) ?_
          refine lv_iload_n hx hb dX0_firstError_98 rfl (lv_at hl 0 rfl) ?_
          refine vp_callSi (W.runV (As := [.int (nI j8)]) (rest := []) ⟨hx, hb, hml, hown, hts⟩ (kX0_isFace l dC dI bh br cI cJ cB cc nA mA aA fcA fA mcA mmA wA tcA g1A g2A nuA erA reA liA lcA ⟨by omega, hfcA, hmcA, herA, hliA, hlcA⟩ j8 (by first | omega | assumption | trivial)) (cwV 1 hts zgX0_firstError_X0_isFace_90 rfl rfl rfl (by decide +kernel) ⟨(show 0 + 1 ≤ 1 by omega), (show 8 + (2 + 11) + 0 ≤ 22 by omega)⟩) (zVq (ci := 0) (q0 := 0) (q := (RX0, TX0, 17)) hK hP hE rfl rfl rfl) rfl rfl hl.1 rfl (lv_room (Nat.le_of_ble_eq_true rfl)) dX0_firstError_99 ⟨(show 0 + 0 ≤ 0 by omega), (show 0 + 0 ≤ 0 by omega)⟩) (fun r9 hw => ?_)
          have hw : (r9 = 0 ∨ r9 = 1) := hw
          have w0r9 := hw
          refine lv_if_ne (tgt := 107) hx hb dX0_firstError_102 (by decide) (fun cp102 => ?_) (fun cp102 => ?_)
          · obtain ⟨x10, ex10⟩ : ∃ y : Int32, y = (nI kf) + 1 := ⟨_, rfl⟩
            refine lv_iinc (v := x10) (lv' := [(2, .int x10), (3, .int (nI j8)), (0, .ref bh), (1, .int (nI ci))]) hx hb dX0_firstError_107 hl (k := 3) rfl (by rw [ex10]; rfl) (by decide) rfl (fun ls hl => ?_)
            obtain rfl : x10 = nI (kf + 1) := by rw [ex10]; exact nI_add (kf) 1
            refine lv_goto (tgt := 62) hx hb dX0_firstError_110 (by decide) ?_
            exact ih62 (kf + 1) ls (by omega) (by first | omega | assumption | trivial) (lv_sub hl [2, 3, 0] rfl)
          · refine lv_iconst (v := 4) hx hb dX0_firstError_105 (by decide) ?_
            exact W.iret (v := (4 : Int32)) hx hb hr (fun t ht hW => ⟨(4 : Int32), rfl, ⟨4, by omega, (by omega), rfl⟩, ht⟩) (fun _ h => by cases h) dX0_firstError_106
        · have qcp92 : ¬ k7 = 0 := fun h9 => cp92 ((nI_eq (a := k7) (b := 0) (by omega) (by omega)).mpr h9)
          refine lv_iconst (v := 2) hx hb dX0_firstError_95 (by decide) ?_
          exact W.iret (v := (2 : Int32)) hx hb hr (fun t ht hW => ⟨(2 : Int32), rfl, ⟨2, by omega, (by omega), rfl⟩, ht⟩) (fun _ h => by cases h) dX0_firstError_96
  have J60 : ∀  (ls : Array Slot), lv_has ls 4 [(0, .ref bh), (1, .int (nI ci))] → W p l e (headSpec zwX0_firstError { frames := 1, cells := 0, slots := 0, locals := 22 }).room s m (([.ref bh, .int (nI ci)] : List Value).toArray) below meth c s.heap [] 0 0 (MQ below (vp_Si (fun r => (zN r (fun k => k ≤ 5)))) (([.ref bh, .int (nI ci)] : List Value).toArray) s 0 0 (fun _ => False)) (F0 m 60 ls []) := by
    intro  ls  hl
    refine lv_iconst (v := 0) hx hb dX0_firstError_60 (by decide) ?_
    refine lv_istore_n (lv' := [(2, .int 0), (0, .ref bh), (1, .int (nI ci))]) hx hb dX0_firstError_61 rfl hl (by decide) rfl (fun ls hl => ?_)
    exact J62 _ 0 ls (Nat.lt_succ_self _) (by first | omega | assumption | trivial) (lv_sub hl [1, 2, 0] rfl)
  refine lv_aload_n hx hb dX0_firstError_0 rfl (lv_at hl 0 rfl) ?_
  refine va_get (D := (dC, dI)) (ci := 0) (v := .ref (br 3)) (C := RX0) (T := TX0) (N := 17) hx hb hts hiX0 hown hK hP 0 rfl rfl 3 (by decide) (hts (.fieldLink RX0 18 "LinkModels$Build" "aboveNames" "[I") (by decide +kernel)) (fun _ h9 => h9) rfl dX0_firstError_1 ?_
  refine lv_iload_n hx hb dX0_firstError_4 rfl (lv_at hl 1 rfl) ?_
  refine va_iald hx hb hK hP 3 0 rfl rfl (vp_in_nI (show ci < 16 by omega) (by decide)) dX0_firstError_5 ?_
  refine lv_topi (fun x11 ex11 => ?_)
  obtain rfl : x11 = aA ci := by rw [ex11, nI_clamp (show ci < 2 ^ 31 by omega)]
  refine lv_if_eq (tgt := 60) hx hb dX0_firstError_6 (by decide) (fun cp6 => ?_) (fun cp6 => ?_)
  · exact J60  ls  (lv_sub hl [0, 1] rfl)
  · refine lv_aload_n hx hb dX0_firstError_9 rfl (lv_at hl 0 rfl) ?_
    refine lv_aload_n hx hb dX0_firstError_10 rfl (lv_at hl 0 rfl) ?_
    refine va_get (D := (dC, dI)) (ci := 0) (v := .ref (br 3)) (C := RX0) (T := TX0) (N := 17) hx hb hts hiX0 hown hK hP 0 rfl rfl 3 (by decide) (hts (.fieldLink RX0 18 "LinkModels$Build" "aboveNames" "[I") (by decide +kernel)) (fun _ h9 => h9) rfl dX0_firstError_11 ?_
    refine lv_iload_n hx hb dX0_firstError_14 rfl (lv_at hl 1 rfl) ?_
    refine va_iald hx hb hK hP 3 0 rfl rfl (vp_in_nI (show ci < 16 by omega) (by decide)) dX0_firstError_15 ?_
    refine lv_topi (fun x12 ex12 => ?_)
    obtain rfl : x12 = aA ci := by rw [ex12, nI_clamp (show ci < 2 ^ 31 by omega)]
    refine vp_callSi (W.runV (As := [.int (aA ci)]) (rest := []) ⟨hx, hb, hml, hown, hts⟩ (kX0_placeOf l dC dI bh br cI cJ cB cc nA mA aA fcA fA mcA mmA wA tcA g1A g2A nuA erA reA liA lcA ⟨by omega, hfcA, hmcA, herA, hliA, hlcA⟩ (aA ci)) (cwV 1 hts zgX0_firstError_X0_placeOf_109 rfl rfl rfl (by decide +kernel) ⟨(show 0 + 1 ≤ 1 by omega), (show 8 + (3 + 11) + 0 ≤ 22 by omega)⟩) (zVq (ci := 0) (q0 := 0) (q := (RX0, TX0, 17)) hK hP hE rfl rfl rfl) rfl rfl hl.1 rfl (lv_room (Nat.le_of_ble_eq_true rfl)) dX0_firstError_16 ⟨(show 0 + 0 ≤ 0 by omega), (show 0 + 0 ≤ 0 by omega)⟩) (fun r13 hw => ?_)
    have hw : (zM r13 (fun k => k < cc)) := hw
    have w0r13 := hw
    refine lv_istore_n (lv' := [(2, .int r13), (0, .ref bh), (1, .int (nI ci))]) hx hb dX0_firstError_19 rfl hl (by decide) rfl (fun ls hl => ?_)
    refine lv_aload_n hx hb dX0_firstError_20 rfl (lv_at hl 1 rfl) ?_
    refine lv_iload_n hx hb dX0_firstError_21 rfl (lv_at hl 0 rfl) ?_
    refine vp_callSi (W.runV (As := [.int r13]) (rest := []) ⟨hx, hb, hml, hown, hts⟩ (kX0_errorAt l dC dI bh br cI cJ cB cc nA mA aA fcA fA mcA mmA wA tcA g1A g2A nuA erA reA liA lcA ⟨by omega, hfcA, hmcA, herA, hliA, hlcA⟩ r13 (zM.imp w0r13 (fun k hk hq => by first | exact hq | trivial | omega))) (cwV 1 hts zgX0_firstError_X0_errorAt_119 rfl rfl rfl (by decide +kernel) ⟨(show 0 + 1 ≤ 1 by omega), (show 8 + (2 + 11) + 0 ≤ 22 by omega)⟩) (zVq (ci := 0) (q0 := 0) (q := (RX0, TX0, 17)) hK hP hE rfl rfl rfl) rfl rfl hl.1 rfl (lv_room (Nat.le_of_ble_eq_true rfl)) dX0_firstError_22 ⟨(show 0 + 0 ≤ 0 by omega), (show 0 + 0 ≤ 0 by omega)⟩) (fun r14 hw => ?_)
    have hw : (zN r14 (fun k => k ≤ 5 ∧ (k = 0 → zIn16 r13))) := hw
    have w0r14 := hw
    obtain ⟨k15, hBk15, hQk15, rfl⟩ := w0r14
    refine lv_if_eq (tgt := 30) hx hb dX0_firstError_25 (by decide) (fun cp25 => ?_) (fun cp25 => ?_)
    · have qcp25 : k15 = 0 := (nI_eq (a := k15) (b := 0) (by omega) (by omega)).mp cp25
      obtain ⟨j16, hjj16, rfl⟩ := hQk15.2 qcp25
      refine lv_aload_n hx hb dX0_firstError_30 rfl (lv_at hl 1 rfl) ?_
      refine lv_iload_n hx hb dX0_firstError_31 rfl (lv_at hl 0 rfl) ?_
      refine vp_callSi (W.runV (As := [.int (nI j16)]) (rest := []) ⟨hx, hb, hml, hown, hts⟩ (kX0_isFace l dC dI bh br cI cJ cB cc nA mA aA fcA fA mcA mmA wA tcA g1A g2A nuA erA reA liA lcA ⟨by omega, hfcA, hmcA, herA, hliA, hlcA⟩ j16 (by first | omega | assumption | trivial)) (cwV 1 hts zgX0_firstError_X0_isFace_90 rfl rfl rfl (by decide +kernel) ⟨(show 0 + 1 ≤ 1 by omega), (show 8 + (2 + 11) + 0 ≤ 22 by omega)⟩) (zVq (ci := 0) (q0 := 0) (q := (RX0, TX0, 17)) hK hP hE rfl rfl rfl) rfl rfl hl.1 rfl (lv_room (Nat.le_of_ble_eq_true rfl)) dX0_firstError_32 ⟨(show 0 + 0 ≤ 0 by omega), (show 0 + 0 ≤ 0 by omega)⟩) (fun r17 hw => ?_)
      have hw : (r17 = 0 ∨ r17 = 1) := hw
      have w0r17 := hw
      refine lv_if_ne (tgt := 46) hx hb dX0_firstError_35 (by decide) (fun cp35 => ?_) (fun cp35 => ?_)
      · refine lv_iconst (v := 4) hx hb dX0_firstError_46 (by decide) ?_
        exact W.iret (v := (4 : Int32)) hx hb hr (fun t ht hW => ⟨(4 : Int32), rfl, ⟨4, by omega, (by omega), rfl⟩, ht⟩) (fun _ h => by cases h) dX0_firstError_47
      · refine lv_aload_n hx hb dX0_firstError_38 rfl (lv_at hl 1 rfl) ?_
        refine lv_iload_n hx hb dX0_firstError_39 rfl (lv_at hl 2 rfl) ?_
        refine vp_callSi (W.runV (As := [.int (nI ci)]) (rest := []) ⟨hx, hb, hml, hown, hts⟩ (kX0_isFace l dC dI bh br cI cJ cB cc nA mA aA fcA fA mcA mmA wA tcA g1A g2A nuA erA reA liA lcA ⟨by omega, hfcA, hmcA, herA, hliA, hlcA⟩ ci (by first | omega | assumption | trivial)) (cwV 1 hts zgX0_firstError_X0_isFace_90 rfl rfl rfl (by decide +kernel) ⟨(show 0 + 1 ≤ 1 by omega), (show 8 + (2 + 11) + 0 ≤ 22 by omega)⟩) (zVq (ci := 0) (q0 := 0) (q := (RX0, TX0, 17)) hK hP hE rfl rfl rfl) rfl rfl hl.1 rfl (lv_room (Nat.le_of_ble_eq_true rfl)) dX0_firstError_40 ⟨(show 0 + 0 ≤ 0 by omega), (show 0 + 0 ≤ 0 by omega)⟩) (fun r18 hw => ?_)
        have hw : (r18 = 0 ∨ r18 = 1) := hw
        have w0r18 := hw
        refine lv_if_eq (tgt := 48) hx hb dX0_firstError_43 (by decide) (fun cp43 => ?_) (fun cp43 => ?_)
        · refine lv_aload_n hx hb dX0_firstError_48 rfl (lv_at hl 1 rfl) ?_
          refine va_get (D := (dC, dI)) (ci := 0) (v := .ref (br 2)) (C := RX0) (T := TX0) (N := 17) hx hb hts hiX0 hown hK hP 0 rfl rfl 2 (by decide) (hts (.fieldLink RX0 15 "LinkModels$Build" "classMarks" "[I") (by decide +kernel)) (fun _ h9 => h9) rfl dX0_firstError_49 ?_
          refine lv_iload_n hx hb dX0_firstError_52 rfl (lv_at hl 0 rfl) ?_
          refine va_iald hx hb hK hP 2 0 rfl rfl (vp_in_nI (show j16 < 16 by omega) (by decide)) dX0_firstError_53 ?_
          refine lv_topi (fun x19 ex19 => ?_)
          obtain rfl : x19 = mA j16 := by rw [ex19, nI_clamp (show j16 < 2 ^ 31 by omega)]
          refine lv_iconst (v := 4) hx hb dX0_firstError_54 (by decide) ?_
          refine lv_icmp_ne (tgt := 60) hx hb dX0_firstError_55 (by decide) (fun cp55 => ?_) (fun cp55 => ?_)
          · exact J60  ls  (lv_sub hl [1, 2] rfl)
          · refine lv_iconst (v := 5) hx hb dX0_firstError_58 (by decide) ?_
            exact W.iret (v := (5 : Int32)) hx hb hr (fun t ht hW => ⟨(5 : Int32), rfl, ⟨5, by omega, (by omega), rfl⟩, ht⟩) (fun _ h => by cases h) dX0_firstError_59
        · refine lv_iconst (v := 4) hx hb dX0_firstError_46 (by decide) ?_
          exact W.iret (v := (4 : Int32)) hx hb hr (fun t ht hW => ⟨(4 : Int32), rfl, ⟨4, by omega, (by omega), rfl⟩, ht⟩) (fun _ h => by cases h) dX0_firstError_47
    · have qcp25 : ¬ k15 = 0 := fun h9 => cp25 ((nI_eq (a := k15) (b := 0) (by omega) (by omega)).mpr h9)
      refine lv_iconst (v := 2) hx hb dX0_firstError_28 (by decide) ?_
      exact W.iret (v := (2 : Int32)) hx hb hr (fun t ht hW => ⟨(2 : Int32), rfl, ⟨2, by omega, (by omega), rfl⟩, ht⟩) (fun _ h => by cases h) dX0_firstError_29
