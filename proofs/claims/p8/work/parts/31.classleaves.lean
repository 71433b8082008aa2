theorem dX1_failed_0 : decode cX1_failed 0 = .ok (.bipush (-10), 2) := by decide +kernel
theorem dX1_failed_2 : decode cX1_failed 2 = .ok (.iload_n 0, 1) := by decide +kernel
theorem dX1_failed_3 : decode cX1_failed 3 = .ok (.isub, 1) := by decide +kernel
theorem dX1_failed_4 : decode cX1_failed 4 = .ok (.ireturn, 1) := by decide +kernel
def zwX1_failed : List Cond := .code yX1_failed cX1_failed 1 (some .int) :: ([])
set_option maxHeartbeats 4000000 in
set_option maxRecDepth 100000 in
theorem kX1_failed (l : Launch) (dC : Nat → ClassId) (dI : Nat → Nat → Nat)  (ek : Nat) (hp0 : ek ≤ 10) : Met l yX1_failed zwX1_failed ({ frames := 0, cells := 0, slots := 0, locals := 0 }) (zPq dC dI [.int (nI ek)] ([] : va_W) []) (vp_Si (fun r => (r < 0))) 0 0 (fun _ => False) := by
  refine Met.ofW (cc := cX1_failed) (maxL := 1) (ret := (some .int)) (by decide) rfl ?_
  intro p e s m args below meth c s₁ B hml hv
  obtain ⟨rfl, hP, hK, hE⟩ := hv
  have hx := B.exec
  have hb := B.bytes
  have hr := B.returns
  have hts := atoms_spec (ws := zwX1_failed) B.pre
  have hown : s.vm.findClass RX1 = some m.cls := findClass_of_methodNamed B.named
  have hl := lv_entry ([.int (nI ek)]) (n := 1) (Nat.le_of_ble_eq_true rfl)
  rw [lg_entry_eq]
  generalize (lg_sl ([.int (nI ek)]) ++ List.replicate (1 - (lg_sl ([.int (nI ek)])).length) Slot.unset).toArray = ls at hl ⊢
  have hl : lv_has ls 1 [(0, .int (nI ek))] := hl
  refine lv_bipush (v := (-10)) hx hb dX1_failed_0 (by decide) ?_
  refine lv_iload_n hx hb dX1_failed_2 rfl (lv_at hl 0 rfl) ?_
  refine lv_isub hx hb dX1_failed_3 ?_
  refine lv_topi (fun x1 ex1 => ?_)
  exact W.iret (v := x1) hx hb hr (fun t ht hW => ⟨x1, rfl, (by exact z_fail (k := ek) (by omega) ex1), ht⟩) (fun _ h => by cases h) dX1_failed_4
theorem dX6_classOf_0 : decode cX6_classOf 0 = .ok (.iload_n 0, 1) := by decide +kernel
theorem dX6_classOf_1 : decode cX6_classOf 1 = .ok (.ifCond .ge 7, 3) := by decide +kernel
theorem dX6_classOf_4 : decode cX6_classOf 4 = .ok (.iload_n 0, 1) := by decide +kernel
theorem dX6_classOf_5 : decode cX6_classOf 5 = .ok (.goto 7, 3) := by decide +kernel
theorem dX6_classOf_8 : decode cX6_classOf 8 = .ok (.iload_n 0, 1) := by decide +kernel
theorem dX6_classOf_9 : decode cX6_classOf 9 = .ok (.bipush 13, 2) := by decide +kernel
theorem dX6_classOf_11 : decode cX6_classOf 11 = .ok (.idiv, 1) := by decide +kernel
theorem dX6_classOf_12 : decode cX6_classOf 12 = .ok (.ireturn, 1) := by decide +kernel
def zwX6_classOf : List Cond := .code yX6_classOf cX6_classOf 1 (some .int) :: ([])
set_option maxHeartbeats 4000000 in
set_option maxRecDepth 100000 in
theorem kX6_classOf (l : Launch) (dC : Nat → ClassId) (dI : Nat → Nat → Nat)  (sx : Int32) (hpm_sx : zSp sx (fun k => k < 208)) : Met l yX6_classOf zwX6_classOf ({ frames := 0, cells := 0, slots := 0, locals := 0 }) (zPq dC dI [.int sx] ([] : va_W) []) (vp_Si (fun r => (zSp r (fun k => k < 16)) ∧ (¬ sx < 0 → zIn16 r))) 0 0 (fun _ => False) := by
  refine Met.ofW (cc := cX6_classOf) (maxL := 1) (ret := (some .int)) (by decide) rfl ?_
  intro p e s m args below meth c s₁ B hml hv
  obtain ⟨rfl, hP, hK, hE⟩ := hv
  have hx := B.exec
  have hb := B.bytes
  have hr := B.returns
  have hts := atoms_spec (ws := zwX6_classOf) B.pre
  have hown : s.vm.findClass RX6 = some m.cls := findClass_of_methodNamed B.named
  have hl := lv_entry ([.int sx]) (n := 1) (Nat.le_of_ble_eq_true rfl)
  rw [lg_entry_eq]
  generalize (lg_sl ([.int sx]) ++ List.replicate (1 - (lg_sl ([.int sx])).length) Slot.unset).toArray = ls at hl ⊢
  have hl : lv_has ls 1 [(0, .int sx)] := hl
  refine lv_iload_n hx hb dX6_classOf_0 rfl (lv_at hl 0 rfl) ?_
  refine lv_if_ge (tgt := 8) hx hb dX6_classOf_1 (by decide) (fun cp1 => ?_) (fun cp1 => ?_)
  · obtain ⟨k1, hBk1, hQk1, rfl⟩ := zSp.pos' hpm_sx cp1
    refine lv_iload_n hx hb dX6_classOf_8 rfl (lv_at hl 0 rfl) ?_
    refine lv_bipush (v := 13) hx hb dX6_classOf_9 (by decide) ?_
    refine lv_idiv (x := nI k1) (y := nI 13) hx hb dX6_classOf_11 (nI_ne0 (show 0 < 13 by omega) (show 13 < 2 ^ 31 by omega)) ?_
    refine lv_topi (fun x2 ex2 => ?_)
    obtain rfl : x2 = nI (k1 / 13) := by rw [ex2]; exact pk_div (show k1 < 2 ^ 31 by omega) (show 0 < 13 by omega) (show 13 < 2 ^ 31 by omega)
    exact W.iret (v := (nI (k1 / 13))) hx hb hr (fun t ht hW => ⟨(nI (k1 / 13)), rfl, ⟨(zSp.mk (by omega) (by first | trivial | omega | assumption)), (by first | (intro h9; exact absurd hgcp1 h9) | (intro _; exact zIn16.mk (by omega)))⟩, ht⟩) (fun _ h => by cases h) dX6_classOf_12
  · have hgcp1 : sx < 0 := Int32.not_le.mp cp1
    refine lv_iload_n hx hb dX6_classOf_4 rfl (lv_at hl 0 rfl) ?_
    refine lv_goto (tgt := 12) hx hb dX6_classOf_5 (by decide) ?_
    exact W.iret (v := sx) hx hb hr (fun t ht hW => ⟨sx, rfl, ⟨(Or.inl hgcp1), (by first | (intro h9; exact absurd hgcp1 h9) | (intro _; exact zIn16.mk (by omega)))⟩, ht⟩) (fun _ h => by cases h) dX6_classOf_12
theorem dX6_placeIn_0 : decode cX6_placeIn 0 = .ok (.iload_n 0, 1) := by decide +kernel
theorem dX6_placeIn_1 : decode cX6_placeIn 1 = .ok (.ifCond .ge 7, 3) := by decide +kernel
theorem dX6_placeIn_4 : decode cX6_placeIn 4 = .ok (.iload_n 0, 1) := by decide +kernel
theorem dX6_placeIn_5 : decode cX6_placeIn 5 = .ok (.goto 9, 3) := by decide +kernel
theorem dX6_placeIn_8 : decode cX6_placeIn 8 = .ok (.iload_n 0, 1) := by decide +kernel
theorem dX6_placeIn_9 : decode cX6_placeIn 9 = .ok (.bipush 13, 2) := by decide +kernel
theorem dX6_placeIn_11 : decode cX6_placeIn 11 = .ok (.irem, 1) := by decide +kernel
theorem dX6_placeIn_12 : decode cX6_placeIn 12 = .ok (.iconst 1, 1) := by decide +kernel
theorem dX6_placeIn_13 : decode cX6_placeIn 13 = .ok (.isub, 1) := by decide +kernel
theorem dX6_placeIn_14 : decode cX6_placeIn 14 = .ok (.ireturn, 1) := by decide +kernel
def zwX6_placeIn : List Cond := .code yX6_placeIn cX6_placeIn 1 (some .int) :: ([])
set_option maxHeartbeats 4000000 in
set_option maxRecDepth 100000 in
theorem kX6_placeIn (l : Launch) (dC : Nat → ClassId) (dI : Nat → Nat → Nat)  (sx : Int32) (hpm_sx : zSp sx (fun k => k < 208)) : Met l yX6_placeIn zwX6_placeIn ({ frames := 0, cells := 0, slots := 0, locals := 0 }) (zPq dC dI [.int sx] ([] : va_W) []) (vp_Si (fun r => (True))) 0 0 (fun _ => False) := by
  refine Met.ofW (cc := cX6_placeIn) (maxL := 1) (ret := (some .int)) (by decide) rfl ?_
  intro p e s m args below meth c s₁ B hml hv
  obtain ⟨rfl, hP, hK, hE⟩ := hv
  have hx := B.exec
  have hb := B.bytes
  have hr := B.returns
  have hts := atoms_spec (ws := zwX6_placeIn) B.pre
  have hown : s.vm.findClass RX6 = some m.cls := findClass_of_methodNamed B.named
  have hl := lv_entry ([.int sx]) (n := 1) (Nat.le_of_ble_eq_true rfl)
  rw [lg_entry_eq]
  generalize (lg_sl ([.int sx]) ++ List.replicate (1 - (lg_sl ([.int sx])).length) Slot.unset).toArray = ls at hl ⊢
  have hl : lv_has ls 1 [(0, .int sx)] := hl
  refine lv_iload_n hx hb dX6_placeIn_0 rfl (lv_at hl 0 rfl) ?_
  refine lv_if_ge (tgt := 8) hx hb dX6_placeIn_1 (by decide) (fun cp1 => ?_) (fun cp1 => ?_)
  · obtain ⟨k1, hBk1, hQk1, rfl⟩ := zSp.pos' hpm_sx cp1
    refine lv_iload_n hx hb dX6_placeIn_8 rfl (lv_at hl 0 rfl) ?_
    refine lv_bipush (v := 13) hx hb dX6_placeIn_9 (by decide) ?_
    refine lv_irem (x := nI k1) (y := nI 13) hx hb dX6_placeIn_11 (nI_ne0 (show 0 < 13 by omega) (show 13 < 2 ^ 31 by omega)) ?_
    refine lv_topi (fun x2 ex2 => ?_)
    obtain rfl : x2 = nI (k1 % 13) := by rw [ex2]; exact pk_rem (show k1 < 2 ^ 31 by omega) (show 0 < 13 by omega) (show 13 < 2 ^ 31 by omega)
    refine lv_iconst (v := 1) hx hb dX6_placeIn_12 (by decide) ?_
    refine lv_isub hx hb dX6_placeIn_13 ?_
    refine lv_topi (fun x3 ex3 => ?_)
    exact W.iret (v := x3) hx hb hr (fun t ht hW => ⟨x3, rfl, trivial, ht⟩) (fun _ h => by cases h) dX6_placeIn_14
  · have hgcp1 : sx < 0 := Int32.not_le.mp cp1
    refine lv_iload_n hx hb dX6_placeIn_4 rfl (lv_at hl 0 rfl) ?_
    refine lv_goto (tgt := 14) hx hb dX6_placeIn_5 (by decide) ?_
    exact W.iret (v := sx) hx hb hr (fun t ht hW => ⟨sx, rfl, trivial, ht⟩) (fun _ h => by cases h) dX6_placeIn_14
theorem dJ6_bitCount_0f7a4_0 : decode cJ6_bitCount_0f7a4 0 = .ok (.iload_n 0, 1) := by decide +kernel
theorem dJ6_bitCount_0f7a4_1 : decode cJ6_bitCount_0f7a4 1 = .ok (.iload_n 0, 1) := by decide +kernel
theorem dJ6_bitCount_0f7a4_2 : decode cJ6_bitCount_0f7a4 2 = .ok (.iconst 1, 1) := by decide +kernel
theorem dJ6_bitCount_0f7a4_3 : decode cJ6_bitCount_0f7a4 3 = .ok (.iushr, 1) := by decide +kernel
theorem dJ6_bitCount_0f7a4_4 : decode cJ6_bitCount_0f7a4 4 = .ok (.ldc_w 265, 3) := by decide +kernel
theorem dJ6_bitCount_0f7a4_7 : decode cJ6_bitCount_0f7a4 7 = .ok (.iand, 1) := by decide +kernel
theorem dJ6_bitCount_0f7a4_8 : decode cJ6_bitCount_0f7a4 8 = .ok (.isub, 1) := by decide +kernel
theorem dJ6_bitCount_0f7a4_9 : decode cJ6_bitCount_0f7a4 9 = .ok (.istore_n 0, 1) := by decide +kernel
theorem dJ6_bitCount_0f7a4_10 : decode cJ6_bitCount_0f7a4 10 = .ok (.iload_n 0, 1) := by decide +kernel
theorem dJ6_bitCount_0f7a4_11 : decode cJ6_bitCount_0f7a4 11 = .ok (.ldc_w 266, 3) := by decide +kernel
theorem dJ6_bitCount_0f7a4_14 : decode cJ6_bitCount_0f7a4 14 = .ok (.iand, 1) := by decide +kernel
theorem dJ6_bitCount_0f7a4_15 : decode cJ6_bitCount_0f7a4 15 = .ok (.iload_n 0, 1) := by decide +kernel
theorem dJ6_bitCount_0f7a4_16 : decode cJ6_bitCount_0f7a4 16 = .ok (.iconst 2, 1) := by decide +kernel
theorem dJ6_bitCount_0f7a4_17 : decode cJ6_bitCount_0f7a4 17 = .ok (.iushr, 1) := by decide +kernel
theorem dJ6_bitCount_0f7a4_18 : decode cJ6_bitCount_0f7a4 18 = .ok (.ldc_w 266, 3) := by decide +kernel
theorem dJ6_bitCount_0f7a4_21 : decode cJ6_bitCount_0f7a4 21 = .ok (.iand, 1) := by decide +kernel
theorem dJ6_bitCount_0f7a4_22 : decode cJ6_bitCount_0f7a4 22 = .ok (.iadd, 1) := by decide +kernel
theorem dJ6_bitCount_0f7a4_23 : decode cJ6_bitCount_0f7a4 23 = .ok (.istore_n 0, 1) := by decide +kernel
theorem dJ6_bitCount_0f7a4_24 : decode cJ6_bitCount_0f7a4 24 = .ok (.iload_n 0, 1) := by decide +kernel
theorem dJ6_bitCount_0f7a4_25 : decode cJ6_bitCount_0f7a4 25 = .ok (.iload_n 0, 1) := by decide +kernel
theorem dJ6_bitCount_0f7a4_26 : decode cJ6_bitCount_0f7a4 26 = .ok (.iconst 4, 1) := by decide +kernel
theorem dJ6_bitCount_0f7a4_27 : decode cJ6_bitCount_0f7a4 27 = .ok (.iushr, 1) := by decide +kernel
theorem dJ6_bitCount_0f7a4_28 : decode cJ6_bitCount_0f7a4 28 = .ok (.iadd, 1) := by decide +kernel
theorem dJ6_bitCount_0f7a4_29 : decode cJ6_bitCount_0f7a4 29 = .ok (.ldc_w 267, 3) := by decide +kernel
theorem dJ6_bitCount_0f7a4_32 : decode cJ6_bitCount_0f7a4 32 = .ok (.iand, 1) := by decide +kernel
theorem dJ6_bitCount_0f7a4_33 : decode cJ6_bitCount_0f7a4 33 = .ok (.istore_n 0, 1) := by decide +kernel
theorem dJ6_bitCount_0f7a4_34 : decode cJ6_bitCount_0f7a4 34 = .ok (.iload_n 0, 1) := by decide +kernel
theorem dJ6_bitCount_0f7a4_35 : decode cJ6_bitCount_0f7a4 35 = .ok (.iload_n 0, 1) := by decide +kernel
theorem dJ6_bitCount_0f7a4_36 : decode cJ6_bitCount_0f7a4 36 = .ok (.bipush 8, 2) := by decide +kernel
theorem dJ6_bitCount_0f7a4_38 : decode cJ6_bitCount_0f7a4 38 = .ok (.iushr, 1) := by decide +kernel
theorem dJ6_bitCount_0f7a4_39 : decode cJ6_bitCount_0f7a4 39 = .ok (.iadd, 1) := by decide +kernel
theorem dJ6_bitCount_0f7a4_40 : decode cJ6_bitCount_0f7a4 40 = .ok (.istore_n 0, 1) := by decide +kernel
theorem dJ6_bitCount_0f7a4_41 : decode cJ6_bitCount_0f7a4 41 = .ok (.iload_n 0, 1) := by decide +kernel
theorem dJ6_bitCount_0f7a4_42 : decode cJ6_bitCount_0f7a4 42 = .ok (.iload_n 0, 1) := by decide +kernel
theorem dJ6_bitCount_0f7a4_43 : decode cJ6_bitCount_0f7a4 43 = .ok (.bipush 16, 2) := by decide +kernel
theorem dJ6_bitCount_0f7a4_45 : decode cJ6_bitCount_0f7a4 45 = .ok (.iushr, 1) := by decide +kernel
theorem dJ6_bitCount_0f7a4_46 : decode cJ6_bitCount_0f7a4 46 = .ok (.iadd, 1) := by decide +kernel
theorem dJ6_bitCount_0f7a4_47 : decode cJ6_bitCount_0f7a4 47 = .ok (.istore_n 0, 1) := by decide +kernel
theorem dJ6_bitCount_0f7a4_48 : decode cJ6_bitCount_0f7a4 48 = .ok (.iload_n 0, 1) := by decide +kernel
theorem dJ6_bitCount_0f7a4_49 : decode cJ6_bitCount_0f7a4 49 = .ok (.bipush 63, 2) := by decide +kernel
theorem dJ6_bitCount_0f7a4_51 : decode cJ6_bitCount_0f7a4 51 = .ok (.iand, 1) := by decide +kernel
theorem dJ6_bitCount_0f7a4_52 : decode cJ6_bitCount_0f7a4 52 = .ok (.ireturn, 1) := by decide +kernel
def zwJ6_bitCount_0f7a4 : List Cond := .code yJ6_bitCount_0f7a4 cJ6_bitCount_0f7a4 1 (some .int) :: ([.constant RJ6 265 (1431655765), .constant RJ6 266 (858993459), .constant RJ6 267 (252645135)])
set_option maxHeartbeats 4000000 in
set_option maxRecDepth 100000 in
theorem kJ6_bitCount_0f7a4 (l : Launch) (dC : Nat → ClassId) (dI : Nat → Nat → Nat)  (bx : Int32) : Met l yJ6_bitCount_0f7a4 zwJ6_bitCount_0f7a4 ({ frames := 0, cells := 0, slots := 0, locals := 0 }) (zPq dC dI [.int bx] ([] : va_W) []) (vp_Si (fun r => (True))) 0 0 (fun _ => False) := by
  refine Met.ofW (cc := cJ6_bitCount_0f7a4) (maxL := 1) (ret := (some .int)) (by decide) rfl ?_
  intro p e s m args below meth c s₁ B hml hv
  obtain ⟨rfl, hP, hK, hE⟩ := hv
  have hx := B.exec
  have hb := B.bytes
  have hr := B.returns
  have hts := atoms_spec (ws := zwJ6_bitCount_0f7a4) B.pre
  have hown : s.vm.findClass RJ6 = some m.cls := findClass_of_methodNamed B.named
  have hl := lv_entry ([.int bx]) (n := 1) (Nat.le_of_ble_eq_true rfl)
  rw [lg_entry_eq]
  generalize (lg_sl ([.int bx]) ++ List.replicate (1 - (lg_sl ([.int bx])).length) Slot.unset).toArray = ls at hl ⊢
  have hl : lv_has ls 1 [(0, .int bx)] := hl
  refine lv_iload_n hx hb dJ6_bitCount_0f7a4_0 rfl (lv_at hl 0 rfl) ?_
  refine lv_iload_n hx hb dJ6_bitCount_0f7a4_1 rfl (lv_at hl 0 rfl) ?_
  refine lv_iconst (v := 1) hx hb dJ6_bitCount_0f7a4_2 (by decide) ?_
  refine lv_iushr hx hb dJ6_bitCount_0f7a4_3 rfl ?_
  refine lv_topi (fun x1 ex1 => ?_)
  refine lv_ldcw (v := 1431655765) hx hb hown (hts (.constant RJ6 265 (1431655765)) (by decide +kernel)) dJ6_bitCount_0f7a4_4 ?_
  refine lv_iand hx hb dJ6_bitCount_0f7a4_7 ?_
  refine lv_topi (fun x2 ex2 => ?_)
  refine lv_isub hx hb dJ6_bitCount_0f7a4_8 ?_
  refine lv_topi (fun x3 ex3 => ?_)
  refine lv_istore_n (lv' := [(0, .int x3)]) hx hb dJ6_bitCount_0f7a4_9 rfl hl (by decide) rfl (fun ls hl => ?_)
  refine lv_iload_n hx hb dJ6_bitCount_0f7a4_10 rfl (lv_at hl 0 rfl) ?_
  refine lv_ldcw (v := 858993459) hx hb hown (hts (.constant RJ6 266 (858993459)) (by decide +kernel)) dJ6_bitCount_0f7a4_11 ?_
  refine lv_iand hx hb dJ6_bitCount_0f7a4_14 ?_
  refine lv_topi (fun x4 ex4 => ?_)
  refine lv_iload_n hx hb dJ6_bitCount_0f7a4_15 rfl (lv_at hl 0 rfl) ?_
  refine lv_iconst (v := 2) hx hb dJ6_bitCount_0f7a4_16 (by decide) ?_
  refine lv_iushr hx hb dJ6_bitCount_0f7a4_17 rfl ?_
  refine lv_topi (fun x5 ex5 => ?_)
  refine lv_ldcw (v := 858993459) hx hb hown (hts (.constant RJ6 266 (858993459)) (by decide +kernel)) dJ6_bitCount_0f7a4_18 ?_
  refine lv_iand hx hb dJ6_bitCount_0f7a4_21 ?_
  refine lv_topi (fun x6 ex6 => ?_)
  refine lv_iadd hx hb dJ6_bitCount_0f7a4_22 ?_
  refine lv_topi (fun x7 ex7 => ?_)
  refine lv_istore_n (lv' := [(0, .int x7)]) hx hb dJ6_bitCount_0f7a4_23 rfl hl (by decide) rfl (fun ls hl => ?_)
  refine lv_iload_n hx hb dJ6_bitCount_0f7a4_24 rfl (lv_at hl 0 rfl) ?_
  refine lv_iload_n hx hb dJ6_bitCount_0f7a4_25 rfl (lv_at hl 0 rfl) ?_
  refine lv_iconst (v := 4) hx hb dJ6_bitCount_0f7a4_26 (by decide) ?_
  refine lv_iushr hx hb dJ6_bitCount_0f7a4_27 rfl ?_
  refine lv_topi (fun x8 ex8 => ?_)
  refine lv_iadd hx hb dJ6_bitCount_0f7a4_28 ?_
  refine lv_topi (fun x9 ex9 => ?_)
  refine lv_ldcw (v := 252645135) hx hb hown (hts (.constant RJ6 267 (252645135)) (by decide +kernel)) dJ6_bitCount_0f7a4_29 ?_
  refine lv_iand hx hb dJ6_bitCount_0f7a4_32 ?_
  refine lv_topi (fun x10 ex10 => ?_)
  refine lv_istore_n (lv' := [(0, .int x10)]) hx hb dJ6_bitCount_0f7a4_33 rfl hl (by decide) rfl (fun ls hl => ?_)
  refine lv_iload_n hx hb dJ6_bitCount_0f7a4_34 rfl (lv_at hl 0 rfl) ?_
  refine lv_iload_n hx hb dJ6_bitCount_0f7a4_35 rfl (lv_at hl 0 rfl) ?_
  refine lv_bipush (v := 8) hx hb dJ6_bitCount_0f7a4_36 (by decide) ?_
  refine lv_iushr hx hb dJ6_bitCount_0f7a4_38 rfl ?_
  refine lv_topi (fun x11 ex11 => ?_)
  refine lv_iadd hx hb dJ6_bitCount_0f7a4_39 ?_
  refine lv_topi (fun x12 ex12 => ?_)
  refine lv_istore_n (lv' := [(0, .int x12)]) hx hb dJ6_bitCount_0f7a4_40 rfl hl (by decide) rfl (fun ls hl => ?_)
  refine lv_iload_n hx hb dJ6_bitCount_0f7a4_41 rfl (lv_at hl 0 rfl) ?_
  refine lv_iload_n hx hb dJ6_bitCount_0f7a4_42 rfl (lv_at hl 0 rfl) ?_
  refine lv_bipush (v := 16) hx hb dJ6_bitCount_0f7a4_43 (by decide) ?_
  refine lv_iushr hx hb dJ6_bitCount_0f7a4_45 rfl ?_
  refine lv_topi (fun x13 ex13 => ?_)
  refine lv_iadd hx hb dJ6_bitCount_0f7a4_46 ?_
  refine lv_topi (fun x14 ex14 => ?_)
  refine lv_istore_n (lv' := [(0, .int x14)]) hx hb dJ6_bitCount_0f7a4_47 rfl hl (by decide) rfl (fun ls hl => ?_)
  refine lv_iload_n hx hb dJ6_bitCount_0f7a4_48 rfl (lv_at hl 0 rfl) ?_
  refine lv_bipush (v := 63) hx hb dJ6_bitCount_0f7a4_49 (by decide) ?_
  refine lv_iand hx hb dJ6_bitCount_0f7a4_51 ?_
  refine lv_topi (fun x15 ex15 => ?_)
  exact W.iret (v := x15) hx hb hr (fun t ht hW => ⟨x15, rfl, trivial, ht⟩) (fun _ h => by cases h) dJ6_bitCount_0f7a4_52
theorem dX4_sortOf_0 : decode cX4_sortOf 0 = .ok (.iload_n 0, 1) := by decide +kernel
theorem dX4_sortOf_1 : decode cX4_sortOf 1 = .ok (.bipush 65, 2) := by decide +kernel
theorem dX4_sortOf_3 : decode cX4_sortOf 3 = .ok (.if_icmp .lt 11, 3) := by decide +kernel
theorem dX4_sortOf_6 : decode cX4_sortOf 6 = .ok (.iload_n 0, 1) := by decide +kernel
theorem dX4_sortOf_7 : decode cX4_sortOf 7 = .ok (.bipush 90, 2) := by decide +kernel
theorem dX4_sortOf_9 : decode cX4_sortOf 9 = .ok (.if_icmp .gt 5, 3) := by decide +kernel
theorem dX4_sortOf_12 : decode cX4_sortOf 12 = .ok (.iconst 1, 1) := by decide +kernel
theorem dX4_sortOf_13 : decode cX4_sortOf 13 = .ok (.ireturn, 1) := by decide +kernel
theorem dX4_sortOf_14 : decode cX4_sortOf 14 = .ok (.iload_n 0, 1) := by decide +kernel
theorem dX4_sortOf_15 : decode cX4_sortOf 15 = .ok (.bipush 97, 2) := by decide +kernel
theorem dX4_sortOf_17 : decode cX4_sortOf 17 = .ok (.if_icmp .lt 11, 3) := by decide +kernel
theorem dX4_sortOf_20 : decode cX4_sortOf 20 = .ok (.iload_n 0, 1) := by decide +kernel
theorem dX4_sortOf_21 : decode cX4_sortOf 21 = .ok (.bipush 122, 2) := by decide +kernel
theorem dX4_sortOf_23 : decode cX4_sortOf 23 = .ok (.if_icmp .gt 5, 3) := by decide +kernel
theorem dX4_sortOf_26 : decode cX4_sortOf 26 = .ok (.iconst 2, 1) := by decide +kernel
theorem dX4_sortOf_27 : decode cX4_sortOf 27 = .ok (.ireturn, 1) := by decide +kernel
theorem dX4_sortOf_28 : decode cX4_sortOf 28 = .ok (.iload_n 0, 1) := by decide +kernel
theorem dX4_sortOf_29 : decode cX4_sortOf 29 = .ok (.bipush 48, 2) := by decide +kernel
theorem dX4_sortOf_31 : decode cX4_sortOf 31 = .ok (.if_icmp .lt 11, 3) := by decide +kernel
theorem dX4_sortOf_34 : decode cX4_sortOf 34 = .ok (.iload_n 0, 1) := by decide +kernel
theorem dX4_sortOf_35 : decode cX4_sortOf 35 = .ok (.bipush 57, 2) := by decide +kernel
theorem dX4_sortOf_37 : decode cX4_sortOf 37 = .ok (.if_icmp .gt 5, 3) := by decide +kernel
theorem dX4_sortOf_40 : decode cX4_sortOf 40 = .ok (.iconst 3, 1) := by decide +kernel
theorem dX4_sortOf_41 : decode cX4_sortOf 41 = .ok (.ireturn, 1) := by decide +kernel
theorem dX4_sortOf_42 : decode cX4_sortOf 42 = .ok (.iload_n 0, 1) := by decide +kernel
theorem dX4_sortOf_43 : decode cX4_sortOf 43 = .ok (.lookupswitch 83 #[(40, 81), (41, 81), (44, 81), (58, 81), (59, 81), (60, 81), (61, 81), (123, 81), (125, 81)], 81) := by decide +kernel
theorem dX4_sortOf_124 : decode cX4_sortOf 124 = .ok (.iconst 4, 1) := by decide +kernel
theorem dX4_sortOf_125 : decode cX4_sortOf 125 = .ok (.ireturn, 1) := by decide +kernel
theorem dX4_sortOf_126 : decode cX4_sortOf 126 = .ok (.iconst 5, 1) := by decide +kernel
theorem dX4_sortOf_127 : decode cX4_sortOf 127 = .ok (.ireturn, 1) := by decide +kernel
def zwX4_sortOf : List Cond := .code yX4_sortOf cX4_sortOf 1 (some .int) :: ([])
set_option maxHeartbeats 4000000 in
set_option maxRecDepth 100000 in
theorem kX4_sortOf (l : Launch) (dC : Nat → ClassId) (dI : Nat → Nat → Nat)  (bx : Int32) : Met l yX4_sortOf zwX4_sortOf ({ frames := 0, cells := 0, slots := 0, locals := 0 }) (zPq dC dI [.int bx] ([] : va_W) []) (vp_Si (fun r => (True))) 0 0 (fun _ => False) := by
  refine Met.ofW (cc := cX4_sortOf) (maxL := 1) (ret := (some .int)) (by decide) rfl ?_
  intro p e s m args below meth c s₁ B hml hv
  obtain ⟨rfl, hP, hK, hE⟩ := hv
  have hx := B.exec
  have hb := B.bytes
  have hr := B.returns
  have hts := atoms_spec (ws := zwX4_sortOf) B.pre
  have hown : s.vm.findClass RX4 = some m.cls := findClass_of_methodNamed B.named
  have hl := lv_entry ([.int bx]) (n := 1) (Nat.le_of_ble_eq_true rfl)
  rw [lg_entry_eq]
  generalize (lg_sl ([.int bx]) ++ List.replicate (1 - (lg_sl ([.int bx])).length) Slot.unset).toArray = ls at hl ⊢
  have hl : lv_has ls 1 [(0, .int bx)] := hl
  refine lv_iload_n hx hb dX4_sortOf_0 rfl (lv_at hl 0 rfl) ?_
  refine lv_bipush (v := 65) hx hb dX4_sortOf_1 (by decide) ?_
  refine lv_icmp_lt (tgt := 14) hx hb dX4_sortOf_3 (by decide) (fun cp3 => ?_) (fun cp3 => ?_)
  · refine lv_iload_n hx hb dX4_sortOf_14 rfl (lv_at hl 0 rfl) ?_
    refine lv_bipush (v := 97) hx hb dX4_sortOf_15 (by decide) ?_
    refine lv_icmp_lt (tgt := 28) hx hb dX4_sortOf_17 (by decide) (fun cp17 => ?_) (fun cp17 => ?_)
    · refine lv_iload_n hx hb dX4_sortOf_28 rfl (lv_at hl 0 rfl) ?_
      refine lv_bipush (v := 48) hx hb dX4_sortOf_29 (by decide) ?_
      refine lv_icmp_lt (tgt := 42) hx hb dX4_sortOf_31 (by decide) (fun cp31 => ?_) (fun cp31 => ?_)
      · refine lv_iload_n hx hb dX4_sortOf_42 rfl (lv_at hl 0 rfl) ?_
        by_cases cs43_40 : bx = 40
        · refine lv_lookup (off := 81) (tgt := 124) hx hb dX4_sortOf_43 (by decide) (by rw [cs43_40]; decide) (by decide) ?_
          refine lv_iconst (v := 4) hx hb dX4_sortOf_124 (by decide) ?_
          exact W.iret (v := (4 : Int32)) hx hb hr (fun t ht hW => ⟨(4 : Int32), rfl, trivial, ht⟩) (fun _ h => by cases h) dX4_sortOf_125
        · by_cases cs43_41 : bx = 41
          · refine lv_lookup (off := 81) (tgt := 124) hx hb dX4_sortOf_43 (by decide) (by rw [cs43_41]; decide) (by decide) ?_
            refine lv_iconst (v := 4) hx hb dX4_sortOf_124 (by decide) ?_
            exact W.iret (v := (4 : Int32)) hx hb hr (fun t ht hW => ⟨(4 : Int32), rfl, trivial, ht⟩) (fun _ h => by cases h) dX4_sortOf_125
          · by_cases cs43_44 : bx = 44
            · refine lv_lookup (off := 81) (tgt := 124) hx hb dX4_sortOf_43 (by decide) (by rw [cs43_44]; decide) (by decide) ?_
              refine lv_iconst (v := 4) hx hb dX4_sortOf_124 (by decide) ?_
              exact W.iret (v := (4 : Int32)) hx hb hr (fun t ht hW => ⟨(4 : Int32), rfl, trivial, ht⟩) (fun _ h => by cases h) dX4_sortOf_125
            · by_cases cs43_58 : bx = 58
              · refine lv_lookup (off := 81) (tgt := 124) hx hb dX4_sortOf_43 (by decide) (by rw [cs43_58]; decide) (by decide) ?_
                refine lv_iconst (v := 4) hx hb dX4_sortOf_124 (by decide) ?_
                exact W.iret (v := (4 : Int32)) hx hb hr (fun t ht hW => ⟨(4 : Int32), rfl, trivial, ht⟩) (fun _ h => by cases h) dX4_sortOf_125
              · by_cases cs43_59 : bx = 59
                · refine lv_lookup (off := 81) (tgt := 124) hx hb dX4_sortOf_43 (by decide) (by rw [cs43_59]; decide) (by decide) ?_
                  refine lv_iconst (v := 4) hx hb dX4_sortOf_124 (by decide) ?_
                  exact W.iret (v := (4 : Int32)) hx hb hr (fun t ht hW => ⟨(4 : Int32), rfl, trivial, ht⟩) (fun _ h => by cases h) dX4_sortOf_125
                · by_cases cs43_60 : bx = 60
                  · refine lv_lookup (off := 81) (tgt := 124) hx hb dX4_sortOf_43 (by decide) (by rw [cs43_60]; decide) (by decide) ?_
                    refine lv_iconst (v := 4) hx hb dX4_sortOf_124 (by decide) ?_
                    exact W.iret (v := (4 : Int32)) hx hb hr (fun t ht hW => ⟨(4 : Int32), rfl, trivial, ht⟩) (fun _ h => by cases h) dX4_sortOf_125
                  · by_cases cs43_61 : bx = 61
                    · refine lv_lookup (off := 81) (tgt := 124) hx hb dX4_sortOf_43 (by decide) (by rw [cs43_61]; decide) (by decide) ?_
                      refine lv_iconst (v := 4) hx hb dX4_sortOf_124 (by decide) ?_
                      exact W.iret (v := (4 : Int32)) hx hb hr (fun t ht hW => ⟨(4 : Int32), rfl, trivial, ht⟩) (fun _ h => by cases h) dX4_sortOf_125
                    · by_cases cs43_123 : bx = 123
                      · refine lv_lookup (off := 81) (tgt := 124) hx hb dX4_sortOf_43 (by decide) (by rw [cs43_123]; decide) (by decide) ?_
                        refine lv_iconst (v := 4) hx hb dX4_sortOf_124 (by decide) ?_
                        exact W.iret (v := (4 : Int32)) hx hb hr (fun t ht hW => ⟨(4 : Int32), rfl, trivial, ht⟩) (fun _ h => by cases h) dX4_sortOf_125
                      · by_cases cs43_125 : bx = 125
                        · refine lv_lookup (off := 81) (tgt := 124) hx hb dX4_sortOf_43 (by decide) (by rw [cs43_125]; decide) (by decide) ?_
                          refine lv_iconst (v := 4) hx hb dX4_sortOf_124 (by decide) ?_
                          exact W.iret (v := (4 : Int32)) hx hb hr (fun t ht hW => ⟨(4 : Int32), rfl, trivial, ht⟩) (fun _ h => by cases h) dX4_sortOf_125
                        · refine lv_lookup (off := 83) (tgt := 126) hx hb dX4_sortOf_43 (by decide) (by show Op.lookupswitch.offset [(40, 81), (41, 81), (44, 81), (58, 81), (59, 81), (60, 81), (61, 81), (123, 81), (125, 81)] 83 _ = 83; have a43_40 := lv_neT (a := 40) cs43_40 (by decide); have a43_41 := lv_neT (a := 41) cs43_41 (by decide); have a43_44 := lv_neT (a := 44) cs43_44 (by decide); have a43_58 := lv_neT (a := 58) cs43_58 (by decide); have a43_59 := lv_neT (a := 59) cs43_59 (by decide); have a43_60 := lv_neT (a := 60) cs43_60 (by decide); have a43_61 := lv_neT (a := 61) cs43_61 (by decide); have a43_123 := lv_neT (a := 123) cs43_123 (by decide); have a43_125 := lv_neT (a := 125) cs43_125 (by decide); rw [Op.lookupswitch.offset_cons, if_neg (fun h9 => a43_40 h9.symm), Op.lookupswitch.offset_cons, if_neg (fun h9 => a43_41 h9.symm), Op.lookupswitch.offset_cons, if_neg (fun h9 => a43_44 h9.symm), Op.lookupswitch.offset_cons, if_neg (fun h9 => a43_58 h9.symm), Op.lookupswitch.offset_cons, if_neg (fun h9 => a43_59 h9.symm), Op.lookupswitch.offset_cons, if_neg (fun h9 => a43_60 h9.symm), Op.lookupswitch.offset_cons, if_neg (fun h9 => a43_61 h9.symm), Op.lookupswitch.offset_cons, if_neg (fun h9 => a43_123 h9.symm), Op.lookupswitch.offset_cons, if_neg (fun h9 => a43_125 h9.symm), Op.lookupswitch.offset_nil]) (by decide) ?_
                          refine lv_iconst (v := 5) hx hb dX4_sortOf_126 (by decide) ?_
                          exact W.iret (v := (5 : Int32)) hx hb hr (fun t ht hW => ⟨(5 : Int32), rfl, trivial, ht⟩) (fun _ h => by cases h) dX4_sortOf_127
      · refine lv_iload_n hx hb dX4_sortOf_34 rfl (lv_at hl 0 rfl) ?_
        refine lv_bipush (v := 57) hx hb dX4_sortOf_35 (by decide) ?_
        refine lv_icmp_gt (tgt := 42) hx hb dX4_sortOf_37 (by decide) (fun cp37 => ?_) (fun cp37 => ?_)
        · refine lv_iload_n hx hb dX4_sortOf_42 rfl (lv_at hl 0 rfl) ?_
          by_cases cs43_40 : bx = 40
          · refine lv_lookup (off := 81) (tgt := 124) hx hb dX4_sortOf_43 (by decide) (by rw [cs43_40]; decide) (by decide) ?_
            refine lv_iconst (v := 4) hx hb dX4_sortOf_124 (by decide) ?_
            exact W.iret (v := (4 : Int32)) hx hb hr (fun t ht hW => ⟨(4 : Int32), rfl, trivial, ht⟩) (fun _ h => by cases h) dX4_sortOf_125
          · by_cases cs43_41 : bx = 41
            · refine lv_lookup (off := 81) (tgt := 124) hx hb dX4_sortOf_43 (by decide) (by rw [cs43_41]; decide) (by decide) ?_
              refine lv_iconst (v := 4) hx hb dX4_sortOf_124 (by decide) ?_
              exact W.iret (v := (4 : Int32)) hx hb hr (fun t ht hW => ⟨(4 : Int32), rfl, trivial, ht⟩) (fun _ h => by cases h) dX4_sortOf_125
            · by_cases cs43_44 : bx = 44
              · refine lv_lookup (off := 81) (tgt := 124) hx hb dX4_sortOf_43 (by decide) (by rw [cs43_44]; decide) (by decide) ?_
                refine lv_iconst (v := 4) hx hb dX4_sortOf_124 (by decide) ?_
                exact W.iret (v := (4 : Int32)) hx hb hr (fun t ht hW => ⟨(4 : Int32), rfl, trivial, ht⟩) (fun _ h => by cases h) dX4_sortOf_125
              · by_cases cs43_58 : bx = 58
                · refine lv_lookup (off := 81) (tgt := 124) hx hb dX4_sortOf_43 (by decide) (by rw [cs43_58]; decide) (by decide) ?_
                  refine lv_iconst (v := 4) hx hb dX4_sortOf_124 (by decide) ?_
                  exact W.iret (v := (4 : Int32)) hx hb hr (fun t ht hW => ⟨(4 : Int32), rfl, trivial, ht⟩) (fun _ h => by cases h) dX4_sortOf_125
                · by_cases cs43_59 : bx = 59
                  · refine lv_lookup (off := 81) (tgt := 124) hx hb dX4_sortOf_43 (by decide) (by rw [cs43_59]; decide) (by decide) ?_
                    refine lv_iconst (v := 4) hx hb dX4_sortOf_124 (by decide) ?_
                    exact W.iret (v := (4 : Int32)) hx hb hr (fun t ht hW => ⟨(4 : Int32), rfl, trivial, ht⟩) (fun _ h => by cases h) dX4_sortOf_125
                  · by_cases cs43_60 : bx = 60
                    · refine lv_lookup (off := 81) (tgt := 124) hx hb dX4_sortOf_43 (by decide) (by rw [cs43_60]; decide) (by decide) ?_
                      refine lv_iconst (v := 4) hx hb dX4_sortOf_124 (by decide) ?_
                      exact W.iret (v := (4 : Int32)) hx hb hr (fun t ht hW => ⟨(4 : Int32), rfl, trivial, ht⟩) (fun _ h => by cases h) dX4_sortOf_125
                    · by_cases cs43_61 : bx = 61
                      · refine lv_lookup (off := 81) (tgt := 124) hx hb dX4_sortOf_43 (by decide) (by rw [cs43_61]; decide) (by decide) ?_
                        refine lv_iconst (v := 4) hx hb dX4_sortOf_124 (by decide) ?_
                        exact W.iret (v := (4 : Int32)) hx hb hr (fun t ht hW => ⟨(4 : Int32), rfl, trivial, ht⟩) (fun _ h => by cases h) dX4_sortOf_125
                      · by_cases cs43_123 : bx = 123
                        · refine lv_lookup (off := 81) (tgt := 124) hx hb dX4_sortOf_43 (by decide) (by rw [cs43_123]; decide) (by decide) ?_
                          refine lv_iconst (v := 4) hx hb dX4_sortOf_124 (by decide) ?_
                          exact W.iret (v := (4 : Int32)) hx hb hr (fun t ht hW => ⟨(4 : Int32), rfl, trivial, ht⟩) (fun _ h => by cases h) dX4_sortOf_125
                        · by_cases cs43_125 : bx = 125
                          · refine lv_lookup (off := 81) (tgt := 124) hx hb dX4_sortOf_43 (by decide) (by rw [cs43_125]; decide) (by decide) ?_
                            refine lv_iconst (v := 4) hx hb dX4_sortOf_124 (by decide) ?_
                            exact W.iret (v := (4 : Int32)) hx hb hr (fun t ht hW => ⟨(4 : Int32), rfl, trivial, ht⟩) (fun _ h => by cases h) dX4_sortOf_125
                          · refine lv_lookup (off := 83) (tgt := 126) hx hb dX4_sortOf_43 (by decide) (by show Op.lookupswitch.offset [(40, 81), (41, 81), (44, 81), (58, 81), (59, 81), (60, 81), (61, 81), (123, 81), (125, 81)] 83 _ = 83; have a43_40 := lv_neT (a := 40) cs43_40 (by decide); have a43_41 := lv_neT (a := 41) cs43_41 (by decide); have a43_44 := lv_neT (a := 44) cs43_44 (by decide); have a43_58 := lv_neT (a := 58) cs43_58 (by decide); have a43_59 := lv_neT (a := 59) cs43_59 (by decide); have a43_60 := lv_neT (a := 60) cs43_60 (by decide); have a43_61 := lv_neT (a := 61) cs43_61 (by decide); have a43_123 := lv_neT (a := 123) cs43_123 (by decide); have a43_125 := lv_neT (a := 125) cs43_125 (by decide); rw [Op.lookupswitch.offset_cons, if_neg (fun h9 => a43_40 h9.symm), Op.lookupswitch.offset_cons, if_neg (fun h9 => a43_41 h9.symm), Op.lookupswitch.offset_cons, if_neg (fun h9 => a43_44 h9.symm), Op.lookupswitch.offset_cons, if_neg (fun h9 => a43_58 h9.symm), Op.lookupswitch.offset_cons, if_neg (fun h9 => a43_59 h9.symm), Op.lookupswitch.offset_cons, if_neg (fun h9 => a43_60 h9.symm), Op.lookupswitch.offset_cons, if_neg (fun h9 => a43_61 h9.symm), Op.lookupswitch.offset_cons, if_neg (fun h9 => a43_123 h9.symm), Op.lookupswitch.offset_cons, if_neg (fun h9 => a43_125 h9.symm), Op.lookupswitch.offset_nil]) (by decide) ?_
                            refine lv_iconst (v := 5) hx hb dX4_sortOf_126 (by decide) ?_
                            exact W.iret (v := (5 : Int32)) hx hb hr (fun t ht hW => ⟨(5 : Int32), rfl, trivial, ht⟩) (fun _ h => by cases h) dX4_sortOf_127
        · refine lv_iconst (v := 3) hx hb dX4_sortOf_40 (by decide) ?_
          exact W.iret (v := (3 : Int32)) hx hb hr (fun t ht hW => ⟨(3 : Int32), rfl, trivial, ht⟩) (fun _ h => by cases h) dX4_sortOf_41
    · refine lv_iload_n hx hb dX4_sortOf_20 rfl (lv_at hl 0 rfl) ?_
      refine lv_bipush (v := 122) hx hb dX4_sortOf_21 (by decide) ?_
      refine lv_icmp_gt (tgt := 28) hx hb dX4_sortOf_23 (by decide) (fun cp23 => ?_) (fun cp23 => ?_)
      · refine lv_iload_n hx hb dX4_sortOf_28 rfl (lv_at hl 0 rfl) ?_
        refine lv_bipush (v := 48) hx hb dX4_sortOf_29 (by decide) ?_
        refine lv_icmp_lt (tgt := 42) hx hb dX4_sortOf_31 (by decide) (fun cp31 => ?_) (fun cp31 => ?_)
        · refine lv_iload_n hx hb dX4_sortOf_42 rfl (lv_at hl 0 rfl) ?_
          by_cases cs43_40 : bx = 40
          · refine lv_lookup (off := 81) (tgt := 124) hx hb dX4_sortOf_43 (by decide) (by rw [cs43_40]; decide) (by decide) ?_
            refine lv_iconst (v := 4) hx hb dX4_sortOf_124 (by decide) ?_
            exact W.iret (v := (4 : Int32)) hx hb hr (fun t ht hW => ⟨(4 : Int32), rfl, trivial, ht⟩) (fun _ h => by cases h) dX4_sortOf_125
          · by_cases cs43_41 : bx = 41
            · refine lv_lookup (off := 81) (tgt := 124) hx hb dX4_sortOf_43 (by decide) (by rw [cs43_41]; decide) (by decide) ?_
              refine lv_iconst (v := 4) hx hb dX4_sortOf_124 (by decide) ?_
              exact W.iret (v := (4 : Int32)) hx hb hr (fun t ht hW => ⟨(4 : Int32), rfl, trivial, ht⟩) (fun _ h => by cases h) dX4_sortOf_125
            · by_cases cs43_44 : bx = 44
              · refine lv_lookup (off := 81) (tgt := 124) hx hb dX4_sortOf_43 (by decide) (by rw [cs43_44]; decide) (by decide) ?_
                refine lv_iconst (v := 4) hx hb dX4_sortOf_124 (by decide) ?_
                exact W.iret (v := (4 : Int32)) hx hb hr (fun t ht hW => ⟨(4 : Int32), rfl, trivial, ht⟩) (fun _ h => by cases h) dX4_sortOf_125
              · by_cases cs43_58 : bx = 58
                · refine lv_lookup (off := 81) (tgt := 124) hx hb dX4_sortOf_43 (by decide) (by rw [cs43_58]; decide) (by decide) ?_
                  refine lv_iconst (v := 4) hx hb dX4_sortOf_124 (by decide) ?_
                  exact W.iret (v := (4 : Int32)) hx hb hr (fun t ht hW => ⟨(4 : Int32), rfl, trivial, ht⟩) (fun _ h => by cases h) dX4_sortOf_125
                · by_cases cs43_59 : bx = 59
                  · refine lv_lookup (off := 81) (tgt := 124) hx hb dX4_sortOf_43 (by decide) (by rw [cs43_59]; decide) (by decide) ?_
                    refine lv_iconst (v := 4) hx hb dX4_sortOf_124 (by decide) ?_
                    exact W.iret (v := (4 : Int32)) hx hb hr (fun t ht hW => ⟨(4 : Int32), rfl, trivial, ht⟩) (fun _ h => by cases h) dX4_sortOf_125
                  · by_cases cs43_60 : bx = 60
                    · refine lv_lookup (off := 81) (tgt := 124) hx hb dX4_sortOf_43 (by decide) (by rw [cs43_60]; decide) (by decide) ?_
                      refine lv_iconst (v := 4) hx hb dX4_sortOf_124 (by decide) ?_
                      exact W.iret (v := (4 : Int32)) hx hb hr (fun t ht hW => ⟨(4 : Int32), rfl, trivial, ht⟩) (fun _ h => by cases h) dX4_sortOf_125
                    · by_cases cs43_61 : bx = 61
                      · refine lv_lookup (off := 81) (tgt := 124) hx hb dX4_sortOf_43 (by decide) (by rw [cs43_61]; decide) (by decide) ?_
                        refine lv_iconst (v := 4) hx hb dX4_sortOf_124 (by decide) ?_
                        exact W.iret (v := (4 : Int32)) hx hb hr (fun t ht hW => ⟨(4 : Int32), rfl, trivial, ht⟩) (fun _ h => by cases h) dX4_sortOf_125
                      · by_cases cs43_123 : bx = 123
                        · refine lv_lookup (off := 81) (tgt := 124) hx hb dX4_sortOf_43 (by decide) (by rw [cs43_123]; decide) (by decide) ?_
                          refine lv_iconst (v := 4) hx hb dX4_sortOf_124 (by decide) ?_
                          exact W.iret (v := (4 : Int32)) hx hb hr (fun t ht hW => ⟨(4 : Int32), rfl, trivial, ht⟩) (fun _ h => by cases h) dX4_sortOf_125
                        · by_cases cs43_125 : bx = 125
                          · refine lv_lookup (off := 81) (tgt := 124) hx hb dX4_sortOf_43 (by decide) (by rw [cs43_125]; decide) (by decide) ?_
                            refine lv_iconst (v := 4) hx hb dX4_sortOf_124 (by decide) ?_
                            exact W.iret (v := (4 : Int32)) hx hb hr (fun t ht hW => ⟨(4 : Int32), rfl, trivial, ht⟩) (fun _ h => by cases h) dX4_sortOf_125
                          · refine lv_lookup (off := 83) (tgt := 126) hx hb dX4_sortOf_43 (by decide) (by show Op.lookupswitch.offset [(40, 81), (41, 81), (44, 81), (58, 81), (59, 81), (60, 81), (61, 81), (123, 81), (125, 81)] 83 _ = 83; have a43_40 := lv_neT (a := 40) cs43_40 (by decide); have a43_41 := lv_neT (a := 41) cs43_41 (by decide); have a43_44 := lv_neT (a := 44) cs43_44 (by decide); have a43_58 := lv_neT (a := 58) cs43_58 (by decide); have a43_59 := lv_neT (a := 59) cs43_59 (by decide); have a43_60 := lv_neT (a := 60) cs43_60 (by decide); have a43_61 := lv_neT (a := 61) cs43_61 (by decide); have a43_123 := lv_neT (a := 123) cs43_123 (by decide); have a43_125 := lv_neT (a := 125) cs43_125 (by decide); rw [Op.lookupswitch.offset_cons, if_neg (fun h9 => a43_40 h9.symm), Op.lookupswitch.offset_cons, if_neg (fun h9 => a43_41 h9.symm), Op.lookupswitch.offset_cons, if_neg (fun h9 => a43_44 h9.symm), Op.lookupswitch.offset_cons, if_neg (fun h9 => a43_58 h9.symm), Op.lookupswitch.offset_cons, if_neg (fun h9 => a43_59 h9.symm), Op.lookupswitch.offset_cons, if_neg (fun h9 => a43_60 h9.symm), Op.lookupswitch.offset_cons, if_neg (fun h9 => a43_61 h9.symm), Op.lookupswitch.offset_cons, if_neg (fun h9 => a43_123 h9.symm), Op.lookupswitch.offset_cons, if_neg (fun h9 => a43_125 h9.symm), Op.lookupswitch.offset_nil]) (by decide) ?_
                            refine lv_iconst (v := 5) hx hb dX4_sortOf_126 (by decide) ?_
                            exact W.iret (v := (5 : Int32)) hx hb hr (fun t ht hW => ⟨(5 : Int32), rfl, trivial, ht⟩) (fun _ h => by cases h) dX4_sortOf_127
        · refine lv_iload_n hx hb dX4_sortOf_34 rfl (lv_at hl 0 rfl) ?_
          refine lv_bipush (v := 57) hx hb dX4_sortOf_35 (by decide) ?_
          refine lv_icmp_gt (tgt := 42) hx hb dX4_sortOf_37 (by decide) (fun cp37 => ?_) (fun cp37 => ?_)
          · refine lv_iload_n hx hb dX4_sortOf_42 rfl (lv_at hl 0 rfl) ?_
            by_cases cs43_40 : bx = 40
            · refine lv_lookup (off := 81) (tgt := 124) hx hb dX4_sortOf_43 (by decide) (by rw [cs43_40]; decide) (by decide) ?_
              refine lv_iconst (v := 4) hx hb dX4_sortOf_124 (by decide) ?_
              exact W.iret (v := (4 : Int32)) hx hb hr (fun t ht hW => ⟨(4 : Int32), rfl, trivial, ht⟩) (fun _ h => by cases h) dX4_sortOf_125
            · by_cases cs43_41 : bx = 41
              · refine lv_lookup (off := 81) (tgt := 124) hx hb dX4_sortOf_43 (by decide) (by rw [cs43_41]; decide) (by decide) ?_
                refine lv_iconst (v := 4) hx hb dX4_sortOf_124 (by decide) ?_
                exact W.iret (v := (4 : Int32)) hx hb hr (fun t ht hW => ⟨(4 : Int32), rfl, trivial, ht⟩) (fun _ h => by cases h) dX4_sortOf_125
              · by_cases cs43_44 : bx = 44
                · refine lv_lookup (off := 81) (tgt := 124) hx hb dX4_sortOf_43 (by decide) (by rw [cs43_44]; decide) (by decide) ?_
                  refine lv_iconst (v := 4) hx hb dX4_sortOf_124 (by decide) ?_
                  exact W.iret (v := (4 : Int32)) hx hb hr (fun t ht hW => ⟨(4 : Int32), rfl, trivial, ht⟩) (fun _ h => by cases h) dX4_sortOf_125
                · by_cases cs43_58 : bx = 58
                  · refine lv_lookup (off := 81) (tgt := 124) hx hb dX4_sortOf_43 (by decide) (by rw [cs43_58]; decide) (by decide) ?_
                    refine lv_iconst (v := 4) hx hb dX4_sortOf_124 (by decide) ?_
                    exact W.iret (v := (4 : Int32)) hx hb hr (fun t ht hW => ⟨(4 : Int32), rfl, trivial, ht⟩) (fun _ h => by cases h) dX4_sortOf_125
                  · by_cases cs43_59 : bx = 59
                    · refine lv_lookup (off := 81) (tgt := 124) hx hb dX4_sortOf_43 (by decide) (by rw [cs43_59]; decide) (by decide) ?_
                      refine lv_iconst (v := 4) hx hb dX4_sortOf_124 (by decide) ?_
                      exact W.iret (v := (4 : Int32)) hx hb hr (fun t ht hW => ⟨(4 : Int32), rfl, trivial, ht⟩) (fun _ h => by cases h) dX4_sortOf_125
                    · by_cases cs43_60 : bx = 60
                      · refine lv_lookup (off := 81) (tgt := 124) hx hb dX4_sortOf_43 (by decide) (by rw [cs43_60]; decide) (by decide) ?_
                        refine lv_iconst (v := 4) hx hb dX4_sortOf_124 (by decide) ?_
                        exact W.iret (v := (4 : Int32)) hx hb hr (fun t ht hW => ⟨(4 : Int32), rfl, trivial, ht⟩) (fun _ h => by cases h) dX4_sortOf_125
                      · by_cases cs43_61 : bx = 61
                        · refine lv_lookup (off := 81) (tgt := 124) hx hb dX4_sortOf_43 (by decide) (by rw [cs43_61]; decide) (by decide) ?_
                          refine lv_iconst (v := 4) hx hb dX4_sortOf_124 (by decide) ?_
                          exact W.iret (v := (4 : Int32)) hx hb hr (fun t ht hW => ⟨(4 : Int32), rfl, trivial, ht⟩) (fun _ h => by cases h) dX4_sortOf_125
                        · by_cases cs43_123 : bx = 123
                          · refine lv_lookup (off := 81) (tgt := 124) hx hb dX4_sortOf_43 (by decide) (by rw [cs43_123]; decide) (by decide) ?_
                            refine lv_iconst (v := 4) hx hb dX4_sortOf_124 (by decide) ?_
                            exact W.iret (v := (4 : Int32)) hx hb hr (fun t ht hW => ⟨(4 : Int32), rfl, trivial, ht⟩) (fun _ h => by cases h) dX4_sortOf_125
                          · by_cases cs43_125 : bx = 125
                            · refine lv_lookup (off := 81) (tgt := 124) hx hb dX4_sortOf_43 (by decide) (by rw [cs43_125]; decide) (by decide) ?_
                              refine lv_iconst (v := 4) hx hb dX4_sortOf_124 (by decide) ?_
                              exact W.iret (v := (4 : Int32)) hx hb hr (fun t ht hW => ⟨(4 : Int32), rfl, trivial, ht⟩) (fun _ h => by cases h) dX4_sortOf_125
                            · refine lv_lookup (off := 83) (tgt := 126) hx hb dX4_sortOf_43 (by decide) (by show Op.lookupswitch.offset [(40, 81), (41, 81), (44, 81), (58, 81), (59, 81), (60, 81), (61, 81), (123, 81), (125, 81)] 83 _ = 83; have a43_40 := lv_neT (a := 40) cs43_40 (by decide); have a43_41 := lv_neT (a := 41) cs43_41 (by decide); have a43_44 := lv_neT (a := 44) cs43_44 (by decide); have a43_58 := lv_neT (a := 58) cs43_58 (by decide); have a43_59 := lv_neT (a := 59) cs43_59 (by decide); have a43_60 := lv_neT (a := 60) cs43_60 (by decide); have a43_61 := lv_neT (a := 61) cs43_61 (by decide); have a43_123 := lv_neT (a := 123) cs43_123 (by decide); have a43_125 := lv_neT (a := 125) cs43_125 (by decide); rw [Op.lookupswitch.offset_cons, if_neg (fun h9 => a43_40 h9.symm), Op.lookupswitch.offset_cons, if_neg (fun h9 => a43_41 h9.symm), Op.lookupswitch.offset_cons, if_neg (fun h9 => a43_44 h9.symm), Op.lookupswitch.offset_cons, if_neg (fun h9 => a43_58 h9.symm), Op.lookupswitch.offset_cons, if_neg (fun h9 => a43_59 h9.symm), Op.lookupswitch.offset_cons, if_neg (fun h9 => a43_60 h9.symm), Op.lookupswitch.offset_cons, if_neg (fun h9 => a43_61 h9.symm), Op.lookupswitch.offset_cons, if_neg (fun h9 => a43_123 h9.symm), Op.lookupswitch.offset_cons, if_neg (fun h9 => a43_125 h9.symm), Op.lookupswitch.offset_nil]) (by decide) ?_
                              refine lv_iconst (v := 5) hx hb dX4_sortOf_126 (by decide) ?_
                              exact W.iret (v := (5 : Int32)) hx hb hr (fun t ht hW => ⟨(5 : Int32), rfl, trivial, ht⟩) (fun _ h => by cases h) dX4_sortOf_127
          · refine lv_iconst (v := 3) hx hb dX4_sortOf_40 (by decide) ?_
            exact W.iret (v := (3 : Int32)) hx hb hr (fun t ht hW => ⟨(3 : Int32), rfl, trivial, ht⟩) (fun _ h => by cases h) dX4_sortOf_41
      · refine lv_iconst (v := 2) hx hb dX4_sortOf_26 (by decide) ?_
        exact W.iret (v := (2 : Int32)) hx hb hr (fun t ht hW => ⟨(2 : Int32), rfl, trivial, ht⟩) (fun _ h => by cases h) dX4_sortOf_27
  · refine lv_iload_n hx hb dX4_sortOf_6 rfl (lv_at hl 0 rfl) ?_
    refine lv_bipush (v := 90) hx hb dX4_sortOf_7 (by decide) ?_
    refine lv_icmp_gt (tgt := 14) hx hb dX4_sortOf_9 (by decide) (fun cp9 => ?_) (fun cp9 => ?_)
    · refine lv_iload_n hx hb dX4_sortOf_14 rfl (lv_at hl 0 rfl) ?_
      refine lv_bipush (v := 97) hx hb dX4_sortOf_15 (by decide) ?_
      refine lv_icmp_lt (tgt := 28) hx hb dX4_sortOf_17 (by decide) (fun cp17 => ?_) (fun cp17 => ?_)
      · refine lv_iload_n hx hb dX4_sortOf_28 rfl (lv_at hl 0 rfl) ?_
        refine lv_bipush (v := 48) hx hb dX4_sortOf_29 (by decide) ?_
        refine lv_icmp_lt (tgt := 42) hx hb dX4_sortOf_31 (by decide) (fun cp31 => ?_) (fun cp31 => ?_)
        · refine lv_iload_n hx hb dX4_sortOf_42 rfl (lv_at hl 0 rfl) ?_
          by_cases cs43_40 : bx = 40
          · refine lv_lookup (off := 81) (tgt := 124) hx hb dX4_sortOf_43 (by decide) (by rw [cs43_40]; decide) (by decide) ?_
            refine lv_iconst (v := 4) hx hb dX4_sortOf_124 (by decide) ?_
            exact W.iret (v := (4 : Int32)) hx hb hr (fun t ht hW => ⟨(4 : Int32), rfl, trivial, ht⟩) (fun _ h => by cases h) dX4_sortOf_125
          · by_cases cs43_41 : bx = 41
            · refine lv_lookup (off := 81) (tgt := 124) hx hb dX4_sortOf_43 (by decide) (by rw [cs43_41]; decide) (by decide) ?_
              refine lv_iconst (v := 4) hx hb dX4_sortOf_124 (by decide) ?_
              exact W.iret (v := (4 : Int32)) hx hb hr (fun t ht hW => ⟨(4 : Int32), rfl, trivial, ht⟩) (fun _ h => by cases h) dX4_sortOf_125
            · by_cases cs43_44 : bx = 44
              · refine lv_lookup (off := 81) (tgt := 124) hx hb dX4_sortOf_43 (by decide) (by rw [cs43_44]; decide) (by decide) ?_
                refine lv_iconst (v := 4) hx hb dX4_sortOf_124 (by decide) ?_
                exact W.iret (v := (4 : Int32)) hx hb hr (fun t ht hW => ⟨(4 : Int32), rfl, trivial, ht⟩) (fun _ h => by cases h) dX4_sortOf_125
              · by_cases cs43_58 : bx = 58
                · refine lv_lookup (off := 81) (tgt := 124) hx hb dX4_sortOf_43 (by decide) (by rw [cs43_58]; decide) (by decide) ?_
                  refine lv_iconst (v := 4) hx hb dX4_sortOf_124 (by decide) ?_
                  exact W.iret (v := (4 : Int32)) hx hb hr (fun t ht hW => ⟨(4 : Int32), rfl, trivial, ht⟩) (fun _ h => by cases h) dX4_sortOf_125
                · by_cases cs43_59 : bx = 59
                  · refine lv_lookup (off := 81) (tgt := 124) hx hb dX4_sortOf_43 (by decide) (by rw [cs43_59]; decide) (by decide) ?_
                    refine lv_iconst (v := 4) hx hb dX4_sortOf_124 (by decide) ?_
                    exact W.iret (v := (4 : Int32)) hx hb hr (fun t ht hW => ⟨(4 : Int32), rfl, trivial, ht⟩) (fun _ h => by cases h) dX4_sortOf_125
                  · by_cases cs43_60 : bx = 60
                    · refine lv_lookup (off := 81) (tgt := 124) hx hb dX4_sortOf_43 (by decide) (by rw [cs43_60]; decide) (by decide) ?_
                      refine lv_iconst (v := 4) hx hb dX4_sortOf_124 (by decide) ?_
                      exact W.iret (v := (4 : Int32)) hx hb hr (fun t ht hW => ⟨(4 : Int32), rfl, trivial, ht⟩) (fun _ h => by cases h) dX4_sortOf_125
                    · by_cases cs43_61 : bx = 61
                      · refine lv_lookup (off := 81) (tgt := 124) hx hb dX4_sortOf_43 (by decide) (by rw [cs43_61]; decide) (by decide) ?_
                        refine lv_iconst (v := 4) hx hb dX4_sortOf_124 (by decide) ?_
                        exact W.iret (v := (4 : Int32)) hx hb hr (fun t ht hW => ⟨(4 : Int32), rfl, trivial, ht⟩) (fun _ h => by cases h) dX4_sortOf_125
                      · by_cases cs43_123 : bx = 123
                        · refine lv_lookup (off := 81) (tgt := 124) hx hb dX4_sortOf_43 (by decide) (by rw [cs43_123]; decide) (by decide) ?_
                          refine lv_iconst (v := 4) hx hb dX4_sortOf_124 (by decide) ?_
                          exact W.iret (v := (4 : Int32)) hx hb hr (fun t ht hW => ⟨(4 : Int32), rfl, trivial, ht⟩) (fun _ h => by cases h) dX4_sortOf_125
                        · by_cases cs43_125 : bx = 125
                          · refine lv_lookup (off := 81) (tgt := 124) hx hb dX4_sortOf_43 (by decide) (by rw [cs43_125]; decide) (by decide) ?_
                            refine lv_iconst (v := 4) hx hb dX4_sortOf_124 (by decide) ?_
                            exact W.iret (v := (4 : Int32)) hx hb hr (fun t ht hW => ⟨(4 : Int32), rfl, trivial, ht⟩) (fun _ h => by cases h) dX4_sortOf_125
                          · refine lv_lookup (off := 83) (tgt := 126) hx hb dX4_sortOf_43 (by decide) (by show Op.lookupswitch.offset [(40, 81), (41, 81), (44, 81), (58, 81), (59, 81), (60, 81), (61, 81), (123, 81), (125, 81)] 83 _ = 83; have a43_40 := lv_neT (a := 40) cs43_40 (by decide); have a43_41 := lv_neT (a := 41) cs43_41 (by decide); have a43_44 := lv_neT (a := 44) cs43_44 (by decide); have a43_58 := lv_neT (a := 58) cs43_58 (by decide); have a43_59 := lv_neT (a := 59) cs43_59 (by decide); have a43_60 := lv_neT (a := 60) cs43_60 (by decide); have a43_61 := lv_neT (a := 61) cs43_61 (by decide); have a43_123 := lv_neT (a := 123) cs43_123 (by decide); have a43_125 := lv_neT (a := 125) cs43_125 (by decide); rw [Op.lookupswitch.offset_cons, if_neg (fun h9 => a43_40 h9.symm), Op.lookupswitch.offset_cons, if_neg (fun h9 => a43_41 h9.symm), Op.lookupswitch.offset_cons, if_neg (fun h9 => a43_44 h9.symm), Op.lookupswitch.offset_cons, if_neg (fun h9 => a43_58 h9.symm), Op.lookupswitch.offset_cons, if_neg (fun h9 => a43_59 h9.symm), Op.lookupswitch.offset_cons, if_neg (fun h9 => a43_60 h9.symm), Op.lookupswitch.offset_cons, if_neg (fun h9 => a43_61 h9.symm), Op.lookupswitch.offset_cons, if_neg (fun h9 => a43_123 h9.symm), Op.lookupswitch.offset_cons, if_neg (fun h9 => a43_125 h9.symm), Op.lookupswitch.offset_nil]) (by decide) ?_
                            refine lv_iconst (v := 5) hx hb dX4_sortOf_126 (by decide) ?_
                            exact W.iret (v := (5 : Int32)) hx hb hr (fun t ht hW => ⟨(5 : Int32), rfl, trivial, ht⟩) (fun _ h => by cases h) dX4_sortOf_127
        · refine lv_iload_n hx hb dX4_sortOf_34 rfl (lv_at hl 0 rfl) ?_
          refine lv_bipush (v := 57) hx hb dX4_sortOf_35 (by decide) ?_
          refine lv_icmp_gt (tgt := 42) hx hb dX4_sortOf_37 (by decide) (fun cp37 => ?_) (fun cp37 => ?_)
          · refine lv_iload_n hx hb dX4_sortOf_42 rfl (lv_at hl 0 rfl) ?_
            by_cases cs43_40 : bx = 40
            · refine lv_lookup (off := 81) (tgt := 124) hx hb dX4_sortOf_43 (by decide) (by rw [cs43_40]; decide) (by decide) ?_
              refine lv_iconst (v := 4) hx hb dX4_sortOf_124 (by decide) ?_
              exact W.iret (v := (4 : Int32)) hx hb hr (fun t ht hW => ⟨(4 : Int32), rfl, trivial, ht⟩) (fun _ h => by cases h) dX4_sortOf_125
            · by_cases cs43_41 : bx = 41
              · refine lv_lookup (off := 81) (tgt := 124) hx hb dX4_sortOf_43 (by decide) (by rw [cs43_41]; decide) (by decide) ?_
                refine lv_iconst (v := 4) hx hb dX4_sortOf_124 (by decide) ?_
                exact W.iret (v := (4 : Int32)) hx hb hr (fun t ht hW => ⟨(4 : Int32), rfl, trivial, ht⟩) (fun _ h => by cases h) dX4_sortOf_125
              · by_cases cs43_44 : bx = 44
                · refine lv_lookup (off := 81) (tgt := 124) hx hb dX4_sortOf_43 (by decide) (by rw [cs43_44]; decide) (by decide) ?_
                  refine lv_iconst (v := 4) hx hb dX4_sortOf_124 (by decide) ?_
                  exact W.iret (v := (4 : Int32)) hx hb hr (fun t ht hW => ⟨(4 : Int32), rfl, trivial, ht⟩) (fun _ h => by cases h) dX4_sortOf_125
                · by_cases cs43_58 : bx = 58
                  · refine lv_lookup (off := 81) (tgt := 124) hx hb dX4_sortOf_43 (by decide) (by rw [cs43_58]; decide) (by decide) ?_
                    refine lv_iconst (v := 4) hx hb dX4_sortOf_124 (by decide) ?_
                    exact W.iret (v := (4 : Int32)) hx hb hr (fun t ht hW => ⟨(4 : Int32), rfl, trivial, ht⟩) (fun _ h => by cases h) dX4_sortOf_125
                  · by_cases cs43_59 : bx = 59
                    · refine lv_lookup (off := 81) (tgt := 124) hx hb dX4_sortOf_43 (by decide) (by rw [cs43_59]; decide) (by decide) ?_
                      refine lv_iconst (v := 4) hx hb dX4_sortOf_124 (by decide) ?_
                      exact W.iret (v := (4 : Int32)) hx hb hr (fun t ht hW => ⟨(4 : Int32), rfl, trivial, ht⟩) (fun _ h => by cases h) dX4_sortOf_125
                    · by_cases cs43_60 : bx = 60
                      · refine lv_lookup (off := 81) (tgt := 124) hx hb dX4_sortOf_43 (by decide) (by rw [cs43_60]; decide) (by decide) ?_
                        refine lv_iconst (v := 4) hx hb dX4_sortOf_124 (by decide) ?_
                        exact W.iret (v := (4 : Int32)) hx hb hr (fun t ht hW => ⟨(4 : Int32), rfl, trivial, ht⟩) (fun _ h => by cases h) dX4_sortOf_125
                      · by_cases cs43_61 : bx = 61
                        · refine lv_lookup (off := 81) (tgt := 124) hx hb dX4_sortOf_43 (by decide) (by rw [cs43_61]; decide) (by decide) ?_
                          refine lv_iconst (v := 4) hx hb dX4_sortOf_124 (by decide) ?_
                          exact W.iret (v := (4 : Int32)) hx hb hr (fun t ht hW => ⟨(4 : Int32), rfl, trivial, ht⟩) (fun _ h => by cases h) dX4_sortOf_125
                        · by_cases cs43_123 : bx = 123
                          · refine lv_lookup (off := 81) (tgt := 124) hx hb dX4_sortOf_43 (by decide) (by rw [cs43_123]; decide) (by decide) ?_
                            refine lv_iconst (v := 4) hx hb dX4_sortOf_124 (by decide) ?_
                            exact W.iret (v := (4 : Int32)) hx hb hr (fun t ht hW => ⟨(4 : Int32), rfl, trivial, ht⟩) (fun _ h => by cases h) dX4_sortOf_125
                          · by_cases cs43_125 : bx = 125
                            · refine lv_lookup (off := 81) (tgt := 124) hx hb dX4_sortOf_43 (by decide) (by rw [cs43_125]; decide) (by decide) ?_
                              refine lv_iconst (v := 4) hx hb dX4_sortOf_124 (by decide) ?_
                              exact W.iret (v := (4 : Int32)) hx hb hr (fun t ht hW => ⟨(4 : Int32), rfl, trivial, ht⟩) (fun _ h => by cases h) dX4_sortOf_125
                            · refine lv_lookup (off := 83) (tgt := 126) hx hb dX4_sortOf_43 (by decide) (by show Op.lookupswitch.offset [(40, 81), (41, 81), (44, 81), (58, 81), (59, 81), (60, 81), (61, 81), (123, 81), (125, 81)] 83 _ = 83; have a43_40 := lv_neT (a := 40) cs43_40 (by decide); have a43_41 := lv_neT (a := 41) cs43_41 (by decide); have a43_44 := lv_neT (a := 44) cs43_44 (by decide); have a43_58 := lv_neT (a := 58) cs43_58 (by decide); have a43_59 := lv_neT (a := 59) cs43_59 (by decide); have a43_60 := lv_neT (a := 60) cs43_60 (by decide); have a43_61 := lv_neT (a := 61) cs43_61 (by decide); have a43_123 := lv_neT (a := 123) cs43_123 (by decide); have a43_125 := lv_neT (a := 125) cs43_125 (by decide); rw [Op.lookupswitch.offset_cons, if_neg (fun h9 => a43_40 h9.symm), Op.lookupswitch.offset_cons, if_neg (fun h9 => a43_41 h9.symm), Op.lookupswitch.offset_cons, if_neg (fun h9 => a43_44 h9.symm), Op.lookupswitch.offset_cons, if_neg (fun h9 => a43_58 h9.symm), Op.lookupswitch.offset_cons, if_neg (fun h9 => a43_59 h9.symm), Op.lookupswitch.offset_cons, if_neg (fun h9 => a43_60 h9.symm), Op.lookupswitch.offset_cons, if_neg (fun h9 => a43_61 h9.symm), Op.lookupswitch.offset_cons, if_neg (fun h9 => a43_123 h9.symm), Op.lookupswitch.offset_cons, if_neg (fun h9 => a43_125 h9.symm), Op.lookupswitch.offset_nil]) (by decide) ?_
                              refine lv_iconst (v := 5) hx hb dX4_sortOf_126 (by decide) ?_
                              exact W.iret (v := (5 : Int32)) hx hb hr (fun t ht hW => ⟨(5 : Int32), rfl, trivial, ht⟩) (fun _ h => by cases h) dX4_sortOf_127
          · refine lv_iconst (v := 3) hx hb dX4_sortOf_40 (by decide) ?_
            exact W.iret (v := (3 : Int32)) hx hb hr (fun t ht hW => ⟨(3 : Int32), rfl, trivial, ht⟩) (fun _ h => by cases h) dX4_sortOf_41
      · refine lv_iload_n hx hb dX4_sortOf_20 rfl (lv_at hl 0 rfl) ?_
        refine lv_bipush (v := 122) hx hb dX4_sortOf_21 (by decide) ?_
        refine lv_icmp_gt (tgt := 28) hx hb dX4_sortOf_23 (by decide) (fun cp23 => ?_) (fun cp23 => ?_)
        · refine lv_iload_n hx hb dX4_sortOf_28 rfl (lv_at hl 0 rfl) ?_
          refine lv_bipush (v := 48) hx hb dX4_sortOf_29 (by decide) ?_
          refine lv_icmp_lt (tgt := 42) hx hb dX4_sortOf_31 (by decide) (fun cp31 => ?_) (fun cp31 => ?_)
          · refine lv_iload_n hx hb dX4_sortOf_42 rfl (lv_at hl 0 rfl) ?_
            by_cases cs43_40 : bx = 40
            · refine lv_lookup (off := 81) (tgt := 124) hx hb dX4_sortOf_43 (by decide) (by rw [cs43_40]; decide) (by decide) ?_
              refine lv_iconst (v := 4) hx hb dX4_sortOf_124 (by decide) ?_
              exact W.iret (v := (4 : Int32)) hx hb hr (fun t ht hW => ⟨(4 : Int32), rfl, trivial, ht⟩) (fun _ h => by cases h) dX4_sortOf_125
            · by_cases cs43_41 : bx = 41
              · refine lv_lookup (off := 81) (tgt := 124) hx hb dX4_sortOf_43 (by decide) (by rw [cs43_41]; decide) (by decide) ?_
                refine lv_iconst (v := 4) hx hb dX4_sortOf_124 (by decide) ?_
                exact W.iret (v := (4 : Int32)) hx hb hr (fun t ht hW => ⟨(4 : Int32), rfl, trivial, ht⟩) (fun _ h => by cases h) dX4_sortOf_125
              · by_cases cs43_44 : bx = 44
                · refine lv_lookup (off := 81) (tgt := 124) hx hb dX4_sortOf_43 (by decide) (by rw [cs43_44]; decide) (by decide) ?_
                  refine lv_iconst (v := 4) hx hb dX4_sortOf_124 (by decide) ?_
                  exact W.iret (v := (4 : Int32)) hx hb hr (fun t ht hW => ⟨(4 : Int32), rfl, trivial, ht⟩) (fun _ h => by cases h) dX4_sortOf_125
                · by_cases cs43_58 : bx = 58
                  · refine lv_lookup (off := 81) (tgt := 124) hx hb dX4_sortOf_43 (by decide) (by rw [cs43_58]; decide) (by decide) ?_
                    refine lv_iconst (v := 4) hx hb dX4_sortOf_124 (by decide) ?_
                    exact W.iret (v := (4 : Int32)) hx hb hr (fun t ht hW => ⟨(4 : Int32), rfl, trivial, ht⟩) (fun _ h => by cases h) dX4_sortOf_125
                  · by_cases cs43_59 : bx = 59
                    · refine lv_lookup (off := 81) (tgt := 124) hx hb dX4_sortOf_43 (by decide) (by rw [cs43_59]; decide) (by decide) ?_
                      refine lv_iconst (v := 4) hx hb dX4_sortOf_124 (by decide) ?_
                      exact W.iret (v := (4 : Int32)) hx hb hr (fun t ht hW => ⟨(4 : Int32), rfl, trivial, ht⟩) (fun _ h => by cases h) dX4_sortOf_125
                    · by_cases cs43_60 : bx = 60
                      · refine lv_lookup (off := 81) (tgt := 124) hx hb dX4_sortOf_43 (by decide) (by rw [cs43_60]; decide) (by decide) ?_
                        refine lv_iconst (v := 4) hx hb dX4_sortOf_124 (by decide) ?_
                        exact W.iret (v := (4 : Int32)) hx hb hr (fun t ht hW => ⟨(4 : Int32), rfl, trivial, ht⟩) (fun _ h => by cases h) dX4_sortOf_125
                      · by_cases cs43_61 : bx = 61
                        · refine lv_lookup (off := 81) (tgt := 124) hx hb dX4_sortOf_43 (by decide) (by rw [cs43_61]; decide) (by decide) ?_
                          refine lv_iconst (v := 4) hx hb dX4_sortOf_124 (by decide) ?_
                          exact W.iret (v := (4 : Int32)) hx hb hr (fun t ht hW => ⟨(4 : Int32), rfl, trivial, ht⟩) (fun _ h => by cases h) dX4_sortOf_125
                        · by_cases cs43_123 : bx = 123
                          · refine lv_lookup (off := 81) (tgt := 124) hx hb dX4_sortOf_43 (by decide) (by rw [cs43_123]; decide) (by decide) ?_
                            refine lv_iconst (v := 4) hx hb dX4_sortOf_124 (by decide) ?_
                            exact W.iret (v := (4 : Int32)) hx hb hr (fun t ht hW => ⟨(4 : Int32), rfl, trivial, ht⟩) (fun _ h => by cases h) dX4_sortOf_125
                          · by_cases cs43_125 : bx = 125
                            · refine lv_lookup (off := 81) (tgt := 124) hx hb dX4_sortOf_43 (by decide) (by rw [cs43_125]; decide) (by decide) ?_
                              refine lv_iconst (v := 4) hx hb dX4_sortOf_124 (by decide) ?_
                              exact W.iret (v := (4 : Int32)) hx hb hr (fun t ht hW => ⟨(4 : Int32), rfl, trivial, ht⟩) (fun _ h => by cases h) dX4_sortOf_125
                            · refine lv_lookup (off := 83) (tgt := 126) hx hb dX4_sortOf_43 (by decide) (by show Op.lookupswitch.offset [(40, 81), (41, 81), (44, 81), (58, 81), (59, 81), (60, 81), (61, 81), (123, 81), (125, 81)] 83 _ = 83; have a43_40 := lv_neT (a := 40) cs43_40 (by decide); have a43_41 := lv_neT (a := 41) cs43_41 (by decide); have a43_44 := lv_neT (a := 44) cs43_44 (by decide); have a43_58 := lv_neT (a := 58) cs43_58 (by decide); have a43_59 := lv_neT (a := 59) cs43_59 (by decide); have a43_60 := lv_neT (a := 60) cs43_60 (by decide); have a43_61 := lv_neT (a := 61) cs43_61 (by decide); have a43_123 := lv_neT (a := 123) cs43_123 (by decide); have a43_125 := lv_neT (a := 125) cs43_125 (by decide); rw [Op.lookupswitch.offset_cons, if_neg (fun h9 => a43_40 h9.symm), Op.lookupswitch.offset_cons, if_neg (fun h9 => a43_41 h9.symm), Op.lookupswitch.offset_cons, if_neg (fun h9 => a43_44 h9.symm), Op.lookupswitch.offset_cons, if_neg (fun h9 => a43_58 h9.symm), Op.lookupswitch.offset_cons, if_neg (fun h9 => a43_59 h9.symm), Op.lookupswitch.offset_cons, if_neg (fun h9 => a43_60 h9.symm), Op.lookupswitch.offset_cons, if_neg (fun h9 => a43_61 h9.symm), Op.lookupswitch.offset_cons, if_neg (fun h9 => a43_123 h9.symm), Op.lookupswitch.offset_cons, if_neg (fun h9 => a43_125 h9.symm), Op.lookupswitch.offset_nil]) (by decide) ?_
                              refine lv_iconst (v := 5) hx hb dX4_sortOf_126 (by decide) ?_
                              exact W.iret (v := (5 : Int32)) hx hb hr (fun t ht hW => ⟨(5 : Int32), rfl, trivial, ht⟩) (fun _ h => by cases h) dX4_sortOf_127
          · refine lv_iload_n hx hb dX4_sortOf_34 rfl (lv_at hl 0 rfl) ?_
            refine lv_bipush (v := 57) hx hb dX4_sortOf_35 (by decide) ?_
            refine lv_icmp_gt (tgt := 42) hx hb dX4_sortOf_37 (by decide) (fun cp37 => ?_) (fun cp37 => ?_)
            · refine lv_iload_n hx hb dX4_sortOf_42 rfl (lv_at hl 0 rfl) ?_
              by_cases cs43_40 : bx = 40
              · refine lv_lookup (off := 81) (tgt := 124) hx hb dX4_sortOf_43 (by decide) (by rw [cs43_40]; decide) (by decide) ?_
                refine lv_iconst (v := 4) hx hb dX4_sortOf_124 (by decide) ?_
                exact W.iret (v := (4 : Int32)) hx hb hr (fun t ht hW => ⟨(4 : Int32), rfl, trivial, ht⟩) (fun _ h => by cases h) dX4_sortOf_125
              · by_cases cs43_41 : bx = 41
                · refine lv_lookup (off := 81) (tgt := 124) hx hb dX4_sortOf_43 (by decide) (by rw [cs43_41]; decide) (by decide) ?_
                  refine lv_iconst (v := 4) hx hb dX4_sortOf_124 (by decide) ?_
                  exact W.iret (v := (4 : Int32)) hx hb hr (fun t ht hW => ⟨(4 : Int32), rfl, trivial, ht⟩) (fun _ h => by cases h) dX4_sortOf_125
                · by_cases cs43_44 : bx = 44
                  · refine lv_lookup (off := 81) (tgt := 124) hx hb dX4_sortOf_43 (by decide) (by rw [cs43_44]; decide) (by decide) ?_
                    refine lv_iconst (v := 4) hx hb dX4_sortOf_124 (by decide) ?_
                    exact W.iret (v := (4 : Int32)) hx hb hr (fun t ht hW => ⟨(4 : Int32), rfl, trivial, ht⟩) (fun _ h => by cases h) dX4_sortOf_125
                  · by_cases cs43_58 : bx = 58
                    · refine lv_lookup (off := 81) (tgt := 124) hx hb dX4_sortOf_43 (by decide) (by rw [cs43_58]; decide) (by decide) ?_
                      refine lv_iconst (v := 4) hx hb dX4_sortOf_124 (by decide) ?_
                      exact W.iret (v := (4 : Int32)) hx hb hr (fun t ht hW => ⟨(4 : Int32), rfl, trivial, ht⟩) (fun _ h => by cases h) dX4_sortOf_125
                    · by_cases cs43_59 : bx = 59
                      · refine lv_lookup (off := 81) (tgt := 124) hx hb dX4_sortOf_43 (by decide) (by rw [cs43_59]; decide) (by decide) ?_
                        refine lv_iconst (v := 4) hx hb dX4_sortOf_124 (by decide) ?_
                        exact W.iret (v := (4 : Int32)) hx hb hr (fun t ht hW => ⟨(4 : Int32), rfl, trivial, ht⟩) (fun _ h => by cases h) dX4_sortOf_125
                      · by_cases cs43_60 : bx = 60
                        · refine lv_lookup (off := 81) (tgt := 124) hx hb dX4_sortOf_43 (by decide) (by rw [cs43_60]; decide) (by decide) ?_
                          refine lv_iconst (v := 4) hx hb dX4_sortOf_124 (by decide) ?_
                          exact W.iret (v := (4 : Int32)) hx hb hr (fun t ht hW => ⟨(4 : Int32), rfl, trivial, ht⟩) (fun _ h => by cases h) dX4_sortOf_125
                        · by_cases cs43_61 : bx = 61
                          · refine lv_lookup (off := 81) (tgt := 124) hx hb dX4_sortOf_43 (by decide) (by rw [cs43_61]; decide) (by decide) ?_
                            refine lv_iconst (v := 4) hx hb dX4_sortOf_124 (by decide) ?_
                            exact W.iret (v := (4 : Int32)) hx hb hr (fun t ht hW => ⟨(4 : Int32), rfl, trivial, ht⟩) (fun _ h => by cases h) dX4_sortOf_125
                          · by_cases cs43_123 : bx = 123
                            · refine lv_lookup (off := 81) (tgt := 124) hx hb dX4_sortOf_43 (by decide) (by rw [cs43_123]; decide) (by decide) ?_
                              refine lv_iconst (v := 4) hx hb dX4_sortOf_124 (by decide) ?_
                              exact W.iret (v := (4 : Int32)) hx hb hr (fun t ht hW => ⟨(4 : Int32), rfl, trivial, ht⟩) (fun _ h => by cases h) dX4_sortOf_125
                            · by_cases cs43_125 : bx = 125
                              · refine lv_lookup (off := 81) (tgt := 124) hx hb dX4_sortOf_43 (by decide) (by rw [cs43_125]; decide) (by decide) ?_
                                refine lv_iconst (v := 4) hx hb dX4_sortOf_124 (by decide) ?_
                                exact W.iret (v := (4 : Int32)) hx hb hr (fun t ht hW => ⟨(4 : Int32), rfl, trivial, ht⟩) (fun _ h => by cases h) dX4_sortOf_125
                              · refine lv_lookup (off := 83) (tgt := 126) hx hb dX4_sortOf_43 (by decide) (by show Op.lookupswitch.offset [(40, 81), (41, 81), (44, 81), (58, 81), (59, 81), (60, 81), (61, 81), (123, 81), (125, 81)] 83 _ = 83; have a43_40 := lv_neT (a := 40) cs43_40 (by decide); have a43_41 := lv_neT (a := 41) cs43_41 (by decide); have a43_44 := lv_neT (a := 44) cs43_44 (by decide); have a43_58 := lv_neT (a := 58) cs43_58 (by decide); have a43_59 := lv_neT (a := 59) cs43_59 (by decide); have a43_60 := lv_neT (a := 60) cs43_60 (by decide); have a43_61 := lv_neT (a := 61) cs43_61 (by decide); have a43_123 := lv_neT (a := 123) cs43_123 (by decide); have a43_125 := lv_neT (a := 125) cs43_125 (by decide); rw [Op.lookupswitch.offset_cons, if_neg (fun h9 => a43_40 h9.symm), Op.lookupswitch.offset_cons, if_neg (fun h9 => a43_41 h9.symm), Op.lookupswitch.offset_cons, if_neg (fun h9 => a43_44 h9.symm), Op.lookupswitch.offset_cons, if_neg (fun h9 => a43_58 h9.symm), Op.lookupswitch.offset_cons, if_neg (fun h9 => a43_59 h9.symm), Op.lookupswitch.offset_cons, if_neg (fun h9 => a43_60 h9.symm), Op.lookupswitch.offset_cons, if_neg (fun h9 => a43_61 h9.symm), Op.lookupswitch.offset_cons, if_neg (fun h9 => a43_123 h9.symm), Op.lookupswitch.offset_cons, if_neg (fun h9 => a43_125 h9.symm), Op.lookupswitch.offset_nil]) (by decide) ?_
                                refine lv_iconst (v := 5) hx hb dX4_sortOf_126 (by decide) ?_
                                exact W.iret (v := (5 : Int32)) hx hb hr (fun t ht hW => ⟨(5 : Int32), rfl, trivial, ht⟩) (fun _ h => by cases h) dX4_sortOf_127
            · refine lv_iconst (v := 3) hx hb dX4_sortOf_40 (by decide) ?_
              exact W.iret (v := (3 : Int32)) hx hb hr (fun t ht hW => ⟨(3 : Int32), rfl, trivial, ht⟩) (fun _ h => by cases h) dX4_sortOf_41
        · refine lv_iconst (v := 2) hx hb dX4_sortOf_26 (by decide) ?_
          exact W.iret (v := (2 : Int32)) hx hb hr (fun t ht hW => ⟨(2 : Int32), rfl, trivial, ht⟩) (fun _ h => by cases h) dX4_sortOf_27
    · refine lv_iconst (v := 1) hx hb dX4_sortOf_12 (by decide) ?_
      exact W.iret (v := (1 : Int32)) hx hb hr (fun t ht hW => ⟨(1 : Int32), rfl, trivial, ht⟩) (fun _ h => by cases h) dX4_sortOf_13
theorem dX4_longest_0 : decode cX4_longest 0 = .ok (.aload_n 0, 1) := by decide +kernel
theorem dX4_longest_1 : decode cX4_longest 1 = .ok (.getfield 40, 3) := by decide +kernel
theorem dX4_longest_4 : decode cX4_longest 4 = .ok (.tableswitch 36 1 3 #[28, 30, 33], 28) := by decide +kernel
theorem dX4_longest_32 : decode cX4_longest 32 = .ok (.iconst 4, 1) := by decide +kernel
theorem dX4_longest_33 : decode cX4_longest 33 = .ok (.ireturn, 1) := by decide +kernel
theorem dX4_longest_34 : decode cX4_longest 34 = .ok (.bipush 8, 2) := by decide +kernel
theorem dX4_longest_36 : decode cX4_longest 36 = .ok (.ireturn, 1) := by decide +kernel
theorem dX4_longest_37 : decode cX4_longest 37 = .ok (.bipush 6, 2) := by decide +kernel
theorem dX4_longest_39 : decode cX4_longest 39 = .ok (.ireturn, 1) := by decide +kernel
theorem dX4_longest_40 : decode cX4_longest 40 = .ok (.iconst 1, 1) := by decide +kernel
theorem dX4_longest_41 : decode cX4_longest 41 = .ok (.ireturn, 1) := by decide +kernel
def zwX4_longest : List Cond := .code yX4_longest cX4_longest 1 (some .int) :: ([.fieldLink RX4 40 "LinkModels$Tokens" "sort" "I"] ++ wsX40)
set_option maxHeartbeats 4000000 in
set_option maxRecDepth 100000 in
theorem kX4_longest (l : Launch) (dC : Nat → ClassId) (dI : Nat → Nat → Nat) (rh : Nat) (th : Nat) (tb : Nat) (sh : Nat) (cI : ClassId) (cJ : ClassId) (cB : ClassId) (rm : Int32) (ry : Int32) (rf : Int32) (tl : Nat) (ta : Nat) (ts : Int32) (so : Int32) (tv : Int64) (tpA : Nat → Int32) (sw : Int64) (st : Int32) (sf : Int32) (sq : Int32) (hI : rdWI tl ta) : Met l yX4_longest zwX4_longest ({ frames := 0, cells := 0, slots := 0, locals := 0 }) (zPq dC dI [.ref th] (rdW rh th tb sh cI cJ cB rm ry rf (nI tl) (nI ta) ts so tv tpA sw st sf sq) [(cI, .int), (cJ, .long), (cB, .byte)]) (vp_Si (fun r => (True))) 0 0 (fun _ => False) := by
  refine Met.ofW (cc := cX4_longest) (maxL := 1) (ret := (some .int)) (by decide) rfl ?_
  intro p e s m args below meth c s₁ B hml hv
  obtain ⟨rfl, hP, hK, hE⟩ := hv
  have hx := B.exec
  have hb := B.bytes
  have hr := B.returns
  have hts := atoms_spec (ws := zwX4_longest) B.pre
  have hown : s.vm.findClass RX4 = some m.cls := findClass_of_methodNamed B.named
  have hiX4 : ∀ w ∈ wsX40, w ∈ zwX4_longest := (fun w hw => (List.mem_cons_of_mem _ (List.mem_append_right _ hw)))
  obtain ⟨htl, hta⟩ := hI
  have hl := lv_entry ([.ref th]) (n := 1) (Nat.le_of_ble_eq_true rfl)
  rw [lg_entry_eq]
  generalize (lg_sl ([.ref th]) ++ List.replicate (1 - (lg_sl ([.ref th])).length) Slot.unset).toArray = ls at hl ⊢
  have hl : lv_has ls 1 [(0, .ref th)] := hl
  refine lv_aload_n hx hb dX4_longest_0 rfl (lv_at hl 0 rfl) ?_
  refine va_get (D := (dC, dI)) (ci := 3) (v := .int so) (C := RX4) (T := TX4) (N := 6) hx hb hts hiX4 hown hK hP 1 rfl rfl 4 (by decide) (hts (.fieldLink RX4 40 "LinkModels$Tokens" "sort" "I") (by decide +kernel)) (fun _ h9 => h9) rfl dX4_longest_1 ?_
  by_cases cs4_1 : so = 1
  · refine lv_tableIn (off := 28) (tgt := 32) hx hb dX4_longest_4 (by rw [cs4_1]; decide) (by rw [cs4_1]; decide) (by rw [cs4_1]; decide) (by decide) ?_
    refine lv_iconst (v := 4) hx hb dX4_longest_32 (by decide) ?_
    exact W.iret (v := (4 : Int32)) hx hb hr (fun t ht hW => ⟨(4 : Int32), rfl, trivial, ht⟩) (fun _ h => by cases h) dX4_longest_33
  · by_cases cs4_2 : so = 2
    · refine lv_tableIn (off := 30) (tgt := 34) hx hb dX4_longest_4 (by rw [cs4_2]; decide) (by rw [cs4_2]; decide) (by rw [cs4_2]; decide) (by decide) ?_
      refine lv_bipush (v := 8) hx hb dX4_longest_34 (by decide) ?_
      exact W.iret (v := (8 : Int32)) hx hb hr (fun t ht hW => ⟨(8 : Int32), rfl, trivial, ht⟩) (fun _ h => by cases h) dX4_longest_36
    · by_cases cs4_3 : so = 3
      · refine lv_tableIn (off := 33) (tgt := 37) hx hb dX4_longest_4 (by rw [cs4_3]; decide) (by rw [cs4_3]; decide) (by rw [cs4_3]; decide) (by decide) ?_
        refine lv_bipush (v := 6) hx hb dX4_longest_37 (by decide) ?_
        exact W.iret (v := (6 : Int32)) hx hb hr (fun t ht hW => ⟨(6 : Int32), rfl, trivial, ht⟩) (fun _ h => by cases h) dX4_longest_39
      · refine lv_tableOut (tgt := 40) hx hb dX4_longest_4 (by have a4_1 := lv_neT (a := 1) cs4_1 (by decide); have a4_2 := lv_neT (a := 2) cs4_2 (by decide); have a4_3 := lv_neT (a := 3) cs4_3 (by decide); omega) (by decide) ?_
        refine lv_iconst (v := 1) hx hb dX4_longest_40 (by decide) ?_
        exact W.iret (v := (1 : Int32)) hx hb hr (fun t ht hW => ⟨(1 : Int32), rfl, trivial, ht⟩) (fun _ h => by cases h) dX4_longest_41
theorem dX4_isSign_0 : decode cX4_isSign 0 = .ok (.aload_n 0, 1) := by decide +kernel
theorem dX4_isSign_1 : decode cX4_isSign 1 = .ok (.getfield 40, 3) := by decide +kernel
theorem dX4_isSign_4 : decode cX4_isSign 4 = .ok (.iconst 4, 1) := by decide +kernel
theorem dX4_isSign_5 : decode cX4_isSign 5 = .ok (.if_icmp .ne 17, 3) := by decide +kernel
theorem dX4_isSign_8 : decode cX4_isSign 8 = .ok (.aload_n 0, 1) := by decide +kernel
theorem dX4_isSign_9 : decode cX4_isSign 9 = .ok (.getfield 32, 3) := by decide +kernel
theorem dX4_isSign_12 : decode cX4_isSign 12 = .ok (.iload_n 1, 1) := by decide +kernel
theorem dX4_isSign_13 : decode cX4_isSign 13 = .ok (.i2l, 1) := by decide +kernel
theorem dX4_isSign_14 : decode cX4_isSign 14 = .ok (.lcmp, 1) := by decide +kernel
theorem dX4_isSign_15 : decode cX4_isSign 15 = .ok (.ifCond .ne 7, 3) := by decide +kernel
theorem dX4_isSign_18 : decode cX4_isSign 18 = .ok (.iconst 1, 1) := by decide +kernel
theorem dX4_isSign_19 : decode cX4_isSign 19 = .ok (.goto 4, 3) := by decide +kernel
theorem dX4_isSign_22 : decode cX4_isSign 22 = .ok (.iconst 0, 1) := by decide +kernel
theorem dX4_isSign_23 : decode cX4_isSign 23 = .ok (.ireturn, 1) := by decide +kernel
def zwX4_isSign : List Cond := .code yX4_isSign cX4_isSign 2 (some .boolean) :: ([.fieldLink RX4 40 "LinkModels$Tokens" "sort" "I", .fieldLink RX4 32 "LinkModels$Tokens" "value" "J"] ++ wsX40)
set_option maxHeartbeats 4000000 in
set_option maxRecDepth 100000 in
theorem kX4_isSign (l : Launch) (dC : Nat → ClassId) (dI : Nat → Nat → Nat) (rh : Nat) (th : Nat) (tb : Nat) (sh : Nat) (cI : ClassId) (cJ : ClassId) (cB : ClassId) (rm : Int32) (ry : Int32) (rf : Int32) (tl : Nat) (ta : Nat) (ts : Int32) (so : Int32) (tv : Int64) (tpA : Nat → Int32) (sw : Int64) (st : Int32) (sf : Int32) (sq : Int32) (hI : rdWI tl ta) (sx : Int32) : Met l yX4_isSign zwX4_isSign ({ frames := 0, cells := 0, slots := 0, locals := 0 }) (zPq dC dI [.ref th, .int sx] (rdW rh th tb sh cI cJ cB rm ry rf (nI tl) (nI ta) ts so tv tpA sw st sf sq) [(cI, .int), (cJ, .long), (cB, .byte)]) (vp_Si (fun r => (r = 0 ∨ r = 1))) 0 0 (fun _ => False) := by
  refine Met.ofW (cc := cX4_isSign) (maxL := 2) (ret := (some .boolean)) (by decide) rfl ?_
  intro p e s m args below meth c s₁ B hml hv
  obtain ⟨rfl, hP, hK, hE⟩ := hv
  have hx := B.exec
  have hb := B.bytes
  have hr := B.returns
  have hts := atoms_spec (ws := zwX4_isSign) B.pre
  have hown : s.vm.findClass RX4 = some m.cls := findClass_of_methodNamed B.named
  have hiX4 : ∀ w ∈ wsX40, w ∈ zwX4_isSign := (fun w hw => (List.mem_cons_of_mem _ (List.mem_append_right _ hw)))
  obtain ⟨htl, hta⟩ := hI
  have hl := lv_entry ([.ref th, .int sx]) (n := 2) (Nat.le_of_ble_eq_true rfl)
  rw [lg_entry_eq]
  generalize (lg_sl ([.ref th, .int sx]) ++ List.replicate (2 - (lg_sl ([.ref th, .int sx])).length) Slot.unset).toArray = ls at hl ⊢
  have hl : lv_has ls 2 [(0, .ref th), (1, .int sx)] := hl
  refine lv_aload_n hx hb dX4_isSign_0 rfl (lv_at hl 0 rfl) ?_
  refine va_get (D := (dC, dI)) (ci := 3) (v := .int so) (C := RX4) (T := TX4) (N := 6) hx hb hts hiX4 hown hK hP 1 rfl rfl 4 (by decide) (hts (.fieldLink RX4 40 "LinkModels$Tokens" "sort" "I") (by decide +kernel)) (fun _ h9 => h9) rfl dX4_isSign_1 ?_
  refine lv_iconst (v := 4) hx hb dX4_isSign_4 (by decide) ?_
  refine lv_icmp_ne (tgt := 22) hx hb dX4_isSign_5 (by decide) (fun cp5 => ?_) (fun cp5 => ?_)
  · refine lv_iconst (v := 0) hx hb dX4_isSign_22 (by decide) ?_
    exact W.zret (v := (0 : Int32)) hx hb hr rfl (fun t ht hW => ⟨(0 : Int32), rfl, (Or.inl rfl), ht⟩) (fun _ h => by cases h) dX4_isSign_23
  · refine lv_aload_n hx hb dX4_isSign_8 rfl (lv_at hl 0 rfl) ?_
    refine va_get (D := (dC, dI)) (ci := 3) (v := .long tv) (C := RX4) (T := TX4) (N := 6) hx hb hts hiX4 hown hK hP 1 rfl rfl 5 (by decide) (hts (.fieldLink RX4 32 "LinkModels$Tokens" "value" "J") (by decide +kernel)) (fun _ h9 => h9) rfl dX4_isSign_9 ?_
    refine lv_iload_n hx hb dX4_isSign_12 rfl (lv_at hl 1 rfl) ?_
    refine lv_i2l hx hb dX4_isSign_13 rfl ?_
    refine lv_topl (fun x1 ex1 => ?_)
    refine W.lcmp hx hb dX4_isSign_14 ?_
    refine lv_if_ne (tgt := 22) hx hb dX4_isSign_15 (by decide) (fun cp15 => ?_) (fun cp15 => ?_)
    · refine lv_iconst (v := 0) hx hb dX4_isSign_22 (by decide) ?_
      exact W.zret (v := (0 : Int32)) hx hb hr rfl (fun t ht hW => ⟨(0 : Int32), rfl, (Or.inl rfl), ht⟩) (fun _ h => by cases h) dX4_isSign_23
    · refine lv_iconst (v := 1) hx hb dX4_isSign_18 (by decide) ?_
      refine lv_goto (tgt := 23) hx hb dX4_isSign_19 (by decide) ?_
      exact W.zret (v := (1 : Int32)) hx hb hr rfl (fun t ht hW => ⟨(1 : Int32), rfl, (Or.inr rfl), ht⟩) (fun _ h => by cases h) dX4_isSign_23
theorem dX4_isWord_0 : decode cX4_isWord 0 = .ok (.aload_n 0, 1) := by decide +kernel
theorem dX4_isWord_1 : decode cX4_isWord 1 = .ok (.getfield 40, 3) := by decide +kernel
theorem dX4_isWord_4 : decode cX4_isWord 4 = .ok (.iconst 2, 1) := by decide +kernel
theorem dX4_isWord_5 : decode cX4_isWord 5 = .ok (.if_icmp .ne 16, 3) := by decide +kernel
theorem dX4_isWord_8 : decode cX4_isWord 8 = .ok (.aload_n 0, 1) := by decide +kernel
theorem dX4_isWord_9 : decode cX4_isWord 9 = .ok (.getfield 32, 3) := by decide +kernel
theorem dX4_isWord_12 : decode cX4_isWord 12 = .ok (.lload_n 1, 1) := by decide +kernel
theorem dX4_isWord_13 : decode cX4_isWord 13 = .ok (.lcmp, 1) := by decide +kernel
theorem dX4_isWord_14 : decode cX4_isWord 14 = .ok (.ifCond .ne 7, 3) := by decide +kernel
theorem dX4_isWord_17 : decode cX4_isWord 17 = .ok (.iconst 1, 1) := by decide +kernel
theorem dX4_isWord_18 : decode cX4_isWord 18 = .ok (.goto 4, 3) := by decide +kernel
theorem dX4_isWord_21 : decode cX4_isWord 21 = .ok (.iconst 0, 1) := by decide +kernel
theorem dX4_isWord_22 : decode cX4_isWord 22 = .ok (.ireturn, 1) := by decide +kernel
def zwX4_isWord : List Cond := .code yX4_isWord cX4_isWord 3 (some .boolean) :: ([.fieldLink RX4 40 "LinkModels$Tokens" "sort" "I", .fieldLink RX4 32 "LinkModels$Tokens" "value" "J"] ++ wsX40)
set_option maxHeartbeats 4000000 in
set_option maxRecDepth 100000 in
theorem kX4_isWord (l : Launch) (dC : Nat → ClassId) (dI : Nat → Nat → Nat) (rh : Nat) (th : Nat) (tb : Nat) (sh : Nat) (cI : ClassId) (cJ : ClassId) (cB : ClassId) (rm : Int32) (ry : Int32) (rf : Int32) (tl : Nat) (ta : Nat) (ts : Int32) (so : Int32) (tv : Int64) (tpA : Nat → Int32) (sw : Int64) (st : Int32) (sf : Int32) (sq : Int32) (hI : rdWI tl ta) (wx : Int64) : Met l yX4_isWord zwX4_isWord ({ frames := 0, cells := 0, slots := 0, locals := 0 }) (zPq dC dI [.ref th, .long wx] (rdW rh th tb sh cI cJ cB rm ry rf (nI tl) (nI ta) ts so tv tpA sw st sf sq) [(cI, .int), (cJ, .long), (cB, .byte)]) (vp_Si (fun r => (r = 0 ∨ r = 1))) 0 0 (fun _ => False) := by
  refine Met.ofW (cc := cX4_isWord) (maxL := 3) (ret := (some .boolean)) (by decide) rfl ?_
  intro p e s m args below meth c s₁ B hml hv
  obtain ⟨rfl, hP, hK, hE⟩ := hv
  have hx := B.exec
  have hb := B.bytes
  have hr := B.returns
  have hts := atoms_spec (ws := zwX4_isWord) B.pre
  have hown : s.vm.findClass RX4 = some m.cls := findClass_of_methodNamed B.named
  have hiX4 : ∀ w ∈ wsX40, w ∈ zwX4_isWord := (fun w hw => (List.mem_cons_of_mem _ (List.mem_append_right _ hw)))
  obtain ⟨htl, hta⟩ := hI
  have hl := lv_entry ([.ref th, .long wx]) (n := 3) (Nat.le_of_ble_eq_true rfl)
  rw [lg_entry_eq]
  generalize (lg_sl ([.ref th, .long wx]) ++ List.replicate (3 - (lg_sl ([.ref th, .long wx])).length) Slot.unset).toArray = ls at hl ⊢
  have hl : lv_has ls 3 [(0, .ref th), (1, .long wx)] := hl
  refine lv_aload_n hx hb dX4_isWord_0 rfl (lv_at hl 0 rfl) ?_
  refine va_get (D := (dC, dI)) (ci := 3) (v := .int so) (C := RX4) (T := TX4) (N := 6) hx hb hts hiX4 hown hK hP 1 rfl rfl 4 (by decide) (hts (.fieldLink RX4 40 "LinkModels$Tokens" "sort" "I") (by decide +kernel)) (fun _ h9 => h9) rfl dX4_isWord_1 ?_
  refine lv_iconst (v := 2) hx hb dX4_isWord_4 (by decide) ?_
  refine lv_icmp_ne (tgt := 21) hx hb dX4_isWord_5 (by decide) (fun cp5 => ?_) (fun cp5 => ?_)
  · refine lv_iconst (v := 0) hx hb dX4_isWord_21 (by decide) ?_
    exact W.zret (v := (0 : Int32)) hx hb hr rfl (fun t ht hW => ⟨(0 : Int32), rfl, (Or.inl rfl), ht⟩) (fun _ h => by cases h) dX4_isWord_22
  · refine lv_aload_n hx hb dX4_isWord_8 rfl (lv_at hl 0 rfl) ?_
    refine va_get (D := (dC, dI)) (ci := 3) (v := .long tv) (C := RX4) (T := TX4) (N := 6) hx hb hts hiX4 hown hK hP 1 rfl rfl 5 (by decide) (hts (.fieldLink RX4 32 "LinkModels$Tokens" "value" "J") (by decide +kernel)) (fun _ h9 => h9) rfl dX4_isWord_9 ?_
    refine lv_lload_n hx hb dX4_isWord_12 rfl (lv_at hl 1 rfl) ?_
    refine W.lcmp hx hb dX4_isWord_13 ?_
    refine lv_if_ne (tgt := 21) hx hb dX4_isWord_14 (by decide) (fun cp14 => ?_) (fun cp14 => ?_)
    · refine lv_iconst (v := 0) hx hb dX4_isWord_21 (by decide) ?_
      exact W.zret (v := (0 : Int32)) hx hb hr rfl (fun t ht hW => ⟨(0 : Int32), rfl, (Or.inl rfl), ht⟩) (fun _ h => by cases h) dX4_isWord_22
    · refine lv_iconst (v := 1) hx hb dX4_isWord_17 (by decide) ?_
      refine lv_goto (tgt := 22) hx hb dX4_isWord_18 (by decide) ?_
      exact W.zret (v := (1 : Int32)) hx hb hr rfl (fun t ht hW => ⟨(1 : Int32), rfl, (Or.inr rfl), ht⟩) (fun _ h => by cases h) dX4_isWord_22
theorem dX4_joins_0 : decode cX4_joins 0 = .ok (.aload_n 0, 1) := by decide +kernel
theorem dX4_joins_1 : decode cX4_joins 1 = .ok (.getfield 40, 3) := by decide +kernel
theorem dX4_joins_4 : decode cX4_joins 4 = .ok (.iconst 1, 1) := by decide +kernel
theorem dX4_joins_5 : decode cX4_joins 5 = .ok (.if_icmp .ne 13, 3) := by decide +kernel
theorem dX4_joins_8 : decode cX4_joins 8 = .ok (.iload_n 1, 1) := by decide +kernel
theorem dX4_joins_9 : decode cX4_joins 9 = .ok (.iconst 1, 1) := by decide +kernel
theorem dX4_joins_10 : decode cX4_joins 10 = .ok (.if_icmp .eq 34, 3) := by decide +kernel
theorem dX4_joins_13 : decode cX4_joins 13 = .ok (.iload_n 1, 1) := by decide +kernel
theorem dX4_joins_14 : decode cX4_joins 14 = .ok (.iconst 3, 1) := by decide +kernel
theorem dX4_joins_15 : decode cX4_joins 15 = .ok (.if_icmp .eq 29, 3) := by decide +kernel
theorem dX4_joins_18 : decode cX4_joins 18 = .ok (.aload_n 0, 1) := by decide +kernel
theorem dX4_joins_19 : decode cX4_joins 19 = .ok (.getfield 40, 3) := by decide +kernel
theorem dX4_joins_22 : decode cX4_joins 22 = .ok (.iconst 2, 1) := by decide +kernel
theorem dX4_joins_23 : decode cX4_joins 23 = .ok (.if_icmp .ne 8, 3) := by decide +kernel
theorem dX4_joins_26 : decode cX4_joins 26 = .ok (.iload_n 1, 1) := by decide +kernel
theorem dX4_joins_27 : decode cX4_joins 27 = .ok (.iconst 2, 1) := by decide +kernel
theorem dX4_joins_28 : decode cX4_joins 28 = .ok (.if_icmp .eq 16, 3) := by decide +kernel
theorem dX4_joins_31 : decode cX4_joins 31 = .ok (.aload_n 0, 1) := by decide +kernel
theorem dX4_joins_32 : decode cX4_joins 32 = .ok (.getfield 40, 3) := by decide +kernel
theorem dX4_joins_35 : decode cX4_joins 35 = .ok (.iconst 3, 1) := by decide +kernel
theorem dX4_joins_36 : decode cX4_joins 36 = .ok (.if_icmp .ne 12, 3) := by decide +kernel
theorem dX4_joins_39 : decode cX4_joins 39 = .ok (.iload_n 1, 1) := by decide +kernel
theorem dX4_joins_40 : decode cX4_joins 40 = .ok (.iconst 3, 1) := by decide +kernel
theorem dX4_joins_41 : decode cX4_joins 41 = .ok (.if_icmp .ne 7, 3) := by decide +kernel
theorem dX4_joins_44 : decode cX4_joins 44 = .ok (.iconst 1, 1) := by decide +kernel
theorem dX4_joins_45 : decode cX4_joins 45 = .ok (.goto 4, 3) := by decide +kernel
theorem dX4_joins_48 : decode cX4_joins 48 = .ok (.iconst 0, 1) := by decide +kernel
theorem dX4_joins_49 : decode cX4_joins 49 = .ok (.ireturn, 1) := by decide +kernel
def zwX4_joins : List Cond := .code yX4_joins cX4_joins 2 (some .boolean) :: ([.fieldLink RX4 40 "LinkModels$Tokens" "sort" "I"] ++ wsX40)
set_option maxHeartbeats 4000000 in
set_option maxRecDepth 100000 in
theorem kX4_joins (l : Launch) (dC : Nat → ClassId) (dI : Nat → Nat → Nat) (rh : Nat) (th : Nat) (tb : Nat) (sh : Nat) (cI : ClassId) (cJ : ClassId) (cB : ClassId) (rm : Int32) (ry : Int32) (rf : Int32) (tl : Nat) (ta : Nat) (ts : Int32) (so : Int32) (tv : Int64) (tpA : Nat → Int32) (sw : Int64) (st : Int32) (sf : Int32) (sq : Int32) (hI : rdWI tl ta) (nx : Int32) : Met l yX4_joins zwX4_joins ({ frames := 0, cells := 0, slots := 0, locals := 0 }) (zPq dC dI [.ref th, .int nx] (rdW rh th tb sh cI cJ cB rm ry rf (nI tl) (nI ta) ts so tv tpA sw st sf sq) [(cI, .int), (cJ, .long), (cB, .byte)]) (vp_Si (fun r => (r = 0 ∨ r = 1))) 0 0 (fun _ => False) := by
  refine Met.ofW (cc := cX4_joins) (maxL := 2) (ret := (some .boolean)) (by decide) rfl ?_
  intro p e s m args below meth c s₁ B hml hv
  obtain ⟨rfl, hP, hK, hE⟩ := hv
  have hx := B.exec
  have hb := B.bytes
  have hr := B.returns
  have hts := atoms_spec (ws := zwX4_joins) B.pre
  have hown : s.vm.findClass RX4 = some m.cls := findClass_of_methodNamed B.named
  have hiX4 : ∀ w ∈ wsX40, w ∈ zwX4_joins := (fun w hw => (List.mem_cons_of_mem _ (List.mem_append_right _ hw)))
  obtain ⟨htl, hta⟩ := hI
  have hl := lv_entry ([.ref th, .int nx]) (n := 2) (Nat.le_of_ble_eq_true rfl)
  rw [lg_entry_eq]
  generalize (lg_sl ([.ref th, .int nx]) ++ List.replicate (2 - (lg_sl ([.ref th, .int nx])).length) Slot.unset).toArray = ls at hl ⊢
  have hl : lv_has ls 2 [(0, .ref th), (1, .int nx)] := hl
  refine lv_aload_n hx hb dX4_joins_0 rfl (lv_at hl 0 rfl) ?_
  refine va_get (D := (dC, dI)) (ci := 3) (v := .int so) (C := RX4) (T := TX4) (N := 6) hx hb hts hiX4 hown hK hP 1 rfl rfl 4 (by decide) (hts (.fieldLink RX4 40 "LinkModels$Tokens" "sort" "I") (by decide +kernel)) (fun _ h9 => h9) rfl dX4_joins_1 ?_
  refine lv_iconst (v := 1) hx hb dX4_joins_4 (by decide) ?_
  refine lv_icmp_ne (tgt := 18) hx hb dX4_joins_5 (by decide) (fun cp5 => ?_) (fun cp5 => ?_)
  · refine lv_aload_n hx hb dX4_joins_18 rfl (lv_at hl 0 rfl) ?_
    refine va_get (D := (dC, dI)) (ci := 3) (v := .int so) (C := RX4) (T := TX4) (N := 6) hx hb hts hiX4 hown hK hP 1 rfl rfl 4 (by decide) (hts (.fieldLink RX4 40 "LinkModels$Tokens" "sort" "I") (by decide +kernel)) (fun _ h9 => h9) rfl dX4_joins_19 ?_
    refine lv_iconst (v := 2) hx hb dX4_joins_22 (by decide) ?_
    refine lv_icmp_ne (tgt := 31) hx hb dX4_joins_23 (by decide) (fun cp23 => ?_) (fun cp23 => ?_)
    · refine lv_aload_n hx hb dX4_joins_31 rfl (lv_at hl 0 rfl) ?_
      refine va_get (D := (dC, dI)) (ci := 3) (v := .int so) (C := RX4) (T := TX4) (N := 6) hx hb hts hiX4 hown hK hP 1 rfl rfl 4 (by decide) (hts (.fieldLink RX4 40 "LinkModels$Tokens" "sort" "I") (by decide +kernel)) (fun _ h9 => h9) rfl dX4_joins_32 ?_
      refine lv_iconst (v := 3) hx hb dX4_joins_35 (by decide) ?_
      refine lv_icmp_ne (tgt := 48) hx hb dX4_joins_36 (by decide) (fun cp36 => ?_) (fun cp36 => ?_)
      · refine lv_iconst (v := 0) hx hb dX4_joins_48 (by decide) ?_
        exact W.zret (v := (0 : Int32)) hx hb hr rfl (fun t ht hW => ⟨(0 : Int32), rfl, (Or.inl rfl), ht⟩) (fun _ h => by cases h) dX4_joins_49
      · refine lv_iload_n hx hb dX4_joins_39 rfl (lv_at hl 1 rfl) ?_
        refine lv_iconst (v := 3) hx hb dX4_joins_40 (by decide) ?_
        refine lv_icmp_ne (tgt := 48) hx hb dX4_joins_41 (by decide) (fun cp41 => ?_) (fun cp41 => ?_)
        · refine lv_iconst (v := 0) hx hb dX4_joins_48 (by decide) ?_
          exact W.zret (v := (0 : Int32)) hx hb hr rfl (fun t ht hW => ⟨(0 : Int32), rfl, (Or.inl rfl), ht⟩) (fun _ h => by cases h) dX4_joins_49
        · refine lv_iconst (v := 1) hx hb dX4_joins_44 (by decide) ?_
          refine lv_goto (tgt := 49) hx hb dX4_joins_45 (by decide) ?_
          exact W.zret (v := (1 : Int32)) hx hb hr rfl (fun t ht hW => ⟨(1 : Int32), rfl, (Or.inr rfl), ht⟩) (fun _ h => by cases h) dX4_joins_49
    · refine lv_iload_n hx hb dX4_joins_26 rfl (lv_at hl 1 rfl) ?_
      refine lv_iconst (v := 2) hx hb dX4_joins_27 (by decide) ?_
      refine lv_icmp_eq (tgt := 44) hx hb dX4_joins_28 (by decide) (fun cp28 => ?_) (fun cp28 => ?_)
      · refine lv_iconst (v := 1) hx hb dX4_joins_44 (by decide) ?_
        refine lv_goto (tgt := 49) hx hb dX4_joins_45 (by decide) ?_
        exact W.zret (v := (1 : Int32)) hx hb hr rfl (fun t ht hW => ⟨(1 : Int32), rfl, (Or.inr rfl), ht⟩) (fun _ h => by cases h) dX4_joins_49
      · refine lv_aload_n hx hb dX4_joins_31 rfl (lv_at hl 0 rfl) ?_
        refine va_get (D := (dC, dI)) (ci := 3) (v := .int so) (C := RX4) (T := TX4) (N := 6) hx hb hts hiX4 hown hK hP 1 rfl rfl 4 (by decide) (hts (.fieldLink RX4 40 "LinkModels$Tokens" "sort" "I") (by decide +kernel)) (fun _ h9 => h9) rfl dX4_joins_32 ?_
        refine lv_iconst (v := 3) hx hb dX4_joins_35 (by decide) ?_
        refine lv_icmp_ne (tgt := 48) hx hb dX4_joins_36 (by decide) (fun cp36 => ?_) (fun cp36 => ?_)
        · refine lv_iconst (v := 0) hx hb dX4_joins_48 (by decide) ?_
          exact W.zret (v := (0 : Int32)) hx hb hr rfl (fun t ht hW => ⟨(0 : Int32), rfl, (Or.inl rfl), ht⟩) (fun _ h => by cases h) dX4_joins_49
        · refine lv_iload_n hx hb dX4_joins_39 rfl (lv_at hl 1 rfl) ?_
          refine lv_iconst (v := 3) hx hb dX4_joins_40 (by decide) ?_
          refine lv_icmp_ne (tgt := 48) hx hb dX4_joins_41 (by decide) (fun cp41 => ?_) (fun cp41 => ?_)
          · refine lv_iconst (v := 0) hx hb dX4_joins_48 (by decide) ?_
            exact W.zret (v := (0 : Int32)) hx hb hr rfl (fun t ht hW => ⟨(0 : Int32), rfl, (Or.inl rfl), ht⟩) (fun _ h => by cases h) dX4_joins_49
          · refine lv_iconst (v := 1) hx hb dX4_joins_44 (by decide) ?_
            refine lv_goto (tgt := 49) hx hb dX4_joins_45 (by decide) ?_
            exact W.zret (v := (1 : Int32)) hx hb hr rfl (fun t ht hW => ⟨(1 : Int32), rfl, (Or.inr rfl), ht⟩) (fun _ h => by cases h) dX4_joins_49
  · refine lv_iload_n hx hb dX4_joins_8 rfl (lv_at hl 1 rfl) ?_
    refine lv_iconst (v := 1) hx hb dX4_joins_9 (by decide) ?_
    refine lv_icmp_eq (tgt := 44) hx hb dX4_joins_10 (by decide) (fun cp10 => ?_) (fun cp10 => ?_)
    · refine lv_iconst (v := 1) hx hb dX4_joins_44 (by decide) ?_
      refine lv_goto (tgt := 49) hx hb dX4_joins_45 (by decide) ?_
      exact W.zret (v := (1 : Int32)) hx hb hr rfl (fun t ht hW => ⟨(1 : Int32), rfl, (Or.inr rfl), ht⟩) (fun _ h => by cases h) dX4_joins_49
    · refine lv_iload_n hx hb dX4_joins_13 rfl (lv_at hl 1 rfl) ?_
      refine lv_iconst (v := 3) hx hb dX4_joins_14 (by decide) ?_
      refine lv_icmp_eq (tgt := 44) hx hb dX4_joins_15 (by decide) (fun cp15 => ?_) (fun cp15 => ?_)
      · refine lv_iconst (v := 1) hx hb dX4_joins_44 (by decide) ?_
        refine lv_goto (tgt := 49) hx hb dX4_joins_45 (by decide) ?_
        exact W.zret (v := (1 : Int32)) hx hb hr rfl (fun t ht hW => ⟨(1 : Int32), rfl, (Or.inr rfl), ht⟩) (fun _ h => by cases h) dX4_joins_49
      · refine lv_aload_n hx hb dX4_joins_18 rfl (lv_at hl 0 rfl) ?_
        refine va_get (D := (dC, dI)) (ci := 3) (v := .int so) (C := RX4) (T := TX4) (N := 6) hx hb hts hiX4 hown hK hP 1 rfl rfl 4 (by decide) (hts (.fieldLink RX4 40 "LinkModels$Tokens" "sort" "I") (by decide +kernel)) (fun _ h9 => h9) rfl dX4_joins_19 ?_
        refine lv_iconst (v := 2) hx hb dX4_joins_22 (by decide) ?_
        refine lv_icmp_ne (tgt := 31) hx hb dX4_joins_23 (by decide) (fun cp23 => ?_) (fun cp23 => ?_)
        · refine lv_aload_n hx hb dX4_joins_31 rfl (lv_at hl 0 rfl) ?_
          refine va_get (D := (dC, dI)) (ci := 3) (v := .int so) (C := RX4) (T := TX4) (N := 6) hx hb hts hiX4 hown hK hP 1 rfl rfl 4 (by decide) (hts (.fieldLink RX4 40 "LinkModels$Tokens" "sort" "I") (by decide +kernel)) (fun _ h9 => h9) rfl dX4_joins_32 ?_
          refine lv_iconst (v := 3) hx hb dX4_joins_35 (by decide) ?_
          refine lv_icmp_ne (tgt := 48) hx hb dX4_joins_36 (by decide) (fun cp36 => ?_) (fun cp36 => ?_)
          · refine lv_iconst (v := 0) hx hb dX4_joins_48 (by decide) ?_
            exact W.zret (v := (0 : Int32)) hx hb hr rfl (fun t ht hW => ⟨(0 : Int32), rfl, (Or.inl rfl), ht⟩) (fun _ h => by cases h) dX4_joins_49
          · refine lv_iload_n hx hb dX4_joins_39 rfl (lv_at hl 1 rfl) ?_
            refine lv_iconst (v := 3) hx hb dX4_joins_40 (by decide) ?_
            refine lv_icmp_ne (tgt := 48) hx hb dX4_joins_41 (by decide) (fun cp41 => ?_) (fun cp41 => ?_)
            · refine lv_iconst (v := 0) hx hb dX4_joins_48 (by decide) ?_
              exact W.zret (v := (0 : Int32)) hx hb hr rfl (fun t ht hW => ⟨(0 : Int32), rfl, (Or.inl rfl), ht⟩) (fun _ h => by cases h) dX4_joins_49
            · refine lv_iconst (v := 1) hx hb dX4_joins_44 (by decide) ?_
              refine lv_goto (tgt := 49) hx hb dX4_joins_45 (by decide) ?_
              exact W.zret (v := (1 : Int32)) hx hb hr rfl (fun t ht hW => ⟨(1 : Int32), rfl, (Or.inr rfl), ht⟩) (fun _ h => by cases h) dX4_joins_49
        · refine lv_iload_n hx hb dX4_joins_26 rfl (lv_at hl 1 rfl) ?_
          refine lv_iconst (v := 2) hx hb dX4_joins_27 (by decide) ?_
          refine lv_icmp_eq (tgt := 44) hx hb dX4_joins_28 (by decide) (fun cp28 => ?_) (fun cp28 => ?_)
          · refine lv_iconst (v := 1) hx hb dX4_joins_44 (by decide) ?_
            refine lv_goto (tgt := 49) hx hb dX4_joins_45 (by decide) ?_
            exact W.zret (v := (1 : Int32)) hx hb hr rfl (fun t ht hW => ⟨(1 : Int32), rfl, (Or.inr rfl), ht⟩) (fun _ h => by cases h) dX4_joins_49
          · refine lv_aload_n hx hb dX4_joins_31 rfl (lv_at hl 0 rfl) ?_
            refine va_get (D := (dC, dI)) (ci := 3) (v := .int so) (C := RX4) (T := TX4) (N := 6) hx hb hts hiX4 hown hK hP 1 rfl rfl 4 (by decide) (hts (.fieldLink RX4 40 "LinkModels$Tokens" "sort" "I") (by decide +kernel)) (fun _ h9 => h9) rfl dX4_joins_32 ?_
            refine lv_iconst (v := 3) hx hb dX4_joins_35 (by decide) ?_
            refine lv_icmp_ne (tgt := 48) hx hb dX4_joins_36 (by decide) (fun cp36 => ?_) (fun cp36 => ?_)
            · refine lv_iconst (v := 0) hx hb dX4_joins_48 (by decide) ?_
              exact W.zret (v := (0 : Int32)) hx hb hr rfl (fun t ht hW => ⟨(0 : Int32), rfl, (Or.inl rfl), ht⟩) (fun _ h => by cases h) dX4_joins_49
            · refine lv_iload_n hx hb dX4_joins_39 rfl (lv_at hl 1 rfl) ?_
              refine lv_iconst (v := 3) hx hb dX4_joins_40 (by decide) ?_
              refine lv_icmp_ne (tgt := 48) hx hb dX4_joins_41 (by decide) (fun cp41 => ?_) (fun cp41 => ?_)
              · refine lv_iconst (v := 0) hx hb dX4_joins_48 (by decide) ?_
                exact W.zret (v := (0 : Int32)) hx hb hr rfl (fun t ht hW => ⟨(0 : Int32), rfl, (Or.inl rfl), ht⟩) (fun _ h => by cases h) dX4_joins_49
              · refine lv_iconst (v := 1) hx hb dX4_joins_44 (by decide) ?_
                refine lv_goto (tgt := 49) hx hb dX4_joins_45 (by decide) ?_
                exact W.zret (v := (1 : Int32)) hx hb hr rfl (fun t ht hW => ⟨(1 : Int32), rfl, (Or.inr rfl), ht⟩) (fun _ h => by cases h) dX4_joins_49
theorem dX2_fault_0 : decode cX2_fault 0 = .ok (.aload_n 0, 1) := by decide +kernel
theorem dX2_fault_1 : decode cX2_fault 1 = .ok (.getfield 27, 3) := by decide +kernel
theorem dX2_fault_4 : decode cX2_fault 4 = .ok (.ireturn, 1) := by decide +kernel
def zwX2_fault : List Cond := .code yX2_fault cX2_fault 1 (some .int) :: ([.fieldLink RX2 27 "LinkModels$Reader" "fault" "I"] ++ wsX20)
set_option maxHeartbeats 4000000 in
set_option maxRecDepth 100000 in
theorem kX2_fault (l : Launch) (dC : Nat → ClassId) (dI : Nat → Nat → Nat) (rh : Nat) (th : Nat) (tb : Nat) (sh : Nat) (cI : ClassId) (cJ : ClassId) (cB : ClassId) (rm : Int32) (ry : Int32) (rf : Int32) (tl : Nat) (ta : Nat) (ts : Int32) (so : Int32) (tv : Int64) (tpA : Nat → Int32) (sw : Int64) (st : Int32) (sf : Int32) (sq : Int32) (hI : rdWI tl ta) : Met l yX2_fault zwX2_fault ({ frames := 0, cells := 0, slots := 0, locals := 0 }) (zPq dC dI [.ref rh] (rdW rh th tb sh cI cJ cB rm ry rf (nI tl) (nI ta) ts so tv tpA sw st sf sq) [(cI, .int), (cJ, .long), (cB, .byte)]) (vp_Si (fun r => (True))) 0 0 (fun _ => False) := by
  refine Met.ofW (cc := cX2_fault) (maxL := 1) (ret := (some .int)) (by decide) rfl ?_
  intro p e s m args below meth c s₁ B hml hv
  obtain ⟨rfl, hP, hK, hE⟩ := hv
  have hx := B.exec
  have hb := B.bytes
  have hr := B.returns
  have hts := atoms_spec (ws := zwX2_fault) B.pre
  have hown : s.vm.findClass RX2 = some m.cls := findClass_of_methodNamed B.named
  have hiX2 : ∀ w ∈ wsX20, w ∈ zwX2_fault := (fun w hw => (List.mem_cons_of_mem _ (List.mem_append_right _ hw)))
  obtain ⟨htl, hta⟩ := hI
  have hl := lv_entry ([.ref rh]) (n := 1) (Nat.le_of_ble_eq_true rfl)
  rw [lg_entry_eq]
  generalize (lg_sl ([.ref rh]) ++ List.replicate (1 - (lg_sl ([.ref rh])).length) Slot.unset).toArray = ls at hl ⊢
  have hl : lv_has ls 1 [(0, .ref rh)] := hl
  refine lv_aload_n hx hb dX2_fault_0 rfl (lv_at hl 0 rfl) ?_
  refine va_get (D := (dC, dI)) (ci := 1) (v := .int rf) (C := RX2) (T := TX2) (N := 5) hx hb hts hiX2 hown hK hP 0 rfl rfl 4 (by decide) (hts (.fieldLink RX2 27 "LinkModels$Reader" "fault" "I") (by decide +kernel)) (fun _ h9 => h9) rfl dX2_fault_1 ?_
  exact W.iret (v := rf) hx hb hr (fun t ht hW => ⟨rf, rfl, trivial, ht⟩) (fun _ h => by cases h) dX2_fault_4
theorem dX2_place_0 : decode cX2_place 0 = .ok (.aload_n 0, 1) := by decide +kernel
theorem dX2_place_1 : decode cX2_place 1 = .ok (.getfield 14, 3) := by decide +kernel
theorem dX2_place_4 : decode cX2_place 4 = .ok (.getfield 31, 3) := by decide +kernel
theorem dX2_place_7 : decode cX2_place 7 = .ok (.ireturn, 1) := by decide +kernel
def zwX2_place : List Cond := .code yX2_place cX2_place 1 (some .int) :: ([.fieldLink RX2 14 "LinkModels$Reader" "tokens" "LLinkModels$Tokens;", .fieldLink RX2 31 "LinkModels$Tokens" "start" "I"] ++ wsX20 ++ wsX40)
set_option maxHeartbeats 4000000 in
set_option maxRecDepth 100000 in
theorem kX2_place (l : Launch) (dC : Nat → ClassId) (dI : Nat → Nat → Nat) (rh : Nat) (th : Nat) (tb : Nat) (sh : Nat) (cI : ClassId) (cJ : ClassId) (cB : ClassId) (rm : Int32) (ry : Int32) (rf : Int32) (tl : Nat) (ta : Nat) (ts : Int32) (so : Int32) (tv : Int64) (tpA : Nat → Int32) (sw : Int64) (st : Int32) (sf : Int32) (sq : Int32) (hI : rdWI tl ta) : Met l yX2_place zwX2_place ({ frames := 0, cells := 0, slots := 0, locals := 0 }) (zPq dC dI [.ref rh] (rdW rh th tb sh cI cJ cB rm ry rf (nI tl) (nI ta) ts so tv tpA sw st sf sq) [(cI, .int), (cJ, .long), (cB, .byte)]) (vp_Si (fun r => (True))) 0 0 (fun _ => False) := by
  refine Met.ofW (cc := cX2_place) (maxL := 1) (ret := (some .int)) (by decide) rfl ?_
  intro p e s m args below meth c s₁ B hml hv
  obtain ⟨rfl, hP, hK, hE⟩ := hv
  have hx := B.exec
  have hb := B.bytes
  have hr := B.returns
  have hts := atoms_spec (ws := zwX2_place) B.pre
  have hown : s.vm.findClass RX2 = some m.cls := findClass_of_methodNamed B.named
  have hiX2 : ∀ w ∈ wsX20, w ∈ zwX2_place := (fun w hw => (List.mem_cons_of_mem _ (List.mem_append_left _ (List.mem_append_right _ hw))))
  have hiX4 : ∀ w ∈ wsX40, w ∈ zwX2_place := (fun w hw => (List.mem_cons_of_mem _ (List.mem_append_right _ hw)))
  obtain ⟨htl, hta⟩ := hI
  have hl := lv_entry ([.ref rh]) (n := 1) (Nat.le_of_ble_eq_true rfl)
  rw [lg_entry_eq]
  generalize (lg_sl ([.ref rh]) ++ List.replicate (1 - (lg_sl ([.ref rh])).length) Slot.unset).toArray = ls at hl ⊢
  have hl : lv_has ls 1 [(0, .ref rh)] := hl
  refine lv_aload_n hx hb dX2_place_0 rfl (lv_at hl 0 rfl) ?_
  refine va_get (D := (dC, dI)) (ci := 1) (v := .ref th) (C := RX2) (T := TX2) (N := 5) hx hb hts hiX2 hown hK hP 0 rfl rfl 0 (by decide) (hts (.fieldLink RX2 14 "LinkModels$Reader" "tokens" "LLinkModels$Tokens;") (by decide +kernel)) (fun _ h9 => h9) rfl dX2_place_1 ?_
  refine va_get (D := (dC, dI)) (ci := 3) (v := .int ts) (C := RX4) (T := TX4) (N := 6) hx hb hts hiX4 hown hK hP 1 rfl rfl 3 (by decide) (hts (.fieldLink RX2 31 "LinkModels$Tokens" "start" "I") (by decide +kernel)) (fun _ h9 => h9) rfl dX2_place_4 ?_
  exact W.iret (v := ts) hx hb hr (fun t ht hW => ⟨ts, rfl, trivial, ht⟩) (fun _ h => by cases h) dX2_place_7
theorem dX2_classMarkHere_0 : decode cX2_classMarkHere 0 = .ok (.aload_n 0, 1) := by decide +kernel
theorem dX2_classMarkHere_1 : decode cX2_classMarkHere 1 = .ok (.getfield 14, 3) := by decide +kernel
theorem dX2_classMarkHere_4 : decode cX2_classMarkHere 4 = .ok (.ldc2_w 154, 3) := by decide +kernel
theorem dX2_classMarkHere_7 : decode cX2_classMarkHere 7 = .ok (.invokevirtual 63, 3) := by decide +kernel
theorem dX2_classMarkHere_10 : decode cX2_classMarkHere 10 = .ok (.ifCond .eq 6, 3) := by decide +kernel
theorem dX2_classMarkHere_13 : decode cX2_classMarkHere 13 = .ok (.bipush 64, 2) := by decide +kernel
theorem dX2_classMarkHere_15 : decode cX2_classMarkHere 15 = .ok (.ireturn, 1) := by decide +kernel
theorem dX2_classMarkHere_16 : decode cX2_classMarkHere 16 = .ok (.aload_n 0, 1) := by decide +kernel
theorem dX2_classMarkHere_17 : decode cX2_classMarkHere 17 = .ok (.getfield 14, 3) := by decide +kernel
theorem dX2_classMarkHere_20 : decode cX2_classMarkHere 20 = .ok (.ldc2_w 156, 3) := by decide +kernel
theorem dX2_classMarkHere_23 : decode cX2_classMarkHere 23 = .ok (.invokevirtual 63, 3) := by decide +kernel
theorem dX2_classMarkHere_26 : decode cX2_classMarkHere 26 = .ok (.ifCond .eq 6, 3) := by decide +kernel
theorem dX2_classMarkHere_29 : decode cX2_classMarkHere 29 = .ok (.bipush 8, 2) := by decide +kernel
theorem dX2_classMarkHere_31 : decode cX2_classMarkHere 31 = .ok (.ireturn, 1) := by decide +kernel
theorem dX2_classMarkHere_32 : decode cX2_classMarkHere 32 = .ok (.aload_n 0, 1) := by decide +kernel
theorem dX2_classMarkHere_33 : decode cX2_classMarkHere 33 = .ok (.getfield 14, 3) := by decide +kernel
theorem dX2_classMarkHere_36 : decode cX2_classMarkHere 36 = .ok (.ldc2_w 158, 3) := by decide +kernel
theorem dX2_classMarkHere_39 : decode cX2_classMarkHere 39 = .ok (.invokevirtual 63, 3) := by decide +kernel
theorem dX2_classMarkHere_42 : decode cX2_classMarkHere 42 = .ok (.ifCond .eq 7, 3) := by decide +kernel
theorem dX2_classMarkHere_45 : decode cX2_classMarkHere 45 = .ok (.iconst 4, 1) := by decide +kernel
theorem dX2_classMarkHere_46 : decode cX2_classMarkHere 46 = .ok (.goto 4, 3) := by decide +kernel
theorem dX2_classMarkHere_49 : decode cX2_classMarkHere 49 = .ok (.iconst 0, 1) := by decide +kernel
theorem dX2_classMarkHere_50 : decode cX2_classMarkHere 50 = .ok (.ireturn, 1) := by decide +kernel
def zwX2_classMarkHere : List Cond := .code yX2_classMarkHere cX2_classMarkHere 1 (some .int) :: ([.fieldLink RX2 14 "LinkModels$Reader" "tokens" "LLinkModels$Tokens;", .constantLong RX2 154 (1717658469), .constantLong RX2 156 (7017298113369039732), .constantLong RX2 158 (439855505772), .methodLink RX2 63 yX4_isWord, .instanceMethod yX4_isWord, .selects RX4 yX4_isWord yX4_isWord, .initialized RX4, .code yX4_isWord cX4_isWord 3 (some .boolean), .fieldLink RX4 40 "LinkModels$Tokens" "sort" "I", .fieldLink RX4 32 "LinkModels$Tokens" "value" "J"] ++ wsX20 ++ wsX40)
theorem zgX2_classMarkHere_X4_isWord_63 : GoodIn zwX2_classMarkHere (wsV RX2 63 RX4 yX4_isWord zwX4_isWord) := goodIn_app (goodIn_r _ [5, 6, 7, 8] rfl (by decide +kernel)) (goodIn_app (goodIn_r _ [9, 10, 11] rfl (by decide +kernel)) (fun w hw => ⟨(List.mem_cons_of_mem _ (List.mem_append_right _ hw)), good_of_word (List.all_eq_true.mp zgX4 w hw)⟩))
set_option maxHeartbeats 4000000 in
set_option maxRecDepth 100000 in
theorem kX2_classMarkHere (l : Launch) (dC : Nat → ClassId) (dI : Nat → Nat → Nat) (rh : Nat) (th : Nat) (tb : Nat) (sh : Nat) (cI : ClassId) (cJ : ClassId) (cB : ClassId) (rm : Int32) (ry : Int32) (rf : Int32) (tl : Nat) (ta : Nat) (ts : Int32) (so : Int32) (tv : Int64) (tpA : Nat → Int32) (sw : Int64) (st : Int32) (sf : Int32) (sq : Int32) (hI : rdWI tl ta) : Met l yX2_classMarkHere zwX2_classMarkHere ({ frames := 1, cells := 0, slots := 0, locals := 22 }) (zPq dC dI [.ref rh] (rdW rh th tb sh cI cJ cB rm ry rf (nI tl) (nI ta) ts so tv tpA sw st sf sq) [(cI, .int), (cJ, .long), (cB, .byte)]) (vp_Si (fun r => (True))) 0 0 (fun _ => False) := by
  refine Met.ofW (cc := cX2_classMarkHere) (maxL := 1) (ret := (some .int)) (by decide) rfl ?_
  intro p e s m args below meth c s₁ B hml hv
  obtain ⟨rfl, hP, hK, hE⟩ := hv
  have hx := B.exec
  have hb := B.bytes
  have hr := B.returns
  have hts := atoms_spec (ws := zwX2_classMarkHere) B.pre
  have hown : s.vm.findClass RX2 = some m.cls := findClass_of_methodNamed B.named
  have hiX2 : ∀ w ∈ wsX20, w ∈ zwX2_classMarkHere := (fun w hw => (List.mem_cons_of_mem _ (List.mem_append_left _ (List.mem_append_right _ hw))))
  obtain ⟨htl, hta⟩ := hI
  have hl := lv_entry ([.ref rh]) (n := 1) (Nat.le_of_ble_eq_true rfl)
  rw [lg_entry_eq]
  generalize (lg_sl ([.ref rh]) ++ List.replicate (1 - (lg_sl ([.ref rh])).length) Slot.unset).toArray = ls at hl ⊢
  have hl : lv_has ls 1 [(0, .ref rh)] := hl
  refine lv_aload_n hx hb dX2_classMarkHere_0 rfl (lv_at hl 0 rfl) ?_
  refine va_get (D := (dC, dI)) (ci := 1) (v := .ref th) (C := RX2) (T := TX2) (N := 5) hx hb hts hiX2 hown hK hP 0 rfl rfl 0 (by decide) (hts (.fieldLink RX2 14 "LinkModels$Reader" "tokens" "LLinkModels$Tokens;") (by decide +kernel)) (fun _ h9 => h9) rfl dX2_classMarkHere_1 ?_
  refine lv_ldc2 (v := 1717658469) hx hb hown (hts (.constantLong RX2 154 (1717658469)) (by decide +kernel)) dX2_classMarkHere_4 ?_
  refine vp_callSi (W.runV (As := [.long 1717658469]) (rest := []) ⟨hx, hb, hml, hown, hts⟩ (kX4_isWord l dC dI rh th tb sh cI cJ cB rm ry rf tl ta ts so tv tpA sw st sf sq ⟨by omega, by omega⟩ (1717658469 : Int64)) (cwV 1 hts zgX2_classMarkHere_X4_isWord_63 rfl rfl rfl (by decide +kernel) ⟨(show 0 + 1 ≤ 1 by omega), (show 8 + (3 + 11) + 0 ≤ 22 by omega)⟩) (zVq (ci := 3) (q0 := 1) (q := (RX4, TX4, 6)) hK hP hE rfl rfl rfl) rfl rfl hl.1 rfl (lv_room (Nat.le_of_ble_eq_true rfl)) dX2_classMarkHere_7 ⟨(show 0 + 0 ≤ 0 by omega), (show 0 + 0 ≤ 0 by omega)⟩) (fun r1 hw => ?_)
  have hw : (r1 = 0 ∨ r1 = 1) := hw
  have w0r1 := hw
  refine lv_if_eq (tgt := 16) hx hb dX2_classMarkHere_10 (by decide) (fun cp10 => ?_) (fun cp10 => ?_)
  · refine lv_aload_n hx hb dX2_classMarkHere_16 rfl (lv_at hl 0 rfl) ?_
    refine va_get (D := (dC, dI)) (ci := 1) (v := .ref th) (C := RX2) (T := TX2) (N := 5) hx hb hts hiX2 hown hK hP 0 rfl rfl 0 (by decide) (hts (.fieldLink RX2 14 "LinkModels$Reader" "tokens" "LLinkModels$Tokens;") (by decide +kernel)) (fun _ h9 => h9) rfl dX2_classMarkHere_17 ?_
    refine lv_ldc2 (v := 7017298113369039732) hx hb hown (hts (.constantLong RX2 156 (7017298113369039732)) (by decide +kernel)) dX2_classMarkHere_20 ?_
    refine vp_callSi (W.runV (As := [.long 7017298113369039732]) (rest := []) ⟨hx, hb, hml, hown, hts⟩ (kX4_isWord l dC dI rh th tb sh cI cJ cB rm ry rf tl ta ts so tv tpA sw st sf sq ⟨by omega, by omega⟩ (7017298113369039732 : Int64)) (cwV 1 hts zgX2_classMarkHere_X4_isWord_63 rfl rfl rfl (by decide +kernel) ⟨(show 0 + 1 ≤ 1 by omega), (show 8 + (3 + 11) + 0 ≤ 22 by omega)⟩) (zVq (ci := 3) (q0 := 1) (q := (RX4, TX4, 6)) hK hP hE rfl rfl rfl) rfl rfl hl.1 rfl (lv_room (Nat.le_of_ble_eq_true rfl)) dX2_classMarkHere_23 ⟨(show 0 + 0 ≤ 0 by omega), (show 0 + 0 ≤ 0 by omega)⟩) (fun r2 hw => ?_)
    have hw : (r2 = 0 ∨ r2 = 1) := hw
    have w0r2 := hw
    refine lv_if_eq (tgt := 32) hx hb dX2_classMarkHere_26 (by decide) (fun cp26 => ?_) (fun cp26 => ?_)
    · refine lv_aload_n hx hb dX2_classMarkHere_32 rfl (lv_at hl 0 rfl) ?_
      refine va_get (D := (dC, dI)) (ci := 1) (v := .ref th) (C := RX2) (T := TX2) (N := 5) hx hb hts hiX2 hown hK hP 0 rfl rfl 0 (by decide) (hts (.fieldLink RX2 14 "LinkModels$Reader" "tokens" "LLinkModels$Tokens;") (by decide +kernel)) (fun _ h9 => h9) rfl dX2_classMarkHere_33 ?_
      refine lv_ldc2 (v := 439855505772) hx hb hown (hts (.constantLong RX2 158 (439855505772)) (by decide +kernel)) dX2_classMarkHere_36 ?_
      refine vp_callSi (W.runV (As := [.long 439855505772]) (rest := []) ⟨hx, hb, hml, hown, hts⟩ (kX4_isWord l dC dI rh th tb sh cI cJ cB rm ry rf tl ta ts so tv tpA sw st sf sq ⟨by omega, by omega⟩ (439855505772 : Int64)) (cwV 1 hts zgX2_classMarkHere_X4_isWord_63 rfl rfl rfl (by decide +kernel) ⟨(show 0 + 1 ≤ 1 by omega), (show 8 + (3 + 11) + 0 ≤ 22 by omega)⟩) (zVq (ci := 3) (q0 := 1) (q := (RX4, TX4, 6)) hK hP hE rfl rfl rfl) rfl rfl hl.1 rfl (lv_room (Nat.le_of_ble_eq_true rfl)) dX2_classMarkHere_39 ⟨(show 0 + 0 ≤ 0 by omega), (show 0 + 0 ≤ 0 by omega)⟩) (fun r3 hw => ?_)
      have hw : (r3 = 0 ∨ r3 = 1) := hw
      have w0r3 := hw
      refine lv_if_eq (tgt := 49) hx hb dX2_classMarkHere_42 (by decide) (fun cp42 => ?_) (fun cp42 => ?_)
      · refine lv_iconst (v := 0) hx hb dX2_classMarkHere_49 (by decide) ?_
        exact W.iret (v := (0 : Int32)) hx hb hr (fun t ht hW => ⟨(0 : Int32), rfl, trivial, ht⟩) (fun _ h => by cases h) dX2_classMarkHere_50
      · refine lv_iconst (v := 4) hx hb dX2_classMarkHere_45 (by decide) ?_
        refine lv_goto (tgt := 50) hx hb dX2_classMarkHere_46 (by decide) ?_
        exact W.iret (v := (4 : Int32)) hx hb hr (fun t ht hW => ⟨(4 : Int32), rfl, trivial, ht⟩) (fun _ h => by cases h) dX2_classMarkHere_50
    · refine lv_bipush (v := 8) hx hb dX2_classMarkHere_29 (by decide) ?_
      exact W.iret (v := (8 : Int32)) hx hb hr (fun t ht hW => ⟨(8 : Int32), rfl, trivial, ht⟩) (fun _ h => by cases h) dX2_classMarkHere_31
  · refine lv_bipush (v := 64) hx hb dX2_classMarkHere_13 (by decide) ?_
    exact W.iret (v := (64 : Int32)) hx hb hr (fun t ht hW => ⟨(64 : Int32), rfl, trivial, ht⟩) (fun _ h => by cases h) dX2_classMarkHere_15
theorem dX2_markHere_0 : decode cX2_markHere 0 = .ok (.aload_n 0, 1) := by decide +kernel
theorem dX2_markHere_1 : decode cX2_markHere 1 = .ok (.getfield 14, 3) := by decide +kernel
theorem dX2_markHere_4 : decode cX2_markHere 4 = .ok (.ldc2_w 160, 3) := by decide +kernel
theorem dX2_markHere_7 : decode cX2_markHere 7 = .ok (.invokevirtual 63, 3) := by decide +kernel
theorem dX2_markHere_10 : decode cX2_markHere 10 = .ok (.ifCond .eq 5, 3) := by decide +kernel
theorem dX2_markHere_13 : decode cX2_markHere 13 = .ok (.iconst 1, 1) := by decide +kernel
theorem dX2_markHere_14 : decode cX2_markHere 14 = .ok (.ireturn, 1) := by decide +kernel
theorem dX2_markHere_15 : decode cX2_markHere 15 = .ok (.aload_n 0, 1) := by decide +kernel
theorem dX2_markHere_16 : decode cX2_markHere 16 = .ok (.getfield 14, 3) := by decide +kernel
theorem dX2_markHere_19 : decode cX2_markHere 19 = .ok (.ldc2_w 162, 3) := by decide +kernel
theorem dX2_markHere_22 : decode cX2_markHere 22 = .ok (.invokevirtual 63, 3) := by decide +kernel
theorem dX2_markHere_25 : decode cX2_markHere 25 = .ok (.ifCond .eq 5, 3) := by decide +kernel
theorem dX2_markHere_28 : decode cX2_markHere 28 = .ok (.iconst 2, 1) := by decide +kernel
theorem dX2_markHere_29 : decode cX2_markHere 29 = .ok (.ireturn, 1) := by decide +kernel
theorem dX2_markHere_30 : decode cX2_markHere 30 = .ok (.aload_n 0, 1) := by decide +kernel
theorem dX2_markHere_31 : decode cX2_markHere 31 = .ok (.getfield 14, 3) := by decide +kernel
theorem dX2_markHere_34 : decode cX2_markHere 34 = .ok (.ldc2_w 158, 3) := by decide +kernel
theorem dX2_markHere_37 : decode cX2_markHere 37 = .ok (.invokevirtual 63, 3) := by decide +kernel
theorem dX2_markHere_40 : decode cX2_markHere 40 = .ok (.ifCond .eq 5, 3) := by decide +kernel
theorem dX2_markHere_43 : decode cX2_markHere 43 = .ok (.iconst 4, 1) := by decide +kernel
theorem dX2_markHere_44 : decode cX2_markHere 44 = .ok (.ireturn, 1) := by decide +kernel
theorem dX2_markHere_45 : decode cX2_markHere 45 = .ok (.aload_n 0, 1) := by decide +kernel
theorem dX2_markHere_46 : decode cX2_markHere 46 = .ok (.getfield 14, 3) := by decide +kernel
theorem dX2_markHere_49 : decode cX2_markHere 49 = .ok (.ldc2_w 156, 3) := by decide +kernel
theorem dX2_markHere_52 : decode cX2_markHere 52 = .ok (.invokevirtual 63, 3) := by decide +kernel
theorem dX2_markHere_55 : decode cX2_markHere 55 = .ok (.ifCond .eq 8, 3) := by decide +kernel
theorem dX2_markHere_58 : decode cX2_markHere 58 = .ok (.bipush 8, 2) := by decide +kernel
theorem dX2_markHere_60 : decode cX2_markHere 60 = .ok (.goto 4, 3) := by decide +kernel
theorem dX2_markHere_63 : decode cX2_markHere 63 = .ok (.iconst 0, 1) := by decide +kernel
theorem dX2_markHere_64 : decode cX2_markHere 64 = .ok (.ireturn, 1) := by decide +kernel
def zwX2_markHere : List Cond := .code yX2_markHere cX2_markHere 1 (some .int) :: ([.fieldLink RX2 14 "LinkModels$Reader" "tokens" "LLinkModels$Tokens;", .constantLong RX2 160 (126943688419683), .constantLong RX2 162 (114801865155950), .constantLong RX2 158 (439855505772), .constantLong RX2 156 (7017298113369039732), .methodLink RX2 63 yX4_isWord, .instanceMethod yX4_isWord, .selects RX4 yX4_isWord yX4_isWord, .initialized RX4, .code yX4_isWord cX4_isWord 3 (some .boolean), .fieldLink RX4 40 "LinkModels$Tokens" "sort" "I", .fieldLink RX4 32 "LinkModels$Tokens" "value" "J"] ++ wsX20 ++ wsX40)
theorem zgX2_markHere_X4_isWord_63 : GoodIn zwX2_markHere (wsV RX2 63 RX4 yX4_isWord zwX4_isWord) := goodIn_app (goodIn_r _ [6, 7, 8, 9] rfl (by decide +kernel)) (goodIn_app (goodIn_r _ [10, 11, 12] rfl (by decide +kernel)) (fun w hw => ⟨(List.mem_cons_of_mem _ (List.mem_append_right _ hw)), good_of_word (List.all_eq_true.mp zgX4 w hw)⟩))
set_option maxHeartbeats 4000000 in
set_option maxRecDepth 100000 in
theorem kX2_markHere (l : Launch) (dC : Nat → ClassId) (dI : Nat → Nat → Nat) (rh : Nat) (th : Nat) (tb : Nat) (sh : Nat) (cI : ClassId) (cJ : ClassId) (cB : ClassId) (rm : Int32) (ry : Int32) (rf : Int32) (tl : Nat) (ta : Nat) (ts : Int32) (so : Int32) (tv : Int64) (tpA : Nat → Int32) (sw : Int64) (st : Int32) (sf : Int32) (sq : Int32) (hI : rdWI tl ta) : Met l yX2_markHere zwX2_markHere ({ frames := 1, cells := 0, slots := 0, locals := 22 }) (zPq dC dI [.ref rh] (rdW rh th tb sh cI cJ cB rm ry rf (nI tl) (nI ta) ts so tv tpA sw st sf sq) [(cI, .int), (cJ, .long), (cB, .byte)]) (vp_Si (fun r => (True))) 0 0 (fun _ => False) := by
  refine Met.ofW (cc := cX2_markHere) (maxL := 1) (ret := (some .int)) (by decide) rfl ?_
  intro p e s m args below meth c s₁ B hml hv
  obtain ⟨rfl, hP, hK, hE⟩ := hv
  have hx := B.exec
  have hb := B.bytes
  have hr := B.returns
  have hts := atoms_spec (ws := zwX2_markHere) B.pre
  have hown : s.vm.findClass RX2 = some m.cls := findClass_of_methodNamed B.named
  have hiX2 : ∀ w ∈ wsX20, w ∈ zwX2_markHere := (fun w hw => (List.mem_cons_of_mem _ (List.mem_append_left _ (List.mem_append_right _ hw))))
  obtain ⟨htl, hta⟩ := hI
  have hl := lv_entry ([.ref rh]) (n := 1) (Nat.le_of_ble_eq_true rfl)
  rw [lg_entry_eq]
  generalize (lg_sl ([.ref rh]) ++ List.replicate (1 - (lg_sl ([.ref rh])).length) Slot.unset).toArray = ls at hl ⊢
  have hl : lv_has ls 1 [(0, .ref rh)] := hl
  refine lv_aload_n hx hb dX2_markHere_0 rfl (lv_at hl 0 rfl) ?_
  refine va_get (D := (dC, dI)) (ci := 1) (v := .ref th) (C := RX2) (T := TX2) (N := 5) hx hb hts hiX2 hown hK hP 0 rfl rfl 0 (by decide) (hts (.fieldLink RX2 14 "LinkModels$Reader" "tokens" "LLinkModels$Tokens;") (by decide +kernel)) (fun _ h9 => h9) rfl dX2_markHere_1 ?_
  refine lv_ldc2 (v := 126943688419683) hx hb hown (hts (.constantLong RX2 160 (126943688419683)) (by decide +kernel)) dX2_markHere_4 ?_
  refine vp_callSi (W.runV (As := [.long 126943688419683]) (rest := []) ⟨hx, hb, hml, hown, hts⟩ (kX4_isWord l dC dI rh th tb sh cI cJ cB rm ry rf tl ta ts so tv tpA sw st sf sq ⟨by omega, by omega⟩ (126943688419683 : Int64)) (cwV 1 hts zgX2_markHere_X4_isWord_63 rfl rfl rfl (by decide +kernel) ⟨(show 0 + 1 ≤ 1 by omega), (show 8 + (3 + 11) + 0 ≤ 22 by omega)⟩) (zVq (ci := 3) (q0 := 1) (q := (RX4, TX4, 6)) hK hP hE rfl rfl rfl) rfl rfl hl.1 rfl (lv_room (Nat.le_of_ble_eq_true rfl)) dX2_markHere_7 ⟨(show 0 + 0 ≤ 0 by omega), (show 0 + 0 ≤ 0 by omega)⟩) (fun r1 hw => ?_)
  have hw : (r1 = 0 ∨ r1 = 1) := hw
  have w0r1 := hw
  refine lv_if_eq (tgt := 15) hx hb dX2_markHere_10 (by decide) (fun cp10 => ?_) (fun cp10 => ?_)
  · refine lv_aload_n hx hb dX2_markHere_15 rfl (lv_at hl 0 rfl) ?_
    refine va_get (D := (dC, dI)) (ci := 1) (v := .ref th) (C := RX2) (T := TX2) (N := 5) hx hb hts hiX2 hown hK hP 0 rfl rfl 0 (by decide) (hts (.fieldLink RX2 14 "LinkModels$Reader" "tokens" "LLinkModels$Tokens;") (by decide +kernel)) (fun _ h9 => h9) rfl dX2_markHere_16 ?_
    refine lv_ldc2 (v := 114801865155950) hx hb hown (hts (.constantLong RX2 162 (114801865155950)) (by decide +kernel)) dX2_markHere_19 ?_
    refine vp_callSi (W.runV (As := [.long 114801865155950]) (rest := []) ⟨hx, hb, hml, hown, hts⟩ (kX4_isWord l dC dI rh th tb sh cI cJ cB rm ry rf tl ta ts so tv tpA sw st sf sq ⟨by omega, by omega⟩ (114801865155950 : Int64)) (cwV 1 hts zgX2_markHere_X4_isWord_63 rfl rfl rfl (by decide +kernel) ⟨(show 0 + 1 ≤ 1 by omega), (show 8 + (3 + 11) + 0 ≤ 22 by omega)⟩) (zVq (ci := 3) (q0 := 1) (q := (RX4, TX4, 6)) hK hP hE rfl rfl rfl) rfl rfl hl.1 rfl (lv_room (Nat.le_of_ble_eq_true rfl)) dX2_markHere_22 ⟨(show 0 + 0 ≤ 0 by omega), (show 0 + 0 ≤ 0 by omega)⟩) (fun r2 hw => ?_)
    have hw : (r2 = 0 ∨ r2 = 1) := hw
    have w0r2 := hw
    refine lv_if_eq (tgt := 30) hx hb dX2_markHere_25 (by decide) (fun cp25 => ?_) (fun cp25 => ?_)
    · refine lv_aload_n hx hb dX2_markHere_30 rfl (lv_at hl 0 rfl) ?_
      refine va_get (D := (dC, dI)) (ci := 1) (v := .ref th) (C := RX2) (T := TX2) (N := 5) hx hb hts hiX2 hown hK hP 0 rfl rfl 0 (by decide) (hts (.fieldLink RX2 14 "LinkModels$Reader" "tokens" "LLinkModels$Tokens;") (by decide +kernel)) (fun _ h9 => h9) rfl dX2_markHere_31 ?_
      refine lv_ldc2 (v := 439855505772) hx hb hown (hts (.constantLong RX2 158 (439855505772)) (by decide +kernel)) dX2_markHere_34 ?_
      refine vp_callSi (W.runV (As := [.long 439855505772]) (rest := []) ⟨hx, hb, hml, hown, hts⟩ (kX4_isWord l dC dI rh th tb sh cI cJ cB rm ry rf tl ta ts so tv tpA sw st sf sq ⟨by omega, by omega⟩ (439855505772 : Int64)) (cwV 1 hts zgX2_markHere_X4_isWord_63 rfl rfl rfl (by decide +kernel) ⟨(show 0 + 1 ≤ 1 by omega), (show 8 + (3 + 11) + 0 ≤ 22 by omega)⟩) (zVq (ci := 3) (q0 := 1) (q := (RX4, TX4, 6)) hK hP hE rfl rfl rfl) rfl rfl hl.1 rfl (lv_room (Nat.le_of_ble_eq_true rfl)) dX2_markHere_37 ⟨(show 0 + 0 ≤ 0 by omega), (show 0 + 0 ≤ 0 by omega)⟩) (fun r3 hw => ?_)
      have hw : (r3 = 0 ∨ r3 = 1) := hw
      have w0r3 := hw
      refine lv_if_eq (tgt := 45) hx hb dX2_markHere_40 (by decide) (fun cp40 => ?_) (fun cp40 => ?_)
      · refine lv_aload_n hx hb dX2_markHere_45 rfl (lv_at hl 0 rfl) ?_
        refine va_get (D := (dC, dI)) (ci := 1) (v := .ref th) (C := RX2) (T := TX2) (N := 5) hx hb hts hiX2 hown hK hP 0 rfl rfl 0 (by decide) (hts (.fieldLink RX2 14 "LinkModels$Reader" "tokens" "LLinkModels$Tokens;") (by decide +kernel)) (fun _ h9 => h9) rfl dX2_markHere_46 ?_
        refine lv_ldc2 (v := 7017298113369039732) hx hb hown (hts (.constantLong RX2 156 (7017298113369039732)) (by decide +kernel)) dX2_markHere_49 ?_
        refine vp_callSi (W.runV (As := [.long 7017298113369039732]) (rest := []) ⟨hx, hb, hml, hown, hts⟩ (kX4_isWord l dC dI rh th tb sh cI cJ cB rm ry rf tl ta ts so tv tpA sw st sf sq ⟨by omega, by omega⟩ (7017298113369039732 : Int64)) (cwV 1 hts zgX2_markHere_X4_isWord_63 rfl rfl rfl (by decide +kernel) ⟨(show 0 + 1 ≤ 1 by omega), (show 8 + (3 + 11) + 0 ≤ 22 by omega)⟩) (zVq (ci := 3) (q0 := 1) (q := (RX4, TX4, 6)) hK hP hE rfl rfl rfl) rfl rfl hl.1 rfl (lv_room (Nat.le_of_ble_eq_true rfl)) dX2_markHere_52 ⟨(show 0 + 0 ≤ 0 by omega), (show 0 + 0 ≤ 0 by omega)⟩) (fun r4 hw => ?_)
        have hw : (r4 = 0 ∨ r4 = 1) := hw
        have w0r4 := hw
        refine lv_if_eq (tgt := 63) hx hb dX2_markHere_55 (by decide) (fun cp55 => ?_) (fun cp55 => ?_)
        · refine lv_iconst (v := 0) hx hb dX2_markHere_63 (by decide) ?_
          exact W.iret (v := (0 : Int32)) hx hb hr (fun t ht hW => ⟨(0 : Int32), rfl, trivial, ht⟩) (fun _ h => by cases h) dX2_markHere_64
        · refine lv_bipush (v := 8) hx hb dX2_markHere_58 (by decide) ?_
          refine lv_goto (tgt := 64) hx hb dX2_markHere_60 (by decide) ?_
          exact W.iret (v := (8 : Int32)) hx hb hr (fun t ht hW => ⟨(8 : Int32), rfl, trivial, ht⟩) (fun _ h => by cases h) dX2_markHere_64
      · refine lv_iconst (v := 4) hx hb dX2_markHere_43 (by decide) ?_
        exact W.iret (v := (4 : Int32)) hx hb hr (fun t ht hW => ⟨(4 : Int32), rfl, trivial, ht⟩) (fun _ h => by cases h) dX2_markHere_44
    · refine lv_iconst (v := 2) hx hb dX2_markHere_28 (by decide) ?_
      exact W.iret (v := (2 : Int32)) hx hb hr (fun t ht hW => ⟨(2 : Int32), rfl, trivial, ht⟩) (fun _ h => by cases h) dX2_markHere_29
  · refine lv_iconst (v := 1) hx hb dX2_markHere_13 (by decide) ?_
    exact W.iret (v := (1 : Int32)) hx hb hr (fun t ht hW => ⟨(1 : Int32), rfl, trivial, ht⟩) (fun _ h => by cases h) dX2_markHere_14
theorem dX2_typeHere_0 : decode cX2_typeHere 0 = .ok (.aload_n 0, 1) := by decide +kernel
theorem dX2_typeHere_1 : decode cX2_typeHere 1 = .ok (.getfield 14, 3) := by decide +kernel
theorem dX2_typeHere_4 : decode cX2_typeHere 4 = .ok (.getfield 40, 3) := by decide +kernel
theorem dX2_typeHere_7 : decode cX2_typeHere 7 = .ok (.iconst 1, 1) := by decide +kernel
theorem dX2_typeHere_8 : decode cX2_typeHere 8 = .ok (.if_icmp .ne 12, 3) := by decide +kernel
theorem dX2_typeHere_11 : decode cX2_typeHere 11 = .ok (.aload_n 0, 1) := by decide +kernel
theorem dX2_typeHere_12 : decode cX2_typeHere 12 = .ok (.getfield 14, 3) := by decide +kernel
theorem dX2_typeHere_15 : decode cX2_typeHere 15 = .ok (.getfield 74, 3) := by decide +kernel
theorem dX2_typeHere_18 : decode cX2_typeHere 18 = .ok (.l2i, 1) := by decide +kernel
theorem dX2_typeHere_19 : decode cX2_typeHere 19 = .ok (.ireturn, 1) := by decide +kernel
theorem dX2_typeHere_20 : decode cX2_typeHere 20 = .ok (.aload_n 0, 1) := by decide +kernel
theorem dX2_typeHere_21 : decode cX2_typeHere 21 = .ok (.getfield 14, 3) := by decide +kernel
theorem dX2_typeHere_24 : decode cX2_typeHere 24 = .ok (.ldc2_w 164, 3) := by decide +kernel
theorem dX2_typeHere_27 : decode cX2_typeHere 27 = .ok (.invokevirtual 63, 3) := by decide +kernel
theorem dX2_typeHere_30 : decode cX2_typeHere 30 = .ok (.ifCond .eq 5, 3) := by decide +kernel
theorem dX2_typeHere_33 : decode cX2_typeHere 33 = .ok (.iconst 0, 1) := by decide +kernel
theorem dX2_typeHere_34 : decode cX2_typeHere 34 = .ok (.ireturn, 1) := by decide +kernel
theorem dX2_typeHere_35 : decode cX2_typeHere 35 = .ok (.aload_n 0, 1) := by decide +kernel
theorem dX2_typeHere_36 : decode cX2_typeHere 36 = .ok (.getfield 14, 3) := by decide +kernel
theorem dX2_typeHere_39 : decode cX2_typeHere 39 = .ok (.ldc2_w 166, 3) := by decide +kernel
theorem dX2_typeHere_42 : decode cX2_typeHere 42 = .ok (.invokevirtual 63, 3) := by decide +kernel
theorem dX2_typeHere_45 : decode cX2_typeHere 45 = .ok (.ifCond .eq 5, 3) := by decide +kernel
theorem dX2_typeHere_48 : decode cX2_typeHere 48 = .ok (.iconst 1, 1) := by decide +kernel
theorem dX2_typeHere_49 : decode cX2_typeHere 49 = .ok (.ireturn, 1) := by decide +kernel
theorem dX2_typeHere_50 : decode cX2_typeHere 50 = .ok (.aload_n 0, 1) := by decide +kernel
theorem dX2_typeHere_51 : decode cX2_typeHere 51 = .ok (.getfield 14, 3) := by decide +kernel
theorem dX2_typeHere_54 : decode cX2_typeHere 54 = .ok (.ldc2_w 168, 3) := by decide +kernel
theorem dX2_typeHere_57 : decode cX2_typeHere 57 = .ok (.invokevirtual 63, 3) := by decide +kernel
theorem dX2_typeHere_60 : decode cX2_typeHere 60 = .ok (.ifCond .eq 7, 3) := by decide +kernel
theorem dX2_typeHere_63 : decode cX2_typeHere 63 = .ok (.iconst 2, 1) := by decide +kernel
theorem dX2_typeHere_64 : decode cX2_typeHere 64 = .ok (.goto 4, 3) := by decide +kernel
theorem dX2_typeHere_67 : decode cX2_typeHere 67 = .ok (.iconst (-1), 1) := by decide +kernel
theorem dX2_typeHere_68 : decode cX2_typeHere 68 = .ok (.ireturn, 1) := by decide +kernel
def zwX2_typeHere : List Cond := .code yX2_typeHere cX2_typeHere 1 (some .int) :: ([.fieldLink RX2 14 "LinkModels$Reader" "tokens" "LLinkModels$Tokens;", .fieldLink RX2 40 "LinkModels$Tokens" "sort" "I", .constantLong RX2 164 (6909556), .constantLong RX2 166 (1819242087), .constantLong RX2 168 (1987012964), .fieldLink RX2 74 "LinkModels$Tokens" "value" "J", .methodLink RX2 63 yX4_isWord, .instanceMethod yX4_isWord, .selects RX4 yX4_isWord yX4_isWord, .initialized RX4, .code yX4_isWord cX4_isWord 3 (some .boolean), .fieldLink RX4 40 "LinkModels$Tokens" "sort" "I", .fieldLink RX4 32 "LinkModels$Tokens" "value" "J"] ++ wsX20 ++ wsX40)
theorem zgX2_typeHere_X4_isWord_63 : GoodIn zwX2_typeHere (wsV RX2 63 RX4 yX4_isWord zwX4_isWord) := goodIn_app (goodIn_r _ [7, 8, 9, 10] rfl (by decide +kernel)) (goodIn_app (goodIn_r _ [11, 12, 13] rfl (by decide +kernel)) (fun w hw => ⟨(List.mem_cons_of_mem _ (List.mem_append_right _ hw)), good_of_word (List.all_eq_true.mp zgX4 w hw)⟩))
set_option maxHeartbeats 4000000 in
set_option maxRecDepth 100000 in
theorem kX2_typeHere (l : Launch) (dC : Nat → ClassId) (dI : Nat → Nat → Nat) (rh : Nat) (th : Nat) (tb : Nat) (sh : Nat) (cI : ClassId) (cJ : ClassId) (cB : ClassId) (rm : Int32) (ry : Int32) (rf : Int32) (tl : Nat) (ta : Nat) (ts : Int32) (so : Int32) (tv : Int64) (tpA : Nat → Int32) (sw : Int64) (st : Int32) (sf : Int32) (sq : Int32) (hI : rdWI tl ta) : Met l yX2_typeHere zwX2_typeHere ({ frames := 1, cells := 0, slots := 0, locals := 22 }) (zPq dC dI [.ref rh] (rdW rh th tb sh cI cJ cB rm ry rf (nI tl) (nI ta) ts so tv tpA sw st sf sq) [(cI, .int), (cJ, .long), (cB, .byte)]) (vp_Si (fun r => (True))) 0 0 (fun _ => False) := by
  refine Met.ofW (cc := cX2_typeHere) (maxL := 1) (ret := (some .int)) (by decide) rfl ?_
  intro p e s m args below meth c s₁ B hml hv
  obtain ⟨rfl, hP, hK, hE⟩ := hv
  have hx := B.exec
  have hb := B.bytes
  have hr := B.returns
  have hts := atoms_spec (ws := zwX2_typeHere) B.pre
  have hown : s.vm.findClass RX2 = some m.cls := findClass_of_methodNamed B.named
  have hiX2 : ∀ w ∈ wsX20, w ∈ zwX2_typeHere := (fun w hw => (List.mem_cons_of_mem _ (List.mem_append_left _ (List.mem_append_right _ hw))))
  have hiX4 : ∀ w ∈ wsX40, w ∈ zwX2_typeHere := (fun w hw => (List.mem_cons_of_mem _ (List.mem_append_right _ hw)))
  obtain ⟨htl, hta⟩ := hI
  have hl := lv_entry ([.ref rh]) (n := 1) (Nat.le_of_ble_eq_true rfl)
  rw [lg_entry_eq]
  generalize (lg_sl ([.ref rh]) ++ List.replicate (1 - (lg_sl ([.ref rh])).length) Slot.unset).toArray = ls at hl ⊢
  have hl : lv_has ls 1 [(0, .ref rh)] := hl
  refine lv_aload_n hx hb dX2_typeHere_0 rfl (lv_at hl 0 rfl) ?_
  refine va_get (D := (dC, dI)) (ci := 1) (v := .ref th) (C := RX2) (T := TX2) (N := 5) hx hb hts hiX2 hown hK hP 0 rfl rfl 0 (by decide) (hts (.fieldLink RX2 14 "LinkModels$Reader" "tokens" "LLinkModels$Tokens;") (by decide +kernel)) (fun _ h9 => h9) rfl dX2_typeHere_1 ?_
  refine va_get (D := (dC, dI)) (ci := 3) (v := .int so) (C := RX4) (T := TX4) (N := 6) hx hb hts hiX4 hown hK hP 1 rfl rfl 4 (by decide) (hts (.fieldLink RX2 40 "LinkModels$Tokens" "sort" "I") (by decide +kernel)) (fun _ h9 => h9) rfl dX2_typeHere_4 ?_
  refine lv_iconst (v := 1) hx hb dX2_typeHere_7 (by decide) ?_
  refine lv_icmp_ne (tgt := 20) hx hb dX2_typeHere_8 (by decide) (fun cp8 => ?_) (fun cp8 => ?_)
  · refine lv_aload_n hx hb dX2_typeHere_20 rfl (lv_at hl 0 rfl) ?_
    refine va_get (D := (dC, dI)) (ci := 1) (v := .ref th) (C := RX2) (T := TX2) (N := 5) hx hb hts hiX2 hown hK hP 0 rfl rfl 0 (by decide) (hts (.fieldLink RX2 14 "LinkModels$Reader" "tokens" "LLinkModels$Tokens;") (by decide +kernel)) (fun _ h9 => h9) rfl dX2_typeHere_21 ?_
    refine lv_ldc2 (v := 6909556) hx hb hown (hts (.constantLong RX2 164 (6909556)) (by decide +kernel)) dX2_typeHere_24 ?_
    refine vp_callSi (W.runV (As := [.long 6909556]) (rest := []) ⟨hx, hb, hml, hown, hts⟩ (kX4_isWord l dC dI rh th tb sh cI cJ cB rm ry rf tl ta ts so tv tpA sw st sf sq ⟨by omega, by omega⟩ (6909556 : Int64)) (cwV 1 hts zgX2_typeHere_X4_isWord_63 rfl rfl rfl (by decide +kernel) ⟨(show 0 + 1 ≤ 1 by omega), (show 8 + (3 + 11) + 0 ≤ 22 by omega)⟩) (zVq (ci := 3) (q0 := 1) (q := (RX4, TX4, 6)) hK hP hE rfl rfl rfl) rfl rfl hl.1 rfl (lv_room (Nat.le_of_ble_eq_true rfl)) dX2_typeHere_27 ⟨(show 0 + 0 ≤ 0 by omega), (show 0 + 0 ≤ 0 by omega)⟩) (fun r1 hw => ?_)
    have hw : (r1 = 0 ∨ r1 = 1) := hw
    have w0r1 := hw
    refine lv_if_eq (tgt := 35) hx hb dX2_typeHere_30 (by decide) (fun cp30 => ?_) (fun cp30 => ?_)
    · refine lv_aload_n hx hb dX2_typeHere_35 rfl (lv_at hl 0 rfl) ?_
      refine va_get (D := (dC, dI)) (ci := 1) (v := .ref th) (C := RX2) (T := TX2) (N := 5) hx hb hts hiX2 hown hK hP 0 rfl rfl 0 (by decide) (hts (.fieldLink RX2 14 "LinkModels$Reader" "tokens" "LLinkModels$Tokens;") (by decide +kernel)) (fun _ h9 => h9) rfl dX2_typeHere_36 ?_
      refine lv_ldc2 (v := 1819242087) hx hb hown (hts (.constantLong RX2 166 (1819242087)) (by decide +kernel)) dX2_typeHere_39 ?_
      refine vp_callSi (W.runV (As := [.long 1819242087]) (rest := []) ⟨hx, hb, hml, hown, hts⟩ (kX4_isWord l dC dI rh th tb sh cI cJ cB rm ry rf tl ta ts so tv tpA sw st sf sq ⟨by omega, by omega⟩ (1819242087 : Int64)) (cwV 1 hts zgX2_typeHere_X4_isWord_63 rfl rfl rfl (by decide +kernel) ⟨(show 0 + 1 ≤ 1 by omega), (show 8 + (3 + 11) + 0 ≤ 22 by omega)⟩) (zVq (ci := 3) (q0 := 1) (q := (RX4, TX4, 6)) hK hP hE rfl rfl rfl) rfl rfl hl.1 rfl (lv_room (Nat.le_of_ble_eq_true rfl)) dX2_typeHere_42 ⟨(show 0 + 0 ≤ 0 by omega), (show 0 + 0 ≤ 0 by omega)⟩) (fun r2 hw => ?_)
      have hw : (r2 = 0 ∨ r2 = 1) := hw
      have w0r2 := hw
      refine lv_if_eq (tgt := 50) hx hb dX2_typeHere_45 (by decide) (fun cp45 => ?_) (fun cp45 => ?_)
      · refine lv_aload_n hx hb dX2_typeHere_50 rfl (lv_at hl 0 rfl) ?_
        refine va_get (D := (dC, dI)) (ci := 1) (v := .ref th) (C := RX2) (T := TX2) (N := 5) hx hb hts hiX2 hown hK hP 0 rfl rfl 0 (by decide) (hts (.fieldLink RX2 14 "LinkModels$Reader" "tokens" "LLinkModels$Tokens;") (by decide +kernel)) (fun _ h9 => h9) rfl dX2_typeHere_51 ?_
        refine lv_ldc2 (v := 1987012964) hx hb hown (hts (.constantLong RX2 168 (1987012964)) (by decide +kernel)) dX2_typeHere_54 ?_
        refine vp_callSi (W.runV (As := [.long 1987012964]) (rest := []) ⟨hx, hb, hml, hown, hts⟩ (kX4_isWord l dC dI rh th tb sh cI cJ cB rm ry rf tl ta ts so tv tpA sw st sf sq ⟨by omega, by omega⟩ (1987012964 : Int64)) (cwV 1 hts zgX2_typeHere_X4_isWord_63 rfl rfl rfl (by decide +kernel) ⟨(show 0 + 1 ≤ 1 by omega), (show 8 + (3 + 11) + 0 ≤ 22 by omega)⟩) (zVq (ci := 3) (q0 := 1) (q := (RX4, TX4, 6)) hK hP hE rfl rfl rfl) rfl rfl hl.1 rfl (lv_room (Nat.le_of_ble_eq_true rfl)) dX2_typeHere_57 ⟨(show 0 + 0 ≤ 0 by omega), (show 0 + 0 ≤ 0 by omega)⟩) (fun r3 hw => ?_)
        have hw : (r3 = 0 ∨ r3 = 1) := hw
        have w0r3 := hw
        refine lv_if_eq (tgt := 67) hx hb dX2_typeHere_60 (by decide) (fun cp60 => ?_) (fun cp60 => ?_)
        · refine lv_iconst (v := (-1)) hx hb dX2_typeHere_67 (by decide) ?_
          exact W.iret (v := (-1 : Int32)) hx hb hr (fun t ht hW => ⟨(-1 : Int32), rfl, trivial, ht⟩) (fun _ h => by cases h) dX2_typeHere_68
        · refine lv_iconst (v := 2) hx hb dX2_typeHere_63 (by decide) ?_
          refine lv_goto (tgt := 68) hx hb dX2_typeHere_64 (by decide) ?_
          exact W.iret (v := (2 : Int32)) hx hb hr (fun t ht hW => ⟨(2 : Int32), rfl, trivial, ht⟩) (fun _ h => by cases h) dX2_typeHere_68
      · refine lv_iconst (v := 1) hx hb dX2_typeHere_48 (by decide) ?_
        exact W.iret (v := (1 : Int32)) hx hb hr (fun t ht hW => ⟨(1 : Int32), rfl, trivial, ht⟩) (fun _ h => by cases h) dX2_typeHere_49
    · refine lv_iconst (v := 0) hx hb dX2_typeHere_33 (by decide) ?_
      exact W.iret (v := (0 : Int32)) hx hb hr (fun t ht hW => ⟨(0 : Int32), rfl, trivial, ht⟩) (fun _ h => by cases h) dX2_typeHere_34
  · refine lv_aload_n hx hb dX2_typeHere_11 rfl (lv_at hl 0 rfl) ?_
    refine va_get (D := (dC, dI)) (ci := 1) (v := .ref th) (C := RX2) (T := TX2) (N := 5) hx hb hts hiX2 hown hK hP 0 rfl rfl 0 (by decide) (hts (.fieldLink RX2 14 "LinkModels$Reader" "tokens" "LLinkModels$Tokens;") (by decide +kernel)) (fun _ h9 => h9) rfl dX2_typeHere_12 ?_
    refine va_get (D := (dC, dI)) (ci := 3) (v := .long tv) (C := RX4) (T := TX4) (N := 6) hx hb hts hiX4 hown hK hP 1 rfl rfl 5 (by decide) (hts (.fieldLink RX2 74 "LinkModels$Tokens" "value" "J") (by decide +kernel)) (fun _ h9 => h9) rfl dX2_typeHere_15 ?_
    refine lv_l2i hx hb dX2_typeHere_18 rfl ?_
    refine lv_topi (fun x4 ex4 => ?_)
    exact W.iret (v := x4) hx hb hr (fun t ht hW => ⟨x4, rfl, trivial, ht⟩) (fun _ h => by cases h) dX2_typeHere_19
theorem dX2_isMemberWordHere_0 : decode cX2_isMemberWordHere 0 = .ok (.aload_n 0, 1) := by decide +kernel
theorem dX2_isMemberWordHere_1 : decode cX2_isMemberWordHere 1 = .ok (.getfield 14, 3) := by decide +kernel
theorem dX2_isMemberWordHere_4 : decode cX2_isMemberWordHere 4 = .ok (.getfield 40, 3) := by decide +kernel
theorem dX2_isMemberWordHere_7 : decode cX2_isMemberWordHere 7 = .ok (.iconst 2, 1) := by decide +kernel
theorem dX2_isMemberWordHere_8 : decode cX2_isMemberWordHere 8 = .ok (.if_icmp .ne 35, 3) := by decide +kernel
theorem dX2_isMemberWordHere_11 : decode cX2_isMemberWordHere 11 = .ok (.aload_n 0, 1) := by decide +kernel
theorem dX2_isMemberWordHere_12 : decode cX2_isMemberWordHere 12 = .ok (.getfield 14, 3) := by decide +kernel
theorem dX2_isMemberWordHere_15 : decode cX2_isMemberWordHere 15 = .ok (.ldc2_w 61, 3) := by decide +kernel
theorem dX2_isMemberWordHere_18 : decode cX2_isMemberWordHere 18 = .ok (.invokevirtual 63, 3) := by decide +kernel
theorem dX2_isMemberWordHere_21 : decode cX2_isMemberWordHere 21 = .ok (.ifCond .ne 22, 3) := by decide +kernel
theorem dX2_isMemberWordHere_24 : decode cX2_isMemberWordHere 24 = .ok (.aload_n 0, 1) := by decide +kernel
theorem dX2_isMemberWordHere_25 : decode cX2_isMemberWordHere 25 = .ok (.invokevirtual 101, 3) := by decide +kernel
theorem dX2_isMemberWordHere_28 : decode cX2_isMemberWordHere 28 = .ok (.ifCond .ne 15, 3) := by decide +kernel
theorem dX2_isMemberWordHere_31 : decode cX2_isMemberWordHere 31 = .ok (.aload_n 0, 1) := by decide +kernel
theorem dX2_isMemberWordHere_32 : decode cX2_isMemberWordHere 32 = .ok (.invokevirtual 104, 3) := by decide +kernel
theorem dX2_isMemberWordHere_35 : decode cX2_isMemberWordHere 35 = .ok (.iconst (-1), 1) := by decide +kernel
theorem dX2_isMemberWordHere_36 : decode cX2_isMemberWordHere 36 = .ok (.if_icmp .ne 7, 3) := by decide +kernel
theorem dX2_isMemberWordHere_39 : decode cX2_isMemberWordHere 39 = .ok (.iconst 1, 1) := by decide +kernel
theorem dX2_isMemberWordHere_40 : decode cX2_isMemberWordHere 40 = .ok (.goto 4, 3) := by decide +kernel
theorem dX2_isMemberWordHere_43 : decode cX2_isMemberWordHere 43 = .ok (.iconst 0, 1) := by decide +kernel
theorem dX2_isMemberWordHere_44 : decode cX2_isMemberWordHere 44 = .ok (.ireturn, 1) := by decide +kernel
def zwX2_isMemberWordHere : List Cond := .code yX2_isMemberWordHere cX2_isMemberWordHere 1 (some .boolean) :: ([.fieldLink RX2 14 "LinkModels$Reader" "tokens" "LLinkModels$Tokens;", .fieldLink RX2 40 "LinkModels$Tokens" "sort" "I", .constantLong RX2 61 (427020088179), .methodLink RX2 63 yX4_isWord, .instanceMethod yX4_isWord, .selects RX4 yX4_isWord yX4_isWord, .initialized RX4, .code yX4_isWord cX4_isWord 3 (some .boolean), .fieldLink RX4 40 "LinkModels$Tokens" "sort" "I", .fieldLink RX4 32 "LinkModels$Tokens" "value" "J", .methodLink RX2 101 yX2_markHere, .instanceMethod yX2_markHere, .selects RX2 yX2_markHere yX2_markHere, .initialized RX2, .code yX2_markHere cX2_markHere 1 (some .int), .constantLong RX2 160 (126943688419683), .constantLong RX2 162 (114801865155950), .constantLong RX2 158 (439855505772), .constantLong RX2 156 (7017298113369039732), .methodLink RX2 104 yX2_typeHere, .instanceMethod yX2_typeHere, .selects RX2 yX2_typeHere yX2_typeHere, .code yX2_typeHere cX2_typeHere 1 (some .int), .constantLong RX2 164 (6909556), .constantLong RX2 166 (1819242087), .constantLong RX2 168 (1987012964), .fieldLink RX2 74 "LinkModels$Tokens" "value" "J"] ++ wsX20 ++ wsX40)
theorem zgX2_isMemberWordHere_X4_isWord_63 : GoodIn zwX2_isMemberWordHere (wsV RX2 63 RX4 yX4_isWord zwX4_isWord) := goodIn_app (goodIn_r _ [4, 5, 6, 7] rfl (by decide +kernel)) (goodIn_app (goodIn_r _ [8, 9, 10] rfl (by decide +kernel)) (fun w hw => ⟨(List.mem_cons_of_mem _ (List.mem_append_right _ hw)), good_of_word (List.all_eq_true.mp zgX4 w hw)⟩))
theorem zgX2_isMemberWordHere_X2_markHere_101 : GoodIn zwX2_isMemberWordHere (wsV RX2 101 RX2 yX2_markHere zwX2_markHere) := goodIn_app (goodIn_r _ [11, 12, 13, 14] rfl (by decide +kernel)) (goodIn_app (goodIn_app (goodIn_r _ [15, 1, 16, 17, 18, 19, 4, 5, 6, 7, 8, 9, 10] rfl (by decide +kernel)) (fun w hw => ⟨(List.mem_cons_of_mem _ (List.mem_append_left _ (List.mem_append_right _ hw))), good_of_word (List.all_eq_true.mp zgX2 w hw)⟩)) (fun w hw => ⟨(List.mem_cons_of_mem _ (List.mem_append_right _ hw)), good_of_word (List.all_eq_true.mp zgX4 w hw)⟩))
theorem zgX2_isMemberWordHere_X2_typeHere_104 : GoodIn zwX2_isMemberWordHere (wsV RX2 104 RX2 yX2_typeHere zwX2_typeHere) := goodIn_app (goodIn_r _ [20, 21, 22, 14] rfl (by decide +kernel)) (goodIn_app (goodIn_app (goodIn_r _ [23, 1, 2, 24, 25, 26, 27, 4, 5, 6, 7, 8, 9, 10] rfl (by decide +kernel)) (fun w hw => ⟨(List.mem_cons_of_mem _ (List.mem_append_left _ (List.mem_append_right _ hw))), good_of_word (List.all_eq_true.mp zgX2 w hw)⟩)) (fun w hw => ⟨(List.mem_cons_of_mem _ (List.mem_append_right _ hw)), good_of_word (List.all_eq_true.mp zgX4 w hw)⟩))
set_option maxHeartbeats 4000000 in
set_option maxRecDepth 100000 in
theorem kX2_isMemberWordHere (l : Launch) (dC : Nat → ClassId) (dI : Nat → Nat → Nat) (rh : Nat) (th : Nat) (tb : Nat) (sh : Nat) (cI : ClassId) (cJ : ClassId) (cB : ClassId) (rm : Int32) (ry : Int32) (rf : Int32) (tl : Nat) (ta : Nat) (ts : Int32) (so : Int32) (tv : Int64) (tpA : Nat → Int32) (sw : Int64) (st : Int32) (sf : Int32) (sq : Int32) (hI : rdWI tl ta) : Met l yX2_isMemberWordHere zwX2_isMemberWordHere ({ frames := 2, cells := 0, slots := 0, locals := 42 }) (zPq dC dI [.ref rh] (rdW rh th tb sh cI cJ cB rm ry rf (nI tl) (nI ta) ts so tv tpA sw st sf sq) [(cI, .int), (cJ, .long), (cB, .byte)]) (vp_Si (fun r => (r = 0 ∨ r = 1))) 0 0 (fun _ => False) := by
  refine Met.ofW (cc := cX2_isMemberWordHere) (maxL := 1) (ret := (some .boolean)) (by decide) rfl ?_
  intro p e s m args below meth c s₁ B hml hv
  obtain ⟨rfl, hP, hK, hE⟩ := hv
  have hx := B.exec
  have hb := B.bytes
  have hr := B.returns
  have hts := atoms_spec (ws := zwX2_isMemberWordHere) B.pre
  have hown : s.vm.findClass RX2 = some m.cls := findClass_of_methodNamed B.named
  have hiX2 : ∀ w ∈ wsX20, w ∈ zwX2_isMemberWordHere := (fun w hw => (List.mem_cons_of_mem _ (List.mem_append_left _ (List.mem_append_right _ hw))))
  have hiX4 : ∀ w ∈ wsX40, w ∈ zwX2_isMemberWordHere := (fun w hw => (List.mem_cons_of_mem _ (List.mem_append_right _ hw)))
  obtain ⟨htl, hta⟩ := hI
  have hl := lv_entry ([.ref rh]) (n := 1) (Nat.le_of_ble_eq_true rfl)
  rw [lg_entry_eq]
  generalize (lg_sl ([.ref rh]) ++ List.replicate (1 - (lg_sl ([.ref rh])).length) Slot.unset).toArray = ls at hl ⊢
  have hl : lv_has ls 1 [(0, .ref rh)] := hl
  refine lv_aload_n hx hb dX2_isMemberWordHere_0 rfl (lv_at hl 0 rfl) ?_
  refine va_get (D := (dC, dI)) (ci := 1) (v := .ref th) (C := RX2) (T := TX2) (N := 5) hx hb hts hiX2 hown hK hP 0 rfl rfl 0 (by decide) (hts (.fieldLink RX2 14 "LinkModels$Reader" "tokens" "LLinkModels$Tokens;") (by decide +kernel)) (fun _ h9 => h9) rfl dX2_isMemberWordHere_1 ?_
  refine va_get (D := (dC, dI)) (ci := 3) (v := .int so) (C := RX4) (T := TX4) (N := 6) hx hb hts hiX4 hown hK hP 1 rfl rfl 4 (by decide) (hts (.fieldLink RX2 40 "LinkModels$Tokens" "sort" "I") (by decide +kernel)) (fun _ h9 => h9) rfl dX2_isMemberWordHere_4 ?_
  refine lv_iconst (v := 2) hx hb dX2_isMemberWordHere_7 (by decide) ?_
  refine lv_icmp_ne (tgt := 43) hx hb dX2_isMemberWordHere_8 (by decide) (fun cp8 => ?_) (fun cp8 => ?_)
  · refine lv_iconst (v := 0) hx hb dX2_isMemberWordHere_43 (by decide) ?_
    exact W.zret (v := (0 : Int32)) hx hb hr rfl (fun t ht hW => ⟨(0 : Int32), rfl, (Or.inl rfl), ht⟩) (fun _ h => by cases h) dX2_isMemberWordHere_44
  · refine lv_aload_n hx hb dX2_isMemberWordHere_11 rfl (lv_at hl 0 rfl) ?_
    refine va_get (D := (dC, dI)) (ci := 1) (v := .ref th) (C := RX2) (T := TX2) (N := 5) hx hb hts hiX2 hown hK hP 0 rfl rfl 0 (by decide) (hts (.fieldLink RX2 14 "LinkModels$Reader" "tokens" "LLinkModels$Tokens;") (by decide +kernel)) (fun _ h9 => h9) rfl dX2_isMemberWordHere_12 ?_
    refine lv_ldc2 (v := 427020088179) hx hb hown (hts (.constantLong RX2 61 (427020088179)) (by decide +kernel)) dX2_isMemberWordHere_15 ?_
    refine vp_callSi (W.runV (As := [.long 427020088179]) (rest := []) ⟨hx, hb, hml, hown, hts⟩ (kX4_isWord l dC dI rh th tb sh cI cJ cB rm ry rf tl ta ts so tv tpA sw st sf sq ⟨by omega, by omega⟩ (427020088179 : Int64)) (cwV 1 hts zgX2_isMemberWordHere_X4_isWord_63 rfl rfl rfl (by decide +kernel) ⟨(show 0 + 1 ≤ 2 by omega), (show 8 + (3 + 11) + 0 ≤ 42 by omega)⟩) (zVq (ci := 3) (q0 := 1) (q := (RX4, TX4, 6)) hK hP hE rfl rfl rfl) rfl rfl hl.1 rfl (lv_room (Nat.le_of_ble_eq_true rfl)) dX2_isMemberWordHere_18 ⟨(show 0 + 0 ≤ 0 by omega), (show 0 + 0 ≤ 0 by omega)⟩) (fun r1 hw => ?_)
    have hw : (r1 = 0 ∨ r1 = 1) := hw
    have w0r1 := hw
    refine lv_if_ne (tgt := 43) hx hb dX2_isMemberWordHere_21 (by decide) (fun cp21 => ?_) (fun cp21 => ?_)
    · refine lv_iconst (v := 0) hx hb dX2_isMemberWordHere_43 (by decide) ?_
      exact W.zret (v := (0 : Int32)) hx hb hr rfl (fun t ht hW => ⟨(0 : Int32), rfl, (Or.inl rfl), ht⟩) (fun _ h => by cases h) dX2_isMemberWordHere_44
    · refine lv_aload_n hx hb dX2_isMemberWordHere_24 rfl (lv_at hl 0 rfl) ?_
      refine vp_callSi (W.runV (As := []) (rest := []) ⟨hx, hb, hml, hown, hts⟩ (kX2_markHere l dC dI rh th tb sh cI cJ cB rm ry rf tl ta ts so tv tpA sw st sf sq ⟨by omega, by omega⟩) (cwV 0 hts zgX2_isMemberWordHere_X2_markHere_101 rfl rfl rfl (by decide +kernel) ⟨(show 1 + 1 ≤ 2 by omega), (show 8 + (1 + 11) + 22 ≤ 42 by omega)⟩) (zVq (ci := 1) (q0 := 0) (q := (RX2, TX2, 5)) hK hP hE rfl rfl rfl) rfl rfl hl.1 rfl (lv_room (Nat.le_of_ble_eq_true rfl)) dX2_isMemberWordHere_25 ⟨(show 0 + 0 ≤ 0 by omega), (show 0 + 0 ≤ 0 by omega)⟩) (fun r2 hw => ?_)
      have hw : (True) := hw
      have w0r2 := hw
      refine lv_if_ne (tgt := 43) hx hb dX2_isMemberWordHere_28 (by decide) (fun cp28 => ?_) (fun cp28 => ?_)
      · refine lv_iconst (v := 0) hx hb dX2_isMemberWordHere_43 (by decide) ?_
        exact W.zret (v := (0 : Int32)) hx hb hr rfl (fun t ht hW => ⟨(0 : Int32), rfl, (Or.inl rfl), ht⟩) (fun _ h => by cases h) dX2_isMemberWordHere_44
      · refine lv_aload_n hx hb dX2_isMemberWordHere_31 rfl (lv_at hl 0 rfl) ?_
        refine vp_callSi (W.runV (As := []) (rest := []) ⟨hx, hb, hml, hown, hts⟩ (kX2_typeHere l dC dI rh th tb sh cI cJ cB rm ry rf tl ta ts so tv tpA sw st sf sq ⟨by omega, by omega⟩) (cwV 0 hts zgX2_isMemberWordHere_X2_typeHere_104 rfl rfl rfl (by decide +kernel) ⟨(show 1 + 1 ≤ 2 by omega), (show 8 + (1 + 11) + 22 ≤ 42 by omega)⟩) (zVq (ci := 1) (q0 := 0) (q := (RX2, TX2, 5)) hK hP hE rfl rfl rfl) rfl rfl hl.1 rfl (lv_room (Nat.le_of_ble_eq_true rfl)) dX2_isMemberWordHere_32 ⟨(show 0 + 0 ≤ 0 by omega), (show 0 + 0 ≤ 0 by omega)⟩) (fun r3 hw => ?_)
        have hw : (True) := hw
        have w0r3 := hw
        refine lv_iconst (v := (-1)) hx hb dX2_isMemberWordHere_35 (by decide) ?_
        refine lv_icmp_ne (tgt := 43) hx hb dX2_isMemberWordHere_36 (by decide) (fun cp36 => ?_) (fun cp36 => ?_)
        · refine lv_iconst (v := 0) hx hb dX2_isMemberWordHere_43 (by decide) ?_
          exact W.zret (v := (0 : Int32)) hx hb hr rfl (fun t ht hW => ⟨(0 : Int32), rfl, (Or.inl rfl), ht⟩) (fun _ h => by cases h) dX2_isMemberWordHere_44
        · refine lv_iconst (v := 1) hx hb dX2_isMemberWordHere_39 (by decide) ?_
          refine lv_goto (tgt := 44) hx hb dX2_isMemberWordHere_40 (by decide) ?_
          exact W.zret (v := (1 : Int32)) hx hb hr rfl (fun t ht hW => ⟨(1 : Int32), rfl, (Or.inr rfl), ht⟩) (fun _ h => by cases h) dX2_isMemberWordHere_44
theorem dX5_asksField_0 : decode cX5_asksField 0 = .ok (.aload_n 0, 1) := by decide +kernel
theorem dX5_asksField_1 : decode cX5_asksField 1 = .ok (.getfield 9, 3) := by decide +kernel
theorem dX5_asksField_4 : decode cX5_asksField 4 = .ok (.iconst 3, 1) := by decide +kernel
theorem dX5_asksField_5 : decode cX5_asksField 5 = .ok (.if_icmp .gt 7, 3) := by decide +kernel
theorem dX5_asksField_8 : decode cX5_asksField 8 = .ok (.iconst 1, 1) := by decide +kernel
theorem dX5_asksField_9 : decode cX5_asksField 9 = .ok (.goto 4, 3) := by decide +kernel
theorem dX5_asksField_12 : decode cX5_asksField 12 = .ok (.iconst 0, 1) := by decide +kernel
theorem dX5_asksField_13 : decode cX5_asksField 13 = .ok (.ireturn, 1) := by decide +kernel
def zwX5_asksField : List Cond := .code yX5_asksField cX5_asksField 1 (some .boolean) :: ([.fieldLink RX5 9 "LinkModels$Use" "kind" "I"] ++ wsX50)
set_option maxHeartbeats 4000000 in
set_option maxRecDepth 100000 in
theorem kX5_asksField (l : Launch) (dC : Nat → ClassId) (dI : Nat → Nat → Nat) (uh : Nat) (ug : Nat) (cI : ClassId) (cJ : ClassId) (cB : ClassId) (uk : Int32) (uc : Int32) (uo : Int32) (uy : Int32) (uw : Int64) (ut : Int32) (uf : Int32) (uq : Int32) : Met l yX5_asksField zwX5_asksField ({ frames := 0, cells := 0, slots := 0, locals := 0 }) (zPq dC dI [.ref uh] (uW uh ug cI cJ cB uk uc uo uy uw ut uf uq) [(cI, .int), (cJ, .long), (cB, .byte)]) (vp_Si (fun r => (r = 0 ∨ r = 1))) 0 0 (fun _ => False) := by
  refine Met.ofW (cc := cX5_asksField) (maxL := 1) (ret := (some .boolean)) (by decide) rfl ?_
  intro p e s m args below meth c s₁ B hml hv
  obtain ⟨rfl, hP, hK, hE⟩ := hv
  have hx := B.exec
  have hb := B.bytes
  have hr := B.returns
  have hts := atoms_spec (ws := zwX5_asksField) B.pre
  have hown : s.vm.findClass RX5 = some m.cls := findClass_of_methodNamed B.named
  have hiX5 : ∀ w ∈ wsX50, w ∈ zwX5_asksField := (fun w hw => (List.mem_cons_of_mem _ (List.mem_append_right _ hw)))
  have hl := lv_entry ([.ref uh]) (n := 1) (Nat.le_of_ble_eq_true rfl)
  rw [lg_entry_eq]
  generalize (lg_sl ([.ref uh]) ++ List.replicate (1 - (lg_sl ([.ref uh])).length) Slot.unset).toArray = ls at hl ⊢
  have hl : lv_has ls 1 [(0, .ref uh)] := hl
  refine lv_aload_n hx hb dX5_asksField_0 rfl (lv_at hl 0 rfl) ?_
  refine va_get (D := (dC, dI)) (ci := 4) (v := .int uk) (C := RX5) (T := TX5) (N := 5) hx hb hts hiX5 hown hK hP 0 rfl rfl 0 (by decide) (hts (.fieldLink RX5 9 "LinkModels$Use" "kind" "I") (by decide +kernel)) (fun _ h9 => h9) rfl dX5_asksField_1 ?_
  refine lv_iconst (v := 3) hx hb dX5_asksField_4 (by decide) ?_
  refine lv_icmp_gt (tgt := 12) hx hb dX5_asksField_5 (by decide) (fun cp5 => ?_) (fun cp5 => ?_)
  · refine lv_iconst (v := 0) hx hb dX5_asksField_12 (by decide) ?_
    exact W.zret (v := (0 : Int32)) hx hb hr rfl (fun t ht hW => ⟨(0 : Int32), rfl, (Or.inl rfl), ht⟩) (fun _ h => by cases h) dX5_asksField_13
  · refine lv_iconst (v := 1) hx hb dX5_asksField_8 (by decide) ?_
    refine lv_goto (tgt := 13) hx hb dX5_asksField_9 (by decide) ?_
    exact W.zret (v := (1 : Int32)) hx hb hr rfl (fun t ht hW => ⟨(1 : Int32), rfl, (Or.inr rfl), ht⟩) (fun _ h => by cases h) dX5_asksField_13
theorem dX5_puts_0 : decode cX5_puts 0 = .ok (.aload_n 0, 1) := by decide +kernel
theorem dX5_puts_1 : decode cX5_puts 1 = .ok (.getfield 9, 3) := by decide +kernel
theorem dX5_puts_4 : decode cX5_puts 4 = .ok (.iconst 1, 1) := by decide +kernel
theorem dX5_puts_5 : decode cX5_puts 5 = .ok (.if_icmp .eq 11, 3) := by decide +kernel
theorem dX5_puts_8 : decode cX5_puts 8 = .ok (.aload_n 0, 1) := by decide +kernel
theorem dX5_puts_9 : decode cX5_puts 9 = .ok (.getfield 9, 3) := by decide +kernel
theorem dX5_puts_12 : decode cX5_puts 12 = .ok (.iconst 3, 1) := by decide +kernel
theorem dX5_puts_13 : decode cX5_puts 13 = .ok (.if_icmp .ne 7, 3) := by decide +kernel
theorem dX5_puts_16 : decode cX5_puts 16 = .ok (.iconst 1, 1) := by decide +kernel
theorem dX5_puts_17 : decode cX5_puts 17 = .ok (.goto 4, 3) := by decide +kernel
theorem dX5_puts_20 : decode cX5_puts 20 = .ok (.iconst 0, 1) := by decide +kernel
theorem dX5_puts_21 : decode cX5_puts 21 = .ok (.ireturn, 1) := by decide +kernel
def zwX5_puts : List Cond := .code yX5_puts cX5_puts 1 (some .boolean) :: ([.fieldLink RX5 9 "LinkModels$Use" "kind" "I"] ++ wsX50)
set_option maxHeartbeats 4000000 in
set_option maxRecDepth 100000 in
theorem kX5_puts (l : Launch) (dC : Nat → ClassId) (dI : Nat → Nat → Nat) (uh : Nat) (ug : Nat) (cI : ClassId) (cJ : ClassId) (cB : ClassId) (uk : Int32) (uc : Int32) (uo : Int32) (uy : Int32) (uw : Int64) (ut : Int32) (uf : Int32) (uq : Int32) : Met l yX5_puts zwX5_puts ({ frames := 0, cells := 0, slots := 0, locals := 0 }) (zPq dC dI [.ref uh] (uW uh ug cI cJ cB uk uc uo uy uw ut uf uq) [(cI, .int), (cJ, .long), (cB, .byte)]) (vp_Si (fun r => (r = 0 ∨ r = 1))) 0 0 (fun _ => False) := by
  refine Met.ofW (cc := cX5_puts) (maxL := 1) (ret := (some .boolean)) (by decide) rfl ?_
  intro p e s m args below meth c s₁ B hml hv
  obtain ⟨rfl, hP, hK, hE⟩ := hv
  have hx := B.exec
  have hb := B.bytes
  have hr := B.returns
  have hts := atoms_spec (ws := zwX5_puts) B.pre
  have hown : s.vm.findClass RX5 = some m.cls := findClass_of_methodNamed B.named
  have hiX5 : ∀ w ∈ wsX50, w ∈ zwX5_puts := (fun w hw => (List.mem_cons_of_mem _ (List.mem_append_right _ hw)))
  have hl := lv_entry ([.ref uh]) (n := 1) (Nat.le_of_ble_eq_true rfl)
  rw [lg_entry_eq]
  generalize (lg_sl ([.ref uh]) ++ List.replicate (1 - (lg_sl ([.ref uh])).length) Slot.unset).toArray = ls at hl ⊢
  have hl : lv_has ls 1 [(0, .ref uh)] := hl
  refine lv_aload_n hx hb dX5_puts_0 rfl (lv_at hl 0 rfl) ?_
  refine va_get (D := (dC, dI)) (ci := 4) (v := .int uk) (C := RX5) (T := TX5) (N := 5) hx hb hts hiX5 hown hK hP 0 rfl rfl 0 (by decide) (hts (.fieldLink RX5 9 "LinkModels$Use" "kind" "I") (by decide +kernel)) (fun _ h9 => h9) rfl dX5_puts_1 ?_
  refine lv_iconst (v := 1) hx hb dX5_puts_4 (by decide) ?_
  refine lv_icmp_eq (tgt := 16) hx hb dX5_puts_5 (by decide) (fun cp5 => ?_) (fun cp5 => ?_)
  · refine lv_iconst (v := 1) hx hb dX5_puts_16 (by decide) ?_
    refine lv_goto (tgt := 21) hx hb dX5_puts_17 (by decide) ?_
    exact W.zret (v := (1 : Int32)) hx hb hr rfl (fun t ht hW => ⟨(1 : Int32), rfl, (Or.inr rfl), ht⟩) (fun _ h => by cases h) dX5_puts_21
  · refine lv_aload_n hx hb dX5_puts_8 rfl (lv_at hl 0 rfl) ?_
    refine va_get (D := (dC, dI)) (ci := 4) (v := .int uk) (C := RX5) (T := TX5) (N := 5) hx hb hts hiX5 hown hK hP 0 rfl rfl 0 (by decide) (hts (.fieldLink RX5 9 "LinkModels$Use" "kind" "I") (by decide +kernel)) (fun _ h9 => h9) rfl dX5_puts_9 ?_
    refine lv_iconst (v := 3) hx hb dX5_puts_12 (by decide) ?_
    refine lv_icmp_ne (tgt := 20) hx hb dX5_puts_13 (by decide) (fun cp13 => ?_) (fun cp13 => ?_)
    · refine lv_iconst (v := 0) hx hb dX5_puts_20 (by decide) ?_
      exact W.zret (v := (0 : Int32)) hx hb hr rfl (fun t ht hW => ⟨(0 : Int32), rfl, (Or.inl rfl), ht⟩) (fun _ h => by cases h) dX5_puts_21
    · refine lv_iconst (v := 1) hx hb dX5_puts_16 (by decide) ?_
      refine lv_goto (tgt := 21) hx hb dX5_puts_17 (by decide) ?_
      exact W.zret (v := (1 : Int32)) hx hb hr rfl (fun t ht hW => ⟨(1 : Int32), rfl, (Or.inr rfl), ht⟩) (fun _ h => by cases h) dX5_puts_21
theorem dX5_asksStatic_0 : decode cX5_asksStatic 0 = .ok (.aload_n 0, 1) := by decide +kernel
theorem dX5_asksStatic_1 : decode cX5_asksStatic 1 = .ok (.getfield 9, 3) := by decide +kernel
theorem dX5_asksStatic_4 : decode cX5_asksStatic 4 = .ok (.iconst 2, 1) := by decide +kernel
theorem dX5_asksStatic_5 : decode cX5_asksStatic 5 = .ok (.if_icmp .eq 19, 3) := by decide +kernel
theorem dX5_asksStatic_8 : decode cX5_asksStatic 8 = .ok (.aload_n 0, 1) := by decide +kernel
theorem dX5_asksStatic_9 : decode cX5_asksStatic 9 = .ok (.getfield 9, 3) := by decide +kernel
theorem dX5_asksStatic_12 : decode cX5_asksStatic 12 = .ok (.iconst 3, 1) := by decide +kernel
theorem dX5_asksStatic_13 : decode cX5_asksStatic 13 = .ok (.if_icmp .eq 11, 3) := by decide +kernel
theorem dX5_asksStatic_16 : decode cX5_asksStatic 16 = .ok (.aload_n 0, 1) := by decide +kernel
theorem dX5_asksStatic_17 : decode cX5_asksStatic 17 = .ok (.getfield 9, 3) := by decide +kernel
theorem dX5_asksStatic_20 : decode cX5_asksStatic 20 = .ok (.iconst 5, 1) := by decide +kernel
theorem dX5_asksStatic_21 : decode cX5_asksStatic 21 = .ok (.if_icmp .ne 7, 3) := by decide +kernel
theorem dX5_asksStatic_24 : decode cX5_asksStatic 24 = .ok (.iconst 1, 1) := by decide +kernel
theorem dX5_asksStatic_25 : decode cX5_asksStatic 25 = .ok (.goto 4, 3) := by decide +kernel
theorem dX5_asksStatic_28 : decode cX5_asksStatic 28 = .ok (.iconst 0, 1) := by decide +kernel
theorem dX5_asksStatic_29 : decode cX5_asksStatic 29 = .ok (.ireturn, 1) := by decide +kernel
def zwX5_asksStatic : List Cond := .code yX5_asksStatic cX5_asksStatic 1 (some .boolean) :: ([.fieldLink RX5 9 "LinkModels$Use" "kind" "I"] ++ wsX50)
set_option maxHeartbeats 4000000 in
set_option maxRecDepth 100000 in
theorem kX5_asksStatic (l : Launch) (dC : Nat → ClassId) (dI : Nat → Nat → Nat) (uh : Nat) (ug : Nat) (cI : ClassId) (cJ : ClassId) (cB : ClassId) (uk : Int32) (uc : Int32) (uo : Int32) (uy : Int32) (uw : Int64) (ut : Int32) (uf : Int32) (uq : Int32) : Met l yX5_asksStatic zwX5_asksStatic ({ frames := 0, cells := 0, slots := 0, locals := 0 }) (zPq dC dI [.ref uh] (uW uh ug cI cJ cB uk uc uo uy uw ut uf uq) [(cI, .int), (cJ, .long), (cB, .byte)]) (vp_Si (fun r => (r = 0 ∨ r = 1))) 0 0 (fun _ => False) := by
  refine Met.ofW (cc := cX5_asksStatic) (maxL := 1) (ret := (some .boolean)) (by decide) rfl ?_
  intro p e s m args below meth c s₁ B hml hv
  obtain ⟨rfl, hP, hK, hE⟩ := hv
  have hx := B.exec
  have hb := B.bytes
  have hr := B.returns
  have hts := atoms_spec (ws := zwX5_asksStatic) B.pre
  have hown : s.vm.findClass RX5 = some m.cls := findClass_of_methodNamed B.named
  have hiX5 : ∀ w ∈ wsX50, w ∈ zwX5_asksStatic := (fun w hw => (List.mem_cons_of_mem _ (List.mem_append_right _ hw)))
  have hl := lv_entry ([.ref uh]) (n := 1) (Nat.le_of_ble_eq_true rfl)
  rw [lg_entry_eq]
  generalize (lg_sl ([.ref uh]) ++ List.replicate (1 - (lg_sl ([.ref uh])).length) Slot.unset).toArray = ls at hl ⊢
  have hl : lv_has ls 1 [(0, .ref uh)] := hl
  refine lv_aload_n hx hb dX5_asksStatic_0 rfl (lv_at hl 0 rfl) ?_
  refine va_get (D := (dC, dI)) (ci := 4) (v := .int uk) (C := RX5) (T := TX5) (N := 5) hx hb hts hiX5 hown hK hP 0 rfl rfl 0 (by decide) (hts (.fieldLink RX5 9 "LinkModels$Use" "kind" "I") (by decide +kernel)) (fun _ h9 => h9) rfl dX5_asksStatic_1 ?_
  refine lv_iconst (v := 2) hx hb dX5_asksStatic_4 (by decide) ?_
  refine lv_icmp_eq (tgt := 24) hx hb dX5_asksStatic_5 (by decide) (fun cp5 => ?_) (fun cp5 => ?_)
  · refine lv_iconst (v := 1) hx hb dX5_asksStatic_24 (by decide) ?_
    refine lv_goto (tgt := 29) hx hb dX5_asksStatic_25 (by decide) ?_
    exact W.zret (v := (1 : Int32)) hx hb hr rfl (fun t ht hW => ⟨(1 : Int32), rfl, (Or.inr rfl), ht⟩) (fun _ h => by cases h) dX5_asksStatic_29
  · refine lv_aload_n hx hb dX5_asksStatic_8 rfl (lv_at hl 0 rfl) ?_
    refine va_get (D := (dC, dI)) (ci := 4) (v := .int uk) (C := RX5) (T := TX5) (N := 5) hx hb hts hiX5 hown hK hP 0 rfl rfl 0 (by decide) (hts (.fieldLink RX5 9 "LinkModels$Use" "kind" "I") (by decide +kernel)) (fun _ h9 => h9) rfl dX5_asksStatic_9 ?_
    refine lv_iconst (v := 3) hx hb dX5_asksStatic_12 (by decide) ?_
    refine lv_icmp_eq (tgt := 24) hx hb dX5_asksStatic_13 (by decide) (fun cp13 => ?_) (fun cp13 => ?_)
    · refine lv_iconst (v := 1) hx hb dX5_asksStatic_24 (by decide) ?_
      refine lv_goto (tgt := 29) hx hb dX5_asksStatic_25 (by decide) ?_
      exact W.zret (v := (1 : Int32)) hx hb hr rfl (fun t ht hW => ⟨(1 : Int32), rfl, (Or.inr rfl), ht⟩) (fun _ h => by cases h) dX5_asksStatic_29
    · refine lv_aload_n hx hb dX5_asksStatic_16 rfl (lv_at hl 0 rfl) ?_
      refine va_get (D := (dC, dI)) (ci := 4) (v := .int uk) (C := RX5) (T := TX5) (N := 5) hx hb hts hiX5 hown hK hP 0 rfl rfl 0 (by decide) (hts (.fieldLink RX5 9 "LinkModels$Use" "kind" "I") (by decide +kernel)) (fun _ h9 => h9) rfl dX5_asksStatic_17 ?_
      refine lv_iconst (v := 5) hx hb dX5_asksStatic_20 (by decide) ?_
      refine lv_icmp_ne (tgt := 28) hx hb dX5_asksStatic_21 (by decide) (fun cp21 => ?_) (fun cp21 => ?_)
      · refine lv_iconst (v := 0) hx hb dX5_asksStatic_28 (by decide) ?_
        exact W.zret (v := (0 : Int32)) hx hb hr rfl (fun t ht hW => ⟨(0 : Int32), rfl, (Or.inl rfl), ht⟩) (fun _ h => by cases h) dX5_asksStatic_29
      · refine lv_iconst (v := 1) hx hb dX5_asksStatic_24 (by decide) ?_
        refine lv_goto (tgt := 29) hx hb dX5_asksStatic_25 (by decide) ?_
        exact W.zret (v := (1 : Int32)) hx hb hr rfl (fun t ht hW => ⟨(1 : Int32), rfl, (Or.inr rfl), ht⟩) (fun _ h => by cases h) dX5_asksStatic_29
