theorem dX3_begin_0 : decode cX3_begin 0 = .ok (.aload_n 0, 1) := by decide +kernel
theorem dX3_begin_1 : decode cX3_begin 1 = .ok (.lload_n 1, 1) := by decide +kernel
theorem dX3_begin_2 : decode cX3_begin 2 = .ok (.putfield 7, 3) := by decide +kernel
theorem dX3_begin_5 : decode cX3_begin 5 = .ok (.aload_n 0, 1) := by decide +kernel
theorem dX3_begin_6 : decode cX3_begin 6 = .ok (.iconst 0, 1) := by decide +kernel
theorem dX3_begin_7 : decode cX3_begin 7 = .ok (.putfield 13, 3) := by decide +kernel
theorem dX3_begin_10 : decode cX3_begin 10 = .ok (.aload_n 0, 1) := by decide +kernel
theorem dX3_begin_11 : decode cX3_begin 11 = .ok (.iconst 0, 1) := by decide +kernel
theorem dX3_begin_12 : decode cX3_begin 12 = .ok (.putfield 17, 3) := by decide +kernel
theorem dX3_begin_15 : decode cX3_begin 15 = .ok (.aload_n 0, 1) := by decide +kernel
theorem dX3_begin_16 : decode cX3_begin 16 = .ok (.iconst 0, 1) := by decide +kernel
theorem dX3_begin_17 : decode cX3_begin 17 = .ok (.putfield 20, 3) := by decide +kernel
theorem dX3_begin_20 : decode cX3_begin 20 = .ok (.return_, 1) := by decide +kernel
def zwX3_begin : List Cond := .code yX3_begin cX3_begin 3 none :: ([.fieldLink RX3 7 "LinkModels$Signature" "word" "J", .fieldLink RX3 13 "LinkModels$Signature" "typeCount" "I", .fieldLink RX3 17 "LinkModels$Signature" "first" "I", .fieldLink RX3 20 "LinkModels$Signature" "second" "I"] ++ wsX30)
set_option maxHeartbeats 4000000 in
set_option maxRecDepth 100000 in
theorem kX3_begin (l : Launch) (dC : Nat → ClassId) (dI : Nat → Nat → Nat) (sg : Nat) (cI : ClassId) (cJ : ClassId) (cB : ClassId) (sw : Int64) (st : Int32) (sf : Int32) (sq : Int32) (wx : Int64) (sz : Nat) : Met l yX3_begin zwX3_begin ({ frames := 0, cells := 0, slots := 0, locals := 0 }) (zPk dC dI [.ref sg, .long wx] sz (sgW sg cI cJ cB sw st sf sq) [(cI, .int), (cJ, .long), (cB, .byte)]) (va_Qv (fun u : Int64 × Int32 × Int32 × Int32 => (True)) (fun u t => zB dC dI (va_A (sgW sg cI cJ cB sw st sf sq) sz) (sgW sg cI cJ cB (u.1) (u.2.1) (u.2.2.1) (u.2.2.2)) [(cI, .int), (cJ, .long), (cB, .byte)] t) (va_A (sgW sg cI cJ cB sw st sf sq) sz)) 0 0 (va_A (sgW sg cI cJ cB sw st sf sq) sz) := by
  refine Met.ofW (cc := cX3_begin) (maxL := 3) (ret := none) (by decide) rfl ?_
  intro p e s m args below meth c s₁ B hml hv
  obtain ⟨rfl, hsz, hP, hK, hD0, hE⟩ := hv
  have hx := B.exec
  have hb := B.bytes
  have hr := B.returns
  have hts := atoms_spec (ws := zwX3_begin) B.pre
  have hown : s.vm.findClass RX3 = some m.cls := findClass_of_methodNamed B.named
  have hiX3 : ∀ w ∈ wsX30, w ∈ zwX3_begin := (fun w hw => (List.mem_cons_of_mem _ (List.mem_append_right _ hw)))
  subst hsz
  have hD := hD0.self (sz := s.heap.size)
  generalize hAe : va_A (sgW sg cI cJ cB sw st sf sq) s.heap.size = A at hD ⊢
  have hA : ∀ q : Nat, s.heap.size ≤ q → A q := fun q h => by rw [← hAe]; exact Or.inr h
  have hS : va_S A s.heap s.heap [] := va_S.rf
  have hl := lv_entry ([.ref sg, .long wx]) (n := 3) (Nat.le_of_ble_eq_true rfl)
  rw [lg_entry_eq]
  generalize (lg_sl ([.ref sg, .long wx]) ++ List.replicate (3 - (lg_sl ([.ref sg, .long wx])).length) Slot.unset).toArray = ls at hl ⊢
  have hl : lv_has ls 3 [(0, .ref sg), (1, .long wx)] := hl
  refine lv_aload_n hx hb dX3_begin_0 rfl (lv_at hl 0 rfl) ?_
  refine lv_lload_n hx hb dX3_begin_1 rfl (lv_at hl 1 rfl) ?_
  refine va_put (D := (dC, dI)) (ci := 2) (v := .long wx) (ty := (.long)) (C := RX3) (T := TX3) (N := 4) hx hb hts hiX3 tyX3 tyX3_ok nmX3 hown hK hP hD hS 0 rfl rfl 0 (by decide) (hts (.fieldLink RX3 7 "LinkModels$Signature" "word" "J") (by decide +kernel)) (fun _ h9 => h9) rfl (by decide +kernel) rfl rfl (Nat.le_of_ble_eq_true rfl) dX3_begin_2 (fun H locs hP hD hS => ?_)
  have hP : va_P (dC, dI) vwCl (sgW sg cI cJ cB wx st sf sq) H := hP
  have hD : va_D A (sgW sg cI cJ cB wx st sf sq) := hD
  refine lv_aload_n hx hb dX3_begin_5 rfl (lv_at hl 0 rfl) ?_
  refine lv_iconst (v := 0) hx hb dX3_begin_6 (by decide) ?_
  refine va_put (D := (dC, dI)) (ci := 2) (v := .int 0) (ty := (.int)) (C := RX3) (T := TX3) (N := 4) hx hb hts hiX3 tyX3 tyX3_ok nmX3 hown hK hP hD hS 0 rfl rfl 1 (by decide) (hts (.fieldLink RX3 13 "LinkModels$Signature" "typeCount" "I") (by decide +kernel)) (fun _ h9 => h9) rfl (by decide +kernel) rfl rfl (Nat.le_of_ble_eq_true rfl) dX3_begin_7 (fun H locs hP hD hS => ?_)
  have hP : va_P (dC, dI) vwCl (sgW sg cI cJ cB wx 0 sf sq) H := hP
  have hD : va_D A (sgW sg cI cJ cB wx 0 sf sq) := hD
  refine lv_aload_n hx hb dX3_begin_10 rfl (lv_at hl 0 rfl) ?_
  refine lv_iconst (v := 0) hx hb dX3_begin_11 (by decide) ?_
  refine va_put (D := (dC, dI)) (ci := 2) (v := .int 0) (ty := (.int)) (C := RX3) (T := TX3) (N := 4) hx hb hts hiX3 tyX3 tyX3_ok nmX3 hown hK hP hD hS 0 rfl rfl 2 (by decide) (hts (.fieldLink RX3 17 "LinkModels$Signature" "first" "I") (by decide +kernel)) (fun _ h9 => h9) rfl (by decide +kernel) rfl rfl (Nat.le_of_ble_eq_true rfl) dX3_begin_12 (fun H locs hP hD hS => ?_)
  have hP : va_P (dC, dI) vwCl (sgW sg cI cJ cB wx 0 0 sq) H := hP
  have hD : va_D A (sgW sg cI cJ cB wx 0 0 sq) := hD
  refine lv_aload_n hx hb dX3_begin_15 rfl (lv_at hl 0 rfl) ?_
  refine lv_iconst (v := 0) hx hb dX3_begin_16 (by decide) ?_
  refine va_put (D := (dC, dI)) (ci := 2) (v := .int 0) (ty := (.int)) (C := RX3) (T := TX3) (N := 4) hx hb hts hiX3 tyX3 tyX3_ok nmX3 hown hK hP hD hS 0 rfl rfl 3 (by decide) (hts (.fieldLink RX3 20 "LinkModels$Signature" "second" "I") (by decide +kernel)) (fun _ h9 => h9) rfl (by decide +kernel) rfl rfl (Nat.le_of_ble_eq_true rfl) dX3_begin_17 (fun H locs hP hD hS => ?_)
  have hP : va_P (dC, dI) vwCl (sgW sg cI cJ cB wx 0 0 0) H := hP
  have hD : va_D A (sgW sg cI cJ cB wx 0 0 0) := hD
  have hP9 : va_P (dC, dI) vwCl (sgW sg cI cJ cB wx 0 0 0) H := hP
  have hD9 : va_D A (sgW sg cI cJ cB wx 0 0 0) := hD
  exact W.vret hx hb hr (fun t ht hW => ⟨⟨(wx, 0, 0, 0), rfl, trivial, by rw [ht]; exact hP9, va_K.moved hW.alike hK, hD9⟩, hS.F ht⟩) hS.2.2 dX3_begin_20
theorem dX3_add_0 : decode cX3_add 0 = .ok (.aload_n 0, 1) := by decide +kernel
theorem dX3_add_1 : decode cX3_add 1 = .ok (.getfield 13, 3) := by decide +kernel
theorem dX3_add_4 : decode cX3_add 4 = .ok (.ifCond .ne 11, 3) := by decide +kernel
theorem dX3_add_7 : decode cX3_add 7 = .ok (.aload_n 0, 1) := by decide +kernel
theorem dX3_add_8 : decode cX3_add 8 = .ok (.iload_n 1, 1) := by decide +kernel
theorem dX3_add_9 : decode cX3_add 9 = .ok (.putfield 17, 3) := by decide +kernel
theorem dX3_add_12 : decode cX3_add 12 = .ok (.goto 8, 3) := by decide +kernel
theorem dX3_add_15 : decode cX3_add 15 = .ok (.aload_n 0, 1) := by decide +kernel
theorem dX3_add_16 : decode cX3_add 16 = .ok (.iload_n 1, 1) := by decide +kernel
theorem dX3_add_17 : decode cX3_add 17 = .ok (.putfield 20, 3) := by decide +kernel
theorem dX3_add_20 : decode cX3_add 20 = .ok (.aload_n 0, 1) := by decide +kernel
theorem dX3_add_21 : decode cX3_add 21 = .ok (.dup, 1) := by decide +kernel
theorem dX3_add_22 : decode cX3_add 22 = .ok (.getfield 13, 3) := by decide +kernel
theorem dX3_add_25 : decode cX3_add 25 = .ok (.iconst 1, 1) := by decide +kernel
theorem dX3_add_26 : decode cX3_add 26 = .ok (.iadd, 1) := by decide +kernel
theorem dX3_add_27 : decode cX3_add 27 = .ok (.putfield 13, 3) := by decide +kernel
theorem dX3_add_30 : decode cX3_add 30 = .ok (.return_, 1) := by decide +kernel
def zwX3_add : List Cond := .code yX3_add cX3_add 2 none :: ([.fieldLink RX3 13 "LinkModels$Signature" "typeCount" "I", .fieldLink RX3 20 "LinkModels$Signature" "second" "I", .fieldLink RX3 17 "LinkModels$Signature" "first" "I"] ++ wsX30)
set_option maxHeartbeats 4000000 in
set_option maxRecDepth 100000 in
theorem kX3_add (l : Launch) (dC : Nat → ClassId) (dI : Nat → Nat → Nat) (sg : Nat) (cI : ClassId) (cJ : ClassId) (cB : ClassId) (sw : Int64) (st : Int32) (sf : Int32) (sq : Int32) (ty : Int32) (sz : Nat) : Met l yX3_add zwX3_add ({ frames := 0, cells := 0, slots := 0, locals := 0 }) (zPk dC dI [.ref sg, .int ty] sz (sgW sg cI cJ cB sw st sf sq) [(cI, .int), (cJ, .long), (cB, .byte)]) (va_Qv (fun u : Int32 × Int32 × Int32 => (True)) (fun u t => zB dC dI (va_A (sgW sg cI cJ cB sw st sf sq) sz) (sgW sg cI cJ cB sw (u.1) (u.2.1) (u.2.2)) [(cI, .int), (cJ, .long), (cB, .byte)] t) (va_A (sgW sg cI cJ cB sw st sf sq) sz)) 0 0 (va_A (sgW sg cI cJ cB sw st sf sq) sz) := by
  refine Met.ofW (cc := cX3_add) (maxL := 2) (ret := none) (by decide) rfl ?_
  intro p e s m args below meth c s₁ B hml hv
  obtain ⟨rfl, hsz, hP, hK, hD0, hE⟩ := hv
  have hx := B.exec
  have hb := B.bytes
  have hr := B.returns
  have hts := atoms_spec (ws := zwX3_add) B.pre
  have hown : s.vm.findClass RX3 = some m.cls := findClass_of_methodNamed B.named
  have hiX3 : ∀ w ∈ wsX30, w ∈ zwX3_add := (fun w hw => (List.mem_cons_of_mem _ (List.mem_append_right _ hw)))
  subst hsz
  have hD := hD0.self (sz := s.heap.size)
  generalize hAe : va_A (sgW sg cI cJ cB sw st sf sq) s.heap.size = A at hD ⊢
  have hA : ∀ q : Nat, s.heap.size ≤ q → A q := fun q h => by rw [← hAe]; exact Or.inr h
  have hS : va_S A s.heap s.heap [] := va_S.rf
  have hl := lv_entry ([.ref sg, .int ty]) (n := 2) (Nat.le_of_ble_eq_true rfl)
  rw [lg_entry_eq]
  generalize (lg_sl ([.ref sg, .int ty]) ++ List.replicate (2 - (lg_sl ([.ref sg, .int ty])).length) Slot.unset).toArray = ls at hl ⊢
  have hl : lv_has ls 2 [(0, .ref sg), (1, .int ty)] := hl
  refine lv_aload_n hx hb dX3_add_0 rfl (lv_at hl 0 rfl) ?_
  refine va_get (D := (dC, dI)) (ci := 2) (v := .int st) (C := RX3) (T := TX3) (N := 4) hx hb hts hiX3 hown hK hP 0 rfl rfl 1 (by decide) (hts (.fieldLink RX3 13 "LinkModels$Signature" "typeCount" "I") (by decide +kernel)) (fun _ h9 => h9) rfl dX3_add_1 ?_
  refine lv_if_ne (tgt := 15) hx hb dX3_add_4 (by decide) (fun cp4 => ?_) (fun cp4 => ?_)
  · refine lv_aload_n hx hb dX3_add_15 rfl (lv_at hl 0 rfl) ?_
    refine lv_iload_n hx hb dX3_add_16 rfl (lv_at hl 1 rfl) ?_
    refine va_put (D := (dC, dI)) (ci := 2) (v := .int ty) (ty := (.int)) (C := RX3) (T := TX3) (N := 4) hx hb hts hiX3 tyX3 tyX3_ok nmX3 hown hK hP hD hS 0 rfl rfl 3 (by decide) (hts (.fieldLink RX3 20 "LinkModels$Signature" "second" "I") (by decide +kernel)) (fun _ h9 => h9) rfl (by decide +kernel) rfl rfl (Nat.le_of_ble_eq_true rfl) dX3_add_17 (fun H locs hP hD hS => ?_)
    have hP : va_P (dC, dI) vwCl (sgW sg cI cJ cB sw st sf ty) H := hP
    have hD : va_D A (sgW sg cI cJ cB sw st sf ty) := hD
    refine lv_aload_n hx hb dX3_add_20 rfl (lv_at hl 0 rfl) ?_
    refine lv_dup hx hb dX3_add_21 rfl ?_
    refine va_get (D := (dC, dI)) (ci := 2) (v := .int st) (C := RX3) (T := TX3) (N := 4) hx hb hts hiX3 hown hK hP 0 rfl rfl 1 (by decide) (hts (.fieldLink RX3 13 "LinkModels$Signature" "typeCount" "I") (by decide +kernel)) (fun _ h9 => h9) rfl dX3_add_22 ?_
    refine lv_iconst (v := 1) hx hb dX3_add_25 (by decide) ?_
    refine lv_iadd hx hb dX3_add_26 ?_
    refine lv_topi (fun x1 ex1 => ?_)
    refine va_put (D := (dC, dI)) (ci := 2) (v := .int x1) (ty := (.int)) (C := RX3) (T := TX3) (N := 4) hx hb hts hiX3 tyX3 tyX3_ok nmX3 hown hK hP hD hS 0 rfl rfl 1 (by decide) (hts (.fieldLink RX3 13 "LinkModels$Signature" "typeCount" "I") (by decide +kernel)) (fun _ h9 => h9) rfl (by decide +kernel) rfl rfl (Nat.le_of_ble_eq_true rfl) dX3_add_27 (fun H locs hP hD hS => ?_)
    have hP : va_P (dC, dI) vwCl (sgW sg cI cJ cB sw x1 sf ty) H := hP
    have hD : va_D A (sgW sg cI cJ cB sw x1 sf ty) := hD
    have hP9 : va_P (dC, dI) vwCl (sgW sg cI cJ cB sw x1 sf ty) H := hP
    have hD9 : va_D A (sgW sg cI cJ cB sw x1 sf ty) := hD
    exact W.vret hx hb hr (fun t ht hW => ⟨⟨(x1, sf, ty), rfl, trivial, by rw [ht]; exact hP9, va_K.moved hW.alike hK, hD9⟩, hS.F ht⟩) hS.2.2 dX3_add_30
  · refine lv_aload_n hx hb dX3_add_7 rfl (lv_at hl 0 rfl) ?_
    refine lv_iload_n hx hb dX3_add_8 rfl (lv_at hl 1 rfl) ?_
    refine va_put (D := (dC, dI)) (ci := 2) (v := .int ty) (ty := (.int)) (C := RX3) (T := TX3) (N := 4) hx hb hts hiX3 tyX3 tyX3_ok nmX3 hown hK hP hD hS 0 rfl rfl 2 (by decide) (hts (.fieldLink RX3 17 "LinkModels$Signature" "first" "I") (by decide +kernel)) (fun _ h9 => h9) rfl (by decide +kernel) rfl rfl (Nat.le_of_ble_eq_true rfl) dX3_add_9 (fun H locs hP hD hS => ?_)
    have hP : va_P (dC, dI) vwCl (sgW sg cI cJ cB sw st ty sq) H := hP
    have hD : va_D A (sgW sg cI cJ cB sw st ty sq) := hD
    refine lv_goto (tgt := 20) hx hb dX3_add_12 (by decide) ?_
    refine lv_aload_n hx hb dX3_add_20 rfl (lv_at hl 0 rfl) ?_
    refine lv_dup hx hb dX3_add_21 rfl ?_
    refine va_get (D := (dC, dI)) (ci := 2) (v := .int st) (C := RX3) (T := TX3) (N := 4) hx hb hts hiX3 hown hK hP 0 rfl rfl 1 (by decide) (hts (.fieldLink RX3 13 "LinkModels$Signature" "typeCount" "I") (by decide +kernel)) (fun _ h9 => h9) rfl dX3_add_22 ?_
    refine lv_iconst (v := 1) hx hb dX3_add_25 (by decide) ?_
    refine lv_iadd hx hb dX3_add_26 ?_
    refine lv_topi (fun x2 ex2 => ?_)
    refine va_put (D := (dC, dI)) (ci := 2) (v := .int x2) (ty := (.int)) (C := RX3) (T := TX3) (N := 4) hx hb hts hiX3 tyX3 tyX3_ok nmX3 hown hK hP hD hS 0 rfl rfl 1 (by decide) (hts (.fieldLink RX3 13 "LinkModels$Signature" "typeCount" "I") (by decide +kernel)) (fun _ h9 => h9) rfl (by decide +kernel) rfl rfl (Nat.le_of_ble_eq_true rfl) dX3_add_27 (fun H locs hP hD hS => ?_)
    have hP : va_P (dC, dI) vwCl (sgW sg cI cJ cB sw x2 ty sq) H := hP
    have hD : va_D A (sgW sg cI cJ cB sw x2 ty sq) := hD
    have hP9 : va_P (dC, dI) vwCl (sgW sg cI cJ cB sw x2 ty sq) H := hP
    have hD9 : va_D A (sgW sg cI cJ cB sw x2 ty sq) := hD
    exact W.vret hx hb hr (fun t ht hW => ⟨⟨(x2, ty, sq), rfl, trivial, by rw [ht]; exact hP9, va_K.moved hW.alike hK, hD9⟩, hS.F ht⟩) hS.2.2 dX3_add_30
theorem dX0_addClass_0 : decode cX0_addClass 0 = .ok (.aload_n 0, 1) := by decide +kernel
theorem dX0_addClass_1 : decode cX0_addClass 1 = .ok (.getfield 11, 3) := by decide +kernel
theorem dX0_addClass_4 : decode cX0_addClass 4 = .ok (.aload_n 0, 1) := by decide +kernel
theorem dX0_addClass_5 : decode cX0_addClass 5 = .ok (.getfield 61, 3) := by decide +kernel
theorem dX0_addClass_8 : decode cX0_addClass 8 = .ok (.iload_n 1, 1) := by decide +kernel
theorem dX0_addClass_9 : decode cX0_addClass 9 = .ok (.iastore, 1) := by decide +kernel
theorem dX0_addClass_10 : decode cX0_addClass 10 = .ok (.aload_n 0, 1) := by decide +kernel
theorem dX0_addClass_11 : decode cX0_addClass 11 = .ok (.getfield 15, 3) := by decide +kernel
theorem dX0_addClass_14 : decode cX0_addClass 14 = .ok (.aload_n 0, 1) := by decide +kernel
theorem dX0_addClass_15 : decode cX0_addClass 15 = .ok (.getfield 61, 3) := by decide +kernel
theorem dX0_addClass_18 : decode cX0_addClass 18 = .ok (.iload_n 2, 1) := by decide +kernel
theorem dX0_addClass_19 : decode cX0_addClass 19 = .ok (.iastore, 1) := by decide +kernel
theorem dX0_addClass_20 : decode cX0_addClass 20 = .ok (.aload_n 0, 1) := by decide +kernel
theorem dX0_addClass_21 : decode cX0_addClass 21 = .ok (.getfield 18, 3) := by decide +kernel
theorem dX0_addClass_24 : decode cX0_addClass 24 = .ok (.aload_n 0, 1) := by decide +kernel
theorem dX0_addClass_25 : decode cX0_addClass 25 = .ok (.getfield 61, 3) := by decide +kernel
theorem dX0_addClass_28 : decode cX0_addClass 28 = .ok (.iconst 0, 1) := by decide +kernel
theorem dX0_addClass_29 : decode cX0_addClass 29 = .ok (.iastore, 1) := by decide +kernel
theorem dX0_addClass_30 : decode cX0_addClass 30 = .ok (.aload_n 0, 1) := by decide +kernel
theorem dX0_addClass_31 : decode cX0_addClass 31 = .ok (.getfield 21, 3) := by decide +kernel
theorem dX0_addClass_34 : decode cX0_addClass 34 = .ok (.aload_n 0, 1) := by decide +kernel
theorem dX0_addClass_35 : decode cX0_addClass 35 = .ok (.getfield 61, 3) := by decide +kernel
theorem dX0_addClass_38 : decode cX0_addClass 38 = .ok (.iconst 0, 1) := by decide +kernel
theorem dX0_addClass_39 : decode cX0_addClass 39 = .ok (.iastore, 1) := by decide +kernel
theorem dX0_addClass_40 : decode cX0_addClass 40 = .ok (.aload_n 0, 1) := by decide +kernel
theorem dX0_addClass_41 : decode cX0_addClass 41 = .ok (.getfield 27, 3) := by decide +kernel
theorem dX0_addClass_44 : decode cX0_addClass 44 = .ok (.aload_n 0, 1) := by decide +kernel
theorem dX0_addClass_45 : decode cX0_addClass 45 = .ok (.getfield 61, 3) := by decide +kernel
theorem dX0_addClass_48 : decode cX0_addClass 48 = .ok (.iconst 0, 1) := by decide +kernel
theorem dX0_addClass_49 : decode cX0_addClass 49 = .ok (.iastore, 1) := by decide +kernel
theorem dX0_addClass_50 : decode cX0_addClass 50 = .ok (.aload_n 0, 1) := by decide +kernel
theorem dX0_addClass_51 : decode cX0_addClass 51 = .ok (.dup, 1) := by decide +kernel
theorem dX0_addClass_52 : decode cX0_addClass 52 = .ok (.getfield 61, 3) := by decide +kernel
theorem dX0_addClass_55 : decode cX0_addClass 55 = .ok (.iconst 1, 1) := by decide +kernel
theorem dX0_addClass_56 : decode cX0_addClass 56 = .ok (.iadd, 1) := by decide +kernel
theorem dX0_addClass_57 : decode cX0_addClass 57 = .ok (.putfield 61, 3) := by decide +kernel
theorem dX0_addClass_60 : decode cX0_addClass 60 = .ok (.return_, 1) := by decide +kernel
def zwX0_addClass : List Cond := .code yX0_addClass cX0_addClass 3 none :: ([.fieldLink RX0 11 "LinkModels$Build" "names" "[I", .fieldLink RX0 61 "LinkModels$Build" "classCount" "I", .fieldLink RX0 15 "LinkModels$Build" "classMarks" "[I", .fieldLink RX0 18 "LinkModels$Build" "aboveNames" "[I", .fieldLink RX0 21 "LinkModels$Build" "faceCounts" "[I", .fieldLink RX0 27 "LinkModels$Build" "memberCounts" "[I"] ++ wsX00)
set_option maxHeartbeats 4000000 in
set_option maxRecDepth 100000 in
theorem kX0_addClass (l : Launch) (dC : Nat → ClassId) (dI : Nat → Nat → Nat) (bh : Nat) (br : Nat → Nat) (rh : Nat) (th : Nat) (tb : Nat) (sh : Nat) (cI : ClassId) (cJ : ClassId) (cB : ClassId) (cc : Nat) (nA : Nat → Int32) (mA : Nat → Int32) (aA : Nat → Int32) (fcA : Nat → Nat) (fA : Nat → Int32) (mcA : Nat → Nat) (mmA : Nat → Int32) (wA : Nat → Int64) (tcA : Nat → Int32) (g1A : Nat → Int32) (g2A : Nat → Int32) (nuA : Nat → Int32) (erA : Nat → Nat) (reA : Nat → Int32) (liA : Nat → Nat) (lcA : Nat → Nat) (rm : Int32) (ry : Int32) (rf : Int32) (tl : Nat) (ta : Nat) (ts : Int32) (so : Int32) (tv : Int64) (tpA : Nat → Int32) (sw : Int64) (st : Int32) (sf : Int32) (sq : Int32) (hI : kWI cc fcA mcA erA liA lcA tl ta) (nm : Int32) (mk : Int32) (hp0 : cc ≤ 15) (sz : Nat) : Met l yX0_addClass zwX0_addClass ({ frames := 0, cells := 0, slots := 0, locals := 0 }) (zPk dC dI [.ref bh, .int nm, .int mk] sz (kW bh br rh th tb sh cI cJ cB (nI cc) nA mA aA (fun j => nI (fcA j)) fA (fun j => nI (mcA j)) mmA wA tcA g1A g2A nuA (fun j => nI (erA j)) reA (fun j => nI (liA j)) (fun j => nI (lcA j)) rm ry rf (nI tl) (nI ta) ts so tv tpA sw st sf sq) [(cI, .int), (cJ, .long), (cB, .byte)]) (va_Qv (fun u : Nat × (Nat → Int32) × (Nat → Int32) × (Nat → Int32) × (Nat → Nat) × (Nat → Nat) => ((u.1) = cc + 1) ∧ ((u.2.2.2.2.1) ((u.1) - 1) = 0) ∧ (∀ j, (u.2.2.2.2.1) j ≤ 3) ∧ (∀ j, (u.2.2.2.2.2) j ≤ 12)) (fun u t => zB dC dI (va_A (kW bh br rh th tb sh cI cJ cB (nI cc) nA mA aA (fun j => nI (fcA j)) fA (fun j => nI (mcA j)) mmA wA tcA g1A g2A nuA (fun j => nI (erA j)) reA (fun j => nI (liA j)) (fun j => nI (lcA j)) rm ry rf (nI tl) (nI ta) ts so tv tpA sw st sf sq) sz) (kW bh br rh th tb sh cI cJ cB (nI (u.1)) (u.2.1) (u.2.2.1) (u.2.2.2.1) (fun j => nI ((u.2.2.2.2.1) j)) fA (fun j => nI ((u.2.2.2.2.2) j)) mmA wA tcA g1A g2A nuA (fun j => nI (erA j)) reA (fun j => nI (liA j)) (fun j => nI (lcA j)) rm ry rf (nI tl) (nI ta) ts so tv tpA sw st sf sq) [(cI, .int), (cJ, .long), (cB, .byte)] t) (va_A (kW bh br rh th tb sh cI cJ cB (nI cc) nA mA aA (fun j => nI (fcA j)) fA (fun j => nI (mcA j)) mmA wA tcA g1A g2A nuA (fun j => nI (erA j)) reA (fun j => nI (liA j)) (fun j => nI (lcA j)) rm ry rf (nI tl) (nI ta) ts so tv tpA sw st sf sq) sz)) 0 0 (va_A (kW bh br rh th tb sh cI cJ cB (nI cc) nA mA aA (fun j => nI (fcA j)) fA (fun j => nI (mcA j)) mmA wA tcA g1A g2A nuA (fun j => nI (erA j)) reA (fun j => nI (liA j)) (fun j => nI (lcA j)) rm ry rf (nI tl) (nI ta) ts so tv tpA sw st sf sq) sz) := by
  refine Met.ofW (cc := cX0_addClass) (maxL := 3) (ret := none) (by decide) rfl ?_
  intro p e s m args below meth c s₁ B hml hv
  obtain ⟨rfl, hsz, hP, hK, hD0, hE⟩ := hv
  have hx := B.exec
  have hb := B.bytes
  have hr := B.returns
  have hts := atoms_spec (ws := zwX0_addClass) B.pre
  have hown : s.vm.findClass RX0 = some m.cls := findClass_of_methodNamed B.named
  have hiX0 : ∀ w ∈ wsX00, w ∈ zwX0_addClass := (fun w hw => (List.mem_cons_of_mem _ (List.mem_append_right _ hw)))
  obtain ⟨hcc, htl, hta, hfcA, hmcA, herA, hliA, hlcA⟩ := hI
  subst hsz
  have hD := hD0.self (sz := s.heap.size)
  generalize hAe : va_A (kW bh br rh th tb sh cI cJ cB (nI cc) nA mA aA (fun j => nI (fcA j)) fA (fun j => nI (mcA j)) mmA wA tcA g1A g2A nuA (fun j => nI (erA j)) reA (fun j => nI (liA j)) (fun j => nI (lcA j)) rm ry rf (nI tl) (nI ta) ts so tv tpA sw st sf sq) s.heap.size = A at hD ⊢
  have hA : ∀ q : Nat, s.heap.size ≤ q → A q := fun q h => by rw [← hAe]; exact Or.inr h
  have hS : va_S A s.heap s.heap [] := va_S.rf
  have hl := lv_entry ([.ref bh, .int nm, .int mk]) (n := 3) (Nat.le_of_ble_eq_true rfl)
  rw [lg_entry_eq]
  generalize (lg_sl ([.ref bh, .int nm, .int mk]) ++ List.replicate (3 - (lg_sl ([.ref bh, .int nm, .int mk])).length) Slot.unset).toArray = ls at hl ⊢
  have hl : lv_has ls 3 [(0, .ref bh), (1, .int nm), (2, .int mk)] := hl
  refine lv_aload_n hx hb dX0_addClass_0 rfl (lv_at hl 0 rfl) ?_
  refine va_get (D := (dC, dI)) (ci := 0) (v := .ref (br 1)) (C := RX0) (T := TX0) (N := 17) hx hb hts hiX0 hown hK hP 0 rfl rfl 1 (by decide) (hts (.fieldLink RX0 11 "LinkModels$Build" "names" "[I") (by decide +kernel)) (fun _ h9 => h9) rfl dX0_addClass_1 ?_
  refine lv_aload_n hx hb dX0_addClass_4 rfl (lv_at hl 0 rfl) ?_
  refine va_get (D := (dC, dI)) (ci := 0) (v := .int (nI cc)) (C := RX0) (T := TX0) (N := 17) hx hb hts hiX0 hown hK hP 0 rfl rfl 0 (by decide) (hts (.fieldLink RX0 61 "LinkModels$Build" "classCount" "I") (by decide +kernel)) (fun _ h9 => h9) rfl dX0_addClass_5 ?_
  refine lv_iload_n hx hb dX0_addClass_8 rfl (lv_at hl 1 rfl) ?_
  refine va_iast hx hb hK hP hD hS 1 0 rfl rfl (vp_in_nI (show cc < 16 by omega) (by decide)) dX0_addClass_9 (fun H locs hP hD hS => ?_)
  obtain ⟨f1, hP, hD⟩ : ∃ g : Nat → Int32, va_P (dC, dI) vwCl (kW bh br rh th tb sh cI cJ cB (nI cc) g mA aA (fun j => nI (fcA j)) fA (fun j => nI (mcA j)) mmA wA tcA g1A g2A nuA (fun j => nI (erA j)) reA (fun j => nI (liA j)) (fun j => nI (lcA j)) rm ry rf (nI tl) (nI ta) ts so tv tpA sw st sf sq) H ∧ va_D A (kW bh br rh th tb sh cI cJ cB (nI cc) g mA aA (fun j => nI (fcA j)) fA (fun j => nI (mcA j)) mmA wA tcA g1A g2A nuA (fun j => nI (erA j)) reA (fun j => nI (liA j)) (fun j => nI (lcA j)) rm ry rf (nI tl) (nI ta) ts so tv tpA sw st sf sq) := ⟨_, hP, hD⟩
  refine lv_aload_n hx hb dX0_addClass_10 rfl (lv_at hl 0 rfl) ?_
  refine va_get (D := (dC, dI)) (ci := 0) (v := .ref (br 2)) (C := RX0) (T := TX0) (N := 17) hx hb hts hiX0 hown hK hP 0 rfl rfl 2 (by decide) (hts (.fieldLink RX0 15 "LinkModels$Build" "classMarks" "[I") (by decide +kernel)) (fun _ h9 => h9) rfl dX0_addClass_11 ?_
  refine lv_aload_n hx hb dX0_addClass_14 rfl (lv_at hl 0 rfl) ?_
  refine va_get (D := (dC, dI)) (ci := 0) (v := .int (nI cc)) (C := RX0) (T := TX0) (N := 17) hx hb hts hiX0 hown hK hP 0 rfl rfl 0 (by decide) (hts (.fieldLink RX0 61 "LinkModels$Build" "classCount" "I") (by decide +kernel)) (fun _ h9 => h9) rfl dX0_addClass_15 ?_
  refine lv_iload_n hx hb dX0_addClass_18 rfl (lv_at hl 2 rfl) ?_
  refine va_iast hx hb hK hP hD hS 2 0 rfl rfl (vp_in_nI (show cc < 16 by omega) (by decide)) dX0_addClass_19 (fun H locs hP hD hS => ?_)
  obtain ⟨f2, hP, hD⟩ : ∃ g : Nat → Int32, va_P (dC, dI) vwCl (kW bh br rh th tb sh cI cJ cB (nI cc) f1 g aA (fun j => nI (fcA j)) fA (fun j => nI (mcA j)) mmA wA tcA g1A g2A nuA (fun j => nI (erA j)) reA (fun j => nI (liA j)) (fun j => nI (lcA j)) rm ry rf (nI tl) (nI ta) ts so tv tpA sw st sf sq) H ∧ va_D A (kW bh br rh th tb sh cI cJ cB (nI cc) f1 g aA (fun j => nI (fcA j)) fA (fun j => nI (mcA j)) mmA wA tcA g1A g2A nuA (fun j => nI (erA j)) reA (fun j => nI (liA j)) (fun j => nI (lcA j)) rm ry rf (nI tl) (nI ta) ts so tv tpA sw st sf sq) := ⟨_, hP, hD⟩
  refine lv_aload_n hx hb dX0_addClass_20 rfl (lv_at hl 0 rfl) ?_
  refine va_get (D := (dC, dI)) (ci := 0) (v := .ref (br 3)) (C := RX0) (T := TX0) (N := 17) hx hb hts hiX0 hown hK hP 0 rfl rfl 3 (by decide) (hts (.fieldLink RX0 18 "LinkModels$Build" "aboveNames" "[I") (by decide +kernel)) (fun _ h9 => h9) rfl dX0_addClass_21 ?_
  refine lv_aload_n hx hb dX0_addClass_24 rfl (lv_at hl 0 rfl) ?_
  refine va_get (D := (dC, dI)) (ci := 0) (v := .int (nI cc)) (C := RX0) (T := TX0) (N := 17) hx hb hts hiX0 hown hK hP 0 rfl rfl 0 (by decide) (hts (.fieldLink RX0 61 "LinkModels$Build" "classCount" "I") (by decide +kernel)) (fun _ h9 => h9) rfl dX0_addClass_25 ?_
  refine lv_iconst (v := 0) hx hb dX0_addClass_28 (by decide) ?_
  refine va_iast hx hb hK hP hD hS 3 0 rfl rfl (vp_in_nI (show cc < 16 by omega) (by decide)) dX0_addClass_29 (fun H locs hP hD hS => ?_)
  obtain ⟨f3, hP, hD⟩ : ∃ g : Nat → Int32, va_P (dC, dI) vwCl (kW bh br rh th tb sh cI cJ cB (nI cc) f1 f2 g (fun j => nI (fcA j)) fA (fun j => nI (mcA j)) mmA wA tcA g1A g2A nuA (fun j => nI (erA j)) reA (fun j => nI (liA j)) (fun j => nI (lcA j)) rm ry rf (nI tl) (nI ta) ts so tv tpA sw st sf sq) H ∧ va_D A (kW bh br rh th tb sh cI cJ cB (nI cc) f1 f2 g (fun j => nI (fcA j)) fA (fun j => nI (mcA j)) mmA wA tcA g1A g2A nuA (fun j => nI (erA j)) reA (fun j => nI (liA j)) (fun j => nI (lcA j)) rm ry rf (nI tl) (nI ta) ts so tv tpA sw st sf sq) := ⟨_, hP, hD⟩
  refine lv_aload_n hx hb dX0_addClass_30 rfl (lv_at hl 0 rfl) ?_
  refine va_get (D := (dC, dI)) (ci := 0) (v := .ref (br 4)) (C := RX0) (T := TX0) (N := 17) hx hb hts hiX0 hown hK hP 0 rfl rfl 4 (by decide) (hts (.fieldLink RX0 21 "LinkModels$Build" "faceCounts" "[I") (by decide +kernel)) (fun _ h9 => h9) rfl dX0_addClass_31 ?_
  refine lv_aload_n hx hb dX0_addClass_34 rfl (lv_at hl 0 rfl) ?_
  refine va_get (D := (dC, dI)) (ci := 0) (v := .int (nI cc)) (C := RX0) (T := TX0) (N := 17) hx hb hts hiX0 hown hK hP 0 rfl rfl 0 (by decide) (hts (.fieldLink RX0 61 "LinkModels$Build" "classCount" "I") (by decide +kernel)) (fun _ h9 => h9) rfl dX0_addClass_35 ?_
  refine lv_iconst (v := 0) hx hb dX0_addClass_38 (by decide) ?_
  refine va_iast hx hb hK hP hD hS 4 0 rfl rfl (vp_in_nI (show cc < 16 by omega) (by decide)) dX0_addClass_39 (fun H locs hP hD hS => ?_)
  obtain ⟨f4, ef4⟩ : ∃ g, g = z_up fcA cc 0 := ⟨_, rfl⟩
  have hP : va_P (dC, dI) vwCl (kW bh br rh th tb sh cI cJ cB (nI cc) f1 f2 f3 (fun j => nI (f4 j)) fA (fun j => nI (mcA j)) mmA wA tcA g1A g2A nuA (fun j => nI (erA j)) reA (fun j => nI (liA j)) (fun j => nI (lcA j)) rm ry rf (nI tl) (nI ta) ts so tv tpA sw st sf sq) H := by rw [ef4, ← z_upd (show cc < 2 ^ 31 by omega)]; exact hP
  have hD : va_D A (kW bh br rh th tb sh cI cJ cB (nI cc) f1 f2 f3 (fun j => nI (f4 j)) fA (fun j => nI (mcA j)) mmA wA tcA g1A g2A nuA (fun j => nI (erA j)) reA (fun j => nI (liA j)) (fun j => nI (lcA j)) rm ry rf (nI tl) (nI ta) ts so tv tpA sw st sf sq) := by rw [ef4, ← z_upd (show cc < 2 ^ 31 by omega)]; exact hD
  have hbf4 : ∀ j, f4 j ≤ 3 := by rw [ef4]; exact z_upb hfcA (by omega)
  refine lv_aload_n hx hb dX0_addClass_40 rfl (lv_at hl 0 rfl) ?_
  refine va_get (D := (dC, dI)) (ci := 0) (v := .ref (br 6)) (C := RX0) (T := TX0) (N := 17) hx hb hts hiX0 hown hK hP 0 rfl rfl 6 (by decide) (hts (.fieldLink RX0 27 "LinkModels$Build" "memberCounts" "[I") (by decide +kernel)) (fun _ h9 => h9) rfl dX0_addClass_41 ?_
  refine lv_aload_n hx hb dX0_addClass_44 rfl (lv_at hl 0 rfl) ?_
  refine va_get (D := (dC, dI)) (ci := 0) (v := .int (nI cc)) (C := RX0) (T := TX0) (N := 17) hx hb hts hiX0 hown hK hP 0 rfl rfl 0 (by decide) (hts (.fieldLink RX0 61 "LinkModels$Build" "classCount" "I") (by decide +kernel)) (fun _ h9 => h9) rfl dX0_addClass_45 ?_
  refine lv_iconst (v := 0) hx hb dX0_addClass_48 (by decide) ?_
  refine va_iast hx hb hK hP hD hS 6 0 rfl rfl (vp_in_nI (show cc < 16 by omega) (by decide)) dX0_addClass_49 (fun H locs hP hD hS => ?_)
  obtain ⟨f5, ef5⟩ : ∃ g, g = z_up mcA cc 0 := ⟨_, rfl⟩
  have hP : va_P (dC, dI) vwCl (kW bh br rh th tb sh cI cJ cB (nI cc) f1 f2 f3 (fun j => nI (f4 j)) fA (fun j => nI (f5 j)) mmA wA tcA g1A g2A nuA (fun j => nI (erA j)) reA (fun j => nI (liA j)) (fun j => nI (lcA j)) rm ry rf (nI tl) (nI ta) ts so tv tpA sw st sf sq) H := by rw [ef5, ← z_upd (show cc < 2 ^ 31 by omega)]; exact hP
  have hD : va_D A (kW bh br rh th tb sh cI cJ cB (nI cc) f1 f2 f3 (fun j => nI (f4 j)) fA (fun j => nI (f5 j)) mmA wA tcA g1A g2A nuA (fun j => nI (erA j)) reA (fun j => nI (liA j)) (fun j => nI (lcA j)) rm ry rf (nI tl) (nI ta) ts so tv tpA sw st sf sq) := by rw [ef5, ← z_upd (show cc < 2 ^ 31 by omega)]; exact hD
  have hbf5 : ∀ j, f5 j ≤ 12 := by rw [ef5]; exact z_upb hmcA (by omega)
  refine lv_aload_n hx hb dX0_addClass_50 rfl (lv_at hl 0 rfl) ?_
  refine lv_dup hx hb dX0_addClass_51 rfl ?_
  refine va_get (D := (dC, dI)) (ci := 0) (v := .int (nI cc)) (C := RX0) (T := TX0) (N := 17) hx hb hts hiX0 hown hK hP 0 rfl rfl 0 (by decide) (hts (.fieldLink RX0 61 "LinkModels$Build" "classCount" "I") (by decide +kernel)) (fun _ h9 => h9) rfl dX0_addClass_52 ?_
  refine lv_iconst (v := 1) hx hb dX0_addClass_55 (by decide) ?_
  refine lv_iadd hx hb dX0_addClass_56 ?_
  refine lv_topi (fun x6 ex6 => ?_)
  obtain rfl : x6 = nI (cc + 1) := by rw [ex6]; exact nI_add (cc) (1)
  refine va_put (D := (dC, dI)) (ci := 0) (v := .int (nI (cc + 1))) (ty := (.int)) (C := RX0) (T := TX0) (N := 17) hx hb hts hiX0 tyX0 tyX0_ok nmX0 hown hK hP hD hS 0 rfl rfl 0 (by decide) (hts (.fieldLink RX0 61 "LinkModels$Build" "classCount" "I") (by decide +kernel)) (fun _ h9 => h9) rfl (by decide +kernel) rfl rfl (Nat.le_of_ble_eq_true rfl) dX0_addClass_57 (fun H locs hP hD hS => ?_)
  have hP : va_P (dC, dI) vwCl (kW bh br rh th tb sh cI cJ cB (nI (cc + 1)) f1 f2 f3 (fun j => nI (f4 j)) fA (fun j => nI (f5 j)) mmA wA tcA g1A g2A nuA (fun j => nI (erA j)) reA (fun j => nI (liA j)) (fun j => nI (lcA j)) rm ry rf (nI tl) (nI ta) ts so tv tpA sw st sf sq) H := hP
  have hD : va_D A (kW bh br rh th tb sh cI cJ cB (nI (cc + 1)) f1 f2 f3 (fun j => nI (f4 j)) fA (fun j => nI (f5 j)) mmA wA tcA g1A g2A nuA (fun j => nI (erA j)) reA (fun j => nI (liA j)) (fun j => nI (lcA j)) rm ry rf (nI tl) (nI ta) ts so tv tpA sw st sf sq) := hD
  have hP9 : va_P (dC, dI) vwCl (kW bh br rh th tb sh cI cJ cB (nI (cc + 1)) f1 f2 f3 (fun j => nI (f4 j)) fA (fun j => nI (f5 j)) mmA wA tcA g1A g2A nuA (fun j => nI (erA j)) reA (fun j => nI (liA j)) (fun j => nI (lcA j)) rm ry rf (nI tl) (nI ta) ts so tv tpA sw st sf sq) H := hP
  have hD9 : va_D A (kW bh br rh th tb sh cI cJ cB (nI (cc + 1)) f1 f2 f3 (fun j => nI (f4 j)) fA (fun j => nI (f5 j)) mmA wA tcA g1A g2A nuA (fun j => nI (erA j)) reA (fun j => nI (liA j)) (fun j => nI (lcA j)) rm ry rf (nI tl) (nI ta) ts so tv tpA sw st sf sq) := hD
  exact W.vret hx hb hr (fun t ht hW => ⟨⟨((cc + 1), f1, f2, f3, f4, f5), rfl, ⟨(by rfl), (by show f4 (cc + 1 - 1) = 0; rw [Nat.add_sub_cancel, ef4, z_ups]), hbf4, hbf5⟩, by rw [ht]; exact hP9, va_K.moved hW.alike hK, hD9⟩, hS.F ht⟩) hS.2.2 dX0_addClass_60
theorem dX0_setAbove_0 : decode cX0_setAbove 0 = .ok (.aload_n 0, 1) := by decide +kernel
theorem dX0_setAbove_1 : decode cX0_setAbove 1 = .ok (.getfield 18, 3) := by decide +kernel
theorem dX0_setAbove_4 : decode cX0_setAbove 4 = .ok (.aload_n 0, 1) := by decide +kernel
theorem dX0_setAbove_5 : decode cX0_setAbove 5 = .ok (.getfield 61, 3) := by decide +kernel
theorem dX0_setAbove_8 : decode cX0_setAbove 8 = .ok (.iconst 1, 1) := by decide +kernel
theorem dX0_setAbove_9 : decode cX0_setAbove 9 = .ok (.isub, 1) := by decide +kernel
theorem dX0_setAbove_10 : decode cX0_setAbove 10 = .ok (.iload_n 1, 1) := by decide +kernel
theorem dX0_setAbove_11 : decode cX0_setAbove 11 = .ok (.iastore, 1) := by decide +kernel
theorem dX0_setAbove_12 : decode cX0_setAbove 12 = .ok (.return_, 1) := by decide +kernel
def zwX0_setAbove : List Cond := .code yX0_setAbove cX0_setAbove 2 none :: ([.fieldLink RX0 18 "LinkModels$Build" "aboveNames" "[I", .fieldLink RX0 61 "LinkModels$Build" "classCount" "I"] ++ wsX00)
set_option maxHeartbeats 4000000 in
set_option maxRecDepth 100000 in
theorem kX0_setAbove (l : Launch) (dC : Nat → ClassId) (dI : Nat → Nat → Nat) (bh : Nat) (br : Nat → Nat) (rh : Nat) (th : Nat) (tb : Nat) (sh : Nat) (cI : ClassId) (cJ : ClassId) (cB : ClassId) (cc : Nat) (nA : Nat → Int32) (mA : Nat → Int32) (aA : Nat → Int32) (fcA : Nat → Nat) (fA : Nat → Int32) (mcA : Nat → Nat) (mmA : Nat → Int32) (wA : Nat → Int64) (tcA : Nat → Int32) (g1A : Nat → Int32) (g2A : Nat → Int32) (nuA : Nat → Int32) (erA : Nat → Nat) (reA : Nat → Int32) (liA : Nat → Nat) (lcA : Nat → Nat) (rm : Int32) (ry : Int32) (rf : Int32) (tl : Nat) (ta : Nat) (ts : Int32) (so : Int32) (tv : Int64) (tpA : Nat → Int32) (sw : Int64) (st : Int32) (sf : Int32) (sq : Int32) (hI : kWI cc fcA mcA erA liA lcA tl ta) (nm : Int32) (hp0 : 1 ≤ cc) (sz : Nat) : Met l yX0_setAbove zwX0_setAbove ({ frames := 0, cells := 0, slots := 0, locals := 0 }) (zPk dC dI [.ref bh, .int nm] sz (kW bh br rh th tb sh cI cJ cB (nI cc) nA mA aA (fun j => nI (fcA j)) fA (fun j => nI (mcA j)) mmA wA tcA g1A g2A nuA (fun j => nI (erA j)) reA (fun j => nI (liA j)) (fun j => nI (lcA j)) rm ry rf (nI tl) (nI ta) ts so tv tpA sw st sf sq) [(cI, .int), (cJ, .long), (cB, .byte)]) (va_Qv (fun u : (Nat → Int32) => (True)) (fun u t => zB dC dI (va_A (kW bh br rh th tb sh cI cJ cB (nI cc) nA mA aA (fun j => nI (fcA j)) fA (fun j => nI (mcA j)) mmA wA tcA g1A g2A nuA (fun j => nI (erA j)) reA (fun j => nI (liA j)) (fun j => nI (lcA j)) rm ry rf (nI tl) (nI ta) ts so tv tpA sw st sf sq) sz) (kW bh br rh th tb sh cI cJ cB (nI cc) nA mA u (fun j => nI (fcA j)) fA (fun j => nI (mcA j)) mmA wA tcA g1A g2A nuA (fun j => nI (erA j)) reA (fun j => nI (liA j)) (fun j => nI (lcA j)) rm ry rf (nI tl) (nI ta) ts so tv tpA sw st sf sq) [(cI, .int), (cJ, .long), (cB, .byte)] t) (va_A (kW bh br rh th tb sh cI cJ cB (nI cc) nA mA aA (fun j => nI (fcA j)) fA (fun j => nI (mcA j)) mmA wA tcA g1A g2A nuA (fun j => nI (erA j)) reA (fun j => nI (liA j)) (fun j => nI (lcA j)) rm ry rf (nI tl) (nI ta) ts so tv tpA sw st sf sq) sz)) 0 0 (va_A (kW bh br rh th tb sh cI cJ cB (nI cc) nA mA aA (fun j => nI (fcA j)) fA (fun j => nI (mcA j)) mmA wA tcA g1A g2A nuA (fun j => nI (erA j)) reA (fun j => nI (liA j)) (fun j => nI (lcA j)) rm ry rf (nI tl) (nI ta) ts so tv tpA sw st sf sq) sz) := by
  refine Met.ofW (cc := cX0_setAbove) (maxL := 2) (ret := none) (by decide) rfl ?_
  intro p e s m args below meth c s₁ B hml hv
  obtain ⟨rfl, hsz, hP, hK, hD0, hE⟩ := hv
  have hx := B.exec
  have hb := B.bytes
  have hr := B.returns
  have hts := atoms_spec (ws := zwX0_setAbove) B.pre
  have hown : s.vm.findClass RX0 = some m.cls := findClass_of_methodNamed B.named
  have hiX0 : ∀ w ∈ wsX00, w ∈ zwX0_setAbove := (fun w hw => (List.mem_cons_of_mem _ (List.mem_append_right _ hw)))
  obtain ⟨hcc, htl, hta, hfcA, hmcA, herA, hliA, hlcA⟩ := hI
  subst hsz
  have hD := hD0.self (sz := s.heap.size)
  generalize hAe : va_A (kW bh br rh th tb sh cI cJ cB (nI cc) nA mA aA (fun j => nI (fcA j)) fA (fun j => nI (mcA j)) mmA wA tcA g1A g2A nuA (fun j => nI (erA j)) reA (fun j => nI (liA j)) (fun j => nI (lcA j)) rm ry rf (nI tl) (nI ta) ts so tv tpA sw st sf sq) s.heap.size = A at hD ⊢
  have hA : ∀ q : Nat, s.heap.size ≤ q → A q := fun q h => by rw [← hAe]; exact Or.inr h
  have hS : va_S A s.heap s.heap [] := va_S.rf
  have hl := lv_entry ([.ref bh, .int nm]) (n := 2) (Nat.le_of_ble_eq_true rfl)
  rw [lg_entry_eq]
  generalize (lg_sl ([.ref bh, .int nm]) ++ List.replicate (2 - (lg_sl ([.ref bh, .int nm])).length) Slot.unset).toArray = ls at hl ⊢
  have hl : lv_has ls 2 [(0, .ref bh), (1, .int nm)] := hl
  refine lv_aload_n hx hb dX0_setAbove_0 rfl (lv_at hl 0 rfl) ?_
  refine va_get (D := (dC, dI)) (ci := 0) (v := .ref (br 3)) (C := RX0) (T := TX0) (N := 17) hx hb hts hiX0 hown hK hP 0 rfl rfl 3 (by decide) (hts (.fieldLink RX0 18 "LinkModels$Build" "aboveNames" "[I") (by decide +kernel)) (fun _ h9 => h9) rfl dX0_setAbove_1 ?_
  refine lv_aload_n hx hb dX0_setAbove_4 rfl (lv_at hl 0 rfl) ?_
  refine va_get (D := (dC, dI)) (ci := 0) (v := .int (nI cc)) (C := RX0) (T := TX0) (N := 17) hx hb hts hiX0 hown hK hP 0 rfl rfl 0 (by decide) (hts (.fieldLink RX0 61 "LinkModels$Build" "classCount" "I") (by decide +kernel)) (fun _ h9 => h9) rfl dX0_setAbove_5 ?_
  refine lv_iconst (v := 1) hx hb dX0_setAbove_8 (by decide) ?_
  refine lv_isub hx hb dX0_setAbove_9 ?_
  refine lv_topi (fun x1 ex1 => ?_)
  obtain rfl : x1 = nI (cc - 1) := by rw [ex1]; exact pk_sub (show 1 ≤ cc by omega)
  refine lv_iload_n hx hb dX0_setAbove_10 rfl (lv_at hl 1 rfl) ?_
  refine va_iast hx hb hK hP hD hS 3 0 rfl rfl (vp_in_nI (show cc - 1 < 16 by omega) (by decide)) dX0_setAbove_11 (fun H locs hP hD hS => ?_)
  obtain ⟨f2, hP, hD⟩ : ∃ g : Nat → Int32, va_P (dC, dI) vwCl (kW bh br rh th tb sh cI cJ cB (nI cc) nA mA g (fun j => nI (fcA j)) fA (fun j => nI (mcA j)) mmA wA tcA g1A g2A nuA (fun j => nI (erA j)) reA (fun j => nI (liA j)) (fun j => nI (lcA j)) rm ry rf (nI tl) (nI ta) ts so tv tpA sw st sf sq) H ∧ va_D A (kW bh br rh th tb sh cI cJ cB (nI cc) nA mA g (fun j => nI (fcA j)) fA (fun j => nI (mcA j)) mmA wA tcA g1A g2A nuA (fun j => nI (erA j)) reA (fun j => nI (liA j)) (fun j => nI (lcA j)) rm ry rf (nI tl) (nI ta) ts so tv tpA sw st sf sq) := ⟨_, hP, hD⟩
  have hP9 : va_P (dC, dI) vwCl (kW bh br rh th tb sh cI cJ cB (nI cc) nA mA f2 (fun j => nI (fcA j)) fA (fun j => nI (mcA j)) mmA wA tcA g1A g2A nuA (fun j => nI (erA j)) reA (fun j => nI (liA j)) (fun j => nI (lcA j)) rm ry rf (nI tl) (nI ta) ts so tv tpA sw st sf sq) H := hP
  have hD9 : va_D A (kW bh br rh th tb sh cI cJ cB (nI cc) nA mA f2 (fun j => nI (fcA j)) fA (fun j => nI (mcA j)) mmA wA tcA g1A g2A nuA (fun j => nI (erA j)) reA (fun j => nI (liA j)) (fun j => nI (lcA j)) rm ry rf (nI tl) (nI ta) ts so tv tpA sw st sf sq) := hD
  exact W.vret hx hb hr (fun t ht hW => ⟨⟨(f2), rfl, trivial, by rw [ht]; exact hP9, va_K.moved hW.alike hK, hD9⟩, hS.F ht⟩) hS.2.2 dX0_setAbove_12
theorem dX0_addFace_0 : decode cX0_addFace 0 = .ok (.aload_n 0, 1) := by decide +kernel
theorem dX0_addFace_1 : decode cX0_addFace 1 = .ok (.getfield 61, 3) := by decide +kernel
theorem dX0_addFace_4 : decode cX0_addFace 4 = .ok (.iconst 1, 1) := by decide +kernel
theorem dX0_addFace_5 : decode cX0_addFace 5 = .ok (.isub, 1) := by decide +kernel
theorem dX0_addFace_6 : decode cX0_addFace 6 = .ok (.istore_n 2, 1) := by decide +kernel
theorem dX0_addFace_7 : decode cX0_addFace 7 = .ok (.aload_n 0, 1) := by decide +kernel
theorem dX0_addFace_8 : decode cX0_addFace 8 = .ok (.getfield 24, 3) := by decide +kernel
theorem dX0_addFace_11 : decode cX0_addFace 11 = .ok (.iload_n 2, 1) := by decide +kernel
theorem dX0_addFace_12 : decode cX0_addFace 12 = .ok (.iconst 3, 1) := by decide +kernel
theorem dX0_addFace_13 : decode cX0_addFace 13 = .ok (.imul, 1) := by decide +kernel
theorem dX0_addFace_14 : decode cX0_addFace 14 = .ok (.aload_n 0, 1) := by decide +kernel
theorem dX0_addFace_15 : decode cX0_addFace 15 = .ok (.getfield 21, 3) := by decide +kernel
theorem dX0_addFace_18 : decode cX0_addFace 18 = .ok (.iload_n 2, 1) := by decide +kernel
theorem dX0_addFace_19 : decode cX0_addFace 19 = .ok (.iaload, 1) := by decide +kernel
theorem dX0_addFace_20 : decode cX0_addFace 20 = .ok (.iadd, 1) := by decide +kernel
theorem dX0_addFace_21 : decode cX0_addFace 21 = .ok (.iload_n 1, 1) := by decide +kernel
theorem dX0_addFace_22 : decode cX0_addFace 22 = .ok (.iastore, 1) := by decide +kernel
theorem dX0_addFace_23 : decode cX0_addFace 23 = .ok (.aload_n 0, 1) := by decide +kernel
theorem dX0_addFace_24 : decode cX0_addFace 24 = .ok (.getfield 21, 3) := by decide +kernel
theorem dX0_addFace_27 : decode cX0_addFace 27 = .ok (.iload_n 2, 1) := by decide +kernel
theorem dX0_addFace_28 : decode cX0_addFace 28 = .ok (.dup2, 1) := by decide +kernel
theorem dX0_addFace_29 : decode cX0_addFace 29 = .ok (.iaload, 1) := by decide +kernel
theorem dX0_addFace_30 : decode cX0_addFace 30 = .ok (.iconst 1, 1) := by decide +kernel
theorem dX0_addFace_31 : decode cX0_addFace 31 = .ok (.iadd, 1) := by decide +kernel
theorem dX0_addFace_32 : decode cX0_addFace 32 = .ok (.iastore, 1) := by decide +kernel
theorem dX0_addFace_33 : decode cX0_addFace 33 = .ok (.return_, 1) := by decide +kernel
def zwX0_addFace : List Cond := .code yX0_addFace cX0_addFace 3 none :: ([.fieldLink RX0 61 "LinkModels$Build" "classCount" "I", .fieldLink RX0 24 "LinkModels$Build" "faceNames" "[I", .fieldLink RX0 21 "LinkModels$Build" "faceCounts" "[I"] ++ wsX00)
set_option maxHeartbeats 4000000 in
set_option maxRecDepth 100000 in
theorem kX0_addFace (l : Launch) (dC : Nat → ClassId) (dI : Nat → Nat → Nat) (bh : Nat) (br : Nat → Nat) (rh : Nat) (th : Nat) (tb : Nat) (sh : Nat) (cI : ClassId) (cJ : ClassId) (cB : ClassId) (cc : Nat) (nA : Nat → Int32) (mA : Nat → Int32) (aA : Nat → Int32) (fcA : Nat → Nat) (fA : Nat → Int32) (mcA : Nat → Nat) (mmA : Nat → Int32) (wA : Nat → Int64) (tcA : Nat → Int32) (g1A : Nat → Int32) (g2A : Nat → Int32) (nuA : Nat → Int32) (erA : Nat → Nat) (reA : Nat → Int32) (liA : Nat → Nat) (lcA : Nat → Nat) (rm : Int32) (ry : Int32) (rf : Int32) (tl : Nat) (ta : Nat) (ts : Int32) (so : Int32) (tv : Int64) (tpA : Nat → Int32) (sw : Int64) (st : Int32) (sf : Int32) (sq : Int32) (hI : kWI cc fcA mcA erA liA lcA tl ta) (nm : Int32) (hp0 : 1 ≤ cc) (hp1 : fcA (cc - 1) ≤ 2) (sz : Nat) : Met l yX0_addFace zwX0_addFace ({ frames := 0, cells := 0, slots := 0, locals := 0 }) (zPk dC dI [.ref bh, .int nm] sz (kW bh br rh th tb sh cI cJ cB (nI cc) nA mA aA (fun j => nI (fcA j)) fA (fun j => nI (mcA j)) mmA wA tcA g1A g2A nuA (fun j => nI (erA j)) reA (fun j => nI (liA j)) (fun j => nI (lcA j)) rm ry rf (nI tl) (nI ta) ts so tv tpA sw st sf sq) [(cI, .int), (cJ, .long), (cB, .byte)]) (va_Qv (fun u : (Nat → Int32) × (Nat → Nat) => ((u.2) (cc - 1) = fcA (cc - 1) + 1) ∧ (∀ j, (u.2) j ≤ 3)) (fun u t => zB dC dI (va_A (kW bh br rh th tb sh cI cJ cB (nI cc) nA mA aA (fun j => nI (fcA j)) fA (fun j => nI (mcA j)) mmA wA tcA g1A g2A nuA (fun j => nI (erA j)) reA (fun j => nI (liA j)) (fun j => nI (lcA j)) rm ry rf (nI tl) (nI ta) ts so tv tpA sw st sf sq) sz) (kW bh br rh th tb sh cI cJ cB (nI cc) nA mA aA (fun j => nI ((u.2) j)) (u.1) (fun j => nI (mcA j)) mmA wA tcA g1A g2A nuA (fun j => nI (erA j)) reA (fun j => nI (liA j)) (fun j => nI (lcA j)) rm ry rf (nI tl) (nI ta) ts so tv tpA sw st sf sq) [(cI, .int), (cJ, .long), (cB, .byte)] t) (va_A (kW bh br rh th tb sh cI cJ cB (nI cc) nA mA aA (fun j => nI (fcA j)) fA (fun j => nI (mcA j)) mmA wA tcA g1A g2A nuA (fun j => nI (erA j)) reA (fun j => nI (liA j)) (fun j => nI (lcA j)) rm ry rf (nI tl) (nI ta) ts so tv tpA sw st sf sq) sz)) 0 0 (va_A (kW bh br rh th tb sh cI cJ cB (nI cc) nA mA aA (fun j => nI (fcA j)) fA (fun j => nI (mcA j)) mmA wA tcA g1A g2A nuA (fun j => nI (erA j)) reA (fun j => nI (liA j)) (fun j => nI (lcA j)) rm ry rf (nI tl) (nI ta) ts so tv tpA sw st sf sq) sz) := by
  refine Met.ofW (cc := cX0_addFace) (maxL := 3) (ret := none) (by decide) rfl ?_
  intro p e s m args below meth c s₁ B hml hv
  obtain ⟨rfl, hsz, hP, hK, hD0, hE⟩ := hv
  have hx := B.exec
  have hb := B.bytes
  have hr := B.returns
  have hts := atoms_spec (ws := zwX0_addFace) B.pre
  have hown : s.vm.findClass RX0 = some m.cls := findClass_of_methodNamed B.named
  have hiX0 : ∀ w ∈ wsX00, w ∈ zwX0_addFace := (fun w hw => (List.mem_cons_of_mem _ (List.mem_append_right _ hw)))
  obtain ⟨hcc, htl, hta, hfcA, hmcA, herA, hliA, hlcA⟩ := hI
  subst hsz
  have hD := hD0.self (sz := s.heap.size)
  generalize hAe : va_A (kW bh br rh th tb sh cI cJ cB (nI cc) nA mA aA (fun j => nI (fcA j)) fA (fun j => nI (mcA j)) mmA wA tcA g1A g2A nuA (fun j => nI (erA j)) reA (fun j => nI (liA j)) (fun j => nI (lcA j)) rm ry rf (nI tl) (nI ta) ts so tv tpA sw st sf sq) s.heap.size = A at hD ⊢
  have hA : ∀ q : Nat, s.heap.size ≤ q → A q := fun q h => by rw [← hAe]; exact Or.inr h
  have hS : va_S A s.heap s.heap [] := va_S.rf
  have hl := lv_entry ([.ref bh, .int nm]) (n := 3) (Nat.le_of_ble_eq_true rfl)
  rw [lg_entry_eq]
  generalize (lg_sl ([.ref bh, .int nm]) ++ List.replicate (3 - (lg_sl ([.ref bh, .int nm])).length) Slot.unset).toArray = ls at hl ⊢
  have hl : lv_has ls 3 [(0, .ref bh), (1, .int nm)] := hl
  refine lv_aload_n hx hb dX0_addFace_0 rfl (lv_at hl 0 rfl) ?_
  refine va_get (D := (dC, dI)) (ci := 0) (v := .int (nI cc)) (C := RX0) (T := TX0) (N := 17) hx hb hts hiX0 hown hK hP 0 rfl rfl 0 (by decide) (hts (.fieldLink RX0 61 "LinkModels$Build" "classCount" "I") (by decide +kernel)) (fun _ h9 => h9) rfl dX0_addFace_1 ?_
  refine lv_iconst (v := 1) hx hb dX0_addFace_4 (by decide) ?_
  refine lv_isub hx hb dX0_addFace_5 ?_
  refine lv_topi (fun x1 ex1 => ?_)
  obtain rfl : x1 = nI (cc - 1) := by rw [ex1]; exact pk_sub (show 1 ≤ cc by omega)
  refine lv_istore_n (lv' := [(2, .int (nI (cc - 1))), (0, .ref bh), (1, .int nm)]) hx hb dX0_addFace_6 rfl hl (by decide) rfl (fun ls hl => ?_)
  refine lv_aload_n hx hb dX0_addFace_7 rfl (lv_at hl 1 rfl) ?_
  refine va_get (D := (dC, dI)) (ci := 0) (v := .ref (br 5)) (C := RX0) (T := TX0) (N := 17) hx hb hts hiX0 hown hK hP 0 rfl rfl 5 (by decide) (hts (.fieldLink RX0 24 "LinkModels$Build" "faceNames" "[I") (by decide +kernel)) (fun _ h9 => h9) rfl dX0_addFace_8 ?_
  refine lv_iload_n hx hb dX0_addFace_11 rfl (lv_at hl 0 rfl) ?_
  refine lv_iconst (v := 3) hx hb dX0_addFace_12 (by decide) ?_
  refine lv_imul hx hb dX0_addFace_13 ?_
  refine lv_topi (fun x2 ex2 => ?_)
  obtain rfl : x2 = nI ((cc - 1) * 3) := by rw [ex2]; exact pk_mul (cc - 1) (3)
  refine lv_aload_n hx hb dX0_addFace_14 rfl (lv_at hl 1 rfl) ?_
  refine va_get (D := (dC, dI)) (ci := 0) (v := .ref (br 4)) (C := RX0) (T := TX0) (N := 17) hx hb hts hiX0 hown hK hP 0 rfl rfl 4 (by decide) (hts (.fieldLink RX0 21 "LinkModels$Build" "faceCounts" "[I") (by decide +kernel)) (fun _ h9 => h9) rfl dX0_addFace_15 ?_
  refine lv_iload_n hx hb dX0_addFace_18 rfl (lv_at hl 0 rfl) ?_
  refine va_iald hx hb hK hP 4 0 rfl rfl (vp_in_nI (show cc - 1 < 16 by omega) (by decide)) dX0_addFace_19 ?_
  refine lv_topi (fun x3 ex3 => ?_)
  obtain rfl : x3 = nI (fcA (cc - 1)) := by rw [ex3, nI_clamp (show cc - 1 < 2 ^ 31 by omega)]
  have hqx3 := hfcA (cc - 1)
  refine lv_iadd hx hb dX0_addFace_20 ?_
  refine lv_topi (fun x4 ex4 => ?_)
  obtain rfl : x4 = nI (((cc - 1) * 3) + (fcA (cc - 1))) := by rw [ex4]; exact nI_add ((cc - 1) * 3) (fcA (cc - 1))
  refine lv_iload_n hx hb dX0_addFace_21 rfl (lv_at hl 2 rfl) ?_
  refine va_iast hx hb hK hP hD hS 5 0 rfl rfl (vp_in_nI (show ((cc - 1) * 3) + (fcA (cc - 1)) < 48 by omega) (by decide)) dX0_addFace_22 (fun H locs hP hD hS => ?_)
  obtain ⟨f5, hP, hD⟩ : ∃ g : Nat → Int32, va_P (dC, dI) vwCl (kW bh br rh th tb sh cI cJ cB (nI cc) nA mA aA (fun j => nI (fcA j)) g (fun j => nI (mcA j)) mmA wA tcA g1A g2A nuA (fun j => nI (erA j)) reA (fun j => nI (liA j)) (fun j => nI (lcA j)) rm ry rf (nI tl) (nI ta) ts so tv tpA sw st sf sq) H ∧ va_D A (kW bh br rh th tb sh cI cJ cB (nI cc) nA mA aA (fun j => nI (fcA j)) g (fun j => nI (mcA j)) mmA wA tcA g1A g2A nuA (fun j => nI (erA j)) reA (fun j => nI (liA j)) (fun j => nI (lcA j)) rm ry rf (nI tl) (nI ta) ts so tv tpA sw st sf sq) := ⟨_, hP, hD⟩
  refine lv_aload_n hx hb dX0_addFace_23 rfl (lv_at hl 1 rfl) ?_
  refine va_get (D := (dC, dI)) (ci := 0) (v := .ref (br 4)) (C := RX0) (T := TX0) (N := 17) hx hb hts hiX0 hown hK hP 0 rfl rfl 4 (by decide) (hts (.fieldLink RX0 21 "LinkModels$Build" "faceCounts" "[I") (by decide +kernel)) (fun _ h9 => h9) rfl dX0_addFace_24 ?_
  refine lv_iload_n hx hb dX0_addFace_27 rfl (lv_at hl 0 rfl) ?_
  refine lv_dup2_11 hx hb dX0_addFace_28 rfl rfl ?_
  refine va_iald hx hb hK hP 4 0 rfl rfl (vp_in_nI (show cc - 1 < 16 by omega) (by decide)) dX0_addFace_29 ?_
  refine lv_topi (fun x6 ex6 => ?_)
  obtain rfl : x6 = nI (fcA (cc - 1)) := by rw [ex6, nI_clamp (show cc - 1 < 2 ^ 31 by omega)]
  have hqx6 := hfcA (cc - 1)
  refine lv_iconst (v := 1) hx hb dX0_addFace_30 (by decide) ?_
  refine lv_iadd hx hb dX0_addFace_31 ?_
  refine lv_topi (fun x7 ex7 => ?_)
  obtain rfl : x7 = nI ((fcA (cc - 1)) + 1) := by rw [ex7]; exact nI_add (fcA (cc - 1)) (1)
  refine va_iast hx hb hK hP hD hS 4 0 rfl rfl (vp_in_nI (show cc - 1 < 16 by omega) (by decide)) dX0_addFace_32 (fun H locs hP hD hS => ?_)
  obtain ⟨f8, ef8⟩ : ∃ g, g = z_up fcA (cc - 1) ((fcA (cc - 1)) + 1) := ⟨_, rfl⟩
  have hP : va_P (dC, dI) vwCl (kW bh br rh th tb sh cI cJ cB (nI cc) nA mA aA (fun j => nI (f8 j)) f5 (fun j => nI (mcA j)) mmA wA tcA g1A g2A nuA (fun j => nI (erA j)) reA (fun j => nI (liA j)) (fun j => nI (lcA j)) rm ry rf (nI tl) (nI ta) ts so tv tpA sw st sf sq) H := by rw [ef8, ← z_upd (show cc - 1 < 2 ^ 31 by omega)]; exact hP
  have hD : va_D A (kW bh br rh th tb sh cI cJ cB (nI cc) nA mA aA (fun j => nI (f8 j)) f5 (fun j => nI (mcA j)) mmA wA tcA g1A g2A nuA (fun j => nI (erA j)) reA (fun j => nI (liA j)) (fun j => nI (lcA j)) rm ry rf (nI tl) (nI ta) ts so tv tpA sw st sf sq) := by rw [ef8, ← z_upd (show cc - 1 < 2 ^ 31 by omega)]; exact hD
  have hbf8 : ∀ j, f8 j ≤ 3 := by rw [ef8]; exact z_upb hfcA (by omega)
  have hP9 : va_P (dC, dI) vwCl (kW bh br rh th tb sh cI cJ cB (nI cc) nA mA aA (fun j => nI (f8 j)) f5 (fun j => nI (mcA j)) mmA wA tcA g1A g2A nuA (fun j => nI (erA j)) reA (fun j => nI (liA j)) (fun j => nI (lcA j)) rm ry rf (nI tl) (nI ta) ts so tv tpA sw st sf sq) H := hP
  have hD9 : va_D A (kW bh br rh th tb sh cI cJ cB (nI cc) nA mA aA (fun j => nI (f8 j)) f5 (fun j => nI (mcA j)) mmA wA tcA g1A g2A nuA (fun j => nI (erA j)) reA (fun j => nI (liA j)) (fun j => nI (lcA j)) rm ry rf (nI tl) (nI ta) ts so tv tpA sw st sf sq) := hD
  exact W.vret hx hb hr (fun t ht hW => ⟨⟨(f5, f8), rfl, ⟨(by show f8 (cc - 1) = _; rw [ef8, z_ups]), hbf8⟩, by rw [ht]; exact hP9, va_K.moved hW.alike hK, hD9⟩, hS.F ht⟩) hS.2.2 dX0_addFace_33
theorem dX0_addMember_0 : decode cX0_addMember 0 = .ok (.aload_n 0, 1) := by decide +kernel
theorem dX0_addMember_1 : decode cX0_addMember 1 = .ok (.getfield 61, 3) := by decide +kernel
theorem dX0_addMember_4 : decode cX0_addMember 4 = .ok (.iconst 1, 1) := by decide +kernel
theorem dX0_addMember_5 : decode cX0_addMember 5 = .ok (.isub, 1) := by decide +kernel
theorem dX0_addMember_6 : decode cX0_addMember 6 = .ok (.istore 4, 2) := by decide +kernel
theorem dX0_addMember_8 : decode cX0_addMember 8 = .ok (.aload_n 0, 1) := by decide +kernel
theorem dX0_addMember_9 : decode cX0_addMember 9 = .ok (.getfield 27, 3) := by decide +kernel
theorem dX0_addMember_12 : decode cX0_addMember 12 = .ok (.iload 4, 2) := by decide +kernel
theorem dX0_addMember_14 : decode cX0_addMember 14 = .ok (.dup2, 1) := by decide +kernel
theorem dX0_addMember_15 : decode cX0_addMember 15 = .ok (.iaload, 1) := by decide +kernel
theorem dX0_addMember_16 : decode cX0_addMember 16 = .ok (.iconst 1, 1) := by decide +kernel
theorem dX0_addMember_17 : decode cX0_addMember 17 = .ok (.iadd, 1) := by decide +kernel
theorem dX0_addMember_18 : decode cX0_addMember 18 = .ok (.iastore, 1) := by decide +kernel
theorem dX0_addMember_19 : decode cX0_addMember 19 = .ok (.iload 4, 2) := by decide +kernel
theorem dX0_addMember_21 : decode cX0_addMember 21 = .ok (.bipush 13, 2) := by decide +kernel
theorem dX0_addMember_23 : decode cX0_addMember 23 = .ok (.imul, 1) := by decide +kernel
theorem dX0_addMember_24 : decode cX0_addMember 24 = .ok (.aload_n 0, 1) := by decide +kernel
theorem dX0_addMember_25 : decode cX0_addMember 25 = .ok (.getfield 27, 3) := by decide +kernel
theorem dX0_addMember_28 : decode cX0_addMember 28 = .ok (.iload 4, 2) := by decide +kernel
theorem dX0_addMember_30 : decode cX0_addMember 30 = .ok (.iaload, 1) := by decide +kernel
theorem dX0_addMember_31 : decode cX0_addMember 31 = .ok (.iadd, 1) := by decide +kernel
theorem dX0_addMember_32 : decode cX0_addMember 32 = .ok (.istore 5, 2) := by decide +kernel
theorem dX0_addMember_34 : decode cX0_addMember 34 = .ok (.aload_n 0, 1) := by decide +kernel
theorem dX0_addMember_35 : decode cX0_addMember 35 = .ok (.getfield 30, 3) := by decide +kernel
theorem dX0_addMember_38 : decode cX0_addMember 38 = .ok (.iload 5, 2) := by decide +kernel
theorem dX0_addMember_40 : decode cX0_addMember 40 = .ok (.iload_n 1, 1) := by decide +kernel
theorem dX0_addMember_41 : decode cX0_addMember 41 = .ok (.iastore, 1) := by decide +kernel
theorem dX0_addMember_42 : decode cX0_addMember 42 = .ok (.aload_n 0, 1) := by decide +kernel
theorem dX0_addMember_43 : decode cX0_addMember 43 = .ok (.getfield 33, 3) := by decide +kernel
theorem dX0_addMember_46 : decode cX0_addMember 46 = .ok (.iload 5, 2) := by decide +kernel
theorem dX0_addMember_48 : decode cX0_addMember 48 = .ok (.aload_n 2, 1) := by decide +kernel
theorem dX0_addMember_49 : decode cX0_addMember 49 = .ok (.getfield 65, 3) := by decide +kernel
theorem dX0_addMember_52 : decode cX0_addMember 52 = .ok (.lastore, 1) := by decide +kernel
theorem dX0_addMember_53 : decode cX0_addMember 53 = .ok (.aload_n 0, 1) := by decide +kernel
theorem dX0_addMember_54 : decode cX0_addMember 54 = .ok (.getfield 37, 3) := by decide +kernel
theorem dX0_addMember_57 : decode cX0_addMember 57 = .ok (.iload 5, 2) := by decide +kernel
theorem dX0_addMember_59 : decode cX0_addMember 59 = .ok (.aload_n 2, 1) := by decide +kernel
theorem dX0_addMember_60 : decode cX0_addMember 60 = .ok (.getfield 71, 3) := by decide +kernel
theorem dX0_addMember_63 : decode cX0_addMember 63 = .ok (.iastore, 1) := by decide +kernel
theorem dX0_addMember_64 : decode cX0_addMember 64 = .ok (.aload_n 0, 1) := by decide +kernel
theorem dX0_addMember_65 : decode cX0_addMember 65 = .ok (.getfield 40, 3) := by decide +kernel
theorem dX0_addMember_68 : decode cX0_addMember 68 = .ok (.iload 5, 2) := by decide +kernel
theorem dX0_addMember_70 : decode cX0_addMember 70 = .ok (.aload_n 2, 1) := by decide +kernel
theorem dX0_addMember_71 : decode cX0_addMember 71 = .ok (.getfield 74, 3) := by decide +kernel
theorem dX0_addMember_74 : decode cX0_addMember 74 = .ok (.iastore, 1) := by decide +kernel
theorem dX0_addMember_75 : decode cX0_addMember 75 = .ok (.aload_n 0, 1) := by decide +kernel
theorem dX0_addMember_76 : decode cX0_addMember 76 = .ok (.getfield 43, 3) := by decide +kernel
theorem dX0_addMember_79 : decode cX0_addMember 79 = .ok (.iload 5, 2) := by decide +kernel
theorem dX0_addMember_81 : decode cX0_addMember 81 = .ok (.aload_n 2, 1) := by decide +kernel
theorem dX0_addMember_82 : decode cX0_addMember 82 = .ok (.getfield 77, 3) := by decide +kernel
theorem dX0_addMember_85 : decode cX0_addMember 85 = .ok (.iastore, 1) := by decide +kernel
theorem dX0_addMember_86 : decode cX0_addMember 86 = .ok (.aload_n 0, 1) := by decide +kernel
theorem dX0_addMember_87 : decode cX0_addMember 87 = .ok (.getfield 46, 3) := by decide +kernel
theorem dX0_addMember_90 : decode cX0_addMember 90 = .ok (.iload 5, 2) := by decide +kernel
theorem dX0_addMember_92 : decode cX0_addMember 92 = .ok (.iload_n 3, 1) := by decide +kernel
theorem dX0_addMember_93 : decode cX0_addMember 93 = .ok (.iastore, 1) := by decide +kernel
theorem dX0_addMember_94 : decode cX0_addMember 94 = .ok (.return_, 1) := by decide +kernel
def zwX0_addMember : List Cond := .code yX0_addMember cX0_addMember 6 none :: ([.fieldLink RX0 61 "LinkModels$Build" "classCount" "I", .fieldLink RX0 27 "LinkModels$Build" "memberCounts" "[I", .fieldLink RX0 30 "LinkModels$Build" "memberMarks" "[I", .fieldLink RX0 33 "LinkModels$Build" "words" "[J", .fieldLink RX0 65 "LinkModels$Signature" "word" "J", .fieldLink RX0 37 "LinkModels$Build" "typeCounts" "[I", .fieldLink RX0 71 "LinkModels$Signature" "typeCount" "I", .fieldLink RX0 40 "LinkModels$Build" "firsts" "[I", .fieldLink RX0 74 "LinkModels$Signature" "first" "I", .fieldLink RX0 43 "LinkModels$Build" "seconds" "[I", .fieldLink RX0 77 "LinkModels$Signature" "second" "I", .fieldLink RX0 46 "LinkModels$Build" "numbers" "[I"] ++ wsX00 ++ wsX30)
set_option maxHeartbeats 4000000 in
set_option maxRecDepth 100000 in
theorem kX0_addMember (l : Launch) (dC : Nat → ClassId) (dI : Nat → Nat → Nat) (bh : Nat) (br : Nat → Nat) (rh : Nat) (th : Nat) (tb : Nat) (sh : Nat) (cI : ClassId) (cJ : ClassId) (cB : ClassId) (cc : Nat) (nA : Nat → Int32) (mA : Nat → Int32) (aA : Nat → Int32) (fcA : Nat → Nat) (fA : Nat → Int32) (mcA : Nat → Nat) (mmA : Nat → Int32) (wA : Nat → Int64) (tcA : Nat → Int32) (g1A : Nat → Int32) (g2A : Nat → Int32) (nuA : Nat → Int32) (erA : Nat → Nat) (reA : Nat → Int32) (liA : Nat → Nat) (lcA : Nat → Nat) (rm : Int32) (ry : Int32) (rf : Int32) (tl : Nat) (ta : Nat) (ts : Int32) (so : Int32) (tv : Int64) (tpA : Nat → Int32) (sw : Int64) (st : Int32) (sf : Int32) (sq : Int32) (hI : kWI cc fcA mcA erA liA lcA tl ta) (mk : Int32) (nu : Int32) (hp0 : 1 ≤ cc) (hp1 : mcA (cc - 1) ≤ 11) (sz : Nat) : Met l yX0_addMember zwX0_addMember ({ frames := 0, cells := 0, slots := 0, locals := 0 }) (zPk dC dI [.ref bh, .int mk, .ref sh, .int nu] sz (kW bh br rh th tb sh cI cJ cB (nI cc) nA mA aA (fun j => nI (fcA j)) fA (fun j => nI (mcA j)) mmA wA tcA g1A g2A nuA (fun j => nI (erA j)) reA (fun j => nI (liA j)) (fun j => nI (lcA j)) rm ry rf (nI tl) (nI ta) ts so tv tpA sw st sf sq) [(cI, .int), (cJ, .long), (cB, .byte)]) (va_Qv (fun u : (Nat → Nat) × (Nat → Int32) × (Nat → Int64) × (Nat → Int32) × (Nat → Int32) × (Nat → Int32) × (Nat → Int32) => (∀ j, (u.1) j ≤ 12)) (fun u t => zB dC dI (va_A (kW bh br rh th tb sh cI cJ cB (nI cc) nA mA aA (fun j => nI (fcA j)) fA (fun j => nI (mcA j)) mmA wA tcA g1A g2A nuA (fun j => nI (erA j)) reA (fun j => nI (liA j)) (fun j => nI (lcA j)) rm ry rf (nI tl) (nI ta) ts so tv tpA sw st sf sq) sz) (kW bh br rh th tb sh cI cJ cB (nI cc) nA mA aA (fun j => nI (fcA j)) fA (fun j => nI ((u.1) j)) (u.2.1) (u.2.2.1) (u.2.2.2.1) (u.2.2.2.2.1) (u.2.2.2.2.2.1) (u.2.2.2.2.2.2) (fun j => nI (erA j)) reA (fun j => nI (liA j)) (fun j => nI (lcA j)) rm ry rf (nI tl) (nI ta) ts so tv tpA sw st sf sq) [(cI, .int), (cJ, .long), (cB, .byte)] t) (va_A (kW bh br rh th tb sh cI cJ cB (nI cc) nA mA aA (fun j => nI (fcA j)) fA (fun j => nI (mcA j)) mmA wA tcA g1A g2A nuA (fun j => nI (erA j)) reA (fun j => nI (liA j)) (fun j => nI (lcA j)) rm ry rf (nI tl) (nI ta) ts so tv tpA sw st sf sq) sz)) 0 0 (va_A (kW bh br rh th tb sh cI cJ cB (nI cc) nA mA aA (fun j => nI (fcA j)) fA (fun j => nI (mcA j)) mmA wA tcA g1A g2A nuA (fun j => nI (erA j)) reA (fun j => nI (liA j)) (fun j => nI (lcA j)) rm ry rf (nI tl) (nI ta) ts so tv tpA sw st sf sq) sz) := by
  refine Met.ofW (cc := cX0_addMember) (maxL := 6) (ret := none) (by decide) rfl ?_
  intro p e s m args below meth c s₁ B hml hv
  obtain ⟨rfl, hsz, hP, hK, hD0, hE⟩ := hv
  have hx := B.exec
  have hb := B.bytes
  have hr := B.returns
  have hts := atoms_spec (ws := zwX0_addMember) B.pre
  have hown : s.vm.findClass RX0 = some m.cls := findClass_of_methodNamed B.named
  have hiX0 : ∀ w ∈ wsX00, w ∈ zwX0_addMember := (fun w hw => (List.mem_cons_of_mem _ (List.mem_append_left _ (List.mem_append_right _ hw))))
  have hiX3 : ∀ w ∈ wsX30, w ∈ zwX0_addMember := (fun w hw => (List.mem_cons_of_mem _ (List.mem_append_right _ hw)))
  obtain ⟨hcc, htl, hta, hfcA, hmcA, herA, hliA, hlcA⟩ := hI
  subst hsz
  have hD := hD0.self (sz := s.heap.size)
  generalize hAe : va_A (kW bh br rh th tb sh cI cJ cB (nI cc) nA mA aA (fun j => nI (fcA j)) fA (fun j => nI (mcA j)) mmA wA tcA g1A g2A nuA (fun j => nI (erA j)) reA (fun j => nI (liA j)) (fun j => nI (lcA j)) rm ry rf (nI tl) (nI ta) ts so tv tpA sw st sf sq) s.heap.size = A at hD ⊢
  have hA : ∀ q : Nat, s.heap.size ≤ q → A q := fun q h => by rw [← hAe]; exact Or.inr h
  have hS : va_S A s.heap s.heap [] := va_S.rf
  have hl := lv_entry ([.ref bh, .int mk, .ref sh, .int nu]) (n := 6) (Nat.le_of_ble_eq_true rfl)
  rw [lg_entry_eq]
  generalize (lg_sl ([.ref bh, .int mk, .ref sh, .int nu]) ++ List.replicate (6 - (lg_sl ([.ref bh, .int mk, .ref sh, .int nu])).length) Slot.unset).toArray = ls at hl ⊢
  have hl : lv_has ls 6 [(0, .ref bh), (1, .int mk), (2, .ref sh), (3, .int nu)] := hl
  refine lv_aload_n hx hb dX0_addMember_0 rfl (lv_at hl 0 rfl) ?_
  refine va_get (D := (dC, dI)) (ci := 0) (v := .int (nI cc)) (C := RX0) (T := TX0) (N := 17) hx hb hts hiX0 hown hK hP 0 rfl rfl 0 (by decide) (hts (.fieldLink RX0 61 "LinkModels$Build" "classCount" "I") (by decide +kernel)) (fun _ h9 => h9) rfl dX0_addMember_1 ?_
  refine lv_iconst (v := 1) hx hb dX0_addMember_4 (by decide) ?_
  refine lv_isub hx hb dX0_addMember_5 ?_
  refine lv_topi (fun x1 ex1 => ?_)
  obtain rfl : x1 = nI (cc - 1) := by rw [ex1]; exact pk_sub (show 1 ≤ cc by omega)
  refine lv_istore (lv' := [(4, .int (nI (cc - 1))), (0, .ref bh), (1, .int mk), (2, .ref sh), (3, .int nu)]) hx hb dX0_addMember_6 hl (by decide) rfl (fun ls hl => ?_)
  refine lv_aload_n hx hb dX0_addMember_8 rfl (lv_at hl 1 rfl) ?_
  refine va_get (D := (dC, dI)) (ci := 0) (v := .ref (br 6)) (C := RX0) (T := TX0) (N := 17) hx hb hts hiX0 hown hK hP 0 rfl rfl 6 (by decide) (hts (.fieldLink RX0 27 "LinkModels$Build" "memberCounts" "[I") (by decide +kernel)) (fun _ h9 => h9) rfl dX0_addMember_9 ?_
  refine lv_iload hx hb dX0_addMember_12 (lv_at hl 0 rfl) ?_
  refine lv_dup2_11 hx hb dX0_addMember_14 rfl rfl ?_
  refine va_iald hx hb hK hP 6 0 rfl rfl (vp_in_nI (show cc - 1 < 16 by omega) (by decide)) dX0_addMember_15 ?_
  refine lv_topi (fun x2 ex2 => ?_)
  obtain rfl : x2 = nI (mcA (cc - 1)) := by rw [ex2, nI_clamp (show cc - 1 < 2 ^ 31 by omega)]
  have hqx2 := hmcA (cc - 1)
  refine lv_iconst (v := 1) hx hb dX0_addMember_16 (by decide) ?_
  refine lv_iadd hx hb dX0_addMember_17 ?_
  refine lv_topi (fun x3 ex3 => ?_)
  obtain rfl : x3 = nI ((mcA (cc - 1)) + 1) := by rw [ex3]; exact nI_add (mcA (cc - 1)) (1)
  refine va_iast hx hb hK hP hD hS 6 0 rfl rfl (vp_in_nI (show cc - 1 < 16 by omega) (by decide)) dX0_addMember_18 (fun H locs hP hD hS => ?_)
  obtain ⟨f4, ef4⟩ : ∃ g, g = z_up mcA (cc - 1) ((mcA (cc - 1)) + 1) := ⟨_, rfl⟩
  have hP : va_P (dC, dI) vwCl (kW bh br rh th tb sh cI cJ cB (nI cc) nA mA aA (fun j => nI (fcA j)) fA (fun j => nI (f4 j)) mmA wA tcA g1A g2A nuA (fun j => nI (erA j)) reA (fun j => nI (liA j)) (fun j => nI (lcA j)) rm ry rf (nI tl) (nI ta) ts so tv tpA sw st sf sq) H := by rw [ef4, ← z_upd (show cc - 1 < 2 ^ 31 by omega)]; exact hP
  have hD : va_D A (kW bh br rh th tb sh cI cJ cB (nI cc) nA mA aA (fun j => nI (fcA j)) fA (fun j => nI (f4 j)) mmA wA tcA g1A g2A nuA (fun j => nI (erA j)) reA (fun j => nI (liA j)) (fun j => nI (lcA j)) rm ry rf (nI tl) (nI ta) ts so tv tpA sw st sf sq) := by rw [ef4, ← z_upd (show cc - 1 < 2 ^ 31 by omega)]; exact hD
  have hbf4 : ∀ j, f4 j ≤ 12 := by rw [ef4]; exact z_upb hmcA (by omega)
  refine lv_iload hx hb dX0_addMember_19 (lv_at hl 0 rfl) ?_
  refine lv_bipush (v := 13) hx hb dX0_addMember_21 (by decide) ?_
  refine lv_imul hx hb dX0_addMember_23 ?_
  refine lv_topi (fun x5 ex5 => ?_)
  obtain rfl : x5 = nI ((cc - 1) * 13) := by rw [ex5]; exact pk_mul (cc - 1) (13)
  refine lv_aload_n hx hb dX0_addMember_24 rfl (lv_at hl 1 rfl) ?_
  refine va_get (D := (dC, dI)) (ci := 0) (v := .ref (br 6)) (C := RX0) (T := TX0) (N := 17) hx hb hts hiX0 hown hK hP 0 rfl rfl 6 (by decide) (hts (.fieldLink RX0 27 "LinkModels$Build" "memberCounts" "[I") (by decide +kernel)) (fun _ h9 => h9) rfl dX0_addMember_25 ?_
  refine lv_iload hx hb dX0_addMember_28 (lv_at hl 0 rfl) ?_
  refine va_iald hx hb hK hP 6 0 rfl rfl (vp_in_nI (show cc - 1 < 16 by omega) (by decide)) dX0_addMember_30 ?_
  refine lv_topi (fun x6 ex6 => ?_)
  obtain rfl : x6 = nI (f4 (cc - 1)) := by rw [ex6, nI_clamp (show cc - 1 < 2 ^ 31 by omega)]
  have hqx6 := hbf4 (cc - 1)
  refine lv_iadd hx hb dX0_addMember_31 ?_
  refine lv_topi (fun x7 ex7 => ?_)
  obtain rfl : x7 = nI (((cc - 1) * 13) + (f4 (cc - 1))) := by rw [ex7]; exact nI_add ((cc - 1) * 13) (f4 (cc - 1))
  refine lv_istore (lv' := [(5, .int (nI (((cc - 1) * 13) + (f4 (cc - 1))))), (4, .int (nI (cc - 1))), (0, .ref bh), (1, .int mk), (2, .ref sh), (3, .int nu)]) hx hb dX0_addMember_32 hl (by decide) rfl (fun ls hl => ?_)
  refine lv_aload_n hx hb dX0_addMember_34 rfl (lv_at hl 2 rfl) ?_
  refine va_get (D := (dC, dI)) (ci := 0) (v := .ref (br 7)) (C := RX0) (T := TX0) (N := 17) hx hb hts hiX0 hown hK hP 0 rfl rfl 7 (by decide) (hts (.fieldLink RX0 30 "LinkModels$Build" "memberMarks" "[I") (by decide +kernel)) (fun _ h9 => h9) rfl dX0_addMember_35 ?_
  refine lv_iload hx hb dX0_addMember_38 (lv_at hl 0 rfl) ?_
  refine lv_iload_n hx hb dX0_addMember_40 rfl (lv_at hl 3 rfl) ?_
  refine va_iast hx hb hK hP hD hS 7 0 rfl rfl (vp_in_nI (show ((cc - 1) * 13) + (f4 (cc - 1)) < 208 by omega) (by decide)) dX0_addMember_41 (fun H locs hP hD hS => ?_)
  obtain ⟨f8, hP, hD⟩ : ∃ g : Nat → Int32, va_P (dC, dI) vwCl (kW bh br rh th tb sh cI cJ cB (nI cc) nA mA aA (fun j => nI (fcA j)) fA (fun j => nI (f4 j)) g wA tcA g1A g2A nuA (fun j => nI (erA j)) reA (fun j => nI (liA j)) (fun j => nI (lcA j)) rm ry rf (nI tl) (nI ta) ts so tv tpA sw st sf sq) H ∧ va_D A (kW bh br rh th tb sh cI cJ cB (nI cc) nA mA aA (fun j => nI (fcA j)) fA (fun j => nI (f4 j)) g wA tcA g1A g2A nuA (fun j => nI (erA j)) reA (fun j => nI (liA j)) (fun j => nI (lcA j)) rm ry rf (nI tl) (nI ta) ts so tv tpA sw st sf sq) := ⟨_, hP, hD⟩
  refine lv_aload_n hx hb dX0_addMember_42 rfl (lv_at hl 2 rfl) ?_
  refine va_get (D := (dC, dI)) (ci := 0) (v := .ref (br 8)) (C := RX0) (T := TX0) (N := 17) hx hb hts hiX0 hown hK hP 0 rfl rfl 8 (by decide) (hts (.fieldLink RX0 33 "LinkModels$Build" "words" "[J") (by decide +kernel)) (fun _ h9 => h9) rfl dX0_addMember_43 ?_
  refine lv_iload hx hb dX0_addMember_46 (lv_at hl 0 rfl) ?_
  refine lv_aload_n hx hb dX0_addMember_48 rfl (lv_at hl 4 rfl) ?_
  refine va_get (D := (dC, dI)) (ci := 2) (v := .long sw) (C := RX3) (T := TX3) (N := 4) hx hb hts hiX3 hown hK hP 20 rfl rfl 0 (by decide) (hts (.fieldLink RX0 65 "LinkModels$Signature" "word" "J") (by decide +kernel)) (fun _ h9 => h9) rfl dX0_addMember_49 ?_
  refine va_last hx hb hK hP hD hS 8 1 rfl rfl (vp_in_nI (show ((cc - 1) * 13) + (f4 (cc - 1)) < 208 by omega) (by decide)) dX0_addMember_52 (fun H locs hP hD hS => ?_)
  obtain ⟨f9, hP, hD⟩ : ∃ g : Nat → Int64, va_P (dC, dI) vwCl (kW bh br rh th tb sh cI cJ cB (nI cc) nA mA aA (fun j => nI (fcA j)) fA (fun j => nI (f4 j)) f8 g tcA g1A g2A nuA (fun j => nI (erA j)) reA (fun j => nI (liA j)) (fun j => nI (lcA j)) rm ry rf (nI tl) (nI ta) ts so tv tpA sw st sf sq) H ∧ va_D A (kW bh br rh th tb sh cI cJ cB (nI cc) nA mA aA (fun j => nI (fcA j)) fA (fun j => nI (f4 j)) f8 g tcA g1A g2A nuA (fun j => nI (erA j)) reA (fun j => nI (liA j)) (fun j => nI (lcA j)) rm ry rf (nI tl) (nI ta) ts so tv tpA sw st sf sq) := ⟨_, hP, hD⟩
  refine lv_aload_n hx hb dX0_addMember_53 rfl (lv_at hl 2 rfl) ?_
  refine va_get (D := (dC, dI)) (ci := 0) (v := .ref (br 9)) (C := RX0) (T := TX0) (N := 17) hx hb hts hiX0 hown hK hP 0 rfl rfl 9 (by decide) (hts (.fieldLink RX0 37 "LinkModels$Build" "typeCounts" "[I") (by decide +kernel)) (fun _ h9 => h9) rfl dX0_addMember_54 ?_
  refine lv_iload hx hb dX0_addMember_57 (lv_at hl 0 rfl) ?_
  refine lv_aload_n hx hb dX0_addMember_59 rfl (lv_at hl 4 rfl) ?_
  refine va_get (D := (dC, dI)) (ci := 2) (v := .int st) (C := RX3) (T := TX3) (N := 4) hx hb hts hiX3 hown hK hP 20 rfl rfl 1 (by decide) (hts (.fieldLink RX0 71 "LinkModels$Signature" "typeCount" "I") (by decide +kernel)) (fun _ h9 => h9) rfl dX0_addMember_60 ?_
  refine va_iast hx hb hK hP hD hS 9 0 rfl rfl (vp_in_nI (show ((cc - 1) * 13) + (f4 (cc - 1)) < 208 by omega) (by decide)) dX0_addMember_63 (fun H locs hP hD hS => ?_)
  obtain ⟨f10, hP, hD⟩ : ∃ g : Nat → Int32, va_P (dC, dI) vwCl (kW bh br rh th tb sh cI cJ cB (nI cc) nA mA aA (fun j => nI (fcA j)) fA (fun j => nI (f4 j)) f8 f9 g g1A g2A nuA (fun j => nI (erA j)) reA (fun j => nI (liA j)) (fun j => nI (lcA j)) rm ry rf (nI tl) (nI ta) ts so tv tpA sw st sf sq) H ∧ va_D A (kW bh br rh th tb sh cI cJ cB (nI cc) nA mA aA (fun j => nI (fcA j)) fA (fun j => nI (f4 j)) f8 f9 g g1A g2A nuA (fun j => nI (erA j)) reA (fun j => nI (liA j)) (fun j => nI (lcA j)) rm ry rf (nI tl) (nI ta) ts so tv tpA sw st sf sq) := ⟨_, hP, hD⟩
  refine lv_aload_n hx hb dX0_addMember_64 rfl (lv_at hl 2 rfl) ?_
  refine va_get (D := (dC, dI)) (ci := 0) (v := .ref (br 10)) (C := RX0) (T := TX0) (N := 17) hx hb hts hiX0 hown hK hP 0 rfl rfl 10 (by decide) (hts (.fieldLink RX0 40 "LinkModels$Build" "firsts" "[I") (by decide +kernel)) (fun _ h9 => h9) rfl dX0_addMember_65 ?_
  refine lv_iload hx hb dX0_addMember_68 (lv_at hl 0 rfl) ?_
  refine lv_aload_n hx hb dX0_addMember_70 rfl (lv_at hl 4 rfl) ?_
  refine va_get (D := (dC, dI)) (ci := 2) (v := .int sf) (C := RX3) (T := TX3) (N := 4) hx hb hts hiX3 hown hK hP 20 rfl rfl 2 (by decide) (hts (.fieldLink RX0 74 "LinkModels$Signature" "first" "I") (by decide +kernel)) (fun _ h9 => h9) rfl dX0_addMember_71 ?_
  refine va_iast hx hb hK hP hD hS 10 0 rfl rfl (vp_in_nI (show ((cc - 1) * 13) + (f4 (cc - 1)) < 208 by omega) (by decide)) dX0_addMember_74 (fun H locs hP hD hS => ?_)
  obtain ⟨f11, hP, hD⟩ : ∃ g : Nat → Int32, va_P (dC, dI) vwCl (kW bh br rh th tb sh cI cJ cB (nI cc) nA mA aA (fun j => nI (fcA j)) fA (fun j => nI (f4 j)) f8 f9 f10 g g2A nuA (fun j => nI (erA j)) reA (fun j => nI (liA j)) (fun j => nI (lcA j)) rm ry rf (nI tl) (nI ta) ts so tv tpA sw st sf sq) H ∧ va_D A (kW bh br rh th tb sh cI cJ cB (nI cc) nA mA aA (fun j => nI (fcA j)) fA (fun j => nI (f4 j)) f8 f9 f10 g g2A nuA (fun j => nI (erA j)) reA (fun j => nI (liA j)) (fun j => nI (lcA j)) rm ry rf (nI tl) (nI ta) ts so tv tpA sw st sf sq) := ⟨_, hP, hD⟩
  refine lv_aload_n hx hb dX0_addMember_75 rfl (lv_at hl 2 rfl) ?_
  refine va_get (D := (dC, dI)) (ci := 0) (v := .ref (br 11)) (C := RX0) (T := TX0) (N := 17) hx hb hts hiX0 hown hK hP 0 rfl rfl 11 (by decide) (hts (.fieldLink RX0 43 "LinkModels$Build" "seconds" "[I") (by decide +kernel)) (fun _ h9 => h9) rfl dX0_addMember_76 ?_
  refine lv_iload hx hb dX0_addMember_79 (lv_at hl 0 rfl) ?_
  refine lv_aload_n hx hb dX0_addMember_81 rfl (lv_at hl 4 rfl) ?_
  refine va_get (D := (dC, dI)) (ci := 2) (v := .int sq) (C := RX3) (T := TX3) (N := 4) hx hb hts hiX3 hown hK hP 20 rfl rfl 3 (by decide) (hts (.fieldLink RX0 77 "LinkModels$Signature" "second" "I") (by decide +kernel)) (fun _ h9 => h9) rfl dX0_addMember_82 ?_
  refine va_iast hx hb hK hP hD hS 11 0 rfl rfl (vp_in_nI (show ((cc - 1) * 13) + (f4 (cc - 1)) < 208 by omega) (by decide)) dX0_addMember_85 (fun H locs hP hD hS => ?_)
  obtain ⟨f12, hP, hD⟩ : ∃ g : Nat → Int32, va_P (dC, dI) vwCl (kW bh br rh th tb sh cI cJ cB (nI cc) nA mA aA (fun j => nI (fcA j)) fA (fun j => nI (f4 j)) f8 f9 f10 f11 g nuA (fun j => nI (erA j)) reA (fun j => nI (liA j)) (fun j => nI (lcA j)) rm ry rf (nI tl) (nI ta) ts so tv tpA sw st sf sq) H ∧ va_D A (kW bh br rh th tb sh cI cJ cB (nI cc) nA mA aA (fun j => nI (fcA j)) fA (fun j => nI (f4 j)) f8 f9 f10 f11 g nuA (fun j => nI (erA j)) reA (fun j => nI (liA j)) (fun j => nI (lcA j)) rm ry rf (nI tl) (nI ta) ts so tv tpA sw st sf sq) := ⟨_, hP, hD⟩
  refine lv_aload_n hx hb dX0_addMember_86 rfl (lv_at hl 2 rfl) ?_
  refine va_get (D := (dC, dI)) (ci := 0) (v := .ref (br 12)) (C := RX0) (T := TX0) (N := 17) hx hb hts hiX0 hown hK hP 0 rfl rfl 12 (by decide) (hts (.fieldLink RX0 46 "LinkModels$Build" "numbers" "[I") (by decide +kernel)) (fun _ h9 => h9) rfl dX0_addMember_87 ?_
  refine lv_iload hx hb dX0_addMember_90 (lv_at hl 0 rfl) ?_
  refine lv_iload_n hx hb dX0_addMember_92 rfl (lv_at hl 5 rfl) ?_
  refine va_iast hx hb hK hP hD hS 12 0 rfl rfl (vp_in_nI (show ((cc - 1) * 13) + (f4 (cc - 1)) < 208 by omega) (by decide)) dX0_addMember_93 (fun H locs hP hD hS => ?_)
  obtain ⟨f13, hP, hD⟩ : ∃ g : Nat → Int32, va_P (dC, dI) vwCl (kW bh br rh th tb sh cI cJ cB (nI cc) nA mA aA (fun j => nI (fcA j)) fA (fun j => nI (f4 j)) f8 f9 f10 f11 f12 g (fun j => nI (erA j)) reA (fun j => nI (liA j)) (fun j => nI (lcA j)) rm ry rf (nI tl) (nI ta) ts so tv tpA sw st sf sq) H ∧ va_D A (kW bh br rh th tb sh cI cJ cB (nI cc) nA mA aA (fun j => nI (fcA j)) fA (fun j => nI (f4 j)) f8 f9 f10 f11 f12 g (fun j => nI (erA j)) reA (fun j => nI (liA j)) (fun j => nI (lcA j)) rm ry rf (nI tl) (nI ta) ts so tv tpA sw st sf sq) := ⟨_, hP, hD⟩
  have hP9 : va_P (dC, dI) vwCl (kW bh br rh th tb sh cI cJ cB (nI cc) nA mA aA (fun j => nI (fcA j)) fA (fun j => nI (f4 j)) f8 f9 f10 f11 f12 f13 (fun j => nI (erA j)) reA (fun j => nI (liA j)) (fun j => nI (lcA j)) rm ry rf (nI tl) (nI ta) ts so tv tpA sw st sf sq) H := hP
  have hD9 : va_D A (kW bh br rh th tb sh cI cJ cB (nI cc) nA mA aA (fun j => nI (fcA j)) fA (fun j => nI (f4 j)) f8 f9 f10 f11 f12 f13 (fun j => nI (erA j)) reA (fun j => nI (liA j)) (fun j => nI (lcA j)) rm ry rf (nI tl) (nI ta) ts so tv tpA sw st sf sq) := hD
  exact W.vret hx hb hr (fun t ht hW => ⟨⟨(f4, f8, f9, f10, f11, f12, f13), rfl, hbf4, by rw [ht]; exact hP9, va_K.moved hW.alike hK, hD9⟩, hS.F ht⟩) hS.2.2 dX0_addMember_94
