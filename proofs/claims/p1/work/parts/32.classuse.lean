theorem z_le1 {x : Int32} (h : x ≤ 0) : x ≤ 1 := Int32.le_trans h (by decide)
theorem dX3_begin_0 : decode cX3_begin 0 = .ok (.aload_n 0, 1) := by decide +kernel
theorem dX3_begin_1 : decode cX3_begin 1 = .ok (.lload_n 1, 1) := by decide +kernel
theorem dX3_begin_2 : decode cX3_begin 2 = .ok (.putfield 7, 3) := by decide +kernel
theorem dX3_begin_5 : decode cX3_begin 5 = .ok (.aload_n 0, 1) := by decide +kernel
theorem dX3_begin_6 : decode cX3_begin 6 = .ok (.iconst 0, 1) := by decide +kernel
theorem dX3_begin_7 : decode cX3_begin 7 = .ok (.putfield 13, 3) := by decide +kernel
theorem dX3_begin_10 : decode cX3_begin 10 = .ok (.aload_n 0, 1) := by decide +kernel
theorem dX3_begin_11 : decode cX3_begin 11 = .ok (.iconst 0, 1) := by decide +kernel
theorem dX3_begin_12 : decode cX3_begin 12 = .ok (.putfield 17, 3) := by decide +kernel
theorem dX3_begin_15 : decode cX3_begin 15 = .ok (.aload_n 0, 1) := by decide +kernel
theorem dX3_begin_16 : decode cX3_begin 16 = .ok (.iconst 0, 1) := by decide +kernel
theorem dX3_begin_17 : decode cX3_begin 17 = .ok (.putfield 20, 3) := by decide +kernel
theorem dX3_begin_20 : decode cX3_begin 20 = .ok (.return_, 1) := by decide +kernel
def zwX3_begin : List Cond := .code yX3_begin cX3_begin 3 none :: ([.fieldLink RX3 7 "LinkModels$Signature" "word" "J", .fieldLink RX3 13 "LinkModels$Signature" "typeCount" "I", .fieldLink RX3 17 "LinkModels$Signature" "first" "I", .fieldLink RX3 20 "LinkModels$Signature" "second" "I"] ++ wsX30)
set_option maxHeartbeats 4000000 in
set_option maxRecDepth 100000 in
theorem zX3_begin (l : Launch) (dC : Nat → ClassId) (dI : Nat → Nat → Nat) (h0 : Nat) (w0 : Int64) (t0 f0 q0 : Int32) (p0 : Int64) (sz : Nat) : Met l yX3_begin zwX3_begin ({ frames := 0, cells := 0, slots := 0, locals := 0 }) (zPw dC dI [.ref h0, .long p0] sz [(h0, .inr (2, [.long w0, .int t0, .int f0, .int q0]))] []) (va_Qv (fun _ : Unit => True) (fun _ t => zB dC dI (va_A [(h0, .inr (2, [.long w0, .int t0, .int f0, .int q0]))] sz) [(h0, .inr (2, [.long p0, .int 0, .int 0, .int 0]))] [] t) (va_A [(h0, .inr (2, [.long w0, .int t0, .int f0, .int q0]))] sz)) 0 0 (va_A [(h0, .inr (2, [.long w0, .int t0, .int f0, .int q0]))] sz) := by
  refine Met.ofW (cc := cX3_begin) (maxL := 3) (ret := none) (by decide) rfl ?_
  intro p e s m args below meth c s₁ B hml hv
  obtain ⟨rfl, hsz, hP, hK, hD0⟩ := hv
  have hx := B.exec
  have hb := B.bytes
  have hr := B.returns
  have hts := atoms_spec (ws := zwX3_begin) B.pre
  have hown : s.vm.findClass RX3 = some m.cls := findClass_of_methodNamed B.named
  have hlocks := B.notSynchronized
  have hiX3 : ∀ w ∈ wsX30, w ∈ zwX3_begin := (by decide +kernel)
  subst hsz
  have hD := hD0.self (sz := s.heap.size)
  generalize hAe : va_A [(h0, .inr (2, [.long w0, .int t0, .int f0, .int q0]))] s.heap.size = A at hD ⊢
  have hA : ∀ q : Nat, s.heap.size ≤ q → A q := fun q h => by rw [← hAe]; exact Or.inr h
  have hS : va_S A s.heap s.heap [] := va_S.rf
  have hP : va_P (dC, dI) vwCl [(h0, .inr (2, [.long w0, .int t0, .int f0, .int q0]))] s.heap := hP
  have hl := lv_entry ([.ref h0, .long p0]) (n := 3) (Nat.le_of_ble_eq_true rfl)
  rw [lg_entry_eq]
  generalize (lg_sl ([.ref h0, .long p0]) ++ List.replicate (3 - (lg_sl ([.ref h0, .long p0])).length) Slot.unset).toArray = ls at hl ⊢
  have hl : lv_has ls 3 [(0, .ref h0), (1, .long p0)] := hl
  refine lv_aload_n hx hb dX3_begin_0 rfl (lv_at hl 0 rfl) ?_
  refine lv_lload_n hx hb dX3_begin_1 rfl (lv_at hl 1 rfl) ?_
  refine va_put (D := (dC, dI)) (ci := 2) (v := .long p0) (ty := (.long)) (C := RX3) (T := TX3) (N := 4) hx hb hts hiX3 tyX3 tyX3_ok nmX3 hown hK hP hD hS 0 rfl rfl 0 (by decide) (hts (.fieldLink RX3 7 "LinkModels$Signature" "word" "J") (by decide +kernel)) (fun _ h9 => h9) rfl (by decide +kernel) rfl rfl (Nat.le_of_ble_eq_true rfl) dX3_begin_2 (fun H locs hP hD hS => ?_)
  have hP : va_P (dC, dI) vwCl [(h0, .inr (2, [.long p0, .int t0, .int f0, .int q0]))] H := hP
  have hD : va_D A [(h0, .inr (2, [.long p0, .int t0, .int f0, .int q0]))] := hD
  refine lv_aload_n hx hb dX3_begin_5 rfl (lv_at hl 0 rfl) ?_
  refine lv_iconst (v := 0) hx hb dX3_begin_6 (by decide) ?_
  refine va_put (D := (dC, dI)) (ci := 2) (v := .int 0) (ty := (.int)) (C := RX3) (T := TX3) (N := 4) hx hb hts hiX3 tyX3 tyX3_ok nmX3 hown hK hP hD hS 0 rfl rfl 1 (by decide) (hts (.fieldLink RX3 13 "LinkModels$Signature" "typeCount" "I") (by decide +kernel)) (fun _ h9 => h9) rfl (by decide +kernel) rfl rfl (Nat.le_of_ble_eq_true rfl) dX3_begin_7 (fun H locs hP hD hS => ?_)
  have hP : va_P (dC, dI) vwCl [(h0, .inr (2, [.long p0, .int 0, .int f0, .int q0]))] H := hP
  have hD : va_D A [(h0, .inr (2, [.long p0, .int 0, .int f0, .int q0]))] := hD
  refine lv_aload_n hx hb dX3_begin_10 rfl (lv_at hl 0 rfl) ?_
  refine lv_iconst (v := 0) hx hb dX3_begin_11 (by decide) ?_
  refine va_put (D := (dC, dI)) (ci := 2) (v := .int 0) (ty := (.int)) (C := RX3) (T := TX3) (N := 4) hx hb hts hiX3 tyX3 tyX3_ok nmX3 hown hK hP hD hS 0 rfl rfl 2 (by decide) (hts (.fieldLink RX3 17 "LinkModels$Signature" "first" "I") (by decide +kernel)) (fun _ h9 => h9) rfl (by decide +kernel) rfl rfl (Nat.le_of_ble_eq_true rfl) dX3_begin_12 (fun H locs hP hD hS => ?_)
  have hP : va_P (dC, dI) vwCl [(h0, .inr (2, [.long p0, .int 0, .int 0, .int q0]))] H := hP
  have hD : va_D A [(h0, .inr (2, [.long p0, .int 0, .int 0, .int q0]))] := hD
  refine lv_aload_n hx hb dX3_begin_15 rfl (lv_at hl 0 rfl) ?_
  refine lv_iconst (v := 0) hx hb dX3_begin_16 (by decide) ?_
  refine va_put (D := (dC, dI)) (ci := 2) (v := .int 0) (ty := (.int)) (C := RX3) (T := TX3) (N := 4) hx hb hts hiX3 tyX3 tyX3_ok nmX3 hown hK hP hD hS 0 rfl rfl 3 (by decide) (hts (.fieldLink RX3 20 "LinkModels$Signature" "second" "I") (by decide +kernel)) (fun _ h9 => h9) rfl (by decide +kernel) rfl rfl (Nat.le_of_ble_eq_true rfl) dX3_begin_17 (fun H locs hP hD hS => ?_)
  have hP : va_P (dC, dI) vwCl [(h0, .inr (2, [.long p0, .int 0, .int 0, .int 0]))] H := hP
  have hD : va_D A [(h0, .inr (2, [.long p0, .int 0, .int 0, .int 0]))] := hD
  have hP9 := hP.sub (ws' := [(h0, .inr (2, [.long p0, .int 0, .int 0, .int 0]))]) [0] rfl
  have hD9 := hD.sub (ws' := [(h0, .inr (2, [.long p0, .int 0, .int 0, .int 0]))]) [0] (by decide) rfl
  have hK9 := hK.sub (tys' := []) [] rfl
  exact W.vret hx hb hr (fun t ht hW => ⟨⟨(), rfl, trivial, by rw [ht]; exact hP9, va_K.moved hW.alike hK9, hD9⟩, hS.F ht⟩) hS.2.2 dX3_begin_20
theorem dX3_add_0 : decode cX3_add 0 = .ok (.aload_n 0, 1) := by decide +kernel
theorem dX3_add_1 : decode cX3_add 1 = .ok (.getfield 13, 3) := by decide +kernel
theorem dX3_add_4 : decode cX3_add 4 = .ok (.ifCond .ne 11, 3) := by decide +kernel
theorem dX3_add_7 : decode cX3_add 7 = .ok (.aload_n 0, 1) := by decide +kernel
theorem dX3_add_8 : decode cX3_add 8 = .ok (.iload_n 1, 1) := by decide +kernel
theorem dX3_add_9 : decode cX3_add 9 = .ok (.putfield 17, 3) := by decide +kernel
theorem dX3_add_12 : decode cX3_add 12 = .ok (.goto 8, 3) := by decide +kernel
theorem dX3_add_15 : decode cX3_add 15 = .ok (.aload_n 0, 1) := by decide +kernel
theorem dX3_add_16 : decode cX3_add 16 = .ok (.iload_n 1, 1) := by decide +kernel
theorem dX3_add_17 : decode cX3_add 17 = .ok (.putfield 20, 3) := by decide +kernel
theorem dX3_add_20 : decode cX3_add 20 = .ok (.aload_n 0, 1) := by decide +kernel
theorem dX3_add_21 : decode cX3_add 21 = .ok (.dup, 1) := by decide +kernel
theorem dX3_add_22 : decode cX3_add 22 = .ok (.getfield 13, 3) := by decide +kernel
theorem dX3_add_25 : decode cX3_add 25 = .ok (.iconst 1, 1) := by decide +kernel
theorem dX3_add_26 : decode cX3_add 26 = .ok (.iadd, 1) := by decide +kernel
theorem dX3_add_27 : decode cX3_add 27 = .ok (.putfield 13, 3) := by decide +kernel
theorem dX3_add_30 : decode cX3_add 30 = .ok (.return_, 1) := by decide +kernel
def zwX3_add : List Cond := .code yX3_add cX3_add 2 none :: ([.fieldLink RX3 13 "LinkModels$Signature" "typeCount" "I", .fieldLink RX3 20 "LinkModels$Signature" "second" "I", .fieldLink RX3 17 "LinkModels$Signature" "first" "I"] ++ wsX30)
set_option maxHeartbeats 4000000 in
set_option maxRecDepth 100000 in
theorem zX3_add (l : Launch) (dC : Nat → ClassId) (dI : Nat → Nat → Nat) (h0 : Nat) (w0 : Int64) (t0 f0 q0 : Int32) (p0 : Int32) (sz : Nat) : Met l yX3_add zwX3_add ({ frames := 0, cells := 0, slots := 0, locals := 0 }) (zPw dC dI [.ref h0, .int p0] sz [(h0, .inr (2, [.long w0, .int t0, .int f0, .int q0]))] []) (va_Qv (fun _ : Nat → Int32 => True) (fun u t => zB dC dI (va_A [(h0, .inr (2, [.long w0, .int t0, .int f0, .int q0]))] sz) [(h0, .inr (2, [.long w0, .int (u 0), .int (u 1), .int (u 2)]))] [] t) (va_A [(h0, .inr (2, [.long w0, .int t0, .int f0, .int q0]))] sz)) 0 0 (va_A [(h0, .inr (2, [.long w0, .int t0, .int f0, .int q0]))] sz) := by
  refine Met.ofW (cc := cX3_add) (maxL := 2) (ret := none) (by decide) rfl ?_
  intro p e s m args below meth c s₁ B hml hv
  obtain ⟨rfl, hsz, hP, hK, hD0⟩ := hv
  have hx := B.exec
  have hb := B.bytes
  have hr := B.returns
  have hts := atoms_spec (ws := zwX3_add) B.pre
  have hown : s.vm.findClass RX3 = some m.cls := findClass_of_methodNamed B.named
  have hlocks := B.notSynchronized
  have hiX3 : ∀ w ∈ wsX30, w ∈ zwX3_add := (by decide +kernel)
  subst hsz
  have hD := hD0.self (sz := s.heap.size)
  generalize hAe : va_A [(h0, .inr (2, [.long w0, .int t0, .int f0, .int q0]))] s.heap.size = A at hD ⊢
  have hA : ∀ q : Nat, s.heap.size ≤ q → A q := fun q h => by rw [← hAe]; exact Or.inr h
  have hS : va_S A s.heap s.heap [] := va_S.rf
  have hP : va_P (dC, dI) vwCl [(h0, .inr (2, [.long w0, .int t0, .int f0, .int q0]))] s.heap := hP
  have hl := lv_entry ([.ref h0, .int p0]) (n := 2) (Nat.le_of_ble_eq_true rfl)
  rw [lg_entry_eq]
  generalize (lg_sl ([.ref h0, .int p0]) ++ List.replicate (2 - (lg_sl ([.ref h0, .int p0])).length) Slot.unset).toArray = ls at hl ⊢
  have hl : lv_has ls 2 [(0, .ref h0), (1, .int p0)] := hl
  refine lv_aload_n hx hb dX3_add_0 rfl (lv_at hl 0 rfl) ?_
  refine va_get (D := (dC, dI)) (ci := 2) (v := .int t0) (C := RX3) (T := TX3) (N := 4) hx hb hts hiX3 hown hK hP 0 rfl rfl 1 (by decide) (hts (.fieldLink RX3 13 "LinkModels$Signature" "typeCount" "I") (by decide +kernel)) (fun _ h9 => h9) rfl dX3_add_1 ?_
  refine lv_if_ne (tgt := 15) hx hb dX3_add_4 (by decide) (fun c1 => ?_) (fun c1 => ?_)
  · refine lv_aload_n hx hb dX3_add_15 rfl (lv_at hl 0 rfl) ?_
    refine lv_iload_n hx hb dX3_add_16 rfl (lv_at hl 1 rfl) ?_
    refine va_put (D := (dC, dI)) (ci := 2) (v := .int p0) (ty := (.int)) (C := RX3) (T := TX3) (N := 4) hx hb hts hiX3 tyX3 tyX3_ok nmX3 hown hK hP hD hS 0 rfl rfl 3 (by decide) (hts (.fieldLink RX3 20 "LinkModels$Signature" "second" "I") (by decide +kernel)) (fun _ h9 => h9) rfl (by decide +kernel) rfl rfl (Nat.le_of_ble_eq_true rfl) dX3_add_17 (fun H locs hP hD hS => ?_)
    have hP : va_P (dC, dI) vwCl [(h0, .inr (2, [.long w0, .int t0, .int f0, .int p0]))] H := hP
    have hD : va_D A [(h0, .inr (2, [.long w0, .int t0, .int f0, .int p0]))] := hD
    refine lv_aload_n hx hb dX3_add_20 rfl (lv_at hl 0 rfl) ?_
    refine lv_dup hx hb dX3_add_21 rfl ?_
    refine va_get (D := (dC, dI)) (ci := 2) (v := .int t0) (C := RX3) (T := TX3) (N := 4) hx hb hts hiX3 hown hK hP 0 rfl rfl 1 (by decide) (hts (.fieldLink RX3 13 "LinkModels$Signature" "typeCount" "I") (by decide +kernel)) (fun _ h9 => h9) rfl dX3_add_22 ?_
    refine lv_iconst (v := 1) hx hb dX3_add_25 (by decide) ?_
    refine lv_iadd hx hb dX3_add_26 ?_
    refine lv_topi (fun x1 ex1 => ?_)
    refine va_put (D := (dC, dI)) (ci := 2) (v := .int x1) (ty := (.int)) (C := RX3) (T := TX3) (N := 4) hx hb hts hiX3 tyX3 tyX3_ok nmX3 hown hK hP hD hS 0 rfl rfl 1 (by decide) (hts (.fieldLink RX3 13 "LinkModels$Signature" "typeCount" "I") (by decide +kernel)) (fun _ h9 => h9) rfl (by decide +kernel) rfl rfl (Nat.le_of_ble_eq_true rfl) dX3_add_27 (fun H locs hP hD hS => ?_)
    have hP : va_P (dC, dI) vwCl [(h0, .inr (2, [.long w0, .int x1, .int f0, .int p0]))] H := hP
    have hD : va_D A [(h0, .inr (2, [.long w0, .int x1, .int f0, .int p0]))] := hD
    have hP9 := hP.sub (ws' := [(h0, .inr (2, [.long w0, .int x1, .int f0, .int p0]))]) [0] rfl
    have hD9 := hD.sub (ws' := [(h0, .inr (2, [.long w0, .int x1, .int f0, .int p0]))]) [0] (by decide) rfl
    have hK9 := hK.sub (tys' := []) [] rfl
    exact W.vret hx hb hr (fun t ht hW => ⟨⟨(fun k => ([x1, f0, p0] : List Int32).getD k 0), rfl, trivial, by rw [ht]; exact hP9, va_K.moved hW.alike hK9, hD9⟩, hS.F ht⟩) hS.2.2 dX3_add_30
  · refine lv_aload_n hx hb dX3_add_7 rfl (lv_at hl 0 rfl) ?_
    refine lv_iload_n hx hb dX3_add_8 rfl (lv_at hl 1 rfl) ?_
    refine va_put (D := (dC, dI)) (ci := 2) (v := .int p0) (ty := (.int)) (C := RX3) (T := TX3) (N := 4) hx hb hts hiX3 tyX3 tyX3_ok nmX3 hown hK hP hD hS 0 rfl rfl 2 (by decide) (hts (.fieldLink RX3 17 "LinkModels$Signature" "first" "I") (by decide +kernel)) (fun _ h9 => h9) rfl (by decide +kernel) rfl rfl (Nat.le_of_ble_eq_true rfl) dX3_add_9 (fun H locs hP hD hS => ?_)
    have hP : va_P (dC, dI) vwCl [(h0, .inr (2, [.long w0, .int t0, .int p0, .int q0]))] H := hP
    have hD : va_D A [(h0, .inr (2, [.long w0, .int t0, .int p0, .int q0]))] := hD
    refine lv_goto (tgt := 20) hx hb dX3_add_12 (by decide) ?_
    refine lv_aload_n hx hb dX3_add_20 rfl (lv_at hl 0 rfl) ?_
    refine lv_dup hx hb dX3_add_21 rfl ?_
    refine va_get (D := (dC, dI)) (ci := 2) (v := .int t0) (C := RX3) (T := TX3) (N := 4) hx hb hts hiX3 hown hK hP 0 rfl rfl 1 (by decide) (hts (.fieldLink RX3 13 "LinkModels$Signature" "typeCount" "I") (by decide +kernel)) (fun _ h9 => h9) rfl dX3_add_22 ?_
    refine lv_iconst (v := 1) hx hb dX3_add_25 (by decide) ?_
    refine lv_iadd hx hb dX3_add_26 ?_
    refine lv_topi (fun x2 ex2 => ?_)
    refine va_put (D := (dC, dI)) (ci := 2) (v := .int x2) (ty := (.int)) (C := RX3) (T := TX3) (N := 4) hx hb hts hiX3 tyX3 tyX3_ok nmX3 hown hK hP hD hS 0 rfl rfl 1 (by decide) (hts (.fieldLink RX3 13 "LinkModels$Signature" "typeCount" "I") (by decide +kernel)) (fun _ h9 => h9) rfl (by decide +kernel) rfl rfl (Nat.le_of_ble_eq_true rfl) dX3_add_27 (fun H locs hP hD hS => ?_)
    have hP : va_P (dC, dI) vwCl [(h0, .inr (2, [.long w0, .int x2, .int p0, .int q0]))] H := hP
    have hD : va_D A [(h0, .inr (2, [.long w0, .int x2, .int p0, .int q0]))] := hD
    have hP9 := hP.sub (ws' := [(h0, .inr (2, [.long w0, .int x2, .int p0, .int q0]))]) [0] rfl
    have hD9 := hD.sub (ws' := [(h0, .inr (2, [.long w0, .int x2, .int p0, .int q0]))]) [0] (by decide) rfl
    have hK9 := hK.sub (tys' := []) [] rfl
    exact W.vret hx hb hr (fun t ht hW => ⟨⟨(fun k => ([x2, p0, q0] : List Int32).getD k 0), rfl, trivial, by rw [ht]; exact hP9, va_K.moved hW.alike hK9, hD9⟩, hS.F ht⟩) hS.2.2 dX3_add_30
theorem dX5_init_0 : decode cX5_init 0 = .ok (.aload_n 0, 1) := by decide +kernel
theorem dX5_init_1 : decode cX5_init 1 = .ok (.invokespecial 3, 3) := by decide +kernel
theorem dX5_init_4 : decode cX5_init 4 = .ok (.aload_n 0, 1) := by decide +kernel
theorem dX5_init_5 : decode cX5_init 5 = .ok (.iload_n 1, 1) := by decide +kernel
theorem dX5_init_6 : decode cX5_init 6 = .ok (.putfield 9, 3) := by decide +kernel
theorem dX5_init_9 : decode cX5_init 9 = .ok (.aload_n 0, 1) := by decide +kernel
theorem dX5_init_10 : decode cX5_init 10 = .ok (.iload_n 2, 1) := by decide +kernel
theorem dX5_init_11 : decode cX5_init 11 = .ok (.putfield 15, 3) := by decide +kernel
theorem dX5_init_14 : decode cX5_init 14 = .ok (.aload_n 0, 1) := by decide +kernel
theorem dX5_init_15 : decode cX5_init 15 = .ok (.iload_n 3, 1) := by decide +kernel
theorem dX5_init_16 : decode cX5_init 16 = .ok (.putfield 18, 3) := by decide +kernel
theorem dX5_init_19 : decode cX5_init 19 = .ok (.aload_n 0, 1) := by decide +kernel
theorem dX5_init_20 : decode cX5_init 20 = .ok (.new 21, 3) := by decide +kernel
theorem dX5_init_23 : decode cX5_init 23 = .ok (.dup, 1) := by decide +kernel
theorem dX5_init_24 : decode cX5_init 24 = .ok (.invokespecial 23, 3) := by decide +kernel
theorem dX5_init_27 : decode cX5_init 27 = .ok (.putfield 24, 3) := by decide +kernel
theorem dX5_init_30 : decode cX5_init 30 = .ok (.aload_n 0, 1) := by decide +kernel
theorem dX5_init_31 : decode cX5_init 31 = .ok (.iconst (-1), 1) := by decide +kernel
theorem dX5_init_32 : decode cX5_init 32 = .ok (.putfield 28, 3) := by decide +kernel
theorem dX5_init_35 : decode cX5_init 35 = .ok (.return_, 1) := by decide +kernel
def zwX5_init : List Cond := .code yX5_init cX5_init 4 none :: ([.methodLink RX5 3 objectInit, .instanceMethod objectInit, .code objectInit ⟨#[0xb1]⟩ 1 none, .fieldLink RX5 9 "LinkModels$Use" "kind" "I", .fieldLink RX5 15 "LinkModels$Use" "caller" "I", .fieldLink RX5 18 "LinkModels$Use" "owner" "I", .classLink RX5 21 RX3, .instantiable RX3 4, .initialized RX3, .instanceMethod yX3_init, .fieldLink RX5 24 "LinkModels$Use" "wanted" "LLinkModels$Signature;", .fieldLink RX5 28 "LinkModels$Use" "copy" "I", .code yX3_init cX3_init 1 none, .methodLink RX3 1 objectInit] ++ wsX50 ++ wsX30)
theorem zgX5_init_X3_init_23 : GoodIn zwX5_init zwX3_init := goodIn_of _ (by decide +kernel)
set_option maxHeartbeats 4000000 in
set_option maxRecDepth 100000 in
theorem zX5_init (l : Launch) (dC : Nat → ClassId) (dI : Nat → Nat → Nat) (h0 : Nat) (p0 p1 p2 : Int32) (sz : Nat) : Met l yX5_init zwX5_init ({ frames := 2, cells := 1, slots := 4, locals := 32 }) (zPe dC dI [.ref h0, .int p0, .int p1, .int p2] sz [(h0, .inr (4, [.int 0, .int 0, .int 0, .null, .int 0]))] []) (va_Qv (fun _ : (Nat → Nat) => True) (fun u t => zB dC dI (va_A [(h0, .inr (4, [.int 0, .int 0, .int 0, .null, .int 0]))] sz) [(h0, .inr (4, [.int p0, .int p1, .int p2, .ref (u 0), .int (-1)])), (u 0, .inr (2, [.long 0, .int 0, .int 0, .int 0]))] [] t) (va_A [(h0, .inr (4, [.int 0, .int 0, .int 0, .null, .int 0]))] sz)) 1 4 (va_A [(h0, .inr (4, [.int 0, .int 0, .int 0, .null, .int 0]))] sz) := by
  refine Met.ofW (cc := cX5_init) (maxL := 4) (ret := none) (by decide) rfl ?_
  intro p e s m args below meth c s₁ B hml hv
  obtain ⟨rfl, hsz, hP, hK, hD0, hE⟩ := hv
  have hx := B.exec
  have hb := B.bytes
  have hr := B.returns
  have hts := atoms_spec (ws := zwX5_init) B.pre
  have hown : s.vm.findClass RX5 = some m.cls := findClass_of_methodNamed B.named
  have hlocks := B.notSynchronized
  have hin : meth.name = "<init>" := (name_of_methodNamed B.named B.method).1
  have hiX5 : ∀ w ∈ wsX50, w ∈ zwX5_init := (by decide +kernel)
  have hiX3 : ∀ w ∈ wsX30, w ∈ zwX5_init := (by decide +kernel)
  subst hsz
  have hD := hD0.self (sz := s.heap.size)
  generalize hAe : va_A [(h0, .inr (4, [.int 0, .int 0, .int 0, .null, .int 0]))] s.heap.size = A at hD ⊢
  have hA : ∀ q : Nat, s.heap.size ≤ q → A q := fun q h => by rw [← hAe]; exact Or.inr h
  have hS : va_S A s.heap s.heap [] := va_S.rf
  have hP : va_P (dC, dI) vwCl [(h0, .inr (4, [.int 0, .int 0, .int 0, .null, .int 0]))] s.heap := hP
  have hl := lv_entry ([.ref h0, .int p0, .int p1, .int p2]) (n := 4) (Nat.le_of_ble_eq_true rfl)
  rw [lg_entry_eq]
  generalize (lg_sl ([.ref h0, .int p0, .int p1, .int p2]) ++ List.replicate (4 - (lg_sl ([.ref h0, .int p0, .int p1, .int p2])).length) Slot.unset).toArray = ls at hl ⊢
  have hl : lv_has ls 4 [(0, .ref h0), (1, .int p0), (2, .int p1), (3, .int p2)] := hl
  refine lv_aload_n hx hb dX5_init_0 rfl (lv_at hl 0 rfl) ?_
  refine W.objInit hx hb hown (hts (.methodLink RX5 3 objectInit) (by decide +kernel)) (hts (.instanceMethod objectInit) (by decide +kernel)) (hts (.code objectInit ⟨#[0xb1]⟩ 1 none) (by decide +kernel)) rfl (by rw [hml]; exact hl.1) rfl dX5_init_1 (Nat.le_of_ble_eq_true rfl) (Nat.le_of_ble_eq_true rfl) ?_
  refine W.eq (g2 := F0 m 4 ls []) rfl ?_
  refine lv_aload_n hx hb dX5_init_4 rfl (lv_at hl 0 rfl) ?_
  refine lv_iload_n hx hb dX5_init_5 rfl (lv_at hl 1 rfl) ?_
  refine va_putF (D := (dC, dI)) (ci := 4) (v := .int p0) (ty := (.int)) (C := RX5) (T := TX5) (N := 5) hx hb hts hiX5 tyX5 tyX5_ok nmX5 hown hK hP hD hS 0 rfl rfl 0 (by decide) (hts (.fieldLink RX5 9 "LinkModels$Use" "kind" "I") (by decide +kernel)) (fun _ h9 => h9) rfl hin rfl (by decide +kernel) rfl rfl (Nat.le_of_ble_eq_true rfl) dX5_init_6 (fun H locs hP hD hS => ?_)
  have hP : va_P (dC, dI) vwCl [(h0, .inr (4, [.int p0, .int 0, .int 0, .null, .int 0]))] H := hP
  have hD : va_D A [(h0, .inr (4, [.int p0, .int 0, .int 0, .null, .int 0]))] := hD
  refine lv_aload_n hx hb dX5_init_9 rfl (lv_at hl 0 rfl) ?_
  refine lv_iload_n hx hb dX5_init_10 rfl (lv_at hl 2 rfl) ?_
  refine va_putF (D := (dC, dI)) (ci := 4) (v := .int p1) (ty := (.int)) (C := RX5) (T := TX5) (N := 5) hx hb hts hiX5 tyX5 tyX5_ok nmX5 hown hK hP hD hS 0 rfl rfl 1 (by decide) (hts (.fieldLink RX5 15 "LinkModels$Use" "caller" "I") (by decide +kernel)) (fun _ h9 => h9) rfl hin rfl (by decide +kernel) rfl rfl (Nat.le_of_ble_eq_true rfl) dX5_init_11 (fun H locs hP hD hS => ?_)
  have hP : va_P (dC, dI) vwCl [(h0, .inr (4, [.int p0, .int p1, .int 0, .null, .int 0]))] H := hP
  have hD : va_D A [(h0, .inr (4, [.int p0, .int p1, .int 0, .null, .int 0]))] := hD
  refine lv_aload_n hx hb dX5_init_14 rfl (lv_at hl 0 rfl) ?_
  refine lv_iload_n hx hb dX5_init_15 rfl (lv_at hl 3 rfl) ?_
  refine va_putF (D := (dC, dI)) (ci := 4) (v := .int p2) (ty := (.int)) (C := RX5) (T := TX5) (N := 5) hx hb hts hiX5 tyX5 tyX5_ok nmX5 hown hK hP hD hS 0 rfl rfl 2 (by decide) (hts (.fieldLink RX5 18 "LinkModels$Use" "owner" "I") (by decide +kernel)) (fun _ h9 => h9) rfl hin rfl (by decide +kernel) rfl rfl (Nat.le_of_ble_eq_true rfl) dX5_init_16 (fun H locs hP hD hS => ?_)
  have hP : va_P (dC, dI) vwCl [(h0, .inr (4, [.int p0, .int p1, .int p2, .null, .int 0]))] H := hP
  have hD : va_D A [(h0, .inr (4, [.int p0, .int p1, .int p2, .null, .int 0]))] := hD
  refine lv_aload_n hx hb dX5_init_19 rfl (lv_at hl 0 rfl) ?_
  refine va_new (ci := 2) (fs := [.long 0, .int 0, .int 0, .int 0]) (C := RX3) (T := TX3) (N := 4) hx hb hts hiX3 tyX3 tyX3_ok hown (hts (.classLink RX5 21 RX3) (by decide +kernel)) (hts (.instantiable RX3 4) (by decide +kernel)) (hts (.initialized RX3) (by decide +kernel)) hK hP hD hS hA rfl (by decide +kernel) (show 0 + 1 ≤ 1 by omega) (show 0 + 4 ≤ 4 by omega) dX5_init_20 (fun q1 H hP hD hS => ?_)
  have hP : va_P (dC, dI) vwCl [(h0, .inr (4, [.int p0, .int p1, .int p2, .null, .int 0])), (q1, .inr (2, [.long 0, .int 0, .int 0, .int 0]))] H := hP
  have hD : va_D A [(h0, .inr (4, [.int p0, .int p1, .int p2, .null, .int 0])), (q1, .inr (2, [.long 0, .int 0, .int 0, .int 0]))] := hD
  refine W.widen (k := 1) (n := 4) (by omega) (by omega) ?_
  refine lv_dup hx hb dX5_init_23 rfl ?_
  have hPc := hP.sub (ws' := [(q1, .inr (2, [.long 0, .int 0, .int 0, .int 0]))]) [1] rfl
  have hDc := hD.sub (ws' := [(q1, .inr (2, [.long 0, .int 0, .int 0, .int 0]))]) [1] (by decide) rfl
  have hKc := hK.sub (tys' := []) [] rfl
  have hFc := va_free (wc := [(q1, .inr (2, [.long 0, .int 0, .int 0, .int 0]))]) hD hS hA [1] rfl
  refine va_callv (va_runIN (As := []) (rest := [.ref q1, .ref h0]) ⟨hx, hb, hml, hown, hts⟩ (zX3_init l dC dI q1 H.size) ⟨va_cnB 0 hts zgX5_init_X3_init_23 rfl rfl rfl hE.2.2.2.2 (hts (.initialized RX3) (by decide +kernel)) (by decide +kernel) ⟨(show 1 + 1 ≤ 2 by omega), (show 8 + (1 + 11) + 12 ≤ 32 by omega)⟩, rfl, (hts (.instanceMethod yX3_init) (by decide +kernel))⟩ (zSw hKc hPc hDc) rfl rfl hl.1 rfl (lv_room (Nat.le_of_ble_eq_true rfl)) dX5_init_24 ⟨(show 1 + 0 ≤ 1 by omega), (show 4 + 0 ≤ 4 by omega)⟩) hS (fun q _ h => hFc q h) hFc (fun u2 t H1 locs ht hvm hw hB hz1 hk1 hS => ?_)
  obtain ⟨hP1, hK1, hD1⟩ := hB
  rw [ht] at hP1
  have hK1 := va_K.moved hvm.symm hK1
  obtain ⟨hP, hD⟩ := va_join (wr := [(h0, .inr (4, [.int p0, .int p1, .int p2, .null, .int 0]))]) (w1 := [(q1, .inr (2, [.long 0, .int 0, .int 0, .int 0]))]) hP hD [1] [0] rfl rfl (by decide) (by decide) hk1 hFc hP1 hD1
  have hK := (hK.sub (tys' := []) [] rfl).app hK1
  generalize H1 = H at hP hS ⊢
  have hP : va_P (dC, dI) vwCl [(h0, .inr (4, [.int p0, .int p1, .int p2, .null, .int 0])), (q1, .inr (2, [.long 0, .int 0, .int 0, .int 0]))] H := hP
  have hD : va_D A [(h0, .inr (4, [.int p0, .int p1, .int p2, .null, .int 0])), (q1, .inr (2, [.long 0, .int 0, .int 0, .int 0]))] := hD
  have hK : va_K (dC, dI) vwCl [] s := hK
  refine va_putF (D := (dC, dI)) (ci := 4) (v := .ref q1) (ty := (.object "LinkModels$Signature")) (C := RX5) (T := TX5) (N := 5) hx hb hts hiX5 tyX5 tyX5_ok nmX5 hown hK hP hD hS 0 rfl rfl 3 (by decide) (hts (.fieldLink RX5 24 "LinkModels$Use" "wanted" "LLinkModels$Signature;") (by decide +kernel)) (fun _ h9 => h9) rfl hin rfl (by decide +kernel) rfl rfl (Nat.le_of_ble_eq_true rfl) dX5_init_27 (fun H locs hP hD hS => ?_)
  have hP : va_P (dC, dI) vwCl [(h0, .inr (4, [.int p0, .int p1, .int p2, .ref q1, .int 0])), (q1, .inr (2, [.long 0, .int 0, .int 0, .int 0]))] H := hP
  have hD : va_D A [(h0, .inr (4, [.int p0, .int p1, .int p2, .ref q1, .int 0])), (q1, .inr (2, [.long 0, .int 0, .int 0, .int 0]))] := hD
  refine lv_aload_n hx hb dX5_init_30 rfl (lv_at hl 0 rfl) ?_
  refine lv_iconst (v := (-1)) hx hb dX5_init_31 (by decide) ?_
  refine va_put (D := (dC, dI)) (ci := 4) (v := .int (-1)) (ty := (.int)) (C := RX5) (T := TX5) (N := 5) hx hb hts hiX5 tyX5 tyX5_ok nmX5 hown hK hP hD hS 0 rfl rfl 4 (by decide) (hts (.fieldLink RX5 28 "LinkModels$Use" "copy" "I") (by decide +kernel)) (fun _ h9 => h9) rfl (by decide +kernel) rfl rfl (Nat.le_of_ble_eq_true rfl) dX5_init_32 (fun H locs hP hD hS => ?_)
  have hP : va_P (dC, dI) vwCl [(h0, .inr (4, [.int p0, .int p1, .int p2, .ref q1, .int (-1)])), (q1, .inr (2, [.long 0, .int 0, .int 0, .int 0]))] H := hP
  have hD : va_D A [(h0, .inr (4, [.int p0, .int p1, .int p2, .ref q1, .int (-1)])), (q1, .inr (2, [.long 0, .int 0, .int 0, .int 0]))] := hD
  have hP9 := hP.sub (ws' := [(h0, .inr (4, [.int p0, .int p1, .int p2, .ref q1, .int (-1)])), (q1, .inr (2, [.long 0, .int 0, .int 0, .int 0]))]) [0, 1] rfl
  have hD9 := hD.sub (ws' := [(h0, .inr (4, [.int p0, .int p1, .int p2, .ref q1, .int (-1)])), (q1, .inr (2, [.long 0, .int 0, .int 0, .int 0]))]) [0, 1] (by decide) rfl
  have hK9 := hK.sub (tys' := []) [] rfl
  exact W.vret hx hb hr (fun t ht hW => ⟨⟨(fun _ => q1), rfl, trivial, by rw [ht]; exact hP9, va_K.moved hW.alike hK9, hD9⟩, hS.F ht⟩) hS.2.2 dX5_init_35
theorem dX6_use_0 : decode cX6_use 0 = .ok (.iload_n 1, 1) := by decide +kernel
theorem dX6_use_1 : decode cX6_use 1 = .ok (.ifCond .lt 20, 3) := by decide +kernel
theorem dX6_use_4 : decode cX6_use 4 = .ok (.iload_n 1, 1) := by decide +kernel
theorem dX6_use_5 : decode cX6_use 5 = .ok (.bipush 9, 2) := by decide +kernel
theorem dX6_use_7 : decode cX6_use 7 = .ok (.if_icmp .gt 14, 3) := by decide +kernel
theorem dX6_use_10 : decode cX6_use 10 = .ok (.iload 6, 2) := by decide +kernel
theorem dX6_use_12 : decode cX6_use 12 = .ok (.ifCond .lt 9, 3) := by decide +kernel
theorem dX6_use_15 : decode cX6_use 15 = .ok (.iload 6, 2) := by decide +kernel
theorem dX6_use_17 : decode cX6_use 17 = .ok (.iconst 2, 1) := by decide +kernel
theorem dX6_use_18 : decode cX6_use 18 = .ok (.if_icmp .le 6, 3) := by decide +kernel
theorem dX6_use_21 : decode cX6_use 21 = .ok (.bipush (-3), 2) := by decide +kernel
theorem dX6_use_23 : decode cX6_use 23 = .ok (.ireturn, 1) := by decide +kernel
theorem dX6_use_24 : decode cX6_use 24 = .ok (.aload_n 0, 1) := by decide +kernel
theorem dX6_use_25 : decode cX6_use 25 = .ok (.getfield 32, 3) := by decide +kernel
theorem dX6_use_28 : decode cX6_use 28 = .ok (.bipush 40, 2) := by decide +kernel
theorem dX6_use_30 : decode cX6_use 30 = .ok (.if_icmp .lt 6, 3) := by decide +kernel
theorem dX6_use_36 : decode cX6_use 36 = .ok (.new 26, 3) := by decide +kernel
theorem dX6_use_39 : decode cX6_use 39 = .ok (.dup, 1) := by decide +kernel
theorem dX6_use_40 : decode cX6_use 40 = .ok (.iload_n 1, 1) := by decide +kernel
theorem dX6_use_41 : decode cX6_use 41 = .ok (.iload_n 2, 1) := by decide +kernel
theorem dX6_use_42 : decode cX6_use 42 = .ok (.iload_n 3, 1) := by decide +kernel
theorem dX6_use_43 : decode cX6_use 43 = .ok (.invokespecial 93, 3) := by decide +kernel
theorem dX6_use_46 : decode cX6_use 46 = .ok (.astore 9, 2) := by decide +kernel
theorem dX6_use_48 : decode cX6_use 48 = .ok (.aload 9, 2) := by decide +kernel
theorem dX6_use_50 : decode cX6_use 50 = .ok (.getfield 96, 3) := by decide +kernel
theorem dX6_use_53 : decode cX6_use 53 = .ok (.lload 4, 2) := by decide +kernel
theorem dX6_use_55 : decode cX6_use 55 = .ok (.invokevirtual 100, 3) := by decide +kernel
theorem dX6_use_58 : decode cX6_use 58 = .ok (.iload 6, 2) := by decide +kernel
theorem dX6_use_60 : decode cX6_use 60 = .ok (.ifCond .le 13, 3) := by decide +kernel
theorem dX6_use_63 : decode cX6_use 63 = .ok (.aload 9, 2) := by decide +kernel
theorem dX6_use_65 : decode cX6_use 65 = .ok (.getfield 96, 3) := by decide +kernel
theorem dX6_use_68 : decode cX6_use 68 = .ok (.iload 7, 2) := by decide +kernel
theorem dX6_use_70 : decode cX6_use 70 = .ok (.invokevirtual 106, 3) := by decide +kernel
theorem dX6_use_73 : decode cX6_use 73 = .ok (.iload 6, 2) := by decide +kernel
theorem dX6_use_75 : decode cX6_use 75 = .ok (.iconst 1, 1) := by decide +kernel
theorem dX6_use_76 : decode cX6_use 76 = .ok (.if_icmp .le 13, 3) := by decide +kernel
theorem dX6_use_79 : decode cX6_use 79 = .ok (.aload 9, 2) := by decide +kernel
theorem dX6_use_81 : decode cX6_use 81 = .ok (.getfield 96, 3) := by decide +kernel
theorem dX6_use_84 : decode cX6_use 84 = .ok (.iload 8, 2) := by decide +kernel
theorem dX6_use_86 : decode cX6_use 86 = .ok (.invokevirtual 106, 3) := by decide +kernel
theorem dX6_use_89 : decode cX6_use 89 = .ok (.aload_n 0, 1) := by decide +kernel
theorem dX6_use_90 : decode cX6_use 90 = .ok (.getfield 28, 3) := by decide +kernel
theorem dX6_use_93 : decode cX6_use 93 = .ok (.aload_n 0, 1) := by decide +kernel
theorem dX6_use_94 : decode cX6_use 94 = .ok (.getfield 32, 3) := by decide +kernel
theorem dX6_use_97 : decode cX6_use 97 = .ok (.aload 9, 2) := by decide +kernel
theorem dX6_use_99 : decode cX6_use 99 = .ok (.aastore, 1) := by decide +kernel
theorem dX6_use_100 : decode cX6_use 100 = .ok (.aload_n 0, 1) := by decide +kernel
theorem dX6_use_101 : decode cX6_use 101 = .ok (.dup, 1) := by decide +kernel
theorem dX6_use_102 : decode cX6_use 102 = .ok (.getfield 32, 3) := by decide +kernel
theorem dX6_use_105 : decode cX6_use 105 = .ok (.iconst 1, 1) := by decide +kernel
theorem dX6_use_106 : decode cX6_use 106 = .ok (.iadd, 1) := by decide +kernel
theorem dX6_use_107 : decode cX6_use 107 = .ok (.putfield 32, 3) := by decide +kernel
theorem dX6_use_110 : decode cX6_use 110 = .ok (.aload_n 0, 1) := by decide +kernel
theorem dX6_use_111 : decode cX6_use 111 = .ok (.getfield 32, 3) := by decide +kernel
theorem dX6_use_114 : decode cX6_use 114 = .ok (.iconst 1, 1) := by decide +kernel
theorem dX6_use_115 : decode cX6_use 115 = .ok (.isub, 1) := by decide +kernel
theorem dX6_use_116 : decode cX6_use 116 = .ok (.ireturn, 1) := by decide +kernel
def zwX6_use : List Cond := .code yX6_use cX6_use 10 (some .int) :: ([.fieldLink RX6 32 "LinkModels" "useCount" "I", .classLink RX6 26 RX5, .instantiable RX5 5, .initialized RX5, .methodLink RX6 93 yX5_init, .instanceMethod yX5_init, .fieldLink RX6 96 "LinkModels$Use" "wanted" "LLinkModels$Signature;", .fieldLink RX6 28 "LinkModels" "uses" "[LLinkModels$Use;", .code yX5_init cX5_init 4 none, .methodLink RX5 3 objectInit, .instanceMethod objectInit, .code objectInit ⟨#[0xb1]⟩ 1 none, .fieldLink RX5 9 "LinkModels$Use" "kind" "I", .fieldLink RX5 15 "LinkModels$Use" "caller" "I", .fieldLink RX5 18 "LinkModels$Use" "owner" "I", .classLink RX5 21 RX3, .instantiable RX3 4, .initialized RX3, .instanceMethod yX3_init, .fieldLink RX5 24 "LinkModels$Use" "wanted" "LLinkModels$Signature;", .fieldLink RX5 28 "LinkModels$Use" "copy" "I", .code yX3_init cX3_init 1 none, .methodLink RX3 1 objectInit, .methodLink RX6 100 yX3_begin, .instanceMethod yX3_begin, .selects RX3 yX3_begin yX3_begin, .code yX3_begin cX3_begin 3 none, .fieldLink RX3 7 "LinkModels$Signature" "word" "J", .fieldLink RX3 13 "LinkModels$Signature" "typeCount" "I", .fieldLink RX3 17 "LinkModels$Signature" "first" "I", .fieldLink RX3 20 "LinkModels$Signature" "second" "I", .methodLink RX6 106 yX3_add, .instanceMethod yX3_add, .selects RX3 yX3_add yX3_add, .code yX3_add cX3_add 2 none] ++ wsX60 ++ wsX50 ++ wsX30)
theorem zgX6_use_X5_init_93 : GoodIn zwX6_use zwX5_init := goodIn_of _ (by decide +kernel)
theorem zgX6_use_X3_begin_100 : GoodIn zwX6_use (wsV RX6 100 RX3 yX3_begin zwX3_begin) := goodIn_of _ (by decide +kernel)
theorem zgX6_use_X3_add_106 : GoodIn zwX6_use (wsV RX6 106 RX3 yX3_add zwX3_add) := goodIn_of _ (by decide +kernel)
set_option maxHeartbeats 4000000 in
set_option maxRecDepth 100000 in
theorem zX6_use (l : Launch) (dC : Nat → ClassId) (dI : Nat → Nat → Nat) (h0 rt rb ru rr : Nat) (cU : ClassId) (p0 p1 p2 : Int32) (p3 : Int64) (p4 p5 p6 : Int32) (sz : Nat) : Met l yX6_use zwX6_use ({ frames := 3, cells := 2, slots := 9, locals := 55 }) (zPe dC dI [.ref h0, .int p0, .int p1, .int p2, .long p3, .int p4, .int p5, .int p6] sz [(h0, .inr (5, [.ref rt, .int 0, .ref rb, .int 0, .ref ru, .int 0, .ref rr])), (ru, .inl (cU, 40, .inr (.inr (.inr (.inr (fun _ => none))))))] [(cU, .object RX5)]) (va_Qi (fun (r : Int32) (_ : Unit) => r = if (p0 < 0 ∨ 9 < p0 ∨ p4 < 0 ∨ 2 < p4) then -3 else 0) (fun _ _ => True) (va_A [(h0, .inr (5, [.ref rt, .int 0, .ref rb, .int 0, .ref ru, .int 0, .ref rr])), (ru, .inl (cU, 40, .inr (.inr (.inr (.inr (fun _ => none))))))] sz)) 2 9 (va_A [(h0, .inr (5, [.ref rt, .int 0, .ref rb, .int 0, .ref ru, .int 0, .ref rr])), (ru, .inl (cU, 40, .inr (.inr (.inr (.inr (fun _ => none))))))] sz) := by
  refine Met.ofW (cc := cX6_use) (maxL := 10) (ret := (some .int)) (by decide) rfl ?_
  intro p e s m args below meth c s₁ B hml hv
  obtain ⟨rfl, hsz, hP, hK, hD0, hE⟩ := hv
  have hx := B.exec
  have hb := B.bytes
  have hr := B.returns
  have hts := atoms_spec (ws := zwX6_use) B.pre
  have hown : s.vm.findClass RX6 = some m.cls := findClass_of_methodNamed B.named
  have hlocks := B.notSynchronized
  have hiX6 : ∀ w ∈ wsX60, w ∈ zwX6_use := (by decide +kernel)
  have hiX5 : ∀ w ∈ wsX50, w ∈ zwX6_use := (by decide +kernel)
  subst hsz
  have hD := hD0.self (sz := s.heap.size)
  generalize hAe : va_A [(h0, .inr (5, [.ref rt, .int 0, .ref rb, .int 0, .ref ru, .int 0, .ref rr])), (ru, .inl (cU, 40, .inr (.inr (.inr (.inr (fun _ => none))))))] s.heap.size = A at hD ⊢
  have hA : ∀ q : Nat, s.heap.size ≤ q → A q := fun q h => by rw [← hAe]; exact Or.inr h
  have hS : va_S A s.heap s.heap [] := va_S.rf
  have hP : va_P (dC, dI) vwCl [(h0, .inr (5, [.ref rt, .int 0, .ref rb, .int 0, .ref ru, .int 0, .ref rr])), (ru, .inl (cU, 40, .inr (.inr (.inr (.inr (fun _ => none))))))] s.heap := hP
  have hl := lv_entry ([.ref h0, .int p0, .int p1, .int p2, .long p3, .int p4, .int p5, .int p6]) (n := 10) (Nat.le_of_ble_eq_true rfl)
  rw [lg_entry_eq]
  generalize (lg_sl ([.ref h0, .int p0, .int p1, .int p2, .long p3, .int p4, .int p5, .int p6]) ++ List.replicate (10 - (lg_sl ([.ref h0, .int p0, .int p1, .int p2, .long p3, .int p4, .int p5, .int p6])).length) Slot.unset).toArray = ls at hl ⊢
  have hl : lv_has ls 10 [(0, .ref h0), (1, .int p0), (2, .int p1), (3, .int p2), (4, .long p3), (6, .int p4), (7, .int p5), (8, .int p6)] := hl
  refine lv_iload_n hx hb dX6_use_0 rfl (lv_at hl 1 rfl) ?_
  refine lv_if_lt (tgt := 21) hx hb dX6_use_1 (by decide) (fun c1 => ?_) (fun c1 => ?_)
  · refine lv_bipush (v := (-3)) hx hb dX6_use_21 (by decide) ?_
    refine W.widen (k := 2) (n := 9) (by omega) (by omega) ?_
    exact W.iret (v := -3) hx hb hr (fun t ht hW => ⟨⟨-3, (), rfl, by rw [if_pos (Or.inl c1)], trivial⟩, hS.F ht⟩) hS.2.2 dX6_use_23
  · refine lv_iload_n hx hb dX6_use_4 rfl (lv_at hl 1 rfl) ?_
    refine lv_bipush (v := 9) hx hb dX6_use_5 (by decide) ?_
    refine lv_icmp_gt (tgt := 21) hx hb dX6_use_7 (by decide) (fun c2 => ?_) (fun c2 => ?_)
    · refine lv_bipush (v := (-3)) hx hb dX6_use_21 (by decide) ?_
      refine W.widen (k := 2) (n := 9) (by omega) (by omega) ?_
      exact W.iret (v := -3) hx hb hr (fun t ht hW => ⟨⟨-3, (), rfl, by rw [if_pos (Or.inr (Or.inl c2))], trivial⟩, hS.F ht⟩) hS.2.2 dX6_use_23
    · refine lv_iload hx hb dX6_use_10 (lv_at hl 5 rfl) ?_
      refine lv_if_lt (tgt := 21) hx hb dX6_use_12 (by decide) (fun c3 => ?_) (fun c3 => ?_)
      · refine lv_bipush (v := (-3)) hx hb dX6_use_21 (by decide) ?_
        refine W.widen (k := 2) (n := 9) (by omega) (by omega) ?_
        exact W.iret (v := -3) hx hb hr (fun t ht hW => ⟨⟨-3, (), rfl, by rw [if_pos (Or.inr (Or.inr (Or.inl c3)))], trivial⟩, hS.F ht⟩) hS.2.2 dX6_use_23
      · refine lv_iload hx hb dX6_use_15 (lv_at hl 5 rfl) ?_
        refine lv_iconst (v := 2) hx hb dX6_use_17 (by decide) ?_
        refine lv_icmp_le (tgt := 24) hx hb dX6_use_18 (by decide) (fun c4 => ?_) (fun c4 => ?_)
        · have z_n : ¬ (p0 < 0 ∨ 9 < p0 ∨ p4 < 0 ∨ 2 < p4) := fun q => q.elim c1 (fun q => q.elim c2 (fun q => q.elim c3 (fun q => absurd c4 (Int32.not_le.mpr q))))
          refine lv_aload_n hx hb dX6_use_24 rfl (lv_at hl 0 rfl) ?_
          refine va_get (D := (dC, dI)) (ci := 5) (v := .int 0) (C := RX6) (T := TX6) (N := 7) hx hb hts hiX6 hown hK hP 0 rfl rfl 5 (by decide) (hts (.fieldLink RX6 32 "LinkModels" "useCount" "I") (by decide +kernel)) (fun _ h9 => h9) rfl dX6_use_25 ?_
          refine lv_bipush (v := 40) hx hb dX6_use_28 (by decide) ?_
          refine lv_icmp_lt (tgt := 36) hx hb dX6_use_30 (by decide) (fun _ => ?_) (fun c9 => absurd (by decide) c9)
          refine va_new (ci := 4) (fs := [.int 0, .int 0, .int 0, .null, .int 0]) (C := RX5) (T := TX5) (N := 5) hx hb hts hiX5 tyX5 tyX5_ok hown (hts (.classLink RX6 26 RX5) (by decide +kernel)) (hts (.instantiable RX5 5) (by decide +kernel)) (hts (.initialized RX5) (by decide +kernel)) hK hP hD hS hA rfl (by decide +kernel) (show 0 + 1 ≤ 2 by omega) (show 0 + 5 ≤ 9 by omega) dX6_use_36 (fun q1 H hP hD hS => ?_)
          have hP : va_P (dC, dI) vwCl [(h0, .inr (5, [.ref rt, .int 0, .ref rb, .int 0, .ref ru, .int 0, .ref rr])), (ru, .inl (cU, 40, .inr (.inr (.inr (.inr (fun _ => none)))))), (q1, .inr (4, [.int 0, .int 0, .int 0, .null, .int 0]))] H := hP
          have hD : va_D A [(h0, .inr (5, [.ref rt, .int 0, .ref rb, .int 0, .ref ru, .int 0, .ref rr])), (ru, .inl (cU, 40, .inr (.inr (.inr (.inr (fun _ => none)))))), (q1, .inr (4, [.int 0, .int 0, .int 0, .null, .int 0]))] := hD
          refine W.widen (k := 1) (n := 5) (by omega) (by omega) ?_
          refine lv_dup hx hb dX6_use_39 rfl ?_
          refine lv_iload_n hx hb dX6_use_40 rfl (lv_at hl 1 rfl) ?_
          refine lv_iload_n hx hb dX6_use_41 rfl (lv_at hl 2 rfl) ?_
          refine lv_iload_n hx hb dX6_use_42 rfl (lv_at hl 3 rfl) ?_
          have hPc := hP.sub (ws' := [(q1, .inr (4, [.int 0, .int 0, .int 0, .null, .int 0]))]) [2] rfl
          have hDc := hD.sub (ws' := [(q1, .inr (4, [.int 0, .int 0, .int 0, .null, .int 0]))]) [2] (by decide) rfl
          have hKc := hK.sub (tys' := []) [] rfl
          have hFc := va_free (wc := [(q1, .inr (4, [.int 0, .int 0, .int 0, .null, .int 0]))]) hD hS hA [2] rfl
          refine va_callv (va_runI (As := [.int p0, .int p1, .int p2]) (rest := [.ref q1]) ⟨hx, hb, hml, hown, hts⟩ (zX5_init l dC dI q1 p0 p1 p2 H.size) (cwI 3 hts zgX6_use_X5_init_93 rfl rfl rfl (hts (.initialized RX5) (by decide +kernel)) (hts (.methodLink RX6 93 yX5_init) (by decide +kernel)) (hts (.instanceMethod yX5_init) (by decide +kernel)) rfl (by decide +kernel) ⟨(show 2 + 1 ≤ 3 by omega), (show 8 + (4 + 11) + 32 ≤ 55 by omega)⟩) (zSe hKc hPc hDc hE) rfl rfl hl.1 rfl (lv_room (Nat.le_of_ble_eq_true rfl)) dX6_use_43 ⟨(show 1 + 1 ≤ 2 by omega), (show 5 + 4 ≤ 9 by omega)⟩) hS (fun q _ h => hFc q h) hFc (fun u2 t H1 locs ht hvm hw hB hz1 hk1 hS => ?_)
          obtain ⟨hP1, hK1, hD1⟩ := hB
          rw [ht] at hP1
          have hK1 := va_K.moved hvm.symm hK1
          obtain ⟨hP, hD⟩ := va_join (wr := [(h0, .inr (5, [.ref rt, .int 0, .ref rb, .int 0, .ref ru, .int 0, .ref rr])), (ru, .inl (cU, 40, .inr (.inr (.inr (.inr (fun _ => none))))))]) (w1 := [(q1, .inr (4, [.int p0, .int p1, .int p2, .ref (u2 0), .int (-1)])), (u2 0, .inr (2, [.long 0, .int 0, .int 0, .int 0]))]) hP hD [2] [0, 1] rfl rfl (by decide) (by decide) hk1 hFc hP1 hD1
          have hK := (hK.sub (tys' := [(cU, .object RX5)]) [0] rfl).app hK1
          generalize H1 = H at hP hS ⊢
          have hP : va_P (dC, dI) vwCl [(h0, .inr (5, [.ref rt, .int 0, .ref rb, .int 0, .ref ru, .int 0, .ref rr])), (ru, .inl (cU, 40, .inr (.inr (.inr (.inr (fun _ => none)))))), (q1, .inr (4, [.int p0, .int p1, .int p2, .ref (u2 0), .int (-1)])), (u2 0, .inr (2, [.long 0, .int 0, .int 0, .int 0]))] H := hP
          have hD : va_D A [(h0, .inr (5, [.ref rt, .int 0, .ref rb, .int 0, .ref ru, .int 0, .ref rr])), (ru, .inl (cU, 40, .inr (.inr (.inr (.inr (fun _ => none)))))), (q1, .inr (4, [.int p0, .int p1, .int p2, .ref (u2 0), .int (-1)])), (u2 0, .inr (2, [.long 0, .int 0, .int 0, .int 0]))] := hD
          have hK : va_K (dC, dI) vwCl [(cU, .object RX5)] s := hK
          refine W.widen (k := 2) (n := 9) (by omega) (by omega) ?_
          refine lv_astore (lv' := [(9, .ref q1), (0, .ref h0), (1, .int p0), (2, .int p1), (3, .int p2), (4, .long p3), (6, .int p4), (7, .int p5), (8, .int p6)]) hx hb dX6_use_46 hl (by decide) rfl (fun ls hl => ?_)
          refine lv_aload hx hb dX6_use_48 (lv_at hl 0 rfl) ?_
          refine va_get (D := (dC, dI)) (ci := 4) (v := .ref (u2 0)) (C := RX5) (T := TX5) (N := 5) hx hb hts hiX5 hown hK hP 2 rfl rfl 3 (by decide) (hts (.fieldLink RX6 96 "LinkModels$Use" "wanted" "LLinkModels$Signature;") (by decide +kernel)) (fun _ h9 => h9) rfl dX6_use_50 ?_
          refine lv_lload hx hb dX6_use_53 (lv_at hl 5 rfl) ?_
          have hPc := hP.sub (ws' := [(u2 0, .inr (2, [.long 0, .int 0, .int 0, .int 0]))]) [3] rfl
          have hDc := hD.sub (ws' := [(u2 0, .inr (2, [.long 0, .int 0, .int 0, .int 0]))]) [3] (by decide) rfl
          have hKc := hK.sub (tys' := []) [] rfl
          have hFc := va_free (wc := [(u2 0, .inr (2, [.long 0, .int 0, .int 0, .int 0]))]) hD hS hA [3] rfl
          refine va_callv (va_runV (As := [.long p3]) (rest := []) ⟨hx, hb, hml, hown, hts⟩ (zX3_begin l dC dI (u2 0) 0 0 0 0 p3 H.size) (cwV 1 hts zgX6_use_X3_begin_100 rfl rfl rfl (by decide +kernel) ⟨(show 0 + 1 ≤ 3 by omega), (show 8 + (3 + 11) + 0 ≤ 55 by omega)⟩) (zVw (ci := 2) (q0 := 0) (q := (RX3, TX3, 4)) hKc hPc hDc rfl rfl rfl) rfl rfl hl.1 rfl (lv_room (Nat.le_of_ble_eq_true rfl)) dX6_use_55 ⟨(show 2 + 0 ≤ 2 by omega), (show 9 + 0 ≤ 9 by omega)⟩) hS (fun q _ h => hFc q h) hFc (fun u4 t H1 locs ht hvm hw hB hz1 hk1 hS => ?_)
          obtain ⟨hP1, hK1, hD1⟩ := hB
          rw [ht] at hP1
          have hK1 := va_K.moved hvm.symm hK1
          obtain ⟨hP, hD⟩ := va_join (wr := [(h0, .inr (5, [.ref rt, .int 0, .ref rb, .int 0, .ref ru, .int 0, .ref rr])), (ru, .inl (cU, 40, .inr (.inr (.inr (.inr (fun _ => none)))))), (q1, .inr (4, [.int p0, .int p1, .int p2, .ref (u2 0), .int (-1)]))]) (w1 := [(u2 0, .inr (2, [.long p3, .int 0, .int 0, .int 0]))]) hP hD [3] [0, 1, 2] rfl rfl (by decide) (by decide) hk1 hFc hP1 hD1
          have hK := (hK.sub (tys' := [(cU, .object RX5)]) [0] rfl).app hK1
          generalize H1 = H at hP hS ⊢
          have hP : va_P (dC, dI) vwCl [(h0, .inr (5, [.ref rt, .int 0, .ref rb, .int 0, .ref ru, .int 0, .ref rr])), (ru, .inl (cU, 40, .inr (.inr (.inr (.inr (fun _ => none)))))), (q1, .inr (4, [.int p0, .int p1, .int p2, .ref (u2 0), .int (-1)])), (u2 0, .inr (2, [.long p3, .int 0, .int 0, .int 0]))] H := hP
          have hD : va_D A [(h0, .inr (5, [.ref rt, .int 0, .ref rb, .int 0, .ref ru, .int 0, .ref rr])), (ru, .inl (cU, 40, .inr (.inr (.inr (.inr (fun _ => none)))))), (q1, .inr (4, [.int p0, .int p1, .int p2, .ref (u2 0), .int (-1)])), (u2 0, .inr (2, [.long p3, .int 0, .int 0, .int 0]))] := hD
          have hK : va_K (dC, dI) vwCl [(cU, .object RX5)] s := hK
          refine lv_iload hx hb dX6_use_58 (lv_at hl 6 rfl) ?_
          refine lv_if_le (tgt := 73) hx hb dX6_use_60 (by decide) (fun c5 => ?_) (fun c5 => ?_)
          · refine lv_iload hx hb dX6_use_73 (lv_at hl 6 rfl) ?_
            refine lv_iconst (v := 1) hx hb dX6_use_75 (by decide) ?_
            refine lv_icmp_le (tgt := 89) hx hb dX6_use_76 (by decide) (fun _ => ?_) (fun c9 => absurd (z_le1 c5) c9)
            refine lv_aload_n hx hb dX6_use_89 rfl (lv_at hl 1 rfl) ?_
            refine va_get (D := (dC, dI)) (ci := 5) (v := .ref ru) (C := RX6) (T := TX6) (N := 7) hx hb hts hiX6 hown hK hP 0 rfl rfl 4 (by decide) (hts (.fieldLink RX6 28 "LinkModels" "uses" "[LLinkModels$Use;") (by decide +kernel)) (fun _ h9 => h9) rfl dX6_use_90 ?_
            refine lv_aload_n hx hb dX6_use_93 rfl (lv_at hl 1 rfl) ?_
            refine va_get (D := (dC, dI)) (ci := 5) (v := .int 0) (C := RX6) (T := TX6) (N := 7) hx hb hts hiX6 hown hK hP 0 rfl rfl 5 (by decide) (hts (.fieldLink RX6 32 "LinkModels" "useCount" "I") (by decide +kernel)) (fun _ h9 => h9) rfl dX6_use_94 ?_
            refine lv_aload hx hb dX6_use_97 (lv_at hl 0 rfl) ?_
            refine va_astq (r := (RX5, TX5, 5)) hx hb hK hP hD hS 1 0 2 4 rfl rfl rfl rfl (by unfold vp_in; decide) dX6_use_99 (fun H locs hP hD hS => ?_)
            have hP : va_P (dC, dI) vwCl [(h0, .inr (5, [.ref rt, .int 0, .ref rb, .int 0, .ref ru, .int 0, .ref rr])), (ru, .inl (cU, 40, .inr (.inr (.inr (.inr (va_up (fun _ => none) (0 : Int32).toNatClampNeg (some q1))))))), (q1, .inr (4, [.int p0, .int p1, .int p2, .ref (u2 0), .int (-1)])), (u2 0, .inr (2, [.long p3, .int 0, .int 0, .int 0]))] H := hP
            have hD : va_D A [(h0, .inr (5, [.ref rt, .int 0, .ref rb, .int 0, .ref ru, .int 0, .ref rr])), (ru, .inl (cU, 40, .inr (.inr (.inr (.inr (va_up (fun _ => none) (0 : Int32).toNatClampNeg (some q1))))))), (q1, .inr (4, [.int p0, .int p1, .int p2, .ref (u2 0), .int (-1)])), (u2 0, .inr (2, [.long p3, .int 0, .int 0, .int 0]))] := hD
            refine lv_aload_n hx hb dX6_use_100 rfl (lv_at hl 1 rfl) ?_
            refine lv_dup hx hb dX6_use_101 rfl ?_
            refine va_get (D := (dC, dI)) (ci := 5) (v := .int 0) (C := RX6) (T := TX6) (N := 7) hx hb hts hiX6 hown hK hP 0 rfl rfl 5 (by decide) (hts (.fieldLink RX6 32 "LinkModels" "useCount" "I") (by decide +kernel)) (fun _ h9 => h9) rfl dX6_use_102 ?_
            refine lv_iconst (v := 1) hx hb dX6_use_105 (by decide) ?_
            refine lv_iadd hx hb dX6_use_106 ?_
            refine lv_topi (fun x6 ex6 => ?_)
            refine va_put (D := (dC, dI)) (ci := 5) (v := .int x6) (ty := (.int)) (C := RX6) (T := TX6) (N := 7) hx hb hts hiX6 tyX6 tyX6_ok nmX6 hown hK hP hD hS 0 rfl rfl 5 (by decide) (hts (.fieldLink RX6 32 "LinkModels" "useCount" "I") (by decide +kernel)) (fun _ h9 => h9) rfl (by decide +kernel) rfl rfl (Nat.le_of_ble_eq_true rfl) dX6_use_107 (fun H locs hP hD hS => ?_)
            have hP : va_P (dC, dI) vwCl [(h0, .inr (5, [.ref rt, .int 0, .ref rb, .int 0, .ref ru, .int x6, .ref rr])), (ru, .inl (cU, 40, .inr (.inr (.inr (.inr (va_up (fun _ => none) (0 : Int32).toNatClampNeg (some q1))))))), (q1, .inr (4, [.int p0, .int p1, .int p2, .ref (u2 0), .int (-1)])), (u2 0, .inr (2, [.long p3, .int 0, .int 0, .int 0]))] H := hP
            have hD : va_D A [(h0, .inr (5, [.ref rt, .int 0, .ref rb, .int 0, .ref ru, .int x6, .ref rr])), (ru, .inl (cU, 40, .inr (.inr (.inr (.inr (va_up (fun _ => none) (0 : Int32).toNatClampNeg (some q1))))))), (q1, .inr (4, [.int p0, .int p1, .int p2, .ref (u2 0), .int (-1)])), (u2 0, .inr (2, [.long p3, .int 0, .int 0, .int 0]))] := hD
            refine lv_aload_n hx hb dX6_use_110 rfl (lv_at hl 1 rfl) ?_
            refine va_get (D := (dC, dI)) (ci := 5) (v := .int x6) (C := RX6) (T := TX6) (N := 7) hx hb hts hiX6 hown hK hP 0 rfl rfl 5 (by decide) (hts (.fieldLink RX6 32 "LinkModels" "useCount" "I") (by decide +kernel)) (fun _ h9 => h9) rfl dX6_use_111 ?_
            refine lv_iconst (v := 1) hx hb dX6_use_114 (by decide) ?_
            refine lv_isub hx hb dX6_use_115 ?_
            refine lv_topi (fun x7 ex7 => ?_)
            refine W.widen (k := 2) (n := 9) (by omega) (by omega) ?_
            exact W.iret (v := x7) hx hb hr (fun t ht hW => ⟨⟨x7, (), rfl, by rw [if_neg z_n, ex7, ex6]; decide, trivial⟩, hS.F ht⟩) hS.2.2 dX6_use_116
          · refine lv_aload hx hb dX6_use_63 (lv_at hl 0 rfl) ?_
            refine va_get (D := (dC, dI)) (ci := 4) (v := .ref (u2 0)) (C := RX5) (T := TX5) (N := 5) hx hb hts hiX5 hown hK hP 2 rfl rfl 3 (by decide) (hts (.fieldLink RX6 96 "LinkModels$Use" "wanted" "LLinkModels$Signature;") (by decide +kernel)) (fun _ h9 => h9) rfl dX6_use_65 ?_
            refine lv_iload hx hb dX6_use_68 (lv_at hl 7 rfl) ?_
            have hPc := hP.sub (ws' := [(u2 0, .inr (2, [.long p3, .int 0, .int 0, .int 0]))]) [3] rfl
            have hDc := hD.sub (ws' := [(u2 0, .inr (2, [.long p3, .int 0, .int 0, .int 0]))]) [3] (by decide) rfl
            have hKc := hK.sub (tys' := []) [] rfl
            have hFc := va_free (wc := [(u2 0, .inr (2, [.long p3, .int 0, .int 0, .int 0]))]) hD hS hA [3] rfl
            refine va_callv (va_runV (As := [.int p5]) (rest := []) ⟨hx, hb, hml, hown, hts⟩ (zX3_add l dC dI (u2 0) p3 0 0 0 p5 H.size) (cwV 1 hts zgX6_use_X3_add_106 rfl rfl rfl (by decide +kernel) ⟨(show 0 + 1 ≤ 3 by omega), (show 8 + (2 + 11) + 0 ≤ 55 by omega)⟩) (zVw (ci := 2) (q0 := 0) (q := (RX3, TX3, 4)) hKc hPc hDc rfl rfl rfl) rfl rfl hl.1 rfl (lv_room (Nat.le_of_ble_eq_true rfl)) dX6_use_70 ⟨(show 2 + 0 ≤ 2 by omega), (show 9 + 0 ≤ 9 by omega)⟩) hS (fun q _ h => hFc q h) hFc (fun u8 t H1 locs ht hvm hw hB hz1 hk1 hS => ?_)
            obtain ⟨hP1, hK1, hD1⟩ := hB
            rw [ht] at hP1
            have hK1 := va_K.moved hvm.symm hK1
            obtain ⟨hP, hD⟩ := va_join (wr := [(h0, .inr (5, [.ref rt, .int 0, .ref rb, .int 0, .ref ru, .int 0, .ref rr])), (ru, .inl (cU, 40, .inr (.inr (.inr (.inr (fun _ => none)))))), (q1, .inr (4, [.int p0, .int p1, .int p2, .ref (u2 0), .int (-1)]))]) (w1 := [(u2 0, .inr (2, [.long p3, .int (u8 0), .int (u8 1), .int (u8 2)]))]) hP hD [3] [0, 1, 2] rfl rfl (by decide) (by decide) hk1 hFc hP1 hD1
            have hK := (hK.sub (tys' := [(cU, .object RX5)]) [0] rfl).app hK1
            generalize H1 = H at hP hS ⊢
            have hP : va_P (dC, dI) vwCl [(h0, .inr (5, [.ref rt, .int 0, .ref rb, .int 0, .ref ru, .int 0, .ref rr])), (ru, .inl (cU, 40, .inr (.inr (.inr (.inr (fun _ => none)))))), (q1, .inr (4, [.int p0, .int p1, .int p2, .ref (u2 0), .int (-1)])), (u2 0, .inr (2, [.long p3, .int (u8 0), .int (u8 1), .int (u8 2)]))] H := hP
            have hD : va_D A [(h0, .inr (5, [.ref rt, .int 0, .ref rb, .int 0, .ref ru, .int 0, .ref rr])), (ru, .inl (cU, 40, .inr (.inr (.inr (.inr (fun _ => none)))))), (q1, .inr (4, [.int p0, .int p1, .int p2, .ref (u2 0), .int (-1)])), (u2 0, .inr (2, [.long p3, .int (u8 0), .int (u8 1), .int (u8 2)]))] := hD
            have hK : va_K (dC, dI) vwCl [(cU, .object RX5)] s := hK
            refine lv_iload hx hb dX6_use_73 (lv_at hl 6 rfl) ?_
            refine lv_iconst (v := 1) hx hb dX6_use_75 (by decide) ?_
            refine lv_icmp_le (tgt := 89) hx hb dX6_use_76 (by decide) (fun c6 => ?_) (fun c6 => ?_)
            · refine lv_aload_n hx hb dX6_use_89 rfl (lv_at hl 1 rfl) ?_
              refine va_get (D := (dC, dI)) (ci := 5) (v := .ref ru) (C := RX6) (T := TX6) (N := 7) hx hb hts hiX6 hown hK hP 0 rfl rfl 4 (by decide) (hts (.fieldLink RX6 28 "LinkModels" "uses" "[LLinkModels$Use;") (by decide +kernel)) (fun _ h9 => h9) rfl dX6_use_90 ?_
              refine lv_aload_n hx hb dX6_use_93 rfl (lv_at hl 1 rfl) ?_
              refine va_get (D := (dC, dI)) (ci := 5) (v := .int 0) (C := RX6) (T := TX6) (N := 7) hx hb hts hiX6 hown hK hP 0 rfl rfl 5 (by decide) (hts (.fieldLink RX6 32 "LinkModels" "useCount" "I") (by decide +kernel)) (fun _ h9 => h9) rfl dX6_use_94 ?_
              refine lv_aload hx hb dX6_use_97 (lv_at hl 0 rfl) ?_
              refine va_astq (r := (RX5, TX5, 5)) hx hb hK hP hD hS 1 0 2 4 rfl rfl rfl rfl (by unfold vp_in; decide) dX6_use_99 (fun H locs hP hD hS => ?_)
              have hP : va_P (dC, dI) vwCl [(h0, .inr (5, [.ref rt, .int 0, .ref rb, .int 0, .ref ru, .int 0, .ref rr])), (ru, .inl (cU, 40, .inr (.inr (.inr (.inr (va_up (fun _ => none) (0 : Int32).toNatClampNeg (some q1))))))), (q1, .inr (4, [.int p0, .int p1, .int p2, .ref (u2 0), .int (-1)])), (u2 0, .inr (2, [.long p3, .int (u8 0), .int (u8 1), .int (u8 2)]))] H := hP
              have hD : va_D A [(h0, .inr (5, [.ref rt, .int 0, .ref rb, .int 0, .ref ru, .int 0, .ref rr])), (ru, .inl (cU, 40, .inr (.inr (.inr (.inr (va_up (fun _ => none) (0 : Int32).toNatClampNeg (some q1))))))), (q1, .inr (4, [.int p0, .int p1, .int p2, .ref (u2 0), .int (-1)])), (u2 0, .inr (2, [.long p3, .int (u8 0), .int (u8 1), .int (u8 2)]))] := hD
              refine lv_aload_n hx hb dX6_use_100 rfl (lv_at hl 1 rfl) ?_
              refine lv_dup hx hb dX6_use_101 rfl ?_
              refine va_get (D := (dC, dI)) (ci := 5) (v := .int 0) (C := RX6) (T := TX6) (N := 7) hx hb hts hiX6 hown hK hP 0 rfl rfl 5 (by decide) (hts (.fieldLink RX6 32 "LinkModels" "useCount" "I") (by decide +kernel)) (fun _ h9 => h9) rfl dX6_use_102 ?_
              refine lv_iconst (v := 1) hx hb dX6_use_105 (by decide) ?_
              refine lv_iadd hx hb dX6_use_106 ?_
              refine lv_topi (fun x10 ex10 => ?_)
              refine va_put (D := (dC, dI)) (ci := 5) (v := .int x10) (ty := (.int)) (C := RX6) (T := TX6) (N := 7) hx hb hts hiX6 tyX6 tyX6_ok nmX6 hown hK hP hD hS 0 rfl rfl 5 (by decide) (hts (.fieldLink RX6 32 "LinkModels" "useCount" "I") (by decide +kernel)) (fun _ h9 => h9) rfl (by decide +kernel) rfl rfl (Nat.le_of_ble_eq_true rfl) dX6_use_107 (fun H locs hP hD hS => ?_)
              have hP : va_P (dC, dI) vwCl [(h0, .inr (5, [.ref rt, .int 0, .ref rb, .int 0, .ref ru, .int x10, .ref rr])), (ru, .inl (cU, 40, .inr (.inr (.inr (.inr (va_up (fun _ => none) (0 : Int32).toNatClampNeg (some q1))))))), (q1, .inr (4, [.int p0, .int p1, .int p2, .ref (u2 0), .int (-1)])), (u2 0, .inr (2, [.long p3, .int (u8 0), .int (u8 1), .int (u8 2)]))] H := hP
              have hD : va_D A [(h0, .inr (5, [.ref rt, .int 0, .ref rb, .int 0, .ref ru, .int x10, .ref rr])), (ru, .inl (cU, 40, .inr (.inr (.inr (.inr (va_up (fun _ => none) (0 : Int32).toNatClampNeg (some q1))))))), (q1, .inr (4, [.int p0, .int p1, .int p2, .ref (u2 0), .int (-1)])), (u2 0, .inr (2, [.long p3, .int (u8 0), .int (u8 1), .int (u8 2)]))] := hD
              refine lv_aload_n hx hb dX6_use_110 rfl (lv_at hl 1 rfl) ?_
              refine va_get (D := (dC, dI)) (ci := 5) (v := .int x10) (C := RX6) (T := TX6) (N := 7) hx hb hts hiX6 hown hK hP 0 rfl rfl 5 (by decide) (hts (.fieldLink RX6 32 "LinkModels" "useCount" "I") (by decide +kernel)) (fun _ h9 => h9) rfl dX6_use_111 ?_
              refine lv_iconst (v := 1) hx hb dX6_use_114 (by decide) ?_
              refine lv_isub hx hb dX6_use_115 ?_
              refine lv_topi (fun x11 ex11 => ?_)
              refine W.widen (k := 2) (n := 9) (by omega) (by omega) ?_
              exact W.iret (v := x11) hx hb hr (fun t ht hW => ⟨⟨x11, (), rfl, by rw [if_neg z_n, ex11, ex10]; decide, trivial⟩, hS.F ht⟩) hS.2.2 dX6_use_116
            · refine lv_aload hx hb dX6_use_79 (lv_at hl 0 rfl) ?_
              refine va_get (D := (dC, dI)) (ci := 4) (v := .ref (u2 0)) (C := RX5) (T := TX5) (N := 5) hx hb hts hiX5 hown hK hP 2 rfl rfl 3 (by decide) (hts (.fieldLink RX6 96 "LinkModels$Use" "wanted" "LLinkModels$Signature;") (by decide +kernel)) (fun _ h9 => h9) rfl dX6_use_81 ?_
              refine lv_iload hx hb dX6_use_84 (lv_at hl 8 rfl) ?_
              have hPc := hP.sub (ws' := [(u2 0, .inr (2, [.long p3, .int (u8 0), .int (u8 1), .int (u8 2)]))]) [3] rfl
              have hDc := hD.sub (ws' := [(u2 0, .inr (2, [.long p3, .int (u8 0), .int (u8 1), .int (u8 2)]))]) [3] (by decide) rfl
              have hKc := hK.sub (tys' := []) [] rfl
              have hFc := va_free (wc := [(u2 0, .inr (2, [.long p3, .int (u8 0), .int (u8 1), .int (u8 2)]))]) hD hS hA [3] rfl
              refine va_callv (va_runV (As := [.int p6]) (rest := []) ⟨hx, hb, hml, hown, hts⟩ (zX3_add l dC dI (u2 0) p3 (u8 0) (u8 1) (u8 2) p6 H.size) (cwV 1 hts zgX6_use_X3_add_106 rfl rfl rfl (by decide +kernel) ⟨(show 0 + 1 ≤ 3 by omega), (show 8 + (2 + 11) + 0 ≤ 55 by omega)⟩) (zVw (ci := 2) (q0 := 0) (q := (RX3, TX3, 4)) hKc hPc hDc rfl rfl rfl) rfl rfl hl.1 rfl (lv_room (Nat.le_of_ble_eq_true rfl)) dX6_use_86 ⟨(show 2 + 0 ≤ 2 by omega), (show 9 + 0 ≤ 9 by omega)⟩) hS (fun q _ h => hFc q h) hFc (fun u12 t H1 locs ht hvm hw hB hz1 hk1 hS => ?_)
              obtain ⟨hP1, hK1, hD1⟩ := hB
              rw [ht] at hP1
              have hK1 := va_K.moved hvm.symm hK1
              obtain ⟨hP, hD⟩ := va_join (wr := [(h0, .inr (5, [.ref rt, .int 0, .ref rb, .int 0, .ref ru, .int 0, .ref rr])), (ru, .inl (cU, 40, .inr (.inr (.inr (.inr (fun _ => none)))))), (q1, .inr (4, [.int p0, .int p1, .int p2, .ref (u2 0), .int (-1)]))]) (w1 := [(u2 0, .inr (2, [.long p3, .int (u12 0), .int (u12 1), .int (u12 2)]))]) hP hD [3] [0, 1, 2] rfl rfl (by decide) (by decide) hk1 hFc hP1 hD1
              have hK := (hK.sub (tys' := [(cU, .object RX5)]) [0] rfl).app hK1
              generalize H1 = H at hP hS ⊢
              have hP : va_P (dC, dI) vwCl [(h0, .inr (5, [.ref rt, .int 0, .ref rb, .int 0, .ref ru, .int 0, .ref rr])), (ru, .inl (cU, 40, .inr (.inr (.inr (.inr (fun _ => none)))))), (q1, .inr (4, [.int p0, .int p1, .int p2, .ref (u2 0), .int (-1)])), (u2 0, .inr (2, [.long p3, .int (u12 0), .int (u12 1), .int (u12 2)]))] H := hP
              have hD : va_D A [(h0, .inr (5, [.ref rt, .int 0, .ref rb, .int 0, .ref ru, .int 0, .ref rr])), (ru, .inl (cU, 40, .inr (.inr (.inr (.inr (fun _ => none)))))), (q1, .inr (4, [.int p0, .int p1, .int p2, .ref (u2 0), .int (-1)])), (u2 0, .inr (2, [.long p3, .int (u12 0), .int (u12 1), .int (u12 2)]))] := hD
              have hK : va_K (dC, dI) vwCl [(cU, .object RX5)] s := hK
              refine lv_aload_n hx hb dX6_use_89 rfl (lv_at hl 1 rfl) ?_
              refine va_get (D := (dC, dI)) (ci := 5) (v := .ref ru) (C := RX6) (T := TX6) (N := 7) hx hb hts hiX6 hown hK hP 0 rfl rfl 4 (by decide) (hts (.fieldLink RX6 28 "LinkModels" "uses" "[LLinkModels$Use;") (by decide +kernel)) (fun _ h9 => h9) rfl dX6_use_90 ?_
              refine lv_aload_n hx hb dX6_use_93 rfl (lv_at hl 1 rfl) ?_
              refine va_get (D := (dC, dI)) (ci := 5) (v := .int 0) (C := RX6) (T := TX6) (N := 7) hx hb hts hiX6 hown hK hP 0 rfl rfl 5 (by decide) (hts (.fieldLink RX6 32 "LinkModels" "useCount" "I") (by decide +kernel)) (fun _ h9 => h9) rfl dX6_use_94 ?_
              refine lv_aload hx hb dX6_use_97 (lv_at hl 0 rfl) ?_
              refine va_astq (r := (RX5, TX5, 5)) hx hb hK hP hD hS 1 0 2 4 rfl rfl rfl rfl (by unfold vp_in; decide) dX6_use_99 (fun H locs hP hD hS => ?_)
              have hP : va_P (dC, dI) vwCl [(h0, .inr (5, [.ref rt, .int 0, .ref rb, .int 0, .ref ru, .int 0, .ref rr])), (ru, .inl (cU, 40, .inr (.inr (.inr (.inr (va_up (fun _ => none) (0 : Int32).toNatClampNeg (some q1))))))), (q1, .inr (4, [.int p0, .int p1, .int p2, .ref (u2 0), .int (-1)])), (u2 0, .inr (2, [.long p3, .int (u12 0), .int (u12 1), .int (u12 2)]))] H := hP
              have hD : va_D A [(h0, .inr (5, [.ref rt, .int 0, .ref rb, .int 0, .ref ru, .int 0, .ref rr])), (ru, .inl (cU, 40, .inr (.inr (.inr (.inr (va_up (fun _ => none) (0 : Int32).toNatClampNeg (some q1))))))), (q1, .inr (4, [.int p0, .int p1, .int p2, .ref (u2 0), .int (-1)])), (u2 0, .inr (2, [.long p3, .int (u12 0), .int (u12 1), .int (u12 2)]))] := hD
              refine lv_aload_n hx hb dX6_use_100 rfl (lv_at hl 1 rfl) ?_
              refine lv_dup hx hb dX6_use_101 rfl ?_
              refine va_get (D := (dC, dI)) (ci := 5) (v := .int 0) (C := RX6) (T := TX6) (N := 7) hx hb hts hiX6 hown hK hP 0 rfl rfl 5 (by decide) (hts (.fieldLink RX6 32 "LinkModels" "useCount" "I") (by decide +kernel)) (fun _ h9 => h9) rfl dX6_use_102 ?_
              refine lv_iconst (v := 1) hx hb dX6_use_105 (by decide) ?_
              refine lv_iadd hx hb dX6_use_106 ?_
              refine lv_topi (fun x14 ex14 => ?_)
              refine va_put (D := (dC, dI)) (ci := 5) (v := .int x14) (ty := (.int)) (C := RX6) (T := TX6) (N := 7) hx hb hts hiX6 tyX6 tyX6_ok nmX6 hown hK hP hD hS 0 rfl rfl 5 (by decide) (hts (.fieldLink RX6 32 "LinkModels" "useCount" "I") (by decide +kernel)) (fun _ h9 => h9) rfl (by decide +kernel) rfl rfl (Nat.le_of_ble_eq_true rfl) dX6_use_107 (fun H locs hP hD hS => ?_)
              have hP : va_P (dC, dI) vwCl [(h0, .inr (5, [.ref rt, .int 0, .ref rb, .int 0, .ref ru, .int x14, .ref rr])), (ru, .inl (cU, 40, .inr (.inr (.inr (.inr (va_up (fun _ => none) (0 : Int32).toNatClampNeg (some q1))))))), (q1, .inr (4, [.int p0, .int p1, .int p2, .ref (u2 0), .int (-1)])), (u2 0, .inr (2, [.long p3, .int (u12 0), .int (u12 1), .int (u12 2)]))] H := hP
              have hD : va_D A [(h0, .inr (5, [.ref rt, .int 0, .ref rb, .int 0, .ref ru, .int x14, .ref rr])), (ru, .inl (cU, 40, .inr (.inr (.inr (.inr (va_up (fun _ => none) (0 : Int32).toNatClampNeg (some q1))))))), (q1, .inr (4, [.int p0, .int p1, .int p2, .ref (u2 0), .int (-1)])), (u2 0, .inr (2, [.long p3, .int (u12 0), .int (u12 1), .int (u12 2)]))] := hD
              refine lv_aload_n hx hb dX6_use_110 rfl (lv_at hl 1 rfl) ?_
              refine va_get (D := (dC, dI)) (ci := 5) (v := .int x14) (C := RX6) (T := TX6) (N := 7) hx hb hts hiX6 hown hK hP 0 rfl rfl 5 (by decide) (hts (.fieldLink RX6 32 "LinkModels" "useCount" "I") (by decide +kernel)) (fun _ h9 => h9) rfl dX6_use_111 ?_
              refine lv_iconst (v := 1) hx hb dX6_use_114 (by decide) ?_
              refine lv_isub hx hb dX6_use_115 ?_
              refine lv_topi (fun x15 ex15 => ?_)
              refine W.widen (k := 2) (n := 9) (by omega) (by omega) ?_
              exact W.iret (v := x15) hx hb hr (fun t ht hW => ⟨⟨x15, (), rfl, by rw [if_neg z_n, ex15, ex14]; decide, trivial⟩, hS.F ht⟩) hS.2.2 dX6_use_116
        · refine lv_bipush (v := (-3)) hx hb dX6_use_21 (by decide) ?_
          refine W.widen (k := 2) (n := 9) (by omega) (by omega) ?_
          exact W.iret (v := -3) hx hb hr (fun t ht hW => ⟨⟨-3, (), rfl, by rw [if_pos (Or.inr (Or.inr (Or.inr (Int32.not_le.mp c4))))], trivial⟩, hS.F ht⟩) hS.2.2 dX6_use_23
