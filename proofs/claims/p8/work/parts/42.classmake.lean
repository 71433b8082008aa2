theorem z_RAf {U : State} {cA : ClassId} {ty : FieldType} (h : va_RA U cA ty) : U.vm.findClass ("[" ++ ty.toString) = some cA := by
  cases ty with
  | object C =>
    obtain ⟨_, _, _, _, _, h⟩ := h
    exact h
  | _ => exact h
/-- arrays of one kind are of one class -/
theorem z_Kq {D : va_G} {cl : List vw_C} {tys : List (ClassId × FieldType)} {s : State} {a b : ClassId} {ty : FieldType} (hK : va_K D cl tys s) (i j : Nat) (hi : tys[i]? = some (a, ty)) (hj : tys[j]? = some (b, ty)) : a = b := Option.some.inj ((z_RAf (hK.2 i _ hi).2).symm.trans (z_RAf (hK.2 j _ hj).2))
/-- the start of a constructor of the class: as zPk, no tables' words but zE -/
theorem zFE {U : State} (h : zF U) : zE U := h.1
theorem dX3_init_0 : decode cX3_init 0 = .ok (.aload_n 0, 1) := by decide +kernel
theorem dX3_init_1 : decode cX3_init 1 = .ok (.invokespecial 1, 3) := by decide +kernel
theorem dX3_init_4 : decode cX3_init 4 = .ok (.return_, 1) := by decide +kernel
def zwX3_init : List Cond := .code yX3_init cX3_init 1 none :: ([.methodLink RX3 1 objectInit, .instanceMethod objectInit, .code objectInit ⟨#[0xb1]⟩ 1 none])
set_option maxHeartbeats 4000000 in
set_option maxRecDepth 100000 in
theorem zX3_init (l : Launch) (dC : Nat → ClassId) (dI : Nat → Nat → Nat) (h0 : Nat) (sz : Nat) : Met l yX3_init zwX3_init ({ frames := 1, cells := 0, slots := 0, locals := 12 }) (zPw dC dI [.ref h0] sz [(h0, .inr (2, [.long 0, .int 0, .int 0, .int 0]))] []) (va_Qv (fun _ : Unit => True) (fun u t => zB dC dI (va_A [(h0, .inr (2, [.long 0, .int 0, .int 0, .int 0]))] sz) [(h0, .inr (2, [.long 0, .int 0, .int 0, .int 0]))] [] t) (va_A [(h0, .inr (2, [.long 0, .int 0, .int 0, .int 0]))] sz)) 0 0 (va_A [(h0, .inr (2, [.long 0, .int 0, .int 0, .int 0]))] sz) := by
  refine Met.ofW (cc := cX3_init) (maxL := 1) (ret := none) (by decide) rfl ?_
  intro p e s m args below meth c s₁ B hml hv
  obtain ⟨rfl, hsz, hP, hK, hD0⟩ := hv
  have hx := B.exec
  have hb := B.bytes
  have hr := B.returns
  have hts := atoms_spec (ws := zwX3_init) B.pre
  have hown : s.vm.findClass RX3 = some m.cls := findClass_of_methodNamed B.named
  have hlocks := B.notSynchronized
  have hin : meth.name = "<init>" := (name_of_methodNamed B.named B.method).1
  subst hsz
  have hD := hD0.self (sz := s.heap.size)
  generalize hAe : va_A [(h0, .inr (2, [.long 0, .int 0, .int 0, .int 0]))] s.heap.size = A at hD ⊢
  have hA : ∀ q : Nat, s.heap.size ≤ q → A q := fun q h => by rw [← hAe]; exact Or.inr h
  have hS : va_S A s.heap s.heap [] := va_S.rf
  have hP : va_P (dC, dI) vwCl [(h0, .inr (2, [.long 0, .int 0, .int 0, .int 0]))] s.heap := hP
  have hl := lv_entry ([.ref h0]) (n := 1) (Nat.le_of_ble_eq_true rfl)
  rw [lg_entry_eq]
  generalize (lg_sl ([.ref h0]) ++ List.replicate (1 - (lg_sl ([.ref h0])).length) Slot.unset).toArray = ls at hl ⊢
  have hl : lv_has ls 1 [(0, .ref h0)] := hl
  refine lv_aload_n hx hb dX3_init_0 rfl (lv_at hl 0 rfl) ?_
  refine W.objInit hx hb hown (hts (.methodLink RX3 1 objectInit) (by decide +kernel)) (hts (.instanceMethod objectInit) (by decide +kernel)) (hts (.code objectInit ⟨#[0xb1]⟩ 1 none) (by decide +kernel)) rfl (by rw [hml]; exact hl.1) rfl dX3_init_1 (Nat.le_of_ble_eq_true rfl) (Nat.le_of_ble_eq_true rfl) ?_
  refine W.eq (g2 := F0 m 4 ls []) rfl ?_
  have hP9 := hP.sub (ws' := [(h0, .inr (2, [.long 0, .int 0, .int 0, .int 0]))]) [0] rfl
  have hD9 := hD.sub (ws' := [(h0, .inr (2, [.long 0, .int 0, .int 0, .int 0]))]) [0] (by decide) rfl
  have hK9 := hK.sub (tys' := []) [] rfl
  exact W.vret hx hb hr (fun t ht hW => ⟨⟨(), rfl, trivial, by rw [ht]; exact hP9, va_K.moved hW.alike hK9, hD9⟩, hS.F ht⟩) hS.2.2 dX3_init_4
theorem dX4_init_0 : decode cX4_init 0 = .ok (.aload_n 0, 1) := by decide +kernel
theorem dX4_init_1 : decode cX4_init 1 = .ok (.invokespecial 1, 3) := by decide +kernel
theorem dX4_init_4 : decode cX4_init 4 = .ok (.aload_n 0, 1) := by decide +kernel
theorem dX4_init_5 : decode cX4_init 5 = .ok (.aload_n 1, 1) := by decide +kernel
theorem dX4_init_6 : decode cX4_init 6 = .ok (.putfield 7, 3) := by decide +kernel
theorem dX4_init_9 : decode cX4_init 9 = .ok (.return_, 1) := by decide +kernel
def zwX4_init : List Cond := .code yX4_init cX4_init 2 none :: ([.methodLink RX4 1 objectInit, .instanceMethod objectInit, .code objectInit ⟨#[0xb1]⟩ 1 none, .fieldLink RX4 7 "LinkModels$Tokens" "tape" "[B"] ++ wsX40)
set_option maxHeartbeats 4000000 in
set_option maxRecDepth 100000 in
theorem zX4_init (l : Launch) (dC : Nat → ClassId) (dI : Nat → Nat → Nat) (h0 rt : Nat) (sz : Nat) : Met l yX4_init zwX4_init ({ frames := 1, cells := 0, slots := 0, locals := 12 }) (zPw dC dI [.ref h0, .ref rt] sz [(h0, .inr (3, [.null, .int 0, .int 0, .int 0, .int 0, .long 0]))] []) (va_Qv (fun _ : Unit => True) (fun u t => zB dC dI (va_A [(h0, .inr (3, [.null, .int 0, .int 0, .int 0, .int 0, .long 0]))] sz) [(h0, .inr (3, [.ref rt, .int 0, .int 0, .int 0, .int 0, .long 0]))] [] t) (va_A [(h0, .inr (3, [.null, .int 0, .int 0, .int 0, .int 0, .long 0]))] sz)) 0 0 (va_A [(h0, .inr (3, [.null, .int 0, .int 0, .int 0, .int 0, .long 0]))] sz) := by
  refine Met.ofW (cc := cX4_init) (maxL := 2) (ret := none) (by decide) rfl ?_
  intro p e s m args below meth c s₁ B hml hv
  obtain ⟨rfl, hsz, hP, hK, hD0⟩ := hv
  have hx := B.exec
  have hb := B.bytes
  have hr := B.returns
  have hts := atoms_spec (ws := zwX4_init) B.pre
  have hown : s.vm.findClass RX4 = some m.cls := findClass_of_methodNamed B.named
  have hlocks := B.notSynchronized
  have hin : meth.name = "<init>" := (name_of_methodNamed B.named B.method).1
  have hiX4 : ∀ w ∈ wsX40, w ∈ zwX4_init := (fun w hw => (List.mem_cons_of_mem _ (List.mem_append_right _ hw)))
  subst hsz
  have hD := hD0.self (sz := s.heap.size)
  generalize hAe : va_A [(h0, .inr (3, [.null, .int 0, .int 0, .int 0, .int 0, .long 0]))] s.heap.size = A at hD ⊢
  have hA : ∀ q : Nat, s.heap.size ≤ q → A q := fun q h => by rw [← hAe]; exact Or.inr h
  have hS : va_S A s.heap s.heap [] := va_S.rf
  have hP : va_P (dC, dI) vwCl [(h0, .inr (3, [.null, .int 0, .int 0, .int 0, .int 0, .long 0]))] s.heap := hP
  have hl := lv_entry ([.ref h0, .ref rt]) (n := 2) (Nat.le_of_ble_eq_true rfl)
  rw [lg_entry_eq]
  generalize (lg_sl ([.ref h0, .ref rt]) ++ List.replicate (2 - (lg_sl ([.ref h0, .ref rt])).length) Slot.unset).toArray = ls at hl ⊢
  have hl : lv_has ls 2 [(0, .ref h0), (1, .ref rt)] := hl
  refine lv_aload_n hx hb dX4_init_0 rfl (lv_at hl 0 rfl) ?_
  refine W.objInit hx hb hown (hts (.methodLink RX4 1 objectInit) (by decide +kernel)) (hts (.instanceMethod objectInit) (by decide +kernel)) (hts (.code objectInit ⟨#[0xb1]⟩ 1 none) (by decide +kernel)) rfl (by rw [hml]; exact hl.1) rfl dX4_init_1 (Nat.le_of_ble_eq_true rfl) (Nat.le_of_ble_eq_true rfl) ?_
  refine W.eq (g2 := F0 m 4 ls []) rfl ?_
  refine lv_aload_n hx hb dX4_init_4 rfl (lv_at hl 0 rfl) ?_
  refine lv_aload_n hx hb dX4_init_5 rfl (lv_at hl 1 rfl) ?_
  refine va_putF (D := (dC, dI)) (ci := 3) (v := .ref rt) (ty := (.array .byte)) (C := RX4) (T := TX4) (N := 6) hx hb hts hiX4 tyX4 tyX4_ok nmX4 hown hK hP hD hS 0 rfl rfl 0 (by decide) (hts (.fieldLink RX4 7 "LinkModels$Tokens" "tape" "[B") (by decide +kernel)) (fun _ h9 => h9) rfl hin rfl (by decide +kernel) rfl rfl (Nat.le_of_ble_eq_true rfl) dX4_init_6 (fun H locs hP hD hS => ?_)
  have hP : va_P (dC, dI) vwCl [(h0, .inr (3, [.ref rt, .int 0, .int 0, .int 0, .int 0, .long 0]))] H := hP
  have hD : va_D A [(h0, .inr (3, [.ref rt, .int 0, .int 0, .int 0, .int 0, .long 0]))] := hD
  have hP9 := hP.sub (ws' := [(h0, .inr (3, [.ref rt, .int 0, .int 0, .int 0, .int 0, .long 0]))]) [0] rfl
  have hD9 := hD.sub (ws' := [(h0, .inr (3, [.ref rt, .int 0, .int 0, .int 0, .int 0, .long 0]))]) [0] (by decide) rfl
  have hK9 := hK.sub (tys' := []) [] rfl
  exact W.vret hx hb hr (fun t ht hW => ⟨⟨(), rfl, trivial, by rw [ht]; exact hP9, va_K.moved hW.alike hK9, hD9⟩, hS.F ht⟩) hS.2.2 dX4_init_9
theorem dX2_init_0 : decode cX2_init 0 = .ok (.aload_n 0, 1) := by decide +kernel
theorem dX2_init_1 : decode cX2_init 1 = .ok (.invokespecial 3, 3) := by decide +kernel
theorem dX2_init_4 : decode cX2_init 4 = .ok (.aload_n 0, 1) := by decide +kernel
theorem dX2_init_5 : decode cX2_init 5 = .ok (.new 9, 3) := by decide +kernel
theorem dX2_init_8 : decode cX2_init 8 = .ok (.dup, 1) := by decide +kernel
theorem dX2_init_9 : decode cX2_init 9 = .ok (.aload_n 1, 1) := by decide +kernel
theorem dX2_init_10 : decode cX2_init 10 = .ok (.invokespecial 11, 3) := by decide +kernel
theorem dX2_init_13 : decode cX2_init 13 = .ok (.putfield 14, 3) := by decide +kernel
theorem dX2_init_16 : decode cX2_init 16 = .ok (.aload_n 0, 1) := by decide +kernel
theorem dX2_init_17 : decode cX2_init 17 = .ok (.new 20, 3) := by decide +kernel
theorem dX2_init_20 : decode cX2_init 20 = .ok (.dup, 1) := by decide +kernel
theorem dX2_init_21 : decode cX2_init 21 = .ok (.invokespecial 22, 3) := by decide +kernel
theorem dX2_init_24 : decode cX2_init 24 = .ok (.putfield 23, 3) := by decide +kernel
theorem dX2_init_27 : decode cX2_init 27 = .ok (.return_, 1) := by decide +kernel
def zwX2_init : List Cond := .code yX2_init cX2_init 2 none :: ([.methodLink RX2 3 objectInit, .instanceMethod objectInit, .code objectInit ⟨#[0xb1]⟩ 1 none, .classLink RX2 9 RX4, .instantiable RX4 6, .initialized RX4, .methodLink RX2 11 yX4_init, .instanceMethod yX4_init, .fieldLink RX2 14 "LinkModels$Reader" "tokens" "LLinkModels$Tokens;", .classLink RX2 20 RX3, .instantiable RX3 4, .initialized RX3, .instanceMethod yX3_init, .fieldLink RX2 23 "LinkModels$Reader" "signature" "LLinkModels$Signature;", .code yX4_init cX4_init 2 none, .methodLink RX4 1 objectInit, .fieldLink RX4 7 "LinkModels$Tokens" "tape" "[B", .code yX3_init cX3_init 1 none, .methodLink RX3 1 objectInit] ++ wsX40 ++ wsX20 ++ wsX30)
set_option maxRecDepth 100000 in
theorem zgX2_init_X4_init_11 : GoodIn zwX2_init zwX4_init := (goodIn_app (goodIn_r _ [15, 16, 2, 3, 17] rfl (by decide +kernel)) (fun w hw => ⟨(List.mem_cons_of_mem _ (List.mem_append_left _ (List.mem_append_left _ (List.mem_append_right _ hw)))), good_of_word (List.all_eq_true.mp zgX4 w hw)⟩))
set_option maxRecDepth 100000 in
theorem zgX2_init_X3_init_22 : GoodIn zwX2_init zwX3_init := (goodIn_r _ [18, 19, 2, 3] rfl (by decide +kernel))
set_option maxHeartbeats 4000000 in
set_option maxRecDepth 100000 in
theorem zX2_init (l : Launch) (dC : Nat → ClassId) (dI : Nat → Nat → Nat) (h0 rt : Nat) (sz : Nat) : Met l yX2_init zwX2_init ({ frames := 2, cells := 2, slots := 10, locals := 33 }) (zPe dC dI [.ref h0, .ref rt] sz [(h0, .inr (1, [.null, .null, .int 0, .int 0, .int 0]))] []) (va_Qv (fun _ : (Nat → Nat) => True) (fun u t => zB dC dI (va_A [(h0, .inr (1, [.null, .null, .int 0, .int 0, .int 0]))] sz) [(h0, .inr (1, [.ref (u 0), .ref (u 1), .int 0, .int 0, .int 0])), (u 0, .inr (3, [.ref rt, .int 0, .int 0, .int 0, .int 0, .long 0])), (u 1, .inr (2, [.long 0, .int 0, .int 0, .int 0]))] [] t) (va_A [(h0, .inr (1, [.null, .null, .int 0, .int 0, .int 0]))] sz)) 2 10 (va_A [(h0, .inr (1, [.null, .null, .int 0, .int 0, .int 0]))] sz) := by
  refine Met.ofW (cc := cX2_init) (maxL := 2) (ret := none) (by decide) rfl ?_
  intro p e s m args below meth c s₁ B hml hv
  obtain ⟨rfl, hsz, hP, hK, hD0, hE⟩ := hv
  have hx := B.exec
  have hb := B.bytes
  have hr := B.returns
  have hts := atoms_spec (ws := zwX2_init) B.pre
  have hown : s.vm.findClass RX2 = some m.cls := findClass_of_methodNamed B.named
  have hlocks := B.notSynchronized
  have hin : meth.name = "<init>" := (name_of_methodNamed B.named B.method).1
  have hiX4 : ∀ w ∈ wsX40, w ∈ zwX2_init := (fun w hw => (List.mem_cons_of_mem _ (List.mem_append_left _ (List.mem_append_left _ (List.mem_append_right _ hw)))))
  have hiX2 : ∀ w ∈ wsX20, w ∈ zwX2_init := (fun w hw => (List.mem_cons_of_mem _ (List.mem_append_left _ (List.mem_append_right _ hw))))
  have hiX3 : ∀ w ∈ wsX30, w ∈ zwX2_init := (fun w hw => (List.mem_cons_of_mem _ (List.mem_append_right _ hw)))
  subst hsz
  have hD := hD0.self (sz := s.heap.size)
  generalize hAe : va_A [(h0, .inr (1, [.null, .null, .int 0, .int 0, .int 0]))] s.heap.size = A at hD ⊢
  have hA : ∀ q : Nat, s.heap.size ≤ q → A q := fun q h => by rw [← hAe]; exact Or.inr h
  have hS : va_S A s.heap s.heap [] := va_S.rf
  have hP : va_P (dC, dI) vwCl [(h0, .inr (1, [.null, .null, .int 0, .int 0, .int 0]))] s.heap := hP
  have hl := lv_entry ([.ref h0, .ref rt]) (n := 2) (Nat.le_of_ble_eq_true rfl)
  rw [lg_entry_eq]
  generalize (lg_sl ([.ref h0, .ref rt]) ++ List.replicate (2 - (lg_sl ([.ref h0, .ref rt])).length) Slot.unset).toArray = ls at hl ⊢
  have hl : lv_has ls 2 [(0, .ref h0), (1, .ref rt)] := hl
  refine lv_aload_n hx hb dX2_init_0 rfl (lv_at hl 0 rfl) ?_
  refine W.objInit hx hb hown (hts (.methodLink RX2 3 objectInit) (by decide +kernel)) (hts (.instanceMethod objectInit) (by decide +kernel)) (hts (.code objectInit ⟨#[0xb1]⟩ 1 none) (by decide +kernel)) rfl (by rw [hml]; exact hl.1) rfl dX2_init_1 (Nat.le_of_ble_eq_true rfl) (Nat.le_of_ble_eq_true rfl) ?_
  refine W.eq (g2 := F0 m 4 ls []) rfl ?_
  refine lv_aload_n hx hb dX2_init_4 rfl (lv_at hl 0 rfl) ?_
  refine va_new (ci := 3) (fs := [.null, .int 0, .int 0, .int 0, .int 0, .long 0]) (C := RX4) (T := TX4) (N := 6) hx hb hts hiX4 tyX4 tyX4_ok hown (hts (.classLink RX2 9 RX4) (by decide +kernel)) (hts (.instantiable RX4 6) (by decide +kernel)) (hts (.initialized RX4) (by decide +kernel)) hK hP hD hS hA rfl (by decide +kernel) (show 0 + 1 ≤ 2 by omega) (show 0 + 6 ≤ 10 by omega) dX2_init_5 (fun q1 H hP hD hS => ?_)
  have hP : va_P (dC, dI) vwCl [(h0, .inr (1, [.null, .null, .int 0, .int 0, .int 0])), (q1, .inr (3, [.null, .int 0, .int 0, .int 0, .int 0, .long 0]))] H := hP
  have hD : va_D A [(h0, .inr (1, [.null, .null, .int 0, .int 0, .int 0])), (q1, .inr (3, [.null, .int 0, .int 0, .int 0, .int 0, .long 0]))] := hD
  refine W.widen (k := 1) (n := 6) (by omega) (by omega) ?_
  refine lv_dup hx hb dX2_init_8 rfl ?_
  refine lv_aload_n hx hb dX2_init_9 rfl (lv_at hl 1 rfl) ?_
  have hPc := hP.sub (ws' := [(q1, .inr (3, [.null, .int 0, .int 0, .int 0, .int 0, .long 0]))]) [1] rfl
  have hDc := hD.sub (ws' := [(q1, .inr (3, [.null, .int 0, .int 0, .int 0, .int 0, .long 0]))]) [1] (by decide) rfl
  have hKc := hK.sub (tys' := []) [] rfl
  have hFc := va_free (wc := [(q1, .inr (3, [.null, .int 0, .int 0, .int 0, .int 0, .long 0]))]) hD hS hA [1] rfl
  refine va_callv (va_runI (As := [.ref rt]) (rest := [.ref q1, .ref h0]) ⟨hx, hb, hml, hown, hts⟩ (zX4_init l dC dI q1 rt H.size) (cwI 1 hts zgX2_init_X4_init_11 rfl rfl rfl (hts (.initialized RX4) (by decide +kernel)) (hts (.methodLink RX2 11 yX4_init) (by decide +kernel)) (hts (.instanceMethod yX4_init) (by decide +kernel)) rfl (by decide +kernel) ⟨(show 1 + 1 ≤ 2 by omega), (show 8 + (2 + 11) + 12 ≤ 33 by omega)⟩) (zSw hKc hPc hDc) rfl rfl hl.1 rfl (lv_room (Nat.le_of_ble_eq_true rfl)) dX2_init_10 ⟨(show 1 + 0 ≤ 2 by omega), (show 6 + 0 ≤ 10 by omega)⟩) hS (fun q _ h => hFc q h) hFc (fun u2 t H1 locs ht hvm hw hB hz1 hk1 hS => ?_)
  obtain ⟨hP1, hK1, hD1⟩ := hB
  rw [ht] at hP1
  have hK1 := va_K.moved hvm.symm hK1
  obtain ⟨hP, hD⟩ := va_join (wr := [(h0, .inr (1, [.null, .null, .int 0, .int 0, .int 0]))]) (w1 := [(q1, .inr (3, [.ref rt, .int 0, .int 0, .int 0, .int 0, .long 0]))]) hP hD [1] [0] rfl rfl (by decide) (by decide) hk1 hFc hP1 hD1
  have hK := (hK.sub (tys' := []) [] rfl).app hK1
  generalize H1 = H at hP hS ⊢
  have hP : va_P (dC, dI) vwCl [(h0, .inr (1, [.null, .null, .int 0, .int 0, .int 0])), (q1, .inr (3, [.ref rt, .int 0, .int 0, .int 0, .int 0, .long 0]))] H := hP
  have hD : va_D A [(h0, .inr (1, [.null, .null, .int 0, .int 0, .int 0])), (q1, .inr (3, [.ref rt, .int 0, .int 0, .int 0, .int 0, .long 0]))] := hD
  have hK : va_K (dC, dI) vwCl [] s := hK
  refine va_putF (D := (dC, dI)) (ci := 1) (v := .ref q1) (ty := (.object "LinkModels$Tokens")) (C := RX2) (T := TX2) (N := 5) hx hb hts hiX2 tyX2 tyX2_ok nmX2 hown hK hP hD hS 0 rfl rfl 0 (by decide) (hts (.fieldLink RX2 14 "LinkModels$Reader" "tokens" "LLinkModels$Tokens;") (by decide +kernel)) (fun _ h9 => h9) rfl hin rfl (by decide +kernel) rfl rfl (Nat.le_of_ble_eq_true rfl) dX2_init_13 (fun H locs hP hD hS => ?_)
  have hP : va_P (dC, dI) vwCl [(h0, .inr (1, [.ref q1, .null, .int 0, .int 0, .int 0])), (q1, .inr (3, [.ref rt, .int 0, .int 0, .int 0, .int 0, .long 0]))] H := hP
  have hD : va_D A [(h0, .inr (1, [.ref q1, .null, .int 0, .int 0, .int 0])), (q1, .inr (3, [.ref rt, .int 0, .int 0, .int 0, .int 0, .long 0]))] := hD
  refine lv_aload_n hx hb dX2_init_16 rfl (lv_at hl 0 rfl) ?_
  refine va_new (ci := 2) (fs := [.long 0, .int 0, .int 0, .int 0]) (C := RX3) (T := TX3) (N := 4) hx hb hts hiX3 tyX3 tyX3_ok hown (hts (.classLink RX2 20 RX3) (by decide +kernel)) (hts (.instantiable RX3 4) (by decide +kernel)) (hts (.initialized RX3) (by decide +kernel)) hK hP hD hS hA rfl (by decide +kernel) (show 1 + 1 ≤ 2 by omega) (show 6 + 4 ≤ 10 by omega) dX2_init_17 (fun q4 H hP hD hS => ?_)
  have hP : va_P (dC, dI) vwCl [(h0, .inr (1, [.ref q1, .null, .int 0, .int 0, .int 0])), (q1, .inr (3, [.ref rt, .int 0, .int 0, .int 0, .int 0, .long 0])), (q4, .inr (2, [.long 0, .int 0, .int 0, .int 0]))] H := hP
  have hD : va_D A [(h0, .inr (1, [.ref q1, .null, .int 0, .int 0, .int 0])), (q1, .inr (3, [.ref rt, .int 0, .int 0, .int 0, .int 0, .long 0])), (q4, .inr (2, [.long 0, .int 0, .int 0, .int 0]))] := hD
  refine W.widen (k := 2) (n := 10) (by omega) (by omega) ?_
  refine lv_dup hx hb dX2_init_20 rfl ?_
  have hPc := hP.sub (ws' := [(q4, .inr (2, [.long 0, .int 0, .int 0, .int 0]))]) [2] rfl
  have hDc := hD.sub (ws' := [(q4, .inr (2, [.long 0, .int 0, .int 0, .int 0]))]) [2] (by decide) rfl
  have hKc := hK.sub (tys' := []) [] rfl
  have hFc := va_free (wc := [(q4, .inr (2, [.long 0, .int 0, .int 0, .int 0]))]) hD hS hA [2] rfl
  refine va_callv (va_runIN (As := []) (rest := [.ref q4, .ref h0]) ⟨hx, hb, hml, hown, hts⟩ (zX3_init l dC dI q4 H.size) ⟨va_cnB 0 hts zgX2_init_X3_init_22 rfl rfl rfl hE.2.2.1 (hts (.initialized RX3) (by decide +kernel)) (by decide +kernel) ⟨(show 1 + 1 ≤ 2 by omega), (show 8 + (1 + 11) + 12 ≤ 33 by omega)⟩, rfl, (hts (.instanceMethod yX3_init) (by decide +kernel))⟩ (zSw hKc hPc hDc) rfl rfl hl.1 rfl (lv_room (Nat.le_of_ble_eq_true rfl)) dX2_init_21 ⟨(show 2 + 0 ≤ 2 by omega), (show 10 + 0 ≤ 10 by omega)⟩) hS (fun q _ h => hFc q h) hFc (fun u5 t H1 locs ht hvm hw hB hz1 hk1 hS => ?_)
  obtain ⟨hP1, hK1, hD1⟩ := hB
  rw [ht] at hP1
  have hK1 := va_K.moved hvm.symm hK1
  obtain ⟨hP, hD⟩ := va_join (wr := [(h0, .inr (1, [.ref q1, .null, .int 0, .int 0, .int 0])), (q1, .inr (3, [.ref rt, .int 0, .int 0, .int 0, .int 0, .long 0]))]) (w1 := [(q4, .inr (2, [.long 0, .int 0, .int 0, .int 0]))]) hP hD [2] [0, 1] rfl rfl (by decide) (by decide) hk1 hFc hP1 hD1
  have hK := (hK.sub (tys' := []) [] rfl).app hK1
  generalize H1 = H at hP hS ⊢
  have hP : va_P (dC, dI) vwCl [(h0, .inr (1, [.ref q1, .null, .int 0, .int 0, .int 0])), (q1, .inr (3, [.ref rt, .int 0, .int 0, .int 0, .int 0, .long 0])), (q4, .inr (2, [.long 0, .int 0, .int 0, .int 0]))] H := hP
  have hD : va_D A [(h0, .inr (1, [.ref q1, .null, .int 0, .int 0, .int 0])), (q1, .inr (3, [.ref rt, .int 0, .int 0, .int 0, .int 0, .long 0])), (q4, .inr (2, [.long 0, .int 0, .int 0, .int 0]))] := hD
  have hK : va_K (dC, dI) vwCl [] s := hK
  refine va_putF (D := (dC, dI)) (ci := 1) (v := .ref q4) (ty := (.object "LinkModels$Signature")) (C := RX2) (T := TX2) (N := 5) hx hb hts hiX2 tyX2 tyX2_ok nmX2 hown hK hP hD hS 0 rfl rfl 1 (by decide) (hts (.fieldLink RX2 23 "LinkModels$Reader" "signature" "LLinkModels$Signature;") (by decide +kernel)) (fun _ h9 => h9) rfl hin rfl (by decide +kernel) rfl rfl (Nat.le_of_ble_eq_true rfl) dX2_init_24 (fun H locs hP hD hS => ?_)
  have hP : va_P (dC, dI) vwCl [(h0, .inr (1, [.ref q1, .ref q4, .int 0, .int 0, .int 0])), (q1, .inr (3, [.ref rt, .int 0, .int 0, .int 0, .int 0, .long 0])), (q4, .inr (2, [.long 0, .int 0, .int 0, .int 0]))] H := hP
  have hD : va_D A [(h0, .inr (1, [.ref q1, .ref q4, .int 0, .int 0, .int 0])), (q1, .inr (3, [.ref rt, .int 0, .int 0, .int 0, .int 0, .long 0])), (q4, .inr (2, [.long 0, .int 0, .int 0, .int 0]))] := hD
  have hP9 := hP.sub (ws' := [(h0, .inr (1, [.ref q1, .ref q4, .int 0, .int 0, .int 0])), (q1, .inr (3, [.ref rt, .int 0, .int 0, .int 0, .int 0, .long 0])), (q4, .inr (2, [.long 0, .int 0, .int 0, .int 0]))]) [0, 1, 2] rfl
  have hD9 := hD.sub (ws' := [(h0, .inr (1, [.ref q1, .ref q4, .int 0, .int 0, .int 0])), (q1, .inr (3, [.ref rt, .int 0, .int 0, .int 0, .int 0, .long 0])), (q4, .inr (2, [.long 0, .int 0, .int 0, .int 0]))]) [0, 1, 2] (by decide) rfl
  have hK9 := hK.sub (tys' := []) [] rfl
  exact W.vret hx hb hr (fun t ht hW => ⟨⟨(fun k => ([q1, q4] : List Nat).getD k 0), rfl, trivial, by rw [ht]; exact hP9, va_K.moved hW.alike hK9, hD9⟩, hS.F ht⟩) hS.2.2 dX2_init_27
theorem dX5_init_0 : decode cX5_init 0 = .ok (.aload_n 0, 1) := by decide +kernel
theorem dX5_init_1 : decode cX5_init 1 = .ok (.invokespecial 3, 3) := by decide +kernel
theorem dX5_init_4 : decode cX5_init 4 = .ok (.aload_n 0, 1) := by decide +kernel
theorem dX5_init_5 : decode cX5_init 5 = .ok (.iload_n 1, 1) := by decide +kernel
theorem dX5_init_6 : decode cX5_init 6 = .ok (.putfield 9, 3) := by decide +kernel
theorem dX5_init_9 : decode cX5_init 9 = .ok (.aload_n 0, 1) := by decide +kernel
theorem dX5_init_10 : decode cX5_init 10 = .ok (.iload_n 2, 1) := by decide +kernel
theorem dX5_init_11 : decode cX5_init 11 = .ok (.putfield 15, 3) := by decide +kernel
theorem dX5_init_14 : decode cX5_init 14 = .ok (.aload_n 0, 1) := by decide +kernel
theorem dX5_init_15 : decode cX5_init 15 = .ok (.iload_n 3, 1) := by decide +kernel
theorem dX5_init_16 : decode cX5_init 16 = .ok (.putfield 18, 3) := by decide +kernel
theorem dX5_init_19 : decode cX5_init 19 = .ok (.aload_n 0, 1) := by decide +kernel
theorem dX5_init_20 : decode cX5_init 20 = .ok (.new 21, 3) := by decide +kernel
theorem dX5_init_23 : decode cX5_init 23 = .ok (.dup, 1) := by decide +kernel
theorem dX5_init_24 : decode cX5_init 24 = .ok (.invokespecial 23, 3) := by decide +kernel
theorem dX5_init_27 : decode cX5_init 27 = .ok (.putfield 24, 3) := by decide +kernel
theorem dX5_init_30 : decode cX5_init 30 = .ok (.aload_n 0, 1) := by decide +kernel
theorem dX5_init_31 : decode cX5_init 31 = .ok (.iconst (-1), 1) := by decide +kernel
theorem dX5_init_32 : decode cX5_init 32 = .ok (.putfield 28, 3) := by decide +kernel
theorem dX5_init_35 : decode cX5_init 35 = .ok (.return_, 1) := by decide +kernel
def zwX5_init : List Cond := .code yX5_init cX5_init 4 none :: ([.methodLink RX5 3 objectInit, .instanceMethod objectInit, .code objectInit ⟨#[0xb1]⟩ 1 none, .fieldLink RX5 9 "LinkModels$Use" "kind" "I", .fieldLink RX5 15 "LinkModels$Use" "caller" "I", .fieldLink RX5 18 "LinkModels$Use" "owner" "I", .classLink RX5 21 RX3, .instantiable RX3 4, .initialized RX3, .instanceMethod yX3_init, .fieldLink RX5 24 "LinkModels$Use" "wanted" "LLinkModels$Signature;", .fieldLink RX5 28 "LinkModels$Use" "copy" "I", .code yX3_init cX3_init 1 none, .methodLink RX3 1 objectInit] ++ wsX50 ++ wsX30)
set_option maxRecDepth 100000 in
theorem zgX5_init_X3_init_23 : GoodIn zwX5_init zwX3_init := (goodIn_r _ [13, 14, 2, 3] rfl (by decide +kernel))
set_option maxHeartbeats 4000000 in
set_option maxRecDepth 100000 in
theorem zX5_init (l : Launch) (dC : Nat → ClassId) (dI : Nat → Nat → Nat) (h0 : Nat) (p0 p1 p2 : Int32) (sz : Nat) : Met l yX5_init zwX5_init ({ frames := 2, cells := 1, slots := 4, locals := 32 }) (zPe dC dI [.ref h0, .int p0, .int p1, .int p2] sz [(h0, .inr (4, [.int 0, .int 0, .int 0, .null, .int 0]))] []) (va_Qv (fun _ : Nat => True) (fun u t => zB dC dI (va_A [(h0, .inr (4, [.int 0, .int 0, .int 0, .null, .int 0]))] sz) [(h0, .inr (4, [.int p0, .int p1, .int p2, .ref u, .int (-1)])), (u, .inr (2, [.long 0, .int 0, .int 0, .int 0]))] [] t) (va_A [(h0, .inr (4, [.int 0, .int 0, .int 0, .null, .int 0]))] sz)) 1 4 (va_A [(h0, .inr (4, [.int 0, .int 0, .int 0, .null, .int 0]))] sz) := by
  refine Met.ofW (cc := cX5_init) (maxL := 4) (ret := none) (by decide) rfl ?_
  intro p e s m args below meth c s₁ B hml hv
  obtain ⟨rfl, hsz, hP, hK, hD0, hE⟩ := hv
  have hx := B.exec
  have hb := B.bytes
  have hr := B.returns
  have hts := atoms_spec (ws := zwX5_init) B.pre
  have hown : s.vm.findClass RX5 = some m.cls := findClass_of_methodNamed B.named
  have hlocks := B.notSynchronized
  have hin : meth.name = "<init>" := (name_of_methodNamed B.named B.method).1
  have hiX5 : ∀ w ∈ wsX50, w ∈ zwX5_init := (fun w hw => (List.mem_cons_of_mem _ (List.mem_append_left _ (List.mem_append_right _ hw))))
  have hiX3 : ∀ w ∈ wsX30, w ∈ zwX5_init := (fun w hw => (List.mem_cons_of_mem _ (List.mem_append_right _ hw)))
  subst hsz
  have hD := hD0.self (sz := s.heap.size)
  generalize hAe : va_A [(h0, .inr (4, [.int 0, .int 0, .int 0, .null, .int 0]))] s.heap.size = A at hD ⊢
  have hA : ∀ q : Nat, s.heap.size ≤ q → A q := fun q h => by rw [← hAe]; exact Or.inr h
  have hS : va_S A s.heap s.heap [] := va_S.rf
  have hP : va_P (dC, dI) vwCl [(h0, .inr (4, [.int 0, .int 0, .int 0, .null, .int 0]))] s.heap := hP
  have hl := lv_entry ([.ref h0, .int p0, .int p1, .int p2]) (n := 4) (Nat.le_of_ble_eq_true rfl)
  rw [lg_entry_eq]
  generalize (lg_sl ([.ref h0, .int p0, .int p1, .int p2]) ++ List.replicate (4 - (lg_sl ([.ref h0, .int p0, .int p1, .int p2])).length) Slot.unset).toArray = ls at hl ⊢
  have hl : lv_has ls 4 [(0, .ref h0), (1, .int p0), (2, .int p1), (3, .int p2)] := hl
  refine lv_aload_n hx hb dX5_init_0 rfl (lv_at hl 0 rfl) ?_
  refine W.objInit hx hb hown (hts (.methodLink RX5 3 objectInit) (by decide +kernel)) (hts (.instanceMethod objectInit) (by decide +kernel)) (hts (.code objectInit ⟨#[0xb1]⟩ 1 none) (by decide +kernel)) rfl (by rw [hml]; exact hl.1) rfl dX5_init_1 (Nat.le_of_ble_eq_true rfl) (Nat.le_of_ble_eq_true rfl) ?_
  refine W.eq (g2 := F0 m 4 ls []) rfl ?_
  refine lv_aload_n hx hb dX5_init_4 rfl (lv_at hl 0 rfl) ?_
  refine lv_iload_n hx hb dX5_init_5 rfl (lv_at hl 1 rfl) ?_
  refine va_putF (D := (dC, dI)) (ci := 4) (v := .int p0) (ty := (.int)) (C := RX5) (T := TX5) (N := 5) hx hb hts hiX5 tyX5 tyX5_ok nmX5 hown hK hP hD hS 0 rfl rfl 0 (by decide) (hts (.fieldLink RX5 9 "LinkModels$Use" "kind" "I") (by decide +kernel)) (fun _ h9 => h9) rfl hin rfl (by decide +kernel) rfl rfl (Nat.le_of_ble_eq_true rfl) dX5_init_6 (fun H locs hP hD hS => ?_)
  have hP : va_P (dC, dI) vwCl [(h0, .inr (4, [.int p0, .int 0, .int 0, .null, .int 0]))] H := hP
  have hD : va_D A [(h0, .inr (4, [.int p0, .int 0, .int 0, .null, .int 0]))] := hD
  refine lv_aload_n hx hb dX5_init_9 rfl (lv_at hl 0 rfl) ?_
  refine lv_iload_n hx hb dX5_init_10 rfl (lv_at hl 2 rfl) ?_
  refine va_putF (D := (dC, dI)) (ci := 4) (v := .int p1) (ty := (.int)) (C := RX5) (T := TX5) (N := 5) hx hb hts hiX5 tyX5 tyX5_ok nmX5 hown hK hP hD hS 0 rfl rfl 1 (by decide) (hts (.fieldLink RX5 15 "LinkModels$Use" "caller" "I") (by decide +kernel)) (fun _ h9 => h9) rfl hin rfl (by decide +kernel) rfl rfl (Nat.le_of_ble_eq_true rfl) dX5_init_11 (fun H locs hP hD hS => ?_)
  have hP : va_P (dC, dI) vwCl [(h0, .inr (4, [.int p0, .int p1, .int 0, .null, .int 0]))] H := hP
  have hD : va_D A [(h0, .inr (4, [.int p0, .int p1, .int 0, .null, .int 0]))] := hD
  refine lv_aload_n hx hb dX5_init_14 rfl (lv_at hl 0 rfl) ?_
  refine lv_iload_n hx hb dX5_init_15 rfl (lv_at hl 3 rfl) ?_
  refine va_putF (D := (dC, dI)) (ci := 4) (v := .int p2) (ty := (.int)) (C := RX5) (T := TX5) (N := 5) hx hb hts hiX5 tyX5 tyX5_ok nmX5 hown hK hP hD hS 0 rfl rfl 2 (by decide) (hts (.fieldLink RX5 18 "LinkModels$Use" "owner" "I") (by decide +kernel)) (fun _ h9 => h9) rfl hin rfl (by decide +kernel) rfl rfl (Nat.le_of_ble_eq_true rfl) dX5_init_16 (fun H locs hP hD hS => ?_)
  have hP : va_P (dC, dI) vwCl [(h0, .inr (4, [.int p0, .int p1, .int p2, .null, .int 0]))] H := hP
  have hD : va_D A [(h0, .inr (4, [.int p0, .int p1, .int p2, .null, .int 0]))] := hD
  refine lv_aload_n hx hb dX5_init_19 rfl (lv_at hl 0 rfl) ?_
  refine va_new (ci := 2) (fs := [.long 0, .int 0, .int 0, .int 0]) (C := RX3) (T := TX3) (N := 4) hx hb hts hiX3 tyX3 tyX3_ok hown (hts (.classLink RX5 21 RX3) (by decide +kernel)) (hts (.instantiable RX3 4) (by decide +kernel)) (hts (.initialized RX3) (by decide +kernel)) hK hP hD hS hA rfl (by decide +kernel) (show 0 + 1 ≤ 1 by omega) (show 0 + 4 ≤ 4 by omega) dX5_init_20 (fun q1 H hP hD hS => ?_)
  have hP : va_P (dC, dI) vwCl [(h0, .inr (4, [.int p0, .int p1, .int p2, .null, .int 0])), (q1, .inr (2, [.long 0, .int 0, .int 0, .int 0]))] H := hP
  have hD : va_D A [(h0, .inr (4, [.int p0, .int p1, .int p2, .null, .int 0])), (q1, .inr (2, [.long 0, .int 0, .int 0, .int 0]))] := hD
  refine W.widen (k := 1) (n := 4) (by omega) (by omega) ?_
  refine lv_dup hx hb dX5_init_23 rfl ?_
  have hPc := hP.sub (ws' := [(q1, .inr (2, [.long 0, .int 0, .int 0, .int 0]))]) [1] rfl
  have hDc := hD.sub (ws' := [(q1, .inr (2, [.long 0, .int 0, .int 0, .int 0]))]) [1] (by decide) rfl
  have hKc := hK.sub (tys' := []) [] rfl
  have hFc := va_free (wc := [(q1, .inr (2, [.long 0, .int 0, .int 0, .int 0]))]) hD hS hA [1] rfl
  refine va_callv (va_runIN (As := []) (rest := [.ref q1, .ref h0]) ⟨hx, hb, hml, hown, hts⟩ (zX3_init l dC dI q1 H.size) ⟨va_cnB 0 hts zgX5_init_X3_init_23 rfl rfl rfl hE.2.2.2.2 (hts (.initialized RX3) (by decide +kernel)) (by decide +kernel) ⟨(show 1 + 1 ≤ 2 by omega), (show 8 + (1 + 11) + 12 ≤ 32 by omega)⟩, rfl, (hts (.instanceMethod yX3_init) (by decide +kernel))⟩ (zSw hKc hPc hDc) rfl rfl hl.1 rfl (lv_room (Nat.le_of_ble_eq_true rfl)) dX5_init_24 ⟨(show 1 + 0 ≤ 1 by omega), (show 4 + 0 ≤ 4 by omega)⟩) hS (fun q _ h => hFc q h) hFc (fun u2 t H1 locs ht hvm hw hB hz1 hk1 hS => ?_)
  obtain ⟨hP1, hK1, hD1⟩ := hB
  rw [ht] at hP1
  have hK1 := va_K.moved hvm.symm hK1
  obtain ⟨hP, hD⟩ := va_join (wr := [(h0, .inr (4, [.int p0, .int p1, .int p2, .null, .int 0]))]) (w1 := [(q1, .inr (2, [.long 0, .int 0, .int 0, .int 0]))]) hP hD [1] [0] rfl rfl (by decide) (by decide) hk1 hFc hP1 hD1
  have hK := (hK.sub (tys' := []) [] rfl).app hK1
  generalize H1 = H at hP hS ⊢
  have hP : va_P (dC, dI) vwCl [(h0, .inr (4, [.int p0, .int p1, .int p2, .null, .int 0])), (q1, .inr (2, [.long 0, .int 0, .int 0, .int 0]))] H := hP
  have hD : va_D A [(h0, .inr (4, [.int p0, .int p1, .int p2, .null, .int 0])), (q1, .inr (2, [.long 0, .int 0, .int 0, .int 0]))] := hD
  have hK : va_K (dC, dI) vwCl [] s := hK
  refine va_putF (D := (dC, dI)) (ci := 4) (v := .ref q1) (ty := (.object "LinkModels$Signature")) (C := RX5) (T := TX5) (N := 5) hx hb hts hiX5 tyX5 tyX5_ok nmX5 hown hK hP hD hS 0 rfl rfl 3 (by decide) (hts (.fieldLink RX5 24 "LinkModels$Use" "wanted" "LLinkModels$Signature;") (by decide +kernel)) (fun _ h9 => h9) rfl hin rfl (by decide +kernel) rfl rfl (Nat.le_of_ble_eq_true rfl) dX5_init_27 (fun H locs hP hD hS => ?_)
  have hP : va_P (dC, dI) vwCl [(h0, .inr (4, [.int p0, .int p1, .int p2, .ref q1, .int 0])), (q1, .inr (2, [.long 0, .int 0, .int 0, .int 0]))] H := hP
  have hD : va_D A [(h0, .inr (4, [.int p0, .int p1, .int p2, .ref q1, .int 0])), (q1, .inr (2, [.long 0, .int 0, .int 0, .int 0]))] := hD
  refine lv_aload_n hx hb dX5_init_30 rfl (lv_at hl 0 rfl) ?_
  refine lv_iconst (v := (-1)) hx hb dX5_init_31 (by decide) ?_
  refine va_put (D := (dC, dI)) (ci := 4) (v := .int (-1)) (ty := (.int)) (C := RX5) (T := TX5) (N := 5) hx hb hts hiX5 tyX5 tyX5_ok nmX5 hown hK hP hD hS 0 rfl rfl 4 (by decide) (hts (.fieldLink RX5 28 "LinkModels$Use" "copy" "I") (by decide +kernel)) (fun _ h9 => h9) rfl (by decide +kernel) rfl rfl (Nat.le_of_ble_eq_true rfl) dX5_init_32 (fun H locs hP hD hS => ?_)
  have hP : va_P (dC, dI) vwCl [(h0, .inr (4, [.int p0, .int p1, .int p2, .ref q1, .int (-1)])), (q1, .inr (2, [.long 0, .int 0, .int 0, .int 0]))] H := hP
  have hD : va_D A [(h0, .inr (4, [.int p0, .int p1, .int p2, .ref q1, .int (-1)])), (q1, .inr (2, [.long 0, .int 0, .int 0, .int 0]))] := hD
  have hP9 := hP.sub (ws' := [(h0, .inr (4, [.int p0, .int p1, .int p2, .ref q1, .int (-1)])), (q1, .inr (2, [.long 0, .int 0, .int 0, .int 0]))]) [0, 1] rfl
  have hD9 := hD.sub (ws' := [(h0, .inr (4, [.int p0, .int p1, .int p2, .ref q1, .int (-1)])), (q1, .inr (2, [.long 0, .int 0, .int 0, .int 0]))]) [0, 1] (by decide) rfl
  have hK9 := hK.sub (tys' := []) [] rfl
  exact W.vret hx hb hr (fun t ht hW => ⟨⟨q1, rfl, trivial, by rw [ht]; exact hP9, va_K.moved hW.alike hK9, hD9⟩, hS.F ht⟩) hS.2.2 dX5_init_35
theorem dX6_init_0 : decode cX6_init 0 = .ok (.aload_n 0, 1) := by decide +kernel
theorem dX6_init_1 : decode cX6_init 1 = .ok (.invokespecial 1, 3) := by decide +kernel
theorem dX6_init_4 : decode cX6_init 4 = .ok (.aload_n 0, 1) := by decide +kernel
theorem dX6_init_5 : decode cX6_init 5 = .ok (.sipush 800, 3) := by decide +kernel
theorem dX6_init_8 : decode cX6_init 8 = .ok (.newarray .byte, 2) := by decide +kernel
theorem dX6_init_10 : decode cX6_init 10 = .ok (.putfield 9, 3) := by decide +kernel
theorem dX6_init_13 : decode cX6_init 13 = .ok (.aload_n 0, 1) := by decide +kernel
theorem dX6_init_14 : decode cX6_init 14 = .ok (.iconst 0, 1) := by decide +kernel
theorem dX6_init_15 : decode cX6_init 15 = .ok (.putfield 13, 3) := by decide +kernel
theorem dX6_init_18 : decode cX6_init 18 = .ok (.aload_n 0, 1) := by decide +kernel
theorem dX6_init_19 : decode cX6_init 19 = .ok (.iconst 5, 1) := by decide +kernel
theorem dX6_init_20 : decode cX6_init 20 = .ok (.anewarray 17, 3) := by decide +kernel
theorem dX6_init_23 : decode cX6_init 23 = .ok (.putfield 19, 3) := by decide +kernel
theorem dX6_init_26 : decode cX6_init 26 = .ok (.aload_n 0, 1) := by decide +kernel
theorem dX6_init_27 : decode cX6_init 27 = .ok (.iconst 0, 1) := by decide +kernel
theorem dX6_init_28 : decode cX6_init 28 = .ok (.putfield 23, 3) := by decide +kernel
theorem dX6_init_31 : decode cX6_init 31 = .ok (.aload_n 0, 1) := by decide +kernel
theorem dX6_init_32 : decode cX6_init 32 = .ok (.bipush 40, 2) := by decide +kernel
theorem dX6_init_34 : decode cX6_init 34 = .ok (.anewarray 26, 3) := by decide +kernel
theorem dX6_init_37 : decode cX6_init 37 = .ok (.putfield 28, 3) := by decide +kernel
theorem dX6_init_40 : decode cX6_init 40 = .ok (.aload_n 0, 1) := by decide +kernel
theorem dX6_init_41 : decode cX6_init 41 = .ok (.iconst 0, 1) := by decide +kernel
theorem dX6_init_42 : decode cX6_init 42 = .ok (.putfield 32, 3) := by decide +kernel
theorem dX6_init_45 : decode cX6_init 45 = .ok (.aload_n 0, 1) := by decide +kernel
theorem dX6_init_46 : decode cX6_init 46 = .ok (.new 35, 3) := by decide +kernel
theorem dX6_init_49 : decode cX6_init 49 = .ok (.dup, 1) := by decide +kernel
theorem dX6_init_50 : decode cX6_init 50 = .ok (.aload_n 0, 1) := by decide +kernel
theorem dX6_init_51 : decode cX6_init 51 = .ok (.getfield 9, 3) := by decide +kernel
theorem dX6_init_54 : decode cX6_init 54 = .ok (.invokespecial 37, 3) := by decide +kernel
theorem dX6_init_57 : decode cX6_init 57 = .ok (.putfield 40, 3) := by decide +kernel
theorem dX6_init_60 : decode cX6_init 60 = .ok (.return_, 1) := by decide +kernel
def zwX6_init : List Cond := .code yX6_init cX6_init 1 none :: ([.methodLink RX6 1 objectInit, .instanceMethod objectInit, .code objectInit ⟨#[0xb1]⟩ 1 none, .arrayClass .byte, .fieldLink RX6 9 "LinkModels" "tape" "[B", .fieldLink RX6 13 "LinkModels" "tapeLength" "I", .classLink RX6 17 RX0, .fieldLink RX6 19 "LinkModels" "builds" "[LLinkModels$Build;", .fieldLink RX6 23 "LinkModels" "buildCount" "I", .classLink RX6 26 RX5, .fieldLink RX6 28 "LinkModels" "uses" "[LLinkModels$Use;", .fieldLink RX6 32 "LinkModels" "useCount" "I", .classLink RX6 35 RX2, .instantiable RX2 5, .initialized RX2, .methodLink RX6 37 yX2_init, .instanceMethod yX2_init, .fieldLink RX6 40 "LinkModels" "reader" "LLinkModels$Reader;", .code yX2_init cX2_init 2 none, .methodLink RX2 3 objectInit, .classLink RX2 9 RX4, .instantiable RX4 6, .initialized RX4, .methodLink RX2 11 yX4_init, .instanceMethod yX4_init, .fieldLink RX2 14 "LinkModels$Reader" "tokens" "LLinkModels$Tokens;", .classLink RX2 20 RX3, .instantiable RX3 4, .initialized RX3, .instanceMethod yX3_init, .fieldLink RX2 23 "LinkModels$Reader" "signature" "LLinkModels$Signature;", .code yX4_init cX4_init 2 none, .methodLink RX4 1 objectInit, .fieldLink RX4 7 "LinkModels$Tokens" "tape" "[B", .code yX3_init cX3_init 1 none, .methodLink RX3 1 objectInit] ++ wsX60 ++ wsX20 ++ wsX40 ++ wsX30)
set_option maxRecDepth 100000 in
theorem zgX6_init_X2_init_37 : GoodIn zwX6_init zwX2_init := (goodIn_app (goodIn_app (goodIn_app (goodIn_r _ [19, 20, 2, 3, 21, 22, 23, 24, 25, 26, 27, 28, 29, 30, 31, 32, 33, 34, 35, 36] rfl (by decide +kernel)) (fun w hw => ⟨(List.mem_cons_of_mem _ (List.mem_append_left _ (List.mem_append_right _ hw))), good_of_word (List.all_eq_true.mp zgX4 w hw)⟩)) (fun w hw => ⟨(List.mem_cons_of_mem _ (List.mem_append_left _ (List.mem_append_left _ (List.mem_append_right _ hw)))), good_of_word (List.all_eq_true.mp zgX2 w hw)⟩)) (fun w hw => ⟨(List.mem_cons_of_mem _ (List.mem_append_right _ hw)), good_of_word (List.all_eq_true.mp zgX3 w hw)⟩))
set_option maxHeartbeats 4000000 in
set_option maxRecDepth 100000 in
theorem zX6_init (l : Launch) (dC : Nat → ClassId) (dI : Nat → Nat → Nat) (h0 : Nat) (sz : Nat) : Met l yX6_init zwX6_init ({ frames := 3, cells := 6, slots := 860, locals := 54 }) (zPe dC dI [.ref h0] sz [(h0, .inr (5, [.null, .int 0, .null, .int 0, .null, .int 0, .null]))] []) (va_Qv (fun _ : (Nat → Nat) => True) (fun u t => zB dC dI (va_A [(h0, .inr (5, [.null, .int 0, .null, .int 0, .null, .int 0, .null]))] sz) [(h0, .inr (5, [.ref (u 0), .int 0, .ref (u 1), .int 0, .ref (u 2), .int 0, .ref (u 3)])), (u 1, .inl (u 8, 5, .inr (.inr (.inr (.inr (fun _ => none)))))), (u 2, .inl (u 9, 40, .inr (.inr (.inr (.inr (fun _ => none)))))), (u 3, .inr (1, [.ref (u 4), .ref (u 5), .int 0, .int 0, .int 0])), (u 4, .inr (3, [.ref (u 0), .int 0, .int 0, .int 0, .int 0, .long 0])), (u 0, .inl (u 7, 800, .inl (fun _ => 0))), (u 5, .inr (2, [.long 0, .int 0, .int 0, .int 0]))] [(u 7, .byte), (u 8, .object RX0), (u 9, .object RX5)] t) (va_A [(h0, .inr (5, [.null, .int 0, .null, .int 0, .null, .int 0, .null]))] sz)) 6 860 (va_A [(h0, .inr (5, [.null, .int 0, .null, .int 0, .null, .int 0, .null]))] sz) := by
  refine Met.ofW (cc := cX6_init) (maxL := 1) (ret := none) (by decide) rfl ?_
  intro p e s m args below meth c s₁ B hml hv
  obtain ⟨rfl, hsz, hP, hK, hD0, hE⟩ := hv
  have hx := B.exec
  have hb := B.bytes
  have hr := B.returns
  have hts := atoms_spec (ws := zwX6_init) B.pre
  have hown : s.vm.findClass RX6 = some m.cls := findClass_of_methodNamed B.named
  have hlocks := B.notSynchronized
  have hin : meth.name = "<init>" := (name_of_methodNamed B.named B.method).1
  have hiX6 : ∀ w ∈ wsX60, w ∈ zwX6_init := (fun w hw => (List.mem_cons_of_mem _ (List.mem_append_left _ (List.mem_append_left _ (List.mem_append_left _ (List.mem_append_right _ hw))))))
  have hiX2 : ∀ w ∈ wsX20, w ∈ zwX6_init := (fun w hw => (List.mem_cons_of_mem _ (List.mem_append_left _ (List.mem_append_left _ (List.mem_append_right _ hw)))))
  subst hsz
  have hD := hD0.self (sz := s.heap.size)
  generalize hAe : va_A [(h0, .inr (5, [.null, .int 0, .null, .int 0, .null, .int 0, .null]))] s.heap.size = A at hD ⊢
  have hA : ∀ q : Nat, s.heap.size ≤ q → A q := fun q h => by rw [← hAe]; exact Or.inr h
  have hS : va_S A s.heap s.heap [] := va_S.rf
  have hP : va_P (dC, dI) vwCl [(h0, .inr (5, [.null, .int 0, .null, .int 0, .null, .int 0, .null]))] s.heap := hP
  have hao_RX0 : va_AO RX0 s := hE.1
  have hao_RX5 : va_AO RX5 s := hE.2.1
  have hl := lv_entry ([.ref h0]) (n := 1) (Nat.le_of_ble_eq_true rfl)
  rw [lg_entry_eq]
  generalize (lg_sl ([.ref h0]) ++ List.replicate (1 - (lg_sl ([.ref h0])).length) Slot.unset).toArray = ls at hl ⊢
  have hl : lv_has ls 1 [(0, .ref h0)] := hl
  refine lv_aload_n hx hb dX6_init_0 rfl (lv_at hl 0 rfl) ?_
  refine W.objInit hx hb hown (hts (.methodLink RX6 1 objectInit) (by decide +kernel)) (hts (.instanceMethod objectInit) (by decide +kernel)) (hts (.code objectInit ⟨#[0xb1]⟩ 1 none) (by decide +kernel)) rfl (by rw [hml]; exact hl.1) rfl dX6_init_1 (Nat.le_of_ble_eq_true rfl) (Nat.le_of_ble_eq_true rfl) ?_
  refine W.eq (g2 := F0 m 4 ls []) rfl ?_
  refine lv_aload_n hx hb dX6_init_4 rfl (lv_at hl 0 rfl) ?_
  refine lv_sipush (v := 800) hx hb dX6_init_5 (by decide) ?_
  refine va_newa (atype := .byte) (a0 := (800, .inl (fun _ => 0))) (N' := 800) hx hb (hts (.arrayClass .byte) (by decide +kernel)) (ty := .byte) rfl hK hP hD hS hA (z_ai (ty := .byte) rfl 800) (by decide) (by decide) (by decide) (show 0 + 1 ≤ 6 by omega) (show 0 + 800 ≤ 860 by omega) dX6_init_8 (fun q1 cq1 H hK hP hD hS => ?_)
  have hP : va_P (dC, dI) vwCl [(h0, .inr (5, [.null, .int 0, .null, .int 0, .null, .int 0, .null])), (q1, .inl (cq1, 800, .inl (fun _ => 0)))] H := hP
  have hD : va_D A [(h0, .inr (5, [.null, .int 0, .null, .int 0, .null, .int 0, .null])), (q1, .inl (cq1, 800, .inl (fun _ => 0)))] := hD
  have hK : va_K (dC, dI) vwCl [(cq1, .byte)] s := hK
  refine W.widen (k := 1) (n := 800) (by omega) (by omega) ?_
  refine va_putF (D := (dC, dI)) (ci := 5) (v := .ref q1) (ty := (.array .byte)) (C := RX6) (T := TX6) (N := 7) hx hb hts hiX6 tyX6 tyX6_ok nmX6 hown hK hP hD hS 0 rfl rfl 0 (by decide) (hts (.fieldLink RX6 9 "LinkModels" "tape" "[B") (by decide +kernel)) (fun _ h9 => h9) rfl hin rfl (by decide +kernel) rfl rfl (Nat.le_of_ble_eq_true rfl) dX6_init_10 (fun H locs hP hD hS => ?_)
  have hP : va_P (dC, dI) vwCl [(h0, .inr (5, [.ref q1, .int 0, .null, .int 0, .null, .int 0, .null])), (q1, .inl (cq1, 800, .inl (fun _ => 0)))] H := hP
  have hD : va_D A [(h0, .inr (5, [.ref q1, .int 0, .null, .int 0, .null, .int 0, .null])), (q1, .inl (cq1, 800, .inl (fun _ => 0)))] := hD
  refine lv_aload_n hx hb dX6_init_13 rfl (lv_at hl 0 rfl) ?_
  refine lv_iconst (v := 0) hx hb dX6_init_14 (by decide) ?_
  refine va_put (D := (dC, dI)) (ci := 5) (v := .int 0) (ty := (.int)) (C := RX6) (T := TX6) (N := 7) hx hb hts hiX6 tyX6 tyX6_ok nmX6 hown hK hP hD hS 0 rfl rfl 1 (by decide) (hts (.fieldLink RX6 13 "LinkModels" "tapeLength" "I") (by decide +kernel)) (fun _ h9 => h9) rfl (by decide +kernel) rfl rfl (Nat.le_of_ble_eq_true rfl) dX6_init_15 (fun H locs hP hD hS => ?_)
  have hP : va_P (dC, dI) vwCl [(h0, .inr (5, [.ref q1, .int 0, .null, .int 0, .null, .int 0, .null])), (q1, .inl (cq1, 800, .inl (fun _ => 0)))] H := hP
  have hD : va_D A [(h0, .inr (5, [.ref q1, .int 0, .null, .int 0, .null, .int 0, .null])), (q1, .inl (cq1, 800, .inl (fun _ => 0)))] := hD
  refine lv_aload_n hx hb dX6_init_18 rfl (lv_at hl 0 rfl) ?_
  refine lv_iconst (v := 5) hx hb dX6_init_19 (by decide) ?_
  refine va_newq (C := RX0) (N' := 5) hx hb hown (hts (.classLink RX6 17 RX0) (by decide +kernel)) hao_RX0 hK hP hD hS hA (by decide) (by decide) (by decide) (show 1 + 1 ≤ 6 by omega) (show 800 + 5 ≤ 860 by omega) dX6_init_20 (fun q2 cq2 H hK hP hD hS => ?_)
  have hP : va_P (dC, dI) vwCl [(h0, .inr (5, [.ref q1, .int 0, .null, .int 0, .null, .int 0, .null])), (q1, .inl (cq1, 800, .inl (fun _ => 0))), (q2, .inl (cq2, 5, .inr (.inr (.inr (.inr (fun _ => none))))))] H := hP
  have hD : va_D A [(h0, .inr (5, [.ref q1, .int 0, .null, .int 0, .null, .int 0, .null])), (q1, .inl (cq1, 800, .inl (fun _ => 0))), (q2, .inl (cq2, 5, .inr (.inr (.inr (.inr (fun _ => none))))))] := hD
  have hK : va_K (dC, dI) vwCl [(cq1, .byte), (cq2, .object RX0)] s := hK
  refine W.widen (k := 2) (n := 805) (by omega) (by omega) ?_
  refine va_putF (D := (dC, dI)) (ci := 5) (v := .ref q2) (ty := (.array (.object "LinkModels$Build"))) (C := RX6) (T := TX6) (N := 7) hx hb hts hiX6 tyX6 tyX6_ok nmX6 hown hK hP hD hS 0 rfl rfl 2 (by decide) (hts (.fieldLink RX6 19 "LinkModels" "builds" "[LLinkModels$Build;") (by decide +kernel)) (fun _ h9 => h9) rfl hin rfl (by decide +kernel) rfl rfl (Nat.le_of_ble_eq_true rfl) dX6_init_23 (fun H locs hP hD hS => ?_)
  have hP : va_P (dC, dI) vwCl [(h0, .inr (5, [.ref q1, .int 0, .ref q2, .int 0, .null, .int 0, .null])), (q1, .inl (cq1, 800, .inl (fun _ => 0))), (q2, .inl (cq2, 5, .inr (.inr (.inr (.inr (fun _ => none))))))] H := hP
  have hD : va_D A [(h0, .inr (5, [.ref q1, .int 0, .ref q2, .int 0, .null, .int 0, .null])), (q1, .inl (cq1, 800, .inl (fun _ => 0))), (q2, .inl (cq2, 5, .inr (.inr (.inr (.inr (fun _ => none))))))] := hD
  refine lv_aload_n hx hb dX6_init_26 rfl (lv_at hl 0 rfl) ?_
  refine lv_iconst (v := 0) hx hb dX6_init_27 (by decide) ?_
  refine va_put (D := (dC, dI)) (ci := 5) (v := .int 0) (ty := (.int)) (C := RX6) (T := TX6) (N := 7) hx hb hts hiX6 tyX6 tyX6_ok nmX6 hown hK hP hD hS 0 rfl rfl 3 (by decide) (hts (.fieldLink RX6 23 "LinkModels" "buildCount" "I") (by decide +kernel)) (fun _ h9 => h9) rfl (by decide +kernel) rfl rfl (Nat.le_of_ble_eq_true rfl) dX6_init_28 (fun H locs hP hD hS => ?_)
  have hP : va_P (dC, dI) vwCl [(h0, .inr (5, [.ref q1, .int 0, .ref q2, .int 0, .null, .int 0, .null])), (q1, .inl (cq1, 800, .inl (fun _ => 0))), (q2, .inl (cq2, 5, .inr (.inr (.inr (.inr (fun _ => none))))))] H := hP
  have hD : va_D A [(h0, .inr (5, [.ref q1, .int 0, .ref q2, .int 0, .null, .int 0, .null])), (q1, .inl (cq1, 800, .inl (fun _ => 0))), (q2, .inl (cq2, 5, .inr (.inr (.inr (.inr (fun _ => none))))))] := hD
  refine lv_aload_n hx hb dX6_init_31 rfl (lv_at hl 0 rfl) ?_
  refine lv_bipush (v := 40) hx hb dX6_init_32 (by decide) ?_
  refine va_newq (C := RX5) (N' := 40) hx hb hown (hts (.classLink RX6 26 RX5) (by decide +kernel)) hao_RX5 hK hP hD hS hA (by decide) (by decide) (by decide) (show 2 + 1 ≤ 6 by omega) (show 805 + 40 ≤ 860 by omega) dX6_init_34 (fun q3 cq3 H hK hP hD hS => ?_)
  have hP : va_P (dC, dI) vwCl [(h0, .inr (5, [.ref q1, .int 0, .ref q2, .int 0, .null, .int 0, .null])), (q1, .inl (cq1, 800, .inl (fun _ => 0))), (q2, .inl (cq2, 5, .inr (.inr (.inr (.inr (fun _ => none)))))), (q3, .inl (cq3, 40, .inr (.inr (.inr (.inr (fun _ => none))))))] H := hP
  have hD : va_D A [(h0, .inr (5, [.ref q1, .int 0, .ref q2, .int 0, .null, .int 0, .null])), (q1, .inl (cq1, 800, .inl (fun _ => 0))), (q2, .inl (cq2, 5, .inr (.inr (.inr (.inr (fun _ => none)))))), (q3, .inl (cq3, 40, .inr (.inr (.inr (.inr (fun _ => none))))))] := hD
  have hK : va_K (dC, dI) vwCl [(cq1, .byte), (cq2, .object RX0), (cq3, .object RX5)] s := hK
  refine W.widen (k := 3) (n := 845) (by omega) (by omega) ?_
  refine va_putF (D := (dC, dI)) (ci := 5) (v := .ref q3) (ty := (.array (.object "LinkModels$Use"))) (C := RX6) (T := TX6) (N := 7) hx hb hts hiX6 tyX6 tyX6_ok nmX6 hown hK hP hD hS 0 rfl rfl 4 (by decide) (hts (.fieldLink RX6 28 "LinkModels" "uses" "[LLinkModels$Use;") (by decide +kernel)) (fun _ h9 => h9) rfl hin rfl (by decide +kernel) rfl rfl (Nat.le_of_ble_eq_true rfl) dX6_init_37 (fun H locs hP hD hS => ?_)
  have hP : va_P (dC, dI) vwCl [(h0, .inr (5, [.ref q1, .int 0, .ref q2, .int 0, .ref q3, .int 0, .null])), (q1, .inl (cq1, 800, .inl (fun _ => 0))), (q2, .inl (cq2, 5, .inr (.inr (.inr (.inr (fun _ => none)))))), (q3, .inl (cq3, 40, .inr (.inr (.inr (.inr (fun _ => none))))))] H := hP
  have hD : va_D A [(h0, .inr (5, [.ref q1, .int 0, .ref q2, .int 0, .ref q3, .int 0, .null])), (q1, .inl (cq1, 800, .inl (fun _ => 0))), (q2, .inl (cq2, 5, .inr (.inr (.inr (.inr (fun _ => none)))))), (q3, .inl (cq3, 40, .inr (.inr (.inr (.inr (fun _ => none))))))] := hD
  refine lv_aload_n hx hb dX6_init_40 rfl (lv_at hl 0 rfl) ?_
  refine lv_iconst (v := 0) hx hb dX6_init_41 (by decide) ?_
  refine va_put (D := (dC, dI)) (ci := 5) (v := .int 0) (ty := (.int)) (C := RX6) (T := TX6) (N := 7) hx hb hts hiX6 tyX6 tyX6_ok nmX6 hown hK hP hD hS 0 rfl rfl 5 (by decide) (hts (.fieldLink RX6 32 "LinkModels" "useCount" "I") (by decide +kernel)) (fun _ h9 => h9) rfl (by decide +kernel) rfl rfl (Nat.le_of_ble_eq_true rfl) dX6_init_42 (fun H locs hP hD hS => ?_)
  have hP : va_P (dC, dI) vwCl [(h0, .inr (5, [.ref q1, .int 0, .ref q2, .int 0, .ref q3, .int 0, .null])), (q1, .inl (cq1, 800, .inl (fun _ => 0))), (q2, .inl (cq2, 5, .inr (.inr (.inr (.inr (fun _ => none)))))), (q3, .inl (cq3, 40, .inr (.inr (.inr (.inr (fun _ => none))))))] H := hP
  have hD : va_D A [(h0, .inr (5, [.ref q1, .int 0, .ref q2, .int 0, .ref q3, .int 0, .null])), (q1, .inl (cq1, 800, .inl (fun _ => 0))), (q2, .inl (cq2, 5, .inr (.inr (.inr (.inr (fun _ => none)))))), (q3, .inl (cq3, 40, .inr (.inr (.inr (.inr (fun _ => none))))))] := hD
  refine lv_aload_n hx hb dX6_init_45 rfl (lv_at hl 0 rfl) ?_
  refine va_new (ci := 1) (fs := [.null, .null, .int 0, .int 0, .int 0]) (C := RX2) (T := TX2) (N := 5) hx hb hts hiX2 tyX2 tyX2_ok hown (hts (.classLink RX6 35 RX2) (by decide +kernel)) (hts (.instantiable RX2 5) (by decide +kernel)) (hts (.initialized RX2) (by decide +kernel)) hK hP hD hS hA rfl (by decide +kernel) (show 3 + 1 ≤ 6 by omega) (show 845 + 5 ≤ 860 by omega) dX6_init_46 (fun q4 H hP hD hS => ?_)
  have hP : va_P (dC, dI) vwCl [(h0, .inr (5, [.ref q1, .int 0, .ref q2, .int 0, .ref q3, .int 0, .null])), (q1, .inl (cq1, 800, .inl (fun _ => 0))), (q2, .inl (cq2, 5, .inr (.inr (.inr (.inr (fun _ => none)))))), (q3, .inl (cq3, 40, .inr (.inr (.inr (.inr (fun _ => none)))))), (q4, .inr (1, [.null, .null, .int 0, .int 0, .int 0]))] H := hP
  have hD : va_D A [(h0, .inr (5, [.ref q1, .int 0, .ref q2, .int 0, .ref q3, .int 0, .null])), (q1, .inl (cq1, 800, .inl (fun _ => 0))), (q2, .inl (cq2, 5, .inr (.inr (.inr (.inr (fun _ => none)))))), (q3, .inl (cq3, 40, .inr (.inr (.inr (.inr (fun _ => none)))))), (q4, .inr (1, [.null, .null, .int 0, .int 0, .int 0]))] := hD
  refine W.widen (k := 4) (n := 850) (by omega) (by omega) ?_
  refine lv_dup hx hb dX6_init_49 rfl ?_
  refine lv_aload_n hx hb dX6_init_50 rfl (lv_at hl 0 rfl) ?_
  refine va_get (D := (dC, dI)) (ci := 5) (v := .ref q1) (C := RX6) (T := TX6) (N := 7) hx hb hts hiX6 hown hK hP 0 rfl rfl 0 (by decide) (hts (.fieldLink RX6 9 "LinkModels" "tape" "[B") (by decide +kernel)) (fun _ h9 => h9) rfl dX6_init_51 ?_
  have hPc := hP.sub (ws' := [(q4, .inr (1, [.null, .null, .int 0, .int 0, .int 0]))]) [4] rfl
  have hDc := hD.sub (ws' := [(q4, .inr (1, [.null, .null, .int 0, .int 0, .int 0]))]) [4] (by decide) rfl
  have hKc := hK.sub (tys' := []) [] rfl
  have hFc := va_free (wc := [(q4, .inr (1, [.null, .null, .int 0, .int 0, .int 0]))]) hD hS hA [4] rfl
  refine va_callv (va_runI (As := [.ref q1]) (rest := [.ref q4, .ref h0]) ⟨hx, hb, hml, hown, hts⟩ (zX2_init l dC dI q4 q1 H.size) (cwI 1 hts zgX6_init_X2_init_37 rfl rfl rfl (hts (.initialized RX2) (by decide +kernel)) (hts (.methodLink RX6 37 yX2_init) (by decide +kernel)) (hts (.instanceMethod yX2_init) (by decide +kernel)) rfl (by decide +kernel) ⟨(show 2 + 1 ≤ 3 by omega), (show 8 + (2 + 11) + 33 ≤ 54 by omega)⟩) (zSe hKc hPc hDc hE) rfl rfl hl.1 rfl (lv_room (Nat.le_of_ble_eq_true rfl)) dX6_init_54 ⟨(show 4 + 2 ≤ 6 by omega), (show 850 + 10 ≤ 860 by omega)⟩) hS (fun q _ h => hFc q h) hFc (fun u5 t H1 locs ht hvm hw hB hz1 hk1 hS => ?_)
  obtain ⟨hP1, hK1, hD1⟩ := hB
  rw [ht] at hP1
  have hK1 := va_K.moved hvm.symm hK1
  obtain ⟨hP, hD⟩ := va_join (wr := [(h0, .inr (5, [.ref q1, .int 0, .ref q2, .int 0, .ref q3, .int 0, .null])), (q1, .inl (cq1, 800, .inl (fun _ => 0))), (q2, .inl (cq2, 5, .inr (.inr (.inr (.inr (fun _ => none)))))), (q3, .inl (cq3, 40, .inr (.inr (.inr (.inr (fun _ => none))))))]) (w1 := [(q4, .inr (1, [.ref (u5 0), .ref (u5 1), .int 0, .int 0, .int 0])), (u5 0, .inr (3, [.ref q1, .int 0, .int 0, .int 0, .int 0, .long 0])), (u5 1, .inr (2, [.long 0, .int 0, .int 0, .int 0]))]) hP hD [4] [0, 1, 2, 3] rfl rfl (by decide) (by decide) hk1 hFc hP1 hD1
  have hK := (hK.sub (tys' := [(cq1, .byte), (cq2, .object RX0), (cq3, .object RX5)]) [0, 1, 2] rfl).app hK1
  generalize H1 = H at hP hS ⊢
  have hP : va_P (dC, dI) vwCl [(h0, .inr (5, [.ref q1, .int 0, .ref q2, .int 0, .ref q3, .int 0, .null])), (q1, .inl (cq1, 800, .inl (fun _ => 0))), (q2, .inl (cq2, 5, .inr (.inr (.inr (.inr (fun _ => none)))))), (q3, .inl (cq3, 40, .inr (.inr (.inr (.inr (fun _ => none)))))), (q4, .inr (1, [.ref (u5 0), .ref (u5 1), .int 0, .int 0, .int 0])), (u5 0, .inr (3, [.ref q1, .int 0, .int 0, .int 0, .int 0, .long 0])), (u5 1, .inr (2, [.long 0, .int 0, .int 0, .int 0]))] H := hP
  have hD : va_D A [(h0, .inr (5, [.ref q1, .int 0, .ref q2, .int 0, .ref q3, .int 0, .null])), (q1, .inl (cq1, 800, .inl (fun _ => 0))), (q2, .inl (cq2, 5, .inr (.inr (.inr (.inr (fun _ => none)))))), (q3, .inl (cq3, 40, .inr (.inr (.inr (.inr (fun _ => none)))))), (q4, .inr (1, [.ref (u5 0), .ref (u5 1), .int 0, .int 0, .int 0])), (u5 0, .inr (3, [.ref q1, .int 0, .int 0, .int 0, .int 0, .long 0])), (u5 1, .inr (2, [.long 0, .int 0, .int 0, .int 0]))] := hD
  have hK : va_K (dC, dI) vwCl [(cq1, .byte), (cq2, .object RX0), (cq3, .object RX5)] s := hK
  refine W.widen (k := 6) (n := 860) (by omega) (by omega) ?_
  refine va_putF (D := (dC, dI)) (ci := 5) (v := .ref q4) (ty := (.object "LinkModels$Reader")) (C := RX6) (T := TX6) (N := 7) hx hb hts hiX6 tyX6 tyX6_ok nmX6 hown hK hP hD hS 0 rfl rfl 6 (by decide) (hts (.fieldLink RX6 40 "LinkModels" "reader" "LLinkModels$Reader;") (by decide +kernel)) (fun _ h9 => h9) rfl hin rfl (by decide +kernel) rfl rfl (Nat.le_of_ble_eq_true rfl) dX6_init_57 (fun H locs hP hD hS => ?_)
  have hP : va_P (dC, dI) vwCl [(h0, .inr (5, [.ref q1, .int 0, .ref q2, .int 0, .ref q3, .int 0, .ref q4])), (q1, .inl (cq1, 800, .inl (fun _ => 0))), (q2, .inl (cq2, 5, .inr (.inr (.inr (.inr (fun _ => none)))))), (q3, .inl (cq3, 40, .inr (.inr (.inr (.inr (fun _ => none)))))), (q4, .inr (1, [.ref (u5 0), .ref (u5 1), .int 0, .int 0, .int 0])), (u5 0, .inr (3, [.ref q1, .int 0, .int 0, .int 0, .int 0, .long 0])), (u5 1, .inr (2, [.long 0, .int 0, .int 0, .int 0]))] H := hP
  have hD : va_D A [(h0, .inr (5, [.ref q1, .int 0, .ref q2, .int 0, .ref q3, .int 0, .ref q4])), (q1, .inl (cq1, 800, .inl (fun _ => 0))), (q2, .inl (cq2, 5, .inr (.inr (.inr (.inr (fun _ => none)))))), (q3, .inl (cq3, 40, .inr (.inr (.inr (.inr (fun _ => none)))))), (q4, .inr (1, [.ref (u5 0), .ref (u5 1), .int 0, .int 0, .int 0])), (u5 0, .inr (3, [.ref q1, .int 0, .int 0, .int 0, .int 0, .long 0])), (u5 1, .inr (2, [.long 0, .int 0, .int 0, .int 0]))] := hD
  have hP9 := hP.sub (ws' := [(h0, .inr (5, [.ref q1, .int 0, .ref q2, .int 0, .ref q3, .int 0, .ref q4])), (q2, .inl (cq2, 5, .inr (.inr (.inr (.inr (fun _ => none)))))), (q3, .inl (cq3, 40, .inr (.inr (.inr (.inr (fun _ => none)))))), (q4, .inr (1, [.ref (u5 0), .ref (u5 1), .int 0, .int 0, .int 0])), (u5 0, .inr (3, [.ref q1, .int 0, .int 0, .int 0, .int 0, .long 0])), (q1, .inl (cq1, 800, .inl (fun _ => 0))), (u5 1, .inr (2, [.long 0, .int 0, .int 0, .int 0]))]) [0, 2, 3, 4, 5, 1, 6] rfl
  have hD9 := hD.sub (ws' := [(h0, .inr (5, [.ref q1, .int 0, .ref q2, .int 0, .ref q3, .int 0, .ref q4])), (q2, .inl (cq2, 5, .inr (.inr (.inr (.inr (fun _ => none)))))), (q3, .inl (cq3, 40, .inr (.inr (.inr (.inr (fun _ => none)))))), (q4, .inr (1, [.ref (u5 0), .ref (u5 1), .int 0, .int 0, .int 0])), (u5 0, .inr (3, [.ref q1, .int 0, .int 0, .int 0, .int 0, .long 0])), (q1, .inl (cq1, 800, .inl (fun _ => 0))), (u5 1, .inr (2, [.long 0, .int 0, .int 0, .int 0]))]) [0, 2, 3, 4, 5, 1, 6] (by decide) rfl
  have hK9 := hK.sub (tys' := [(cq1, .byte), (cq2, .object RX0), (cq3, .object RX5)]) [0, 1, 2] rfl
  exact W.vret hx hb hr (fun t ht hW => ⟨⟨(fun k => ([q1, q2, q3, q4, u5 0, u5 1, 0, cq1, cq2, cq3] : List Nat).getD k 0), rfl, trivial, by rw [ht]; exact hP9, va_K.moved hW.alike hK9, hD9⟩, hS.F ht⟩) hS.2.2 dX6_init_60
