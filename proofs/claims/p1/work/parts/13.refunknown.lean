theorem dX7_defined_0 : decode cX7_defined 0 = .ok (.aload_n 0, 1) := by decide +kernel
theorem dX7_defined_1 : decode cX7_defined 1 = .ok (.iconst 0, 1) := by decide +kernel
theorem dX7_defined_2 : decode cX7_defined 2 = .ok (.putfield 1, 3) := by decide +kernel
theorem dX7_defined_5 : decode cX7_defined 5 = .ok (.aload_n 0, 1) := by decide +kernel
theorem dX7_defined_6 : decode cX7_defined 6 = .ok (.iload_n 1, 1) := by decide +kernel
theorem dX7_defined_7 : decode cX7_defined 7 = .ok (.invokevirtual 248, 3) := by decide +kernel
theorem dX7_defined_10 : decode cX7_defined 10 = .ok (.ifCond .ne 6, 3) := by decide +kernel
theorem dX7_defined_13 : decode cX7_defined 13 = .ok (.bipush (-2), 2) := by decide +kernel
theorem dX7_defined_15 : decode cX7_defined 15 = .ok (.ireturn, 1) := by decide +kernel
def zwX7_defined : List Cond := .code yX7_defined cX7_defined 4 (some .int) :: ([.fieldLink RX7 1 "LinkModelsModel" "thrown" "I", .methodLink RX7 248 yX7_isBuild, .instanceMethod yX7_isBuild, .selects RX7 yX7_isBuild yX7_isBuild, .initialized RX7, .code yX7_isBuild cX7_isBuild 2 (some .boolean), .fieldLink RX7 232 "LinkModelsModel" "builds" "I", .methodLink RX7 105 yX7_in, .static yX7_in, .code yX7_in cX7_in 6 (some .boolean)] ++ wsX70)
theorem zgX7_defined_X7_isBuild_248 : GoodIn zwX7_defined (wsV RX7 248 RX7 yX7_isBuild zwX7_isBuild) := goodIn_app (goodIn_of _ (by decide +kernel)) (goodIn_ca (goodIn_of _ (by decide +kernel)) (zgt zg7))
set_option maxHeartbeats 4000000 in
set_option maxRecDepth 100000 in
theorem zX7_defined (l : Launch) (dC : Nat → ClassId) (dI : Nat → Nat → Nat) (h0 : Nat) (r : Nat → Nat) (sz : Nat) (p0 : Int32) (p1 : Int32) : Met l yX7_defined zwX7_defined ({ frames := 2, cells := 0, slots := 0, locals := 46 }) (zPw dC dI [.ref h0, .int p0, .int p1] sz [(h0, .inr (6, zM 0 r))] []) (va_Qi (fun (r : Int32) (_ : Unit) => r = -2) (fun _ _ => True) (va_A [(h0, .inr (6, zM 0 r))] sz)) 0 0 (va_A [(h0, .inr (6, zM 0 r))] sz) := by
  refine Met.ofW (cc := cX7_defined) (maxL := 4) (ret := (some .int)) (by decide) rfl ?_
  intro p e s m args below meth c s₁ B hml hv
  obtain ⟨rfl, hsz, hP, hK, hD0⟩ := hv
  have hx := B.exec
  have hb := B.bytes
  have hr := B.returns
  have hts := atoms_spec (ws := zwX7_defined) B.pre
  have hown : s.vm.findClass RX7 = some m.cls := findClass_of_methodNamed B.named
  have hlocks := B.notSynchronized
  have hiX7 : ∀ w ∈ wsX70, w ∈ zwX7_defined := (fun _ h => List.mem_cons_of_mem _ (List.mem_append_right _ h))
  subst hsz
  have hD := hD0.self (sz := s.heap.size)
  generalize hAe : va_A [(h0, .inr (6, zM 0 r))] s.heap.size = A at hD ⊢
  have hA : ∀ q : Nat, s.heap.size ≤ q → A q := fun q h => by rw [← hAe]; exact Or.inr h
  have hS : va_S A s.heap s.heap [] := va_S.rf
  have hP : va_P (dC, dI) vwCl [(h0, .inr (6, zM 0 r))] s.heap := hP
  have hl := lv_entry ([.ref h0, .int p0, .int p1]) (n := 4) (Nat.le_of_ble_eq_true rfl)
  rw [lg_entry_eq]
  generalize (lg_sl ([.ref h0, .int p0, .int p1]) ++ List.replicate (4 - (lg_sl ([.ref h0, .int p0, .int p1])).length) Slot.unset).toArray = ls at hl ⊢
  have hl : lv_has ls 4 [(0, .ref h0), (1, .int p0), (2, .int p1)] := hl
  refine lv_aload_n hx hb dX7_defined_0 rfl (lv_at hl 0 rfl) ?_
  refine lv_iconst (v := 0) hx hb dX7_defined_1 (by decide) ?_
  refine va_put (D := (dC, dI)) (ci := 6) (v := .int 0) (ty := (.int)) (C := RX7) (T := TX7) (N := 46) hx hb hts hiX7 tyX7 tyX7_ok nmX7 hown hK hP hD hS 0 rfl rfl 0 (by decide) (hts (.fieldLink RX7 1 "LinkModelsModel" "thrown" "I") (by decide +kernel)) (fun _ h9 => h9) rfl (by decide +kernel) rfl rfl (Nat.le_of_ble_eq_true rfl) dX7_defined_2 (fun H locs hP hD hS => ?_)
  have hP : va_P (dC, dI) vwCl [(h0, .inr (6, zM 0 r))] H := hP
  have hD : va_D A [(h0, .inr (6, zM 0 r))] := hD
  refine lv_aload_n hx hb dX7_defined_5 rfl (lv_at hl 0 rfl) ?_
  refine lv_iload_n hx hb dX7_defined_6 rfl (lv_at hl 1 rfl) ?_
  refine vp_callSi (W.runV (As := [.int p0]) (rest := []) ⟨hx, hb, hml, hown, hts⟩ (zX7_isBuild l dC dI h0 r p0) (cwV 1 hts zgX7_defined_X7_isBuild_248 rfl rfl rfl (by decide +kernel) ⟨(show 1 + 1 ≤ 2 by omega), (show 8 + (2 + 11) + 25 ≤ 46 by omega)⟩) (zVr (ci := 6) (q0 := 0) (q := (RX7, TX7, 46)) (hK.sub (tys' := []) [] rfl) (hP.sub (ws' := [(h0, .inr (6, zM 0 r))]) [0] rfl) rfl rfl rfl) rfl rfl hl.1 rfl (lv_room (Nat.le_of_ble_eq_true rfl)) dX7_defined_7 ⟨(show 0 + 0 ≤ 0 by omega), (show 0 + 0 ≤ 0 by omega)⟩) (fun r1 hr1 => ?_)
  subst hr1
  refine lv_if_ne (tgt := 16) hx hb dX7_defined_10 (by decide) (fun c9 => absurd c9 (fun h9 => h9 rfl)) (fun _ => ?_)
  refine lv_bipush (v := (-2)) hx hb dX7_defined_13 (by decide) ?_
  exact W.iret (v := -2) hx hb hr (fun t ht hW => ⟨⟨-2, (), rfl, rfl, trivial⟩, hS.F ht⟩) hS.2.2 dX7_defined_15
theorem dX7_count_0 : decode cX7_count 0 = .ok (.aload_n 0, 1) := by decide +kernel
theorem dX7_count_1 : decode cX7_count 1 = .ok (.iconst 0, 1) := by decide +kernel
theorem dX7_count_2 : decode cX7_count 2 = .ok (.putfield 1, 3) := by decide +kernel
theorem dX7_count_5 : decode cX7_count 5 = .ok (.aload_n 0, 1) := by decide +kernel
theorem dX7_count_6 : decode cX7_count 6 = .ok (.iload_n 1, 1) := by decide +kernel
theorem dX7_count_7 : decode cX7_count 7 = .ok (.invokevirtual 248, 3) := by decide +kernel
theorem dX7_count_10 : decode cX7_count 10 = .ok (.ifCond .ne 6, 3) := by decide +kernel
theorem dX7_count_13 : decode cX7_count 13 = .ok (.bipush (-2), 2) := by decide +kernel
theorem dX7_count_15 : decode cX7_count 15 = .ok (.ireturn, 1) := by decide +kernel
def zwX7_count : List Cond := .code yX7_count cX7_count 6 (some .int) :: ([.fieldLink RX7 1 "LinkModelsModel" "thrown" "I", .methodLink RX7 248 yX7_isBuild, .instanceMethod yX7_isBuild, .selects RX7 yX7_isBuild yX7_isBuild, .initialized RX7, .code yX7_isBuild cX7_isBuild 2 (some .boolean), .fieldLink RX7 232 "LinkModelsModel" "builds" "I", .methodLink RX7 105 yX7_in, .static yX7_in, .code yX7_in cX7_in 6 (some .boolean)] ++ wsX70)
theorem zgX7_count_X7_isBuild_248 : GoodIn zwX7_count (wsV RX7 248 RX7 yX7_isBuild zwX7_isBuild) := goodIn_app (goodIn_of _ (by decide +kernel)) (goodIn_ca (goodIn_of _ (by decide +kernel)) (zgt zg7))
set_option maxHeartbeats 4000000 in
set_option maxRecDepth 100000 in
theorem zX7_count (l : Launch) (dC : Nat → ClassId) (dI : Nat → Nat → Nat) (h0 : Nat) (r : Nat → Nat) (sz : Nat) (p0 : Int32) (p1 : Int32) : Met l yX7_count zwX7_count ({ frames := 2, cells := 0, slots := 0, locals := 46 }) (zPw dC dI [.ref h0, .int p0, .int p1] sz [(h0, .inr (6, zM 0 r))] []) (va_Qi (fun (r : Int32) (_ : Unit) => r = -2) (fun _ _ => True) (va_A [(h0, .inr (6, zM 0 r))] sz)) 0 0 (va_A [(h0, .inr (6, zM 0 r))] sz) := by
  refine Met.ofW (cc := cX7_count) (maxL := 6) (ret := (some .int)) (by decide) rfl ?_
  intro p e s m args below meth c s₁ B hml hv
  obtain ⟨rfl, hsz, hP, hK, hD0⟩ := hv
  have hx := B.exec
  have hb := B.bytes
  have hr := B.returns
  have hts := atoms_spec (ws := zwX7_count) B.pre
  have hown : s.vm.findClass RX7 = some m.cls := findClass_of_methodNamed B.named
  have hlocks := B.notSynchronized
  have hiX7 : ∀ w ∈ wsX70, w ∈ zwX7_count := (fun _ h => List.mem_cons_of_mem _ (List.mem_append_right _ h))
  subst hsz
  have hD := hD0.self (sz := s.heap.size)
  generalize hAe : va_A [(h0, .inr (6, zM 0 r))] s.heap.size = A at hD ⊢
  have hA : ∀ q : Nat, s.heap.size ≤ q → A q := fun q h => by rw [← hAe]; exact Or.inr h
  have hS : va_S A s.heap s.heap [] := va_S.rf
  have hP : va_P (dC, dI) vwCl [(h0, .inr (6, zM 0 r))] s.heap := hP
  have hl := lv_entry ([.ref h0, .int p0, .int p1]) (n := 6) (Nat.le_of_ble_eq_true rfl)
  rw [lg_entry_eq]
  generalize (lg_sl ([.ref h0, .int p0, .int p1]) ++ List.replicate (6 - (lg_sl ([.ref h0, .int p0, .int p1])).length) Slot.unset).toArray = ls at hl ⊢
  have hl : lv_has ls 6 [(0, .ref h0), (1, .int p0), (2, .int p1)] := hl
  refine lv_aload_n hx hb dX7_count_0 rfl (lv_at hl 0 rfl) ?_
  refine lv_iconst (v := 0) hx hb dX7_count_1 (by decide) ?_
  refine va_put (D := (dC, dI)) (ci := 6) (v := .int 0) (ty := (.int)) (C := RX7) (T := TX7) (N := 46) hx hb hts hiX7 tyX7 tyX7_ok nmX7 hown hK hP hD hS 0 rfl rfl 0 (by decide) (hts (.fieldLink RX7 1 "LinkModelsModel" "thrown" "I") (by decide +kernel)) (fun _ h9 => h9) rfl (by decide +kernel) rfl rfl (Nat.le_of_ble_eq_true rfl) dX7_count_2 (fun H locs hP hD hS => ?_)
  have hP : va_P (dC, dI) vwCl [(h0, .inr (6, zM 0 r))] H := hP
  have hD : va_D A [(h0, .inr (6, zM 0 r))] := hD
  refine lv_aload_n hx hb dX7_count_5 rfl (lv_at hl 0 rfl) ?_
  refine lv_iload_n hx hb dX7_count_6 rfl (lv_at hl 1 rfl) ?_
  refine vp_callSi (W.runV (As := [.int p0]) (rest := []) ⟨hx, hb, hml, hown, hts⟩ (zX7_isBuild l dC dI h0 r p0) (cwV 1 hts zgX7_count_X7_isBuild_248 rfl rfl rfl (by decide +kernel) ⟨(show 1 + 1 ≤ 2 by omega), (show 8 + (2 + 11) + 25 ≤ 46 by omega)⟩) (zVr (ci := 6) (q0 := 0) (q := (RX7, TX7, 46)) (hK.sub (tys' := []) [] rfl) (hP.sub (ws' := [(h0, .inr (6, zM 0 r))]) [0] rfl) rfl rfl rfl) rfl rfl hl.1 rfl (lv_room (Nat.le_of_ble_eq_true rfl)) dX7_count_7 ⟨(show 0 + 0 ≤ 0 by omega), (show 0 + 0 ≤ 0 by omega)⟩) (fun r1 hr1 => ?_)
  subst hr1
  refine lv_if_ne (tgt := 16) hx hb dX7_count_10 (by decide) (fun c9 => absurd c9 (fun h9 => h9 rfl)) (fun _ => ?_)
  refine lv_bipush (v := (-2)) hx hb dX7_count_13 (by decide) ?_
  exact W.iret (v := -2) hx hb hr (fun t ht hW => ⟨⟨-2, (), rfl, rfl, trivial⟩, hS.F ht⟩) hS.2.2 dX7_count_15
theorem dX7_name_0 : decode cX7_name 0 = .ok (.aload_n 0, 1) := by decide +kernel
theorem dX7_name_1 : decode cX7_name 1 = .ok (.iconst 0, 1) := by decide +kernel
theorem dX7_name_2 : decode cX7_name 2 = .ok (.putfield 1, 3) := by decide +kernel
theorem dX7_name_5 : decode cX7_name 5 = .ok (.aload_n 0, 1) := by decide +kernel
theorem dX7_name_6 : decode cX7_name 6 = .ok (.iload_n 1, 1) := by decide +kernel
theorem dX7_name_7 : decode cX7_name 7 = .ok (.invokevirtual 248, 3) := by decide +kernel
theorem dX7_name_10 : decode cX7_name 10 = .ok (.ifCond .ne 6, 3) := by decide +kernel
theorem dX7_name_13 : decode cX7_name 13 = .ok (.bipush (-2), 2) := by decide +kernel
theorem dX7_name_15 : decode cX7_name 15 = .ok (.ireturn, 1) := by decide +kernel
def zwX7_name : List Cond := .code yX7_name cX7_name 3 (some .int) :: ([.fieldLink RX7 1 "LinkModelsModel" "thrown" "I", .methodLink RX7 248 yX7_isBuild, .instanceMethod yX7_isBuild, .selects RX7 yX7_isBuild yX7_isBuild, .initialized RX7, .code yX7_isBuild cX7_isBuild 2 (some .boolean), .fieldLink RX7 232 "LinkModelsModel" "builds" "I", .methodLink RX7 105 yX7_in, .static yX7_in, .code yX7_in cX7_in 6 (some .boolean)] ++ wsX70)
theorem zgX7_name_X7_isBuild_248 : GoodIn zwX7_name (wsV RX7 248 RX7 yX7_isBuild zwX7_isBuild) := goodIn_app (goodIn_of _ (by decide +kernel)) (goodIn_ca (goodIn_of _ (by decide +kernel)) (zgt zg7))
set_option maxHeartbeats 4000000 in
set_option maxRecDepth 100000 in
theorem zX7_name (l : Launch) (dC : Nat → ClassId) (dI : Nat → Nat → Nat) (h0 : Nat) (r : Nat → Nat) (sz : Nat) (p0 : Int32) (p1 : Int32) : Met l yX7_name zwX7_name ({ frames := 2, cells := 0, slots := 0, locals := 46 }) (zPw dC dI [.ref h0, .int p0, .int p1] sz [(h0, .inr (6, zM 0 r))] []) (va_Qi (fun (r : Int32) (_ : Unit) => r = -2) (fun _ _ => True) (va_A [(h0, .inr (6, zM 0 r))] sz)) 0 0 (va_A [(h0, .inr (6, zM 0 r))] sz) := by
  refine Met.ofW (cc := cX7_name) (maxL := 3) (ret := (some .int)) (by decide) rfl ?_
  intro p e s m args below meth c s₁ B hml hv
  obtain ⟨rfl, hsz, hP, hK, hD0⟩ := hv
  have hx := B.exec
  have hb := B.bytes
  have hr := B.returns
  have hts := atoms_spec (ws := zwX7_name) B.pre
  have hown : s.vm.findClass RX7 = some m.cls := findClass_of_methodNamed B.named
  have hlocks := B.notSynchronized
  have hiX7 : ∀ w ∈ wsX70, w ∈ zwX7_name := (fun _ h => List.mem_cons_of_mem _ (List.mem_append_right _ h))
  subst hsz
  have hD := hD0.self (sz := s.heap.size)
  generalize hAe : va_A [(h0, .inr (6, zM 0 r))] s.heap.size = A at hD ⊢
  have hA : ∀ q : Nat, s.heap.size ≤ q → A q := fun q h => by rw [← hAe]; exact Or.inr h
  have hS : va_S A s.heap s.heap [] := va_S.rf
  have hP : va_P (dC, dI) vwCl [(h0, .inr (6, zM 0 r))] s.heap := hP
  have hl := lv_entry ([.ref h0, .int p0, .int p1]) (n := 3) (Nat.le_of_ble_eq_true rfl)
  rw [lg_entry_eq]
  generalize (lg_sl ([.ref h0, .int p0, .int p1]) ++ List.replicate (3 - (lg_sl ([.ref h0, .int p0, .int p1])).length) Slot.unset).toArray = ls at hl ⊢
  have hl : lv_has ls 3 [(0, .ref h0), (1, .int p0), (2, .int p1)] := hl
  refine lv_aload_n hx hb dX7_name_0 rfl (lv_at hl 0 rfl) ?_
  refine lv_iconst (v := 0) hx hb dX7_name_1 (by decide) ?_
  refine va_put (D := (dC, dI)) (ci := 6) (v := .int 0) (ty := (.int)) (C := RX7) (T := TX7) (N := 46) hx hb hts hiX7 tyX7 tyX7_ok nmX7 hown hK hP hD hS 0 rfl rfl 0 (by decide) (hts (.fieldLink RX7 1 "LinkModelsModel" "thrown" "I") (by decide +kernel)) (fun _ h9 => h9) rfl (by decide +kernel) rfl rfl (Nat.le_of_ble_eq_true rfl) dX7_name_2 (fun H locs hP hD hS => ?_)
  have hP : va_P (dC, dI) vwCl [(h0, .inr (6, zM 0 r))] H := hP
  have hD : va_D A [(h0, .inr (6, zM 0 r))] := hD
  refine lv_aload_n hx hb dX7_name_5 rfl (lv_at hl 0 rfl) ?_
  refine lv_iload_n hx hb dX7_name_6 rfl (lv_at hl 1 rfl) ?_
  refine vp_callSi (W.runV (As := [.int p0]) (rest := []) ⟨hx, hb, hml, hown, hts⟩ (zX7_isBuild l dC dI h0 r p0) (cwV 1 hts zgX7_name_X7_isBuild_248 rfl rfl rfl (by decide +kernel) ⟨(show 1 + 1 ≤ 2 by omega), (show 8 + (2 + 11) + 25 ≤ 46 by omega)⟩) (zVr (ci := 6) (q0 := 0) (q := (RX7, TX7, 46)) (hK.sub (tys' := []) [] rfl) (hP.sub (ws' := [(h0, .inr (6, zM 0 r))]) [0] rfl) rfl rfl rfl) rfl rfl hl.1 rfl (lv_room (Nat.le_of_ble_eq_true rfl)) dX7_name_7 ⟨(show 0 + 0 ≤ 0 by omega), (show 0 + 0 ≤ 0 by omega)⟩) (fun r1 hr1 => ?_)
  subst hr1
  refine lv_if_ne (tgt := 16) hx hb dX7_name_10 (by decide) (fun c9 => absurd c9 (fun h9 => h9 rfl)) (fun _ => ?_)
  refine lv_bipush (v := (-2)) hx hb dX7_name_13 (by decide) ?_
  exact W.iret (v := -2) hx hb hr (fun t ht hW => ⟨⟨-2, (), rfl, rfl, trivial⟩, hS.F ht⟩) hS.2.2 dX7_name_15
theorem dX7_is_0 : decode cX7_is 0 = .ok (.aload_n 0, 1) := by decide +kernel
theorem dX7_is_1 : decode cX7_is 1 = .ok (.iconst 0, 1) := by decide +kernel
theorem dX7_is_2 : decode cX7_is 2 = .ok (.putfield 1, 3) := by decide +kernel
theorem dX7_is_5 : decode cX7_is 5 = .ok (.aload_n 0, 1) := by decide +kernel
theorem dX7_is_6 : decode cX7_is 6 = .ok (.iload_n 1, 1) := by decide +kernel
theorem dX7_is_7 : decode cX7_is 7 = .ok (.invokevirtual 248, 3) := by decide +kernel
theorem dX7_is_10 : decode cX7_is 10 = .ok (.ifCond .ne 6, 3) := by decide +kernel
theorem dX7_is_13 : decode cX7_is 13 = .ok (.bipush (-2), 2) := by decide +kernel
theorem dX7_is_15 : decode cX7_is 15 = .ok (.ireturn, 1) := by decide +kernel
def zwX7_is : List Cond := .code yX7_is cX7_is 5 (some .int) :: ([.fieldLink RX7 1 "LinkModelsModel" "thrown" "I", .methodLink RX7 248 yX7_isBuild, .instanceMethod yX7_isBuild, .selects RX7 yX7_isBuild yX7_isBuild, .initialized RX7, .code yX7_isBuild cX7_isBuild 2 (some .boolean), .fieldLink RX7 232 "LinkModelsModel" "builds" "I", .methodLink RX7 105 yX7_in, .static yX7_in, .code yX7_in cX7_in 6 (some .boolean)] ++ wsX70)
theorem zgX7_is_X7_isBuild_248 : GoodIn zwX7_is (wsV RX7 248 RX7 yX7_isBuild zwX7_isBuild) := goodIn_app (goodIn_of _ (by decide +kernel)) (goodIn_ca (goodIn_of _ (by decide +kernel)) (zgt zg7))
set_option maxHeartbeats 4000000 in
set_option maxRecDepth 100000 in
theorem zX7_is (l : Launch) (dC : Nat → ClassId) (dI : Nat → Nat → Nat) (h0 : Nat) (r : Nat → Nat) (sz : Nat) (p0 : Int32) (p1 : Int32) (p2 : Int32) : Met l yX7_is zwX7_is ({ frames := 2, cells := 0, slots := 0, locals := 46 }) (zPw dC dI [.ref h0, .int p0, .int p1, .int p2] sz [(h0, .inr (6, zM 0 r))] []) (va_Qi (fun (r : Int32) (_ : Unit) => r = -2) (fun _ _ => True) (va_A [(h0, .inr (6, zM 0 r))] sz)) 0 0 (va_A [(h0, .inr (6, zM 0 r))] sz) := by
  refine Met.ofW (cc := cX7_is) (maxL := 5) (ret := (some .int)) (by decide) rfl ?_
  intro p e s m args below meth c s₁ B hml hv
  obtain ⟨rfl, hsz, hP, hK, hD0⟩ := hv
  have hx := B.exec
  have hb := B.bytes
  have hr := B.returns
  have hts := atoms_spec (ws := zwX7_is) B.pre
  have hown : s.vm.findClass RX7 = some m.cls := findClass_of_methodNamed B.named
  have hlocks := B.notSynchronized
  have hiX7 : ∀ w ∈ wsX70, w ∈ zwX7_is := (fun _ h => List.mem_cons_of_mem _ (List.mem_append_right _ h))
  subst hsz
  have hD := hD0.self (sz := s.heap.size)
  generalize hAe : va_A [(h0, .inr (6, zM 0 r))] s.heap.size = A at hD ⊢
  have hA : ∀ q : Nat, s.heap.size ≤ q → A q := fun q h => by rw [← hAe]; exact Or.inr h
  have hS : va_S A s.heap s.heap [] := va_S.rf
  have hP : va_P (dC, dI) vwCl [(h0, .inr (6, zM 0 r))] s.heap := hP
  have hl := lv_entry ([.ref h0, .int p0, .int p1, .int p2]) (n := 5) (Nat.le_of_ble_eq_true rfl)
  rw [lg_entry_eq]
  generalize (lg_sl ([.ref h0, .int p0, .int p1, .int p2]) ++ List.replicate (5 - (lg_sl ([.ref h0, .int p0, .int p1, .int p2])).length) Slot.unset).toArray = ls at hl ⊢
  have hl : lv_has ls 5 [(0, .ref h0), (1, .int p0), (2, .int p1), (3, .int p2)] := hl
  refine lv_aload_n hx hb dX7_is_0 rfl (lv_at hl 0 rfl) ?_
  refine lv_iconst (v := 0) hx hb dX7_is_1 (by decide) ?_
  refine va_put (D := (dC, dI)) (ci := 6) (v := .int 0) (ty := (.int)) (C := RX7) (T := TX7) (N := 46) hx hb hts hiX7 tyX7 tyX7_ok nmX7 hown hK hP hD hS 0 rfl rfl 0 (by decide) (hts (.fieldLink RX7 1 "LinkModelsModel" "thrown" "I") (by decide +kernel)) (fun _ h9 => h9) rfl (by decide +kernel) rfl rfl (Nat.le_of_ble_eq_true rfl) dX7_is_2 (fun H locs hP hD hS => ?_)
  have hP : va_P (dC, dI) vwCl [(h0, .inr (6, zM 0 r))] H := hP
  have hD : va_D A [(h0, .inr (6, zM 0 r))] := hD
  refine lv_aload_n hx hb dX7_is_5 rfl (lv_at hl 0 rfl) ?_
  refine lv_iload_n hx hb dX7_is_6 rfl (lv_at hl 1 rfl) ?_
  refine vp_callSi (W.runV (As := [.int p0]) (rest := []) ⟨hx, hb, hml, hown, hts⟩ (zX7_isBuild l dC dI h0 r p0) (cwV 1 hts zgX7_is_X7_isBuild_248 rfl rfl rfl (by decide +kernel) ⟨(show 1 + 1 ≤ 2 by omega), (show 8 + (2 + 11) + 25 ≤ 46 by omega)⟩) (zVr (ci := 6) (q0 := 0) (q := (RX7, TX7, 46)) (hK.sub (tys' := []) [] rfl) (hP.sub (ws' := [(h0, .inr (6, zM 0 r))]) [0] rfl) rfl rfl rfl) rfl rfl hl.1 rfl (lv_room (Nat.le_of_ble_eq_true rfl)) dX7_is_7 ⟨(show 0 + 0 ≤ 0 by omega), (show 0 + 0 ≤ 0 by omega)⟩) (fun r1 hr1 => ?_)
  subst hr1
  refine lv_if_ne (tgt := 16) hx hb dX7_is_10 (by decide) (fun c9 => absurd c9 (fun h9 => h9 rfl)) (fun _ => ?_)
  refine lv_bipush (v := (-2)) hx hb dX7_is_13 (by decide) ?_
  exact W.iret (v := -2) hx hb hr (fun t ht hW => ⟨⟨-2, (), rfl, rfl, trivial⟩, hS.F ht⟩) hS.2.2 dX7_is_15
theorem dX7_link_0 : decode cX7_link 0 = .ok (.aload_n 0, 1) := by decide +kernel
theorem dX7_link_1 : decode cX7_link 1 = .ok (.iconst 0, 1) := by decide +kernel
theorem dX7_link_2 : decode cX7_link 2 = .ok (.putfield 1, 3) := by decide +kernel
theorem dX7_link_5 : decode cX7_link 5 = .ok (.aload_n 0, 1) := by decide +kernel
theorem dX7_link_6 : decode cX7_link 6 = .ok (.iload_n 1, 1) := by decide +kernel
theorem dX7_link_7 : decode cX7_link 7 = .ok (.invokevirtual 248, 3) := by decide +kernel
theorem dX7_link_10 : decode cX7_link 10 = .ok (.ifCond .eq 11, 3) := by decide +kernel
theorem dX7_link_21 : decode cX7_link 21 = .ok (.bipush (-2), 2) := by decide +kernel
theorem dX7_link_23 : decode cX7_link 23 = .ok (.ireturn, 1) := by decide +kernel
def zwX7_link : List Cond := .code yX7_link cX7_link 4 (some .int) :: ([.fieldLink RX7 1 "LinkModelsModel" "thrown" "I", .methodLink RX7 248 yX7_isBuild, .instanceMethod yX7_isBuild, .selects RX7 yX7_isBuild yX7_isBuild, .initialized RX7, .code yX7_isBuild cX7_isBuild 2 (some .boolean), .fieldLink RX7 232 "LinkModelsModel" "builds" "I", .methodLink RX7 105 yX7_in, .static yX7_in, .code yX7_in cX7_in 6 (some .boolean)] ++ wsX70)
theorem zgX7_link_X7_isBuild_248 : GoodIn zwX7_link (wsV RX7 248 RX7 yX7_isBuild zwX7_isBuild) := goodIn_app (goodIn_of _ (by decide +kernel)) (goodIn_ca (goodIn_of _ (by decide +kernel)) (zgt zg7))
set_option maxHeartbeats 4000000 in
set_option maxRecDepth 100000 in
theorem zX7_link (l : Launch) (dC : Nat → ClassId) (dI : Nat → Nat → Nat) (h0 : Nat) (r : Nat → Nat) (sz : Nat) (p0 : Int32) (p1 : Int32) : Met l yX7_link zwX7_link ({ frames := 2, cells := 0, slots := 0, locals := 46 }) (zPw dC dI [.ref h0, .int p0, .int p1] sz [(h0, .inr (6, zM 0 r))] []) (va_Qi (fun (r : Int32) (_ : Unit) => r = -2) (fun _ _ => True) (va_A [(h0, .inr (6, zM 0 r))] sz)) 0 0 (va_A [(h0, .inr (6, zM 0 r))] sz) := by
  refine Met.ofW (cc := cX7_link) (maxL := 4) (ret := (some .int)) (by decide) rfl ?_
  intro p e s m args below meth c s₁ B hml hv
  obtain ⟨rfl, hsz, hP, hK, hD0⟩ := hv
  have hx := B.exec
  have hb := B.bytes
  have hr := B.returns
  have hts := atoms_spec (ws := zwX7_link) B.pre
  have hown : s.vm.findClass RX7 = some m.cls := findClass_of_methodNamed B.named
  have hlocks := B.notSynchronized
  have hiX7 : ∀ w ∈ wsX70, w ∈ zwX7_link := (fun _ h => List.mem_cons_of_mem _ (List.mem_append_right _ h))
  subst hsz
  have hD := hD0.self (sz := s.heap.size)
  generalize hAe : va_A [(h0, .inr (6, zM 0 r))] s.heap.size = A at hD ⊢
  have hA : ∀ q : Nat, s.heap.size ≤ q → A q := fun q h => by rw [← hAe]; exact Or.inr h
  have hS : va_S A s.heap s.heap [] := va_S.rf
  have hP : va_P (dC, dI) vwCl [(h0, .inr (6, zM 0 r))] s.heap := hP
  have hl := lv_entry ([.ref h0, .int p0, .int p1]) (n := 4) (Nat.le_of_ble_eq_true rfl)
  rw [lg_entry_eq]
  generalize (lg_sl ([.ref h0, .int p0, .int p1]) ++ List.replicate (4 - (lg_sl ([.ref h0, .int p0, .int p1])).length) Slot.unset).toArray = ls at hl ⊢
  have hl : lv_has ls 4 [(0, .ref h0), (1, .int p0), (2, .int p1)] := hl
  refine lv_aload_n hx hb dX7_link_0 rfl (lv_at hl 0 rfl) ?_
  refine lv_iconst (v := 0) hx hb dX7_link_1 (by decide) ?_
  refine va_put (D := (dC, dI)) (ci := 6) (v := .int 0) (ty := (.int)) (C := RX7) (T := TX7) (N := 46) hx hb hts hiX7 tyX7 tyX7_ok nmX7 hown hK hP hD hS 0 rfl rfl 0 (by decide) (hts (.fieldLink RX7 1 "LinkModelsModel" "thrown" "I") (by decide +kernel)) (fun _ h9 => h9) rfl (by decide +kernel) rfl rfl (Nat.le_of_ble_eq_true rfl) dX7_link_2 (fun H locs hP hD hS => ?_)
  have hP : va_P (dC, dI) vwCl [(h0, .inr (6, zM 0 r))] H := hP
  have hD : va_D A [(h0, .inr (6, zM 0 r))] := hD
  refine lv_aload_n hx hb dX7_link_5 rfl (lv_at hl 0 rfl) ?_
  refine lv_iload_n hx hb dX7_link_6 rfl (lv_at hl 1 rfl) ?_
  refine vp_callSi (W.runV (As := [.int p0]) (rest := []) ⟨hx, hb, hml, hown, hts⟩ (zX7_isBuild l dC dI h0 r p0) (cwV 1 hts zgX7_link_X7_isBuild_248 rfl rfl rfl (by decide +kernel) ⟨(show 1 + 1 ≤ 2 by omega), (show 8 + (2 + 11) + 25 ≤ 46 by omega)⟩) (zVr (ci := 6) (q0 := 0) (q := (RX7, TX7, 46)) (hK.sub (tys' := []) [] rfl) (hP.sub (ws' := [(h0, .inr (6, zM 0 r))]) [0] rfl) rfl rfl rfl) rfl rfl hl.1 rfl (lv_room (Nat.le_of_ble_eq_true rfl)) dX7_link_7 ⟨(show 0 + 0 ≤ 0 by omega), (show 0 + 0 ≤ 0 by omega)⟩) (fun r1 hr1 => ?_)
  subst hr1
  refine lv_if_eq (tgt := 21) hx hb dX7_link_10 (by decide) (fun _ => ?_) (fun c9 => absurd (rfl) c9)
  refine lv_bipush (v := (-2)) hx hb dX7_link_21 (by decide) ?_
  exact W.iret (v := -2) hx hb hr (fun t ht hW => ⟨⟨-2, (), rfl, rfl, trivial⟩, hS.F ht⟩) hS.2.2 dX7_link_23
theorem dX7_member_0 : decode cX7_member 0 = .ok (.aload_n 0, 1) := by decide +kernel
theorem dX7_member_1 : decode cX7_member 1 = .ok (.iconst 0, 1) := by decide +kernel
theorem dX7_member_2 : decode cX7_member 2 = .ok (.putfield 1, 3) := by decide +kernel
theorem dX7_member_5 : decode cX7_member 5 = .ok (.aload_n 0, 1) := by decide +kernel
theorem dX7_member_6 : decode cX7_member 6 = .ok (.iload_n 1, 1) := by decide +kernel
theorem dX7_member_7 : decode cX7_member 7 = .ok (.invokevirtual 248, 3) := by decide +kernel
theorem dX7_member_10 : decode cX7_member 10 = .ok (.ifCond .eq 11, 3) := by decide +kernel
theorem dX7_member_21 : decode cX7_member 21 = .ok (.bipush (-2), 2) := by decide +kernel
theorem dX7_member_23 : decode cX7_member 23 = .ok (.ireturn, 1) := by decide +kernel
def zwX7_member : List Cond := .code yX7_member cX7_member 4 (some .int) :: ([.fieldLink RX7 1 "LinkModelsModel" "thrown" "I", .methodLink RX7 248 yX7_isBuild, .instanceMethod yX7_isBuild, .selects RX7 yX7_isBuild yX7_isBuild, .initialized RX7, .code yX7_isBuild cX7_isBuild 2 (some .boolean), .fieldLink RX7 232 "LinkModelsModel" "builds" "I", .methodLink RX7 105 yX7_in, .static yX7_in, .code yX7_in cX7_in 6 (some .boolean)] ++ wsX70)
theorem zgX7_member_X7_isBuild_248 : GoodIn zwX7_member (wsV RX7 248 RX7 yX7_isBuild zwX7_isBuild) := goodIn_app (goodIn_of _ (by decide +kernel)) (goodIn_ca (goodIn_of _ (by decide +kernel)) (zgt zg7))
set_option maxHeartbeats 4000000 in
set_option maxRecDepth 100000 in
theorem zX7_member (l : Launch) (dC : Nat → ClassId) (dI : Nat → Nat → Nat) (h0 : Nat) (r : Nat → Nat) (sz : Nat) (p0 : Int32) (p1 : Int32) : Met l yX7_member zwX7_member ({ frames := 2, cells := 0, slots := 0, locals := 46 }) (zPw dC dI [.ref h0, .int p0, .int p1] sz [(h0, .inr (6, zM 0 r))] []) (va_Qi (fun (r : Int32) (_ : Unit) => r = -2) (fun _ _ => True) (va_A [(h0, .inr (6, zM 0 r))] sz)) 0 0 (va_A [(h0, .inr (6, zM 0 r))] sz) := by
  refine Met.ofW (cc := cX7_member) (maxL := 4) (ret := (some .int)) (by decide) rfl ?_
  intro p e s m args below meth c s₁ B hml hv
  obtain ⟨rfl, hsz, hP, hK, hD0⟩ := hv
  have hx := B.exec
  have hb := B.bytes
  have hr := B.returns
  have hts := atoms_spec (ws := zwX7_member) B.pre
  have hown : s.vm.findClass RX7 = some m.cls := findClass_of_methodNamed B.named
  have hlocks := B.notSynchronized
  have hiX7 : ∀ w ∈ wsX70, w ∈ zwX7_member := (fun _ h => List.mem_cons_of_mem _ (List.mem_append_right _ h))
  subst hsz
  have hD := hD0.self (sz := s.heap.size)
  generalize hAe : va_A [(h0, .inr (6, zM 0 r))] s.heap.size = A at hD ⊢
  have hA : ∀ q : Nat, s.heap.size ≤ q → A q := fun q h => by rw [← hAe]; exact Or.inr h
  have hS : va_S A s.heap s.heap [] := va_S.rf
  have hP : va_P (dC, dI) vwCl [(h0, .inr (6, zM 0 r))] s.heap := hP
  have hl := lv_entry ([.ref h0, .int p0, .int p1]) (n := 4) (Nat.le_of_ble_eq_true rfl)
  rw [lg_entry_eq]
  generalize (lg_sl ([.ref h0, .int p0, .int p1]) ++ List.replicate (4 - (lg_sl ([.ref h0, .int p0, .int p1])).length) Slot.unset).toArray = ls at hl ⊢
  have hl : lv_has ls 4 [(0, .ref h0), (1, .int p0), (2, .int p1)] := hl
  refine lv_aload_n hx hb dX7_member_0 rfl (lv_at hl 0 rfl) ?_
  refine lv_iconst (v := 0) hx hb dX7_member_1 (by decide) ?_
  refine va_put (D := (dC, dI)) (ci := 6) (v := .int 0) (ty := (.int)) (C := RX7) (T := TX7) (N := 46) hx hb hts hiX7 tyX7 tyX7_ok nmX7 hown hK hP hD hS 0 rfl rfl 0 (by decide) (hts (.fieldLink RX7 1 "LinkModelsModel" "thrown" "I") (by decide +kernel)) (fun _ h9 => h9) rfl (by decide +kernel) rfl rfl (Nat.le_of_ble_eq_true rfl) dX7_member_2 (fun H locs hP hD hS => ?_)
  have hP : va_P (dC, dI) vwCl [(h0, .inr (6, zM 0 r))] H := hP
  have hD : va_D A [(h0, .inr (6, zM 0 r))] := hD
  refine lv_aload_n hx hb dX7_member_5 rfl (lv_at hl 0 rfl) ?_
  refine lv_iload_n hx hb dX7_member_6 rfl (lv_at hl 1 rfl) ?_
  refine vp_callSi (W.runV (As := [.int p0]) (rest := []) ⟨hx, hb, hml, hown, hts⟩ (zX7_isBuild l dC dI h0 r p0) (cwV 1 hts zgX7_member_X7_isBuild_248 rfl rfl rfl (by decide +kernel) ⟨(show 1 + 1 ≤ 2 by omega), (show 8 + (2 + 11) + 25 ≤ 46 by omega)⟩) (zVr (ci := 6) (q0 := 0) (q := (RX7, TX7, 46)) (hK.sub (tys' := []) [] rfl) (hP.sub (ws' := [(h0, .inr (6, zM 0 r))]) [0] rfl) rfl rfl rfl) rfl rfl hl.1 rfl (lv_room (Nat.le_of_ble_eq_true rfl)) dX7_member_7 ⟨(show 0 + 0 ≤ 0 by omega), (show 0 + 0 ≤ 0 by omega)⟩) (fun r1 hr1 => ?_)
  subst hr1
  refine lv_if_eq (tgt := 21) hx hb dX7_member_10 (by decide) (fun _ => ?_) (fun c9 => absurd (rfl) c9)
  refine lv_bipush (v := (-2)) hx hb dX7_member_21 (by decide) ?_
  exact W.iret (v := -2) hx hb hr (fun t ht hW => ⟨⟨-2, (), rfl, rfl, trivial⟩, hS.F ht⟩) hS.2.2 dX7_member_23
theorem dX7_compile_0 : decode cX7_compile 0 = .ok (.aload_n 0, 1) := by decide +kernel
theorem dX7_compile_1 : decode cX7_compile 1 = .ok (.iconst 0, 1) := by decide +kernel
theorem dX7_compile_2 : decode cX7_compile 2 = .ok (.putfield 1, 3) := by decide +kernel
theorem dX7_compile_5 : decode cX7_compile 5 = .ok (.aload_n 0, 1) := by decide +kernel
theorem dX7_compile_6 : decode cX7_compile 6 = .ok (.iload_n 1, 1) := by decide +kernel
theorem dX7_compile_7 : decode cX7_compile 7 = .ok (.invokevirtual 248, 3) := by decide +kernel
theorem dX7_compile_10 : decode cX7_compile 10 = .ok (.ifCond .eq 11, 3) := by decide +kernel
theorem dX7_compile_21 : decode cX7_compile 21 = .ok (.bipush (-2), 2) := by decide +kernel
theorem dX7_compile_23 : decode cX7_compile 23 = .ok (.ireturn, 1) := by decide +kernel
def zwX7_compile : List Cond := .code yX7_compile cX7_compile 4 (some .int) :: ([.fieldLink RX7 1 "LinkModelsModel" "thrown" "I", .methodLink RX7 248 yX7_isBuild, .instanceMethod yX7_isBuild, .selects RX7 yX7_isBuild yX7_isBuild, .initialized RX7, .code yX7_isBuild cX7_isBuild 2 (some .boolean), .fieldLink RX7 232 "LinkModelsModel" "builds" "I", .methodLink RX7 105 yX7_in, .static yX7_in, .code yX7_in cX7_in 6 (some .boolean)] ++ wsX70)
theorem zgX7_compile_X7_isBuild_248 : GoodIn zwX7_compile (wsV RX7 248 RX7 yX7_isBuild zwX7_isBuild) := goodIn_app (goodIn_of _ (by decide +kernel)) (goodIn_ca (goodIn_of _ (by decide +kernel)) (zgt zg7))
set_option maxHeartbeats 4000000 in
set_option maxRecDepth 100000 in
theorem zX7_compile (l : Launch) (dC : Nat → ClassId) (dI : Nat → Nat → Nat) (h0 : Nat) (r : Nat → Nat) (sz : Nat) (p0 : Int32) (p1 : Int32) : Met l yX7_compile zwX7_compile ({ frames := 2, cells := 0, slots := 0, locals := 46 }) (zPw dC dI [.ref h0, .int p0, .int p1] sz [(h0, .inr (6, zM 0 r))] []) (va_Qi (fun (r : Int32) (_ : Unit) => r = -2) (fun _ _ => True) (va_A [(h0, .inr (6, zM 0 r))] sz)) 0 0 (va_A [(h0, .inr (6, zM 0 r))] sz) := by
  refine Met.ofW (cc := cX7_compile) (maxL := 4) (ret := (some .int)) (by decide) rfl ?_
  intro p e s m args below meth c s₁ B hml hv
  obtain ⟨rfl, hsz, hP, hK, hD0⟩ := hv
  have hx := B.exec
  have hb := B.bytes
  have hr := B.returns
  have hts := atoms_spec (ws := zwX7_compile) B.pre
  have hown : s.vm.findClass RX7 = some m.cls := findClass_of_methodNamed B.named
  have hlocks := B.notSynchronized
  have hiX7 : ∀ w ∈ wsX70, w ∈ zwX7_compile := (fun _ h => List.mem_cons_of_mem _ (List.mem_append_right _ h))
  subst hsz
  have hD := hD0.self (sz := s.heap.size)
  generalize hAe : va_A [(h0, .inr (6, zM 0 r))] s.heap.size = A at hD ⊢
  have hA : ∀ q : Nat, s.heap.size ≤ q → A q := fun q h => by rw [← hAe]; exact Or.inr h
  have hS : va_S A s.heap s.heap [] := va_S.rf
  have hP : va_P (dC, dI) vwCl [(h0, .inr (6, zM 0 r))] s.heap := hP
  have hl := lv_entry ([.ref h0, .int p0, .int p1]) (n := 4) (Nat.le_of_ble_eq_true rfl)
  rw [lg_entry_eq]
  generalize (lg_sl ([.ref h0, .int p0, .int p1]) ++ List.replicate (4 - (lg_sl ([.ref h0, .int p0, .int p1])).length) Slot.unset).toArray = ls at hl ⊢
  have hl : lv_has ls 4 [(0, .ref h0), (1, .int p0), (2, .int p1)] := hl
  refine lv_aload_n hx hb dX7_compile_0 rfl (lv_at hl 0 rfl) ?_
  refine lv_iconst (v := 0) hx hb dX7_compile_1 (by decide) ?_
  refine va_put (D := (dC, dI)) (ci := 6) (v := .int 0) (ty := (.int)) (C := RX7) (T := TX7) (N := 46) hx hb hts hiX7 tyX7 tyX7_ok nmX7 hown hK hP hD hS 0 rfl rfl 0 (by decide) (hts (.fieldLink RX7 1 "LinkModelsModel" "thrown" "I") (by decide +kernel)) (fun _ h9 => h9) rfl (by decide +kernel) rfl rfl (Nat.le_of_ble_eq_true rfl) dX7_compile_2 (fun H locs hP hD hS => ?_)
  have hP : va_P (dC, dI) vwCl [(h0, .inr (6, zM 0 r))] H := hP
  have hD : va_D A [(h0, .inr (6, zM 0 r))] := hD
  refine lv_aload_n hx hb dX7_compile_5 rfl (lv_at hl 0 rfl) ?_
  refine lv_iload_n hx hb dX7_compile_6 rfl (lv_at hl 1 rfl) ?_
  refine vp_callSi (W.runV (As := [.int p0]) (rest := []) ⟨hx, hb, hml, hown, hts⟩ (zX7_isBuild l dC dI h0 r p0) (cwV 1 hts zgX7_compile_X7_isBuild_248 rfl rfl rfl (by decide +kernel) ⟨(show 1 + 1 ≤ 2 by omega), (show 8 + (2 + 11) + 25 ≤ 46 by omega)⟩) (zVr (ci := 6) (q0 := 0) (q := (RX7, TX7, 46)) (hK.sub (tys' := []) [] rfl) (hP.sub (ws' := [(h0, .inr (6, zM 0 r))]) [0] rfl) rfl rfl rfl) rfl rfl hl.1 rfl (lv_room (Nat.le_of_ble_eq_true rfl)) dX7_compile_7 ⟨(show 0 + 0 ≤ 0 by omega), (show 0 + 0 ≤ 0 by omega)⟩) (fun r1 hr1 => ?_)
  subst hr1
  refine lv_if_eq (tgt := 21) hx hb dX7_compile_10 (by decide) (fun _ => ?_) (fun c9 => absurd (rfl) c9)
  refine lv_bipush (v := (-2)) hx hb dX7_compile_21 (by decide) ?_
  exact W.iret (v := -2) hx hb hr (fun t ht hW => ⟨⟨-2, (), rfl, rfl, trivial⟩, hS.F ht⟩) hS.2.2 dX7_compile_23
theorem dX7_stale_0 : decode cX7_stale 0 = .ok (.aload_n 0, 1) := by decide +kernel
theorem dX7_stale_1 : decode cX7_stale 1 = .ok (.iconst 0, 1) := by decide +kernel
theorem dX7_stale_2 : decode cX7_stale 2 = .ok (.putfield 1, 3) := by decide +kernel
theorem dX7_stale_5 : decode cX7_stale 5 = .ok (.aload_n 0, 1) := by decide +kernel
theorem dX7_stale_6 : decode cX7_stale 6 = .ok (.iload_n 1, 1) := by decide +kernel
theorem dX7_stale_7 : decode cX7_stale 7 = .ok (.invokevirtual 248, 3) := by decide +kernel
theorem dX7_stale_10 : decode cX7_stale 10 = .ok (.ifCond .eq 11, 3) := by decide +kernel
theorem dX7_stale_21 : decode cX7_stale 21 = .ok (.bipush (-2), 2) := by decide +kernel
theorem dX7_stale_23 : decode cX7_stale 23 = .ok (.ireturn, 1) := by decide +kernel
def zwX7_stale : List Cond := .code yX7_stale cX7_stale 3 (some .int) :: ([.fieldLink RX7 1 "LinkModelsModel" "thrown" "I", .methodLink RX7 248 yX7_isBuild, .instanceMethod yX7_isBuild, .selects RX7 yX7_isBuild yX7_isBuild, .initialized RX7, .code yX7_isBuild cX7_isBuild 2 (some .boolean), .fieldLink RX7 232 "LinkModelsModel" "builds" "I", .methodLink RX7 105 yX7_in, .static yX7_in, .code yX7_in cX7_in 6 (some .boolean)] ++ wsX70)
theorem zgX7_stale_X7_isBuild_248 : GoodIn zwX7_stale (wsV RX7 248 RX7 yX7_isBuild zwX7_isBuild) := goodIn_app (goodIn_of _ (by decide +kernel)) (goodIn_ca (goodIn_of _ (by decide +kernel)) (zgt zg7))
set_option maxHeartbeats 4000000 in
set_option maxRecDepth 100000 in
theorem zX7_stale (l : Launch) (dC : Nat → ClassId) (dI : Nat → Nat → Nat) (h0 : Nat) (r : Nat → Nat) (sz : Nat) (p0 : Int32) (p1 : Int32) : Met l yX7_stale zwX7_stale ({ frames := 2, cells := 0, slots := 0, locals := 46 }) (zPw dC dI [.ref h0, .int p0, .int p1] sz [(h0, .inr (6, zM 0 r))] []) (va_Qi (fun (r : Int32) (_ : Unit) => r = -2) (fun _ _ => True) (va_A [(h0, .inr (6, zM 0 r))] sz)) 0 0 (va_A [(h0, .inr (6, zM 0 r))] sz) := by
  refine Met.ofW (cc := cX7_stale) (maxL := 3) (ret := (some .int)) (by decide) rfl ?_
  intro p e s m args below meth c s₁ B hml hv
  obtain ⟨rfl, hsz, hP, hK, hD0⟩ := hv
  have hx := B.exec
  have hb := B.bytes
  have hr := B.returns
  have hts := atoms_spec (ws := zwX7_stale) B.pre
  have hown : s.vm.findClass RX7 = some m.cls := findClass_of_methodNamed B.named
  have hlocks := B.notSynchronized
  have hiX7 : ∀ w ∈ wsX70, w ∈ zwX7_stale := (fun _ h => List.mem_cons_of_mem _ (List.mem_append_right _ h))
  subst hsz
  have hD := hD0.self (sz := s.heap.size)
  generalize hAe : va_A [(h0, .inr (6, zM 0 r))] s.heap.size = A at hD ⊢
  have hA : ∀ q : Nat, s.heap.size ≤ q → A q := fun q h => by rw [← hAe]; exact Or.inr h
  have hS : va_S A s.heap s.heap [] := va_S.rf
  have hP : va_P (dC, dI) vwCl [(h0, .inr (6, zM 0 r))] s.heap := hP
  have hl := lv_entry ([.ref h0, .int p0, .int p1]) (n := 3) (Nat.le_of_ble_eq_true rfl)
  rw [lg_entry_eq]
  generalize (lg_sl ([.ref h0, .int p0, .int p1]) ++ List.replicate (3 - (lg_sl ([.ref h0, .int p0, .int p1])).length) Slot.unset).toArray = ls at hl ⊢
  have hl : lv_has ls 3 [(0, .ref h0), (1, .int p0), (2, .int p1)] := hl
  refine lv_aload_n hx hb dX7_stale_0 rfl (lv_at hl 0 rfl) ?_
  refine lv_iconst (v := 0) hx hb dX7_stale_1 (by decide) ?_
  refine va_put (D := (dC, dI)) (ci := 6) (v := .int 0) (ty := (.int)) (C := RX7) (T := TX7) (N := 46) hx hb hts hiX7 tyX7 tyX7_ok nmX7 hown hK hP hD hS 0 rfl rfl 0 (by decide) (hts (.fieldLink RX7 1 "LinkModelsModel" "thrown" "I") (by decide +kernel)) (fun _ h9 => h9) rfl (by decide +kernel) rfl rfl (Nat.le_of_ble_eq_true rfl) dX7_stale_2 (fun H locs hP hD hS => ?_)
  have hP : va_P (dC, dI) vwCl [(h0, .inr (6, zM 0 r))] H := hP
  have hD : va_D A [(h0, .inr (6, zM 0 r))] := hD
  refine lv_aload_n hx hb dX7_stale_5 rfl (lv_at hl 0 rfl) ?_
  refine lv_iload_n hx hb dX7_stale_6 rfl (lv_at hl 1 rfl) ?_
  refine vp_callSi (W.runV (As := [.int p0]) (rest := []) ⟨hx, hb, hml, hown, hts⟩ (zX7_isBuild l dC dI h0 r p0) (cwV 1 hts zgX7_stale_X7_isBuild_248 rfl rfl rfl (by decide +kernel) ⟨(show 1 + 1 ≤ 2 by omega), (show 8 + (2 + 11) + 25 ≤ 46 by omega)⟩) (zVr (ci := 6) (q0 := 0) (q := (RX7, TX7, 46)) (hK.sub (tys' := []) [] rfl) (hP.sub (ws' := [(h0, .inr (6, zM 0 r))]) [0] rfl) rfl rfl rfl) rfl rfl hl.1 rfl (lv_room (Nat.le_of_ble_eq_true rfl)) dX7_stale_7 ⟨(show 0 + 0 ≤ 0 by omega), (show 0 + 0 ≤ 0 by omega)⟩) (fun r1 hr1 => ?_)
  subst hr1
  refine lv_if_eq (tgt := 21) hx hb dX7_stale_10 (by decide) (fun _ => ?_) (fun c9 => absurd (rfl) c9)
  refine lv_bipush (v := (-2)) hx hb dX7_stale_21 (by decide) ?_
  exact W.iret (v := -2) hx hb hr (fun t ht hW => ⟨⟨-2, (), rfl, rfl, trivial⟩, hS.F ht⟩) hS.2.2 dX7_stale_23
theorem dX7_changed_0 : decode cX7_changed 0 = .ok (.aload_n 0, 1) := by decide +kernel
theorem dX7_changed_1 : decode cX7_changed 1 = .ok (.iconst 0, 1) := by decide +kernel
theorem dX7_changed_2 : decode cX7_changed 2 = .ok (.putfield 1, 3) := by decide +kernel
theorem dX7_changed_5 : decode cX7_changed 5 = .ok (.aload_n 0, 1) := by decide +kernel
theorem dX7_changed_6 : decode cX7_changed 6 = .ok (.iload_n 1, 1) := by decide +kernel
theorem dX7_changed_7 : decode cX7_changed 7 = .ok (.invokevirtual 248, 3) := by decide +kernel
theorem dX7_changed_10 : decode cX7_changed 10 = .ok (.ifCond .eq 11, 3) := by decide +kernel
theorem dX7_changed_21 : decode cX7_changed 21 = .ok (.bipush (-2), 2) := by decide +kernel
theorem dX7_changed_23 : decode cX7_changed 23 = .ok (.ireturn, 1) := by decide +kernel
def zwX7_changed : List Cond := .code yX7_changed cX7_changed 6 (some .int) :: ([.fieldLink RX7 1 "LinkModelsModel" "thrown" "I", .methodLink RX7 248 yX7_isBuild, .instanceMethod yX7_isBuild, .selects RX7 yX7_isBuild yX7_isBuild, .initialized RX7, .code yX7_isBuild cX7_isBuild 2 (some .boolean), .fieldLink RX7 232 "LinkModelsModel" "builds" "I", .methodLink RX7 105 yX7_in, .static yX7_in, .code yX7_in cX7_in 6 (some .boolean)] ++ wsX70)
theorem zgX7_changed_X7_isBuild_248 : GoodIn zwX7_changed (wsV RX7 248 RX7 yX7_isBuild zwX7_isBuild) := goodIn_app (goodIn_of _ (by decide +kernel)) (goodIn_ca (goodIn_of _ (by decide +kernel)) (zgt zg7))
set_option maxHeartbeats 4000000 in
set_option maxRecDepth 100000 in
theorem zX7_changed (l : Launch) (dC : Nat → ClassId) (dI : Nat → Nat → Nat) (h0 : Nat) (r : Nat → Nat) (sz : Nat) (p0 : Int32) (p1 : Int32) (p2 : Int32) : Met l yX7_changed zwX7_changed ({ frames := 2, cells := 0, slots := 0, locals := 46 }) (zPw dC dI [.ref h0, .int p0, .int p1, .int p2] sz [(h0, .inr (6, zM 0 r))] []) (va_Qi (fun (r : Int32) (_ : Unit) => r = -2) (fun _ _ => True) (va_A [(h0, .inr (6, zM 0 r))] sz)) 0 0 (va_A [(h0, .inr (6, zM 0 r))] sz) := by
  refine Met.ofW (cc := cX7_changed) (maxL := 6) (ret := (some .int)) (by decide) rfl ?_
  intro p e s m args below meth c s₁ B hml hv
  obtain ⟨rfl, hsz, hP, hK, hD0⟩ := hv
  have hx := B.exec
  have hb := B.bytes
  have hr := B.returns
  have hts := atoms_spec (ws := zwX7_changed) B.pre
  have hown : s.vm.findClass RX7 = some m.cls := findClass_of_methodNamed B.named
  have hlocks := B.notSynchronized
  have hiX7 : ∀ w ∈ wsX70, w ∈ zwX7_changed := (fun _ h => List.mem_cons_of_mem _ (List.mem_append_right _ h))
  subst hsz
  have hD := hD0.self (sz := s.heap.size)
  generalize hAe : va_A [(h0, .inr (6, zM 0 r))] s.heap.size = A at hD ⊢
  have hA : ∀ q : Nat, s.heap.size ≤ q → A q := fun q h => by rw [← hAe]; exact Or.inr h
  have hS : va_S A s.heap s.heap [] := va_S.rf
  have hP : va_P (dC, dI) vwCl [(h0, .inr (6, zM 0 r))] s.heap := hP
  have hl := lv_entry ([.ref h0, .int p0, .int p1, .int p2]) (n := 6) (Nat.le_of_ble_eq_true rfl)
  rw [lg_entry_eq]
  generalize (lg_sl ([.ref h0, .int p0, .int p1, .int p2]) ++ List.replicate (6 - (lg_sl ([.ref h0, .int p0, .int p1, .int p2])).length) Slot.unset).toArray = ls at hl ⊢
  have hl : lv_has ls 6 [(0, .ref h0), (1, .int p0), (2, .int p1), (3, .int p2)] := hl
  refine lv_aload_n hx hb dX7_changed_0 rfl (lv_at hl 0 rfl) ?_
  refine lv_iconst (v := 0) hx hb dX7_changed_1 (by decide) ?_
  refine va_put (D := (dC, dI)) (ci := 6) (v := .int 0) (ty := (.int)) (C := RX7) (T := TX7) (N := 46) hx hb hts hiX7 tyX7 tyX7_ok nmX7 hown hK hP hD hS 0 rfl rfl 0 (by decide) (hts (.fieldLink RX7 1 "LinkModelsModel" "thrown" "I") (by decide +kernel)) (fun _ h9 => h9) rfl (by decide +kernel) rfl rfl (Nat.le_of_ble_eq_true rfl) dX7_changed_2 (fun H locs hP hD hS => ?_)
  have hP : va_P (dC, dI) vwCl [(h0, .inr (6, zM 0 r))] H := hP
  have hD : va_D A [(h0, .inr (6, zM 0 r))] := hD
  refine lv_aload_n hx hb dX7_changed_5 rfl (lv_at hl 0 rfl) ?_
  refine lv_iload_n hx hb dX7_changed_6 rfl (lv_at hl 1 rfl) ?_
  refine vp_callSi (W.runV (As := [.int p0]) (rest := []) ⟨hx, hb, hml, hown, hts⟩ (zX7_isBuild l dC dI h0 r p0) (cwV 1 hts zgX7_changed_X7_isBuild_248 rfl rfl rfl (by decide +kernel) ⟨(show 1 + 1 ≤ 2 by omega), (show 8 + (2 + 11) + 25 ≤ 46 by omega)⟩) (zVr (ci := 6) (q0 := 0) (q := (RX7, TX7, 46)) (hK.sub (tys' := []) [] rfl) (hP.sub (ws' := [(h0, .inr (6, zM 0 r))]) [0] rfl) rfl rfl rfl) rfl rfl hl.1 rfl (lv_room (Nat.le_of_ble_eq_true rfl)) dX7_changed_7 ⟨(show 0 + 0 ≤ 0 by omega), (show 0 + 0 ≤ 0 by omega)⟩) (fun r1 hr1 => ?_)
  subst hr1
  refine lv_if_eq (tgt := 21) hx hb dX7_changed_10 (by decide) (fun _ => ?_) (fun c9 => absurd (rfl) c9)
  refine lv_bipush (v := (-2)) hx hb dX7_changed_21 (by decide) ?_
  exact W.iret (v := -2) hx hb hr (fun t ht hW => ⟨⟨-2, (), rfl, rfl, trivial⟩, hS.F ht⟩) hS.2.2 dX7_changed_23
theorem dX7_copied_0 : decode cX7_copied 0 = .ok (.aload_n 0, 1) := by decide +kernel
theorem dX7_copied_1 : decode cX7_copied 1 = .ok (.iconst 0, 1) := by decide +kernel
theorem dX7_copied_2 : decode cX7_copied 2 = .ok (.putfield 1, 3) := by decide +kernel
theorem dX7_copied_5 : decode cX7_copied 5 = .ok (.aload_n 0, 1) := by decide +kernel
theorem dX7_copied_6 : decode cX7_copied 6 = .ok (.iload_n 1, 1) := by decide +kernel
theorem dX7_copied_7 : decode cX7_copied 7 = .ok (.invokevirtual 306, 3) := by decide +kernel
theorem dX7_copied_10 : decode cX7_copied 10 = .ok (.ifCond .eq 12, 3) := by decide +kernel
theorem dX7_copied_22 : decode cX7_copied 22 = .ok (.bipush (-2), 2) := by decide +kernel
theorem dX7_copied_24 : decode cX7_copied 24 = .ok (.ireturn, 1) := by decide +kernel
def zwX7_copied : List Cond := .code yX7_copied cX7_copied 2 (some .int) :: ([.fieldLink RX7 1 "LinkModelsModel" "thrown" "I", .methodLink RX7 306 yX7_isUse, .instanceMethod yX7_isUse, .selects RX7 yX7_isUse yX7_isUse, .initialized RX7, .code yX7_isUse cX7_isUse 2 (some .boolean), .fieldLink RX7 263 "LinkModelsModel" "uses" "I", .methodLink RX7 105 yX7_in, .static yX7_in, .code yX7_in cX7_in 6 (some .boolean)] ++ wsX70)
theorem zgX7_copied_X7_isUse_306 : GoodIn zwX7_copied (wsV RX7 306 RX7 yX7_isUse zwX7_isUse) := goodIn_app (goodIn_of _ (by decide +kernel)) (goodIn_ca (goodIn_of _ (by decide +kernel)) (zgt zg7))
set_option maxHeartbeats 4000000 in
set_option maxRecDepth 100000 in
theorem zX7_copied (l : Launch) (dC : Nat → ClassId) (dI : Nat → Nat → Nat) (h0 : Nat) (r : Nat → Nat) (sz : Nat) (p0 : Int32) : Met l yX7_copied zwX7_copied ({ frames := 2, cells := 0, slots := 0, locals := 46 }) (zPw dC dI [.ref h0, .int p0] sz [(h0, .inr (6, zM 0 r))] []) (va_Qi (fun (r : Int32) (_ : Unit) => r = -2) (fun _ _ => True) (va_A [(h0, .inr (6, zM 0 r))] sz)) 0 0 (va_A [(h0, .inr (6, zM 0 r))] sz) := by
  refine Met.ofW (cc := cX7_copied) (maxL := 2) (ret := (some .int)) (by decide) rfl ?_
  intro p e s m args below meth c s₁ B hml hv
  obtain ⟨rfl, hsz, hP, hK, hD0⟩ := hv
  have hx := B.exec
  have hb := B.bytes
  have hr := B.returns
  have hts := atoms_spec (ws := zwX7_copied) B.pre
  have hown : s.vm.findClass RX7 = some m.cls := findClass_of_methodNamed B.named
  have hlocks := B.notSynchronized
  have hiX7 : ∀ w ∈ wsX70, w ∈ zwX7_copied := (fun _ h => List.mem_cons_of_mem _ (List.mem_append_right _ h))
  subst hsz
  have hD := hD0.self (sz := s.heap.size)
  generalize hAe : va_A [(h0, .inr (6, zM 0 r))] s.heap.size = A at hD ⊢
  have hA : ∀ q : Nat, s.heap.size ≤ q → A q := fun q h => by rw [← hAe]; exact Or.inr h
  have hS : va_S A s.heap s.heap [] := va_S.rf
  have hP : va_P (dC, dI) vwCl [(h0, .inr (6, zM 0 r))] s.heap := hP
  have hl := lv_entry ([.ref h0, .int p0]) (n := 2) (Nat.le_of_ble_eq_true rfl)
  rw [lg_entry_eq]
  generalize (lg_sl ([.ref h0, .int p0]) ++ List.replicate (2 - (lg_sl ([.ref h0, .int p0])).length) Slot.unset).toArray = ls at hl ⊢
  have hl : lv_has ls 2 [(0, .ref h0), (1, .int p0)] := hl
  refine lv_aload_n hx hb dX7_copied_0 rfl (lv_at hl 0 rfl) ?_
  refine lv_iconst (v := 0) hx hb dX7_copied_1 (by decide) ?_
  refine va_put (D := (dC, dI)) (ci := 6) (v := .int 0) (ty := (.int)) (C := RX7) (T := TX7) (N := 46) hx hb hts hiX7 tyX7 tyX7_ok nmX7 hown hK hP hD hS 0 rfl rfl 0 (by decide) (hts (.fieldLink RX7 1 "LinkModelsModel" "thrown" "I") (by decide +kernel)) (fun _ h9 => h9) rfl (by decide +kernel) rfl rfl (Nat.le_of_ble_eq_true rfl) dX7_copied_2 (fun H locs hP hD hS => ?_)
  have hP : va_P (dC, dI) vwCl [(h0, .inr (6, zM 0 r))] H := hP
  have hD : va_D A [(h0, .inr (6, zM 0 r))] := hD
  refine lv_aload_n hx hb dX7_copied_5 rfl (lv_at hl 0 rfl) ?_
  refine lv_iload_n hx hb dX7_copied_6 rfl (lv_at hl 1 rfl) ?_
  refine vp_callSi (W.runV (As := [.int p0]) (rest := []) ⟨hx, hb, hml, hown, hts⟩ (zX7_isUse l dC dI h0 r p0) (cwV 1 hts zgX7_copied_X7_isUse_306 rfl rfl rfl (by decide +kernel) ⟨(show 1 + 1 ≤ 2 by omega), (show 8 + (2 + 11) + 25 ≤ 46 by omega)⟩) (zVr (ci := 6) (q0 := 0) (q := (RX7, TX7, 46)) (hK.sub (tys' := []) [] rfl) (hP.sub (ws' := [(h0, .inr (6, zM 0 r))]) [0] rfl) rfl rfl rfl) rfl rfl hl.1 rfl (lv_room (Nat.le_of_ble_eq_true rfl)) dX7_copied_7 ⟨(show 0 + 0 ≤ 0 by omega), (show 0 + 0 ≤ 0 by omega)⟩) (fun r1 hr1 => ?_)
  subst hr1
  refine lv_if_eq (tgt := 22) hx hb dX7_copied_10 (by decide) (fun _ => ?_) (fun c9 => absurd (rfl) c9)
  refine lv_bipush (v := (-2)) hx hb dX7_copied_22 (by decide) ?_
  exact W.iret (v := -2) hx hb hr (fun t ht hW => ⟨⟨-2, (), rfl, rfl, trivial⟩, hS.F ht⟩) hS.2.2 dX7_copied_24
theorem dX7_done_0 : decode cX7_done 0 = .ok (.aload_n 0, 1) := by decide +kernel
theorem dX7_done_1 : decode cX7_done 1 = .ok (.iconst 0, 1) := by decide +kernel
theorem dX7_done_2 : decode cX7_done 2 = .ok (.putfield 1, 3) := by decide +kernel
theorem dX7_done_5 : decode cX7_done 5 = .ok (.aload_n 0, 1) := by decide +kernel
theorem dX7_done_6 : decode cX7_done 6 = .ok (.iload_n 1, 1) := by decide +kernel
theorem dX7_done_7 : decode cX7_done 7 = .ok (.iload_n 2, 1) := by decide +kernel
theorem dX7_done_8 : decode cX7_done 8 = .ok (.iload_n 3, 1) := by decide +kernel
theorem dX7_done_9 : decode cX7_done 9 = .ok (.invokevirtual 312, 3) := by decide +kernel
theorem dX7_done_12 : decode cX7_done 12 = .ok (.istore 4, 2) := by decide +kernel
theorem dX7_done_14 : decode cX7_done 14 = .ok (.iload 4, 2) := by decide +kernel
theorem dX7_done_16 : decode cX7_done 16 = .ok (.ifCond .ge 8, 3) := by decide +kernel
theorem dX7_done_19 : decode cX7_done 19 = .ok (.iload 4, 2) := by decide +kernel
theorem dX7_done_21 : decode cX7_done 21 = .ok (.goto 11, 3) := by decide +kernel
theorem dX7_done_32 : decode cX7_done 32 = .ok (.ireturn, 1) := by decide +kernel
def zwX7_done : List Cond := .code yX7_done cX7_done 5 (some .int) :: ([.fieldLink RX7 1 "LinkModelsModel" "thrown" "I", .methodLink RX7 312 yX7_doing, .instanceMethod yX7_doing, .selects RX7 yX7_doing yX7_doing, .initialized RX7, .code yX7_doing cX7_doing 9 (some .int), .methodLink RX7 248 yX7_isBuild, .instanceMethod yX7_isBuild, .selects RX7 yX7_isBuild yX7_isBuild, .code yX7_isBuild cX7_isBuild 2 (some .boolean), .fieldLink RX7 232 "LinkModelsModel" "builds" "I", .methodLink RX7 105 yX7_in, .static yX7_in, .code yX7_in cX7_in 6 (some .boolean)] ++ wsX70)
theorem zgX7_done_X7_doing_312 : GoodIn zwX7_done (wsV RX7 312 RX7 yX7_doing zwX7_doing) := goodIn_app (goodIn_of _ (by decide +kernel)) (goodIn_ca (goodIn_of _ (by decide +kernel)) (zgt zg7))
set_option maxHeartbeats 4000000 in
set_option maxRecDepth 100000 in
theorem zX7_done (l : Launch) (dC : Nat → ClassId) (dI : Nat → Nat → Nat) (h0 : Nat) (r : Nat → Nat) (sz : Nat) (p0 : Int32) (p1 : Int32) (p2 : Int32) : Met l yX7_done zwX7_done ({ frames := 3, cells := 0, slots := 0, locals := 74 }) (zPw dC dI [.ref h0, .int p0, .int p1, .int p2] sz [(h0, .inr (6, zM 0 r))] []) (va_Qi (fun (r : Int32) (_ : Unit) => r = -2) (fun _ _ => True) (va_A [(h0, .inr (6, zM 0 r))] sz)) 0 0 (va_A [(h0, .inr (6, zM 0 r))] sz) := by
  refine Met.ofW (cc := cX7_done) (maxL := 5) (ret := (some .int)) (by decide) rfl ?_
  intro p e s m args below meth c s₁ B hml hv
  obtain ⟨rfl, hsz, hP, hK, hD0⟩ := hv
  have hx := B.exec
  have hb := B.bytes
  have hr := B.returns
  have hts := atoms_spec (ws := zwX7_done) B.pre
  have hown : s.vm.findClass RX7 = some m.cls := findClass_of_methodNamed B.named
  have hlocks := B.notSynchronized
  have hiX7 : ∀ w ∈ wsX70, w ∈ zwX7_done := (fun _ h => List.mem_cons_of_mem _ (List.mem_append_right _ h))
  subst hsz
  have hD := hD0.self (sz := s.heap.size)
  generalize hAe : va_A [(h0, .inr (6, zM 0 r))] s.heap.size = A at hD ⊢
  have hA : ∀ q : Nat, s.heap.size ≤ q → A q := fun q h => by rw [← hAe]; exact Or.inr h
  have hS : va_S A s.heap s.heap [] := va_S.rf
  have hP : va_P (dC, dI) vwCl [(h0, .inr (6, zM 0 r))] s.heap := hP
  have hl := lv_entry ([.ref h0, .int p0, .int p1, .int p2]) (n := 5) (Nat.le_of_ble_eq_true rfl)
  rw [lg_entry_eq]
  generalize (lg_sl ([.ref h0, .int p0, .int p1, .int p2]) ++ List.replicate (5 - (lg_sl ([.ref h0, .int p0, .int p1, .int p2])).length) Slot.unset).toArray = ls at hl ⊢
  have hl : lv_has ls 5 [(0, .ref h0), (1, .int p0), (2, .int p1), (3, .int p2)] := hl
  refine lv_aload_n hx hb dX7_done_0 rfl (lv_at hl 0 rfl) ?_
  refine lv_iconst (v := 0) hx hb dX7_done_1 (by decide) ?_
  refine va_put (D := (dC, dI)) (ci := 6) (v := .int 0) (ty := (.int)) (C := RX7) (T := TX7) (N := 46) hx hb hts hiX7 tyX7 tyX7_ok nmX7 hown hK hP hD hS 0 rfl rfl 0 (by decide) (hts (.fieldLink RX7 1 "LinkModelsModel" "thrown" "I") (by decide +kernel)) (fun _ h9 => h9) rfl (by decide +kernel) rfl rfl (Nat.le_of_ble_eq_true rfl) dX7_done_2 (fun H locs hP hD hS => ?_)
  have hP : va_P (dC, dI) vwCl [(h0, .inr (6, zM 0 r))] H := hP
  have hD : va_D A [(h0, .inr (6, zM 0 r))] := hD
  refine lv_aload_n hx hb dX7_done_5 rfl (lv_at hl 0 rfl) ?_
  refine lv_iload_n hx hb dX7_done_6 rfl (lv_at hl 1 rfl) ?_
  refine lv_iload_n hx hb dX7_done_7 rfl (lv_at hl 2 rfl) ?_
  refine lv_iload_n hx hb dX7_done_8 rfl (lv_at hl 3 rfl) ?_
  refine vp_callSi (W.runV (As := [.int p0, .int p1, .int p2]) (rest := []) ⟨hx, hb, hml, hown, hts⟩ (zX7_doing l dC dI h0 r p0 p1 p2) (cwV 3 hts zgX7_done_X7_doing_312 rfl rfl rfl (by decide +kernel) ⟨(show 2 + 1 ≤ 3 by omega), (show 8 + (9 + 11) + 46 ≤ 74 by omega)⟩) (zVr (ci := 6) (q0 := 0) (q := (RX7, TX7, 46)) (hK.sub (tys' := []) [] rfl) (hP.sub (ws' := [(h0, .inr (6, zM 0 r))]) [0] rfl) rfl rfl rfl) rfl rfl hl.1 rfl (lv_room (Nat.le_of_ble_eq_true rfl)) dX7_done_9 ⟨(show 0 + 0 ≤ 0 by omega), (show 0 + 0 ≤ 0 by omega)⟩) (fun r1 hr1 => ?_)
  subst hr1
  refine lv_istore (lv' := [(4, .int (-2)), (0, .ref h0), (1, .int p0), (2, .int p1), (3, .int p2)]) hx hb dX7_done_12 hl (by decide) rfl (fun ls hl => ?_)
  refine lv_iload hx hb dX7_done_14 (lv_at hl 0 rfl) ?_
  refine lv_if_ge (tgt := 24) hx hb dX7_done_16 (by decide) (fun c9 => absurd c9 (by decide)) (fun _ => ?_)
  refine lv_iload hx hb dX7_done_19 (lv_at hl 0 rfl) ?_
  refine lv_goto (tgt := 32) hx hb dX7_done_21 (by decide) ?_
  exact W.iret (v := -2) hx hb hr (fun t ht hW => ⟨⟨-2, (), rfl, rfl, trivial⟩, hS.F ht⟩) hS.2.2 dX7_done_32
theorem dX7_doneMember_0 : decode cX7_doneMember 0 = .ok (.aload_n 0, 1) := by decide +kernel
theorem dX7_doneMember_1 : decode cX7_doneMember 1 = .ok (.iconst 0, 1) := by decide +kernel
theorem dX7_doneMember_2 : decode cX7_doneMember 2 = .ok (.putfield 1, 3) := by decide +kernel
theorem dX7_doneMember_5 : decode cX7_doneMember 5 = .ok (.aload_n 0, 1) := by decide +kernel
theorem dX7_doneMember_6 : decode cX7_doneMember 6 = .ok (.iload_n 1, 1) := by decide +kernel
theorem dX7_doneMember_7 : decode cX7_doneMember 7 = .ok (.iload_n 2, 1) := by decide +kernel
theorem dX7_doneMember_8 : decode cX7_doneMember 8 = .ok (.iload_n 3, 1) := by decide +kernel
theorem dX7_doneMember_9 : decode cX7_doneMember 9 = .ok (.invokevirtual 312, 3) := by decide +kernel
theorem dX7_doneMember_12 : decode cX7_doneMember 12 = .ok (.istore 4, 2) := by decide +kernel
theorem dX7_doneMember_14 : decode cX7_doneMember 14 = .ok (.iload 4, 2) := by decide +kernel
theorem dX7_doneMember_16 : decode cX7_doneMember 16 = .ok (.ifCond .ge 8, 3) := by decide +kernel
theorem dX7_doneMember_19 : decode cX7_doneMember 19 = .ok (.iload 4, 2) := by decide +kernel
theorem dX7_doneMember_21 : decode cX7_doneMember 21 = .ok (.goto 8, 3) := by decide +kernel
theorem dX7_doneMember_29 : decode cX7_doneMember 29 = .ok (.ireturn, 1) := by decide +kernel
def zwX7_doneMember : List Cond := .code yX7_doneMember cX7_doneMember 5 (some .int) :: ([.fieldLink RX7 1 "LinkModelsModel" "thrown" "I", .methodLink RX7 312 yX7_doing, .instanceMethod yX7_doing, .selects RX7 yX7_doing yX7_doing, .initialized RX7, .code yX7_doing cX7_doing 9 (some .int), .methodLink RX7 248 yX7_isBuild, .instanceMethod yX7_isBuild, .selects RX7 yX7_isBuild yX7_isBuild, .code yX7_isBuild cX7_isBuild 2 (some .boolean), .fieldLink RX7 232 "LinkModelsModel" "builds" "I", .methodLink RX7 105 yX7_in, .static yX7_in, .code yX7_in cX7_in 6 (some .boolean)] ++ wsX70)
theorem zgX7_doneMember_X7_doing_312 : GoodIn zwX7_doneMember (wsV RX7 312 RX7 yX7_doing zwX7_doing) := goodIn_app (goodIn_of _ (by decide +kernel)) (goodIn_ca (goodIn_of _ (by decide +kernel)) (zgt zg7))
set_option maxHeartbeats 4000000 in
set_option maxRecDepth 100000 in
theorem zX7_doneMember (l : Launch) (dC : Nat → ClassId) (dI : Nat → Nat → Nat) (h0 : Nat) (r : Nat → Nat) (sz : Nat) (p0 : Int32) (p1 : Int32) (p2 : Int32) : Met l yX7_doneMember zwX7_doneMember ({ frames := 3, cells := 0, slots := 0, locals := 74 }) (zPw dC dI [.ref h0, .int p0, .int p1, .int p2] sz [(h0, .inr (6, zM 0 r))] []) (va_Qi (fun (r : Int32) (_ : Unit) => r = -2) (fun _ _ => True) (va_A [(h0, .inr (6, zM 0 r))] sz)) 0 0 (va_A [(h0, .inr (6, zM 0 r))] sz) := by
  refine Met.ofW (cc := cX7_doneMember) (maxL := 5) (ret := (some .int)) (by decide) rfl ?_
  intro p e s m args below meth c s₁ B hml hv
  obtain ⟨rfl, hsz, hP, hK, hD0⟩ := hv
  have hx := B.exec
  have hb := B.bytes
  have hr := B.returns
  have hts := atoms_spec (ws := zwX7_doneMember) B.pre
  have hown : s.vm.findClass RX7 = some m.cls := findClass_of_methodNamed B.named
  have hlocks := B.notSynchronized
  have hiX7 : ∀ w ∈ wsX70, w ∈ zwX7_doneMember := (fun _ h => List.mem_cons_of_mem _ (List.mem_append_right _ h))
  subst hsz
  have hD := hD0.self (sz := s.heap.size)
  generalize hAe : va_A [(h0, .inr (6, zM 0 r))] s.heap.size = A at hD ⊢
  have hA : ∀ q : Nat, s.heap.size ≤ q → A q := fun q h => by rw [← hAe]; exact Or.inr h
  have hS : va_S A s.heap s.heap [] := va_S.rf
  have hP : va_P (dC, dI) vwCl [(h0, .inr (6, zM 0 r))] s.heap := hP
  have hl := lv_entry ([.ref h0, .int p0, .int p1, .int p2]) (n := 5) (Nat.le_of_ble_eq_true rfl)
  rw [lg_entry_eq]
  generalize (lg_sl ([.ref h0, .int p0, .int p1, .int p2]) ++ List.replicate (5 - (lg_sl ([.ref h0, .int p0, .int p1, .int p2])).length) Slot.unset).toArray = ls at hl ⊢
  have hl : lv_has ls 5 [(0, .ref h0), (1, .int p0), (2, .int p1), (3, .int p2)] := hl
  refine lv_aload_n hx hb dX7_doneMember_0 rfl (lv_at hl 0 rfl) ?_
  refine lv_iconst (v := 0) hx hb dX7_doneMember_1 (by decide) ?_
  refine va_put (D := (dC, dI)) (ci := 6) (v := .int 0) (ty := (.int)) (C := RX7) (T := TX7) (N := 46) hx hb hts hiX7 tyX7 tyX7_ok nmX7 hown hK hP hD hS 0 rfl rfl 0 (by decide) (hts (.fieldLink RX7 1 "LinkModelsModel" "thrown" "I") (by decide +kernel)) (fun _ h9 => h9) rfl (by decide +kernel) rfl rfl (Nat.le_of_ble_eq_true rfl) dX7_doneMember_2 (fun H locs hP hD hS => ?_)
  have hP : va_P (dC, dI) vwCl [(h0, .inr (6, zM 0 r))] H := hP
  have hD : va_D A [(h0, .inr (6, zM 0 r))] := hD
  refine lv_aload_n hx hb dX7_doneMember_5 rfl (lv_at hl 0 rfl) ?_
  refine lv_iload_n hx hb dX7_doneMember_6 rfl (lv_at hl 1 rfl) ?_
  refine lv_iload_n hx hb dX7_doneMember_7 rfl (lv_at hl 2 rfl) ?_
  refine lv_iload_n hx hb dX7_doneMember_8 rfl (lv_at hl 3 rfl) ?_
  refine vp_callSi (W.runV (As := [.int p0, .int p1, .int p2]) (rest := []) ⟨hx, hb, hml, hown, hts⟩ (zX7_doing l dC dI h0 r p0 p1 p2) (cwV 3 hts zgX7_doneMember_X7_doing_312 rfl rfl rfl (by decide +kernel) ⟨(show 2 + 1 ≤ 3 by omega), (show 8 + (9 + 11) + 46 ≤ 74 by omega)⟩) (zVr (ci := 6) (q0 := 0) (q := (RX7, TX7, 46)) (hK.sub (tys' := []) [] rfl) (hP.sub (ws' := [(h0, .inr (6, zM 0 r))]) [0] rfl) rfl rfl rfl) rfl rfl hl.1 rfl (lv_room (Nat.le_of_ble_eq_true rfl)) dX7_doneMember_9 ⟨(show 0 + 0 ≤ 0 by omega), (show 0 + 0 ≤ 0 by omega)⟩) (fun r1 hr1 => ?_)
  subst hr1
  refine lv_istore (lv' := [(4, .int (-2)), (0, .ref h0), (1, .int p0), (2, .int p1), (3, .int p2)]) hx hb dX7_doneMember_12 hl (by decide) rfl (fun ls hl => ?_)
  refine lv_iload hx hb dX7_doneMember_14 (lv_at hl 0 rfl) ?_
  refine lv_if_ge (tgt := 24) hx hb dX7_doneMember_16 (by decide) (fun c9 => absurd c9 (by decide)) (fun _ => ?_)
  refine lv_iload hx hb dX7_doneMember_19 (lv_at hl 0 rfl) ?_
  refine lv_goto (tgt := 29) hx hb dX7_doneMember_21 (by decide) ?_
  exact W.iret (v := -2) hx hb hr (fun t ht hW => ⟨⟨-2, (), rfl, rfl, trivial⟩, hS.F ht⟩) hS.2.2 dX7_doneMember_29
theorem dX7_told_0 : decode cX7_told 0 = .ok (.aload_n 0, 1) := by decide +kernel
theorem dX7_told_1 : decode cX7_told 1 = .ok (.iconst 0, 1) := by decide +kernel
theorem dX7_told_2 : decode cX7_told 2 = .ok (.putfield 1, 3) := by decide +kernel
theorem dX7_told_5 : decode cX7_told 5 = .ok (.iload_n 1, 1) := by decide +kernel
theorem dX7_told_6 : decode cX7_told 6 = .ok (.ifCond .ne 10, 3) := by decide +kernel
theorem dX7_told_9 : decode cX7_told 9 = .ok (.aload_n 0, 1) := by decide +kernel
theorem dX7_told_10 : decode cX7_told 10 = .ok (.getfield 109, 3) := by decide +kernel
theorem dX7_told_13 : decode cX7_told 13 = .ok (.goto 29, 3) := by decide +kernel
theorem dX7_told_16 : decode cX7_told 16 = .ok (.iload_n 1, 1) := by decide +kernel
theorem dX7_told_17 : decode cX7_told 17 = .ok (.iconst 1, 1) := by decide +kernel
theorem dX7_told_18 : decode cX7_told 18 = .ok (.if_icmp .ne 10, 3) := by decide +kernel
theorem dX7_told_21 : decode cX7_told 21 = .ok (.aload_n 0, 1) := by decide +kernel
theorem dX7_told_22 : decode cX7_told 22 = .ok (.getfield 232, 3) := by decide +kernel
theorem dX7_told_25 : decode cX7_told 25 = .ok (.goto 17, 3) := by decide +kernel
theorem dX7_told_28 : decode cX7_told 28 = .ok (.iload_n 1, 1) := by decide +kernel
theorem dX7_told_29 : decode cX7_told 29 = .ok (.iconst 2, 1) := by decide +kernel
theorem dX7_told_30 : decode cX7_told 30 = .ok (.if_icmp .ne 10, 3) := by decide +kernel
theorem dX7_told_33 : decode cX7_told 33 = .ok (.aload_n 0, 1) := by decide +kernel
theorem dX7_told_34 : decode cX7_told 34 = .ok (.getfield 263, 3) := by decide +kernel
theorem dX7_told_37 : decode cX7_told 37 = .ok (.goto 5, 3) := by decide +kernel
theorem dX7_told_40 : decode cX7_told 40 = .ok (.bipush (-3), 2) := by decide +kernel
theorem dX7_told_42 : decode cX7_told 42 = .ok (.ireturn, 1) := by decide +kernel
def zwX7_told : List Cond := .code yX7_told cX7_told 2 (some .int) :: ([.fieldLink RX7 1 "LinkModelsModel" "thrown" "I", .fieldLink RX7 263 "LinkModelsModel" "uses" "I", .fieldLink RX7 232 "LinkModelsModel" "builds" "I", .fieldLink RX7 109 "LinkModelsModel" "taped" "I"] ++ wsX70)
set_option maxHeartbeats 4000000 in
set_option maxRecDepth 100000 in
theorem zX7_told (l : Launch) (dC : Nat → ClassId) (dI : Nat → Nat → Nat) (h0 : Nat) (r : Nat → Nat) (sz : Nat) (p0 : Int32) : Met l yX7_told zwX7_told ({ frames := 0, cells := 0, slots := 0, locals := 0 }) (zPw dC dI [.ref h0, .int p0] sz [(h0, .inr (6, zM 0 r))] []) (va_Qi (fun (r : Int32) (_ : Unit) => r = if p0 = 0 then 0 else if p0 = 1 then 0 else if p0 = 2 then 0 else -3) (fun _ _ => True) (va_A [(h0, .inr (6, zM 0 r))] sz)) 0 0 (va_A [(h0, .inr (6, zM 0 r))] sz) := by
  refine Met.ofW (cc := cX7_told) (maxL := 2) (ret := (some .int)) (by decide) rfl ?_
  intro p e s m args below meth c s₁ B hml hv
  obtain ⟨rfl, hsz, hP, hK, hD0⟩ := hv
  have hx := B.exec
  have hb := B.bytes
  have hr := B.returns
  have hts := atoms_spec (ws := zwX7_told) B.pre
  have hown : s.vm.findClass RX7 = some m.cls := findClass_of_methodNamed B.named
  have hlocks := B.notSynchronized
  have hiX7 : ∀ w ∈ wsX70, w ∈ zwX7_told := (fun _ h => List.mem_cons_of_mem _ (List.mem_append_right _ h))
  subst hsz
  have hD := hD0.self (sz := s.heap.size)
  generalize hAe : va_A [(h0, .inr (6, zM 0 r))] s.heap.size = A at hD ⊢
  have hA : ∀ q : Nat, s.heap.size ≤ q → A q := fun q h => by rw [← hAe]; exact Or.inr h
  have hS : va_S A s.heap s.heap [] := va_S.rf
  have hP : va_P (dC, dI) vwCl [(h0, .inr (6, zM 0 r))] s.heap := hP
  have hl := lv_entry ([.ref h0, .int p0]) (n := 2) (Nat.le_of_ble_eq_true rfl)
  rw [lg_entry_eq]
  generalize (lg_sl ([.ref h0, .int p0]) ++ List.replicate (2 - (lg_sl ([.ref h0, .int p0])).length) Slot.unset).toArray = ls at hl ⊢
  have hl : lv_has ls 2 [(0, .ref h0), (1, .int p0)] := hl
  refine lv_aload_n hx hb dX7_told_0 rfl (lv_at hl 0 rfl) ?_
  refine lv_iconst (v := 0) hx hb dX7_told_1 (by decide) ?_
  refine va_put (D := (dC, dI)) (ci := 6) (v := .int 0) (ty := (.int)) (C := RX7) (T := TX7) (N := 46) hx hb hts hiX7 tyX7 tyX7_ok nmX7 hown hK hP hD hS 0 rfl rfl 0 (by decide) (hts (.fieldLink RX7 1 "LinkModelsModel" "thrown" "I") (by decide +kernel)) (fun _ h9 => h9) rfl (by decide +kernel) rfl rfl (Nat.le_of_ble_eq_true rfl) dX7_told_2 (fun H locs hP hD hS => ?_)
  have hP : va_P (dC, dI) vwCl [(h0, .inr (6, zM 0 r))] H := hP
  have hD : va_D A [(h0, .inr (6, zM 0 r))] := hD
  refine lv_iload_n hx hb dX7_told_5 rfl (lv_at hl 1 rfl) ?_
  refine lv_if_ne (tgt := 16) hx hb dX7_told_6 (by decide) (fun c0 => ?_) (fun c0 => ?_)
  · refine lv_iload_n hx hb dX7_told_16 rfl (lv_at hl 1 rfl) ?_
    refine lv_iconst (v := 1) hx hb dX7_told_17 (by decide) ?_
    refine lv_icmp_ne (tgt := 28) hx hb dX7_told_18 (by decide) (fun c1 => ?_) (fun c1 => ?_)
    · refine lv_iload_n hx hb dX7_told_28 rfl (lv_at hl 1 rfl) ?_
      refine lv_iconst (v := 2) hx hb dX7_told_29 (by decide) ?_
      refine lv_icmp_ne (tgt := 40) hx hb dX7_told_30 (by decide) (fun c2 => ?_) (fun c2 => ?_)
      · refine lv_bipush (v := (-3)) hx hb dX7_told_40 (by decide) ?_
        exact W.iret (v := -3) hx hb hr (fun t ht hW => ⟨⟨-3, (), rfl, by rw [if_neg c0, if_neg c1, if_neg c2], trivial⟩, hS.F ht⟩) hS.2.2 dX7_told_42
      · refine lv_aload_n hx hb dX7_told_33 rfl (lv_at hl 0 rfl) ?_
        refine va_get (D := (dC, dI)) (ci := 6) (v := .int 0) (C := RX7) (T := TX7) (N := 46) hx hb hts hiX7 hown hK hP 0 rfl rfl 29 (by decide) (hts (.fieldLink RX7 263 "LinkModelsModel" "uses" "I") (by decide +kernel)) (fun _ h9 => h9) rfl dX7_told_34 ?_
        refine lv_goto (tgt := 42) hx hb dX7_told_37 (by decide) ?_
        exact W.iret (v := 0) hx hb hr (fun t ht hW => ⟨⟨0, (), rfl, by rw [if_neg c0, if_neg c1, if_pos c2], trivial⟩, hS.F ht⟩) hS.2.2 dX7_told_42
    · refine lv_aload_n hx hb dX7_told_21 rfl (lv_at hl 0 rfl) ?_
      refine va_get (D := (dC, dI)) (ci := 6) (v := .int 0) (C := RX7) (T := TX7) (N := 46) hx hb hts hiX7 hown hK hP 0 rfl rfl 3 (by decide) (hts (.fieldLink RX7 232 "LinkModelsModel" "builds" "I") (by decide +kernel)) (fun _ h9 => h9) rfl dX7_told_22 ?_
      refine lv_goto (tgt := 42) hx hb dX7_told_25 (by decide) ?_
      exact W.iret (v := 0) hx hb hr (fun t ht hW => ⟨⟨0, (), rfl, by rw [if_neg c0, if_pos c1], trivial⟩, hS.F ht⟩) hS.2.2 dX7_told_42
  · refine lv_aload_n hx hb dX7_told_9 rfl (lv_at hl 0 rfl) ?_
    refine va_get (D := (dC, dI)) (ci := 6) (v := .int 0) (C := RX7) (T := TX7) (N := 46) hx hb hts hiX7 hown hK hP 0 rfl rfl 2 (by decide) (hts (.fieldLink RX7 109 "LinkModelsModel" "taped" "I") (by decide +kernel)) (fun _ h9 => h9) rfl dX7_told_10 ?_
    refine lv_goto (tgt := 42) hx hb dX7_told_13 (by decide) ?_
    exact W.iret (v := 0) hx hb hr (fun t ht hW => ⟨⟨0, (), rfl, by rw [if_pos c0], trivial⟩, hS.F ht⟩) hS.2.2 dX7_told_42
theorem dX7_share_0 : decode cX7_share 0 = .ok (.aload_n 0, 1) := by decide +kernel
theorem dX7_share_1 : decode cX7_share 1 = .ok (.iconst 0, 1) := by decide +kernel
theorem dX7_share_2 : decode cX7_share 2 = .ok (.putfield 1, 3) := by decide +kernel
theorem dX7_share_5 : decode cX7_share 5 = .ok (.aload_n 0, 1) := by decide +kernel
theorem dX7_share_6 : decode cX7_share 6 = .ok (.iload_n 1, 1) := by decide +kernel
theorem dX7_share_7 : decode cX7_share 7 = .ok (.invokevirtual 248, 3) := by decide +kernel
theorem dX7_share_10 : decode cX7_share 10 = .ok (.ifCond .ne 10, 3) := by decide +kernel
theorem dX7_share_13 : decode cX7_share 13 = .ok (.aload_n 0, 1) := by decide +kernel
theorem dX7_share_14 : decode cX7_share 14 = .ok (.iconst 1, 1) := by decide +kernel
theorem dX7_share_15 : decode cX7_share 15 = .ok (.putfield 1, 3) := by decide +kernel
theorem dX7_share_18 : decode cX7_share 18 = .ok (.iconst 0, 1) := by decide +kernel
theorem dX7_share_19 : decode cX7_share 19 = .ok (.ireturn, 1) := by decide +kernel
def zwX7_share : List Cond := .code yX7_share cX7_share 5 (some .int) :: ([.fieldLink RX7 1 "LinkModelsModel" "thrown" "I", .methodLink RX7 248 yX7_isBuild, .instanceMethod yX7_isBuild, .selects RX7 yX7_isBuild yX7_isBuild, .initialized RX7, .code yX7_isBuild cX7_isBuild 2 (some .boolean), .fieldLink RX7 232 "LinkModelsModel" "builds" "I", .methodLink RX7 105 yX7_in, .static yX7_in, .code yX7_in cX7_in 6 (some .boolean)] ++ wsX70)
theorem zgX7_share_X7_isBuild_248 : GoodIn zwX7_share (wsV RX7 248 RX7 yX7_isBuild zwX7_isBuild) := goodIn_app (goodIn_of _ (by decide +kernel)) (goodIn_ca (goodIn_of _ (by decide +kernel)) (zgt zg7))
set_option maxHeartbeats 4000000 in
set_option maxRecDepth 100000 in
theorem zX7_share (l : Launch) (dC : Nat → ClassId) (dI : Nat → Nat → Nat) (h0 : Nat) (r : Nat → Nat) (sz : Nat) (p0 : Int32) : Met l yX7_share zwX7_share ({ frames := 2, cells := 0, slots := 0, locals := 46 }) (zPw dC dI [.ref h0, .int p0] sz [(h0, .inr (6, zM 0 r))] []) (va_Qi (fun (r : Int32) (_ : Unit) => r = 0) (fun _ t => va_P (dC, dI) vwCl [(h0, .inr (6, zM 1 r))] t.heap ∧ va_K (dC, dI) vwCl [] t ∧ va_D (va_A [(h0, .inr (6, zM 0 r))] sz) [(h0, .inr (6, zM 1 r))]) (va_A [(h0, .inr (6, zM 0 r))] sz)) 0 0 (va_A [(h0, .inr (6, zM 0 r))] sz) := by
  refine Met.ofW (cc := cX7_share) (maxL := 5) (ret := (some .int)) (by decide) rfl ?_
  intro p e s m args below meth c s₁ B hml hv
  obtain ⟨rfl, hsz, hP, hK, hD0⟩ := hv
  have hx := B.exec
  have hb := B.bytes
  have hr := B.returns
  have hts := atoms_spec (ws := zwX7_share) B.pre
  have hown : s.vm.findClass RX7 = some m.cls := findClass_of_methodNamed B.named
  have hlocks := B.notSynchronized
  have hiX7 : ∀ w ∈ wsX70, w ∈ zwX7_share := (fun _ h => List.mem_cons_of_mem _ (List.mem_append_right _ h))
  subst hsz
  have hD := hD0.self (sz := s.heap.size)
  generalize hAe : va_A [(h0, .inr (6, zM 0 r))] s.heap.size = A at hD ⊢
  have hA : ∀ q : Nat, s.heap.size ≤ q → A q := fun q h => by rw [← hAe]; exact Or.inr h
  have hS : va_S A s.heap s.heap [] := va_S.rf
  have hP : va_P (dC, dI) vwCl [(h0, .inr (6, zM 0 r))] s.heap := hP
  have hl := lv_entry ([.ref h0, .int p0]) (n := 5) (Nat.le_of_ble_eq_true rfl)
  rw [lg_entry_eq]
  generalize (lg_sl ([.ref h0, .int p0]) ++ List.replicate (5 - (lg_sl ([.ref h0, .int p0])).length) Slot.unset).toArray = ls at hl ⊢
  have hl : lv_has ls 5 [(0, .ref h0), (1, .int p0)] := hl
  refine lv_aload_n hx hb dX7_share_0 rfl (lv_at hl 0 rfl) ?_
  refine lv_iconst (v := 0) hx hb dX7_share_1 (by decide) ?_
  refine va_put (D := (dC, dI)) (ci := 6) (v := .int 0) (ty := (.int)) (C := RX7) (T := TX7) (N := 46) hx hb hts hiX7 tyX7 tyX7_ok nmX7 hown hK hP hD hS 0 rfl rfl 0 (by decide) (hts (.fieldLink RX7 1 "LinkModelsModel" "thrown" "I") (by decide +kernel)) (fun _ h9 => h9) rfl (by decide +kernel) rfl rfl (Nat.le_of_ble_eq_true rfl) dX7_share_2 (fun H locs hP hD hS => ?_)
  have hP : va_P (dC, dI) vwCl [(h0, .inr (6, zM 0 r))] H := hP
  have hD : va_D A [(h0, .inr (6, zM 0 r))] := hD
  refine lv_aload_n hx hb dX7_share_5 rfl (lv_at hl 0 rfl) ?_
  refine lv_iload_n hx hb dX7_share_6 rfl (lv_at hl 1 rfl) ?_
  refine vp_callSi (W.runV (As := [.int p0]) (rest := []) ⟨hx, hb, hml, hown, hts⟩ (zX7_isBuild l dC dI h0 r p0) (cwV 1 hts zgX7_share_X7_isBuild_248 rfl rfl rfl (by decide +kernel) ⟨(show 1 + 1 ≤ 2 by omega), (show 8 + (2 + 11) + 25 ≤ 46 by omega)⟩) (zVr (ci := 6) (q0 := 0) (q := (RX7, TX7, 46)) (hK.sub (tys' := []) [] rfl) (hP.sub (ws' := [(h0, .inr (6, zM 0 r))]) [0] rfl) rfl rfl rfl) rfl rfl hl.1 rfl (lv_room (Nat.le_of_ble_eq_true rfl)) dX7_share_7 ⟨(show 0 + 0 ≤ 0 by omega), (show 0 + 0 ≤ 0 by omega)⟩) (fun r1 hr1 => ?_)
  subst hr1
  refine lv_if_ne (tgt := 20) hx hb dX7_share_10 (by decide) (fun c9 => absurd c9 (fun h9 => h9 rfl)) (fun _ => ?_)
  refine lv_aload_n hx hb dX7_share_13 rfl (lv_at hl 0 rfl) ?_
  refine lv_iconst (v := 1) hx hb dX7_share_14 (by decide) ?_
  refine va_put (D := (dC, dI)) (ci := 6) (v := .int 1) (ty := (.int)) (C := RX7) (T := TX7) (N := 46) hx hb hts hiX7 tyX7 tyX7_ok nmX7 hown hK hP hD hS 0 rfl rfl 0 (by decide) (hts (.fieldLink RX7 1 "LinkModelsModel" "thrown" "I") (by decide +kernel)) (fun _ h9 => h9) rfl (by decide +kernel) rfl rfl (Nat.le_of_ble_eq_true rfl) dX7_share_15 (fun H locs hP hD hS => ?_)
  have hP : va_P (dC, dI) vwCl [(h0, .inr (6, zM 1 r))] H := hP
  have hD : va_D A [(h0, .inr (6, zM 1 r))] := hD
  refine lv_iconst (v := 0) hx hb dX7_share_18 (by decide) ?_
  have hP9 : va_P (dC, dI) vwCl [(h0, .inr (6, zM 1 r))] H := hP
  have hD9 : va_D A [(h0, .inr (6, zM 1 r))] := hD
  exact W.iret (v := 0) hx hb hr (fun t ht hW => ⟨⟨0, (), rfl, rfl, by rw [ht]; exact hP9, va_K.moved hW.alike hK, hD9⟩, hS.F ht⟩) hS.2.2 dX7_share_19
