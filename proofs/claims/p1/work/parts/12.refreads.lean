theorem dX7_in_0 : decode cX7_in 0 = .ok (.lload_n 0, 1) := by decide +kernel
theorem dX7_in_1 : decode cX7_in 1 = .ok (.lload_n 2, 1) := by decide +kernel
theorem dX7_in_2 : decode cX7_in 2 = .ok (.lcmp, 1) := by decide +kernel
theorem dX7_in_3 : decode cX7_in 3 = .ok (.ifCond .lt 14, 3) := by decide +kernel
theorem dX7_in_6 : decode cX7_in 6 = .ok (.lload_n 0, 1) := by decide +kernel
theorem dX7_in_7 : decode cX7_in 7 = .ok (.lload 4, 2) := by decide +kernel
theorem dX7_in_9 : decode cX7_in 9 = .ok (.lcmp, 1) := by decide +kernel
theorem dX7_in_10 : decode cX7_in 10 = .ok (.ifCond .gt 7, 3) := by decide +kernel
theorem dX7_in_13 : decode cX7_in 13 = .ok (.iconst 1, 1) := by decide +kernel
theorem dX7_in_14 : decode cX7_in 14 = .ok (.goto 4, 3) := by decide +kernel
theorem dX7_in_17 : decode cX7_in 17 = .ok (.iconst 0, 1) := by decide +kernel
theorem dX7_in_18 : decode cX7_in 18 = .ok (.ireturn, 1) := by decide +kernel
def zwX7_in : List Cond := .code yX7_in cX7_in 6 (some .boolean) :: ([])
set_option maxHeartbeats 4000000 in
set_option maxRecDepth 100000 in
/-- in: whether a number lies between two -/
theorem zX7_in (l : Launch) (dC : Nat → ClassId) (dI : Nat → Nat → Nat) (p0 p1 p2 : Int64) : Met l yX7_in zwX7_in ({ frames := 0, cells := 0, slots := 0, locals := 0 }) (zPr dC dI [.long p0, .long p1, .long p2] [] []) (vp_Si (fun r => r = if (p1 ≤ p0 ∧ p0 ≤ p2) then 1 else 0)) 0 0 (fun _ => False) := by
  refine Met.ofW (cc := cX7_in) (maxL := 6) (ret := (some .boolean)) (by decide) rfl ?_
  intro p e s m args below meth c s₁ B hml hv
  obtain ⟨rfl, hP, hK⟩ := hv
  have hx := B.exec
  have hb := B.bytes
  have hr := B.returns
  have hts := atoms_spec (ws := zwX7_in) B.pre
  have hown : s.vm.findClass RX7 = some m.cls := findClass_of_methodNamed B.named
  have hlocks := B.notSynchronized
  have hl := lv_entry ([.long p0, .long p1, .long p2]) (n := 6) (Nat.le_of_ble_eq_true rfl)
  rw [lg_entry_eq]
  generalize (lg_sl ([.long p0, .long p1, .long p2]) ++ List.replicate (6 - (lg_sl ([.long p0, .long p1, .long p2])).length) Slot.unset).toArray = ls at hl ⊢
  have hl : lv_has ls 6 [(0, .long p0), (2, .long p1), (4, .long p2)] := hl
  refine lv_lload_n hx hb dX7_in_0 rfl (lv_at hl 0 rfl) ?_
  refine lv_lload_n hx hb dX7_in_1 rfl (lv_at hl 1 rfl) ?_
  refine W.lcmp hx hb dX7_in_2 ?_
  refine lv_if_lt (tgt := 17) hx hb dX7_in_3 (by decide) (fun c1 => ?_) (fun c1 => ?_)
  · refine lv_iconst (v := 0) hx hb dX7_in_17 (by decide) ?_
    exact W.zret (v := 0) hx hb hr rfl (fun t ht hW => ⟨0, rfl, by rw [if_neg (fun h9 => absurd (z_lt.mp c1) (Int64.not_lt.mpr h9.1))], ht⟩) (fun _ h => by cases h) dX7_in_18
  · refine lv_lload_n hx hb dX7_in_6 rfl (lv_at hl 0 rfl) ?_
    refine lv_lload hx hb dX7_in_7 (lv_at hl 2 rfl) ?_
    refine W.lcmp hx hb dX7_in_9 ?_
    refine lv_if_gt (tgt := 17) hx hb dX7_in_10 (by decide) (fun c2 => ?_) (fun c2 => ?_)
    · refine lv_iconst (v := 0) hx hb dX7_in_17 (by decide) ?_
      exact W.zret (v := 0) hx hb hr rfl (fun t ht hW => ⟨0, rfl, by rw [if_neg (fun h9 => absurd (z_gt.mp c2) (Int64.not_lt.mpr h9.2))], ht⟩) (fun _ h => by cases h) dX7_in_18
    · refine lv_iconst (v := 1) hx hb dX7_in_13 (by decide) ?_
      refine lv_goto (tgt := 18) hx hb dX7_in_14 (by decide) ?_
      exact W.zret (v := 1) hx hb hr rfl (fun t ht hW => ⟨1, rfl, by rw [if_pos ⟨Int64.not_lt.mp (fun h9 => c1 (z_lt.mpr h9)), Int64.not_lt.mp (fun h9 => c2 (z_gt.mpr h9))⟩], ht⟩) (fun _ h => by cases h) dX7_in_18
theorem dX7_isBuild_0 : decode cX7_isBuild 0 = .ok (.iload_n 1, 1) := by decide +kernel
theorem dX7_isBuild_1 : decode cX7_isBuild 1 = .ok (.i2l, 1) := by decide +kernel
theorem dX7_isBuild_2 : decode cX7_isBuild 2 = .ok (.lconst 0, 1) := by decide +kernel
theorem dX7_isBuild_3 : decode cX7_isBuild 3 = .ok (.aload_n 0, 1) := by decide +kernel
theorem dX7_isBuild_4 : decode cX7_isBuild 4 = .ok (.getfield 232, 3) := by decide +kernel
theorem dX7_isBuild_7 : decode cX7_isBuild 7 = .ok (.iconst 1, 1) := by decide +kernel
theorem dX7_isBuild_8 : decode cX7_isBuild 8 = .ok (.isub, 1) := by decide +kernel
theorem dX7_isBuild_9 : decode cX7_isBuild 9 = .ok (.i2l, 1) := by decide +kernel
theorem dX7_isBuild_10 : decode cX7_isBuild 10 = .ok (.invokestatic 105, 3) := by decide +kernel
theorem dX7_isBuild_13 : decode cX7_isBuild 13 = .ok (.ireturn, 1) := by decide +kernel
def zwX7_isBuild : List Cond := .code yX7_isBuild cX7_isBuild 2 (some .boolean) :: ([.fieldLink RX7 232 "LinkModelsModel" "builds" "I", .methodLink RX7 105 yX7_in, .static yX7_in, .initialized RX7, .code yX7_in cX7_in 6 (some .boolean)] ++ wsX70)
theorem zgX7_isBuild_X7_in_105 : GoodIn zwX7_isBuild (va_wsS RX7 105 yX7_in zwX7_in) := goodIn_of _ (by decide +kernel)
set_option maxHeartbeats 4000000 in
set_option maxRecDepth 100000 in
theorem zX7_isBuild (l : Launch) (dC : Nat → ClassId) (dI : Nat → Nat → Nat) (h0 : Nat) (r : Nat → Nat) (p0 : Int32) : Met l yX7_isBuild zwX7_isBuild ({ frames := 1, cells := 0, slots := 0, locals := 25 }) (zPr dC dI [.ref h0, .int p0] [(h0, .inr (6, zM 0 r))] []) (vp_Si (fun r => r = 0)) 0 0 (fun _ => False) := by
  refine Met.ofW (cc := cX7_isBuild) (maxL := 2) (ret := (some .boolean)) (by decide) rfl ?_
  intro p e s m args below meth c s₁ B hml hv
  obtain ⟨rfl, hP, hK⟩ := hv
  have hx := B.exec
  have hb := B.bytes
  have hr := B.returns
  have hts := atoms_spec (ws := zwX7_isBuild) B.pre
  have hown : s.vm.findClass RX7 = some m.cls := findClass_of_methodNamed B.named
  have hlocks := B.notSynchronized
  have hiX7 : ∀ w ∈ wsX70, w ∈ zwX7_isBuild := (fun _ h => List.mem_cons_of_mem _ (List.mem_append_right _ h))
  have hP : va_P (dC, dI) vwCl [(h0, .inr (6, zM 0 r))] s.heap := hP
  have hl := lv_entry ([.ref h0, .int p0]) (n := 2) (Nat.le_of_ble_eq_true rfl)
  rw [lg_entry_eq]
  generalize (lg_sl ([.ref h0, .int p0]) ++ List.replicate (2 - (lg_sl ([.ref h0, .int p0])).length) Slot.unset).toArray = ls at hl ⊢
  have hl : lv_has ls 2 [(0, .ref h0), (1, .int p0)] := hl
  refine lv_iload_n hx hb dX7_isBuild_0 rfl (lv_at hl 1 rfl) ?_
  refine lv_i2l hx hb dX7_isBuild_1 rfl ?_
  refine lv_topl (fun x1 ex1 => ?_)
  refine lv_lconst (v := 0) hx hb dX7_isBuild_2 (by decide) ?_
  refine lv_aload_n hx hb dX7_isBuild_3 rfl (lv_at hl 0 rfl) ?_
  refine va_get (D := (dC, dI)) (ci := 6) (v := .int 0) (C := RX7) (T := TX7) (N := 46) hx hb hts hiX7 hown hK hP 0 rfl rfl 3 (by decide) (hts (.fieldLink RX7 232 "LinkModelsModel" "builds" "I") (by decide +kernel)) (fun _ h9 => h9) rfl dX7_isBuild_4 ?_
  refine lv_iconst (v := 1) hx hb dX7_isBuild_7 (by decide) ?_
  refine lv_isub hx hb dX7_isBuild_8 ?_
  refine lv_topi (fun x2 ex2 => ?_)
  refine lv_i2l hx hb dX7_isBuild_9 rfl ?_
  refine lv_topl (fun x3 ex3 => ?_)
  refine vp_callSi (W.runS (As := [.long x1, .long 0, .long x3]) (rest := []) ⟨hx, hb, hml, hown, hts⟩ (zX7_in l dC dI x1 0 x3) (va_cwS 3 hts zgX7_isBuild_X7_in_105 rfl rfl rfl (by decide +kernel) ⟨(show 0 + 1 ≤ 1 by omega), (show 8 + (6 + 11) + 0 ≤ 25 by omega)⟩) (zSr (hK.sub (tys' := []) [] rfl) (hP.sub (ws' := []) [] rfl)) rfl rfl hl.1 rfl (lv_room (Nat.le_of_ble_eq_true rfl)) dX7_isBuild_10 ⟨(show 0 + 0 ≤ 0 by omega), (show 0 + 0 ≤ 0 by omega)⟩) (fun r4 hr4 => ?_)
  obtain rfl : r4 = 0 := by rw [hr4, if_neg (z_no (by rw [ex3, ex2]; decide))]
  exact W.zret (v := 0) hx hb hr rfl (fun t ht hW => ⟨0, rfl, rfl, ht⟩) (fun _ h => by cases h) dX7_isBuild_13
theorem dX7_isUse_0 : decode cX7_isUse 0 = .ok (.iload_n 1, 1) := by decide +kernel
theorem dX7_isUse_1 : decode cX7_isUse 1 = .ok (.i2l, 1) := by decide +kernel
theorem dX7_isUse_2 : decode cX7_isUse 2 = .ok (.lconst 0, 1) := by decide +kernel
theorem dX7_isUse_3 : decode cX7_isUse 3 = .ok (.aload_n 0, 1) := by decide +kernel
theorem dX7_isUse_4 : decode cX7_isUse 4 = .ok (.getfield 263, 3) := by decide +kernel
theorem dX7_isUse_7 : decode cX7_isUse 7 = .ok (.iconst 1, 1) := by decide +kernel
theorem dX7_isUse_8 : decode cX7_isUse 8 = .ok (.isub, 1) := by decide +kernel
theorem dX7_isUse_9 : decode cX7_isUse 9 = .ok (.i2l, 1) := by decide +kernel
theorem dX7_isUse_10 : decode cX7_isUse 10 = .ok (.invokestatic 105, 3) := by decide +kernel
theorem dX7_isUse_13 : decode cX7_isUse 13 = .ok (.ireturn, 1) := by decide +kernel
def zwX7_isUse : List Cond := .code yX7_isUse cX7_isUse 2 (some .boolean) :: ([.fieldLink RX7 263 "LinkModelsModel" "uses" "I", .methodLink RX7 105 yX7_in, .static yX7_in, .initialized RX7, .code yX7_in cX7_in 6 (some .boolean)] ++ wsX70)
theorem zgX7_isUse_X7_in_105 : GoodIn zwX7_isUse (va_wsS RX7 105 yX7_in zwX7_in) := goodIn_of _ (by decide +kernel)
set_option maxHeartbeats 4000000 in
set_option maxRecDepth 100000 in
theorem zX7_isUse (l : Launch) (dC : Nat → ClassId) (dI : Nat → Nat → Nat) (h0 : Nat) (r : Nat → Nat) (p0 : Int32) : Met l yX7_isUse zwX7_isUse ({ frames := 1, cells := 0, slots := 0, locals := 25 }) (zPr dC dI [.ref h0, .int p0] [(h0, .inr (6, zM 0 r))] []) (vp_Si (fun r => r = 0)) 0 0 (fun _ => False) := by
  refine Met.ofW (cc := cX7_isUse) (maxL := 2) (ret := (some .boolean)) (by decide) rfl ?_
  intro p e s m args below meth c s₁ B hml hv
  obtain ⟨rfl, hP, hK⟩ := hv
  have hx := B.exec
  have hb := B.bytes
  have hr := B.returns
  have hts := atoms_spec (ws := zwX7_isUse) B.pre
  have hown : s.vm.findClass RX7 = some m.cls := findClass_of_methodNamed B.named
  have hlocks := B.notSynchronized
  have hiX7 : ∀ w ∈ wsX70, w ∈ zwX7_isUse := (fun _ h => List.mem_cons_of_mem _ (List.mem_append_right _ h))
  have hP : va_P (dC, dI) vwCl [(h0, .inr (6, zM 0 r))] s.heap := hP
  have hl := lv_entry ([.ref h0, .int p0]) (n := 2) (Nat.le_of_ble_eq_true rfl)
  rw [lg_entry_eq]
  generalize (lg_sl ([.ref h0, .int p0]) ++ List.replicate (2 - (lg_sl ([.ref h0, .int p0])).length) Slot.unset).toArray = ls at hl ⊢
  have hl : lv_has ls 2 [(0, .ref h0), (1, .int p0)] := hl
  refine lv_iload_n hx hb dX7_isUse_0 rfl (lv_at hl 1 rfl) ?_
  refine lv_i2l hx hb dX7_isUse_1 rfl ?_
  refine lv_topl (fun x1 ex1 => ?_)
  refine lv_lconst (v := 0) hx hb dX7_isUse_2 (by decide) ?_
  refine lv_aload_n hx hb dX7_isUse_3 rfl (lv_at hl 0 rfl) ?_
  refine va_get (D := (dC, dI)) (ci := 6) (v := .int 0) (C := RX7) (T := TX7) (N := 46) hx hb hts hiX7 hown hK hP 0 rfl rfl 29 (by decide) (hts (.fieldLink RX7 263 "LinkModelsModel" "uses" "I") (by decide +kernel)) (fun _ h9 => h9) rfl dX7_isUse_4 ?_
  refine lv_iconst (v := 1) hx hb dX7_isUse_7 (by decide) ?_
  refine lv_isub hx hb dX7_isUse_8 ?_
  refine lv_topi (fun x2 ex2 => ?_)
  refine lv_i2l hx hb dX7_isUse_9 rfl ?_
  refine lv_topl (fun x3 ex3 => ?_)
  refine vp_callSi (W.runS (As := [.long x1, .long 0, .long x3]) (rest := []) ⟨hx, hb, hml, hown, hts⟩ (zX7_in l dC dI x1 0 x3) (va_cwS 3 hts zgX7_isUse_X7_in_105 rfl rfl rfl (by decide +kernel) ⟨(show 0 + 1 ≤ 1 by omega), (show 8 + (6 + 11) + 0 ≤ 25 by omega)⟩) (zSr (hK.sub (tys' := []) [] rfl) (hP.sub (ws' := []) [] rfl)) rfl rfl hl.1 rfl (lv_room (Nat.le_of_ble_eq_true rfl)) dX7_isUse_10 ⟨(show 0 + 0 ≤ 0 by omega), (show 0 + 0 ≤ 0 by omega)⟩) (fun r4 hr4 => ?_)
  obtain rfl : r4 = 0 := by rw [hr4, if_neg (z_no (by rw [ex3, ex2]; decide))]
  exact W.zret (v := 0) hx hb hr rfl (fun t ht hW => ⟨0, rfl, rfl, ht⟩) (fun _ h => by cases h) dX7_isUse_13
theorem dX7_thrown_0 : decode cX7_thrown 0 = .ok (.aload_n 0, 1) := by decide +kernel
theorem dX7_thrown_1 : decode cX7_thrown 1 = .ok (.getfield 1, 3) := by decide +kernel
theorem dX7_thrown_4 : decode cX7_thrown 4 = .ok (.ireturn, 1) := by decide +kernel
def zwX7_thrown : List Cond := .code yX7_thrown cX7_thrown 1 (some .int) :: ([.fieldLink RX7 1 "LinkModelsModel" "thrown" "I"] ++ wsX70)
set_option maxHeartbeats 4000000 in
set_option maxRecDepth 100000 in
theorem zX7_thrown (l : Launch) (dC : Nat → ClassId) (dI : Nat → Nat → Nat) (h0 : Nat) (r : Nat → Nat) (v : Int32) : Met l yX7_thrown zwX7_thrown ({ frames := 0, cells := 0, slots := 0, locals := 0 }) (zPr dC dI [.ref h0] [(h0, .inr (6, zM v r))] []) (vp_Si (fun r => r = v)) 0 0 (fun _ => False) := by
  refine Met.ofW (cc := cX7_thrown) (maxL := 1) (ret := (some .int)) (by decide) rfl ?_
  intro p e s m args below meth c s₁ B hml hv
  obtain ⟨rfl, hP, hK⟩ := hv
  have hx := B.exec
  have hb := B.bytes
  have hr := B.returns
  have hts := atoms_spec (ws := zwX7_thrown) B.pre
  have hown : s.vm.findClass RX7 = some m.cls := findClass_of_methodNamed B.named
  have hlocks := B.notSynchronized
  have hiX7 : ∀ w ∈ wsX70, w ∈ zwX7_thrown := (fun _ h => List.mem_cons_of_mem _ (List.mem_append_right _ h))
  have hP : va_P (dC, dI) vwCl [(h0, .inr (6, zM v r))] s.heap := hP
  have hl := lv_entry ([.ref h0]) (n := 1) (Nat.le_of_ble_eq_true rfl)
  rw [lg_entry_eq]
  generalize (lg_sl ([.ref h0]) ++ List.replicate (1 - (lg_sl ([.ref h0])).length) Slot.unset).toArray = ls at hl ⊢
  have hl : lv_has ls 1 [(0, .ref h0)] := hl
  refine lv_aload_n hx hb dX7_thrown_0 rfl (lv_at hl 0 rfl) ?_
  refine va_get (D := (dC, dI)) (ci := 6) (v := .int v) (C := RX7) (T := TX7) (N := 46) hx hb hts hiX7 hown hK hP 0 rfl rfl 0 (by decide) (hts (.fieldLink RX7 1 "LinkModelsModel" "thrown" "I") (by decide +kernel)) (fun _ h9 => h9) rfl dX7_thrown_1 ?_
  exact W.iret (v := v) hx hb hr (fun t ht hW => ⟨v, rfl, rfl, ht⟩) (fun _ h => by cases h) dX7_thrown_4
theorem dX7_doing_0 : decode cX7_doing 0 = .ok (.aload_n 0, 1) := by decide +kernel
theorem dX7_doing_1 : decode cX7_doing 1 = .ok (.iload_n 1, 1) := by decide +kernel
theorem dX7_doing_2 : decode cX7_doing 2 = .ok (.invokevirtual 248, 3) := by decide +kernel
theorem dX7_doing_5 : decode cX7_doing 5 = .ok (.ifCond .eq 11, 3) := by decide +kernel
theorem dX7_doing_16 : decode cX7_doing 16 = .ok (.bipush (-2), 2) := by decide +kernel
theorem dX7_doing_18 : decode cX7_doing 18 = .ok (.ireturn, 1) := by decide +kernel
def zwX7_doing : List Cond := .code yX7_doing cX7_doing 9 (some .int) :: ([.methodLink RX7 248 yX7_isBuild, .instanceMethod yX7_isBuild, .selects RX7 yX7_isBuild yX7_isBuild, .initialized RX7, .code yX7_isBuild cX7_isBuild 2 (some .boolean), .fieldLink RX7 232 "LinkModelsModel" "builds" "I", .methodLink RX7 105 yX7_in, .static yX7_in, .code yX7_in cX7_in 6 (some .boolean)] ++ wsX70)
theorem zgX7_doing_X7_isBuild_248 : GoodIn zwX7_doing (wsV RX7 248 RX7 yX7_isBuild zwX7_isBuild) := goodIn_app (goodIn_of _ (by decide +kernel)) (goodIn_ca (goodIn_of _ (by decide +kernel)) (zgt zg7))
set_option maxHeartbeats 4000000 in
set_option maxRecDepth 100000 in
theorem zX7_doing (l : Launch) (dC : Nat → ClassId) (dI : Nat → Nat → Nat) (h0 : Nat) (r : Nat → Nat) (p0 : Int32) (p1 : Int32) (p2 : Int32) : Met l yX7_doing zwX7_doing ({ frames := 2, cells := 0, slots := 0, locals := 46 }) (zPr dC dI [.ref h0, .int p0, .int p1, .int p2] [(h0, .inr (6, zM 0 r))] []) (vp_Si (fun r => r = -2)) 0 0 (fun _ => False) := by
  refine Met.ofW (cc := cX7_doing) (maxL := 9) (ret := (some .int)) (by decide) rfl ?_
  intro p e s m args below meth c s₁ B hml hv
  obtain ⟨rfl, hP, hK⟩ := hv
  have hx := B.exec
  have hb := B.bytes
  have hr := B.returns
  have hts := atoms_spec (ws := zwX7_doing) B.pre
  have hown : s.vm.findClass RX7 = some m.cls := findClass_of_methodNamed B.named
  have hlocks := B.notSynchronized
  have hP : va_P (dC, dI) vwCl [(h0, .inr (6, zM 0 r))] s.heap := hP
  have hl := lv_entry ([.ref h0, .int p0, .int p1, .int p2]) (n := 9) (Nat.le_of_ble_eq_true rfl)
  rw [lg_entry_eq]
  generalize (lg_sl ([.ref h0, .int p0, .int p1, .int p2]) ++ List.replicate (9 - (lg_sl ([.ref h0, .int p0, .int p1, .int p2])).length) Slot.unset).toArray = ls at hl ⊢
  have hl : lv_has ls 9 [(0, .ref h0), (1, .int p0), (2, .int p1), (3, .int p2)] := hl
  refine lv_aload_n hx hb dX7_doing_0 rfl (lv_at hl 0 rfl) ?_
  refine lv_iload_n hx hb dX7_doing_1 rfl (lv_at hl 1 rfl) ?_
  refine vp_callSi (W.runV (As := [.int p0]) (rest := []) ⟨hx, hb, hml, hown, hts⟩ (zX7_isBuild l dC dI h0 r p0) (cwV 1 hts zgX7_doing_X7_isBuild_248 rfl rfl rfl (by decide +kernel) ⟨(show 1 + 1 ≤ 2 by omega), (show 8 + (2 + 11) + 25 ≤ 46 by omega)⟩) (zVr (ci := 6) (q0 := 0) (q := (RX7, TX7, 46)) (hK.sub (tys' := []) [] rfl) (hP.sub (ws' := [(h0, .inr (6, zM 0 r))]) [0] rfl) rfl rfl rfl) rfl rfl hl.1 rfl (lv_room (Nat.le_of_ble_eq_true rfl)) dX7_doing_2 ⟨(show 0 + 0 ≤ 0 by omega), (show 0 + 0 ≤ 0 by omega)⟩) (fun r1 hr1 => ?_)
  subst hr1
  refine lv_if_eq (tgt := 16) hx hb dX7_doing_5 (by decide) (fun _ => ?_) (fun c9 => absurd (rfl) c9)
  refine lv_bipush (v := (-2)) hx hb dX7_doing_16 (by decide) ?_
  exact W.iret (v := -2) hx hb hr (fun t ht hW => ⟨-2, rfl, rfl, ht⟩) (fun _ h => by cases h) dX7_doing_18
