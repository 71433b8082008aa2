theorem dX6_buildAt_0 : decode cX6_buildAt 0 = .ok (.iload_n 1, 1) := by decide +kernel
theorem dX6_buildAt_1 : decode cX6_buildAt 1 = .ok (.ifCond .lt 11, 3) := by decide +kernel
theorem dX6_buildAt_4 : decode cX6_buildAt 4 = .ok (.iload_n 1, 1) := by decide +kernel
theorem dX6_buildAt_5 : decode cX6_buildAt 5 = .ok (.aload_n 0, 1) := by decide +kernel
theorem dX6_buildAt_6 : decode cX6_buildAt 6 = .ok (.getfield 23, 3) := by decide +kernel
theorem dX6_buildAt_9 : decode cX6_buildAt 9 = .ok (.if_icmp .lt 7, 3) := by decide +kernel
theorem dX6_buildAt_12 : decode cX6_buildAt 12 = .ok (.aconst_null, 1) := by decide +kernel
theorem dX6_buildAt_13 : decode cX6_buildAt 13 = .ok (.goto 9, 3) := by decide +kernel
theorem dX6_buildAt_22 : decode cX6_buildAt 22 = .ok (.areturn, 1) := by decide +kernel
def zwX6_buildAt : List Cond := .code yX6_buildAt cX6_buildAt 2 (some (.object "LinkModels$Build")) :: ([.fieldLink RX6 23 "LinkModels" "buildCount" "I"] ++ wsX60)
set_option maxHeartbeats 4000000 in
set_option maxRecDepth 100000 in
/-- buildAt on a fresh object: null -/
theorem zX6_buildAt (l : Launch) (dC : Nat → ClassId) (dI : Nat → Nat → Nat) (h0 rt rb ru rr : Nat) (p0 : Int32) : Met l yX6_buildAt zwX6_buildAt ({ frames := 0, cells := 0, slots := 0, locals := 0 }) (zPr dC dI [.ref h0, .int p0] [(h0, .inr (5, [.ref rt, .int 0, .ref rb, .int 0, .ref ru, .int 0, .ref rr]))] []) (va_Sq (fun r => r = none)) 0 0 (fun _ => False) := by
  refine Met.ofW (cc := cX6_buildAt) (maxL := 2) (ret := (some (.object "LinkModels$Build"))) (by decide) rfl ?_
  intro p e s m args below meth c s₁ B hml hv
  obtain ⟨rfl, hP, hK⟩ := hv
  have hx := B.exec
  have hb := B.bytes
  have hr := B.returns
  have hts := atoms_spec (ws := zwX6_buildAt) B.pre
  have hown : s.vm.findClass RX6 = some m.cls := findClass_of_methodNamed B.named
  have hlocks := B.notSynchronized
  have hiX6 : ∀ w ∈ wsX60, w ∈ zwX6_buildAt := (by decide +kernel)
  have hP : va_P (dC, dI) vwCl [(h0, .inr (5, [.ref rt, .int 0, .ref rb, .int 0, .ref ru, .int 0, .ref rr]))] s.heap := hP
  have hl := lv_entry ([.ref h0, .int p0]) (n := 2) (Nat.le_of_ble_eq_true rfl)
  rw [lg_entry_eq]
  generalize (lg_sl ([.ref h0, .int p0]) ++ List.replicate (2 - (lg_sl ([.ref h0, .int p0])).length) Slot.unset).toArray = ls at hl ⊢
  have hl : lv_has ls 2 [(0, .ref h0), (1, .int p0)] := hl
  refine lv_iload_n hx hb dX6_buildAt_0 rfl (lv_at hl 1 rfl) ?_
  refine lv_if_lt (tgt := 12) hx hb dX6_buildAt_1 (by decide) (fun c1 => ?_) (fun c1 => ?_)
  · refine lv_null hx hb dX6_buildAt_12 ?_
    refine lv_goto (tgt := 22) hx hb dX6_buildAt_13 (by decide) ?_
    exact W.aret (v := .null) hx hb hr (Or.inl ⟨_, rfl⟩) (Or.inl rfl) (fun t ht hW => ⟨none, rfl, rfl, ht⟩) (fun _ h => by cases h) dX6_buildAt_22
  · refine lv_iload_n hx hb dX6_buildAt_4 rfl (lv_at hl 1 rfl) ?_
    refine lv_aload_n hx hb dX6_buildAt_5 rfl (lv_at hl 0 rfl) ?_
    refine va_get (D := (dC, dI)) (ci := 5) (v := .int 0) (C := RX6) (T := TX6) (N := 7) hx hb hts hiX6 hown hK hP 0 rfl rfl 3 (by decide) (hts (.fieldLink RX6 23 "LinkModels" "buildCount" "I") (by decide +kernel)) (fun _ h9 => h9) rfl dX6_buildAt_6 ?_
    refine lv_icmp_lt (tgt := 16) hx hb dX6_buildAt_9 (by decide) (fun c9 => absurd c9 (c1)) (fun _ => ?_)
    refine lv_null hx hb dX6_buildAt_12 ?_
    refine lv_goto (tgt := 22) hx hb dX6_buildAt_13 (by decide) ?_
    exact W.aret (v := .null) hx hb hr (Or.inl ⟨_, rfl⟩) (Or.inl rfl) (fun t ht hW => ⟨none, rfl, rfl, ht⟩) (fun _ h => by cases h) dX6_buildAt_22
theorem dX6_useAt_0 : decode cX6_useAt 0 = .ok (.iload_n 1, 1) := by decide +kernel
theorem dX6_useAt_1 : decode cX6_useAt 1 = .ok (.ifCond .lt 11, 3) := by decide +kernel
theorem dX6_useAt_4 : decode cX6_useAt 4 = .ok (.iload_n 1, 1) := by decide +kernel
theorem dX6_useAt_5 : decode cX6_useAt 5 = .ok (.aload_n 0, 1) := by decide +kernel
theorem dX6_useAt_6 : decode cX6_useAt 6 = .ok (.getfield 32, 3) := by decide +kernel
theorem dX6_useAt_9 : decode cX6_useAt 9 = .ok (.if_icmp .lt 7, 3) := by decide +kernel
theorem dX6_useAt_12 : decode cX6_useAt 12 = .ok (.aconst_null, 1) := by decide +kernel
theorem dX6_useAt_13 : decode cX6_useAt 13 = .ok (.goto 9, 3) := by decide +kernel
theorem dX6_useAt_22 : decode cX6_useAt 22 = .ok (.areturn, 1) := by decide +kernel
def zwX6_useAt : List Cond := .code yX6_useAt cX6_useAt 2 (some (.object "LinkModels$Use")) :: ([.fieldLink RX6 32 "LinkModels" "useCount" "I"] ++ wsX60)
set_option maxHeartbeats 4000000 in
set_option maxRecDepth 100000 in
/-- useAt on a fresh object: null -/
theorem zX6_useAt (l : Launch) (dC : Nat → ClassId) (dI : Nat → Nat → Nat) (h0 rt rb ru rr : Nat) (p0 : Int32) : Met l yX6_useAt zwX6_useAt ({ frames := 0, cells := 0, slots := 0, locals := 0 }) (zPr dC dI [.ref h0, .int p0] [(h0, .inr (5, [.ref rt, .int 0, .ref rb, .int 0, .ref ru, .int 0, .ref rr]))] []) (va_Sq (fun r => r = none)) 0 0 (fun _ => False) := by
  refine Met.ofW (cc := cX6_useAt) (maxL := 2) (ret := (some (.object "LinkModels$Use"))) (by decide) rfl ?_
  intro p e s m args below meth c s₁ B hml hv
  obtain ⟨rfl, hP, hK⟩ := hv
  have hx := B.exec
  have hb := B.bytes
  have hr := B.returns
  have hts := atoms_spec (ws := zwX6_useAt) B.pre
  have hown : s.vm.findClass RX6 = some m.cls := findClass_of_methodNamed B.named
  have hlocks := B.notSynchronized
  have hiX6 : ∀ w ∈ wsX60, w ∈ zwX6_useAt := (by decide +kernel)
  have hP : va_P (dC, dI) vwCl [(h0, .inr (5, [.ref rt, .int 0, .ref rb, .int 0, .ref ru, .int 0, .ref rr]))] s.heap := hP
  have hl := lv_entry ([.ref h0, .int p0]) (n := 2) (Nat.le_of_ble_eq_true rfl)
  rw [lg_entry_eq]
  generalize (lg_sl ([.ref h0, .int p0]) ++ List.replicate (2 - (lg_sl ([.ref h0, .int p0])).length) Slot.unset).toArray = ls at hl ⊢
  have hl : lv_has ls 2 [(0, .ref h0), (1, .int p0)] := hl
  refine lv_iload_n hx hb dX6_useAt_0 rfl (lv_at hl 1 rfl) ?_
  refine lv_if_lt (tgt := 12) hx hb dX6_useAt_1 (by decide) (fun c1 => ?_) (fun c1 => ?_)
  · refine lv_null hx hb dX6_useAt_12 ?_
    refine lv_goto (tgt := 22) hx hb dX6_useAt_13 (by decide) ?_
    exact W.aret (v := .null) hx hb hr (Or.inl ⟨_, rfl⟩) (Or.inl rfl) (fun t ht hW => ⟨none, rfl, rfl, ht⟩) (fun _ h => by cases h) dX6_useAt_22
  · refine lv_iload_n hx hb dX6_useAt_4 rfl (lv_at hl 1 rfl) ?_
    refine lv_aload_n hx hb dX6_useAt_5 rfl (lv_at hl 0 rfl) ?_
    refine va_get (D := (dC, dI)) (ci := 5) (v := .int 0) (C := RX6) (T := TX6) (N := 7) hx hb hts hiX6 hown hK hP 0 rfl rfl 5 (by decide) (hts (.fieldLink RX6 32 "LinkModels" "useCount" "I") (by decide +kernel)) (fun _ h9 => h9) rfl dX6_useAt_6 ?_
    refine lv_icmp_lt (tgt := 16) hx hb dX6_useAt_9 (by decide) (fun c9 => absurd c9 (c1)) (fun _ => ?_)
    refine lv_null hx hb dX6_useAt_12 ?_
    refine lv_goto (tgt := 22) hx hb dX6_useAt_13 (by decide) ?_
    exact W.aret (v := .null) hx hb hr (Or.inl ⟨_, rfl⟩) (Or.inl rfl) (fun t ht hW => ⟨none, rfl, rfl, ht⟩) (fun _ h => by cases h) dX6_useAt_22
theorem dX6_defined_0 : decode cX6_defined 0 = .ok (.aload_n 0, 1) := by decide +kernel
theorem dX6_defined_1 : decode cX6_defined 1 = .ok (.iload_n 1, 1) := by decide +kernel
theorem dX6_defined_2 : decode cX6_defined 2 = .ok (.invokevirtual 62, 3) := by decide +kernel
theorem dX6_defined_5 : decode cX6_defined 5 = .ok (.astore_n 3, 1) := by decide +kernel
theorem dX6_defined_6 : decode cX6_defined 6 = .ok (.aload_n 3, 1) := by decide +kernel
theorem dX6_defined_7 : decode cX6_defined 7 = .ok (.ifnonnull 6, 3) := by decide +kernel
theorem dX6_defined_10 : decode cX6_defined 10 = .ok (.bipush (-2), 2) := by decide +kernel
theorem dX6_defined_12 : decode cX6_defined 12 = .ok (.ireturn, 1) := by decide +kernel
def zwX6_defined : List Cond := .code yX6_defined cX6_defined 5 (some .int) :: ([.methodLink RX6 62 yX6_buildAt, .instanceMethod yX6_buildAt, .selects RX6 yX6_buildAt yX6_buildAt, .initialized RX6, .code yX6_buildAt cX6_buildAt 2 (some (.object "LinkModels$Build")), .fieldLink RX6 23 "LinkModels" "buildCount" "I"] ++ wsX60)
theorem zgX6_defined_X6_buildAt_62 : GoodIn zwX6_defined (wsV RX6 62 RX6 yX6_buildAt zwX6_buildAt) := goodIn_of _ (by decide +kernel)
set_option maxHeartbeats 4000000 in
set_option maxRecDepth 100000 in
theorem zX6_defined (l : Launch) (dC : Nat → ClassId) (dI : Nat → Nat → Nat) (h0 rt rb ru rr : Nat) (p0 : Int32) (p1 : Int32) : Met l yX6_defined zwX6_defined ({ frames := 1, cells := 0, slots := 0, locals := 21 }) (zPr dC dI [.ref h0, .int p0, .int p1] [(h0, .inr (5, [.ref rt, .int 0, .ref rb, .int 0, .ref ru, .int 0, .ref rr]))] []) (vp_Si (fun r => r = -2)) 0 0 (fun _ => False) := by
  refine Met.ofW (cc := cX6_defined) (maxL := 5) (ret := (some .int)) (by decide) rfl ?_
  intro p e s m args below meth c s₁ B hml hv
  obtain ⟨rfl, hP, hK⟩ := hv
  have hx := B.exec
  have hb := B.bytes
  have hr := B.returns
  have hts := atoms_spec (ws := zwX6_defined) B.pre
  have hown : s.vm.findClass RX6 = some m.cls := findClass_of_methodNamed B.named
  have hlocks := B.notSynchronized
  have hP : va_P (dC, dI) vwCl [(h0, .inr (5, [.ref rt, .int 0, .ref rb, .int 0, .ref ru, .int 0, .ref rr]))] s.heap := hP
  have hl := lv_entry ([.ref h0, .int p0, .int p1]) (n := 5) (Nat.le_of_ble_eq_true rfl)
  rw [lg_entry_eq]
  generalize (lg_sl ([.ref h0, .int p0, .int p1]) ++ List.replicate (5 - (lg_sl ([.ref h0, .int p0, .int p1])).length) Slot.unset).toArray = ls at hl ⊢
  have hl : lv_has ls 5 [(0, .ref h0), (1, .int p0), (2, .int p1)] := hl
  refine lv_aload_n hx hb dX6_defined_0 rfl (lv_at hl 0 rfl) ?_
  refine lv_iload_n hx hb dX6_defined_1 rfl (lv_at hl 1 rfl) ?_
  refine va_csq (W.runV (As := [.int p0]) (rest := []) ⟨hx, hb, hml, hown, hts⟩ (zX6_buildAt l dC dI h0 rt rb ru rr p0) (cwV 1 hts zgX6_defined_X6_buildAt_62 rfl rfl rfl (by decide +kernel) ⟨(show 0 + 1 ≤ 1 by omega), (show 8 + (2 + 11) + 0 ≤ 21 by omega)⟩) (zVr (ci := 5) (q0 := 0) (q := (RX6, TX6, 7)) (hK.sub (tys' := []) [] rfl) (hP.sub (ws' := [(h0, .inr (5, [.ref rt, .int 0, .ref rb, .int 0, .ref ru, .int 0, .ref rr]))]) [0] rfl) rfl rfl rfl) rfl rfl hl.1 rfl (lv_room (Nat.le_of_ble_eq_true rfl)) dX6_defined_2 ⟨(show 0 + 0 ≤ 0 by omega), (show 0 + 0 ≤ 0 by omega)⟩) (fun r1 hr1 => ?_)
  subst hr1
  refine W.eq (g2 := F0 m 5 ls [.null]) rfl ?_
  refine lv_astore_nN (lv' := [(3, .null), (0, .ref h0), (1, .int p0), (2, .int p1)]) hx hb dX6_defined_5 rfl hl (by decide) rfl (fun ls hl => ?_)
  refine lv_aload_nN hx hb dX6_defined_6 rfl (lv_at hl 0 rfl) ?_
  refine lv_ifnonnullN hx hb dX6_defined_7 ?_
  refine lv_bipush (v := (-2)) hx hb dX6_defined_10 (by decide) ?_
  exact W.iret (v := -2) hx hb hr (fun t ht hW => ⟨-2, rfl, rfl, ht⟩) (fun _ h => by cases h) dX6_defined_12
theorem dX6_count_0 : decode cX6_count 0 = .ok (.aload_n 0, 1) := by decide +kernel
theorem dX6_count_1 : decode cX6_count 1 = .ok (.iload_n 1, 1) := by decide +kernel
theorem dX6_count_2 : decode cX6_count 2 = .ok (.invokevirtual 62, 3) := by decide +kernel
theorem dX6_count_5 : decode cX6_count 5 = .ok (.astore_n 3, 1) := by decide +kernel
theorem dX6_count_6 : decode cX6_count 6 = .ok (.aload_n 3, 1) := by decide +kernel
theorem dX6_count_7 : decode cX6_count 7 = .ok (.ifnonnull 6, 3) := by decide +kernel
theorem dX6_count_10 : decode cX6_count 10 = .ok (.bipush (-2), 2) := by decide +kernel
theorem dX6_count_12 : decode cX6_count 12 = .ok (.ireturn, 1) := by decide +kernel
def zwX6_count : List Cond := .code yX6_count cX6_count 4 (some .int) :: ([.methodLink RX6 62 yX6_buildAt, .instanceMethod yX6_buildAt, .selects RX6 yX6_buildAt yX6_buildAt, .initialized RX6, .code yX6_buildAt cX6_buildAt 2 (some (.object "LinkModels$Build")), .fieldLink RX6 23 "LinkModels" "buildCount" "I"] ++ wsX60)
theorem zgX6_count_X6_buildAt_62 : GoodIn zwX6_count (wsV RX6 62 RX6 yX6_buildAt zwX6_buildAt) := goodIn_of _ (by decide +kernel)
set_option maxHeartbeats 4000000 in
set_option maxRecDepth 100000 in
theorem zX6_count (l : Launch) (dC : Nat → ClassId) (dI : Nat → Nat → Nat) (h0 rt rb ru rr : Nat) (p0 : Int32) (p1 : Int32) : Met l yX6_count zwX6_count ({ frames := 1, cells := 0, slots := 0, locals := 21 }) (zPr dC dI [.ref h0, .int p0, .int p1] [(h0, .inr (5, [.ref rt, .int 0, .ref rb, .int 0, .ref ru, .int 0, .ref rr]))] []) (vp_Si (fun r => r = -2)) 0 0 (fun _ => False) := by
  refine Met.ofW (cc := cX6_count) (maxL := 4) (ret := (some .int)) (by decide) rfl ?_
  intro p e s m args below meth c s₁ B hml hv
  obtain ⟨rfl, hP, hK⟩ := hv
  have hx := B.exec
  have hb := B.bytes
  have hr := B.returns
  have hts := atoms_spec (ws := zwX6_count) B.pre
  have hown : s.vm.findClass RX6 = some m.cls := findClass_of_methodNamed B.named
  have hlocks := B.notSynchronized
  have hP : va_P (dC, dI) vwCl [(h0, .inr (5, [.ref rt, .int 0, .ref rb, .int 0, .ref ru, .int 0, .ref rr]))] s.heap := hP
  have hl := lv_entry ([.ref h0, .int p0, .int p1]) (n := 4) (Nat.le_of_ble_eq_true rfl)
  rw [lg_entry_eq]
  generalize (lg_sl ([.ref h0, .int p0, .int p1]) ++ List.replicate (4 - (lg_sl ([.ref h0, .int p0, .int p1])).length) Slot.unset).toArray = ls at hl ⊢
  have hl : lv_has ls 4 [(0, .ref h0), (1, .int p0), (2, .int p1)] := hl
  refine lv_aload_n hx hb dX6_count_0 rfl (lv_at hl 0 rfl) ?_
  refine lv_iload_n hx hb dX6_count_1 rfl (lv_at hl 1 rfl) ?_
  refine va_csq (W.runV (As := [.int p0]) (rest := []) ⟨hx, hb, hml, hown, hts⟩ (zX6_buildAt l dC dI h0 rt rb ru rr p0) (cwV 1 hts zgX6_count_X6_buildAt_62 rfl rfl rfl (by decide +kernel) ⟨(show 0 + 1 ≤ 1 by omega), (show 8 + (2 + 11) + 0 ≤ 21 by omega)⟩) (zVr (ci := 5) (q0 := 0) (q := (RX6, TX6, 7)) (hK.sub (tys' := []) [] rfl) (hP.sub (ws' := [(h0, .inr (5, [.ref rt, .int 0, .ref rb, .int 0, .ref ru, .int 0, .ref rr]))]) [0] rfl) rfl rfl rfl) rfl rfl hl.1 rfl (lv_room (Nat.le_of_ble_eq_true rfl)) dX6_count_2 ⟨(show 0 + 0 ≤ 0 by omega), (show 0 + 0 ≤ 0 by omega)⟩) (fun r1 hr1 => ?_)
  subst hr1
  refine W.eq (g2 := F0 m 5 ls [.null]) rfl ?_
  refine lv_astore_nN (lv' := [(3, .null), (0, .ref h0), (1, .int p0), (2, .int p1)]) hx hb dX6_count_5 rfl hl (by decide) rfl (fun ls hl => ?_)
  refine lv_aload_nN hx hb dX6_count_6 rfl (lv_at hl 0 rfl) ?_
  refine lv_ifnonnullN hx hb dX6_count_7 ?_
  refine lv_bipush (v := (-2)) hx hb dX6_count_10 (by decide) ?_
  exact W.iret (v := -2) hx hb hr (fun t ht hW => ⟨-2, rfl, rfl, ht⟩) (fun _ h => by cases h) dX6_count_12
theorem dX6_name_0 : decode cX6_name 0 = .ok (.aload_n 0, 1) := by decide +kernel
theorem dX6_name_1 : decode cX6_name 1 = .ok (.iload_n 1, 1) := by decide +kernel
theorem dX6_name_2 : decode cX6_name 2 = .ok (.invokevirtual 62, 3) := by decide +kernel
theorem dX6_name_5 : decode cX6_name 5 = .ok (.astore_n 3, 1) := by decide +kernel
theorem dX6_name_6 : decode cX6_name 6 = .ok (.aload_n 3, 1) := by decide +kernel
theorem dX6_name_7 : decode cX6_name 7 = .ok (.ifnonnull 6, 3) := by decide +kernel
theorem dX6_name_10 : decode cX6_name 10 = .ok (.bipush (-2), 2) := by decide +kernel
theorem dX6_name_12 : decode cX6_name 12 = .ok (.ireturn, 1) := by decide +kernel
def zwX6_name : List Cond := .code yX6_name cX6_name 4 (some .int) :: ([.methodLink RX6 62 yX6_buildAt, .instanceMethod yX6_buildAt, .selects RX6 yX6_buildAt yX6_buildAt, .initialized RX6, .code yX6_buildAt cX6_buildAt 2 (some (.object "LinkModels$Build")), .fieldLink RX6 23 "LinkModels" "buildCount" "I"] ++ wsX60)
theorem zgX6_name_X6_buildAt_62 : GoodIn zwX6_name (wsV RX6 62 RX6 yX6_buildAt zwX6_buildAt) := goodIn_of _ (by decide +kernel)
set_option maxHeartbeats 4000000 in
set_option maxRecDepth 100000 in
theorem zX6_name (l : Launch) (dC : Nat → ClassId) (dI : Nat → Nat → Nat) (h0 rt rb ru rr : Nat) (p0 : Int32) (p1 : Int32) : Met l yX6_name zwX6_name ({ frames := 1, cells := 0, slots := 0, locals := 21 }) (zPr dC dI [.ref h0, .int p0, .int p1] [(h0, .inr (5, [.ref rt, .int 0, .ref rb, .int 0, .ref ru, .int 0, .ref rr]))] []) (vp_Si (fun r => r = -2)) 0 0 (fun _ => False) := by
  refine Met.ofW (cc := cX6_name) (maxL := 4) (ret := (some .int)) (by decide) rfl ?_
  intro p e s m args below meth c s₁ B hml hv
  obtain ⟨rfl, hP, hK⟩ := hv
  have hx := B.exec
  have hb := B.bytes
  have hr := B.returns
  have hts := atoms_spec (ws := zwX6_name) B.pre
  have hown : s.vm.findClass RX6 = some m.cls := findClass_of_methodNamed B.named
  have hlocks := B.notSynchronized
  have hP : va_P (dC, dI) vwCl [(h0, .inr (5, [.ref rt, .int 0, .ref rb, .int 0, .ref ru, .int 0, .ref rr]))] s.heap := hP
  have hl := lv_entry ([.ref h0, .int p0, .int p1]) (n := 4) (Nat.le_of_ble_eq_true rfl)
  rw [lg_entry_eq]
  generalize (lg_sl ([.ref h0, .int p0, .int p1]) ++ List.replicate (4 - (lg_sl ([.ref h0, .int p0, .int p1])).length) Slot.unset).toArray = ls at hl ⊢
  have hl : lv_has ls 4 [(0, .ref h0), (1, .int p0), (2, .int p1)] := hl
  refine lv_aload_n hx hb dX6_name_0 rfl (lv_at hl 0 rfl) ?_
  refine lv_iload_n hx hb dX6_name_1 rfl (lv_at hl 1 rfl) ?_
  refine va_csq (W.runV (As := [.int p0]) (rest := []) ⟨hx, hb, hml, hown, hts⟩ (zX6_buildAt l dC dI h0 rt rb ru rr p0) (cwV 1 hts zgX6_name_X6_buildAt_62 rfl rfl rfl (by decide +kernel) ⟨(show 0 + 1 ≤ 1 by omega), (show 8 + (2 + 11) + 0 ≤ 21 by omega)⟩) (zVr (ci := 5) (q0 := 0) (q := (RX6, TX6, 7)) (hK.sub (tys' := []) [] rfl) (hP.sub (ws' := [(h0, .inr (5, [.ref rt, .int 0, .ref rb, .int 0, .ref ru, .int 0, .ref rr]))]) [0] rfl) rfl rfl rfl) rfl rfl hl.1 rfl (lv_room (Nat.le_of_ble_eq_true rfl)) dX6_name_2 ⟨(show 0 + 0 ≤ 0 by omega), (show 0 + 0 ≤ 0 by omega)⟩) (fun r1 hr1 => ?_)
  subst hr1
  refine W.eq (g2 := F0 m 5 ls [.null]) rfl ?_
  refine lv_astore_nN (lv' := [(3, .null), (0, .ref h0), (1, .int p0), (2, .int p1)]) hx hb dX6_name_5 rfl hl (by decide) rfl (fun ls hl => ?_)
  refine lv_aload_nN hx hb dX6_name_6 rfl (lv_at hl 0 rfl) ?_
  refine lv_ifnonnullN hx hb dX6_name_7 ?_
  refine lv_bipush (v := (-2)) hx hb dX6_name_10 (by decide) ?_
  exact W.iret (v := -2) hx hb hr (fun t ht hW => ⟨-2, rfl, rfl, ht⟩) (fun _ h => by cases h) dX6_name_12
theorem dX6_is_0 : decode cX6_is 0 = .ok (.aload_n 0, 1) := by decide +kernel
theorem dX6_is_1 : decode cX6_is 1 = .ok (.iload_n 1, 1) := by decide +kernel
theorem dX6_is_2 : decode cX6_is 2 = .ok (.invokevirtual 62, 3) := by decide +kernel
theorem dX6_is_5 : decode cX6_is 5 = .ok (.astore 4, 2) := by decide +kernel
theorem dX6_is_7 : decode cX6_is 7 = .ok (.aload 4, 2) := by decide +kernel
theorem dX6_is_9 : decode cX6_is 9 = .ok (.ifnonnull 6, 3) := by decide +kernel
theorem dX6_is_12 : decode cX6_is 12 = .ok (.bipush (-2), 2) := by decide +kernel
theorem dX6_is_14 : decode cX6_is 14 = .ok (.ireturn, 1) := by decide +kernel
def zwX6_is : List Cond := .code yX6_is cX6_is 7 (some .int) :: ([.methodLink RX6 62 yX6_buildAt, .instanceMethod yX6_buildAt, .selects RX6 yX6_buildAt yX6_buildAt, .initialized RX6, .code yX6_buildAt cX6_buildAt 2 (some (.object "LinkModels$Build")), .fieldLink RX6 23 "LinkModels" "buildCount" "I"] ++ wsX60)
theorem zgX6_is_X6_buildAt_62 : GoodIn zwX6_is (wsV RX6 62 RX6 yX6_buildAt zwX6_buildAt) := goodIn_of _ (by decide +kernel)
set_option maxHeartbeats 4000000 in
set_option maxRecDepth 100000 in
theorem zX6_is (l : Launch) (dC : Nat → ClassId) (dI : Nat → Nat → Nat) (h0 rt rb ru rr : Nat) (p0 : Int32) (p1 : Int32) (p2 : Int32) : Met l yX6_is zwX6_is ({ frames := 1, cells := 0, slots := 0, locals := 21 }) (zPr dC dI [.ref h0, .int p0, .int p1, .int p2] [(h0, .inr (5, [.ref rt, .int 0, .ref rb, .int 0, .ref ru, .int 0, .ref rr]))] []) (vp_Si (fun r => r = -2)) 0 0 (fun _ => False) := by
  refine Met.ofW (cc := cX6_is) (maxL := 7) (ret := (some .int)) (by decide) rfl ?_
  intro p e s m args below meth c s₁ B hml hv
  obtain ⟨rfl, hP, hK⟩ := hv
  have hx := B.exec
  have hb := B.bytes
  have hr := B.returns
  have hts := atoms_spec (ws := zwX6_is) B.pre
  have hown : s.vm.findClass RX6 = some m.cls := findClass_of_methodNamed B.named
  have hlocks := B.notSynchronized
  have hP : va_P (dC, dI) vwCl [(h0, .inr (5, [.ref rt, .int 0, .ref rb, .int 0, .ref ru, .int 0, .ref rr]))] s.heap := hP
  have hl := lv_entry ([.ref h0, .int p0, .int p1, .int p2]) (n := 7) (Nat.le_of_ble_eq_true rfl)
  rw [lg_entry_eq]
  generalize (lg_sl ([.ref h0, .int p0, .int p1, .int p2]) ++ List.replicate (7 - (lg_sl ([.ref h0, .int p0, .int p1, .int p2])).length) Slot.unset).toArray = ls at hl ⊢
  have hl : lv_has ls 7 [(0, .ref h0), (1, .int p0), (2, .int p1), (3, .int p2)] := hl
  refine lv_aload_n hx hb dX6_is_0 rfl (lv_at hl 0 rfl) ?_
  refine lv_iload_n hx hb dX6_is_1 rfl (lv_at hl 1 rfl) ?_
  refine va_csq (W.runV (As := [.int p0]) (rest := []) ⟨hx, hb, hml, hown, hts⟩ (zX6_buildAt l dC dI h0 rt rb ru rr p0) (cwV 1 hts zgX6_is_X6_buildAt_62 rfl rfl rfl (by decide +kernel) ⟨(show 0 + 1 ≤ 1 by omega), (show 8 + (2 + 11) + 0 ≤ 21 by omega)⟩) (zVr (ci := 5) (q0 := 0) (q := (RX6, TX6, 7)) (hK.sub (tys' := []) [] rfl) (hP.sub (ws' := [(h0, .inr (5, [.ref rt, .int 0, .ref rb, .int 0, .ref ru, .int 0, .ref rr]))]) [0] rfl) rfl rfl rfl) rfl rfl hl.1 rfl (lv_room (Nat.le_of_ble_eq_true rfl)) dX6_is_2 ⟨(show 0 + 0 ≤ 0 by omega), (show 0 + 0 ≤ 0 by omega)⟩) (fun r1 hr1 => ?_)
  subst hr1
  refine W.eq (g2 := F0 m 5 ls [.null]) rfl ?_
  refine lv_astoreN (lv' := [(4, .null), (0, .ref h0), (1, .int p0), (2, .int p1), (3, .int p2)]) hx hb dX6_is_5 hl (by decide) rfl (fun ls hl => ?_)
  refine lv_aloadN hx hb dX6_is_7 (lv_at hl 0 rfl) ?_
  refine lv_ifnonnullN hx hb dX6_is_9 ?_
  refine lv_bipush (v := (-2)) hx hb dX6_is_12 (by decide) ?_
  exact W.iret (v := -2) hx hb hr (fun t ht hW => ⟨-2, rfl, rfl, ht⟩) (fun _ h => by cases h) dX6_is_14
theorem dX6_linkedSpot_0 : decode cX6_linkedSpot 0 = .ok (.aload_n 0, 1) := by decide +kernel
theorem dX6_linkedSpot_1 : decode cX6_linkedSpot 1 = .ok (.iload_n 1, 1) := by decide +kernel
theorem dX6_linkedSpot_2 : decode cX6_linkedSpot 2 = .ok (.invokevirtual 62, 3) := by decide +kernel
theorem dX6_linkedSpot_5 : decode cX6_linkedSpot 5 = .ok (.astore_n 3, 1) := by decide +kernel
theorem dX6_linkedSpot_6 : decode cX6_linkedSpot 6 = .ok (.aload_n 0, 1) := by decide +kernel
theorem dX6_linkedSpot_7 : decode cX6_linkedSpot 7 = .ok (.iload_n 2, 1) := by decide +kernel
theorem dX6_linkedSpot_8 : decode cX6_linkedSpot 8 = .ok (.invokevirtual 123, 3) := by decide +kernel
theorem dX6_linkedSpot_11 : decode cX6_linkedSpot 11 = .ok (.astore 4, 2) := by decide +kernel
theorem dX6_linkedSpot_13 : decode cX6_linkedSpot 13 = .ok (.aload_n 3, 1) := by decide +kernel
theorem dX6_linkedSpot_14 : decode cX6_linkedSpot 14 = .ok (.ifnull 8, 3) := by decide +kernel
theorem dX6_linkedSpot_22 : decode cX6_linkedSpot 22 = .ok (.bipush (-2), 2) := by decide +kernel
theorem dX6_linkedSpot_24 : decode cX6_linkedSpot 24 = .ok (.ireturn, 1) := by decide +kernel
def zwX6_linkedSpot : List Cond := .code yX6_linkedSpot cX6_linkedSpot 5 (some .int) :: ([.methodLink RX6 62 yX6_buildAt, .instanceMethod yX6_buildAt, .selects RX6 yX6_buildAt yX6_buildAt, .initialized RX6, .code yX6_buildAt cX6_buildAt 2 (some (.object "LinkModels$Build")), .fieldLink RX6 23 "LinkModels" "buildCount" "I", .methodLink RX6 123 yX6_useAt, .instanceMethod yX6_useAt, .selects RX6 yX6_useAt yX6_useAt, .code yX6_useAt cX6_useAt 2 (some (.object "LinkModels$Use")), .fieldLink RX6 32 "LinkModels" "useCount" "I"] ++ wsX60)
theorem zgX6_linkedSpot_X6_buildAt_62 : GoodIn zwX6_linkedSpot (wsV RX6 62 RX6 yX6_buildAt zwX6_buildAt) := goodIn_of _ (by decide +kernel)
theorem zgX6_linkedSpot_X6_useAt_123 : GoodIn zwX6_linkedSpot (wsV RX6 123 RX6 yX6_useAt zwX6_useAt) := goodIn_of _ (by decide +kernel)
set_option maxHeartbeats 4000000 in
set_option maxRecDepth 100000 in
theorem zX6_linkedSpot (l : Launch) (dC : Nat → ClassId) (dI : Nat → Nat → Nat) (h0 rt rb ru rr : Nat) (p0 : Int32) (p1 : Int32) : Met l yX6_linkedSpot zwX6_linkedSpot ({ frames := 1, cells := 0, slots := 0, locals := 21 }) (zPr dC dI [.ref h0, .int p0, .int p1] [(h0, .inr (5, [.ref rt, .int 0, .ref rb, .int 0, .ref ru, .int 0, .ref rr]))] []) (vp_Si (fun r => r = -2)) 0 0 (fun _ => False) := by
  refine Met.ofW (cc := cX6_linkedSpot) (maxL := 5) (ret := (some .int)) (by decide) rfl ?_
  intro p e s m args below meth c s₁ B hml hv
  obtain ⟨rfl, hP, hK⟩ := hv
  have hx := B.exec
  have hb := B.bytes
  have hr := B.returns
  have hts := atoms_spec (ws := zwX6_linkedSpot) B.pre
  have hown : s.vm.findClass RX6 = some m.cls := findClass_of_methodNamed B.named
  have hlocks := B.notSynchronized
  have hP : va_P (dC, dI) vwCl [(h0, .inr (5, [.ref rt, .int 0, .ref rb, .int 0, .ref ru, .int 0, .ref rr]))] s.heap := hP
  have hl := lv_entry ([.ref h0, .int p0, .int p1]) (n := 5) (Nat.le_of_ble_eq_true rfl)
  rw [lg_entry_eq]
  generalize (lg_sl ([.ref h0, .int p0, .int p1]) ++ List.replicate (5 - (lg_sl ([.ref h0, .int p0, .int p1])).length) Slot.unset).toArray = ls at hl ⊢
  have hl : lv_has ls 5 [(0, .ref h0), (1, .int p0), (2, .int p1)] := hl
  refine lv_aload_n hx hb dX6_linkedSpot_0 rfl (lv_at hl 0 rfl) ?_
  refine lv_iload_n hx hb dX6_linkedSpot_1 rfl (lv_at hl 1 rfl) ?_
  refine va_csq (W.runV (As := [.int p0]) (rest := []) ⟨hx, hb, hml, hown, hts⟩ (zX6_buildAt l dC dI h0 rt rb ru rr p0) (cwV 1 hts zgX6_linkedSpot_X6_buildAt_62 rfl rfl rfl (by decide +kernel) ⟨(show 0 + 1 ≤ 1 by omega), (show 8 + (2 + 11) + 0 ≤ 21 by omega)⟩) (zVr (ci := 5) (q0 := 0) (q := (RX6, TX6, 7)) (hK.sub (tys' := []) [] rfl) (hP.sub (ws' := [(h0, .inr (5, [.ref rt, .int 0, .ref rb, .int 0, .ref ru, .int 0, .ref rr]))]) [0] rfl) rfl rfl rfl) rfl rfl hl.1 rfl (lv_room (Nat.le_of_ble_eq_true rfl)) dX6_linkedSpot_2 ⟨(show 0 + 0 ≤ 0 by omega), (show 0 + 0 ≤ 0 by omega)⟩) (fun r1 hr1 => ?_)
  subst hr1
  refine W.eq (g2 := F0 m 5 ls [.null]) rfl ?_
  refine lv_astore_nN (lv' := [(3, .null), (0, .ref h0), (1, .int p0), (2, .int p1)]) hx hb dX6_linkedSpot_5 rfl hl (by decide) rfl (fun ls hl => ?_)
  refine lv_aload_n hx hb dX6_linkedSpot_6 rfl (lv_at hl 1 rfl) ?_
  refine lv_iload_n hx hb dX6_linkedSpot_7 rfl (lv_at hl 3 rfl) ?_
  refine va_csq (W.runV (As := [.int p1]) (rest := []) ⟨hx, hb, hml, hown, hts⟩ (zX6_useAt l dC dI h0 rt rb ru rr p1) (cwV 1 hts zgX6_linkedSpot_X6_useAt_123 rfl rfl rfl (by decide +kernel) ⟨(show 0 + 1 ≤ 1 by omega), (show 8 + (2 + 11) + 0 ≤ 21 by omega)⟩) (zVr (ci := 5) (q0 := 0) (q := (RX6, TX6, 7)) (hK.sub (tys' := []) [] rfl) (hP.sub (ws' := [(h0, .inr (5, [.ref rt, .int 0, .ref rb, .int 0, .ref ru, .int 0, .ref rr]))]) [0] rfl) rfl rfl rfl) rfl rfl hl.1 rfl (lv_room (Nat.le_of_ble_eq_true rfl)) dX6_linkedSpot_8 ⟨(show 0 + 0 ≤ 0 by omega), (show 0 + 0 ≤ 0 by omega)⟩) (fun r2 hr2 => ?_)
  subst hr2
  refine W.eq (g2 := F0 m 11 ls [.null]) rfl ?_
  refine lv_astoreN (lv' := [(4, .null), (3, .null), (0, .ref h0), (1, .int p0), (2, .int p1)]) hx hb dX6_linkedSpot_11 hl (by decide) rfl (fun ls hl => ?_)
  refine lv_aload_nN hx hb dX6_linkedSpot_13 rfl (lv_at hl 1 rfl) ?_
  refine lv_ifnullN (tgt := 22) hx hb dX6_linkedSpot_14 (by decide) ?_
  refine lv_bipush (v := (-2)) hx hb dX6_linkedSpot_22 (by decide) ?_
  exact W.iret (v := -2) hx hb hr (fun t ht hW => ⟨-2, rfl, rfl, ht⟩) (fun _ h => by cases h) dX6_linkedSpot_24
theorem dX6_doneSpot_0 : decode cX6_doneSpot 0 = .ok (.aload_n 0, 1) := by decide +kernel
theorem dX6_doneSpot_1 : decode cX6_doneSpot 1 = .ok (.iload_n 1, 1) := by decide +kernel
theorem dX6_doneSpot_2 : decode cX6_doneSpot 2 = .ok (.invokevirtual 62, 3) := by decide +kernel
theorem dX6_doneSpot_5 : decode cX6_doneSpot 5 = .ok (.astore 4, 2) := by decide +kernel
theorem dX6_doneSpot_7 : decode cX6_doneSpot 7 = .ok (.aload_n 0, 1) := by decide +kernel
theorem dX6_doneSpot_8 : decode cX6_doneSpot 8 = .ok (.iload_n 2, 1) := by decide +kernel
theorem dX6_doneSpot_9 : decode cX6_doneSpot 9 = .ok (.invokevirtual 123, 3) := by decide +kernel
theorem dX6_doneSpot_12 : decode cX6_doneSpot 12 = .ok (.astore 5, 2) := by decide +kernel
theorem dX6_doneSpot_14 : decode cX6_doneSpot 14 = .ok (.aload 4, 2) := by decide +kernel
theorem dX6_doneSpot_16 : decode cX6_doneSpot 16 = .ok (.ifnull 8, 3) := by decide +kernel
theorem dX6_doneSpot_24 : decode cX6_doneSpot 24 = .ok (.bipush (-2), 2) := by decide +kernel
theorem dX6_doneSpot_26 : decode cX6_doneSpot 26 = .ok (.ireturn, 1) := by decide +kernel
def zwX6_doneSpot : List Cond := .code yX6_doneSpot cX6_doneSpot 7 (some .int) :: ([.methodLink RX6 62 yX6_buildAt, .instanceMethod yX6_buildAt, .selects RX6 yX6_buildAt yX6_buildAt, .initialized RX6, .code yX6_buildAt cX6_buildAt 2 (some (.object "LinkModels$Build")), .fieldLink RX6 23 "LinkModels" "buildCount" "I", .methodLink RX6 123 yX6_useAt, .instanceMethod yX6_useAt, .selects RX6 yX6_useAt yX6_useAt, .code yX6_useAt cX6_useAt 2 (some (.object "LinkModels$Use")), .fieldLink RX6 32 "LinkModels" "useCount" "I"] ++ wsX60)
theorem zgX6_doneSpot_X6_buildAt_62 : GoodIn zwX6_doneSpot (wsV RX6 62 RX6 yX6_buildAt zwX6_buildAt) := goodIn_of _ (by decide +kernel)
theorem zgX6_doneSpot_X6_useAt_123 : GoodIn zwX6_doneSpot (wsV RX6 123 RX6 yX6_useAt zwX6_useAt) := goodIn_of _ (by decide +kernel)
set_option maxHeartbeats 4000000 in
set_option maxRecDepth 100000 in
theorem zX6_doneSpot (l : Launch) (dC : Nat → ClassId) (dI : Nat → Nat → Nat) (h0 rt rb ru rr : Nat) (p0 : Int32) (p1 : Int32) (p2 : Int32) : Met l yX6_doneSpot zwX6_doneSpot ({ frames := 1, cells := 0, slots := 0, locals := 21 }) (zPr dC dI [.ref h0, .int p0, .int p1, .int p2] [(h0, .inr (5, [.ref rt, .int 0, .ref rb, .int 0, .ref ru, .int 0, .ref rr]))] []) (vp_Si (fun r => r = -2)) 0 0 (fun _ => False) := by
  refine Met.ofW (cc := cX6_doneSpot) (maxL := 7) (ret := (some .int)) (by decide) rfl ?_
  intro p e s m args below meth c s₁ B hml hv
  obtain ⟨rfl, hP, hK⟩ := hv
  have hx := B.exec
  have hb := B.bytes
  have hr := B.returns
  have hts := atoms_spec (ws := zwX6_doneSpot) B.pre
  have hown : s.vm.findClass RX6 = some m.cls := findClass_of_methodNamed B.named
  have hlocks := B.notSynchronized
  have hP : va_P (dC, dI) vwCl [(h0, .inr (5, [.ref rt, .int 0, .ref rb, .int 0, .ref ru, .int 0, .ref rr]))] s.heap := hP
  have hl := lv_entry ([.ref h0, .int p0, .int p1, .int p2]) (n := 7) (Nat.le_of_ble_eq_true rfl)
  rw [lg_entry_eq]
  generalize (lg_sl ([.ref h0, .int p0, .int p1, .int p2]) ++ List.replicate (7 - (lg_sl ([.ref h0, .int p0, .int p1, .int p2])).length) Slot.unset).toArray = ls at hl ⊢
  have hl : lv_has ls 7 [(0, .ref h0), (1, .int p0), (2, .int p1), (3, .int p2)] := hl
  refine lv_aload_n hx hb dX6_doneSpot_0 rfl (lv_at hl 0 rfl) ?_
  refine lv_iload_n hx hb dX6_doneSpot_1 rfl (lv_at hl 1 rfl) ?_
  refine va_csq (W.runV (As := [.int p0]) (rest := []) ⟨hx, hb, hml, hown, hts⟩ (zX6_buildAt l dC dI h0 rt rb ru rr p0) (cwV 1 hts zgX6_doneSpot_X6_buildAt_62 rfl rfl rfl (by decide +kernel) ⟨(show 0 + 1 ≤ 1 by omega), (show 8 + (2 + 11) + 0 ≤ 21 by omega)⟩) (zVr (ci := 5) (q0 := 0) (q := (RX6, TX6, 7)) (hK.sub (tys' := []) [] rfl) (hP.sub (ws' := [(h0, .inr (5, [.ref rt, .int 0, .ref rb, .int 0, .ref ru, .int 0, .ref rr]))]) [0] rfl) rfl rfl rfl) rfl rfl hl.1 rfl (lv_room (Nat.le_of_ble_eq_true rfl)) dX6_doneSpot_2 ⟨(show 0 + 0 ≤ 0 by omega), (show 0 + 0 ≤ 0 by omega)⟩) (fun r1 hr1 => ?_)
  subst hr1
  refine W.eq (g2 := F0 m 5 ls [.null]) rfl ?_
  refine lv_astoreN (lv' := [(4, .null), (0, .ref h0), (1, .int p0), (2, .int p1), (3, .int p2)]) hx hb dX6_doneSpot_5 hl (by decide) rfl (fun ls hl => ?_)
  refine lv_aload_n hx hb dX6_doneSpot_7 rfl (lv_at hl 1 rfl) ?_
  refine lv_iload_n hx hb dX6_doneSpot_8 rfl (lv_at hl 3 rfl) ?_
  refine va_csq (W.runV (As := [.int p1]) (rest := []) ⟨hx, hb, hml, hown, hts⟩ (zX6_useAt l dC dI h0 rt rb ru rr p1) (cwV 1 hts zgX6_doneSpot_X6_useAt_123 rfl rfl rfl (by decide +kernel) ⟨(show 0 + 1 ≤ 1 by omega), (show 8 + (2 + 11) + 0 ≤ 21 by omega)⟩) (zVr (ci := 5) (q0 := 0) (q := (RX6, TX6, 7)) (hK.sub (tys' := []) [] rfl) (hP.sub (ws' := [(h0, .inr (5, [.ref rt, .int 0, .ref rb, .int 0, .ref ru, .int 0, .ref rr]))]) [0] rfl) rfl rfl rfl) rfl rfl hl.1 rfl (lv_room (Nat.le_of_ble_eq_true rfl)) dX6_doneSpot_9 ⟨(show 0 + 0 ≤ 0 by omega), (show 0 + 0 ≤ 0 by omega)⟩) (fun r2 hr2 => ?_)
  subst hr2
  refine W.eq (g2 := F0 m 12 ls [.null]) rfl ?_
  refine lv_astoreN (lv' := [(5, .null), (4, .null), (0, .ref h0), (1, .int p0), (2, .int p1), (3, .int p2)]) hx hb dX6_doneSpot_12 hl (by decide) rfl (fun ls hl => ?_)
  refine lv_aloadN hx hb dX6_doneSpot_14 (lv_at hl 1 rfl) ?_
  refine lv_ifnullN (tgt := 24) hx hb dX6_doneSpot_16 (by decide) ?_
  refine lv_bipush (v := (-2)) hx hb dX6_doneSpot_24 (by decide) ?_
  exact W.iret (v := -2) hx hb hr (fun t ht hW => ⟨-2, rfl, rfl, ht⟩) (fun _ h => by cases h) dX6_doneSpot_26
theorem dX6_compile_0 : decode cX6_compile 0 = .ok (.aload_n 0, 1) := by decide +kernel
theorem dX6_compile_1 : decode cX6_compile 1 = .ok (.iload_n 1, 1) := by decide +kernel
theorem dX6_compile_2 : decode cX6_compile 2 = .ok (.invokevirtual 62, 3) := by decide +kernel
theorem dX6_compile_5 : decode cX6_compile 5 = .ok (.astore_n 3, 1) := by decide +kernel
theorem dX6_compile_6 : decode cX6_compile 6 = .ok (.aload_n 0, 1) := by decide +kernel
theorem dX6_compile_7 : decode cX6_compile 7 = .ok (.iload_n 2, 1) := by decide +kernel
theorem dX6_compile_8 : decode cX6_compile 8 = .ok (.invokevirtual 123, 3) := by decide +kernel
theorem dX6_compile_11 : decode cX6_compile 11 = .ok (.astore 4, 2) := by decide +kernel
theorem dX6_compile_13 : decode cX6_compile 13 = .ok (.aload_n 3, 1) := by decide +kernel
theorem dX6_compile_14 : decode cX6_compile 14 = .ok (.ifnull 8, 3) := by decide +kernel
theorem dX6_compile_22 : decode cX6_compile 22 = .ok (.bipush (-2), 2) := by decide +kernel
theorem dX6_compile_24 : decode cX6_compile 24 = .ok (.ireturn, 1) := by decide +kernel
def zwX6_compile : List Cond := .code yX6_compile cX6_compile 6 (some .int) :: ([.methodLink RX6 62 yX6_buildAt, .instanceMethod yX6_buildAt, .selects RX6 yX6_buildAt yX6_buildAt, .initialized RX6, .code yX6_buildAt cX6_buildAt 2 (some (.object "LinkModels$Build")), .fieldLink RX6 23 "LinkModels" "buildCount" "I", .methodLink RX6 123 yX6_useAt, .instanceMethod yX6_useAt, .selects RX6 yX6_useAt yX6_useAt, .code yX6_useAt cX6_useAt 2 (some (.object "LinkModels$Use")), .fieldLink RX6 32 "LinkModels" "useCount" "I"] ++ wsX60)
theorem zgX6_compile_X6_buildAt_62 : GoodIn zwX6_compile (wsV RX6 62 RX6 yX6_buildAt zwX6_buildAt) := goodIn_of _ (by decide +kernel)
theorem zgX6_compile_X6_useAt_123 : GoodIn zwX6_compile (wsV RX6 123 RX6 yX6_useAt zwX6_useAt) := goodIn_of _ (by decide +kernel)
set_option maxHeartbeats 4000000 in
set_option maxRecDepth 100000 in
theorem zX6_compile (l : Launch) (dC : Nat → ClassId) (dI : Nat → Nat → Nat) (h0 rt rb ru rr : Nat) (p0 : Int32) (p1 : Int32) : Met l yX6_compile zwX6_compile ({ frames := 1, cells := 0, slots := 0, locals := 21 }) (zPr dC dI [.ref h0, .int p0, .int p1] [(h0, .inr (5, [.ref rt, .int 0, .ref rb, .int 0, .ref ru, .int 0, .ref rr]))] []) (vp_Si (fun r => r = -2)) 0 0 (fun _ => False) := by
  refine Met.ofW (cc := cX6_compile) (maxL := 6) (ret := (some .int)) (by decide) rfl ?_
  intro p e s m args below meth c s₁ B hml hv
  obtain ⟨rfl, hP, hK⟩ := hv
  have hx := B.exec
  have hb := B.bytes
  have hr := B.returns
  have hts := atoms_spec (ws := zwX6_compile) B.pre
  have hown : s.vm.findClass RX6 = some m.cls := findClass_of_methodNamed B.named
  have hlocks := B.notSynchronized
  have hP : va_P (dC, dI) vwCl [(h0, .inr (5, [.ref rt, .int 0, .ref rb, .int 0, .ref ru, .int 0, .ref rr]))] s.heap := hP
  have hl := lv_entry ([.ref h0, .int p0, .int p1]) (n := 6) (Nat.le_of_ble_eq_true rfl)
  rw [lg_entry_eq]
  generalize (lg_sl ([.ref h0, .int p0, .int p1]) ++ List.replicate (6 - (lg_sl ([.ref h0, .int p0, .int p1])).length) Slot.unset).toArray = ls at hl ⊢
  have hl : lv_has ls 6 [(0, .ref h0), (1, .int p0), (2, .int p1)] := hl
  refine lv_aload_n hx hb dX6_compile_0 rfl (lv_at hl 0 rfl) ?_
  refine lv_iload_n hx hb dX6_compile_1 rfl (lv_at hl 1 rfl) ?_
  refine va_csq (W.runV (As := [.int p0]) (rest := []) ⟨hx, hb, hml, hown, hts⟩ (zX6_buildAt l dC dI h0 rt rb ru rr p0) (cwV 1 hts zgX6_compile_X6_buildAt_62 rfl rfl rfl (by decide +kernel) ⟨(show 0 + 1 ≤ 1 by omega), (show 8 + (2 + 11) + 0 ≤ 21 by omega)⟩) (zVr (ci := 5) (q0 := 0) (q := (RX6, TX6, 7)) (hK.sub (tys' := []) [] rfl) (hP.sub (ws' := [(h0, .inr (5, [.ref rt, .int 0, .ref rb, .int 0, .ref ru, .int 0, .ref rr]))]) [0] rfl) rfl rfl rfl) rfl rfl hl.1 rfl (lv_room (Nat.le_of_ble_eq_true rfl)) dX6_compile_2 ⟨(show 0 + 0 ≤ 0 by omega), (show 0 + 0 ≤ 0 by omega)⟩) (fun r1 hr1 => ?_)
  subst hr1
  refine W.eq (g2 := F0 m 5 ls [.null]) rfl ?_
  refine lv_astore_nN (lv' := [(3, .null), (0, .ref h0), (1, .int p0), (2, .int p1)]) hx hb dX6_compile_5 rfl hl (by decide) rfl (fun ls hl => ?_)
  refine lv_aload_n hx hb dX6_compile_6 rfl (lv_at hl 1 rfl) ?_
  refine lv_iload_n hx hb dX6_compile_7 rfl (lv_at hl 3 rfl) ?_
  refine va_csq (W.runV (As := [.int p1]) (rest := []) ⟨hx, hb, hml, hown, hts⟩ (zX6_useAt l dC dI h0 rt rb ru rr p1) (cwV 1 hts zgX6_compile_X6_useAt_123 rfl rfl rfl (by decide +kernel) ⟨(show 0 + 1 ≤ 1 by omega), (show 8 + (2 + 11) + 0 ≤ 21 by omega)⟩) (zVr (ci := 5) (q0 := 0) (q := (RX6, TX6, 7)) (hK.sub (tys' := []) [] rfl) (hP.sub (ws' := [(h0, .inr (5, [.ref rt, .int 0, .ref rb, .int 0, .ref ru, .int 0, .ref rr]))]) [0] rfl) rfl rfl rfl) rfl rfl hl.1 rfl (lv_room (Nat.le_of_ble_eq_true rfl)) dX6_compile_8 ⟨(show 0 + 0 ≤ 0 by omega), (show 0 + 0 ≤ 0 by omega)⟩) (fun r2 hr2 => ?_)
  subst hr2
  refine W.eq (g2 := F0 m 11 ls [.null]) rfl ?_
  refine lv_astoreN (lv' := [(4, .null), (3, .null), (0, .ref h0), (1, .int p0), (2, .int p1)]) hx hb dX6_compile_11 hl (by decide) rfl (fun ls hl => ?_)
  refine lv_aload_nN hx hb dX6_compile_13 rfl (lv_at hl 1 rfl) ?_
  refine lv_ifnullN (tgt := 22) hx hb dX6_compile_14 (by decide) ?_
  refine lv_bipush (v := (-2)) hx hb dX6_compile_22 (by decide) ?_
  exact W.iret (v := -2) hx hb hr (fun t ht hW => ⟨-2, rfl, rfl, ht⟩) (fun _ h => by cases h) dX6_compile_24
theorem dX6_stale_0 : decode cX6_stale 0 = .ok (.aload_n 0, 1) := by decide +kernel
theorem dX6_stale_1 : decode cX6_stale 1 = .ok (.iload_n 1, 1) := by decide +kernel
theorem dX6_stale_2 : decode cX6_stale 2 = .ok (.invokevirtual 62, 3) := by decide +kernel
theorem dX6_stale_5 : decode cX6_stale 5 = .ok (.astore_n 3, 1) := by decide +kernel
theorem dX6_stale_6 : decode cX6_stale 6 = .ok (.aload_n 0, 1) := by decide +kernel
theorem dX6_stale_7 : decode cX6_stale 7 = .ok (.iload_n 2, 1) := by decide +kernel
theorem dX6_stale_8 : decode cX6_stale 8 = .ok (.invokevirtual 123, 3) := by decide +kernel
theorem dX6_stale_11 : decode cX6_stale 11 = .ok (.astore 4, 2) := by decide +kernel
theorem dX6_stale_13 : decode cX6_stale 13 = .ok (.aload_n 3, 1) := by decide +kernel
theorem dX6_stale_14 : decode cX6_stale 14 = .ok (.ifnull 8, 3) := by decide +kernel
theorem dX6_stale_22 : decode cX6_stale 22 = .ok (.bipush (-2), 2) := by decide +kernel
theorem dX6_stale_24 : decode cX6_stale 24 = .ok (.ireturn, 1) := by decide +kernel
def zwX6_stale : List Cond := .code yX6_stale cX6_stale 6 (some .int) :: ([.methodLink RX6 62 yX6_buildAt, .instanceMethod yX6_buildAt, .selects RX6 yX6_buildAt yX6_buildAt, .initialized RX6, .code yX6_buildAt cX6_buildAt 2 (some (.object "LinkModels$Build")), .fieldLink RX6 23 "LinkModels" "buildCount" "I", .methodLink RX6 123 yX6_useAt, .instanceMethod yX6_useAt, .selects RX6 yX6_useAt yX6_useAt, .code yX6_useAt cX6_useAt 2 (some (.object "LinkModels$Use")), .fieldLink RX6 32 "LinkModels" "useCount" "I"] ++ wsX60)
theorem zgX6_stale_X6_buildAt_62 : GoodIn zwX6_stale (wsV RX6 62 RX6 yX6_buildAt zwX6_buildAt) := goodIn_of _ (by decide +kernel)
theorem zgX6_stale_X6_useAt_123 : GoodIn zwX6_stale (wsV RX6 123 RX6 yX6_useAt zwX6_useAt) := goodIn_of _ (by decide +kernel)
set_option maxHeartbeats 4000000 in
set_option maxRecDepth 100000 in
theorem zX6_stale (l : Launch) (dC : Nat → ClassId) (dI : Nat → Nat → Nat) (h0 rt rb ru rr : Nat) (p0 : Int32) (p1 : Int32) : Met l yX6_stale zwX6_stale ({ frames := 1, cells := 0, slots := 0, locals := 21 }) (zPr dC dI [.ref h0, .int p0, .int p1] [(h0, .inr (5, [.ref rt, .int 0, .ref rb, .int 0, .ref ru, .int 0, .ref rr]))] []) (vp_Si (fun r => r = -2)) 0 0 (fun _ => False) := by
  refine Met.ofW (cc := cX6_stale) (maxL := 6) (ret := (some .int)) (by decide) rfl ?_
  intro p e s m args below meth c s₁ B hml hv
  obtain ⟨rfl, hP, hK⟩ := hv
  have hx := B.exec
  have hb := B.bytes
  have hr := B.returns
  have hts := atoms_spec (ws := zwX6_stale) B.pre
  have hown : s.vm.findClass RX6 = some m.cls := findClass_of_methodNamed B.named
  have hlocks := B.notSynchronized
  have hP : va_P (dC, dI) vwCl [(h0, .inr (5, [.ref rt, .int 0, .ref rb, .int 0, .ref ru, .int 0, .ref rr]))] s.heap := hP
  have hl := lv_entry ([.ref h0, .int p0, .int p1]) (n := 6) (Nat.le_of_ble_eq_true rfl)
  rw [lg_entry_eq]
  generalize (lg_sl ([.ref h0, .int p0, .int p1]) ++ List.replicate (6 - (lg_sl ([.ref h0, .int p0, .int p1])).length) Slot.unset).toArray = ls at hl ⊢
  have hl : lv_has ls 6 [(0, .ref h0), (1, .int p0), (2, .int p1)] := hl
  refine lv_aload_n hx hb dX6_stale_0 rfl (lv_at hl 0 rfl) ?_
  refine lv_iload_n hx hb dX6_stale_1 rfl (lv_at hl 1 rfl) ?_
  refine va_csq (W.runV (As := [.int p0]) (rest := []) ⟨hx, hb, hml, hown, hts⟩ (zX6_buildAt l dC dI h0 rt rb ru rr p0) (cwV 1 hts zgX6_stale_X6_buildAt_62 rfl rfl rfl (by decide +kernel) ⟨(show 0 + 1 ≤ 1 by omega), (show 8 + (2 + 11) + 0 ≤ 21 by omega)⟩) (zVr (ci := 5) (q0 := 0) (q := (RX6, TX6, 7)) (hK.sub (tys' := []) [] rfl) (hP.sub (ws' := [(h0, .inr (5, [.ref rt, .int 0, .ref rb, .int 0, .ref ru, .int 0, .ref rr]))]) [0] rfl) rfl rfl rfl) rfl rfl hl.1 rfl (lv_room (Nat.le_of_ble_eq_true rfl)) dX6_stale_2 ⟨(show 0 + 0 ≤ 0 by omega), (show 0 + 0 ≤ 0 by omega)⟩) (fun r1 hr1 => ?_)
  subst hr1
  refine W.eq (g2 := F0 m 5 ls [.null]) rfl ?_
  refine lv_astore_nN (lv' := [(3, .null), (0, .ref h0), (1, .int p0), (2, .int p1)]) hx hb dX6_stale_5 rfl hl (by decide) rfl (fun ls hl => ?_)
  refine lv_aload_n hx hb dX6_stale_6 rfl (lv_at hl 1 rfl) ?_
  refine lv_iload_n hx hb dX6_stale_7 rfl (lv_at hl 3 rfl) ?_
  refine va_csq (W.runV (As := [.int p1]) (rest := []) ⟨hx, hb, hml, hown, hts⟩ (zX6_useAt l dC dI h0 rt rb ru rr p1) (cwV 1 hts zgX6_stale_X6_useAt_123 rfl rfl rfl (by decide +kernel) ⟨(show 0 + 1 ≤ 1 by omega), (show 8 + (2 + 11) + 0 ≤ 21 by omega)⟩) (zVr (ci := 5) (q0 := 0) (q := (RX6, TX6, 7)) (hK.sub (tys' := []) [] rfl) (hP.sub (ws' := [(h0, .inr (5, [.ref rt, .int 0, .ref rb, .int 0, .ref ru, .int 0, .ref rr]))]) [0] rfl) rfl rfl rfl) rfl rfl hl.1 rfl (lv_room (Nat.le_of_ble_eq_true rfl)) dX6_stale_8 ⟨(show 0 + 0 ≤ 0 by omega), (show 0 + 0 ≤ 0 by omega)⟩) (fun r2 hr2 => ?_)
  subst hr2
  refine W.eq (g2 := F0 m 11 ls [.null]) rfl ?_
  refine lv_astoreN (lv' := [(4, .null), (3, .null), (0, .ref h0), (1, .int p0), (2, .int p1)]) hx hb dX6_stale_11 hl (by decide) rfl (fun ls hl => ?_)
  refine lv_aload_nN hx hb dX6_stale_13 rfl (lv_at hl 1 rfl) ?_
  refine lv_ifnullN (tgt := 22) hx hb dX6_stale_14 (by decide) ?_
  refine lv_bipush (v := (-2)) hx hb dX6_stale_22 (by decide) ?_
  exact W.iret (v := -2) hx hb hr (fun t ht hW => ⟨-2, rfl, rfl, ht⟩) (fun _ h => by cases h) dX6_stale_24
theorem dX6_changed_0 : decode cX6_changed 0 = .ok (.aload_n 0, 1) := by decide +kernel
theorem dX6_changed_1 : decode cX6_changed 1 = .ok (.iload_n 1, 1) := by decide +kernel
theorem dX6_changed_2 : decode cX6_changed 2 = .ok (.invokevirtual 62, 3) := by decide +kernel
theorem dX6_changed_5 : decode cX6_changed 5 = .ok (.astore 4, 2) := by decide +kernel
theorem dX6_changed_7 : decode cX6_changed 7 = .ok (.aload_n 0, 1) := by decide +kernel
theorem dX6_changed_8 : decode cX6_changed 8 = .ok (.iload_n 2, 1) := by decide +kernel
theorem dX6_changed_9 : decode cX6_changed 9 = .ok (.invokevirtual 62, 3) := by decide +kernel
theorem dX6_changed_12 : decode cX6_changed 12 = .ok (.astore 5, 2) := by decide +kernel
theorem dX6_changed_14 : decode cX6_changed 14 = .ok (.aload 4, 2) := by decide +kernel
theorem dX6_changed_16 : decode cX6_changed 16 = .ok (.ifnull 8, 3) := by decide +kernel
theorem dX6_changed_24 : decode cX6_changed 24 = .ok (.bipush (-2), 2) := by decide +kernel
theorem dX6_changed_26 : decode cX6_changed 26 = .ok (.ireturn, 1) := by decide +kernel
def zwX6_changed : List Cond := .code yX6_changed cX6_changed 8 (some .int) :: ([.methodLink RX6 62 yX6_buildAt, .instanceMethod yX6_buildAt, .selects RX6 yX6_buildAt yX6_buildAt, .initialized RX6, .code yX6_buildAt cX6_buildAt 2 (some (.object "LinkModels$Build")), .fieldLink RX6 23 "LinkModels" "buildCount" "I"] ++ wsX60)
theorem zgX6_changed_X6_buildAt_62 : GoodIn zwX6_changed (wsV RX6 62 RX6 yX6_buildAt zwX6_buildAt) := goodIn_of _ (by decide +kernel)
set_option maxHeartbeats 4000000 in
set_option maxRecDepth 100000 in
theorem zX6_changed (l : Launch) (dC : Nat → ClassId) (dI : Nat → Nat → Nat) (h0 rt rb ru rr : Nat) (p0 : Int32) (p1 : Int32) (p2 : Int32) : Met l yX6_changed zwX6_changed ({ frames := 1, cells := 0, slots := 0, locals := 21 }) (zPr dC dI [.ref h0, .int p0, .int p1, .int p2] [(h0, .inr (5, [.ref rt, .int 0, .ref rb, .int 0, .ref ru, .int 0, .ref rr]))] []) (vp_Si (fun r => r = -2)) 0 0 (fun _ => False) := by
  refine Met.ofW (cc := cX6_changed) (maxL := 8) (ret := (some .int)) (by decide) rfl ?_
  intro p e s m args below meth c s₁ B hml hv
  obtain ⟨rfl, hP, hK⟩ := hv
  have hx := B.exec
  have hb := B.bytes
  have hr := B.returns
  have hts := atoms_spec (ws := zwX6_changed) B.pre
  have hown : s.vm.findClass RX6 = some m.cls := findClass_of_methodNamed B.named
  have hlocks := B.notSynchronized
  have hP : va_P (dC, dI) vwCl [(h0, .inr (5, [.ref rt, .int 0, .ref rb, .int 0, .ref ru, .int 0, .ref rr]))] s.heap := hP
  have hl := lv_entry ([.ref h0, .int p0, .int p1, .int p2]) (n := 8) (Nat.le_of_ble_eq_true rfl)
  rw [lg_entry_eq]
  generalize (lg_sl ([.ref h0, .int p0, .int p1, .int p2]) ++ List.replicate (8 - (lg_sl ([.ref h0, .int p0, .int p1, .int p2])).length) Slot.unset).toArray = ls at hl ⊢
  have hl : lv_has ls 8 [(0, .ref h0), (1, .int p0), (2, .int p1), (3, .int p2)] := hl
  refine lv_aload_n hx hb dX6_changed_0 rfl (lv_at hl 0 rfl) ?_
  refine lv_iload_n hx hb dX6_changed_1 rfl (lv_at hl 1 rfl) ?_
  refine va_csq (W.runV (As := [.int p0]) (rest := []) ⟨hx, hb, hml, hown, hts⟩ (zX6_buildAt l dC dI h0 rt rb ru rr p0) (cwV 1 hts zgX6_changed_X6_buildAt_62 rfl rfl rfl (by decide +kernel) ⟨(show 0 + 1 ≤ 1 by omega), (show 8 + (2 + 11) + 0 ≤ 21 by omega)⟩) (zVr (ci := 5) (q0 := 0) (q := (RX6, TX6, 7)) (hK.sub (tys' := []) [] rfl) (hP.sub (ws' := [(h0, .inr (5, [.ref rt, .int 0, .ref rb, .int 0, .ref ru, .int 0, .ref rr]))]) [0] rfl) rfl rfl rfl) rfl rfl hl.1 rfl (lv_room (Nat.le_of_ble_eq_true rfl)) dX6_changed_2 ⟨(show 0 + 0 ≤ 0 by omega), (show 0 + 0 ≤ 0 by omega)⟩) (fun r1 hr1 => ?_)
  subst hr1
  refine W.eq (g2 := F0 m 5 ls [.null]) rfl ?_
  refine lv_astoreN (lv' := [(4, .null), (0, .ref h0), (1, .int p0), (2, .int p1), (3, .int p2)]) hx hb dX6_changed_5 hl (by decide) rfl (fun ls hl => ?_)
  refine lv_aload_n hx hb dX6_changed_7 rfl (lv_at hl 1 rfl) ?_
  refine lv_iload_n hx hb dX6_changed_8 rfl (lv_at hl 3 rfl) ?_
  refine va_csq (W.runV (As := [.int p1]) (rest := []) ⟨hx, hb, hml, hown, hts⟩ (zX6_buildAt l dC dI h0 rt rb ru rr p1) (cwV 1 hts zgX6_changed_X6_buildAt_62 rfl rfl rfl (by decide +kernel) ⟨(show 0 + 1 ≤ 1 by omega), (show 8 + (2 + 11) + 0 ≤ 21 by omega)⟩) (zVr (ci := 5) (q0 := 0) (q := (RX6, TX6, 7)) (hK.sub (tys' := []) [] rfl) (hP.sub (ws' := [(h0, .inr (5, [.ref rt, .int 0, .ref rb, .int 0, .ref ru, .int 0, .ref rr]))]) [0] rfl) rfl rfl rfl) rfl rfl hl.1 rfl (lv_room (Nat.le_of_ble_eq_true rfl)) dX6_changed_9 ⟨(show 0 + 0 ≤ 0 by omega), (show 0 + 0 ≤ 0 by omega)⟩) (fun r2 hr2 => ?_)
  subst hr2
  refine W.eq (g2 := F0 m 12 ls [.null]) rfl ?_
  refine lv_astoreN (lv' := [(5, .null), (4, .null), (0, .ref h0), (1, .int p0), (2, .int p1), (3, .int p2)]) hx hb dX6_changed_12 hl (by decide) rfl (fun ls hl => ?_)
  refine lv_aloadN hx hb dX6_changed_14 (lv_at hl 1 rfl) ?_
  refine lv_ifnullN (tgt := 24) hx hb dX6_changed_16 (by decide) ?_
  refine lv_bipush (v := (-2)) hx hb dX6_changed_24 (by decide) ?_
  exact W.iret (v := -2) hx hb hr (fun t ht hW => ⟨-2, rfl, rfl, ht⟩) (fun _ h => by cases h) dX6_changed_26
theorem dX6_copied_0 : decode cX6_copied 0 = .ok (.aload_n 0, 1) := by decide +kernel
theorem dX6_copied_1 : decode cX6_copied 1 = .ok (.iload_n 1, 1) := by decide +kernel
theorem dX6_copied_2 : decode cX6_copied 2 = .ok (.invokevirtual 123, 3) := by decide +kernel
theorem dX6_copied_5 : decode cX6_copied 5 = .ok (.astore_n 2, 1) := by decide +kernel
theorem dX6_copied_6 : decode cX6_copied 6 = .ok (.aload_n 2, 1) := by decide +kernel
theorem dX6_copied_7 : decode cX6_copied 7 = .ok (.ifnonnull 8, 3) := by decide +kernel
theorem dX6_copied_10 : decode cX6_copied 10 = .ok (.bipush (-2), 2) := by decide +kernel
theorem dX6_copied_12 : decode cX6_copied 12 = .ok (.goto 7, 3) := by decide +kernel
theorem dX6_copied_19 : decode cX6_copied 19 = .ok (.ireturn, 1) := by decide +kernel
def zwX6_copied : List Cond := .code yX6_copied cX6_copied 3 (some .int) :: ([.methodLink RX6 123 yX6_useAt, .instanceMethod yX6_useAt, .selects RX6 yX6_useAt yX6_useAt, .initialized RX6, .code yX6_useAt cX6_useAt 2 (some (.object "LinkModels$Use")), .fieldLink RX6 32 "LinkModels" "useCount" "I"] ++ wsX60)
theorem zgX6_copied_X6_useAt_123 : GoodIn zwX6_copied (wsV RX6 123 RX6 yX6_useAt zwX6_useAt) := goodIn_of _ (by decide +kernel)
set_option maxHeartbeats 4000000 in
set_option maxRecDepth 100000 in
theorem zX6_copied (l : Launch) (dC : Nat → ClassId) (dI : Nat → Nat → Nat) (h0 rt rb ru rr : Nat) (p0 : Int32) : Met l yX6_copied zwX6_copied ({ frames := 1, cells := 0, slots := 0, locals := 21 }) (zPr dC dI [.ref h0, .int p0] [(h0, .inr (5, [.ref rt, .int 0, .ref rb, .int 0, .ref ru, .int 0, .ref rr]))] []) (vp_Si (fun r => r = -2)) 0 0 (fun _ => False) := by
  refine Met.ofW (cc := cX6_copied) (maxL := 3) (ret := (some .int)) (by decide) rfl ?_
  intro p e s m args below meth c s₁ B hml hv
  obtain ⟨rfl, hP, hK⟩ := hv
  have hx := B.exec
  have hb := B.bytes
  have hr := B.returns
  have hts := atoms_spec (ws := zwX6_copied) B.pre
  have hown : s.vm.findClass RX6 = some m.cls := findClass_of_methodNamed B.named
  have hlocks := B.notSynchronized
  have hP : va_P (dC, dI) vwCl [(h0, .inr (5, [.ref rt, .int 0, .ref rb, .int 0, .ref ru, .int 0, .ref rr]))] s.heap := hP
  have hl := lv_entry ([.ref h0, .int p0]) (n := 3) (Nat.le_of_ble_eq_true rfl)
  rw [lg_entry_eq]
  generalize (lg_sl ([.ref h0, .int p0]) ++ List.replicate (3 - (lg_sl ([.ref h0, .int p0])).length) Slot.unset).toArray = ls at hl ⊢
  have hl : lv_has ls 3 [(0, .ref h0), (1, .int p0)] := hl
  refine lv_aload_n hx hb dX6_copied_0 rfl (lv_at hl 0 rfl) ?_
  refine lv_iload_n hx hb dX6_copied_1 rfl (lv_at hl 1 rfl) ?_
  refine va_csq (W.runV (As := [.int p0]) (rest := []) ⟨hx, hb, hml, hown, hts⟩ (zX6_useAt l dC dI h0 rt rb ru rr p0) (cwV 1 hts zgX6_copied_X6_useAt_123 rfl rfl rfl (by decide +kernel) ⟨(show 0 + 1 ≤ 1 by omega), (show 8 + (2 + 11) + 0 ≤ 21 by omega)⟩) (zVr (ci := 5) (q0 := 0) (q := (RX6, TX6, 7)) (hK.sub (tys' := []) [] rfl) (hP.sub (ws' := [(h0, .inr (5, [.ref rt, .int 0, .ref rb, .int 0, .ref ru, .int 0, .ref rr]))]) [0] rfl) rfl rfl rfl) rfl rfl hl.1 rfl (lv_room (Nat.le_of_ble_eq_true rfl)) dX6_copied_2 ⟨(show 0 + 0 ≤ 0 by omega), (show 0 + 0 ≤ 0 by omega)⟩) (fun r1 hr1 => ?_)
  subst hr1
  refine W.eq (g2 := F0 m 5 ls [.null]) rfl ?_
  refine lv_astore_nN (lv' := [(2, .null), (0, .ref h0), (1, .int p0)]) hx hb dX6_copied_5 rfl hl (by decide) rfl (fun ls hl => ?_)
  refine lv_aload_nN hx hb dX6_copied_6 rfl (lv_at hl 0 rfl) ?_
  refine lv_ifnonnullN hx hb dX6_copied_7 ?_
  refine lv_bipush (v := (-2)) hx hb dX6_copied_10 (by decide) ?_
  refine lv_goto (tgt := 19) hx hb dX6_copied_12 (by decide) ?_
  exact W.iret (v := -2) hx hb hr (fun t ht hW => ⟨-2, rfl, rfl, ht⟩) (fun _ h => by cases h) dX6_copied_19
theorem dX6_classOf_0 : decode cX6_classOf 0 = .ok (.iload_n 0, 1) := by decide +kernel
theorem dX6_classOf_1 : decode cX6_classOf 1 = .ok (.ifCond .ge 7, 3) := by decide +kernel
theorem dX6_classOf_4 : decode cX6_classOf 4 = .ok (.iload_n 0, 1) := by decide +kernel
theorem dX6_classOf_5 : decode cX6_classOf 5 = .ok (.goto 7, 3) := by decide +kernel
theorem dX6_classOf_12 : decode cX6_classOf 12 = .ok (.ireturn, 1) := by decide +kernel
def zwX6_classOf : List Cond := .code yX6_classOf cX6_classOf 1 (some .int) :: ([])
set_option maxHeartbeats 4000000 in
set_option maxRecDepth 100000 in
theorem zX6_classOf (l : Launch) (dC : Nat → ClassId) (dI : Nat → Nat → Nat) (p0 : Int32) (hneg : ¬ 0 ≤ p0) : Met l yX6_classOf zwX6_classOf ({ frames := 0, cells := 0, slots := 0, locals := 0 }) (zPr dC dI [.int p0] [] []) (vp_Si (fun r => r = p0)) 0 0 (fun _ => False) := by
  refine Met.ofW (cc := cX6_classOf) (maxL := 1) (ret := (some .int)) (by decide) rfl ?_
  intro p e s m args below meth c s₁ B hml hv
  obtain ⟨rfl, hP, hK⟩ := hv
  have hx := B.exec
  have hb := B.bytes
  have hr := B.returns
  have hts := atoms_spec (ws := zwX6_classOf) B.pre
  have hown : s.vm.findClass RX6 = some m.cls := findClass_of_methodNamed B.named
  have hlocks := B.notSynchronized
  have hl := lv_entry ([.int p0]) (n := 1) (Nat.le_of_ble_eq_true rfl)
  rw [lg_entry_eq]
  generalize (lg_sl ([.int p0]) ++ List.replicate (1 - (lg_sl ([.int p0])).length) Slot.unset).toArray = ls at hl ⊢
  have hl : lv_has ls 1 [(0, .int p0)] := hl
  refine lv_iload_n hx hb dX6_classOf_0 rfl (lv_at hl 0 rfl) ?_
  have hn0 : ¬ 0 ≤ p0 := hneg
  refine lv_if_ge (tgt := 8) hx hb dX6_classOf_1 (by decide) (fun c9 => absurd c9 (hneg)) (fun _ => ?_)
  refine lv_iload_n hx hb dX6_classOf_4 rfl (lv_at hl 0 rfl) ?_
  refine lv_goto (tgt := 12) hx hb dX6_classOf_5 (by decide) ?_
  exact W.iret (v := p0) hx hb hr (fun t ht hW => ⟨p0, rfl, rfl, ht⟩) (fun _ h => by cases h) dX6_classOf_12
theorem dX6_placeIn_0 : decode cX6_placeIn 0 = .ok (.iload_n 0, 1) := by decide +kernel
theorem dX6_placeIn_1 : decode cX6_placeIn 1 = .ok (.ifCond .ge 7, 3) := by decide +kernel
theorem dX6_placeIn_4 : decode cX6_placeIn 4 = .ok (.iload_n 0, 1) := by decide +kernel
theorem dX6_placeIn_5 : decode cX6_placeIn 5 = .ok (.goto 9, 3) := by decide +kernel
theorem dX6_placeIn_14 : decode cX6_placeIn 14 = .ok (.ireturn, 1) := by decide +kernel
def zwX6_placeIn : List Cond := .code yX6_placeIn cX6_placeIn 1 (some .int) :: ([])
set_option maxHeartbeats 4000000 in
set_option maxRecDepth 100000 in
theorem zX6_placeIn (l : Launch) (dC : Nat → ClassId) (dI : Nat → Nat → Nat) (p0 : Int32) (hneg : ¬ 0 ≤ p0) : Met l yX6_placeIn zwX6_placeIn ({ frames := 0, cells := 0, slots := 0, locals := 0 }) (zPr dC dI [.int p0] [] []) (vp_Si (fun r => r = p0)) 0 0 (fun _ => False) := by
  refine Met.ofW (cc := cX6_placeIn) (maxL := 1) (ret := (some .int)) (by decide) rfl ?_
  intro p e s m args below meth c s₁ B hml hv
  obtain ⟨rfl, hP, hK⟩ := hv
  have hx := B.exec
  have hb := B.bytes
  have hr := B.returns
  have hts := atoms_spec (ws := zwX6_placeIn) B.pre
  have hown : s.vm.findClass RX6 = some m.cls := findClass_of_methodNamed B.named
  have hlocks := B.notSynchronized
  have hl := lv_entry ([.int p0]) (n := 1) (Nat.le_of_ble_eq_true rfl)
  rw [lg_entry_eq]
  generalize (lg_sl ([.int p0]) ++ List.replicate (1 - (lg_sl ([.int p0])).length) Slot.unset).toArray = ls at hl ⊢
  have hl : lv_has ls 1 [(0, .int p0)] := hl
  refine lv_iload_n hx hb dX6_placeIn_0 rfl (lv_at hl 0 rfl) ?_
  have hn0 : ¬ 0 ≤ p0 := hneg
  refine lv_if_ge (tgt := 8) hx hb dX6_placeIn_1 (by decide) (fun c9 => absurd c9 (hneg)) (fun _ => ?_)
  refine lv_iload_n hx hb dX6_placeIn_4 rfl (lv_at hl 0 rfl) ?_
  refine lv_goto (tgt := 14) hx hb dX6_placeIn_5 (by decide) ?_
  exact W.iret (v := p0) hx hb hr (fun t ht hW => ⟨p0, rfl, rfl, ht⟩) (fun _ h => by cases h) dX6_placeIn_14
theorem dX6_link_0 : decode cX6_link 0 = .ok (.aload_n 0, 1) := by decide +kernel
theorem dX6_link_1 : decode cX6_link 1 = .ok (.iload_n 1, 1) := by decide +kernel
theorem dX6_link_2 : decode cX6_link 2 = .ok (.iload_n 2, 1) := by decide +kernel
theorem dX6_link_3 : decode cX6_link 3 = .ok (.invokevirtual 110, 3) := by decide +kernel
theorem dX6_link_6 : decode cX6_link 6 = .ok (.invokestatic 113, 3) := by decide +kernel
theorem dX6_link_9 : decode cX6_link 9 = .ok (.ireturn, 1) := by decide +kernel
def zwX6_link : List Cond := .code yX6_link cX6_link 3 (some .int) :: ([.methodLink RX6 110 yX6_linkedSpot, .instanceMethod yX6_linkedSpot, .selects RX6 yX6_linkedSpot yX6_linkedSpot, .initialized RX6, .code yX6_linkedSpot cX6_linkedSpot 5 (some .int), .methodLink RX6 62 yX6_buildAt, .instanceMethod yX6_buildAt, .selects RX6 yX6_buildAt yX6_buildAt, .code yX6_buildAt cX6_buildAt 2 (some (.object "LinkModels$Build")), .fieldLink RX6 23 "LinkModels" "buildCount" "I", .methodLink RX6 123 yX6_useAt, .instanceMethod yX6_useAt, .selects RX6 yX6_useAt yX6_useAt, .code yX6_useAt cX6_useAt 2 (some (.object "LinkModels$Use")), .fieldLink RX6 32 "LinkModels" "useCount" "I", .methodLink RX6 113 yX6_classOf, .static yX6_classOf, .code yX6_classOf cX6_classOf 1 (some .int)] ++ wsX60)
theorem zgX6_link_X6_linkedSpot_110 : GoodIn zwX6_link (wsV RX6 110 RX6 yX6_linkedSpot zwX6_linkedSpot) := goodIn_of _ (by decide +kernel)
theorem zgX6_link_X6_classOf_113 : GoodIn zwX6_link (va_wsS RX6 113 yX6_classOf zwX6_classOf) := goodIn_of _ (by decide +kernel)
set_option maxHeartbeats 4000000 in
set_option maxRecDepth 100000 in
theorem zX6_link (l : Launch) (dC : Nat → ClassId) (dI : Nat → Nat → Nat) (h0 rt rb ru rr : Nat) (p0 : Int32) (p1 : Int32) : Met l yX6_link zwX6_link ({ frames := 2, cells := 0, slots := 0, locals := 45 }) (zPr dC dI [.ref h0, .int p0, .int p1] [(h0, .inr (5, [.ref rt, .int 0, .ref rb, .int 0, .ref ru, .int 0, .ref rr]))] []) (vp_Si (fun r => r = -2)) 0 0 (fun _ => False) := by
  refine Met.ofW (cc := cX6_link) (maxL := 3) (ret := (some .int)) (by decide) rfl ?_
  intro p e s m args below meth c s₁ B hml hv
  obtain ⟨rfl, hP, hK⟩ := hv
  have hx := B.exec
  have hb := B.bytes
  have hr := B.returns
  have hts := atoms_spec (ws := zwX6_link) B.pre
  have hown : s.vm.findClass RX6 = some m.cls := findClass_of_methodNamed B.named
  have hlocks := B.notSynchronized
  have hP : va_P (dC, dI) vwCl [(h0, .inr (5, [.ref rt, .int 0, .ref rb, .int 0, .ref ru, .int 0, .ref rr]))] s.heap := hP
  have hl := lv_entry ([.ref h0, .int p0, .int p1]) (n := 3) (Nat.le_of_ble_eq_true rfl)
  rw [lg_entry_eq]
  generalize (lg_sl ([.ref h0, .int p0, .int p1]) ++ List.replicate (3 - (lg_sl ([.ref h0, .int p0, .int p1])).length) Slot.unset).toArray = ls at hl ⊢
  have hl : lv_has ls 3 [(0, .ref h0), (1, .int p0), (2, .int p1)] := hl
  refine lv_aload_n hx hb dX6_link_0 rfl (lv_at hl 0 rfl) ?_
  refine lv_iload_n hx hb dX6_link_1 rfl (lv_at hl 1 rfl) ?_
  refine lv_iload_n hx hb dX6_link_2 rfl (lv_at hl 2 rfl) ?_
  refine vp_callSi (W.runV (As := [.int p0, .int p1]) (rest := []) ⟨hx, hb, hml, hown, hts⟩ (zX6_linkedSpot l dC dI h0 rt rb ru rr p0 p1) (cwV 2 hts zgX6_link_X6_linkedSpot_110 rfl rfl rfl (by decide +kernel) ⟨(show 1 + 1 ≤ 2 by omega), (show 8 + (5 + 11) + 21 ≤ 45 by omega)⟩) (zVr (ci := 5) (q0 := 0) (q := (RX6, TX6, 7)) (hK.sub (tys' := []) [] rfl) (hP.sub (ws' := [(h0, .inr (5, [.ref rt, .int 0, .ref rb, .int 0, .ref ru, .int 0, .ref rr]))]) [0] rfl) rfl rfl rfl) rfl rfl hl.1 rfl (lv_room (Nat.le_of_ble_eq_true rfl)) dX6_link_3 ⟨(show 0 + 0 ≤ 0 by omega), (show 0 + 0 ≤ 0 by omega)⟩) (fun r1 hr1 => ?_)
  subst hr1
  refine vp_callSi (W.runS (As := [.int (-2)]) (rest := []) ⟨hx, hb, hml, hown, hts⟩ (zX6_classOf l dC dI (-2) (by decide)) (va_cwS 1 hts zgX6_link_X6_classOf_113 rfl rfl rfl (by decide +kernel) ⟨(show 0 + 1 ≤ 2 by omega), (show 8 + (1 + 11) + 0 ≤ 45 by omega)⟩) (zSr (hK.sub (tys' := []) [] rfl) (hP.sub (ws' := []) [] rfl)) rfl rfl hl.1 rfl (lv_room (Nat.le_of_ble_eq_true rfl)) dX6_link_6 ⟨(show 0 + 0 ≤ 0 by omega), (show 0 + 0 ≤ 0 by omega)⟩) (fun r2 hr2 => ?_)
  subst hr2
  exact W.iret (v := -2) hx hb hr (fun t ht hW => ⟨-2, rfl, rfl, ht⟩) (fun _ h => by cases h) dX6_link_9
theorem dX6_member_0 : decode cX6_member 0 = .ok (.aload_n 0, 1) := by decide +kernel
theorem dX6_member_1 : decode cX6_member 1 = .ok (.iload_n 1, 1) := by decide +kernel
theorem dX6_member_2 : decode cX6_member 2 = .ok (.iload_n 2, 1) := by decide +kernel
theorem dX6_member_3 : decode cX6_member 3 = .ok (.invokevirtual 110, 3) := by decide +kernel
theorem dX6_member_6 : decode cX6_member 6 = .ok (.invokestatic 116, 3) := by decide +kernel
theorem dX6_member_9 : decode cX6_member 9 = .ok (.ireturn, 1) := by decide +kernel
def zwX6_member : List Cond := .code yX6_member cX6_member 3 (some .int) :: ([.methodLink RX6 110 yX6_linkedSpot, .instanceMethod yX6_linkedSpot, .selects RX6 yX6_linkedSpot yX6_linkedSpot, .initialized RX6, .code yX6_linkedSpot cX6_linkedSpot 5 (some .int), .methodLink RX6 62 yX6_buildAt, .instanceMethod yX6_buildAt, .selects RX6 yX6_buildAt yX6_buildAt, .code yX6_buildAt cX6_buildAt 2 (some (.object "LinkModels$Build")), .fieldLink RX6 23 "LinkModels" "buildCount" "I", .methodLink RX6 123 yX6_useAt, .instanceMethod yX6_useAt, .selects RX6 yX6_useAt yX6_useAt, .code yX6_useAt cX6_useAt 2 (some (.object "LinkModels$Use")), .fieldLink RX6 32 "LinkModels" "useCount" "I", .methodLink RX6 116 yX6_placeIn, .static yX6_placeIn, .code yX6_placeIn cX6_placeIn 1 (some .int)] ++ wsX60)
theorem zgX6_member_X6_linkedSpot_110 : GoodIn zwX6_member (wsV RX6 110 RX6 yX6_linkedSpot zwX6_linkedSpot) := goodIn_of _ (by decide +kernel)
theorem zgX6_member_X6_placeIn_116 : GoodIn zwX6_member (va_wsS RX6 116 yX6_placeIn zwX6_placeIn) := goodIn_of _ (by decide +kernel)
set_option maxHeartbeats 4000000 in
set_option maxRecDepth 100000 in
theorem zX6_member (l : Launch) (dC : Nat → ClassId) (dI : Nat → Nat → Nat) (h0 rt rb ru rr : Nat) (p0 : Int32) (p1 : Int32) : Met l yX6_member zwX6_member ({ frames := 2, cells := 0, slots := 0, locals := 45 }) (zPr dC dI [.ref h0, .int p0, .int p1] [(h0, .inr (5, [.ref rt, .int 0, .ref rb, .int 0, .ref ru, .int 0, .ref rr]))] []) (vp_Si (fun r => r = -2)) 0 0 (fun _ => False) := by
  refine Met.ofW (cc := cX6_member) (maxL := 3) (ret := (some .int)) (by decide) rfl ?_
  intro p e s m args below meth c s₁ B hml hv
  obtain ⟨rfl, hP, hK⟩ := hv
  have hx := B.exec
  have hb := B.bytes
  have hr := B.returns
  have hts := atoms_spec (ws := zwX6_member) B.pre
  have hown : s.vm.findClass RX6 = some m.cls := findClass_of_methodNamed B.named
  have hlocks := B.notSynchronized
  have hP : va_P (dC, dI) vwCl [(h0, .inr (5, [.ref rt, .int 0, .ref rb, .int 0, .ref ru, .int 0, .ref rr]))] s.heap := hP
  have hl := lv_entry ([.ref h0, .int p0, .int p1]) (n := 3) (Nat.le_of_ble_eq_true rfl)
  rw [lg_entry_eq]
  generalize (lg_sl ([.ref h0, .int p0, .int p1]) ++ List.replicate (3 - (lg_sl ([.ref h0, .int p0, .int p1])).length) Slot.unset).toArray = ls at hl ⊢
  have hl : lv_has ls 3 [(0, .ref h0), (1, .int p0), (2, .int p1)] := hl
  refine lv_aload_n hx hb dX6_member_0 rfl (lv_at hl 0 rfl) ?_
  refine lv_iload_n hx hb dX6_member_1 rfl (lv_at hl 1 rfl) ?_
  refine lv_iload_n hx hb dX6_member_2 rfl (lv_at hl 2 rfl) ?_
  refine vp_callSi (W.runV (As := [.int p0, .int p1]) (rest := []) ⟨hx, hb, hml, hown, hts⟩ (zX6_linkedSpot l dC dI h0 rt rb ru rr p0 p1) (cwV 2 hts zgX6_member_X6_linkedSpot_110 rfl rfl rfl (by decide +kernel) ⟨(show 1 + 1 ≤ 2 by omega), (show 8 + (5 + 11) + 21 ≤ 45 by omega)⟩) (zVr (ci := 5) (q0 := 0) (q := (RX6, TX6, 7)) (hK.sub (tys' := []) [] rfl) (hP.sub (ws' := [(h0, .inr (5, [.ref rt, .int 0, .ref rb, .int 0, .ref ru, .int 0, .ref rr]))]) [0] rfl) rfl rfl rfl) rfl rfl hl.1 rfl (lv_room (Nat.le_of_ble_eq_true rfl)) dX6_member_3 ⟨(show 0 + 0 ≤ 0 by omega), (show 0 + 0 ≤ 0 by omega)⟩) (fun r1 hr1 => ?_)
  subst hr1
  refine vp_callSi (W.runS (As := [.int (-2)]) (rest := []) ⟨hx, hb, hml, hown, hts⟩ (zX6_placeIn l dC dI (-2) (by decide)) (va_cwS 1 hts zgX6_member_X6_placeIn_116 rfl rfl rfl (by decide +kernel) ⟨(show 0 + 1 ≤ 2 by omega), (show 8 + (1 + 11) + 0 ≤ 45 by omega)⟩) (zSr (hK.sub (tys' := []) [] rfl) (hP.sub (ws' := []) [] rfl)) rfl rfl hl.1 rfl (lv_room (Nat.le_of_ble_eq_true rfl)) dX6_member_6 ⟨(show 0 + 0 ≤ 0 by omega), (show 0 + 0 ≤ 0 by omega)⟩) (fun r2 hr2 => ?_)
  subst hr2
  exact W.iret (v := -2) hx hb hr (fun t ht hW => ⟨-2, rfl, rfl, ht⟩) (fun _ h => by cases h) dX6_member_9
theorem dX6_done_0 : decode cX6_done 0 = .ok (.aload_n 0, 1) := by decide +kernel
theorem dX6_done_1 : decode cX6_done 1 = .ok (.iload_n 1, 1) := by decide +kernel
theorem dX6_done_2 : decode cX6_done 2 = .ok (.iload_n 2, 1) := by decide +kernel
theorem dX6_done_3 : decode cX6_done 3 = .ok (.iload_n 3, 1) := by decide +kernel
theorem dX6_done_4 : decode cX6_done 4 = .ok (.invokevirtual 119, 3) := by decide +kernel
theorem dX6_done_7 : decode cX6_done 7 = .ok (.invokestatic 113, 3) := by decide +kernel
theorem dX6_done_10 : decode cX6_done 10 = .ok (.ireturn, 1) := by decide +kernel
def zwX6_done : List Cond := .code yX6_done cX6_done 4 (some .int) :: ([.methodLink RX6 119 yX6_doneSpot, .instanceMethod yX6_doneSpot, .selects RX6 yX6_doneSpot yX6_doneSpot, .initialized RX6, .code yX6_doneSpot cX6_doneSpot 7 (some .int), .methodLink RX6 62 yX6_buildAt, .instanceMethod yX6_buildAt, .selects RX6 yX6_buildAt yX6_buildAt, .code yX6_buildAt cX6_buildAt 2 (some (.object "LinkModels$Build")), .fieldLink RX6 23 "LinkModels" "buildCount" "I", .methodLink RX6 123 yX6_useAt, .instanceMethod yX6_useAt, .selects RX6 yX6_useAt yX6_useAt, .code yX6_useAt cX6_useAt 2 (some (.object "LinkModels$Use")), .fieldLink RX6 32 "LinkModels" "useCount" "I", .methodLink RX6 113 yX6_classOf, .static yX6_classOf, .code yX6_classOf cX6_classOf 1 (some .int)] ++ wsX60)
theorem zgX6_done_X6_doneSpot_119 : GoodIn zwX6_done (wsV RX6 119 RX6 yX6_doneSpot zwX6_doneSpot) := goodIn_of _ (by decide +kernel)
theorem zgX6_done_X6_classOf_113 : GoodIn zwX6_done (va_wsS RX6 113 yX6_classOf zwX6_classOf) := goodIn_of _ (by decide +kernel)
set_option maxHeartbeats 4000000 in
set_option maxRecDepth 100000 in
theorem zX6_done (l : Launch) (dC : Nat → ClassId) (dI : Nat → Nat → Nat) (h0 rt rb ru rr : Nat) (p0 : Int32) (p1 : Int32) (p2 : Int32) : Met l yX6_done zwX6_done ({ frames := 2, cells := 0, slots := 0, locals := 47 }) (zPr dC dI [.ref h0, .int p0, .int p1, .int p2] [(h0, .inr (5, [.ref rt, .int 0, .ref rb, .int 0, .ref ru, .int 0, .ref rr]))] []) (vp_Si (fun r => r = -2)) 0 0 (fun _ => False) := by
  refine Met.ofW (cc := cX6_done) (maxL := 4) (ret := (some .int)) (by decide) rfl ?_
  intro p e s m args below meth c s₁ B hml hv
  obtain ⟨rfl, hP, hK⟩ := hv
  have hx := B.exec
  have hb := B.bytes
  have hr := B.returns
  have hts := atoms_spec (ws := zwX6_done) B.pre
  have hown : s.vm.findClass RX6 = some m.cls := findClass_of_methodNamed B.named
  have hlocks := B.notSynchronized
  have hP : va_P (dC, dI) vwCl [(h0, .inr (5, [.ref rt, .int 0, .ref rb, .int 0, .ref ru, .int 0, .ref rr]))] s.heap := hP
  have hl := lv_entry ([.ref h0, .int p0, .int p1, .int p2]) (n := 4) (Nat.le_of_ble_eq_true rfl)
  rw [lg_entry_eq]
  generalize (lg_sl ([.ref h0, .int p0, .int p1, .int p2]) ++ List.replicate (4 - (lg_sl ([.ref h0, .int p0, .int p1, .int p2])).length) Slot.unset).toArray = ls at hl ⊢
  have hl : lv_has ls 4 [(0, .ref h0), (1, .int p0), (2, .int p1), (3, .int p2)] := hl
  refine lv_aload_n hx hb dX6_done_0 rfl (lv_at hl 0 rfl) ?_
  refine lv_iload_n hx hb dX6_done_1 rfl (lv_at hl 1 rfl) ?_
  refine lv_iload_n hx hb dX6_done_2 rfl (lv_at hl 2 rfl) ?_
  refine lv_iload_n hx hb dX6_done_3 rfl (lv_at hl 3 rfl) ?_
  refine vp_callSi (W.runV (As := [.int p0, .int p1, .int p2]) (rest := []) ⟨hx, hb, hml, hown, hts⟩ (zX6_doneSpot l dC dI h0 rt rb ru rr p0 p1 p2) (cwV 3 hts zgX6_done_X6_doneSpot_119 rfl rfl rfl (by decide +kernel) ⟨(show 1 + 1 ≤ 2 by omega), (show 8 + (7 + 11) + 21 ≤ 47 by omega)⟩) (zVr (ci := 5) (q0 := 0) (q := (RX6, TX6, 7)) (hK.sub (tys' := []) [] rfl) (hP.sub (ws' := [(h0, .inr (5, [.ref rt, .int 0, .ref rb, .int 0, .ref ru, .int 0, .ref rr]))]) [0] rfl) rfl rfl rfl) rfl rfl hl.1 rfl (lv_room (Nat.le_of_ble_eq_true rfl)) dX6_done_4 ⟨(show 0 + 0 ≤ 0 by omega), (show 0 + 0 ≤ 0 by omega)⟩) (fun r1 hr1 => ?_)
  subst hr1
  refine vp_callSi (W.runS (As := [.int (-2)]) (rest := []) ⟨hx, hb, hml, hown, hts⟩ (zX6_classOf l dC dI (-2) (by decide)) (va_cwS 1 hts zgX6_done_X6_classOf_113 rfl rfl rfl (by decide +kernel) ⟨(show 0 + 1 ≤ 2 by omega), (show 8 + (1 + 11) + 0 ≤ 47 by omega)⟩) (zSr (hK.sub (tys' := []) [] rfl) (hP.sub (ws' := []) [] rfl)) rfl rfl hl.1 rfl (lv_room (Nat.le_of_ble_eq_true rfl)) dX6_done_7 ⟨(show 0 + 0 ≤ 0 by omega), (show 0 + 0 ≤ 0 by omega)⟩) (fun r2 hr2 => ?_)
  subst hr2
  exact W.iret (v := -2) hx hb hr (fun t ht hW => ⟨-2, rfl, rfl, ht⟩) (fun _ h => by cases h) dX6_done_10
theorem dX6_doneMember_0 : decode cX6_doneMember 0 = .ok (.aload_n 0, 1) := by decide +kernel
theorem dX6_doneMember_1 : decode cX6_doneMember 1 = .ok (.iload_n 1, 1) := by decide +kernel
theorem dX6_doneMember_2 : decode cX6_doneMember 2 = .ok (.iload_n 2, 1) := by decide +kernel
theorem dX6_doneMember_3 : decode cX6_doneMember 3 = .ok (.iload_n 3, 1) := by decide +kernel
theorem dX6_doneMember_4 : decode cX6_doneMember 4 = .ok (.invokevirtual 119, 3) := by decide +kernel
theorem dX6_doneMember_7 : decode cX6_doneMember 7 = .ok (.invokestatic 116, 3) := by decide +kernel
theorem dX6_doneMember_10 : decode cX6_doneMember 10 = .ok (.ireturn, 1) := by decide +kernel
def zwX6_doneMember : List Cond := .code yX6_doneMember cX6_doneMember 4 (some .int) :: ([.methodLink RX6 119 yX6_doneSpot, .instanceMethod yX6_doneSpot, .selects RX6 yX6_doneSpot yX6_doneSpot, .initialized RX6, .code yX6_doneSpot cX6_doneSpot 7 (some .int), .methodLink RX6 62 yX6_buildAt, .instanceMethod yX6_buildAt, .selects RX6 yX6_buildAt yX6_buildAt, .code yX6_buildAt cX6_buildAt 2 (some (.object "LinkModels$Build")), .fieldLink RX6 23 "LinkModels" "buildCount" "I", .methodLink RX6 123 yX6_useAt, .instanceMethod yX6_useAt, .selects RX6 yX6_useAt yX6_useAt, .code yX6_useAt cX6_useAt 2 (some (.object "LinkModels$Use")), .fieldLink RX6 32 "LinkModels" "useCount" "I", .methodLink RX6 116 yX6_placeIn, .static yX6_placeIn, .code yX6_placeIn cX6_placeIn 1 (some .int)] ++ wsX60)
theorem zgX6_doneMember_X6_doneSpot_119 : GoodIn zwX6_doneMember (wsV RX6 119 RX6 yX6_doneSpot zwX6_doneSpot) := goodIn_of _ (by decide +kernel)
theorem zgX6_doneMember_X6_placeIn_116 : GoodIn zwX6_doneMember (va_wsS RX6 116 yX6_placeIn zwX6_placeIn) := goodIn_of _ (by decide +kernel)
set_option maxHeartbeats 4000000 in
set_option maxRecDepth 100000 in
theorem zX6_doneMember (l : Launch) (dC : Nat → ClassId) (dI : Nat → Nat → Nat) (h0 rt rb ru rr : Nat) (p0 : Int32) (p1 : Int32) (p2 : Int32) : Met l yX6_doneMember zwX6_doneMember ({ frames := 2, cells := 0, slots := 0, locals := 47 }) (zPr dC dI [.ref h0, .int p0, .int p1, .int p2] [(h0, .inr (5, [.ref rt, .int 0, .ref rb, .int 0, .ref ru, .int 0, .ref rr]))] []) (vp_Si (fun r => r = -2)) 0 0 (fun _ => False) := by
  refine Met.ofW (cc := cX6_doneMember) (maxL := 4) (ret := (some .int)) (by decide) rfl ?_
  intro p e s m args below meth c s₁ B hml hv
  obtain ⟨rfl, hP, hK⟩ := hv
  have hx := B.exec
  have hb := B.bytes
  have hr := B.returns
  have hts := atoms_spec (ws := zwX6_doneMember) B.pre
  have hown : s.vm.findClass RX6 = some m.cls := findClass_of_methodNamed B.named
  have hlocks := B.notSynchronized
  have hP : va_P (dC, dI) vwCl [(h0, .inr (5, [.ref rt, .int 0, .ref rb, .int 0, .ref ru, .int 0, .ref rr]))] s.heap := hP
  have hl := lv_entry ([.ref h0, .int p0, .int p1, .int p2]) (n := 4) (Nat.le_of_ble_eq_true rfl)
  rw [lg_entry_eq]
  generalize (lg_sl ([.ref h0, .int p0, .int p1, .int p2]) ++ List.replicate (4 - (lg_sl ([.ref h0, .int p0, .int p1, .int p2])).length) Slot.unset).toArray = ls at hl ⊢
  have hl : lv_has ls 4 [(0, .ref h0), (1, .int p0), (2, .int p1), (3, .int p2)] := hl
  refine lv_aload_n hx hb dX6_doneMember_0 rfl (lv_at hl 0 rfl) ?_
  refine lv_iload_n hx hb dX6_doneMember_1 rfl (lv_at hl 1 rfl) ?_
  refine lv_iload_n hx hb dX6_doneMember_2 rfl (lv_at hl 2 rfl) ?_
  refine lv_iload_n hx hb dX6_doneMember_3 rfl (lv_at hl 3 rfl) ?_
  refine vp_callSi (W.runV (As := [.int p0, .int p1, .int p2]) (rest := []) ⟨hx, hb, hml, hown, hts⟩ (zX6_doneSpot l dC dI h0 rt rb ru rr p0 p1 p2) (cwV 3 hts zgX6_doneMember_X6_doneSpot_119 rfl rfl rfl (by decide +kernel) ⟨(show 1 + 1 ≤ 2 by omega), (show 8 + (7 + 11) + 21 ≤ 47 by omega)⟩) (zVr (ci := 5) (q0 := 0) (q := (RX6, TX6, 7)) (hK.sub (tys' := []) [] rfl) (hP.sub (ws' := [(h0, .inr (5, [.ref rt, .int 0, .ref rb, .int 0, .ref ru, .int 0, .ref rr]))]) [0] rfl) rfl rfl rfl) rfl rfl hl.1 rfl (lv_room (Nat.le_of_ble_eq_true rfl)) dX6_doneMember_4 ⟨(show 0 + 0 ≤ 0 by omega), (show 0 + 0 ≤ 0 by omega)⟩) (fun r1 hr1 => ?_)
  subst hr1
  refine vp_callSi (W.runS (As := [.int (-2)]) (rest := []) ⟨hx, hb, hml, hown, hts⟩ (zX6_placeIn l dC dI (-2) (by decide)) (va_cwS 1 hts zgX6_doneMember_X6_placeIn_116 rfl rfl rfl (by decide +kernel) ⟨(show 0 + 1 ≤ 2 by omega), (show 8 + (1 + 11) + 0 ≤ 47 by omega)⟩) (zSr (hK.sub (tys' := []) [] rfl) (hP.sub (ws' := []) [] rfl)) rfl rfl hl.1 rfl (lv_room (Nat.le_of_ble_eq_true rfl)) dX6_doneMember_7 ⟨(show 0 + 0 ≤ 0 by omega), (show 0 + 0 ≤ 0 by omega)⟩) (fun r2 hr2 => ?_)
  subst hr2
  exact W.iret (v := -2) hx hb hr (fun t ht hW => ⟨-2, rfl, rfl, ht⟩) (fun _ h => by cases h) dX6_doneMember_10
theorem dX6_told_0 : decode cX6_told 0 = .ok (.iload_n 1, 1) := by decide +kernel
theorem dX6_told_1 : decode cX6_told 1 = .ok (.tableswitch 42 0 2 #[27, 32, 37], 27) := by decide +kernel
theorem dX6_told_28 : decode cX6_told 28 = .ok (.aload_n 0, 1) := by decide +kernel
theorem dX6_told_29 : decode cX6_told 29 = .ok (.getfield 13, 3) := by decide +kernel
theorem dX6_told_32 : decode cX6_told 32 = .ok (.ireturn, 1) := by decide +kernel
theorem dX6_told_33 : decode cX6_told 33 = .ok (.aload_n 0, 1) := by decide +kernel
theorem dX6_told_34 : decode cX6_told 34 = .ok (.getfield 23, 3) := by decide +kernel
theorem dX6_told_37 : decode cX6_told 37 = .ok (.ireturn, 1) := by decide +kernel
theorem dX6_told_38 : decode cX6_told 38 = .ok (.aload_n 0, 1) := by decide +kernel
theorem dX6_told_39 : decode cX6_told 39 = .ok (.getfield 32, 3) := by decide +kernel
theorem dX6_told_42 : decode cX6_told 42 = .ok (.ireturn, 1) := by decide +kernel
theorem dX6_told_43 : decode cX6_told 43 = .ok (.bipush (-3), 2) := by decide +kernel
theorem dX6_told_45 : decode cX6_told 45 = .ok (.ireturn, 1) := by decide +kernel
def zwX6_told : List Cond := .code yX6_told cX6_told 2 (some .int) :: ([.fieldLink RX6 13 "LinkModels" "tapeLength" "I", .fieldLink RX6 23 "LinkModels" "buildCount" "I", .fieldLink RX6 32 "LinkModels" "useCount" "I"] ++ wsX60)
set_option maxHeartbeats 4000000 in
set_option maxRecDepth 100000 in
theorem zX6_told (l : Launch) (dC : Nat → ClassId) (dI : Nat → Nat → Nat) (h0 rt rb ru rr : Nat) (p0 : Int32) : Met l yX6_told zwX6_told ({ frames := 0, cells := 0, slots := 0, locals := 0 }) (zPr dC dI [.ref h0, .int p0] [(h0, .inr (5, [.ref rt, .int 0, .ref rb, .int 0, .ref ru, .int 0, .ref rr]))] []) (vp_Si (fun r => r = if p0 = 0 then 0 else if p0 = 1 then 0 else if p0 = 2 then 0 else -3)) 0 0 (fun _ => False) := by
  refine Met.ofW (cc := cX6_told) (maxL := 2) (ret := (some .int)) (by decide) rfl ?_
  intro p e s m args below meth c s₁ B hml hv
  obtain ⟨rfl, hP, hK⟩ := hv
  have hx := B.exec
  have hb := B.bytes
  have hr := B.returns
  have hts := atoms_spec (ws := zwX6_told) B.pre
  have hown : s.vm.findClass RX6 = some m.cls := findClass_of_methodNamed B.named
  have hlocks := B.notSynchronized
  have hiX6 : ∀ w ∈ wsX60, w ∈ zwX6_told := (by decide +kernel)
  have hP : va_P (dC, dI) vwCl [(h0, .inr (5, [.ref rt, .int 0, .ref rb, .int 0, .ref ru, .int 0, .ref rr]))] s.heap := hP
  have hl := lv_entry ([.ref h0, .int p0]) (n := 2) (Nat.le_of_ble_eq_true rfl)
  rw [lg_entry_eq]
  generalize (lg_sl ([.ref h0, .int p0]) ++ List.replicate (2 - (lg_sl ([.ref h0, .int p0])).length) Slot.unset).toArray = ls at hl ⊢
  have hl : lv_has ls 2 [(0, .ref h0), (1, .int p0)] := hl
  refine lv_iload_n hx hb dX6_told_0 rfl (lv_at hl 1 rfl) ?_
  by_cases t0 : p0 = 0
  · subst t0
    refine lv_tableIn (off := 27) (tgt := 28) hx hb dX6_told_1 (by decide) (by decide) (by decide) (by decide) ?_
    refine lv_aload_n hx hb dX6_told_28 rfl (lv_at hl 0 rfl) ?_
    refine va_get (D := (dC, dI)) (ci := 5) (v := .int 0) (C := RX6) (T := TX6) (N := 7) hx hb hts hiX6 hown hK hP 0 rfl rfl 1 (by decide) (hts (.fieldLink RX6 13 "LinkModels" "tapeLength" "I") (by decide +kernel)) (fun _ h9 => h9) rfl dX6_told_29 ?_
    exact W.iret (v := 0) hx hb hr (fun t ht hW => ⟨0, rfl, by decide, ht⟩) (fun _ h => by cases h) dX6_told_32
  by_cases t1 : p0 = 1
  · subst t1
    refine lv_tableIn (off := 32) (tgt := 33) hx hb dX6_told_1 (by decide) (by decide) (by decide) (by decide) ?_
    refine lv_aload_n hx hb dX6_told_33 rfl (lv_at hl 0 rfl) ?_
    refine va_get (D := (dC, dI)) (ci := 5) (v := .int 0) (C := RX6) (T := TX6) (N := 7) hx hb hts hiX6 hown hK hP 0 rfl rfl 3 (by decide) (hts (.fieldLink RX6 23 "LinkModels" "buildCount" "I") (by decide +kernel)) (fun _ h9 => h9) rfl dX6_told_34 ?_
    exact W.iret (v := 0) hx hb hr (fun t ht hW => ⟨0, rfl, by decide, ht⟩) (fun _ h => by cases h) dX6_told_37
  by_cases t2 : p0 = 2
  · subst t2
    refine lv_tableIn (off := 37) (tgt := 38) hx hb dX6_told_1 (by decide) (by decide) (by decide) (by decide) ?_
    refine lv_aload_n hx hb dX6_told_38 rfl (lv_at hl 0 rfl) ?_
    refine va_get (D := (dC, dI)) (ci := 5) (v := .int 0) (C := RX6) (T := TX6) (N := 7) hx hb hts hiX6 hown hK hP 0 rfl rfl 5 (by decide) (hts (.fieldLink RX6 32 "LinkModels" "useCount" "I") (by decide +kernel)) (fun _ h9 => h9) rfl dX6_told_39 ?_
    exact W.iret (v := 0) hx hb hr (fun t ht hW => ⟨0, rfl, by decide, ht⟩) (fun _ h => by cases h) dX6_told_42
  refine lv_tableOut (tgt := 43) hx hb dX6_told_1 (z_out3 t0 t1 t2) (by decide) ?_
  refine lv_bipush (v := (-3)) hx hb dX6_told_43 (by decide) ?_
  exact W.iret (v := -3) hx hb hr (fun t ht hW => ⟨-3, rfl, by rw [if_neg t0, if_neg t1, if_neg t2], ht⟩) (fun _ h => by cases h) dX6_told_45
