theorem z_lt {x y : Int64} : lg_cmp x y < 0 ↔ x < y := by
  unfold lg_cmp
  by_cases h1 : y < x
  · rw [if_pos h1]
    exact ⟨fun h => absurd h (by decide), fun h => (Int64.lt_irrefl (Int64.lt_trans h h1)).elim⟩
  · rw [if_neg h1]
    by_cases h2 : x = y
    · rw [if_pos h2]
      exact ⟨fun h => absurd h (by decide), fun h => (Int64.lt_irrefl (h2 ▸ h)).elim⟩
    · rw [if_neg h2]
      refine ⟨fun _ => ?_, fun _ => by decide⟩
      rw [Int64.lt_iff_toInt_lt] at h1 ⊢
      have h3 := mt Int64.toInt_inj.mp h2
      omega
theorem z_gt {x y : Int64} : 0 < lg_cmp x y ↔ y < x := by
  unfold lg_cmp
  by_cases h1 : y < x
  · rw [if_pos h1]
    exact ⟨fun _ => h1, fun _ => by decide⟩
  · rw [if_neg h1]
    by_cases h2 : x = y
    · rw [if_pos h2]
      exact ⟨fun h => absurd h (by decide), fun h => absurd h h1⟩
    · rw [if_neg h2]
      exact ⟨fun h => absurd h (by decide), fun h => absurd h h1⟩
theorem dX7_in_0 : decode cX7_in 0 = .ok (.lload_n 0, 1) := by decide +kernel
theorem dX7_in_1 : decode cX7_in 1 = .ok (.lload_n 2, 1) := by decide +kernel
theorem dX7_in_2 : decode cX7_in 2 = .ok (.lcmp, 1) := by decide +kernel
theorem dX7_in_3 : decode cX7_in 3 = .ok (.ifCond .lt 14, 3) := by decide +kernel
theorem dX7_in_6 : decode cX7_in 6 = .ok (.lload_n 0, 1) := by decide +kernel
theorem dX7_in_7 : decode cX7_in 7 = .ok (.lload 4, 2) := by decide +kernel
theorem dX7_in_9 : decode cX7_in 9 = .ok (.lcmp, 1) := by decide +kernel
theorem dX7_in_10 : decode cX7_in 10 = .ok (.ifCond .gt 7, 3) := by decide +kernel
theorem dX7_in_13 : decode cX7_in 13 = .ok (.iconst 1, 1) := by decide +kernel
theorem dX7_in_14 : decode cX7_in 14 = .ok (.goto 4, 3) := by decide +kernel
theorem dX7_in_17 : decode cX7_in 17 = .ok (.iconst 0, 1) := by decide +kernel
theorem dX7_in_18 : decode cX7_in 18 = .ok (.ireturn, 1) := by decide +kernel
def zwX7_in : List Cond := .code yX7_in cX7_in 6 (some .boolean) :: ([])
set_option maxHeartbeats 4000000 in
set_option maxRecDepth 100000 in
theorem kX7_in (l : Launch) (dC : Nat → ClassId) (dI : Nat → Nat → Nat) (p0 p1 p2 : Int64) : Met l yX7_in zwX7_in ({ frames := 0, cells := 0, slots := 0, locals := 0 }) (zPr dC dI [.long p0, .long p1, .long p2] [] []) (vp_Si (fun r => r = if (p1 ≤ p0 ∧ p0 ≤ p2) then 1 else 0)) 0 0 (fun _ => False) := by
  refine Met.ofW (cc := cX7_in) (maxL := 6) (ret := (some .boolean)) (by decide) rfl ?_
  intro p e s m args below meth c s₁ B hml hv
  obtain ⟨rfl, hP, hK⟩ := hv
  have hx := B.exec
  have hb := B.bytes
  have hr := B.returns
  have hts := atoms_spec (ws := zwX7_in) B.pre
  have hown : s.vm.findClass RX7 = some m.cls := findClass_of_methodNamed B.named
  have hlocks := B.notSynchronized
  have hl := lv_entry ([.long p0, .long p1, .long p2]) (n := 6) (Nat.le_of_ble_eq_true rfl)
  rw [lg_entry_eq]
  generalize (lg_sl ([.long p0, .long p1, .long p2]) ++ List.replicate (6 - (lg_sl ([.long p0, .long p1, .long p2])).length) Slot.unset).toArray = ls at hl ⊢
  have hl : lv_has ls 6 [(0, .long p0), (2, .long p1), (4, .long p2)] := hl
  refine lv_lload_n hx hb dX7_in_0 rfl (lv_at hl 0 rfl) ?_
  refine lv_lload_n hx hb dX7_in_1 rfl (lv_at hl 1 rfl) ?_
  refine W.lcmp hx hb dX7_in_2 ?_
  refine lv_if_lt (tgt := 17) hx hb dX7_in_3 (by decide) (fun c1 => ?_) (fun c1 => ?_)
  · refine lv_iconst (v := 0) hx hb dX7_in_17 (by decide) ?_
    exact W.zret (v := 0) hx hb hr rfl (fun t ht hW => ⟨0, rfl, by rw [if_neg (fun h9 => absurd (z_lt.mp c1) (Int64.not_lt.mpr h9.1))], ht⟩) (fun _ h => by cases h) dX7_in_18
  · refine lv_lload_n hx hb dX7_in_6 rfl (lv_at hl 0 rfl) ?_
    refine lv_lload hx hb dX7_in_7 (lv_at hl 2 rfl) ?_
    refine W.lcmp hx hb dX7_in_9 ?_
    refine lv_if_gt (tgt := 17) hx hb dX7_in_10 (by decide) (fun c2 => ?_) (fun c2 => ?_)
    · refine lv_iconst (v := 0) hx hb dX7_in_17 (by decide) ?_
      exact W.zret (v := 0) hx hb hr rfl (fun t ht hW => ⟨0, rfl, by rw [if_neg (fun h9 => absurd (z_gt.mp c2) (Int64.not_lt.mpr h9.2))], ht⟩) (fun _ h => by cases h) dX7_in_18
    · refine lv_iconst (v := 1) hx hb dX7_in_13 (by decide) ?_
      refine lv_goto (tgt := 18) hx hb dX7_in_14 (by decide) ?_
      exact W.zret (v := 1) hx hb hr rfl (fun t ht hW => ⟨1, rfl, by rw [if_pos ⟨Int64.not_lt.mp (fun h9 => c1 (z_lt.mpr h9)), Int64.not_lt.mp (fun h9 => c2 (z_gt.mpr h9))⟩], ht⟩) (fun _ h => by cases h) dX7_in_18
/-- 1 where a number lies between two, else 0 -/
def kIn (a b : Int64) (c : Int32) : Int32 := if (a ≤ c.toInt64 ∧ c.toInt64 ≤ b) then 1 else 0
theorem kIn_01 (a b : Int64) (c : Int32) : kIn a b c = 0 ∨ kIn a b c = 1 := by
  unfold kIn
  split
  · exact Or.inr rfl
  · exact Or.inl rfl
theorem dX7_isBig_0 : decode cX7_isBig 0 = .ok (.iload_n 0, 1) := by decide +kernel
theorem dX7_isBig_1 : decode cX7_isBig 1 = .ok (.i2l, 1) := by decide +kernel
theorem dX7_isBig_2 : decode cX7_isBig 2 = .ok (.ldc2_w 114, 3) := by decide +kernel
theorem dX7_isBig_5 : decode cX7_isBig 5 = .ok (.ldc2_w 116, 3) := by decide +kernel
theorem dX7_isBig_8 : decode cX7_isBig 8 = .ok (.invokestatic 105, 3) := by decide +kernel
theorem dX7_isBig_11 : decode cX7_isBig 11 = .ok (.ireturn, 1) := by decide +kernel
def zwX7_isBig : List Cond := .code yX7_isBig cX7_isBig 1 (some .boolean) :: ([.constantLong RX7 114 (65), .constantLong RX7 116 (90), .methodLink RX7 105 yX7_in, .static yX7_in, .initialized RX7, .code yX7_in cX7_in 6 (some .boolean)])
theorem zgX7_isBig_X7_in_105 : GoodIn zwX7_isBig (va_wsS RX7 105 yX7_in zwX7_in) := goodIn_of _ (by decide +kernel)
set_option maxHeartbeats 4000000 in
set_option maxRecDepth 100000 in
theorem kX7_isBig (l : Launch) (dC : Nat → ClassId) (dI : Nat → Nat → Nat) (p0 : Int32) : Met l yX7_isBig zwX7_isBig ({ frames := 1, cells := 0, slots := 0, locals := 25 }) (zPr dC dI [.int p0] [] []) (vp_Si (fun r => r = kIn 65 90 p0)) 0 0 (fun _ => False) := by
  refine Met.ofW (cc := cX7_isBig) (maxL := 1) (ret := (some .boolean)) (by decide) rfl ?_
  intro p e s m args below meth c s₁ B hml hv
  obtain ⟨rfl, hP, hK⟩ := hv
  have hx := B.exec
  have hb := B.bytes
  have hr := B.returns
  have hts := atoms_spec (ws := zwX7_isBig) B.pre
  have hown : s.vm.findClass RX7 = some m.cls := findClass_of_methodNamed B.named
  have hlocks := B.notSynchronized
  have hl := lv_entry ([.int p0]) (n := 1) (Nat.le_of_ble_eq_true rfl)
  rw [lg_entry_eq]
  generalize (lg_sl ([.int p0]) ++ List.replicate (1 - (lg_sl ([.int p0])).length) Slot.unset).toArray = ls at hl ⊢
  have hl : lv_has ls 1 [(0, .int p0)] := hl
  refine lv_iload_n hx hb dX7_isBig_0 rfl (lv_at hl 0 rfl) ?_
  refine lv_i2l hx hb dX7_isBig_1 rfl ?_
  refine lv_topl (fun x1 ex1 => ?_)
  refine lv_ldc2 (v := 65) hx hb hown (hts (.constantLong RX7 114 (65)) (by decide +kernel)) dX7_isBig_2 ?_
  refine lv_ldc2 (v := 90) hx hb hown (hts (.constantLong RX7 116 (90)) (by decide +kernel)) dX7_isBig_5 ?_
  refine vp_callSi (W.runS (As := [.long x1, .long 65, .long 90]) (rest := []) ⟨hx, hb, hml, hown, hts⟩ (kX7_in l dC dI x1 65 90) (va_cwS 3 hts zgX7_isBig_X7_in_105 rfl rfl rfl (by decide +kernel) ⟨(show 0 + 1 ≤ 1 by omega), (show 8 + (6 + 11) + 0 ≤ 25 by omega)⟩) (zSr (hK.sub (tys' := []) [] rfl) (hP.sub (ws' := []) [] rfl)) rfl rfl hl.1 rfl (lv_room (Nat.le_of_ble_eq_true rfl)) dX7_isBig_8 ⟨(show 0 + 0 ≤ 0 by omega), (show 0 + 0 ≤ 0 by omega)⟩) (fun r2 hr2 => ?_)
  have hr2 : r2 = kIn 65 90 p0 := by rw [hr2, ex1]; rfl
  exact W.zret (v := r2) hx hb hr (z_nb (by rw [hr2]; exact kIn_01 _ _ _)) (fun t ht hW => ⟨r2, rfl, hr2, ht⟩) (fun _ h => by cases h) dX7_isBig_11
theorem dX7_isDigit_0 : decode cX7_isDigit 0 = .ok (.iload_n 0, 1) := by decide +kernel
theorem dX7_isDigit_1 : decode cX7_isDigit 1 = .ok (.i2l, 1) := by decide +kernel
theorem dX7_isDigit_2 : decode cX7_isDigit 2 = .ok (.ldc2_w 118, 3) := by decide +kernel
theorem dX7_isDigit_5 : decode cX7_isDigit 5 = .ok (.ldc2_w 120, 3) := by decide +kernel
theorem dX7_isDigit_8 : decode cX7_isDigit 8 = .ok (.invokestatic 105, 3) := by decide +kernel
theorem dX7_isDigit_11 : decode cX7_isDigit 11 = .ok (.ireturn, 1) := by decide +kernel
def zwX7_isDigit : List Cond := .code yX7_isDigit cX7_isDigit 1 (some .boolean) :: ([.constantLong RX7 118 (48), .constantLong RX7 120 (57), .methodLink RX7 105 yX7_in, .static yX7_in, .initialized RX7, .code yX7_in cX7_in 6 (some .boolean)])
theorem zgX7_isDigit_X7_in_105 : GoodIn zwX7_isDigit (va_wsS RX7 105 yX7_in zwX7_in) := goodIn_of _ (by decide +kernel)
set_option maxHeartbeats 4000000 in
set_option maxRecDepth 100000 in
theorem kX7_isDigit (l : Launch) (dC : Nat → ClassId) (dI : Nat → Nat → Nat) (p0 : Int32) : Met l yX7_isDigit zwX7_isDigit ({ frames := 1, cells := 0, slots := 0, locals := 25 }) (zPr dC dI [.int p0] [] []) (vp_Si (fun r => r = kIn 48 57 p0)) 0 0 (fun _ => False) := by
  refine Met.ofW (cc := cX7_isDigit) (maxL := 1) (ret := (some .boolean)) (by decide) rfl ?_
  intro p e s m args below meth c s₁ B hml hv
  obtain ⟨rfl, hP, hK⟩ := hv
  have hx := B.exec
  have hb := B.bytes
  have hr := B.returns
  have hts := atoms_spec (ws := zwX7_isDigit) B.pre
  have hown : s.vm.findClass RX7 = some m.cls := findClass_of_methodNamed B.named
  have hlocks := B.notSynchronized
  have hl := lv_entry ([.int p0]) (n := 1) (Nat.le_of_ble_eq_true rfl)
  rw [lg_entry_eq]
  generalize (lg_sl ([.int p0]) ++ List.replicate (1 - (lg_sl ([.int p0])).length) Slot.unset).toArray = ls at hl ⊢
  have hl : lv_has ls 1 [(0, .int p0)] := hl
  refine lv_iload_n hx hb dX7_isDigit_0 rfl (lv_at hl 0 rfl) ?_
  refine lv_i2l hx hb dX7_isDigit_1 rfl ?_
  refine lv_topl (fun x1 ex1 => ?_)
  refine lv_ldc2 (v := 48) hx hb hown (hts (.constantLong RX7 118 (48)) (by decide +kernel)) dX7_isDigit_2 ?_
  refine lv_ldc2 (v := 57) hx hb hown (hts (.constantLong RX7 120 (57)) (by decide +kernel)) dX7_isDigit_5 ?_
  refine vp_callSi (W.runS (As := [.long x1, .long 48, .long 57]) (rest := []) ⟨hx, hb, hml, hown, hts⟩ (kX7_in l dC dI x1 48 57) (va_cwS 3 hts zgX7_isDigit_X7_in_105 rfl rfl rfl (by decide +kernel) ⟨(show 0 + 1 ≤ 1 by omega), (show 8 + (6 + 11) + 0 ≤ 25 by omega)⟩) (zSr (hK.sub (tys' := []) [] rfl) (hP.sub (ws' := []) [] rfl)) rfl rfl hl.1 rfl (lv_room (Nat.le_of_ble_eq_true rfl)) dX7_isDigit_8 ⟨(show 0 + 0 ≤ 0 by omega), (show 0 + 0 ≤ 0 by omega)⟩) (fun r2 hr2 => ?_)
  have hr2 : r2 = kIn 48 57 p0 := by rw [hr2, ex1]; rfl
  exact W.zret (v := r2) hx hb hr (z_nb (by rw [hr2]; exact kIn_01 _ _ _)) (fun t ht hW => ⟨r2, rfl, hr2, ht⟩) (fun _ h => by cases h) dX7_isDigit_11
theorem dX7_isSmall_0 : decode cX7_isSmall 0 = .ok (.iload_n 0, 1) := by decide +kernel
theorem dX7_isSmall_1 : decode cX7_isSmall 1 = .ok (.i2l, 1) := by decide +kernel
theorem dX7_isSmall_2 : decode cX7_isSmall 2 = .ok (.ldc2_w 122, 3) := by decide +kernel
theorem dX7_isSmall_5 : decode cX7_isSmall 5 = .ok (.ldc2_w 124, 3) := by decide +kernel
theorem dX7_isSmall_8 : decode cX7_isSmall 8 = .ok (.invokestatic 105, 3) := by decide +kernel
theorem dX7_isSmall_11 : decode cX7_isSmall 11 = .ok (.ireturn, 1) := by decide +kernel
def zwX7_isSmall : List Cond := .code yX7_isSmall cX7_isSmall 1 (some .boolean) :: ([.constantLong RX7 122 (97), .constantLong RX7 124 (122), .methodLink RX7 105 yX7_in, .static yX7_in, .initialized RX7, .code yX7_in cX7_in 6 (some .boolean)])
theorem zgX7_isSmall_X7_in_105 : GoodIn zwX7_isSmall (va_wsS RX7 105 yX7_in zwX7_in) := goodIn_of _ (by decide +kernel)
set_option maxHeartbeats 4000000 in
set_option maxRecDepth 100000 in
theorem kX7_isSmall (l : Launch) (dC : Nat → ClassId) (dI : Nat → Nat → Nat) (p0 : Int32) : Met l yX7_isSmall zwX7_isSmall ({ frames := 1, cells := 0, slots := 0, locals := 25 }) (zPr dC dI [.int p0] [] []) (vp_Si (fun r => r = kIn 97 122 p0)) 0 0 (fun _ => False) := by
  refine Met.ofW (cc := cX7_isSmall) (maxL := 1) (ret := (some .boolean)) (by decide) rfl ?_
  intro p e s m args below meth c s₁ B hml hv
  obtain ⟨rfl, hP, hK⟩ := hv
  have hx := B.exec
  have hb := B.bytes
  have hr := B.returns
  have hts := atoms_spec (ws := zwX7_isSmall) B.pre
  have hown : s.vm.findClass RX7 = some m.cls := findClass_of_methodNamed B.named
  have hlocks := B.notSynchronized
  have hl := lv_entry ([.int p0]) (n := 1) (Nat.le_of_ble_eq_true rfl)
  rw [lg_entry_eq]
  generalize (lg_sl ([.int p0]) ++ List.replicate (1 - (lg_sl ([.int p0])).length) Slot.unset).toArray = ls at hl ⊢
  have hl : lv_has ls 1 [(0, .int p0)] := hl
  refine lv_iload_n hx hb dX7_isSmall_0 rfl (lv_at hl 0 rfl) ?_
  refine lv_i2l hx hb dX7_isSmall_1 rfl ?_
  refine lv_topl (fun x1 ex1 => ?_)
  refine lv_ldc2 (v := 97) hx hb hown (hts (.constantLong RX7 122 (97)) (by decide +kernel)) dX7_isSmall_2 ?_
  refine lv_ldc2 (v := 122) hx hb hown (hts (.constantLong RX7 124 (122)) (by decide +kernel)) dX7_isSmall_5 ?_
  refine vp_callSi (W.runS (As := [.long x1, .long 97, .long 122]) (rest := []) ⟨hx, hb, hml, hown, hts⟩ (kX7_in l dC dI x1 97 122) (va_cwS 3 hts zgX7_isSmall_X7_in_105 rfl rfl rfl (by decide +kernel) ⟨(show 0 + 1 ≤ 1 by omega), (show 8 + (6 + 11) + 0 ≤ 25 by omega)⟩) (zSr (hK.sub (tys' := []) [] rfl) (hP.sub (ws' := []) [] rfl)) rfl rfl hl.1 rfl (lv_room (Nat.le_of_ble_eq_true rfl)) dX7_isSmall_8 ⟨(show 0 + 0 ≤ 0 by omega), (show 0 + 0 ≤ 0 by omega)⟩) (fun r2 hr2 => ?_)
  have hr2 : r2 = kIn 97 122 p0 := by rw [hr2, ex1]; rfl
  exact W.zret (v := r2) hx hb hr (z_nb (by rw [hr2]; exact kIn_01 _ _ _)) (fun t ht hW => ⟨r2, rfl, hr2, ht⟩) (fun _ h => by cases h) dX7_isSmall_11
theorem dX7_here_0 : decode cX7_here 0 = .ok (.aload_n 0, 1) := by decide +kernel
theorem dX7_here_1 : decode cX7_here 1 = .ok (.getfield 126, 3) := by decide +kernel
theorem dX7_here_4 : decode cX7_here 4 = .ok (.aload_n 0, 1) := by decide +kernel
theorem dX7_here_5 : decode cX7_here 5 = .ok (.getfield 109, 3) := by decide +kernel
theorem dX7_here_8 : decode cX7_here 8 = .ok (.if_icmp .ge 15, 3) := by decide +kernel
theorem dX7_here_11 : decode cX7_here 11 = .ok (.aload_n 0, 1) := by decide +kernel
theorem dX7_here_12 : decode cX7_here 12 = .ok (.getfield 13, 3) := by decide +kernel
theorem dX7_here_15 : decode cX7_here 15 = .ok (.aload_n 0, 1) := by decide +kernel
theorem dX7_here_16 : decode cX7_here 16 = .ok (.getfield 126, 3) := by decide +kernel
theorem dX7_here_19 : decode cX7_here 19 = .ok (.iaload, 1) := by decide +kernel
theorem dX7_here_20 : decode cX7_here 20 = .ok (.goto 4, 3) := by decide +kernel
theorem dX7_here_23 : decode cX7_here 23 = .ok (.iconst 0, 1) := by decide +kernel
theorem dX7_here_24 : decode cX7_here 24 = .ok (.ireturn, 1) := by decide +kernel
def zwX7_here : List Cond := .code yX7_here cX7_here 1 (some .int) :: ([.fieldLink RX7 126 "LinkModelsModel" "at" "I", .fieldLink RX7 109 "LinkModelsModel" "taped" "I", .fieldLink RX7 13 "LinkModelsModel" "tape" "[I"] ++ wsX70)
set_option maxHeartbeats 4000000 in
set_option maxRecDepth 100000 in
theorem kX7_here (l : Launch) (dC : Nat → ClassId) (dI : Nat → Nat → Nat) (h0 : Nat) (r : Nat → Nat) (cI : ClassId) (cJ : ClassId) (cZ : ClassId) (v0 : Int32) (a1 : Nat → Int32) (tp : Nat) (bs : Nat) (cl : Nat → Nat) (a5 : Nat → Int32) (a6 : Nat → Int32) (a7 : Nat → Int32) (fc : Nat → Nat) (a9 : Nat → Int32) (mb : Nat → Nat) (a11 : Nat → Int32) (a12 : Nat → Int32) (a13 : Nat → Int64) (a14 : Nat → Int32) (a15 : Nat → Int32) (a16 : Nat → Int32) (a17 : Nat → Int32) (a18 : Nat → Int32) (a19 : Nat → Int32) (a20 : Nat → Int32) (az : Nat) (v22 : Int32) (v23 : Int32) (v24 : Int64) (v25 : Int32) (v26 : Int32) (bb : Nat) (ct : Nat → Nat) (us : Nat) (a30 : Nat → Int32) (a31 : Nat → Int32) (a32 : Nat → Int32) (a33 : Nat → Int64) (a34 : Nat → Int32) (a35 : Nat → Int32) (a36 : Nat → Int32) (a37 : Nat → Int32) (pil : Nat → Nat) (rwv : Nat → Nat) (rl : Nat) (v41 : Int32) (v42 : Int32) (v43 : Int32) (v44 : Int32) (v45 : Int32) (hI : rWI tp bs cl fc mb az bb ct us pil rwv rl) (hp0 : az ≤ tp) (sz : Nat) : Met l yX7_here zwX7_here ({ frames := 0, cells := 0, slots := 0, locals := 0 }) (zPm dC dI [.ref h0] sz (rW h0 r cI cJ cZ v0 a1 (nI tp) (nI bs) (fun j => nI (cl j)) a5 a6 a7 (fun j => nI (fc j)) a9 (fun j => nI (mb j)) a11 a12 a13 a14 a15 a16 a17 a18 a19 a20 (nI az) v22 v23 v24 v25 v26 (nI bb) (fun j => nI (ct j)) (nI us) a30 a31 a32 a33 a34 a35 a36 a37 (fun j => nI (pil j)) (fun j => nI (rwv j)) (nI rl) v41 v42 v43 v44 v45) [(cI, .int), (cJ, .long), (cZ, .boolean)]) (vp_Si (fun r => (r = if az < tp then a1 az else 0))) 0 0 (fun _ => False) := by
  refine Met.ofW (cc := cX7_here) (maxL := 1) (ret := (some .int)) (by decide) rfl ?_
  intro p e s m args below meth c s₁ B hml hv
  obtain ⟨rfl, hsz, hP, hK, hD0, hL0⟩ := hv
  have hx := B.exec
  have hb := B.bytes
  have hr := B.returns
  have hts := atoms_spec (ws := zwX7_here) B.pre
  have hown : s.vm.findClass RX7 = some m.cls := findClass_of_methodNamed B.named
  have hiX7 : ∀ w ∈ wsX70, w ∈ zwX7_here := (fun _ h => List.mem_cons_of_mem _ (List.mem_append_right _ h))
  obtain ⟨htp, hbs, hus, hcl, hfc, hmb, hct, hpil, hrwv⟩ := hI
  subst hsz
  have hD := hD0.self (sz := s.heap.size)
  generalize hAe : va_A (rW h0 r cI cJ cZ v0 a1 (nI tp) (nI bs) (fun j => nI (cl j)) a5 a6 a7 (fun j => nI (fc j)) a9 (fun j => nI (mb j)) a11 a12 a13 a14 a15 a16 a17 a18 a19 a20 (nI az) v22 v23 v24 v25 v26 (nI bb) (fun j => nI (ct j)) (nI us) a30 a31 a32 a33 a34 a35 a36 a37 (fun j => nI (pil j)) (fun j => nI (rwv j)) (nI rl) v41 v42 v43 v44 v45) s.heap.size = A at hD hL0
  have hA : ∀ q : Nat, s.heap.size ≤ q → A q := fun q h => by rw [← hAe]; exact Or.inr h
  have hS : va_S A s.heap s.heap [] := va_S.rf
  have hL := hL0
  have hl := lv_entry ([.ref h0]) (n := 1) (Nat.le_of_ble_eq_true rfl)
  rw [lg_entry_eq]
  generalize (lg_sl ([.ref h0]) ++ List.replicate (1 - (lg_sl ([.ref h0])).length) Slot.unset).toArray = ls at hl ⊢
  have hl : lv_has ls 1 [(0, .ref h0)] := hl
  refine lv_aload_n hx hb dX7_here_0 rfl (lv_at hl 0 rfl) ?_
  refine va_get (D := (dC, dI)) (ci := 6) (v := .int (nI az)) (C := RX7) (T := TX7) (N := 46) hx hb hts hiX7 hown hK hP 0 rfl rfl 21 (by decide) (hts (.fieldLink RX7 126 "LinkModelsModel" "at" "I") (by decide +kernel)) (fun _ h9 => h9) rfl dX7_here_1 ?_
  refine lv_aload_n hx hb dX7_here_4 rfl (lv_at hl 0 rfl) ?_
  refine va_get (D := (dC, dI)) (ci := 6) (v := .int (nI tp)) (C := RX7) (T := TX7) (N := 46) hx hb hts hiX7 hown hK hP 0 rfl rfl 2 (by decide) (hts (.fieldLink RX7 109 "LinkModelsModel" "taped" "I") (by decide +kernel)) (fun _ h9 => h9) rfl dX7_here_5 ?_
  refine lv_icmp_ge (tgt := 23) hx hb dX7_here_8 (by decide) (fun cp8 => ?_) (fun cp8 => ?_)
  · have qcp8 : tp ≤ az := (nI_leI (a := tp) (b := az) (by omega) (by omega)).mp cp8
    refine lv_iconst (v := 0) hx hb dX7_here_23 (by decide) ?_
    exact W.iret (v := (0 : Int32)) hx hb hr (fun t ht hW => ⟨(0 : Int32), rfl, (by first | rw [if_neg (by omega)] | rw [if_pos (by omega)]), ht⟩) (fun _ h => by cases h) dX7_here_24
  · have qcp8 : ¬ tp ≤ az := fun h9 => cp8 ((nI_leI (a := tp) (b := az) (by omega) (by omega)).mpr h9)
    refine lv_aload_n hx hb dX7_here_11 rfl (lv_at hl 0 rfl) ?_
    refine va_get (D := (dC, dI)) (ci := 6) (v := .ref (r 1)) (C := RX7) (T := TX7) (N := 46) hx hb hts hiX7 hown hK hP 0 rfl rfl 1 (by decide) (hts (.fieldLink RX7 13 "LinkModelsModel" "tape" "[I") (by decide +kernel)) (fun _ h9 => h9) rfl dX7_here_12 ?_
    refine lv_aload_n hx hb dX7_here_15 rfl (lv_at hl 0 rfl) ?_
    refine va_get (D := (dC, dI)) (ci := 6) (v := .int (nI az)) (C := RX7) (T := TX7) (N := 46) hx hb hts hiX7 hown hK hP 0 rfl rfl 21 (by decide) (hts (.fieldLink RX7 126 "LinkModelsModel" "at" "I") (by decide +kernel)) (fun _ h9 => h9) rfl dX7_here_16 ?_
    refine va_iald hx hb hK hP 1 0 rfl rfl (vp_in_nI (show az < 800 by omega) (by decide)) dX7_here_19 ?_
    refine lv_topi (fun x1 ex1 => ?_)
    obtain rfl : x1 = a1 az := by rw [ex1, nI_clamp (show az < 2 ^ 31 by omega)]
    refine lv_goto (tgt := 24) hx hb dX7_here_20 (by decide) ?_
    exact W.iret (v := (a1 az)) hx hb hr (fun t ht hW => ⟨(a1 az), rfl, (by first | rw [if_neg (by omega)] | rw [if_pos (by omega)]), ht⟩) (fun _ h => by cases h) dX7_here_24
theorem dX7_isWord_0 : decode cX7_isWord 0 = .ok (.aload_n 0, 1) := by decide +kernel
theorem dX7_isWord_1 : decode cX7_isWord 1 = .ok (.getfield 136, 3) := by decide +kernel
theorem dX7_isWord_4 : decode cX7_isWord 4 = .ok (.bipush 87, 2) := by decide +kernel
theorem dX7_isWord_6 : decode cX7_isWord 6 = .ok (.if_icmp .ne 16, 3) := by decide +kernel
theorem dX7_isWord_9 : decode cX7_isWord 9 = .ok (.aload_n 0, 1) := by decide +kernel
theorem dX7_isWord_10 : decode cX7_isWord 10 = .ok (.getfield 132, 3) := by decide +kernel
theorem dX7_isWord_13 : decode cX7_isWord 13 = .ok (.lload_n 1, 1) := by decide +kernel
theorem dX7_isWord_14 : decode cX7_isWord 14 = .ok (.lcmp, 1) := by decide +kernel
theorem dX7_isWord_15 : decode cX7_isWord 15 = .ok (.ifCond .ne 7, 3) := by decide +kernel
theorem dX7_isWord_18 : decode cX7_isWord 18 = .ok (.iconst 1, 1) := by decide +kernel
theorem dX7_isWord_19 : decode cX7_isWord 19 = .ok (.goto 4, 3) := by decide +kernel
theorem dX7_isWord_22 : decode cX7_isWord 22 = .ok (.iconst 0, 1) := by decide +kernel
theorem dX7_isWord_23 : decode cX7_isWord 23 = .ok (.ireturn, 1) := by decide +kernel
def zwX7_isWord : List Cond := .code yX7_isWord cX7_isWord 3 (some .boolean) :: ([.fieldLink RX7 136 "LinkModelsModel" "token" "I", .fieldLink RX7 132 "LinkModelsModel" "value" "J"] ++ wsX70)
set_option maxHeartbeats 4000000 in
set_option maxRecDepth 100000 in
theorem kX7_isWord (l : Launch) (dC : Nat → ClassId) (dI : Nat → Nat → Nat) (h0 : Nat) (r : Nat → Nat) (cI : ClassId) (cJ : ClassId) (cZ : ClassId) (v0 : Int32) (a1 : Nat → Int32) (tp : Nat) (bs : Nat) (cl : Nat → Nat) (a5 : Nat → Int32) (a6 : Nat → Int32) (a7 : Nat → Int32) (fc : Nat → Nat) (a9 : Nat → Int32) (mb : Nat → Nat) (a11 : Nat → Int32) (a12 : Nat → Int32) (a13 : Nat → Int64) (a14 : Nat → Int32) (a15 : Nat → Int32) (a16 : Nat → Int32) (a17 : Nat → Int32) (a18 : Nat → Int32) (a19 : Nat → Int32) (a20 : Nat → Int32) (az : Nat) (v22 : Int32) (v23 : Int32) (v24 : Int64) (v25 : Int32) (v26 : Int32) (bb : Nat) (ct : Nat → Nat) (us : Nat) (a30 : Nat → Int32) (a31 : Nat → Int32) (a32 : Nat → Int32) (a33 : Nat → Int64) (a34 : Nat → Int32) (a35 : Nat → Int32) (a36 : Nat → Int32) (a37 : Nat → Int32) (pil : Nat → Nat) (rwv : Nat → Nat) (rl : Nat) (v41 : Int32) (v42 : Int32) (v43 : Int32) (v44 : Int32) (v45 : Int32) (hI : rWI tp bs cl fc mb az bb ct us pil rwv rl) (ww : Int64) (sz : Nat) : Met l yX7_isWord zwX7_isWord ({ frames := 0, cells := 0, slots := 0, locals := 0 }) (zPm dC dI [.ref h0, .long ww] sz (rW h0 r cI cJ cZ v0 a1 (nI tp) (nI bs) (fun j => nI (cl j)) a5 a6 a7 (fun j => nI (fc j)) a9 (fun j => nI (mb j)) a11 a12 a13 a14 a15 a16 a17 a18 a19 a20 (nI az) v22 v23 v24 v25 v26 (nI bb) (fun j => nI (ct j)) (nI us) a30 a31 a32 a33 a34 a35 a36 a37 (fun j => nI (pil j)) (fun j => nI (rwv j)) (nI rl) v41 v42 v43 v44 v45) [(cI, .int), (cJ, .long), (cZ, .boolean)]) (vp_Si (fun r => (r = 0 ∨ r = 1) ∧ (r = 1 → v22 = 87))) 0 0 (fun _ => False) := by
  refine Met.ofW (cc := cX7_isWord) (maxL := 3) (ret := (some .boolean)) (by decide) rfl ?_
  intro p e s m args below meth c s₁ B hml hv
  obtain ⟨rfl, hsz, hP, hK, hD0, hL0⟩ := hv
  have hx := B.exec
  have hb := B.bytes
  have hr := B.returns
  have hts := atoms_spec (ws := zwX7_isWord) B.pre
  have hown : s.vm.findClass RX7 = some m.cls := findClass_of_methodNamed B.named
  have hiX7 : ∀ w ∈ wsX70, w ∈ zwX7_isWord := (fun _ h => List.mem_cons_of_mem _ (List.mem_append_right _ h))
  obtain ⟨htp, hbs, hus, hcl, hfc, hmb, hct, hpil, hrwv⟩ := hI
  subst hsz
  have hD := hD0.self (sz := s.heap.size)
  generalize hAe : va_A (rW h0 r cI cJ cZ v0 a1 (nI tp) (nI bs) (fun j => nI (cl j)) a5 a6 a7 (fun j => nI (fc j)) a9 (fun j => nI (mb j)) a11 a12 a13 a14 a15 a16 a17 a18 a19 a20 (nI az) v22 v23 v24 v25 v26 (nI bb) (fun j => nI (ct j)) (nI us) a30 a31 a32 a33 a34 a35 a36 a37 (fun j => nI (pil j)) (fun j => nI (rwv j)) (nI rl) v41 v42 v43 v44 v45) s.heap.size = A at hD hL0
  have hA : ∀ q : Nat, s.heap.size ≤ q → A q := fun q h => by rw [← hAe]; exact Or.inr h
  have hS : va_S A s.heap s.heap [] := va_S.rf
  have hL := hL0
  have hl := lv_entry ([.ref h0, .long ww]) (n := 3) (Nat.le_of_ble_eq_true rfl)
  rw [lg_entry_eq]
  generalize (lg_sl ([.ref h0, .long ww]) ++ List.replicate (3 - (lg_sl ([.ref h0, .long ww])).length) Slot.unset).toArray = ls at hl ⊢
  have hl : lv_has ls 3 [(0, .ref h0), (1, .long ww)] := hl
  refine lv_aload_n hx hb dX7_isWord_0 rfl (lv_at hl 0 rfl) ?_
  refine va_get (D := (dC, dI)) (ci := 6) (v := .int v22) (C := RX7) (T := TX7) (N := 46) hx hb hts hiX7 hown hK hP 0 rfl rfl 22 (by decide) (hts (.fieldLink RX7 136 "LinkModelsModel" "token" "I") (by decide +kernel)) (fun _ h9 => h9) rfl dX7_isWord_1 ?_
  refine lv_bipush (v := 87) hx hb dX7_isWord_4 (by decide) ?_
  refine lv_icmp_ne (tgt := 22) hx hb dX7_isWord_6 (by decide) (fun cp6 => ?_) (fun cp6 => ?_)
  · refine lv_iconst (v := 0) hx hb dX7_isWord_22 (by decide) ?_
    exact W.zret (v := (0 : Int32)) hx hb hr rfl (fun t ht hW => ⟨(0 : Int32), rfl, ⟨(Or.inl rfl), (by first | (intro h9; exact absurd h9 (by decide)) | (intro _; assumption))⟩, ht⟩) (fun _ h => by cases h) dX7_isWord_23
  · refine lv_aload_n hx hb dX7_isWord_9 rfl (lv_at hl 0 rfl) ?_
    refine va_get (D := (dC, dI)) (ci := 6) (v := .long v24) (C := RX7) (T := TX7) (N := 46) hx hb hts hiX7 hown hK hP 0 rfl rfl 24 (by decide) (hts (.fieldLink RX7 132 "LinkModelsModel" "value" "J") (by decide +kernel)) (fun _ h9 => h9) rfl dX7_isWord_10 ?_
    refine lv_lload_n hx hb dX7_isWord_13 rfl (lv_at hl 1 rfl) ?_
    refine W.lcmp hx hb dX7_isWord_14 ?_
    refine lv_if_ne (tgt := 22) hx hb dX7_isWord_15 (by decide) (fun cp15 => ?_) (fun cp15 => ?_)
    · refine lv_iconst (v := 0) hx hb dX7_isWord_22 (by decide) ?_
      exact W.zret (v := (0 : Int32)) hx hb hr rfl (fun t ht hW => ⟨(0 : Int32), rfl, ⟨(Or.inl rfl), (by first | (intro h9; exact absurd h9 (by decide)) | (intro _; assumption))⟩, ht⟩) (fun _ h => by cases h) dX7_isWord_23
    · refine lv_iconst (v := 1) hx hb dX7_isWord_18 (by decide) ?_
      refine lv_goto (tgt := 23) hx hb dX7_isWord_19 (by decide) ?_
      exact W.zret (v := (1 : Int32)) hx hb hr rfl (fun t ht hW => ⟨(1 : Int32), rfl, ⟨(Or.inr rfl), (by first | (intro h9; exact absurd h9 (by decide)) | (intro _; assumption))⟩, ht⟩) (fun _ h => by cases h) dX7_isWord_23
theorem dX7_fails_0 : decode cX7_fails 0 = .ok (.aload_n 0, 1) := by decide +kernel
theorem dX7_fails_1 : decode cX7_fails 1 = .ok (.getfield 155, 3) := by decide +kernel
theorem dX7_fails_4 : decode cX7_fails 4 = .ok (.ifCond .ne 16, 3) := by decide +kernel
theorem dX7_fails_7 : decode cX7_fails 7 = .ok (.aload_n 0, 1) := by decide +kernel
theorem dX7_fails_8 : decode cX7_fails 8 = .ok (.iload_n 1, 1) := by decide +kernel
theorem dX7_fails_9 : decode cX7_fails 9 = .ok (.putfield 155, 3) := by decide +kernel
theorem dX7_fails_12 : decode cX7_fails 12 = .ok (.aload_n 0, 1) := by decide +kernel
theorem dX7_fails_13 : decode cX7_fails 13 = .ok (.aload_n 0, 1) := by decide +kernel
theorem dX7_fails_14 : decode cX7_fails 14 = .ok (.getfield 129, 3) := by decide +kernel
theorem dX7_fails_17 : decode cX7_fails 17 = .ok (.putfield 158, 3) := by decide +kernel
theorem dX7_fails_20 : decode cX7_fails 20 = .ok (.iconst 0, 1) := by decide +kernel
theorem dX7_fails_21 : decode cX7_fails 21 = .ok (.ireturn, 1) := by decide +kernel
def zwX7_fails : List Cond := .code yX7_fails cX7_fails 2 (some .boolean) :: ([.fieldLink RX7 155 "LinkModelsModel" "fault" "I", .fieldLink RX7 129 "LinkModelsModel" "tokenAt" "I", .fieldLink RX7 158 "LinkModelsModel" "faultAt" "I"] ++ wsX70)
set_option maxHeartbeats 4000000 in
set_option maxRecDepth 100000 in
theorem kX7_fails (l : Launch) (dC : Nat → ClassId) (dI : Nat → Nat → Nat) (h0 : Nat) (r : Nat → Nat) (cI : ClassId) (cJ : ClassId) (cZ : ClassId) (v0 : Int32) (a1 : Nat → Int32) (tp : Nat) (bs : Nat) (cl : Nat → Nat) (a5 : Nat → Int32) (a6 : Nat → Int32) (a7 : Nat → Int32) (fc : Nat → Nat) (a9 : Nat → Int32) (mb : Nat → Nat) (a11 : Nat → Int32) (a12 : Nat → Int32) (a13 : Nat → Int64) (a14 : Nat → Int32) (a15 : Nat → Int32) (a16 : Nat → Int32) (a17 : Nat → Int32) (a18 : Nat → Int32) (a19 : Nat → Int32) (a20 : Nat → Int32) (az : Nat) (v22 : Int32) (v23 : Int32) (v24 : Int64) (v25 : Int32) (v26 : Int32) (bb : Nat) (ct : Nat → Nat) (us : Nat) (a30 : Nat → Int32) (a31 : Nat → Int32) (a32 : Nat → Int32) (a33 : Nat → Int64) (a34 : Nat → Int32) (a35 : Nat → Int32) (a36 : Nat → Int32) (a37 : Nat → Int32) (pil : Nat → Nat) (rwv : Nat → Nat) (rl : Nat) (v41 : Int32) (v42 : Int32) (v43 : Int32) (v44 : Int32) (v45 : Int32) (hI : rWI tp bs cl fc mb az bb ct us pil rwv rl) (pf : Int32) (sz : Nat) : Met l yX7_fails zwX7_fails ({ frames := 0, cells := 0, slots := 0, locals := 0 }) (zPm dC dI [.ref h0, .int pf] sz (rW h0 r cI cJ cZ v0 a1 (nI tp) (nI bs) (fun j => nI (cl j)) a5 a6 a7 (fun j => nI (fc j)) a9 (fun j => nI (mb j)) a11 a12 a13 a14 a15 a16 a17 a18 a19 a20 (nI az) v22 v23 v24 v25 v26 (nI bb) (fun j => nI (ct j)) (nI us) a30 a31 a32 a33 a34 a35 a36 a37 (fun j => nI (pil j)) (fun j => nI (rwv j)) (nI rl) v41 v42 v43 v44 v45) [(cI, .int), (cJ, .long), (cZ, .boolean)]) (va_Qi (fun (r : Int32) (u : Int32 × Int32) => (r = 0 ∨ r = 1) ∧ (r = 0)) (fun u t => zB dC dI (va_A (rW h0 r cI cJ cZ v0 a1 (nI tp) (nI bs) (fun j => nI (cl j)) a5 a6 a7 (fun j => nI (fc j)) a9 (fun j => nI (mb j)) a11 a12 a13 a14 a15 a16 a17 a18 a19 a20 (nI az) v22 v23 v24 v25 v26 (nI bb) (fun j => nI (ct j)) (nI us) a30 a31 a32 a33 a34 a35 a36 a37 (fun j => nI (pil j)) (fun j => nI (rwv j)) (nI rl) v41 v42 v43 v44 v45) sz) (rW h0 r cI cJ cZ v0 a1 (nI tp) (nI bs) (fun j => nI (cl j)) a5 a6 a7 (fun j => nI (fc j)) a9 (fun j => nI (mb j)) a11 a12 a13 a14 a15 a16 a17 a18 a19 a20 (nI az) v22 v23 v24 (u.1) (u.2) (nI bb) (fun j => nI (ct j)) (nI us) a30 a31 a32 a33 a34 a35 a36 a37 (fun j => nI (pil j)) (fun j => nI (rwv j)) (nI rl) v41 v42 v43 v44 v45) [(cI, .int), (cJ, .long), (cZ, .boolean)] t) (va_A (rW h0 r cI cJ cZ v0 a1 (nI tp) (nI bs) (fun j => nI (cl j)) a5 a6 a7 (fun j => nI (fc j)) a9 (fun j => nI (mb j)) a11 a12 a13 a14 a15 a16 a17 a18 a19 a20 (nI az) v22 v23 v24 v25 v26 (nI bb) (fun j => nI (ct j)) (nI us) a30 a31 a32 a33 a34 a35 a36 a37 (fun j => nI (pil j)) (fun j => nI (rwv j)) (nI rl) v41 v42 v43 v44 v45) sz)) 0 0 (va_A (rW h0 r cI cJ cZ v0 a1 (nI tp) (nI bs) (fun j => nI (cl j)) a5 a6 a7 (fun j => nI (fc j)) a9 (fun j => nI (mb j)) a11 a12 a13 a14 a15 a16 a17 a18 a19 a20 (nI az) v22 v23 v24 v25 v26 (nI bb) (fun j => nI (ct j)) (nI us) a30 a31 a32 a33 a34 a35 a36 a37 (fun j => nI (pil j)) (fun j => nI (rwv j)) (nI rl) v41 v42 v43 v44 v45) sz) := by
  refine Met.ofW (cc := cX7_fails) (maxL := 2) (ret := (some .boolean)) (by decide) rfl ?_
  intro p e s m args below meth c s₁ B hml hv
  obtain ⟨rfl, hsz, hP, hK, hD0, hL0⟩ := hv
  have hx := B.exec
  have hb := B.bytes
  have hr := B.returns
  have hts := atoms_spec (ws := zwX7_fails) B.pre
  have hown : s.vm.findClass RX7 = some m.cls := findClass_of_methodNamed B.named
  have hiX7 : ∀ w ∈ wsX70, w ∈ zwX7_fails := (fun _ h => List.mem_cons_of_mem _ (List.mem_append_right _ h))
  obtain ⟨htp, hbs, hus, hcl, hfc, hmb, hct, hpil, hrwv⟩ := hI
  subst hsz
  have hD := hD0.self (sz := s.heap.size)
  generalize hAe : va_A (rW h0 r cI cJ cZ v0 a1 (nI tp) (nI bs) (fun j => nI (cl j)) a5 a6 a7 (fun j => nI (fc j)) a9 (fun j => nI (mb j)) a11 a12 a13 a14 a15 a16 a17 a18 a19 a20 (nI az) v22 v23 v24 v25 v26 (nI bb) (fun j => nI (ct j)) (nI us) a30 a31 a32 a33 a34 a35 a36 a37 (fun j => nI (pil j)) (fun j => nI (rwv j)) (nI rl) v41 v42 v43 v44 v45) s.heap.size = A at hD hL0 ⊢
  have hA : ∀ q : Nat, s.heap.size ≤ q → A q := fun q h => by rw [← hAe]; exact Or.inr h
  have hS : va_S A s.heap s.heap [] := va_S.rf
  have hL := hL0
  have hl := lv_entry ([.ref h0, .int pf]) (n := 2) (Nat.le_of_ble_eq_true rfl)
  rw [lg_entry_eq]
  generalize (lg_sl ([.ref h0, .int pf]) ++ List.replicate (2 - (lg_sl ([.ref h0, .int pf])).length) Slot.unset).toArray = ls at hl ⊢
  have hl : lv_has ls 2 [(0, .ref h0), (1, .int pf)] := hl
  refine lv_aload_n hx hb dX7_fails_0 rfl (lv_at hl 0 rfl) ?_
  refine va_get (D := (dC, dI)) (ci := 6) (v := .int v25) (C := RX7) (T := TX7) (N := 46) hx hb hts hiX7 hown hK hP 0 rfl rfl 25 (by decide) (hts (.fieldLink RX7 155 "LinkModelsModel" "fault" "I") (by decide +kernel)) (fun _ h9 => h9) rfl dX7_fails_1 ?_
  refine lv_if_ne (tgt := 20) hx hb dX7_fails_4 (by decide) (fun cp4 => ?_) (fun cp4 => ?_)
  · refine lv_iconst (v := 0) hx hb dX7_fails_20 (by decide) ?_
    have hP9 : va_P (dC, dI) vwCl (rW h0 r cI cJ cZ v0 a1 (nI tp) (nI bs) (fun j => nI (cl j)) a5 a6 a7 (fun j => nI (fc j)) a9 (fun j => nI (mb j)) a11 a12 a13 a14 a15 a16 a17 a18 a19 a20 (nI az) v22 v23 v24 v25 v26 (nI bb) (fun j => nI (ct j)) (nI us) a30 a31 a32 a33 a34 a35 a36 a37 (fun j => nI (pil j)) (fun j => nI (rwv j)) (nI rl) v41 v42 v43 v44 v45) s.heap := hP
    have hD9 : va_D A (rW h0 r cI cJ cZ v0 a1 (nI tp) (nI bs) (fun j => nI (cl j)) a5 a6 a7 (fun j => nI (fc j)) a9 (fun j => nI (mb j)) a11 a12 a13 a14 a15 a16 a17 a18 a19 a20 (nI az) v22 v23 v24 v25 v26 (nI bb) (fun j => nI (ct j)) (nI us) a30 a31 a32 a33 a34 a35 a36 a37 (fun j => nI (pil j)) (fun j => nI (rwv j)) (nI rl) v41 v42 v43 v44 v45) := hD
    exact W.zret (v := (0 : Int32)) hx hb hr rfl (fun t ht hW => ⟨⟨(0 : Int32), (v25, v26), rfl, ⟨(Or.inl rfl), (by rfl)⟩, by rw [ht]; exact hP9, va_K.moved hW.alike hK, hD9⟩, hS.F ht⟩) hS.2.2 dX7_fails_21
  · refine lv_aload_n hx hb dX7_fails_7 rfl (lv_at hl 0 rfl) ?_
    refine lv_iload_n hx hb dX7_fails_8 rfl (lv_at hl 1 rfl) ?_
    refine va_put (D := (dC, dI)) (ci := 6) (v := .int pf) (ty := (.int)) (C := RX7) (T := TX7) (N := 46) hx hb hts hiX7 tyX7 tyX7_ok nmX7 hown hK hP hD hS 0 rfl rfl 25 (by decide) (hts (.fieldLink RX7 155 "LinkModelsModel" "fault" "I") (by decide +kernel)) (fun _ h9 => h9) rfl (by decide +kernel) rfl rfl (Nat.le_of_ble_eq_true rfl) dX7_fails_9 (fun H locs hP hD hS => ?_)
    have hP : va_P (dC, dI) vwCl (rW h0 r cI cJ cZ v0 a1 (nI tp) (nI bs) (fun j => nI (cl j)) a5 a6 a7 (fun j => nI (fc j)) a9 (fun j => nI (mb j)) a11 a12 a13 a14 a15 a16 a17 a18 a19 a20 (nI az) v22 v23 v24 pf v26 (nI bb) (fun j => nI (ct j)) (nI us) a30 a31 a32 a33 a34 a35 a36 a37 (fun j => nI (pil j)) (fun j => nI (rwv j)) (nI rl) v41 v42 v43 v44 v45) H := hP
    have hD : va_D A (rW h0 r cI cJ cZ v0 a1 (nI tp) (nI bs) (fun j => nI (cl j)) a5 a6 a7 (fun j => nI (fc j)) a9 (fun j => nI (mb j)) a11 a12 a13 a14 a15 a16 a17 a18 a19 a20 (nI az) v22 v23 v24 pf v26 (nI bb) (fun j => nI (ct j)) (nI us) a30 a31 a32 a33 a34 a35 a36 a37 (fun j => nI (pil j)) (fun j => nI (rwv j)) (nI rl) v41 v42 v43 v44 v45) := hD
    refine lv_aload_n hx hb dX7_fails_12 rfl (lv_at hl 0 rfl) ?_
    refine lv_aload_n hx hb dX7_fails_13 rfl (lv_at hl 0 rfl) ?_
    refine va_get (D := (dC, dI)) (ci := 6) (v := .int v23) (C := RX7) (T := TX7) (N := 46) hx hb hts hiX7 hown hK hP 0 rfl rfl 23 (by decide) (hts (.fieldLink RX7 129 "LinkModelsModel" "tokenAt" "I") (by decide +kernel)) (fun _ h9 => h9) rfl dX7_fails_14 ?_
    refine va_put (D := (dC, dI)) (ci := 6) (v := .int v23) (ty := (.int)) (C := RX7) (T := TX7) (N := 46) hx hb hts hiX7 tyX7 tyX7_ok nmX7 hown hK hP hD hS 0 rfl rfl 26 (by decide) (hts (.fieldLink RX7 158 "LinkModelsModel" "faultAt" "I") (by decide +kernel)) (fun _ h9 => h9) rfl (by decide +kernel) rfl rfl (Nat.le_of_ble_eq_true rfl) dX7_fails_17 (fun H locs hP hD hS => ?_)
    have hP : va_P (dC, dI) vwCl (rW h0 r cI cJ cZ v0 a1 (nI tp) (nI bs) (fun j => nI (cl j)) a5 a6 a7 (fun j => nI (fc j)) a9 (fun j => nI (mb j)) a11 a12 a13 a14 a15 a16 a17 a18 a19 a20 (nI az) v22 v23 v24 pf v23 (nI bb) (fun j => nI (ct j)) (nI us) a30 a31 a32 a33 a34 a35 a36 a37 (fun j => nI (pil j)) (fun j => nI (rwv j)) (nI rl) v41 v42 v43 v44 v45) H := hP
    have hD : va_D A (rW h0 r cI cJ cZ v0 a1 (nI tp) (nI bs) (fun j => nI (cl j)) a5 a6 a7 (fun j => nI (fc j)) a9 (fun j => nI (mb j)) a11 a12 a13 a14 a15 a16 a17 a18 a19 a20 (nI az) v22 v23 v24 pf v23 (nI bb) (fun j => nI (ct j)) (nI us) a30 a31 a32 a33 a34 a35 a36 a37 (fun j => nI (pil j)) (fun j => nI (rwv j)) (nI rl) v41 v42 v43 v44 v45) := hD
    refine lv_iconst (v := 0) hx hb dX7_fails_20 (by decide) ?_
    have hP9 : va_P (dC, dI) vwCl (rW h0 r cI cJ cZ v0 a1 (nI tp) (nI bs) (fun j => nI (cl j)) a5 a6 a7 (fun j => nI (fc j)) a9 (fun j => nI (mb j)) a11 a12 a13 a14 a15 a16 a17 a18 a19 a20 (nI az) v22 v23 v24 pf v23 (nI bb) (fun j => nI (ct j)) (nI us) a30 a31 a32 a33 a34 a35 a36 a37 (fun j => nI (pil j)) (fun j => nI (rwv j)) (nI rl) v41 v42 v43 v44 v45) H := hP
    have hD9 : va_D A (rW h0 r cI cJ cZ v0 a1 (nI tp) (nI bs) (fun j => nI (cl j)) a5 a6 a7 (fun j => nI (fc j)) a9 (fun j => nI (mb j)) a11 a12 a13 a14 a15 a16 a17 a18 a19 a20 (nI az) v22 v23 v24 pf v23 (nI bb) (fun j => nI (ct j)) (nI us) a30 a31 a32 a33 a34 a35 a36 a37 (fun j => nI (pil j)) (fun j => nI (rwv j)) (nI rl) v41 v42 v43 v44 v45) := hD
    exact W.zret (v := (0 : Int32)) hx hb hr rfl (fun t ht hW => ⟨⟨(0 : Int32), (pf, v23), rfl, ⟨(Or.inl rfl), (by rfl)⟩, by rw [ht]; exact hP9, va_K.moved hW.alike hK, hD9⟩, hS.F ht⟩) hS.2.2 dX7_fails_21
theorem dX7_isKept_0 : decode cX7_isKept 0 = .ok (.aload_n 0, 1) := by decide +kernel
theorem dX7_isKept_1 : decode cX7_isKept 1 = .ok (.getstatic 161, 3) := by decide +kernel
theorem dX7_isKept_4 : decode cX7_isKept 4 = .ok (.invokevirtual 164, 3) := by decide +kernel
theorem dX7_isKept_7 : decode cX7_isKept 7 = .ok (.ifCond .ne 83, 3) := by decide +kernel
theorem dX7_isKept_10 : decode cX7_isKept 10 = .ok (.aload_n 0, 1) := by decide +kernel
theorem dX7_isKept_11 : decode cX7_isKept 11 = .ok (.getstatic 168, 3) := by decide +kernel
theorem dX7_isKept_14 : decode cX7_isKept 14 = .ok (.invokevirtual 164, 3) := by decide +kernel
theorem dX7_isKept_17 : decode cX7_isKept 17 = .ok (.ifCond .ne 73, 3) := by decide +kernel
theorem dX7_isKept_20 : decode cX7_isKept 20 = .ok (.aload_n 0, 1) := by decide +kernel
theorem dX7_isKept_21 : decode cX7_isKept 21 = .ok (.getstatic 171, 3) := by decide +kernel
theorem dX7_isKept_24 : decode cX7_isKept 24 = .ok (.invokevirtual 164, 3) := by decide +kernel
theorem dX7_isKept_27 : decode cX7_isKept 27 = .ok (.ifCond .ne 63, 3) := by decide +kernel
theorem dX7_isKept_30 : decode cX7_isKept 30 = .ok (.aload_n 0, 1) := by decide +kernel
theorem dX7_isKept_31 : decode cX7_isKept 31 = .ok (.getstatic 174, 3) := by decide +kernel
theorem dX7_isKept_34 : decode cX7_isKept 34 = .ok (.invokevirtual 164, 3) := by decide +kernel
theorem dX7_isKept_37 : decode cX7_isKept 37 = .ok (.ifCond .ne 53, 3) := by decide +kernel
theorem dX7_isKept_40 : decode cX7_isKept 40 = .ok (.aload_n 0, 1) := by decide +kernel
theorem dX7_isKept_41 : decode cX7_isKept 41 = .ok (.getstatic 177, 3) := by decide +kernel
theorem dX7_isKept_44 : decode cX7_isKept 44 = .ok (.invokevirtual 164, 3) := by decide +kernel
theorem dX7_isKept_47 : decode cX7_isKept 47 = .ok (.ifCond .ne 43, 3) := by decide +kernel
theorem dX7_isKept_50 : decode cX7_isKept 50 = .ok (.aload_n 0, 1) := by decide +kernel
theorem dX7_isKept_51 : decode cX7_isKept 51 = .ok (.getstatic 180, 3) := by decide +kernel
theorem dX7_isKept_54 : decode cX7_isKept 54 = .ok (.invokevirtual 164, 3) := by decide +kernel
theorem dX7_isKept_57 : decode cX7_isKept 57 = .ok (.ifCond .ne 33, 3) := by decide +kernel
theorem dX7_isKept_60 : decode cX7_isKept 60 = .ok (.aload_n 0, 1) := by decide +kernel
theorem dX7_isKept_61 : decode cX7_isKept 61 = .ok (.getstatic 183, 3) := by decide +kernel
theorem dX7_isKept_64 : decode cX7_isKept 64 = .ok (.invokevirtual 164, 3) := by decide +kernel
theorem dX7_isKept_67 : decode cX7_isKept 67 = .ok (.ifCond .ne 23, 3) := by decide +kernel
theorem dX7_isKept_70 : decode cX7_isKept 70 = .ok (.aload_n 0, 1) := by decide +kernel
theorem dX7_isKept_71 : decode cX7_isKept 71 = .ok (.getstatic 186, 3) := by decide +kernel
theorem dX7_isKept_74 : decode cX7_isKept 74 = .ok (.invokevirtual 164, 3) := by decide +kernel
theorem dX7_isKept_77 : decode cX7_isKept 77 = .ok (.ifCond .ne 13, 3) := by decide +kernel
theorem dX7_isKept_80 : decode cX7_isKept 80 = .ok (.aload_n 0, 1) := by decide +kernel
theorem dX7_isKept_81 : decode cX7_isKept 81 = .ok (.getstatic 189, 3) := by decide +kernel
theorem dX7_isKept_84 : decode cX7_isKept 84 = .ok (.invokevirtual 164, 3) := by decide +kernel
theorem dX7_isKept_87 : decode cX7_isKept 87 = .ok (.ifCond .eq 7, 3) := by decide +kernel
theorem dX7_isKept_90 : decode cX7_isKept 90 = .ok (.iconst 1, 1) := by decide +kernel
theorem dX7_isKept_91 : decode cX7_isKept 91 = .ok (.goto 4, 3) := by decide +kernel
theorem dX7_isKept_94 : decode cX7_isKept 94 = .ok (.iconst 0, 1) := by decide +kernel
theorem dX7_isKept_95 : decode cX7_isKept 95 = .ok (.ireturn, 1) := by decide +kernel
def zwX7_isKept : List Cond := .code yX7_isKept cX7_isKept 1 (some .boolean) :: ([.fieldLink RX7 161 "LinkModelsModel" "CLASS" "J", .fieldLink RX7 168 "LinkModelsModel" "FINAL_WORD" "J", .fieldLink RX7 171 "LinkModelsModel" "INT" "J", .fieldLink RX7 174 "LinkModelsModel" "LONG" "J", .fieldLink RX7 177 "LinkModelsModel" "VOID" "J", .fieldLink RX7 180 "LinkModelsModel" "FACE_WORD" "J", .fieldLink RX7 183 "LinkModelsModel" "STATIC_WORD" "J", .fieldLink RX7 186 "LinkModelsModel" "HIDDEN_WORD" "J", .fieldLink RX7 189 "LinkModelsModel" "ABSTRACT_WORD" "J", .methodLink RX7 164 yX7_isWord, .instanceMethod yX7_isWord, .selects RX7 yX7_isWord yX7_isWord, .initialized RX7, .code yX7_isWord cX7_isWord 3 (some .boolean), .fieldLink RX7 136 "LinkModelsModel" "token" "I", .fieldLink RX7 132 "LinkModelsModel" "value" "J"] ++ wsX70)
theorem zgX7_isKept_X7_isWord_164 : GoodIn zwX7_isKept (wsV RX7 164 RX7 yX7_isWord zwX7_isWord) := goodIn_app (goodIn_of _ (by decide +kernel)) (goodIn_ca (goodIn_of _ (by decide +kernel)) (zgt zg7))
set_option maxHeartbeats 4000000 in
set_option maxRecDepth 100000 in
theorem kX7_isKept (l : Launch) (dC : Nat → ClassId) (dI : Nat → Nat → Nat) (h0 : Nat) (r : Nat → Nat) (cI : ClassId) (cJ : ClassId) (cZ : ClassId) (v0 : Int32) (a1 : Nat → Int32) (tp : Nat) (bs : Nat) (cl : Nat → Nat) (a5 : Nat → Int32) (a6 : Nat → Int32) (a7 : Nat → Int32) (fc : Nat → Nat) (a9 : Nat → Int32) (mb : Nat → Nat) (a11 : Nat → Int32) (a12 : Nat → Int32) (a13 : Nat → Int64) (a14 : Nat → Int32) (a15 : Nat → Int32) (a16 : Nat → Int32) (a17 : Nat → Int32) (a18 : Nat → Int32) (a19 : Nat → Int32) (a20 : Nat → Int32) (az : Nat) (v22 : Int32) (v23 : Int32) (v24 : Int64) (v25 : Int32) (v26 : Int32) (bb : Nat) (ct : Nat → Nat) (us : Nat) (a30 : Nat → Int32) (a31 : Nat → Int32) (a32 : Nat → Int32) (a33 : Nat → Int64) (a34 : Nat → Int32) (a35 : Nat → Int32) (a36 : Nat → Int32) (a37 : Nat → Int32) (pil : Nat → Nat) (rwv : Nat → Nat) (rl : Nat) (v41 : Int32) (v42 : Int32) (v43 : Int32) (v44 : Int32) (v45 : Int32) (hI : rWI tp bs cl fc mb az bb ct us pil rwv rl) (sz : Nat) : Met l yX7_isKept zwX7_isKept ({ frames := 1, cells := 0, slots := 0, locals := 22 }) (zPm dC dI [.ref h0] sz (rW h0 r cI cJ cZ v0 a1 (nI tp) (nI bs) (fun j => nI (cl j)) a5 a6 a7 (fun j => nI (fc j)) a9 (fun j => nI (mb j)) a11 a12 a13 a14 a15 a16 a17 a18 a19 a20 (nI az) v22 v23 v24 v25 v26 (nI bb) (fun j => nI (ct j)) (nI us) a30 a31 a32 a33 a34 a35 a36 a37 (fun j => nI (pil j)) (fun j => nI (rwv j)) (nI rl) v41 v42 v43 v44 v45) [(cI, .int), (cJ, .long), (cZ, .boolean)]) (vp_Si (fun r => (r = 0 ∨ r = 1))) 0 0 (fun _ => False) := by
  refine Met.ofW (cc := cX7_isKept) (maxL := 1) (ret := (some .boolean)) (by decide) rfl ?_
  intro p e s m args below meth c s₁ B hml hv
  obtain ⟨rfl, hsz, hP, hK, hD0, hL0⟩ := hv
  have hx := B.exec
  have hb := B.bytes
  have hr := B.returns
  have hts := atoms_spec (ws := zwX7_isKept) B.pre
  have hown : s.vm.findClass RX7 = some m.cls := findClass_of_methodNamed B.named
  obtain ⟨htp, hbs, hus, hcl, hfc, hmb, hct, hpil, hrwv⟩ := hI
  subst hsz
  have hD := hD0.self (sz := s.heap.size)
  generalize hAe : va_A (rW h0 r cI cJ cZ v0 a1 (nI tp) (nI bs) (fun j => nI (cl j)) a5 a6 a7 (fun j => nI (fc j)) a9 (fun j => nI (mb j)) a11 a12 a13 a14 a15 a16 a17 a18 a19 a20 (nI az) v22 v23 v24 v25 v26 (nI bb) (fun j => nI (ct j)) (nI us) a30 a31 a32 a33 a34 a35 a36 a37 (fun j => nI (pil j)) (fun j => nI (rwv j)) (nI rl) v41 v42 v43 v44 v45) s.heap.size = A at hD hL0
  have hA : ∀ q : Nat, s.heap.size ≤ q → A q := fun q h => by rw [← hAe]; exact Or.inr h
  have hS : va_S A s.heap s.heap [] := va_S.rf
  have hL := hL0
  have hl := lv_entry ([.ref h0]) (n := 1) (Nat.le_of_ble_eq_true rfl)
  rw [lg_entry_eq]
  generalize (lg_sl ([.ref h0]) ++ List.replicate (1 - (lg_sl ([.ref h0])).length) Slot.unset).toArray = ls at hl ⊢
  have hl : lv_has ls 1 [(0, .ref h0)] := hl
  refine lv_aload_n hx hb dX7_isKept_0 rfl (lv_at hl 0 rfl) ?_
  obtain ⟨x1, hZ9⟩ := zL_0 hL
  refine va_gets hx hb hZ9 (va_S.rf) hown (hts (.fieldLink RX7 161 "LinkModelsModel" "CLASS" "J") (by decide +kernel)) (fun _ h9 => h9) dX7_isKept_1 ?_
  have hFc := z_freeW hD hS hA
  refine vp_callSi (W.runV (As := [.long x1]) (rest := []) ⟨hx, hb, hml, hown, hts⟩ (kX7_isWord l dC dI h0 r cI cJ cZ v0 a1 tp bs cl a5 a6 a7 fc a9 mb a11 a12 a13 a14 a15 a16 a17 a18 a19 a20 az v22 v23 v24 v25 v26 bb ct us a30 a31 a32 a33 a34 a35 a36 a37 pil rwv rl v41 v42 v43 v44 v45 ⟨by omega, by omega, by omega, hcl, hfc, hmb, hct, hpil, hrwv⟩ x1 s.heap.size) (cwV 1 hts zgX7_isKept_X7_isWord_164 rfl rfl rfl (by decide +kernel) ⟨(show 0 + 1 ≤ 1 by omega), (show 8 + (3 + 11) + 0 ≤ 22 by omega)⟩) (zVm (ci := 6) (q0 := 0) (q := (RX7, TX7, 46)) hK hP hD hL hS.2.1 hFc rfl rfl rfl) rfl rfl hl.1 rfl (lv_room (Nat.le_of_ble_eq_true rfl)) dX7_isKept_4 ⟨(show 0 + 0 ≤ 0 by omega), (show 0 + 0 ≤ 0 by omega)⟩) (fun r2 hw => ?_)
  have hw : (r2 = 0 ∨ r2 = 1) ∧ (r2 = 1 → v22 = 87) := hw
  obtain ⟨w0r2, w1r2⟩ := hw
  refine lv_if_ne (tgt := 90) hx hb dX7_isKept_7 (by decide) (fun cp7 => ?_) (fun cp7 => ?_)
  · refine lv_iconst (v := 1) hx hb dX7_isKept_90 (by decide) ?_
    refine lv_goto (tgt := 95) hx hb dX7_isKept_91 (by decide) ?_
    exact W.zret (v := (1 : Int32)) hx hb hr rfl (fun t ht hW => ⟨(1 : Int32), rfl, (Or.inr rfl), ht⟩) (fun _ h => by cases h) dX7_isKept_95
  · refine lv_aload_n hx hb dX7_isKept_10 rfl (lv_at hl 0 rfl) ?_
    obtain ⟨x3, hZ9⟩ := zL_1 hL
    refine va_gets hx hb hZ9 (va_S.rf) hown (hts (.fieldLink RX7 168 "LinkModelsModel" "FINAL_WORD" "J") (by decide +kernel)) (fun _ h9 => h9) dX7_isKept_11 ?_
    have hFc := z_freeW hD hS hA
    refine vp_callSi (W.runV (As := [.long x3]) (rest := []) ⟨hx, hb, hml, hown, hts⟩ (kX7_isWord l dC dI h0 r cI cJ cZ v0 a1 tp bs cl a5 a6 a7 fc a9 mb a11 a12 a13 a14 a15 a16 a17 a18 a19 a20 az v22 v23 v24 v25 v26 bb ct us a30 a31 a32 a33 a34 a35 a36 a37 pil rwv rl v41 v42 v43 v44 v45 ⟨by omega, by omega, by omega, hcl, hfc, hmb, hct, hpil, hrwv⟩ x3 s.heap.size) (cwV 1 hts zgX7_isKept_X7_isWord_164 rfl rfl rfl (by decide +kernel) ⟨(show 0 + 1 ≤ 1 by omega), (show 8 + (3 + 11) + 0 ≤ 22 by omega)⟩) (zVm (ci := 6) (q0 := 0) (q := (RX7, TX7, 46)) hK hP hD hL hS.2.1 hFc rfl rfl rfl) rfl rfl hl.1 rfl (lv_room (Nat.le_of_ble_eq_true rfl)) dX7_isKept_14 ⟨(show 0 + 0 ≤ 0 by omega), (show 0 + 0 ≤ 0 by omega)⟩) (fun r4 hw => ?_)
    have hw : (r4 = 0 ∨ r4 = 1) ∧ (r4 = 1 → v22 = 87) := hw
    obtain ⟨w0r4, w1r4⟩ := hw
    refine lv_if_ne (tgt := 90) hx hb dX7_isKept_17 (by decide) (fun cp17 => ?_) (fun cp17 => ?_)
    · refine lv_iconst (v := 1) hx hb dX7_isKept_90 (by decide) ?_
      refine lv_goto (tgt := 95) hx hb dX7_isKept_91 (by decide) ?_
      exact W.zret (v := (1 : Int32)) hx hb hr rfl (fun t ht hW => ⟨(1 : Int32), rfl, (Or.inr rfl), ht⟩) (fun _ h => by cases h) dX7_isKept_95
    · refine lv_aload_n hx hb dX7_isKept_20 rfl (lv_at hl 0 rfl) ?_
      obtain ⟨x5, hZ9⟩ := zL_2 hL
      refine va_gets hx hb hZ9 (va_S.rf) hown (hts (.fieldLink RX7 171 "LinkModelsModel" "INT" "J") (by decide +kernel)) (fun _ h9 => h9) dX7_isKept_21 ?_
      have hFc := z_freeW hD hS hA
      refine vp_callSi (W.runV (As := [.long x5]) (rest := []) ⟨hx, hb, hml, hown, hts⟩ (kX7_isWord l dC dI h0 r cI cJ cZ v0 a1 tp bs cl a5 a6 a7 fc a9 mb a11 a12 a13 a14 a15 a16 a17 a18 a19 a20 az v22 v23 v24 v25 v26 bb ct us a30 a31 a32 a33 a34 a35 a36 a37 pil rwv rl v41 v42 v43 v44 v45 ⟨by omega, by omega, by omega, hcl, hfc, hmb, hct, hpil, hrwv⟩ x5 s.heap.size) (cwV 1 hts zgX7_isKept_X7_isWord_164 rfl rfl rfl (by decide +kernel) ⟨(show 0 + 1 ≤ 1 by omega), (show 8 + (3 + 11) + 0 ≤ 22 by omega)⟩) (zVm (ci := 6) (q0 := 0) (q := (RX7, TX7, 46)) hK hP hD hL hS.2.1 hFc rfl rfl rfl) rfl rfl hl.1 rfl (lv_room (Nat.le_of_ble_eq_true rfl)) dX7_isKept_24 ⟨(show 0 + 0 ≤ 0 by omega), (show 0 + 0 ≤ 0 by omega)⟩) (fun r6 hw => ?_)
      have hw : (r6 = 0 ∨ r6 = 1) ∧ (r6 = 1 → v22 = 87) := hw
      obtain ⟨w0r6, w1r6⟩ := hw
      refine lv_if_ne (tgt := 90) hx hb dX7_isKept_27 (by decide) (fun cp27 => ?_) (fun cp27 => ?_)
      · refine lv_iconst (v := 1) hx hb dX7_isKept_90 (by decide) ?_
        refine lv_goto (tgt := 95) hx hb dX7_isKept_91 (by decide) ?_
        exact W.zret (v := (1 : Int32)) hx hb hr rfl (fun t ht hW => ⟨(1 : Int32), rfl, (Or.inr rfl), ht⟩) (fun _ h => by cases h) dX7_isKept_95
      · refine lv_aload_n hx hb dX7_isKept_30 rfl (lv_at hl 0 rfl) ?_
        obtain ⟨x7, hZ9⟩ := zL_3 hL
        refine va_gets hx hb hZ9 (va_S.rf) hown (hts (.fieldLink RX7 174 "LinkModelsModel" "LONG" "J") (by decide +kernel)) (fun _ h9 => h9) dX7_isKept_31 ?_
        have hFc := z_freeW hD hS hA
        refine vp_callSi (W.runV (As := [.long x7]) (rest := []) ⟨hx, hb, hml, hown, hts⟩ (kX7_isWord l dC dI h0 r cI cJ cZ v0 a1 tp bs cl a5 a6 a7 fc a9 mb a11 a12 a13 a14 a15 a16 a17 a18 a19 a20 az v22 v23 v24 v25 v26 bb ct us a30 a31 a32 a33 a34 a35 a36 a37 pil rwv rl v41 v42 v43 v44 v45 ⟨by omega, by omega, by omega, hcl, hfc, hmb, hct, hpil, hrwv⟩ x7 s.heap.size) (cwV 1 hts zgX7_isKept_X7_isWord_164 rfl rfl rfl (by decide +kernel) ⟨(show 0 + 1 ≤ 1 by omega), (show 8 + (3 + 11) + 0 ≤ 22 by omega)⟩) (zVm (ci := 6) (q0 := 0) (q := (RX7, TX7, 46)) hK hP hD hL hS.2.1 hFc rfl rfl rfl) rfl rfl hl.1 rfl (lv_room (Nat.le_of_ble_eq_true rfl)) dX7_isKept_34 ⟨(show 0 + 0 ≤ 0 by omega), (show 0 + 0 ≤ 0 by omega)⟩) (fun r8 hw => ?_)
        have hw : (r8 = 0 ∨ r8 = 1) ∧ (r8 = 1 → v22 = 87) := hw
        obtain ⟨w0r8, w1r8⟩ := hw
        refine lv_if_ne (tgt := 90) hx hb dX7_isKept_37 (by decide) (fun cp37 => ?_) (fun cp37 => ?_)
        · refine lv_iconst (v := 1) hx hb dX7_isKept_90 (by decide) ?_
          refine lv_goto (tgt := 95) hx hb dX7_isKept_91 (by decide) ?_
          exact W.zret (v := (1 : Int32)) hx hb hr rfl (fun t ht hW => ⟨(1 : Int32), rfl, (Or.inr rfl), ht⟩) (fun _ h => by cases h) dX7_isKept_95
        · refine lv_aload_n hx hb dX7_isKept_40 rfl (lv_at hl 0 rfl) ?_
          obtain ⟨x9, hZ9⟩ := zL_4 hL
          refine va_gets hx hb hZ9 (va_S.rf) hown (hts (.fieldLink RX7 177 "LinkModelsModel" "VOID" "J") (by decide +kernel)) (fun _ h9 => h9) dX7_isKept_41 ?_
          have hFc := z_freeW hD hS hA
          refine vp_callSi (W.runV (As := [.long x9]) (rest := []) ⟨hx, hb, hml, hown, hts⟩ (kX7_isWord l dC dI h0 r cI cJ cZ v0 a1 tp bs cl a5 a6 a7 fc a9 mb a11 a12 a13 a14 a15 a16 a17 a18 a19 a20 az v22 v23 v24 v25 v26 bb ct us a30 a31 a32 a33 a34 a35 a36 a37 pil rwv rl v41 v42 v43 v44 v45 ⟨by omega, by omega, by omega, hcl, hfc, hmb, hct, hpil, hrwv⟩ x9 s.heap.size) (cwV 1 hts zgX7_isKept_X7_isWord_164 rfl rfl rfl (by decide +kernel) ⟨(show 0 + 1 ≤ 1 by omega), (show 8 + (3 + 11) + 0 ≤ 22 by omega)⟩) (zVm (ci := 6) (q0 := 0) (q := (RX7, TX7, 46)) hK hP hD hL hS.2.1 hFc rfl rfl rfl) rfl rfl hl.1 rfl (lv_room (Nat.le_of_ble_eq_true rfl)) dX7_isKept_44 ⟨(show 0 + 0 ≤ 0 by omega), (show 0 + 0 ≤ 0 by omega)⟩) (fun r10 hw => ?_)
          have hw : (r10 = 0 ∨ r10 = 1) ∧ (r10 = 1 → v22 = 87) := hw
          obtain ⟨w0r10, w1r10⟩ := hw
          refine lv_if_ne (tgt := 90) hx hb dX7_isKept_47 (by decide) (fun cp47 => ?_) (fun cp47 => ?_)
          · refine lv_iconst (v := 1) hx hb dX7_isKept_90 (by decide) ?_
            refine lv_goto (tgt := 95) hx hb dX7_isKept_91 (by decide) ?_
            exact W.zret (v := (1 : Int32)) hx hb hr rfl (fun t ht hW => ⟨(1 : Int32), rfl, (Or.inr rfl), ht⟩) (fun _ h => by cases h) dX7_isKept_95
          · refine lv_aload_n hx hb dX7_isKept_50 rfl (lv_at hl 0 rfl) ?_
            obtain ⟨x11, hZ9⟩ := zL_5 hL
            refine va_gets hx hb hZ9 (va_S.rf) hown (hts (.fieldLink RX7 180 "LinkModelsModel" "FACE_WORD" "J") (by decide +kernel)) (fun _ h9 => h9) dX7_isKept_51 ?_
            have hFc := z_freeW hD hS hA
            refine vp_callSi (W.runV (As := [.long x11]) (rest := []) ⟨hx, hb, hml, hown, hts⟩ (kX7_isWord l dC dI h0 r cI cJ cZ v0 a1 tp bs cl a5 a6 a7 fc a9 mb a11 a12 a13 a14 a15 a16 a17 a18 a19 a20 az v22 v23 v24 v25 v26 bb ct us a30 a31 a32 a33 a34 a35 a36 a37 pil rwv rl v41 v42 v43 v44 v45 ⟨by omega, by omega, by omega, hcl, hfc, hmb, hct, hpil, hrwv⟩ x11 s.heap.size) (cwV 1 hts zgX7_isKept_X7_isWord_164 rfl rfl rfl (by decide +kernel) ⟨(show 0 + 1 ≤ 1 by omega), (show 8 + (3 + 11) + 0 ≤ 22 by omega)⟩) (zVm (ci := 6) (q0 := 0) (q := (RX7, TX7, 46)) hK hP hD hL hS.2.1 hFc rfl rfl rfl) rfl rfl hl.1 rfl (lv_room (Nat.le_of_ble_eq_true rfl)) dX7_isKept_54 ⟨(show 0 + 0 ≤ 0 by omega), (show 0 + 0 ≤ 0 by omega)⟩) (fun r12 hw => ?_)
            have hw : (r12 = 0 ∨ r12 = 1) ∧ (r12 = 1 → v22 = 87) := hw
            obtain ⟨w0r12, w1r12⟩ := hw
            refine lv_if_ne (tgt := 90) hx hb dX7_isKept_57 (by decide) (fun cp57 => ?_) (fun cp57 => ?_)
            · refine lv_iconst (v := 1) hx hb dX7_isKept_90 (by decide) ?_
              refine lv_goto (tgt := 95) hx hb dX7_isKept_91 (by decide) ?_
              exact W.zret (v := (1 : Int32)) hx hb hr rfl (fun t ht hW => ⟨(1 : Int32), rfl, (Or.inr rfl), ht⟩) (fun _ h => by cases h) dX7_isKept_95
            · refine lv_aload_n hx hb dX7_isKept_60 rfl (lv_at hl 0 rfl) ?_
              obtain ⟨x13, hZ9⟩ := zL_6 hL
              refine va_gets hx hb hZ9 (va_S.rf) hown (hts (.fieldLink RX7 183 "LinkModelsModel" "STATIC_WORD" "J") (by decide +kernel)) (fun _ h9 => h9) dX7_isKept_61 ?_
              have hFc := z_freeW hD hS hA
              refine vp_callSi (W.runV (As := [.long x13]) (rest := []) ⟨hx, hb, hml, hown, hts⟩ (kX7_isWord l dC dI h0 r cI cJ cZ v0 a1 tp bs cl a5 a6 a7 fc a9 mb a11 a12 a13 a14 a15 a16 a17 a18 a19 a20 az v22 v23 v24 v25 v26 bb ct us a30 a31 a32 a33 a34 a35 a36 a37 pil rwv rl v41 v42 v43 v44 v45 ⟨by omega, by omega, by omega, hcl, hfc, hmb, hct, hpil, hrwv⟩ x13 s.heap.size) (cwV 1 hts zgX7_isKept_X7_isWord_164 rfl rfl rfl (by decide +kernel) ⟨(show 0 + 1 ≤ 1 by omega), (show 8 + (3 + 11) + 0 ≤ 22 by omega)⟩) (zVm (ci := 6) (q0 := 0) (q := (RX7, TX7, 46)) hK hP hD hL hS.2.1 hFc rfl rfl rfl) rfl rfl hl.1 rfl (lv_room (Nat.le_of_ble_eq_true rfl)) dX7_isKept_64 ⟨(show 0 + 0 ≤ 0 by omega), (show 0 + 0 ≤ 0 by omega)⟩) (fun r14 hw => ?_)
              have hw : (r14 = 0 ∨ r14 = 1) ∧ (r14 = 1 → v22 = 87) := hw
              obtain ⟨w0r14, w1r14⟩ := hw
              refine lv_if_ne (tgt := 90) hx hb dX7_isKept_67 (by decide) (fun cp67 => ?_) (fun cp67 => ?_)
              · refine lv_iconst (v := 1) hx hb dX7_isKept_90 (by decide) ?_
                refine lv_goto (tgt := 95) hx hb dX7_isKept_91 (by decide) ?_
                exact W.zret (v := (1 : Int32)) hx hb hr rfl (fun t ht hW => ⟨(1 : Int32), rfl, (Or.inr rfl), ht⟩) (fun _ h => by cases h) dX7_isKept_95
              · refine lv_aload_n hx hb dX7_isKept_70 rfl (lv_at hl 0 rfl) ?_
                obtain ⟨x15, hZ9⟩ := zL_7 hL
                refine va_gets hx hb hZ9 (va_S.rf) hown (hts (.fieldLink RX7 186 "LinkModelsModel" "HIDDEN_WORD" "J") (by decide +kernel)) (fun _ h9 => h9) dX7_isKept_71 ?_
                have hFc := z_freeW hD hS hA
                refine vp_callSi (W.runV (As := [.long x15]) (rest := []) ⟨hx, hb, hml, hown, hts⟩ (kX7_isWord l dC dI h0 r cI cJ cZ v0 a1 tp bs cl a5 a6 a7 fc a9 mb a11 a12 a13 a14 a15 a16 a17 a18 a19 a20 az v22 v23 v24 v25 v26 bb ct us a30 a31 a32 a33 a34 a35 a36 a37 pil rwv rl v41 v42 v43 v44 v45 ⟨by omega, by omega, by omega, hcl, hfc, hmb, hct, hpil, hrwv⟩ x15 s.heap.size) (cwV 1 hts zgX7_isKept_X7_isWord_164 rfl rfl rfl (by decide +kernel) ⟨(show 0 + 1 ≤ 1 by omega), (show 8 + (3 + 11) + 0 ≤ 22 by omega)⟩) (zVm (ci := 6) (q0 := 0) (q := (RX7, TX7, 46)) hK hP hD hL hS.2.1 hFc rfl rfl rfl) rfl rfl hl.1 rfl (lv_room (Nat.le_of_ble_eq_true rfl)) dX7_isKept_74 ⟨(show 0 + 0 ≤ 0 by omega), (show 0 + 0 ≤ 0 by omega)⟩) (fun r16 hw => ?_)
                have hw : (r16 = 0 ∨ r16 = 1) ∧ (r16 = 1 → v22 = 87) := hw
                obtain ⟨w0r16, w1r16⟩ := hw
                refine lv_if_ne (tgt := 90) hx hb dX7_isKept_77 (by decide) (fun cp77 => ?_) (fun cp77 => ?_)
                · refine lv_iconst (v := 1) hx hb dX7_isKept_90 (by decide) ?_
                  refine lv_goto (tgt := 95) hx hb dX7_isKept_91 (by decide) ?_
                  exact W.zret (v := (1 : Int32)) hx hb hr rfl (fun t ht hW => ⟨(1 : Int32), rfl, (Or.inr rfl), ht⟩) (fun _ h => by cases h) dX7_isKept_95
                · refine lv_aload_n hx hb dX7_isKept_80 rfl (lv_at hl 0 rfl) ?_
                  obtain ⟨x17, hZ9⟩ := zL_8 hL
                  refine va_gets hx hb hZ9 (va_S.rf) hown (hts (.fieldLink RX7 189 "LinkModelsModel" "ABSTRACT_WORD" "J") (by decide +kernel)) (fun _ h9 => h9) dX7_isKept_81 ?_
                  have hFc := z_freeW hD hS hA
                  refine vp_callSi (W.runV (As := [.long x17]) (rest := []) ⟨hx, hb, hml, hown, hts⟩ (kX7_isWord l dC dI h0 r cI cJ cZ v0 a1 tp bs cl a5 a6 a7 fc a9 mb a11 a12 a13 a14 a15 a16 a17 a18 a19 a20 az v22 v23 v24 v25 v26 bb ct us a30 a31 a32 a33 a34 a35 a36 a37 pil rwv rl v41 v42 v43 v44 v45 ⟨by omega, by omega, by omega, hcl, hfc, hmb, hct, hpil, hrwv⟩ x17 s.heap.size) (cwV 1 hts zgX7_isKept_X7_isWord_164 rfl rfl rfl (by decide +kernel) ⟨(show 0 + 1 ≤ 1 by omega), (show 8 + (3 + 11) + 0 ≤ 22 by omega)⟩) (zVm (ci := 6) (q0 := 0) (q := (RX7, TX7, 46)) hK hP hD hL hS.2.1 hFc rfl rfl rfl) rfl rfl hl.1 rfl (lv_room (Nat.le_of_ble_eq_true rfl)) dX7_isKept_84 ⟨(show 0 + 0 ≤ 0 by omega), (show 0 + 0 ≤ 0 by omega)⟩) (fun r18 hw => ?_)
                  have hw : (r18 = 0 ∨ r18 = 1) ∧ (r18 = 1 → v22 = 87) := hw
                  obtain ⟨w0r18, w1r18⟩ := hw
                  refine lv_if_eq (tgt := 94) hx hb dX7_isKept_87 (by decide) (fun cp87 => ?_) (fun cp87 => ?_)
                  · refine lv_iconst (v := 0) hx hb dX7_isKept_94 (by decide) ?_
                    exact W.zret (v := (0 : Int32)) hx hb hr rfl (fun t ht hW => ⟨(0 : Int32), rfl, (Or.inl rfl), ht⟩) (fun _ h => by cases h) dX7_isKept_95
                  · refine lv_iconst (v := 1) hx hb dX7_isKept_90 (by decide) ?_
                    refine lv_goto (tgt := 95) hx hb dX7_isKept_91 (by decide) ?_
                    exact W.zret (v := (1 : Int32)) hx hb hr rfl (fun t ht hW => ⟨(1 : Int32), rfl, (Or.inr rfl), ht⟩) (fun _ h => by cases h) dX7_isKept_95
theorem dX7_isType_0 : decode cX7_isType 0 = .ok (.aload_n 0, 1) := by decide +kernel
theorem dX7_isType_1 : decode cX7_isType 1 = .ok (.getfield 136, 3) := by decide +kernel
theorem dX7_isType_4 : decode cX7_isType 4 = .ok (.bipush 78, 2) := by decide +kernel
theorem dX7_isType_6 : decode cX7_isType 6 = .ok (.if_icmp .eq 33, 3) := by decide +kernel
theorem dX7_isType_9 : decode cX7_isType 9 = .ok (.aload_n 0, 1) := by decide +kernel
theorem dX7_isType_10 : decode cX7_isType 10 = .ok (.getstatic 171, 3) := by decide +kernel
theorem dX7_isType_13 : decode cX7_isType 13 = .ok (.invokevirtual 164, 3) := by decide +kernel
theorem dX7_isType_16 : decode cX7_isType 16 = .ok (.ifCond .ne 23, 3) := by decide +kernel
theorem dX7_isType_19 : decode cX7_isType 19 = .ok (.aload_n 0, 1) := by decide +kernel
theorem dX7_isType_20 : decode cX7_isType 20 = .ok (.getstatic 174, 3) := by decide +kernel
theorem dX7_isType_23 : decode cX7_isType 23 = .ok (.invokevirtual 164, 3) := by decide +kernel
theorem dX7_isType_26 : decode cX7_isType 26 = .ok (.ifCond .ne 13, 3) := by decide +kernel
theorem dX7_isType_29 : decode cX7_isType 29 = .ok (.aload_n 0, 1) := by decide +kernel
theorem dX7_isType_30 : decode cX7_isType 30 = .ok (.getstatic 177, 3) := by decide +kernel
theorem dX7_isType_33 : decode cX7_isType 33 = .ok (.invokevirtual 164, 3) := by decide +kernel
theorem dX7_isType_36 : decode cX7_isType 36 = .ok (.ifCond .eq 7, 3) := by decide +kernel
theorem dX7_isType_39 : decode cX7_isType 39 = .ok (.iconst 1, 1) := by decide +kernel
theorem dX7_isType_40 : decode cX7_isType 40 = .ok (.goto 4, 3) := by decide +kernel
theorem dX7_isType_43 : decode cX7_isType 43 = .ok (.iconst 0, 1) := by decide +kernel
theorem dX7_isType_44 : decode cX7_isType 44 = .ok (.ireturn, 1) := by decide +kernel
def zwX7_isType : List Cond := .code yX7_isType cX7_isType 1 (some .boolean) :: ([.fieldLink RX7 136 "LinkModelsModel" "token" "I", .fieldLink RX7 171 "LinkModelsModel" "INT" "J", .fieldLink RX7 174 "LinkModelsModel" "LONG" "J", .fieldLink RX7 177 "LinkModelsModel" "VOID" "J", .methodLink RX7 164 yX7_isWord, .instanceMethod yX7_isWord, .selects RX7 yX7_isWord yX7_isWord, .initialized RX7, .code yX7_isWord cX7_isWord 3 (some .boolean), .fieldLink RX7 132 "LinkModelsModel" "value" "J"] ++ wsX70)
theorem zgX7_isType_X7_isWord_164 : GoodIn zwX7_isType (wsV RX7 164 RX7 yX7_isWord zwX7_isWord) := goodIn_app (goodIn_of _ (by decide +kernel)) (goodIn_ca (goodIn_of _ (by decide +kernel)) (zgt zg7))
set_option maxHeartbeats 4000000 in
set_option maxRecDepth 100000 in
theorem kX7_isType (l : Launch) (dC : Nat → ClassId) (dI : Nat → Nat → Nat) (h0 : Nat) (r : Nat → Nat) (cI : ClassId) (cJ : ClassId) (cZ : ClassId) (v0 : Int32) (a1 : Nat → Int32) (tp : Nat) (bs : Nat) (cl : Nat → Nat) (a5 : Nat → Int32) (a6 : Nat → Int32) (a7 : Nat → Int32) (fc : Nat → Nat) (a9 : Nat → Int32) (mb : Nat → Nat) (a11 : Nat → Int32) (a12 : Nat → Int32) (a13 : Nat → Int64) (a14 : Nat → Int32) (a15 : Nat → Int32) (a16 : Nat → Int32) (a17 : Nat → Int32) (a18 : Nat → Int32) (a19 : Nat → Int32) (a20 : Nat → Int32) (az : Nat) (v22 : Int32) (v23 : Int32) (v24 : Int64) (v25 : Int32) (v26 : Int32) (bb : Nat) (ct : Nat → Nat) (us : Nat) (a30 : Nat → Int32) (a31 : Nat → Int32) (a32 : Nat → Int32) (a33 : Nat → Int64) (a34 : Nat → Int32) (a35 : Nat → Int32) (a36 : Nat → Int32) (a37 : Nat → Int32) (pil : Nat → Nat) (rwv : Nat → Nat) (rl : Nat) (v41 : Int32) (v42 : Int32) (v43 : Int32) (v44 : Int32) (v45 : Int32) (hI : rWI tp bs cl fc mb az bb ct us pil rwv rl) (sz : Nat) : Met l yX7_isType zwX7_isType ({ frames := 1, cells := 0, slots := 0, locals := 22 }) (zPm dC dI [.ref h0] sz (rW h0 r cI cJ cZ v0 a1 (nI tp) (nI bs) (fun j => nI (cl j)) a5 a6 a7 (fun j => nI (fc j)) a9 (fun j => nI (mb j)) a11 a12 a13 a14 a15 a16 a17 a18 a19 a20 (nI az) v22 v23 v24 v25 v26 (nI bb) (fun j => nI (ct j)) (nI us) a30 a31 a32 a33 a34 a35 a36 a37 (fun j => nI (pil j)) (fun j => nI (rwv j)) (nI rl) v41 v42 v43 v44 v45) [(cI, .int), (cJ, .long), (cZ, .boolean)]) (vp_Si (fun r => (r = 0 ∨ r = 1))) 0 0 (fun _ => False) := by
  refine Met.ofW (cc := cX7_isType) (maxL := 1) (ret := (some .boolean)) (by decide) rfl ?_
  intro p e s m args below meth c s₁ B hml hv
  obtain ⟨rfl, hsz, hP, hK, hD0, hL0⟩ := hv
  have hx := B.exec
  have hb := B.bytes
  have hr := B.returns
  have hts := atoms_spec (ws := zwX7_isType) B.pre
  have hown : s.vm.findClass RX7 = some m.cls := findClass_of_methodNamed B.named
  have hiX7 : ∀ w ∈ wsX70, w ∈ zwX7_isType := (fun _ h => List.mem_cons_of_mem _ (List.mem_append_right _ h))
  obtain ⟨htp, hbs, hus, hcl, hfc, hmb, hct, hpil, hrwv⟩ := hI
  subst hsz
  have hD := hD0.self (sz := s.heap.size)
  generalize hAe : va_A (rW h0 r cI cJ cZ v0 a1 (nI tp) (nI bs) (fun j => nI (cl j)) a5 a6 a7 (fun j => nI (fc j)) a9 (fun j => nI (mb j)) a11 a12 a13 a14 a15 a16 a17 a18 a19 a20 (nI az) v22 v23 v24 v25 v26 (nI bb) (fun j => nI (ct j)) (nI us) a30 a31 a32 a33 a34 a35 a36 a37 (fun j => nI (pil j)) (fun j => nI (rwv j)) (nI rl) v41 v42 v43 v44 v45) s.heap.size = A at hD hL0
  have hA : ∀ q : Nat, s.heap.size ≤ q → A q := fun q h => by rw [← hAe]; exact Or.inr h
  have hS : va_S A s.heap s.heap [] := va_S.rf
  have hL := hL0
  have hl := lv_entry ([.ref h0]) (n := 1) (Nat.le_of_ble_eq_true rfl)
  rw [lg_entry_eq]
  generalize (lg_sl ([.ref h0]) ++ List.replicate (1 - (lg_sl ([.ref h0])).length) Slot.unset).toArray = ls at hl ⊢
  have hl : lv_has ls 1 [(0, .ref h0)] := hl
  refine lv_aload_n hx hb dX7_isType_0 rfl (lv_at hl 0 rfl) ?_
  refine va_get (D := (dC, dI)) (ci := 6) (v := .int v22) (C := RX7) (T := TX7) (N := 46) hx hb hts hiX7 hown hK hP 0 rfl rfl 22 (by decide) (hts (.fieldLink RX7 136 "LinkModelsModel" "token" "I") (by decide +kernel)) (fun _ h9 => h9) rfl dX7_isType_1 ?_
  refine lv_bipush (v := 78) hx hb dX7_isType_4 (by decide) ?_
  refine lv_icmp_eq (tgt := 39) hx hb dX7_isType_6 (by decide) (fun cp6 => ?_) (fun cp6 => ?_)
  · refine lv_iconst (v := 1) hx hb dX7_isType_39 (by decide) ?_
    refine lv_goto (tgt := 44) hx hb dX7_isType_40 (by decide) ?_
    exact W.zret (v := (1 : Int32)) hx hb hr rfl (fun t ht hW => ⟨(1 : Int32), rfl, (Or.inr rfl), ht⟩) (fun _ h => by cases h) dX7_isType_44
  · refine lv_aload_n hx hb dX7_isType_9 rfl (lv_at hl 0 rfl) ?_
    obtain ⟨x1, hZ9⟩ := zL_2 hL
    refine va_gets hx hb hZ9 (va_S.rf) hown (hts (.fieldLink RX7 171 "LinkModelsModel" "INT" "J") (by decide +kernel)) (fun _ h9 => h9) dX7_isType_10 ?_
    have hFc := z_freeW hD hS hA
    refine vp_callSi (W.runV (As := [.long x1]) (rest := []) ⟨hx, hb, hml, hown, hts⟩ (kX7_isWord l dC dI h0 r cI cJ cZ v0 a1 tp bs cl a5 a6 a7 fc a9 mb a11 a12 a13 a14 a15 a16 a17 a18 a19 a20 az v22 v23 v24 v25 v26 bb ct us a30 a31 a32 a33 a34 a35 a36 a37 pil rwv rl v41 v42 v43 v44 v45 ⟨by omega, by omega, by omega, hcl, hfc, hmb, hct, hpil, hrwv⟩ x1 s.heap.size) (cwV 1 hts zgX7_isType_X7_isWord_164 rfl rfl rfl (by decide +kernel) ⟨(show 0 + 1 ≤ 1 by omega), (show 8 + (3 + 11) + 0 ≤ 22 by omega)⟩) (zVm (ci := 6) (q0 := 0) (q := (RX7, TX7, 46)) hK hP hD hL hS.2.1 hFc rfl rfl rfl) rfl rfl hl.1 rfl (lv_room (Nat.le_of_ble_eq_true rfl)) dX7_isType_13 ⟨(show 0 + 0 ≤ 0 by omega), (show 0 + 0 ≤ 0 by omega)⟩) (fun r2 hw => ?_)
    have hw : (r2 = 0 ∨ r2 = 1) ∧ (r2 = 1 → v22 = 87) := hw
    obtain ⟨w0r2, w1r2⟩ := hw
    refine lv_if_ne (tgt := 39) hx hb dX7_isType_16 (by decide) (fun cp16 => ?_) (fun cp16 => ?_)
    · refine lv_iconst (v := 1) hx hb dX7_isType_39 (by decide) ?_
      refine lv_goto (tgt := 44) hx hb dX7_isType_40 (by decide) ?_
      exact W.zret (v := (1 : Int32)) hx hb hr rfl (fun t ht hW => ⟨(1 : Int32), rfl, (Or.inr rfl), ht⟩) (fun _ h => by cases h) dX7_isType_44
    · refine lv_aload_n hx hb dX7_isType_19 rfl (lv_at hl 0 rfl) ?_
      obtain ⟨x3, hZ9⟩ := zL_3 hL
      refine va_gets hx hb hZ9 (va_S.rf) hown (hts (.fieldLink RX7 174 "LinkModelsModel" "LONG" "J") (by decide +kernel)) (fun _ h9 => h9) dX7_isType_20 ?_
      have hFc := z_freeW hD hS hA
      refine vp_callSi (W.runV (As := [.long x3]) (rest := []) ⟨hx, hb, hml, hown, hts⟩ (kX7_isWord l dC dI h0 r cI cJ cZ v0 a1 tp bs cl a5 a6 a7 fc a9 mb a11 a12 a13 a14 a15 a16 a17 a18 a19 a20 az v22 v23 v24 v25 v26 bb ct us a30 a31 a32 a33 a34 a35 a36 a37 pil rwv rl v41 v42 v43 v44 v45 ⟨by omega, by omega, by omega, hcl, hfc, hmb, hct, hpil, hrwv⟩ x3 s.heap.size) (cwV 1 hts zgX7_isType_X7_isWord_164 rfl rfl rfl (by decide +kernel) ⟨(show 0 + 1 ≤ 1 by omega), (show 8 + (3 + 11) + 0 ≤ 22 by omega)⟩) (zVm (ci := 6) (q0 := 0) (q := (RX7, TX7, 46)) hK hP hD hL hS.2.1 hFc rfl rfl rfl) rfl rfl hl.1 rfl (lv_room (Nat.le_of_ble_eq_true rfl)) dX7_isType_23 ⟨(show 0 + 0 ≤ 0 by omega), (show 0 + 0 ≤ 0 by omega)⟩) (fun r4 hw => ?_)
      have hw : (r4 = 0 ∨ r4 = 1) ∧ (r4 = 1 → v22 = 87) := hw
      obtain ⟨w0r4, w1r4⟩ := hw
      refine lv_if_ne (tgt := 39) hx hb dX7_isType_26 (by decide) (fun cp26 => ?_) (fun cp26 => ?_)
      · refine lv_iconst (v := 1) hx hb dX7_isType_39 (by decide) ?_
        refine lv_goto (tgt := 44) hx hb dX7_isType_40 (by decide) ?_
        exact W.zret (v := (1 : Int32)) hx hb hr rfl (fun t ht hW => ⟨(1 : Int32), rfl, (Or.inr rfl), ht⟩) (fun _ h => by cases h) dX7_isType_44
      · refine lv_aload_n hx hb dX7_isType_29 rfl (lv_at hl 0 rfl) ?_
        obtain ⟨x5, hZ9⟩ := zL_4 hL
        refine va_gets hx hb hZ9 (va_S.rf) hown (hts (.fieldLink RX7 177 "LinkModelsModel" "VOID" "J") (by decide +kernel)) (fun _ h9 => h9) dX7_isType_30 ?_
        have hFc := z_freeW hD hS hA
        refine vp_callSi (W.runV (As := [.long x5]) (rest := []) ⟨hx, hb, hml, hown, hts⟩ (kX7_isWord l dC dI h0 r cI cJ cZ v0 a1 tp bs cl a5 a6 a7 fc a9 mb a11 a12 a13 a14 a15 a16 a17 a18 a19 a20 az v22 v23 v24 v25 v26 bb ct us a30 a31 a32 a33 a34 a35 a36 a37 pil rwv rl v41 v42 v43 v44 v45 ⟨by omega, by omega, by omega, hcl, hfc, hmb, hct, hpil, hrwv⟩ x5 s.heap.size) (cwV 1 hts zgX7_isType_X7_isWord_164 rfl rfl rfl (by decide +kernel) ⟨(show 0 + 1 ≤ 1 by omega), (show 8 + (3 + 11) + 0 ≤ 22 by omega)⟩) (zVm (ci := 6) (q0 := 0) (q := (RX7, TX7, 46)) hK hP hD hL hS.2.1 hFc rfl rfl rfl) rfl rfl hl.1 rfl (lv_room (Nat.le_of_ble_eq_true rfl)) dX7_isType_33 ⟨(show 0 + 0 ≤ 0 by omega), (show 0 + 0 ≤ 0 by omega)⟩) (fun r6 hw => ?_)
        have hw : (r6 = 0 ∨ r6 = 1) ∧ (r6 = 1 → v22 = 87) := hw
        obtain ⟨w0r6, w1r6⟩ := hw
        refine lv_if_eq (tgt := 43) hx hb dX7_isType_36 (by decide) (fun cp36 => ?_) (fun cp36 => ?_)
        · refine lv_iconst (v := 0) hx hb dX7_isType_43 (by decide) ?_
          exact W.zret (v := (0 : Int32)) hx hb hr rfl (fun t ht hW => ⟨(0 : Int32), rfl, (Or.inl rfl), ht⟩) (fun _ h => by cases h) dX7_isType_44
        · refine lv_iconst (v := 1) hx hb dX7_isType_39 (by decide) ?_
          refine lv_goto (tgt := 44) hx hb dX7_isType_40 (by decide) ?_
          exact W.zret (v := (1 : Int32)) hx hb hr rfl (fun t ht hW => ⟨(1 : Int32), rfl, (Or.inr rfl), ht⟩) (fun _ h => by cases h) dX7_isType_44
theorem dX7_typeNow_0 : decode cX7_typeNow 0 = .ok (.aload_n 0, 1) := by decide +kernel
theorem dX7_typeNow_1 : decode cX7_typeNow 1 = .ok (.getfield 136, 3) := by decide +kernel
theorem dX7_typeNow_4 : decode cX7_typeNow 4 = .ok (.bipush 78, 2) := by decide +kernel
theorem dX7_typeNow_6 : decode cX7_typeNow 6 = .ok (.if_icmp .ne 11, 3) := by decide +kernel
theorem dX7_typeNow_9 : decode cX7_typeNow 9 = .ok (.aload_n 0, 1) := by decide +kernel
theorem dX7_typeNow_10 : decode cX7_typeNow 10 = .ok (.getfield 132, 3) := by decide +kernel
theorem dX7_typeNow_13 : decode cX7_typeNow 13 = .ok (.l2i, 1) := by decide +kernel
theorem dX7_typeNow_14 : decode cX7_typeNow 14 = .ok (.goto 32, 3) := by decide +kernel
theorem dX7_typeNow_17 : decode cX7_typeNow 17 = .ok (.aload_n 0, 1) := by decide +kernel
theorem dX7_typeNow_18 : decode cX7_typeNow 18 = .ok (.getstatic 171, 3) := by decide +kernel
theorem dX7_typeNow_21 : decode cX7_typeNow 21 = .ok (.invokevirtual 164, 3) := by decide +kernel
theorem dX7_typeNow_24 : decode cX7_typeNow 24 = .ok (.ifCond .eq 7, 3) := by decide +kernel
theorem dX7_typeNow_27 : decode cX7_typeNow 27 = .ok (.iconst 0, 1) := by decide +kernel
theorem dX7_typeNow_28 : decode cX7_typeNow 28 = .ok (.goto 18, 3) := by decide +kernel
theorem dX7_typeNow_31 : decode cX7_typeNow 31 = .ok (.aload_n 0, 1) := by decide +kernel
theorem dX7_typeNow_32 : decode cX7_typeNow 32 = .ok (.getstatic 174, 3) := by decide +kernel
theorem dX7_typeNow_35 : decode cX7_typeNow 35 = .ok (.invokevirtual 164, 3) := by decide +kernel
theorem dX7_typeNow_38 : decode cX7_typeNow 38 = .ok (.ifCond .eq 7, 3) := by decide +kernel
theorem dX7_typeNow_41 : decode cX7_typeNow 41 = .ok (.iconst 1, 1) := by decide +kernel
theorem dX7_typeNow_42 : decode cX7_typeNow 42 = .ok (.goto 4, 3) := by decide +kernel
theorem dX7_typeNow_45 : decode cX7_typeNow 45 = .ok (.iconst 2, 1) := by decide +kernel
theorem dX7_typeNow_46 : decode cX7_typeNow 46 = .ok (.ireturn, 1) := by decide +kernel
def zwX7_typeNow : List Cond := .code yX7_typeNow cX7_typeNow 1 (some .int) :: ([.fieldLink RX7 136 "LinkModelsModel" "token" "I", .fieldLink RX7 171 "LinkModelsModel" "INT" "J", .fieldLink RX7 174 "LinkModelsModel" "LONG" "J", .fieldLink RX7 132 "LinkModelsModel" "value" "J", .methodLink RX7 164 yX7_isWord, .instanceMethod yX7_isWord, .selects RX7 yX7_isWord yX7_isWord, .initialized RX7, .code yX7_isWord cX7_isWord 3 (some .boolean)] ++ wsX70)
theorem zgX7_typeNow_X7_isWord_164 : GoodIn zwX7_typeNow (wsV RX7 164 RX7 yX7_isWord zwX7_isWord) := goodIn_app (goodIn_of _ (by decide +kernel)) (goodIn_ca (goodIn_of _ (by decide +kernel)) (zgt zg7))
set_option maxHeartbeats 4000000 in
set_option maxRecDepth 100000 in
theorem kX7_typeNow (l : Launch) (dC : Nat → ClassId) (dI : Nat → Nat → Nat) (h0 : Nat) (r : Nat → Nat) (cI : ClassId) (cJ : ClassId) (cZ : ClassId) (v0 : Int32) (a1 : Nat → Int32) (tp : Nat) (bs : Nat) (cl : Nat → Nat) (a5 : Nat → Int32) (a6 : Nat → Int32) (a7 : Nat → Int32) (fc : Nat → Nat) (a9 : Nat → Int32) (mb : Nat → Nat) (a11 : Nat → Int32) (a12 : Nat → Int32) (a13 : Nat → Int64) (a14 : Nat → Int32) (a15 : Nat → Int32) (a16 : Nat → Int32) (a17 : Nat → Int32) (a18 : Nat → Int32) (a19 : Nat → Int32) (a20 : Nat → Int32) (az : Nat) (v22 : Int32) (v23 : Int32) (v24 : Int64) (v25 : Int32) (v26 : Int32) (bb : Nat) (ct : Nat → Nat) (us : Nat) (a30 : Nat → Int32) (a31 : Nat → Int32) (a32 : Nat → Int32) (a33 : Nat → Int64) (a34 : Nat → Int32) (a35 : Nat → Int32) (a36 : Nat → Int32) (a37 : Nat → Int32) (pil : Nat → Nat) (rwv : Nat → Nat) (rl : Nat) (v41 : Int32) (v42 : Int32) (v43 : Int32) (v44 : Int32) (v45 : Int32) (hI : rWI tp bs cl fc mb az bb ct us pil rwv rl) (sz : Nat) : Met l yX7_typeNow zwX7_typeNow ({ frames := 1, cells := 0, slots := 0, locals := 22 }) (zPm dC dI [.ref h0] sz (rW h0 r cI cJ cZ v0 a1 (nI tp) (nI bs) (fun j => nI (cl j)) a5 a6 a7 (fun j => nI (fc j)) a9 (fun j => nI (mb j)) a11 a12 a13 a14 a15 a16 a17 a18 a19 a20 (nI az) v22 v23 v24 v25 v26 (nI bb) (fun j => nI (ct j)) (nI us) a30 a31 a32 a33 a34 a35 a36 a37 (fun j => nI (pil j)) (fun j => nI (rwv j)) (nI rl) v41 v42 v43 v44 v45) [(cI, .int), (cJ, .long), (cZ, .boolean)]) (vp_Si (fun r => (True))) 0 0 (fun _ => False) := by
  refine Met.ofW (cc := cX7_typeNow) (maxL := 1) (ret := (some .int)) (by decide) rfl ?_
  intro p e s m args below meth c s₁ B hml hv
  obtain ⟨rfl, hsz, hP, hK, hD0, hL0⟩ := hv
  have hx := B.exec
  have hb := B.bytes
  have hr := B.returns
  have hts := atoms_spec (ws := zwX7_typeNow) B.pre
  have hown : s.vm.findClass RX7 = some m.cls := findClass_of_methodNamed B.named
  have hiX7 : ∀ w ∈ wsX70, w ∈ zwX7_typeNow := (fun _ h => List.mem_cons_of_mem _ (List.mem_append_right _ h))
  obtain ⟨htp, hbs, hus, hcl, hfc, hmb, hct, hpil, hrwv⟩ := hI
  subst hsz
  have hD := hD0.self (sz := s.heap.size)
  generalize hAe : va_A (rW h0 r cI cJ cZ v0 a1 (nI tp) (nI bs) (fun j => nI (cl j)) a5 a6 a7 (fun j => nI (fc j)) a9 (fun j => nI (mb j)) a11 a12 a13 a14 a15 a16 a17 a18 a19 a20 (nI az) v22 v23 v24 v25 v26 (nI bb) (fun j => nI (ct j)) (nI us) a30 a31 a32 a33 a34 a35 a36 a37 (fun j => nI (pil j)) (fun j => nI (rwv j)) (nI rl) v41 v42 v43 v44 v45) s.heap.size = A at hD hL0
  have hA : ∀ q : Nat, s.heap.size ≤ q → A q := fun q h => by rw [← hAe]; exact Or.inr h
  have hS : va_S A s.heap s.heap [] := va_S.rf
  have hL := hL0
  have hl := lv_entry ([.ref h0]) (n := 1) (Nat.le_of_ble_eq_true rfl)
  rw [lg_entry_eq]
  generalize (lg_sl ([.ref h0]) ++ List.replicate (1 - (lg_sl ([.ref h0])).length) Slot.unset).toArray = ls at hl ⊢
  have hl : lv_has ls 1 [(0, .ref h0)] := hl
  refine lv_aload_n hx hb dX7_typeNow_0 rfl (lv_at hl 0 rfl) ?_
  refine va_get (D := (dC, dI)) (ci := 6) (v := .int v22) (C := RX7) (T := TX7) (N := 46) hx hb hts hiX7 hown hK hP 0 rfl rfl 22 (by decide) (hts (.fieldLink RX7 136 "LinkModelsModel" "token" "I") (by decide +kernel)) (fun _ h9 => h9) rfl dX7_typeNow_1 ?_
  refine lv_bipush (v := 78) hx hb dX7_typeNow_4 (by decide) ?_
  refine lv_icmp_ne (tgt := 17) hx hb dX7_typeNow_6 (by decide) (fun cp6 => ?_) (fun cp6 => ?_)
  · refine lv_aload_n hx hb dX7_typeNow_17 rfl (lv_at hl 0 rfl) ?_
    obtain ⟨x1, hZ9⟩ := zL_2 hL
    refine va_gets hx hb hZ9 (va_S.rf) hown (hts (.fieldLink RX7 171 "LinkModelsModel" "INT" "J") (by decide +kernel)) (fun _ h9 => h9) dX7_typeNow_18 ?_
    have hFc := z_freeW hD hS hA
    refine vp_callSi (W.runV (As := [.long x1]) (rest := []) ⟨hx, hb, hml, hown, hts⟩ (kX7_isWord l dC dI h0 r cI cJ cZ v0 a1 tp bs cl a5 a6 a7 fc a9 mb a11 a12 a13 a14 a15 a16 a17 a18 a19 a20 az v22 v23 v24 v25 v26 bb ct us a30 a31 a32 a33 a34 a35 a36 a37 pil rwv rl v41 v42 v43 v44 v45 ⟨by omega, by omega, by omega, hcl, hfc, hmb, hct, hpil, hrwv⟩ x1 s.heap.size) (cwV 1 hts zgX7_typeNow_X7_isWord_164 rfl rfl rfl (by decide +kernel) ⟨(show 0 + 1 ≤ 1 by omega), (show 8 + (3 + 11) + 0 ≤ 22 by omega)⟩) (zVm (ci := 6) (q0 := 0) (q := (RX7, TX7, 46)) hK hP hD hL hS.2.1 hFc rfl rfl rfl) rfl rfl hl.1 rfl (lv_room (Nat.le_of_ble_eq_true rfl)) dX7_typeNow_21 ⟨(show 0 + 0 ≤ 0 by omega), (show 0 + 0 ≤ 0 by omega)⟩) (fun r2 hw => ?_)
    have hw : (r2 = 0 ∨ r2 = 1) ∧ (r2 = 1 → v22 = 87) := hw
    obtain ⟨w0r2, w1r2⟩ := hw
    refine lv_if_eq (tgt := 31) hx hb dX7_typeNow_24 (by decide) (fun cp24 => ?_) (fun cp24 => ?_)
    · refine lv_aload_n hx hb dX7_typeNow_31 rfl (lv_at hl 0 rfl) ?_
      obtain ⟨x3, hZ9⟩ := zL_3 hL
      refine va_gets hx hb hZ9 (va_S.rf) hown (hts (.fieldLink RX7 174 "LinkModelsModel" "LONG" "J") (by decide +kernel)) (fun _ h9 => h9) dX7_typeNow_32 ?_
      have hFc := z_freeW hD hS hA
      refine vp_callSi (W.runV (As := [.long x3]) (rest := []) ⟨hx, hb, hml, hown, hts⟩ (kX7_isWord l dC dI h0 r cI cJ cZ v0 a1 tp bs cl a5 a6 a7 fc a9 mb a11 a12 a13 a14 a15 a16 a17 a18 a19 a20 az v22 v23 v24 v25 v26 bb ct us a30 a31 a32 a33 a34 a35 a36 a37 pil rwv rl v41 v42 v43 v44 v45 ⟨by omega, by omega, by omega, hcl, hfc, hmb, hct, hpil, hrwv⟩ x3 s.heap.size) (cwV 1 hts zgX7_typeNow_X7_isWord_164 rfl rfl rfl (by decide +kernel) ⟨(show 0 + 1 ≤ 1 by omega), (show 8 + (3 + 11) + 0 ≤ 22 by omega)⟩) (zVm (ci := 6) (q0 := 0) (q := (RX7, TX7, 46)) hK hP hD hL hS.2.1 hFc rfl rfl rfl) rfl rfl hl.1 rfl (lv_room (Nat.le_of_ble_eq_true rfl)) dX7_typeNow_35 ⟨(show 0 + 0 ≤ 0 by omega), (show 0 + 0 ≤ 0 by omega)⟩) (fun r4 hw => ?_)
      have hw : (r4 = 0 ∨ r4 = 1) ∧ (r4 = 1 → v22 = 87) := hw
      obtain ⟨w0r4, w1r4⟩ := hw
      refine lv_if_eq (tgt := 45) hx hb dX7_typeNow_38 (by decide) (fun cp38 => ?_) (fun cp38 => ?_)
      · refine lv_iconst (v := 2) hx hb dX7_typeNow_45 (by decide) ?_
        exact W.iret (v := (2 : Int32)) hx hb hr (fun t ht hW => ⟨(2 : Int32), rfl, trivial, ht⟩) (fun _ h => by cases h) dX7_typeNow_46
      · refine lv_iconst (v := 1) hx hb dX7_typeNow_41 (by decide) ?_
        refine lv_goto (tgt := 46) hx hb dX7_typeNow_42 (by decide) ?_
        exact W.iret (v := (1 : Int32)) hx hb hr (fun t ht hW => ⟨(1 : Int32), rfl, trivial, ht⟩) (fun _ h => by cases h) dX7_typeNow_46
    · refine lv_iconst (v := 0) hx hb dX7_typeNow_27 (by decide) ?_
      refine lv_goto (tgt := 46) hx hb dX7_typeNow_28 (by decide) ?_
      exact W.iret (v := (0 : Int32)) hx hb hr (fun t ht hW => ⟨(0 : Int32), rfl, trivial, ht⟩) (fun _ h => by cases h) dX7_typeNow_46
  · refine lv_aload_n hx hb dX7_typeNow_9 rfl (lv_at hl 0 rfl) ?_
    refine va_get (D := (dC, dI)) (ci := 6) (v := .long v24) (C := RX7) (T := TX7) (N := 46) hx hb hts hiX7 hown hK hP 0 rfl rfl 24 (by decide) (hts (.fieldLink RX7 132 "LinkModelsModel" "value" "J") (by decide +kernel)) (fun _ h9 => h9) rfl dX7_typeNow_10 ?_
    refine lv_l2i hx hb dX7_typeNow_13 rfl ?_
    refine lv_topi (fun x5 ex5 => ?_)
    refine lv_goto (tgt := 46) hx hb dX7_typeNow_14 (by decide) ?_
    exact W.iret (v := x5) hx hb hr (fun t ht hW => ⟨x5, rfl, trivial, ht⟩) (fun _ h => by cases h) dX7_typeNow_46
/-- which class of a build has a name: the first one, or none -/
def zPl (cn : Nat → Int32) (b n : Nat) (nm x : Int32) : Prop := (x = -1 ∧ ∀ j, j < n → cn (b + j) ≠ nm) ∨ ∃ k : Nat, k < n ∧ x = nI k ∧ cn (b + k) = nm ∧ ∀ j, j < k → cn (b + j) ≠ nm
theorem zPl.uniq {cn : Nat → Int32} {b n : Nat} {nm x y : Int32} (h : zPl cn b n nm x) (g : zPl cn b n nm y) : x = y := by
  rcases h with ⟨rfl, h⟩ | ⟨k, h1, rfl, h2, h3⟩ <;> rcases g with ⟨rfl, g⟩ | ⟨j, g1, rfl, g2, g3⟩
  · rfl
  · exact absurd g2 (h j g1)
  · exact absurd h2 (g k h1)
  · rcases Nat.lt_trichotomy k j with q | q | q
    · exact absurd h2 (g3 k q)
    · rw [q]
    · exact absurd g2 (h3 j q)
theorem dX7_place_0 : decode cX7_place 0 = .ok (.iconst 0, 1) := by decide +kernel
theorem dX7_place_1 : decode cX7_place 1 = .ok (.istore_n 3, 1) := by decide +kernel
theorem dX7_place_2 : decode cX7_place 2 = .ok (.iload_n 3, 1) := by decide +kernel
theorem dX7_place_3 : decode cX7_place 3 = .ok (.aload_n 0, 1) := by decide +kernel
theorem dX7_place_4 : decode cX7_place 4 = .ok (.getfield 17, 3) := by decide +kernel
theorem dX7_place_7 : decode cX7_place 7 = .ok (.iload_n 1, 1) := by decide +kernel
theorem dX7_place_8 : decode cX7_place 8 = .ok (.iaload, 1) := by decide +kernel
theorem dX7_place_9 : decode cX7_place 9 = .ok (.if_icmp .ge 26, 3) := by decide +kernel
theorem dX7_place_12 : decode cX7_place 12 = .ok (.aload_n 0, 1) := by decide +kernel
theorem dX7_place_13 : decode cX7_place 13 = .ok (.getfield 20, 3) := by decide +kernel
theorem dX7_place_16 : decode cX7_place 16 = .ok (.bipush 16, 2) := by decide +kernel
theorem dX7_place_18 : decode cX7_place 18 = .ok (.iload_n 1, 1) := by decide +kernel
theorem dX7_place_19 : decode cX7_place 19 = .ok (.imul, 1) := by decide +kernel
theorem dX7_place_20 : decode cX7_place 20 = .ok (.iload_n 3, 1) := by decide +kernel
theorem dX7_place_21 : decode cX7_place 21 = .ok (.iadd, 1) := by decide +kernel
theorem dX7_place_22 : decode cX7_place 22 = .ok (.iaload, 1) := by decide +kernel
theorem dX7_place_23 : decode cX7_place 23 = .ok (.iload_n 2, 1) := by decide +kernel
theorem dX7_place_24 : decode cX7_place 24 = .ok (.if_icmp .ne 5, 3) := by decide +kernel
theorem dX7_place_27 : decode cX7_place 27 = .ok (.iload_n 3, 1) := by decide +kernel
theorem dX7_place_28 : decode cX7_place 28 = .ok (.ireturn, 1) := by decide +kernel
theorem dX7_place_29 : decode cX7_place 29 = .ok (.iinc 3 1, 3) := by decide +kernel
theorem dX7_place_32 : decode cX7_place 32 = .ok (.goto (-30), 3) := by decide +kernel
theorem dX7_place_35 : decode cX7_place 35 = .ok (.iconst (-1), 1) := by decide +kernel
theorem dX7_place_36 : decode cX7_place 36 = .ok (.ireturn, 1) := by decide +kernel
def zwX7_place : List Cond := .code yX7_place cX7_place 4 (some .int) :: ([.fieldLink RX7 17 "LinkModelsModel" "classes" "[I", .fieldLink RX7 20 "LinkModelsModel" "className" "[I"] ++ wsX70)
set_option maxHeartbeats 4000000 in
set_option maxRecDepth 100000 in
theorem kX7_place (l : Launch) (dC : Nat → ClassId) (dI : Nat → Nat → Nat) (h0 : Nat) (r : Nat → Nat) (cI : ClassId) (cJ : ClassId) (cZ : ClassId) (v0 : Int32) (a1 : Nat → Int32) (tp : Nat) (bs : Nat) (cl : Nat → Nat) (a5 : Nat → Int32) (a6 : Nat → Int32) (a7 : Nat → Int32) (fc : Nat → Nat) (a9 : Nat → Int32) (mb : Nat → Nat) (a11 : Nat → Int32) (a12 : Nat → Int32) (a13 : Nat → Int64) (a14 : Nat → Int32) (a15 : Nat → Int32) (a16 : Nat → Int32) (a17 : Nat → Int32) (a18 : Nat → Int32) (a19 : Nat → Int32) (a20 : Nat → Int32) (az : Nat) (v22 : Int32) (v23 : Int32) (v24 : Int64) (v25 : Int32) (v26 : Int32) (bb : Nat) (ct : Nat → Nat) (us : Nat) (a30 : Nat → Int32) (a31 : Nat → Int32) (a32 : Nat → Int32) (a33 : Nat → Int64) (a34 : Nat → Int32) (a35 : Nat → Int32) (a36 : Nat → Int32) (a37 : Nat → Int32) (pil : Nat → Nat) (rwv : Nat → Nat) (rl : Nat) (v41 : Int32) (v42 : Int32) (v43 : Int32) (v44 : Int32) (v45 : Int32) (hI : rWI tp bs cl fc mb az bb ct us pil rwv rl) (bd : Nat) (nm : Int32) (hp0 : bd < 5) (sz : Nat) : Met l yX7_place zwX7_place ({ frames := 0, cells := 0, slots := 0, locals := 0 }) (zPm dC dI [.ref h0, .int (nI bd), .int nm] sz (rW h0 r cI cJ cZ v0 a1 (nI tp) (nI bs) (fun j => nI (cl j)) a5 a6 a7 (fun j => nI (fc j)) a9 (fun j => nI (mb j)) a11 a12 a13 a14 a15 a16 a17 a18 a19 a20 (nI az) v22 v23 v24 v25 v26 (nI bb) (fun j => nI (ct j)) (nI us) a30 a31 a32 a33 a34 a35 a36 a37 (fun j => nI (pil j)) (fun j => nI (rwv j)) (nI rl) v41 v42 v43 v44 v45) [(cI, .int), (cJ, .long), (cZ, .boolean)]) (vp_Si (fun r => (zM r (fun k => k < cl bd)) ∧ (zPl a5 (16 * bd) (cl bd) nm r))) 0 0 (fun _ => False) := by
  refine Met.ofW (cc := cX7_place) (maxL := 4) (ret := (some .int)) (by decide) rfl ?_
  intro p e s m args below meth c s₁ B hml hv
  obtain ⟨rfl, hsz, hP, hK, hD0, hL0⟩ := hv
  have hx := B.exec
  have hb := B.bytes
  have hr := B.returns
  have hts := atoms_spec (ws := zwX7_place) B.pre
  have hown : s.vm.findClass RX7 = some m.cls := findClass_of_methodNamed B.named
  have hiX7 : ∀ w ∈ wsX70, w ∈ zwX7_place := (fun _ h => List.mem_cons_of_mem _ (List.mem_append_right _ h))
  obtain ⟨htp, hbs, hus, hcl, hfc, hmb, hct, hpil, hrwv⟩ := hI
  subst hsz
  have hD := hD0.self (sz := s.heap.size)
  generalize hAe : va_A (rW h0 r cI cJ cZ v0 a1 (nI tp) (nI bs) (fun j => nI (cl j)) a5 a6 a7 (fun j => nI (fc j)) a9 (fun j => nI (mb j)) a11 a12 a13 a14 a15 a16 a17 a18 a19 a20 (nI az) v22 v23 v24 v25 v26 (nI bb) (fun j => nI (ct j)) (nI us) a30 a31 a32 a33 a34 a35 a36 a37 (fun j => nI (pil j)) (fun j => nI (rwv j)) (nI rl) v41 v42 v43 v44 v45) s.heap.size = A at hD hL0
  have hA : ∀ q : Nat, s.heap.size ≤ q → A q := fun q h => by rw [← hAe]; exact Or.inr h
  have hS : va_S A s.heap s.heap [] := va_S.rf
  have hL := hL0
  have hl := lv_entry ([.ref h0, .int (nI bd), .int nm]) (n := 4) (Nat.le_of_ble_eq_true rfl)
  rw [lg_entry_eq]
  generalize (lg_sl ([.ref h0, .int (nI bd), .int nm]) ++ List.replicate (4 - (lg_sl ([.ref h0, .int (nI bd), .int nm])).length) Slot.unset).toArray = ls at hl ⊢
  have hl : lv_has ls 4 [(0, .ref h0), (1, .int (nI bd)), (2, .int nm)] := hl
  have J2 : ∀ (z2 : Nat) (k : Nat) (ls : Array Slot), cl bd - k < z2 → (k ≤ cl bd) → (∀ j, j < k → a5 (16 * bd + j) ≠ nm) → lv_has ls 4 [(0, .ref h0), (1, .int (nI bd)), (2, .int nm), (3, .int (nI k))] → W p l e (headSpec zwX7_place { frames := 0, cells := 0, slots := 0, locals := 0 }).room s m (([.ref h0, .int (nI bd), .int nm] : List Value).toArray) below meth c s.heap [] 0 0 (MQ below (vp_Si (fun r => (zM r (fun k => k < cl bd)) ∧ (zPl a5 (16 * bd) (cl bd) nm r))) (([.ref h0, .int (nI bd), .int nm] : List Value).toArray) s 0 0 (fun _ => False)) (F0 m 2 ls []) := by
    intro z2
    induction z2 with
    | zero => intro k ls h9; exact absurd h9 (Nat.not_lt_zero _)
    | succ z2 ih2 =>
      intro k ls hm2 i2_0 i2_1 hl
      refine lv_iload_n hx hb dX7_place_2 rfl (lv_at hl 3 rfl) ?_
      refine lv_aload_n hx hb dX7_place_3 rfl (lv_at hl 0 rfl) ?_
      refine va_get (D := (dC, dI)) (ci := 6) (v := .ref (r 4)) (C := RX7) (T := TX7) (N := 46) hx hb hts hiX7 hown hK hP 0 rfl rfl 4 (by decide) (hts (.fieldLink RX7 17 "LinkModelsModel" "classes" "[I") (by decide +kernel)) (fun _ h9 => h9) rfl dX7_place_4 ?_
      refine lv_iload_n hx hb dX7_place_7 rfl (lv_at hl 1 rfl) ?_
      refine va_iald hx hb hK hP 2 0 rfl rfl (vp_in_nI (show bd < 5 by omega) (by decide)) dX7_place_8 ?_
      refine lv_topi (fun x1 ex1 => ?_)
      obtain rfl : x1 = nI (cl bd) := by rw [ex1, nI_clamp (show bd < 2 ^ 31 by omega)]
      have hqx1 := hcl bd
      refine lv_icmp_ge (tgt := 35) hx hb dX7_place_9 (by decide) (fun cp9 => ?_) (fun cp9 => ?_)
      · have qcp9 : (cl bd) ≤ k := (nI_leI (a := cl bd) (b := k) (by omega) (by omega)).mp cp9
        refine lv_iconst (v := (-1)) hx hb dX7_place_35 (by decide) ?_
        exact W.iret (v := (-1 : Int32)) hx hb hr (fun t ht hW => ⟨(-1 : Int32), rfl, ⟨(Or.inl rfl), (by exact Or.inl ⟨rfl, fun j hj => i2_1 j (by omega)⟩)⟩, ht⟩) (fun _ h => by cases h) dX7_place_36
      · have qcp9 : ¬ (cl bd) ≤ k := fun h9 => cp9 ((nI_leI (a := cl bd) (b := k) (by omega) (by omega)).mpr h9)
        refine lv_aload_n hx hb dX7_place_12 rfl (lv_at hl 0 rfl) ?_
        refine va_get (D := (dC, dI)) (ci := 6) (v := .ref (r 5)) (C := RX7) (T := TX7) (N := 46) hx hb hts hiX7 hown hK hP 0 rfl rfl 5 (by decide) (hts (.fieldLink RX7 20 "LinkModelsModel" "className" "[I") (by decide +kernel)) (fun _ h9 => h9) rfl dX7_place_13 ?_
        refine lv_bipush (v := 16) hx hb dX7_place_16 (by decide) ?_
        refine lv_iload_n hx hb dX7_place_18 rfl (lv_at hl 1 rfl) ?_
        refine lv_imul hx hb dX7_place_19 ?_
        refine lv_topi (fun x2 ex2 => ?_)
        obtain rfl : x2 = nI (16 * bd) := by rw [ex2]; exact pk_mul (16) (bd)
        refine lv_iload_n hx hb dX7_place_20 rfl (lv_at hl 3 rfl) ?_
        refine lv_iadd hx hb dX7_place_21 ?_
        refine lv_topi (fun x3 ex3 => ?_)
        obtain rfl : x3 = nI ((16 * bd) + k) := by rw [ex3]; exact nI_add (16 * bd) (k)
        refine va_iald hx hb hK hP 3 0 rfl rfl (vp_in_nI (show (16 * bd) + k < 80 by omega) (by decide)) dX7_place_22 ?_
        refine lv_topi (fun x4 ex4 => ?_)
        obtain rfl : x4 = a5 ((16 * bd) + k) := by rw [ex4, nI_clamp (show (16 * bd) + k < 2 ^ 31 by omega)]
        refine lv_iload_n hx hb dX7_place_23 rfl (lv_at hl 2 rfl) ?_
        refine lv_icmp_ne (tgt := 29) hx hb dX7_place_24 (by decide) (fun cp24 => ?_) (fun cp24 => ?_)
        · obtain ⟨x5, ex5⟩ : ∃ y : Int32, y = (nI k) + 1 := ⟨_, rfl⟩
          refine lv_iinc (v := x5) (lv' := [(3, .int x5), (0, .ref h0), (1, .int (nI bd)), (2, .int nm)]) hx hb dX7_place_29 hl (k := 3) rfl (by rw [ex5]; rfl) (by decide) rfl (fun ls hl => ?_)
          obtain rfl : x5 = nI (k + 1) := by rw [ex5]; exact nI_add (k) 1
          refine lv_goto (tgt := 2) hx hb dX7_place_32 (by decide) ?_
          exact ih2 (k + 1) ls (by omega) (by first | omega | assumption | trivial) (by (intro j hj; first | omega | (rcases Nat.lt_or_ge j k with h8 | h8; (exact i2_1 j h8); (rw [show j = k by omega]; assumption)))) (lv_sub hl [1, 2, 3, 0] rfl)
        · refine lv_iload_n hx hb dX7_place_27 rfl (lv_at hl 3 rfl) ?_
          exact W.iret (v := (nI k)) hx hb hr (fun t ht hW => ⟨(nI k), rfl, ⟨(zM.mk (by omega) (by first | trivial | omega | assumption | (refine ⟨?_, ?_⟩ <;> first | trivial | omega | assumption))), (by exact Or.inr ⟨k, by omega, rfl, by assumption, i2_1⟩)⟩, ht⟩) (fun _ h => by cases h) dX7_place_28
  refine lv_iconst (v := 0) hx hb dX7_place_0 (by decide) ?_
  refine lv_istore_n (lv' := [(3, .int 0), (0, .ref h0), (1, .int (nI bd)), (2, .int nm)]) hx hb dX7_place_1 rfl hl (by decide) rfl (fun ls hl => ?_)
  exact J2 _ 0 ls (Nat.lt_succ_self _) (by first | omega | assumption | trivial) (by (intro j hj; first | omega | (rcases Nat.lt_or_ge j k with h8 | h8; (exact i2_1 j h8); (rw [show j = k by omega]; assumption)))) (lv_sub hl [1, 2, 3, 0] rfl)
