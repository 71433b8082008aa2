/-- what the tables say of the exception, beside the good words -/
def zDecl : List Cond := [.declares (Bundle.initS "java/lang/RuntimeException"), .declares (Bundle.initS "java/lang/Exception"), .declares (Bundle.initS Bundle.tN), .castable "java/lang/IllegalArgumentException" "java/lang/IllegalArgumentException"]
theorem zDecl_in : ∀ w ∈ (vx_atS RX6 148 "java/lang/IllegalArgumentException" ["java/lang/RuntimeException", "java/lang/Exception"]).filter (fun w => !goodWord w), w ∈ zDecl := by decide +kernel
def zX (sa : Nat) (U : State) : Prop := vk_R RX6 146 "no such build" sa U ∧ va_Nw (.declares (Bundle.initS "java/lang/RuntimeException")) U ∧ va_Nw (.declares (Bundle.initS "java/lang/Exception")) U ∧ va_Nw (.declares (Bundle.initS Bundle.tN)) U ∧ va_Nw (.castable "java/lang/IllegalArgumentException" "java/lang/IllegalArgumentException") U
theorem zX.moved {sa : Nat} {s U : State} (hW : s.WarmedH U.vm) (h : zX sa s) : zX sa U := ⟨vk_R.warm hW h.1, va_Nw.warmD hW h.2.1, va_Nw.warmD hW h.2.2.1, va_Nw.warmD hW h.2.2.2.1, va_Nw.warmC hW h.2.2.2.2⟩
theorem zX.same {sa : Nat} {u U : State} (hv : u.vm = U.vm) (h : zX sa u) : zX sa U := ⟨vk_R.same hv.symm h.1, va_Nw.same rfl hv h.2.1, va_Nw.same rfl hv h.2.2.1, va_Nw.same rfl hv h.2.2.2.1, va_Nw.same rfl hv h.2.2.2.2⟩
theorem zX.words {sa : Nat} {s : State} {args : Array Value} (h : zX sa s) : ∀ w ∈ zDecl, w.before args s = true := vx_c (va_Nw.use rfl h.2.1) (vx_c (va_Nw.use rfl h.2.2.1) (vx_c (va_Nw.use rfl h.2.2.2.1) (vx_c (va_Nw.use rfl h.2.2.2.2) vx_n)))
def zZ (A : Nat → Prop) (U : State) (H : Heap) : Prop := vx_Zq Bundle.tN "UNASSIGNED_STACK" Bundle.steD A U H ∧ vx_Zq Bundle.tN "SUPPRESSED_SENTINEL" Bundle.listD A U H
abbrev zPx (dC : Nat → ClassId) (dI : Nat → Nat → Nat) (av : List Value) (sz sa : Nat) (ws : va_W) : Array Value → State → Prop := va_Pc av (fun U => U.heap.size = sz ∧ va_P (dC, dI) vwCl ws U.heap ∧ va_K (dC, dI) vwCl [] U ∧ va_D (fun _ => True) ws ∧ zX sa U ∧ zZ (va_A ws sz) U U.heap)
theorem zfx {dC : Nat → ClassId} {dI : Nat → Nat → Nat} {av : List Value} {sz sa : Nat} {ws : va_W} : FrameBlind (zPx dC dI av sz sa ws) := fun a U g mk q => ⟨q.1, q.2.1, q.2.2.1, va_K.moved (u := U) (U := U.calling g mk a) (Vm.Alike.refl U.vm) q.2.2.2.1, q.2.2.2.2.1, zX.same rfl q.2.2.2.2.2.1, vx_Zq.moved (u := U) (Vm.Alike.refl U.vm) q.2.2.2.2.2.2.1, vx_Zq.moved (u := U) (Vm.Alike.refl U.vm) q.2.2.2.2.2.2.2⟩
theorem zZ.to {A B : Nat → Prop} {s U : State} {H : Heap} (h : zZ A s s.heap) (hW : s.WarmedH U.vm) (hk : ∀ q : Nat, q < s.heap.size → ¬ A q → H[q]? = s.heap[q]?) (hAB : ∀ q, B q → A q) (hU : U.heap = H) : zZ B U U.heap := by
  rw [hU]
  exact ⟨((h.1.kept hk).narrow hAB).moved hW.alike, ((h.2.kept hk).narrow hAB).moved hW.alike⟩

theorem dX6_share_0 : decode cX6_share 0 = .ok (.aload_n 0, 1) := by decide +kernel
theorem dX6_share_1 : decode cX6_share 1 = .ok (.iload_n 1, 1) := by decide +kernel
theorem dX6_share_2 : decode cX6_share 2 = .ok (.invokevirtual 62, 3) := by decide +kernel
theorem dX6_share_5 : decode cX6_share 5 = .ok (.astore_n 2, 1) := by decide +kernel
theorem dX6_share_6 : decode cX6_share 6 = .ok (.aload_n 2, 1) := by decide +kernel
theorem dX6_share_7 : decode cX6_share 7 = .ok (.ifnonnull 13, 3) := by decide +kernel
theorem dX6_share_10 : decode cX6_share 10 = .ok (.new 144, 3) := by decide +kernel
theorem dX6_share_13 : decode cX6_share 13 = .ok (.dup, 1) := by decide +kernel
theorem dX6_share_14 : decode cX6_share 14 = .ok (.ldc 146, 2) := by decide +kernel
theorem dX6_share_16 : decode cX6_share 16 = .ok (.invokespecial 148, 3) := by decide +kernel
theorem dX6_share_19 : decode cX6_share 19 = .ok (.athrow, 1) := by decide +kernel
def zwX6_share : List Cond := .code yX6_share cX6_share 5 (some .int) :: (([.classLink RX6 144 "java/lang/IllegalArgumentException", .initialized "java/lang/IllegalArgumentException", .methodLink RX6 62 yX6_buildAt, .instanceMethod yX6_buildAt, .selects RX6 yX6_buildAt yX6_buildAt, .initialized RX6, .code yX6_buildAt cX6_buildAt 2 (some (.object "LinkModels$Build")), .fieldLink RX6 23 "LinkModels" "buildCount" "I"] ++ wsX60) ++ (vx_atS RX6 148 "java/lang/IllegalArgumentException" ["java/lang/RuntimeException", "java/lang/Exception"]).filter goodWord)
theorem zgX6_share_X6_buildAt_62 : GoodIn zwX6_share (wsV RX6 62 RX6 yX6_buildAt zwX6_buildAt) := goodIn_of _ (by decide +kernel)
set_option maxHeartbeats 4000000 in
set_option maxRecDepth 100000 in
/-- share on a fresh object throws IllegalArgumentException -/
theorem zX6_share (l : Launch) (hl9 : l.stackTraces = false) (dC : Nat → ClassId) (dI : Nat → Nat → Nat) (h0 rt rb ru rr : Nat) (p0 : Int32) (sz sa : Nat) : vx_Met l yX6_share zwX6_share ({ frames := 6, cells := 1, slots := 6, locals := 82 }) (zPx dC dI [.ref h0, .int p0] sz sa [(h0, .inr (5, [.ref rt, .int 0, .ref rb, .int 0, .ref ru, .int 0, .ref rr]))]) (va_Qi (fun (_ : Int32) (_ : Unit) => False) (fun _ _ => True) (va_A [(h0, .inr (5, [.ref rt, .int 0, .ref rb, .int 0, .ref ru, .int 0, .ref rr]))] sz)) (vx_X (fun _ : Unit => True) (fun E _ _ => E = "java/lang/IllegalArgumentException") (va_A [(h0, .inr (5, [.ref rt, .int 0, .ref rb, .int 0, .ref ru, .int 0, .ref rr]))] sz)) 1 6 (va_A [(h0, .inr (5, [.ref rt, .int 0, .ref rb, .int 0, .ref ru, .int 0, .ref rr]))] sz) := by
  refine vx_ofW (cc := cX6_share) (maxL := 5) (ret := (some .int)) (by decide) rfl ?_
  intro p e s m args below meth c s₁ B hml htab hv
  obtain ⟨rfl, hsz, hP, hK, hD0, hX, hZ⟩ := hv
  have hx := B.exec
  have hb := B.bytes
  have hr := B.returns
  have hts := atoms_spec (ws := zwX6_share) B.pre
  have hown : s.vm.findClass RX6 = some m.cls := findClass_of_methodNamed B.named
  have hlocks := B.notSynchronized
  subst hsz
  have hD := hD0.self (sz := s.heap.size)
  generalize hAe : va_A [(h0, .inr (5, [.ref rt, .int 0, .ref rb, .int 0, .ref ru, .int 0, .ref rr]))] s.heap.size = A at hD hZ ⊢
  have hA : ∀ q : Nat, s.heap.size ≤ q → A q := fun q h => by rw [← hAe]; exact Or.inr h
  have hS : va_S A s.heap s.heap [] := va_S.rf
  have hP : va_P (dC, dI) vwCl [(h0, .inr (5, [.ref rt, .int 0, .ref rb, .int 0, .ref ru, .int 0, .ref rr]))] s.heap := hP
  have hl := lv_entry ([.ref h0, .int p0]) (n := 5) (Nat.le_of_ble_eq_true rfl)
  rw [lg_entry_eq]
  generalize (lg_sl ([.ref h0, .int p0]) ++ List.replicate (5 - (lg_sl ([.ref h0, .int p0])).length) Slot.unset).toArray = ls at hl ⊢
  have hl : lv_has ls 5 [(0, .ref h0), (1, .int p0)] := hl
  refine lv_aload_n hx hb dX6_share_0 rfl (lv_at hl 0 rfl) ?_
  refine lv_iload_n hx hb dX6_share_1 rfl (lv_at hl 1 rfl) ?_
  refine va_csq (W.runV (As := [.int p0]) (rest := []) ⟨hx, hb, hml, hown, hts⟩ (zX6_buildAt l dC dI h0 rt rb ru rr p0) (cwV 1 hts zgX6_share_X6_buildAt_62 rfl rfl rfl (by decide +kernel) ⟨(show 0 + 1 ≤ 6 by omega), (show 8 + (2 + 11) + 0 ≤ 82 by omega)⟩) (zVr (ci := 5) (q0 := 0) (q := (RX6, TX6, 7)) (hK.sub (tys' := []) [] rfl) (hP.sub (ws' := [(h0, .inr (5, [.ref rt, .int 0, .ref rb, .int 0, .ref ru, .int 0, .ref rr]))]) [0] rfl) rfl rfl rfl) rfl rfl hl.1 rfl (lv_room (Nat.le_of_ble_eq_true rfl)) dX6_share_2 ⟨(show 0 + 0 ≤ 1 by omega), (show 0 + 0 ≤ 6 by omega)⟩) (fun r1 hr1 => ?_)
  subst hr1
  refine W.eq (g2 := F0 m 5 ls [.null]) rfl ?_
  refine lv_astore_nN (lv' := [(2, .null), (0, .ref h0), (1, .int p0)]) hx hb dX6_share_5 rfl hl (by decide) rfl (fun ls hl => ?_)
  refine lv_aload_nN hx hb dX6_share_6 rfl (lv_at hl 0 rfl) ?_
  refine lv_ifnonnullN hx hb dX6_share_7 ?_
  have hat : ∀ w ∈ vx_atS RX6 148 "java/lang/IllegalArgumentException" ["java/lang/RuntimeException", "java/lang/Exception"], w.before ([.ref h0, .int p0] : List Value).toArray s = true := vx_hat (B := zDecl) (fun w h => hts w (List.mem_cons_of_mem _ (List.mem_append_right _ h))) zDecl_in hX.words
  exact vx_throwS (own := RX6) (cls := "java/lang/IllegalArgumentException") (text := "no such build") (names := ["java/lang/RuntimeException", "java/lang/Exception"]) (ik := 144) (is := 146) (ic := 148) (sa := sa) (A := A) hx hb hl9 hown (by decide +kernel) (by decide +kernel) (hts (.classLink RX6 144 "java/lang/IllegalArgumentException") (by decide +kernel)) (hts (.initialized "java/lang/IllegalArgumentException") (by decide +kernel)) hX.1 hat (by decide +kernel) hZ.1 hZ.2 hS (by rw [hml]; exact hl.1) dX6_share_10 dX6_share_13 dX6_share_14 dX6_share_16 dX6_share_19 (fun x hx => (htab x hx).elim) (show 2 + 3 < 6 by omega) (show 0 + (13 * (2 + 1) + 43) ≤ 82 by omega) (show 0 + 1 ≤ 1 by omega) (show 0 + 6 ≤ 6 by omega) hlocks (fun t ha hz hk => ⟨(), trivial, rfl, hz, fun q h1 _ => hk q h1⟩) hS.2.2 (show 0 + 1 ≤ 1 by omega) (show 0 + 6 ≤ 6 by omega)
section ZSX
variable {dC : Nat → ClassId} {dI : Nat → Nat → Nat} {ws : va_W} {s : State} {H : Heap} {a q0 ci sa : Nat} {q : vw_C} {fs As : List Value} {C : String} {A : Nat → Prop}
theorem zVx (hK : va_K (dC, dI) vwCl [] s) (hP : va_P (dC, dI) vwCl ws H) (hD : va_D A ws) (hX : zX sa s) (hZ : zZ A s s.heap) (hk : ∀ q : Nat, q < s.heap.size → ¬ A q → H[q]? = s.heap[q]?) (hAB : ∀ q, va_A ws H.size q → A q) (hc : vwCl[ci]? = some q) (he : ws[q0]? = some (a, .inr (ci, fs))) (hC : q.1 = C) : PreV s H C a (zPx dC dI (.ref a :: As) H.size sa ws) As := by
  subst hC
  exact ⟨zfx, va_recv hK hP hc he, fun U hU hW => ⟨rfl, by rw [hU], by rw [hU]; exact hP, va_K.moved hW.alike hK, hD.weaken (fun _ _ _ _ => trivial), zX.moved hW hX, zZ.to hZ hW hk hAB hU⟩⟩
theorem zSx (hK : va_K (dC, dI) vwCl [] s) (hP : va_P (dC, dI) vwCl ws H) (hD : va_D A ws) (hX : zX sa s) (hZ : zZ A s s.heap) (hk : ∀ q : Nat, q < s.heap.size → ¬ A q → H[q]? = s.heap[q]?) (hAB : ∀ q, va_A ws H.size q → A q) : PreS s H (zPx dC dI As H.size sa ws) As := ⟨zfx, fun U hU hW => ⟨rfl, by rw [hU], by rw [hU]; exact hP, va_K.moved hW.alike hK, hD.weaken (fun _ _ _ _ => trivial), zX.moved hW hX, zZ.to hZ hW hk hAB hU⟩⟩
end ZSX
theorem dL_share_0 : decode cL_share 0 = .ok (.aload_n 2, 1) := by decide +kernel
theorem dL_share_1 : decode cL_share 1 = .ok (.iconst 0, 1) := by decide +kernel
theorem dL_share_2 : decode cL_share 2 = .ok (.aload_n 0, 1) := by decide +kernel
theorem dL_share_3 : decode cL_share 3 = .ok (.iload_n 1, 1) := by decide +kernel
theorem dL_share_4 : decode cL_share 4 = .ok (.invokevirtual 7, 3) := by decide +kernel
theorem dL_share_12 : decode cL_share 12 = .ok (.astore_n 3, 1) := by decide +kernel
theorem dL_share_13 : decode cL_share 13 = .ok (.iconst 1, 1) := by decide +kernel
theorem dL_share_14 : decode cL_share 14 = .ok (.ireturn, 1) := by decide +kernel
def zwL_share : List Cond := .codeWith yL_share cL_share 4 (some .int) [(0, 9, 12, 13), (0, 9, 15, 15)] :: (([.classLink RL 13 "java/lang/IllegalArgumentException", .methodLink RL 7 yX6_share, .instanceMethod yX6_share, .selects RX6 yX6_share yX6_share, .initialized RX6, .code yX6_share cX6_share 5 (some .int), .classLink RX6 144 "java/lang/IllegalArgumentException", .initialized "java/lang/IllegalArgumentException", .methodLink RX6 62 yX6_buildAt, .instanceMethod yX6_buildAt, .selects RX6 yX6_buildAt yX6_buildAt, .code yX6_buildAt cX6_buildAt 2 (some (.object "LinkModels$Build")), .fieldLink RX6 23 "LinkModels" "buildCount" "I"] ++ wsX60) ++ (vx_atS RX6 148 "java/lang/IllegalArgumentException" ["java/lang/RuntimeException", "java/lang/Exception"]).filter goodWord)
theorem zgL_share : GoodIn zwL_share (wsV RL 7 RX6 yX6_share zwX6_share) := goodIn_of _ (by decide +kernel)
set_option maxHeartbeats 4000000 in
set_option maxRecDepth 100000 in
theorem zL_share (l : Launch) (hl9 : l.stackTraces = false) (dC : Nat → ClassId) (dI : Nat → Nat → Nat) (h0 rt rb ru rr ro : Nat) (p0 : Int32) (sz sa : Nat) : Met l yL_share zwL_share ({ frames := 7, cells := 1, slots := 6, locals := 106 }) (zPx dC dI [.ref h0, .int p0, .ref ro] sz sa [(h0, .inr (5, [.ref rt, .int 0, .ref rb, .int 0, .ref ru, .int 0, .ref rr]))]) (va_Qi (fun (r : Int32) (_ : Unit) => r = 1) (fun _ _ => True) (va_A [(h0, .inr (5, [.ref rt, .int 0, .ref rb, .int 0, .ref ru, .int 0, .ref rr]))] sz)) 1 6 (va_A [(h0, .inr (5, [.ref rt, .int 0, .ref rb, .int 0, .ref ru, .int 0, .ref rr]))] sz) := by
  refine va_MetW (cc := cL_share) (maxL := 4) (ret := (some .int)) (hh := [(0, 9, 12, 13), (0, 9, 15, 15)]) (by decide) rfl ?_
  intro p e s m args below meth c s₁ B hml hv
  obtain ⟨rfl, hsz, hP, hK, hD0, hX, hZ⟩ := hv
  have hx := B.exec
  have hb := B.bytes
  have hr := B.returns
  have hts := atoms_spec (ws := zwL_share) B.pre
  have htab := vx_table (x := yL_share) B (hts (.codeWith yL_share cL_share 4 (some .int) [(0, 9, 12, 13), (0, 9, 15, 15)]) List.mem_cons_self)
  have hown : s.vm.findClass RL = some m.cls := findClass_of_methodNamed B.named
  have hlocks := B.notSynchronized
  subst hsz
  have hD := hD0.self (sz := s.heap.size)
  generalize hAe : va_A [(h0, .inr (5, [.ref rt, .int 0, .ref rb, .int 0, .ref ru, .int 0, .ref rr]))] s.heap.size = A at hD hZ ⊢
  have hA : ∀ q : Nat, s.heap.size ≤ q → A q := fun q h => by rw [← hAe]; exact Or.inr h
  have hS : va_S A s.heap s.heap [] := va_S.rf
  have hP : va_P (dC, dI) vwCl [(h0, .inr (5, [.ref rt, .int 0, .ref rb, .int 0, .ref ru, .int 0, .ref rr]))] s.heap := hP
  have hl := lv_entry ([.ref h0, .int p0, .ref ro]) (n := 4) (Nat.le_of_ble_eq_true rfl)
  rw [lg_entry_eq]
  generalize (lg_sl ([.ref h0, .int p0, .ref ro]) ++ List.replicate (4 - (lg_sl ([.ref h0, .int p0, .ref ro])).length) Slot.unset).toArray = ls at hl ⊢
  have hl : lv_has ls 4 [(0, .ref h0), (1, .int p0), (2, .ref ro)] := hl
  refine lv_aload_n hx hb dL_share_0 rfl (lv_at hl 2 rfl) ?_
  refine lv_iconst (v := 0) hx hb dL_share_1 (by decide) ?_
  refine lv_aload_n hx hb dL_share_2 rfl (lv_at hl 0 rfl) ?_
  refine lv_iload_n hx hb dL_share_3 rfl (lv_at hl 1 rfl) ?_
  have hAB : ∀ q, va_A [(h0, .inr (5, [.ref rt, .int 0, .ref rb, .int 0, .ref ru, .int 0, .ref rr]))] s.heap.size q → A q := fun q h => by rw [← hAe]; exact h
  refine vx_calli (vx_runV (As := [.int p0]) (rest := [.int 0, .ref ro]) ⟨hx, hb, hml, hown, hts⟩ (zX6_share l hl9 dC dI h0 rt rb ru rr p0 s.heap.size sa) (cwV 1 hts zgL_share rfl rfl rfl (by decide +kernel) ⟨(show 6 + 1 ≤ 7 by omega), (show 8 + (5 + 11) + 82 ≤ 106 by omega)⟩) (zVx (ci := 5) (q0 := 0) (q := (RX6, TX6, 7)) hK hP hD hX hZ (fun _ _ _ => rfl) hAB rfl rfl rfl) rfl rfl hl.1 rfl (lv_room (Nat.le_of_ble_eq_true rfl)) dL_share_4 ⟨(show 0 + 1 ≤ 1 by omega), (show 0 + 6 ≤ 6 by omega)⟩) hS (fun q _ h => hAB q h) hAB (fun q _ h => hAB q h) (fun E ce q9 u t H1 locs1 ht hvm hpx hBX hz hk hS hce hcv hcl => ?_) (fun r u t H1 locs1 ht hvm hp => hp.elim)
  have hE9 : E = "java/lang/IllegalArgumentException" := hBX
  subst hE9
  refine z_catch (own := RL) (name := "java/lang/IllegalArgumentException") (E := "java/lang/IllegalArgumentException") hown ⟨0, 9, 12, 13⟩ [⟨0, 9, 15, 15⟩] htab (by decide) (by decide) (hts (.classLink RL 13 "java/lang/IllegalArgumentException") (by decide +kernel)) (va_Nw.use rfl hX.2.2.2.2) hce hcv hcl ?_
  refine W.widen (k := 1) (n := 6) (by omega) (by omega) ?_
  refine lv_astore_n (lv' := [(3, .ref q9), (0, .ref h0), (1, .int p0), (2, .ref ro)]) hx hb dL_share_12 rfl hl (by decide) rfl (fun ls hl => ?_)
  refine lv_iconst (v := 1) hx hb dL_share_13 (by decide) ?_
  exact W.iret (v := 1) hx hb hr (fun t ht hW => ⟨⟨1, (), rfl, rfl, trivial⟩, hS.F ht⟩) hS.2.2 dL_share_14
