theorem dX6_emptyBuild_0 : decode cX6_emptyBuild 0 = .ok (.aload_n 0, 1) := by decide +kernel
theorem dX6_emptyBuild_1 : decode cX6_emptyBuild 1 = .ok (.getfield 19, 3) := by decide +kernel
theorem dX6_emptyBuild_4 : decode cX6_emptyBuild 4 = .ok (.aload_n 0, 1) := by decide +kernel
theorem dX6_emptyBuild_5 : decode cX6_emptyBuild 5 = .ok (.getfield 23, 3) := by decide +kernel
theorem dX6_emptyBuild_8 : decode cX6_emptyBuild 8 = .ok (.aaload, 1) := by decide +kernel
theorem dX6_emptyBuild_9 : decode cX6_emptyBuild 9 = .ok (.astore_n 1, 1) := by decide +kernel
theorem dX6_emptyBuild_10 : decode cX6_emptyBuild 10 = .ok (.aload_n 1, 1) := by decide +kernel
theorem dX6_emptyBuild_11 : decode cX6_emptyBuild 11 = .ok (.ifnonnull 21, 3) := by decide +kernel
theorem dX6_emptyBuild_14 : decode cX6_emptyBuild 14 = .ok (.new 17, 3) := by decide +kernel
theorem dX6_emptyBuild_17 : decode cX6_emptyBuild 17 = .ok (.dup, 1) := by decide +kernel
theorem dX6_emptyBuild_18 : decode cX6_emptyBuild 18 = .ok (.invokespecial 156, 3) := by decide +kernel
theorem dX6_emptyBuild_21 : decode cX6_emptyBuild 21 = .ok (.astore_n 1, 1) := by decide +kernel
theorem dX6_emptyBuild_22 : decode cX6_emptyBuild 22 = .ok (.aload_n 0, 1) := by decide +kernel
theorem dX6_emptyBuild_23 : decode cX6_emptyBuild 23 = .ok (.getfield 19, 3) := by decide +kernel
theorem dX6_emptyBuild_26 : decode cX6_emptyBuild 26 = .ok (.aload_n 0, 1) := by decide +kernel
theorem dX6_emptyBuild_27 : decode cX6_emptyBuild 27 = .ok (.getfield 23, 3) := by decide +kernel
theorem dX6_emptyBuild_30 : decode cX6_emptyBuild 30 = .ok (.aload_n 1, 1) := by decide +kernel
theorem dX6_emptyBuild_31 : decode cX6_emptyBuild 31 = .ok (.aastore, 1) := by decide +kernel
theorem dX6_emptyBuild_32 : decode cX6_emptyBuild 32 = .ok (.aload_n 1, 1) := by decide +kernel
theorem dX6_emptyBuild_33 : decode cX6_emptyBuild 33 = .ok (.iconst 0, 1) := by decide +kernel
theorem dX6_emptyBuild_34 : decode cX6_emptyBuild 34 = .ok (.putfield 78, 3) := by decide +kernel
theorem dX6_emptyBuild_37 : decode cX6_emptyBuild 37 = .ok (.aload_n 1, 1) := by decide +kernel
theorem dX6_emptyBuild_38 : decode cX6_emptyBuild 38 = .ok (.areturn, 1) := by decide +kernel
def zwX6_emptyBuild : List Cond := .code yX6_emptyBuild cX6_emptyBuild 2 (some (.object "LinkModels$Build")) :: ([.fieldLink RX6 19 "LinkModels" "builds" "[LLinkModels$Build;", .fieldLink RX6 23 "LinkModels" "buildCount" "I", .classLink RX6 17 RX0, .instantiable RX0 17, .initialized RX0, .instanceMethod yX0_init, .fieldLink RX6 78 "LinkModels$Build" "classCount" "I", .code yX0_init cX0_init 1 none, .methodLink RX0 5 objectInit, .instanceMethod objectInit, .code objectInit ⟨#[0xb1]⟩ 1 none, .arrayClass .int, .fieldLink RX0 11 "LinkModels$Build" "names" "[I", .fieldLink RX0 15 "LinkModels$Build" "classMarks" "[I", .fieldLink RX0 18 "LinkModels$Build" "aboveNames" "[I", .fieldLink RX0 21 "LinkModels$Build" "faceCounts" "[I", .fieldLink RX0 24 "LinkModels$Build" "faceNames" "[I", .fieldLink RX0 27 "LinkModels$Build" "memberCounts" "[I", .fieldLink RX0 30 "LinkModels$Build" "memberMarks" "[I", .arrayClass .long, .fieldLink RX0 33 "LinkModels$Build" "words" "[J", .fieldLink RX0 37 "LinkModels$Build" "typeCounts" "[I", .fieldLink RX0 40 "LinkModels$Build" "firsts" "[I", .fieldLink RX0 43 "LinkModels$Build" "seconds" "[I", .fieldLink RX0 46 "LinkModels$Build" "numbers" "[I", .fieldLink RX0 49 "LinkModels$Build" "errors" "[I", .fieldLink RX0 52 "LinkModels$Build" "reached" "[I", .fieldLink RX0 55 "LinkModels$Build" "lines" "[I", .fieldLink RX0 58 "LinkModels$Build" "lineCounts" "[I"] ++ wsX60 ++ wsX00)
theorem zgX6_emptyBuild_X0_init_156 : GoodIn zwX6_emptyBuild zwX0_init := goodIn_of _ (by decide +kernel)
set_option maxHeartbeats 4000000 in
set_option maxRecDepth 100000 in
theorem zX6_emptyBuild (l : Launch) (dC : Nat → ClassId) (dI : Nat → Nat → Nat) (h0 rt rb ru rr : Nat) (cQ : ClassId) (sz : Nat) : Met l yX6_emptyBuild zwX6_emptyBuild ({ frames := 2, cells := 17, slots := 1697, locals := 32 }) (zPe dC dI [.ref h0] sz [(h0, .inr (5, [.ref rt, .int 0, .ref rb, .int 0, .ref ru, .int 0, .ref rr])), (rb, .inl (cQ, 5, .inr (.inr (.inr (.inr (fun _ => none))))))] [(cQ, .object RX0)]) (va_Qr (fun _ : Nat → Nat => True) (fun u a t => zB dC dI (va_A [(h0, .inr (5, [.ref rt, .int 0, .ref rb, .int 0, .ref ru, .int 0, .ref rr])), (rb, .inl (cQ, 5, .inr (.inr (.inr (.inr (fun _ => none))))))] sz) [(h0, .inr (5, [.ref rt, .int 0, .ref rb, .int 0, .ref ru, .int 0, .ref rr])), (a, .inr (0, [.int 0, .ref (u 1), .ref (u 2), .ref (u 3), .ref (u 4), .ref (u 5), .ref (u 6), .ref (u 7), .ref (u 8), .ref (u 9), .ref (u 10), .ref (u 11), .ref (u 12), .ref (u 13), .ref (u 14), .ref (u 15), .ref (u 16)]))] [] t) (va_A [(h0, .inr (5, [.ref rt, .int 0, .ref rb, .int 0, .ref ru, .int 0, .ref rr])), (rb, .inl (cQ, 5, .inr (.inr (.inr (.inr (fun _ => none))))))] sz)) 17 1697 (va_A [(h0, .inr (5, [.ref rt, .int 0, .ref rb, .int 0, .ref ru, .int 0, .ref rr])), (rb, .inl (cQ, 5, .inr (.inr (.inr (.inr (fun _ => none))))))] sz) := by
  refine Met.ofW (cc := cX6_emptyBuild) (maxL := 2) (ret := (some (.object "LinkModels$Build"))) (by decide) rfl ?_
  intro p e s m args below meth c s₁ B hml hv
  obtain ⟨rfl, hsz, hP, hK, hD0, hE⟩ := hv
  have hx := B.exec
  have hb := B.bytes
  have hr := B.returns
  have hts := atoms_spec (ws := zwX6_emptyBuild) B.pre
  have hown : s.vm.findClass RX6 = some m.cls := findClass_of_methodNamed B.named
  have hlocks := B.notSynchronized
  have hiX6 : ∀ w ∈ wsX60, w ∈ zwX6_emptyBuild := (by decide +kernel)
  have hiX0 : ∀ w ∈ wsX00, w ∈ zwX6_emptyBuild := (by decide +kernel)
  subst hsz
  have hD := hD0.self (sz := s.heap.size)
  generalize hAe : va_A [(h0, .inr (5, [.ref rt, .int 0, .ref rb, .int 0, .ref ru, .int 0, .ref rr])), (rb, .inl (cQ, 5, .inr (.inr (.inr (.inr (fun _ => none))))))] s.heap.size = A at hD ⊢
  have hA : ∀ q : Nat, s.heap.size ≤ q → A q := fun q h => by rw [← hAe]; exact Or.inr h
  have hS : va_S A s.heap s.heap [] := va_S.rf
  have hP : va_P (dC, dI) vwCl [(h0, .inr (5, [.ref rt, .int 0, .ref rb, .int 0, .ref ru, .int 0, .ref rr])), (rb, .inl (cQ, 5, .inr (.inr (.inr (.inr (fun _ => none))))))] s.heap := hP
  have hl := lv_entry ([.ref h0]) (n := 2) (Nat.le_of_ble_eq_true rfl)
  rw [lg_entry_eq]
  generalize (lg_sl ([.ref h0]) ++ List.replicate (2 - (lg_sl ([.ref h0])).length) Slot.unset).toArray = ls at hl ⊢
  have hl : lv_has ls 2 [(0, .ref h0)] := hl
  refine lv_aload_n hx hb dX6_emptyBuild_0 rfl (lv_at hl 0 rfl) ?_
  refine va_get (D := (dC, dI)) (ci := 5) (v := .ref rb) (C := RX6) (T := TX6) (N := 7) hx hb hts hiX6 hown hK hP 0 rfl rfl 2 (by decide) (hts (.fieldLink RX6 19 "LinkModels" "builds" "[LLinkModels$Build;") (by decide +kernel)) (fun _ h9 => h9) rfl dX6_emptyBuild_1 ?_
  refine lv_aload_n hx hb dX6_emptyBuild_4 rfl (lv_at hl 0 rfl) ?_
  refine va_get (D := (dC, dI)) (ci := 5) (v := .int 0) (C := RX6) (T := TX6) (N := 7) hx hb hts hiX6 hown hK hP 0 rfl rfl 3 (by decide) (hts (.fieldLink RX6 23 "LinkModels" "buildCount" "I") (by decide +kernel)) (fun _ h9 => h9) rfl dX6_emptyBuild_5 ?_
  refine va_aldq hx hb hK hP 1 0 rfl rfl (by unfold vp_in; decide) dX6_emptyBuild_8 ?_
  refine W.eq (g2 := F0 m 9 ls [.null]) rfl ?_
  refine lv_astore_nN (lv' := [(1, .null), (0, .ref h0)]) hx hb dX6_emptyBuild_9 rfl hl (by decide) rfl (fun ls hl => ?_)
  refine lv_aload_nN hx hb dX6_emptyBuild_10 rfl (lv_at hl 0 rfl) ?_
  refine lv_ifnonnullN hx hb dX6_emptyBuild_11 ?_
  refine va_new (ci := 0) (fs := [.int 0, .null, .null, .null, .null, .null, .null, .null, .null, .null, .null, .null, .null, .null, .null, .null, .null]) (C := RX0) (T := TX0) (N := 17) hx hb hts hiX0 tyX0 tyX0_ok hown (hts (.classLink RX6 17 RX0) (by decide +kernel)) (hts (.instantiable RX0 17) (by decide +kernel)) (hts (.initialized RX0) (by decide +kernel)) hK hP hD hS hA rfl (by decide +kernel) (show 0 + 1 ≤ 17 by omega) (show 0 + 17 ≤ 1697 by omega) dX6_emptyBuild_14 (fun q1 H hP hD hS => ?_)
  have hP : va_P (dC, dI) vwCl [(h0, .inr (5, [.ref rt, .int 0, .ref rb, .int 0, .ref ru, .int 0, .ref rr])), (rb, .inl (cQ, 5, .inr (.inr (.inr (.inr (fun _ => none)))))), (q1, .inr (0, [.int 0, .null, .null, .null, .null, .null, .null, .null, .null, .null, .null, .null, .null, .null, .null, .null, .null]))] H := hP
  have hD : va_D A [(h0, .inr (5, [.ref rt, .int 0, .ref rb, .int 0, .ref ru, .int 0, .ref rr])), (rb, .inl (cQ, 5, .inr (.inr (.inr (.inr (fun _ => none)))))), (q1, .inr (0, [.int 0, .null, .null, .null, .null, .null, .null, .null, .null, .null, .null, .null, .null, .null, .null, .null, .null]))] := hD
  refine W.widen (k := 1) (n := 17) (by omega) (by omega) ?_
  refine lv_dup hx hb dX6_emptyBuild_17 rfl ?_
  have hPc := hP.sub (ws' := [(q1, .inr (0, [.int 0, .null, .null, .null, .null, .null, .null, .null, .null, .null, .null, .null, .null, .null, .null, .null, .null]))]) [2] rfl
  have hDc := hD.sub (ws' := [(q1, .inr (0, [.int 0, .null, .null, .null, .null, .null, .null, .null, .null, .null, .null, .null, .null, .null, .null, .null, .null]))]) [2] (by decide) rfl
  have hKc := hK.sub (tys' := []) [] rfl
  have hFc := va_free (wc := [(q1, .inr (0, [.int 0, .null, .null, .null, .null, .null, .null, .null, .null, .null, .null, .null, .null, .null, .null, .null, .null]))]) hD hS hA [2] rfl
  refine va_callv (va_runIN (As := []) (rest := [.ref q1]) ⟨hx, hb, hml, hown, hts⟩ (zX0_init l dC dI q1 H.size) ⟨va_cnB 0 hts zgX6_emptyBuild_X0_init_156 rfl rfl rfl hE.2.2.2.1 (hts (.initialized RX0) (by decide +kernel)) (by decide +kernel) ⟨(show 1 + 1 ≤ 2 by omega), (show 8 + (1 + 11) + 12 ≤ 32 by omega)⟩, rfl, (hts (.instanceMethod yX0_init) (by decide +kernel))⟩ (zSw hKc hPc hDc) rfl rfl hl.1 rfl (lv_room (Nat.le_of_ble_eq_true rfl)) dX6_emptyBuild_18 ⟨(show 1 + 16 ≤ 17 by omega), (show 17 + 1680 ≤ 1697 by omega)⟩) hS (fun q _ h => hFc q h) hFc (fun u2 t H1 locs ht hvm hw hB hz1 hk1 hS => ?_)
  obtain ⟨hP1, hK1, hD1⟩ := hB
  rw [ht] at hP1
  have hK1 := va_K.moved hvm.symm hK1
  obtain ⟨hP, hD⟩ := va_join (wr := [(h0, .inr (5, [.ref rt, .int 0, .ref rb, .int 0, .ref ru, .int 0, .ref rr])), (rb, .inl (cQ, 5, .inr (.inr (.inr (.inr (fun _ => none))))))]) (w1 := [(q1, .inr (0, [.int 0, .ref (u2 1), .ref (u2 2), .ref (u2 3), .ref (u2 4), .ref (u2 5), .ref (u2 6), .ref (u2 7), .ref (u2 8), .ref (u2 9), .ref (u2 10), .ref (u2 11), .ref (u2 12), .ref (u2 13), .ref (u2 14), .ref (u2 15), .ref (u2 16)]))]) hP hD [2] [0, 1] rfl rfl (by decide) (by decide) hk1 hFc hP1 hD1
  have hK := (hK.sub (tys' := [(cQ, .object RX0)]) [0] rfl).app hK1
  generalize H1 = H at hP hS ⊢
  have hP : va_P (dC, dI) vwCl [(h0, .inr (5, [.ref rt, .int 0, .ref rb, .int 0, .ref ru, .int 0, .ref rr])), (rb, .inl (cQ, 5, .inr (.inr (.inr (.inr (fun _ => none)))))), (q1, .inr (0, [.int 0, .ref (u2 1), .ref (u2 2), .ref (u2 3), .ref (u2 4), .ref (u2 5), .ref (u2 6), .ref (u2 7), .ref (u2 8), .ref (u2 9), .ref (u2 10), .ref (u2 11), .ref (u2 12), .ref (u2 13), .ref (u2 14), .ref (u2 15), .ref (u2 16)]))] H := hP
  have hD : va_D A [(h0, .inr (5, [.ref rt, .int 0, .ref rb, .int 0, .ref ru, .int 0, .ref rr])), (rb, .inl (cQ, 5, .inr (.inr (.inr (.inr (fun _ => none)))))), (q1, .inr (0, [.int 0, .ref (u2 1), .ref (u2 2), .ref (u2 3), .ref (u2 4), .ref (u2 5), .ref (u2 6), .ref (u2 7), .ref (u2 8), .ref (u2 9), .ref (u2 10), .ref (u2 11), .ref (u2 12), .ref (u2 13), .ref (u2 14), .ref (u2 15), .ref (u2 16)]))] := hD
  have hK : va_K (dC, dI) vwCl [(cQ, .object RX0)] s := hK
  refine W.widen (k := 17) (n := 1697) (by omega) (by omega) ?_
  refine lv_astore_n (lv' := [(1, .ref q1), (0, .ref h0)]) hx hb dX6_emptyBuild_21 rfl hl (by decide) rfl (fun ls hl => ?_)
  refine lv_aload_n hx hb dX6_emptyBuild_22 rfl (lv_at hl 1 rfl) ?_
  refine va_get (D := (dC, dI)) (ci := 5) (v := .ref rb) (C := RX6) (T := TX6) (N := 7) hx hb hts hiX6 hown hK hP 0 rfl rfl 2 (by decide) (hts (.fieldLink RX6 19 "LinkModels" "builds" "[LLinkModels$Build;") (by decide +kernel)) (fun _ h9 => h9) rfl dX6_emptyBuild_23 ?_
  refine lv_aload_n hx hb dX6_emptyBuild_26 rfl (lv_at hl 1 rfl) ?_
  refine va_get (D := (dC, dI)) (ci := 5) (v := .int 0) (C := RX6) (T := TX6) (N := 7) hx hb hts hiX6 hown hK hP 0 rfl rfl 3 (by decide) (hts (.fieldLink RX6 23 "LinkModels" "buildCount" "I") (by decide +kernel)) (fun _ h9 => h9) rfl dX6_emptyBuild_27 ?_
  refine lv_aload_n hx hb dX6_emptyBuild_30 rfl (lv_at hl 0 rfl) ?_
  refine va_astq (r := (RX0, TX0, 17)) hx hb hK hP hD hS 1 0 2 0 rfl rfl rfl rfl (by unfold vp_in; decide) dX6_emptyBuild_31 (fun H locs hP hD hS => ?_)
  have hP : va_P (dC, dI) vwCl [(h0, .inr (5, [.ref rt, .int 0, .ref rb, .int 0, .ref ru, .int 0, .ref rr])), (rb, .inl (cQ, 5, .inr (.inr (.inr (.inr (va_up (fun _ => none) (0 : Int32).toNatClampNeg (some q1))))))), (q1, .inr (0, [.int 0, .ref (u2 1), .ref (u2 2), .ref (u2 3), .ref (u2 4), .ref (u2 5), .ref (u2 6), .ref (u2 7), .ref (u2 8), .ref (u2 9), .ref (u2 10), .ref (u2 11), .ref (u2 12), .ref (u2 13), .ref (u2 14), .ref (u2 15), .ref (u2 16)]))] H := hP
  have hD : va_D A [(h0, .inr (5, [.ref rt, .int 0, .ref rb, .int 0, .ref ru, .int 0, .ref rr])), (rb, .inl (cQ, 5, .inr (.inr (.inr (.inr (va_up (fun _ => none) (0 : Int32).toNatClampNeg (some q1))))))), (q1, .inr (0, [.int 0, .ref (u2 1), .ref (u2 2), .ref (u2 3), .ref (u2 4), .ref (u2 5), .ref (u2 6), .ref (u2 7), .ref (u2 8), .ref (u2 9), .ref (u2 10), .ref (u2 11), .ref (u2 12), .ref (u2 13), .ref (u2 14), .ref (u2 15), .ref (u2 16)]))] := hD
  refine lv_aload_n hx hb dX6_emptyBuild_32 rfl (lv_at hl 0 rfl) ?_
  refine lv_iconst (v := 0) hx hb dX6_emptyBuild_33 (by decide) ?_
  refine va_put (D := (dC, dI)) (ci := 0) (v := .int 0) (ty := (.int)) (C := RX0) (T := TX0) (N := 17) hx hb hts hiX0 tyX0 tyX0_ok nmX0 hown hK hP hD hS 2 rfl rfl 0 (by decide) (hts (.fieldLink RX6 78 "LinkModels$Build" "classCount" "I") (by decide +kernel)) (fun _ h9 => h9) rfl (by decide +kernel) rfl rfl (Nat.le_of_ble_eq_true rfl) dX6_emptyBuild_34 (fun H locs hP hD hS => ?_)
  have hP : va_P (dC, dI) vwCl [(h0, .inr (5, [.ref rt, .int 0, .ref rb, .int 0, .ref ru, .int 0, .ref rr])), (rb, .inl (cQ, 5, .inr (.inr (.inr (.inr (va_up (fun _ => none) (0 : Int32).toNatClampNeg (some q1))))))), (q1, .inr (0, [.int 0, .ref (u2 1), .ref (u2 2), .ref (u2 3), .ref (u2 4), .ref (u2 5), .ref (u2 6), .ref (u2 7), .ref (u2 8), .ref (u2 9), .ref (u2 10), .ref (u2 11), .ref (u2 12), .ref (u2 13), .ref (u2 14), .ref (u2 15), .ref (u2 16)]))] H := hP
  have hD : va_D A [(h0, .inr (5, [.ref rt, .int 0, .ref rb, .int 0, .ref ru, .int 0, .ref rr])), (rb, .inl (cQ, 5, .inr (.inr (.inr (.inr (va_up (fun _ => none) (0 : Int32).toNatClampNeg (some q1))))))), (q1, .inr (0, [.int 0, .ref (u2 1), .ref (u2 2), .ref (u2 3), .ref (u2 4), .ref (u2 5), .ref (u2 6), .ref (u2 7), .ref (u2 8), .ref (u2 9), .ref (u2 10), .ref (u2 11), .ref (u2 12), .ref (u2 13), .ref (u2 14), .ref (u2 15), .ref (u2 16)]))] := hD
  refine lv_aload_n hx hb dX6_emptyBuild_37 rfl (lv_at hl 0 rfl) ?_
  have hP9 := hP.sub (ws' := [(h0, .inr (5, [.ref rt, .int 0, .ref rb, .int 0, .ref ru, .int 0, .ref rr])), (q1, .inr (0, [.int 0, .ref (u2 1), .ref (u2 2), .ref (u2 3), .ref (u2 4), .ref (u2 5), .ref (u2 6), .ref (u2 7), .ref (u2 8), .ref (u2 9), .ref (u2 10), .ref (u2 11), .ref (u2 12), .ref (u2 13), .ref (u2 14), .ref (u2 15), .ref (u2 16)]))]) [0, 2] rfl
  have hD9 := hD.sub (ws' := [(h0, .inr (5, [.ref rt, .int 0, .ref rb, .int 0, .ref ru, .int 0, .ref rr])), (q1, .inr (0, [.int 0, .ref (u2 1), .ref (u2 2), .ref (u2 3), .ref (u2 4), .ref (u2 5), .ref (u2 6), .ref (u2 7), .ref (u2 8), .ref (u2 9), .ref (u2 10), .ref (u2 11), .ref (u2 12), .ref (u2 13), .ref (u2 14), .ref (u2 15), .ref (u2 16)]))]) [0, 2] (by decide) rfl
  have hK9 := hK.sub (tys' := []) [] rfl
  exact W.aret (v := .ref q1) hx hb hr (Or.inl ⟨_, rfl⟩) (Or.inr ⟨_, rfl⟩) (fun t ht hW => ⟨⟨u2, q1, rfl, trivial, by rw [ht]; exact hP9, va_K.moved hW.alike hK9, hD9⟩, hS.F ht⟩) hS.2.2 dX6_emptyBuild_38
theorem dX6_build_0 : decode cX6_build 0 = .ok (.aload_n 0, 1) := by decide +kernel
theorem dX6_build_1 : decode cX6_build 1 = .ok (.getfield 13, 3) := by decide +kernel
theorem dX6_build_4 : decode cX6_build 4 = .ok (.istore_n 1, 1) := by decide +kernel
theorem dX6_build_5 : decode cX6_build 5 = .ok (.aload_n 0, 1) := by decide +kernel
theorem dX6_build_6 : decode cX6_build 6 = .ok (.iconst 0, 1) := by decide +kernel
theorem dX6_build_7 : decode cX6_build 7 = .ok (.putfield 13, 3) := by decide +kernel
theorem dX6_build_10 : decode cX6_build 10 = .ok (.aload_n 0, 1) := by decide +kernel
theorem dX6_build_11 : decode cX6_build 11 = .ok (.getfield 23, 3) := by decide +kernel
theorem dX6_build_14 : decode cX6_build 14 = .ok (.iconst 5, 1) := by decide +kernel
theorem dX6_build_15 : decode cX6_build 15 = .ok (.if_icmp .lt 6, 3) := by decide +kernel
theorem dX6_build_21 : decode cX6_build 21 = .ok (.aload_n 0, 1) := by decide +kernel
theorem dX6_build_22 : decode cX6_build 22 = .ok (.invokevirtual 44, 3) := by decide +kernel
theorem dX6_build_25 : decode cX6_build 25 = .ok (.astore_n 2, 1) := by decide +kernel
theorem dX6_build_26 : decode cX6_build 26 = .ok (.aload_n 0, 1) := by decide +kernel
theorem dX6_build_27 : decode cX6_build 27 = .ok (.getfield 40, 3) := by decide +kernel
theorem dX6_build_30 : decode cX6_build 30 = .ok (.aload_n 2, 1) := by decide +kernel
theorem dX6_build_31 : decode cX6_build 31 = .ok (.iload_n 1, 1) := by decide +kernel
theorem dX6_build_32 : decode cX6_build 32 = .ok (.invokevirtual 48, 3) := by decide +kernel
theorem dX6_build_35 : decode cX6_build 35 = .ok (.ifCond .ne 27, 3) := by decide +kernel
theorem dX6_build_62 : decode cX6_build 62 = .ok (.aload_n 2, 1) := by decide +kernel
theorem dX6_build_63 : decode cX6_build 63 = .ok (.invokevirtual 59, 3) := by decide +kernel
theorem dX6_build_66 : decode cX6_build 66 = .ok (.aload_n 0, 1) := by decide +kernel
theorem dX6_build_67 : decode cX6_build 67 = .ok (.dup, 1) := by decide +kernel
theorem dX6_build_68 : decode cX6_build 68 = .ok (.getfield 23, 3) := by decide +kernel
theorem dX6_build_71 : decode cX6_build 71 = .ok (.iconst 1, 1) := by decide +kernel
theorem dX6_build_72 : decode cX6_build 72 = .ok (.iadd, 1) := by decide +kernel
theorem dX6_build_73 : decode cX6_build 73 = .ok (.putfield 23, 3) := by decide +kernel
theorem dX6_build_76 : decode cX6_build 76 = .ok (.aload_n 0, 1) := by decide +kernel
theorem dX6_build_77 : decode cX6_build 77 = .ok (.getfield 23, 3) := by decide +kernel
theorem dX6_build_80 : decode cX6_build 80 = .ok (.iconst 1, 1) := by decide +kernel
theorem dX6_build_81 : decode cX6_build 81 = .ok (.isub, 1) := by decide +kernel
theorem dX6_build_82 : decode cX6_build 82 = .ok (.ireturn, 1) := by decide +kernel
def zwX6_build : List Cond := .code yX6_build cX6_build 3 (some .int) :: ([.fieldLink RX6 13 "LinkModels" "tapeLength" "I", .fieldLink RX6 23 "LinkModels" "buildCount" "I", .fieldLink RX6 40 "LinkModels" "reader" "LLinkModels$Reader;", .methodLink RX6 44 yX6_emptyBuild, .instanceMethod yX6_emptyBuild, .selects RX6 yX6_emptyBuild yX6_emptyBuild, .initialized RX6, .code yX6_emptyBuild cX6_emptyBuild 2 (some (.object "LinkModels$Build")), .fieldLink RX6 19 "LinkModels" "builds" "[LLinkModels$Build;", .classLink RX6 17 RX0, .instantiable RX0 17, .initialized RX0, .instanceMethod yX0_init, .fieldLink RX6 78 "LinkModels$Build" "classCount" "I", .code yX0_init cX0_init 1 none, .methodLink RX0 5 objectInit, .instanceMethod objectInit, .code objectInit ⟨#[0xb1]⟩ 1 none, .arrayClass .int, .fieldLink RX0 11 "LinkModels$Build" "names" "[I", .fieldLink RX0 15 "LinkModels$Build" "classMarks" "[I", .fieldLink RX0 18 "LinkModels$Build" "aboveNames" "[I", .fieldLink RX0 21 "LinkModels$Build" "faceCounts" "[I", .fieldLink RX0 24 "LinkModels$Build" "faceNames" "[I", .fieldLink RX0 27 "LinkModels$Build" "memberCounts" "[I", .fieldLink RX0 30 "LinkModels$Build" "memberMarks" "[I", .arrayClass .long, .fieldLink RX0 33 "LinkModels$Build" "words" "[J", .fieldLink RX0 37 "LinkModels$Build" "typeCounts" "[I", .fieldLink RX0 40 "LinkModels$Build" "firsts" "[I", .fieldLink RX0 43 "LinkModels$Build" "seconds" "[I", .fieldLink RX0 46 "LinkModels$Build" "numbers" "[I", .fieldLink RX0 49 "LinkModels$Build" "errors" "[I", .fieldLink RX0 52 "LinkModels$Build" "reached" "[I", .fieldLink RX0 55 "LinkModels$Build" "lines" "[I", .fieldLink RX0 58 "LinkModels$Build" "lineCounts" "[I", .methodLink RX6 48 yX2_reads, .instanceMethod yX2_reads, .selects RX2 yX2_reads yX2_reads, .initialized RX2, .code yX2_reads cX2_reads 5 (some .boolean), .fieldLink RX2 27 "LinkModels$Reader" "fault" "I", .fieldLink RX2 14 "LinkModels$Reader" "tokens" "LLinkModels$Tokens;", .fieldLink RX2 40 "LinkModels$Tokens" "sort" "I", .methodLink RX2 34 yX4_open, .instanceMethod yX4_open, .selects RX4 yX4_open yX4_open, .initialized RX4, .code yX4_open cX4_open 2 none, .fieldLink RX4 7 "LinkModels$Tokens" "tape" "[B", .methodLink RX4 13 Lib.Math.min.name, .static Lib.Math.min.name, .initialized "java/lang/Math", .code Lib.Math.min.name Lib.Math.min.code 2 (some .int), .fieldLink RX4 19 "LinkModels$Tokens" "length" "I", .fieldLink RX4 23 "LinkModels$Tokens" "behind" "I", .methodLink RX4 26 yX4_step, .instanceMethod yX4_step, .selects RX4 yX4_step yX4_step, .code yX4_step cX4_step 2 none, .fieldLink RX4 29 "LinkModels$Tokens" "start" "I", .fieldLink RX4 32 "LinkModels$Tokens" "value" "J", .fieldLink RX4 40 "LinkModels$Tokens" "sort" "I", .methodLink RX4 51 yX4_longest, .instanceMethod yX4_longest, .selects RX4 yX4_longest yX4_longest, .code yX4_longest cX4_longest 1 (some .int), .methodLink RX6 59 yX0_settle, .instanceMethod yX0_settle, .selects RX0 yX0_settle yX0_settle, .code yX0_settle cX0_settle 4 none, .fieldLink RX0 61 "LinkModels$Build" "classCount" "I", .methodLink RX0 98 yX0_traceWays, .instanceMethod yX0_traceWays, .selects RX0 yX0_traceWays yX0_traceWays, .code yX0_traceWays cX0_traceWays 3 none] ++ wsX60 ++ wsX00 ++ wsX20 ++ wsX40)
theorem zgX6_build_X6_emptyBuild_44 : GoodIn zwX6_build (wsV RX6 44 RX6 yX6_emptyBuild zwX6_emptyBuild) := goodIn_of _ (by decide +kernel)
theorem zgX6_build_X2_reads_48 : GoodIn zwX6_build (wsV RX6 48 RX2 yX2_reads zwX2_reads) := goodIn_of _ (by decide +kernel)
theorem zgX6_build_X0_settle_59 : GoodIn zwX6_build (wsV RX6 59 RX0 yX0_settle zwX0_settle) := goodIn_of _ (by decide +kernel)
set_option maxHeartbeats 4000000 in
set_option maxRecDepth 100000 in
theorem zX6_build (l : Launch) (dC : Nat → ClassId) (dI : Nat → Nat → Nat) (h0 rt rb ru rr rk rs : Nat) (cQ cB : ClassId) (f : Nat → Int32) (sz : Nat) : Met l yX6_build zwX6_build ({ frames := 4, cells := 17, slots := 1697, locals := 86 }) (zPe dC dI [.ref h0] sz [(h0, .inr (5, [.ref rt, .int 0, .ref rb, .int 0, .ref ru, .int 0, .ref rr])), (rb, .inl (cQ, 5, .inr (.inr (.inr (.inr (fun _ => none)))))), (rr, .inr (1, [.ref rk, .ref rs, .int 0, .int 0, .int 0])), (rk, .inr (3, [.ref rt, .int 0, .int 0, .int 0, .int 0, .long 0])), (rt, .inl (cB, 800, .inl f))] [(cQ, .object RX0), (cB, .byte)]) (va_Qi (fun (r : Int32) (_ : Unit) => r = 0) (fun _ _ => True) (va_A [(h0, .inr (5, [.ref rt, .int 0, .ref rb, .int 0, .ref ru, .int 0, .ref rr])), (rb, .inl (cQ, 5, .inr (.inr (.inr (.inr (fun _ => none)))))), (rr, .inr (1, [.ref rk, .ref rs, .int 0, .int 0, .int 0])), (rk, .inr (3, [.ref rt, .int 0, .int 0, .int 0, .int 0, .long 0])), (rt, .inl (cB, 800, .inl f))] sz)) 17 1697 (va_A [(h0, .inr (5, [.ref rt, .int 0, .ref rb, .int 0, .ref ru, .int 0, .ref rr])), (rb, .inl (cQ, 5, .inr (.inr (.inr (.inr (fun _ => none)))))), (rr, .inr (1, [.ref rk, .ref rs, .int 0, .int 0, .int 0])), (rk, .inr (3, [.ref rt, .int 0, .int 0, .int 0, .int 0, .long 0])), (rt, .inl (cB, 800, .inl f))] sz) := by
  refine Met.ofW (cc := cX6_build) (maxL := 3) (ret := (some .int)) (by decide) rfl ?_
  intro p e s m args below meth c s₁ B hml hv
  obtain ⟨rfl, hsz, hP, hK, hD0, hE⟩ := hv
  have hx := B.exec
  have hb := B.bytes
  have hr := B.returns
  have hts := atoms_spec (ws := zwX6_build) B.pre
  have hown : s.vm.findClass RX6 = some m.cls := findClass_of_methodNamed B.named
  have hlocks := B.notSynchronized
  have hiX6 : ∀ w ∈ wsX60, w ∈ zwX6_build := (by decide +kernel)
  subst hsz
  have hD := hD0.self (sz := s.heap.size)
  generalize hAe : va_A [(h0, .inr (5, [.ref rt, .int 0, .ref rb, .int 0, .ref ru, .int 0, .ref rr])), (rb, .inl (cQ, 5, .inr (.inr (.inr (.inr (fun _ => none)))))), (rr, .inr (1, [.ref rk, .ref rs, .int 0, .int 0, .int 0])), (rk, .inr (3, [.ref rt, .int 0, .int 0, .int 0, .int 0, .long 0])), (rt, .inl (cB, 800, .inl f))] s.heap.size = A at hD ⊢
  have hA : ∀ q : Nat, s.heap.size ≤ q → A q := fun q h => by rw [← hAe]; exact Or.inr h
  have hS : va_S A s.heap s.heap [] := va_S.rf
  have hP : va_P (dC, dI) vwCl [(h0, .inr (5, [.ref rt, .int 0, .ref rb, .int 0, .ref ru, .int 0, .ref rr])), (rb, .inl (cQ, 5, .inr (.inr (.inr (.inr (fun _ => none)))))), (rr, .inr (1, [.ref rk, .ref rs, .int 0, .int 0, .int 0])), (rk, .inr (3, [.ref rt, .int 0, .int 0, .int 0, .int 0, .long 0])), (rt, .inl (cB, 800, .inl f))] s.heap := hP
  have hl := lv_entry ([.ref h0]) (n := 3) (Nat.le_of_ble_eq_true rfl)
  rw [lg_entry_eq]
  generalize (lg_sl ([.ref h0]) ++ List.replicate (3 - (lg_sl ([.ref h0])).length) Slot.unset).toArray = ls at hl ⊢
  have hl : lv_has ls 3 [(0, .ref h0)] := hl
  refine lv_aload_n hx hb dX6_build_0 rfl (lv_at hl 0 rfl) ?_
  refine va_get (D := (dC, dI)) (ci := 5) (v := .int 0) (C := RX6) (T := TX6) (N := 7) hx hb hts hiX6 hown hK hP 0 rfl rfl 1 (by decide) (hts (.fieldLink RX6 13 "LinkModels" "tapeLength" "I") (by decide +kernel)) (fun _ h9 => h9) rfl dX6_build_1 ?_
  refine lv_istore_n (lv' := [(1, .int 0), (0, .ref h0)]) hx hb dX6_build_4 rfl hl (by decide) rfl (fun ls hl => ?_)
  refine lv_aload_n hx hb dX6_build_5 rfl (lv_at hl 1 rfl) ?_
  refine lv_iconst (v := 0) hx hb dX6_build_6 (by decide) ?_
  refine va_put (D := (dC, dI)) (ci := 5) (v := .int 0) (ty := (.int)) (C := RX6) (T := TX6) (N := 7) hx hb hts hiX6 tyX6 tyX6_ok nmX6 hown hK hP hD hS 0 rfl rfl 1 (by decide) (hts (.fieldLink RX6 13 "LinkModels" "tapeLength" "I") (by decide +kernel)) (fun _ h9 => h9) rfl (by decide +kernel) rfl rfl (Nat.le_of_ble_eq_true rfl) dX6_build_7 (fun H locs hP hD hS => ?_)
  have hP : va_P (dC, dI) vwCl [(h0, .inr (5, [.ref rt, .int 0, .ref rb, .int 0, .ref ru, .int 0, .ref rr])), (rb, .inl (cQ, 5, .inr (.inr (.inr (.inr (fun _ => none)))))), (rr, .inr (1, [.ref rk, .ref rs, .int 0, .int 0, .int 0])), (rk, .inr (3, [.ref rt, .int 0, .int 0, .int 0, .int 0, .long 0])), (rt, .inl (cB, 800, .inl f))] H := hP
  have hD : va_D A [(h0, .inr (5, [.ref rt, .int 0, .ref rb, .int 0, .ref ru, .int 0, .ref rr])), (rb, .inl (cQ, 5, .inr (.inr (.inr (.inr (fun _ => none)))))), (rr, .inr (1, [.ref rk, .ref rs, .int 0, .int 0, .int 0])), (rk, .inr (3, [.ref rt, .int 0, .int 0, .int 0, .int 0, .long 0])), (rt, .inl (cB, 800, .inl f))] := hD
  refine lv_aload_n hx hb dX6_build_10 rfl (lv_at hl 1 rfl) ?_
  refine va_get (D := (dC, dI)) (ci := 5) (v := .int 0) (C := RX6) (T := TX6) (N := 7) hx hb hts hiX6 hown hK hP 0 rfl rfl 3 (by decide) (hts (.fieldLink RX6 23 "LinkModels" "buildCount" "I") (by decide +kernel)) (fun _ h9 => h9) rfl dX6_build_11 ?_
  refine lv_iconst (v := 5) hx hb dX6_build_14 (by decide) ?_
  refine lv_icmp_lt (tgt := 21) hx hb dX6_build_15 (by decide) (fun _ => ?_) (fun c9 => absurd (by decide) c9)
  refine lv_aload_n hx hb dX6_build_21 rfl (lv_at hl 1 rfl) ?_
  have hPc := hP.sub (ws' := [(h0, .inr (5, [.ref rt, .int 0, .ref rb, .int 0, .ref ru, .int 0, .ref rr])), (rb, .inl (cQ, 5, .inr (.inr (.inr (.inr (fun _ => none))))))]) [0, 1] rfl
  have hDc := hD.sub (ws' := [(h0, .inr (5, [.ref rt, .int 0, .ref rb, .int 0, .ref ru, .int 0, .ref rr])), (rb, .inl (cQ, 5, .inr (.inr (.inr (.inr (fun _ => none))))))]) [0, 1] (by decide) rfl
  have hKc := hK.sub (tys' := [(cQ, .object RX0)]) [0] rfl
  have hFc := va_free (wc := [(h0, .inr (5, [.ref rt, .int 0, .ref rb, .int 0, .ref ru, .int 0, .ref rr])), (rb, .inl (cQ, 5, .inr (.inr (.inr (.inr (fun _ => none))))))]) hD hS hA [0, 1] rfl
  refine va_callr (va_runV (As := []) (rest := []) ⟨hx, hb, hml, hown, hts⟩ (zX6_emptyBuild l dC dI h0 rt rb ru rr cQ H.size) (cwV 0 hts zgX6_build_X6_emptyBuild_44 rfl rfl rfl (by decide +kernel) ⟨(show 2 + 1 ≤ 4 by omega), (show 8 + (2 + 11) + 32 ≤ 86 by omega)⟩) (zVe (ci := 5) (q0 := 0) (q := (RX6, TX6, 7)) hKc hPc hDc hE rfl rfl rfl) rfl rfl hl.1 rfl (lv_room (Nat.le_of_ble_eq_true rfl)) dX6_build_22 ⟨(show 0 + 17 ≤ 17 by omega), (show 0 + 1697 ≤ 1697 by omega)⟩) hS (fun q _ h => hFc q h) hFc (fun u1 r2 t H1 locs ht hvm hw hB hz1 hk1 hS => ?_)
  obtain ⟨hP1, hK1, hD1⟩ := hB
  rw [ht] at hP1
  have hK1 := va_K.moved hvm.symm hK1
  obtain ⟨hP, hD⟩ := va_join (wr := [(rr, .inr (1, [.ref rk, .ref rs, .int 0, .int 0, .int 0])), (rk, .inr (3, [.ref rt, .int 0, .int 0, .int 0, .int 0, .long 0])), (rt, .inl (cB, 800, .inl f))]) (w1 := [(h0, .inr (5, [.ref rt, .int 0, .ref rb, .int 0, .ref ru, .int 0, .ref rr])), (r2, .inr (0, [.int 0, .ref (u1 1), .ref (u1 2), .ref (u1 3), .ref (u1 4), .ref (u1 5), .ref (u1 6), .ref (u1 7), .ref (u1 8), .ref (u1 9), .ref (u1 10), .ref (u1 11), .ref (u1 12), .ref (u1 13), .ref (u1 14), .ref (u1 15), .ref (u1 16)]))]) hP hD [0, 1] [2, 3, 4] rfl rfl (by decide) (by decide) hk1 hFc hP1 hD1
  have hK := (hK.sub (tys' := [(cB, .byte)]) [1] rfl).app hK1
  generalize H1 = H at hP hS ⊢
  have hP : va_P (dC, dI) vwCl [(rr, .inr (1, [.ref rk, .ref rs, .int 0, .int 0, .int 0])), (rk, .inr (3, [.ref rt, .int 0, .int 0, .int 0, .int 0, .long 0])), (rt, .inl (cB, 800, .inl f)), (h0, .inr (5, [.ref rt, .int 0, .ref rb, .int 0, .ref ru, .int 0, .ref rr])), (r2, .inr (0, [.int 0, .ref (u1 1), .ref (u1 2), .ref (u1 3), .ref (u1 4), .ref (u1 5), .ref (u1 6), .ref (u1 7), .ref (u1 8), .ref (u1 9), .ref (u1 10), .ref (u1 11), .ref (u1 12), .ref (u1 13), .ref (u1 14), .ref (u1 15), .ref (u1 16)]))] H := hP
  have hD : va_D A [(rr, .inr (1, [.ref rk, .ref rs, .int 0, .int 0, .int 0])), (rk, .inr (3, [.ref rt, .int 0, .int 0, .int 0, .int 0, .long 0])), (rt, .inl (cB, 800, .inl f)), (h0, .inr (5, [.ref rt, .int 0, .ref rb, .int 0, .ref ru, .int 0, .ref rr])), (r2, .inr (0, [.int 0, .ref (u1 1), .ref (u1 2), .ref (u1 3), .ref (u1 4), .ref (u1 5), .ref (u1 6), .ref (u1 7), .ref (u1 8), .ref (u1 9), .ref (u1 10), .ref (u1 11), .ref (u1 12), .ref (u1 13), .ref (u1 14), .ref (u1 15), .ref (u1 16)]))] := hD
  have hK : va_K (dC, dI) vwCl [(cB, .byte)] s := hK
  refine W.widen (k := 17) (n := 1697) (by omega) (by omega) ?_
  refine lv_astore_n (lv' := [(2, .ref r2), (1, .int 0), (0, .ref h0)]) hx hb dX6_build_25 rfl hl (by decide) rfl (fun ls hl => ?_)
  refine lv_aload_n hx hb dX6_build_26 rfl (lv_at hl 2 rfl) ?_
  refine va_get (D := (dC, dI)) (ci := 5) (v := .ref rr) (C := RX6) (T := TX6) (N := 7) hx hb hts hiX6 hown hK hP 3 rfl rfl 6 (by decide) (hts (.fieldLink RX6 40 "LinkModels" "reader" "LLinkModels$Reader;") (by decide +kernel)) (fun _ h9 => h9) rfl dX6_build_27 ?_
  refine lv_aload_n hx hb dX6_build_30 rfl (lv_at hl 0 rfl) ?_
  refine lv_iload_n hx hb dX6_build_31 rfl (lv_at hl 1 rfl) ?_
  have hPc := hP.sub (ws' := [(rr, .inr (1, [.ref rk, .ref rs, .int 0, .int 0, .int 0])), (rk, .inr (3, [.ref rt, .int 0, .int 0, .int 0, .int 0, .long 0])), (rt, .inl (cB, 800, .inl f))]) [0, 1, 2] rfl
  have hDc := hD.sub (ws' := [(rr, .inr (1, [.ref rk, .ref rs, .int 0, .int 0, .int 0])), (rk, .inr (3, [.ref rt, .int 0, .int 0, .int 0, .int 0, .long 0])), (rt, .inl (cB, 800, .inl f))]) [0, 1, 2] (by decide) rfl
  have hKc := hK.sub (tys' := [(cB, .byte)]) [0] rfl
  have hFc := va_free (wc := [(rr, .inr (1, [.ref rk, .ref rs, .int 0, .int 0, .int 0])), (rk, .inr (3, [.ref rt, .int 0, .int 0, .int 0, .int 0, .long 0])), (rt, .inl (cB, 800, .inl f))]) hD hS hA [0, 1, 2] rfl
  refine va_calli (va_runV (As := [.ref r2, .int 0]) (rest := []) ⟨hx, hb, hml, hown, hts⟩ (zX2_reads l dC dI rr r2 rk rs rt cB f H.size) (cwV 2 hts zgX6_build_X2_reads_48 rfl rfl rfl (by decide +kernel) ⟨(show 3 + 1 ≤ 4 by omega), (show 8 + (5 + 11) + 62 ≤ 86 by omega)⟩) (zVw (ci := 1) (q0 := 0) (q := (RX2, TX2, 5)) hKc hPc hDc rfl rfl rfl) rfl rfl hl.1 rfl (lv_room (Nat.le_of_ble_eq_true rfl)) dX6_build_32 ⟨(show 17 + 0 ≤ 17 by omega), (show 1697 + 0 ≤ 1697 by omega)⟩) hS (fun q _ h => hFc q h) hFc (fun r4 u3 t H1 locs ht hvm hw hB hz1 hk1 hS => ?_)
  obtain ⟨hP, hD⟩ := z_rest (wr := [(h0, .inr (5, [.ref rt, .int 0, .ref rb, .int 0, .ref ru, .int 0, .ref rr])), (r2, .inr (0, [.int 0, .ref (u1 1), .ref (u1 2), .ref (u1 3), .ref (u1 4), .ref (u1 5), .ref (u1 6), .ref (u1 7), .ref (u1 8), .ref (u1 9), .ref (u1 10), .ref (u1 11), .ref (u1 12), .ref (u1 13), .ref (u1 14), .ref (u1 15), .ref (u1 16)]))]) hP hD [0, 1, 2] [3, 4] rfl rfl (by decide) (by decide) hk1 hFc
  have hK := hK.sub (tys' := []) [] rfl
  generalize H1 = H at hP hS ⊢
  have hP : va_P (dC, dI) vwCl [(h0, .inr (5, [.ref rt, .int 0, .ref rb, .int 0, .ref ru, .int 0, .ref rr])), (r2, .inr (0, [.int 0, .ref (u1 1), .ref (u1 2), .ref (u1 3), .ref (u1 4), .ref (u1 5), .ref (u1 6), .ref (u1 7), .ref (u1 8), .ref (u1 9), .ref (u1 10), .ref (u1 11), .ref (u1 12), .ref (u1 13), .ref (u1 14), .ref (u1 15), .ref (u1 16)]))] H := hP
  have hD : va_D A [(h0, .inr (5, [.ref rt, .int 0, .ref rb, .int 0, .ref ru, .int 0, .ref rr])), (r2, .inr (0, [.int 0, .ref (u1 1), .ref (u1 2), .ref (u1 3), .ref (u1 4), .ref (u1 5), .ref (u1 6), .ref (u1 7), .ref (u1 8), .ref (u1 9), .ref (u1 10), .ref (u1 11), .ref (u1 12), .ref (u1 13), .ref (u1 14), .ref (u1 15), .ref (u1 16)]))] := hD
  have hK : va_K (dC, dI) vwCl [] s := hK
  obtain rfl : r4 = 1 := hw
  refine lv_if_ne (tgt := 62) hx hb dX6_build_35 (by decide) (fun _ => ?_) (fun c9 => absurd c9 (by decide))
  refine lv_aload_n hx hb dX6_build_62 rfl (lv_at hl 0 rfl) ?_
  refine va_csv (W.runV (As := []) (rest := []) ⟨hx, hb, hml, hown, hts⟩ (zX0_settle l dC dI r2 u1) (cwV 0 hts zgX6_build_X0_settle_59 rfl rfl rfl (by decide +kernel) ⟨(show 1 + 1 ≤ 4 by omega), (show 8 + (4 + 11) + 22 ≤ 86 by omega)⟩) (zVr (ci := 0) (q0 := 0) (q := (RX0, TX0, 17)) (hK.sub (tys' := []) [] rfl) (hP.sub (ws' := [(r2, .inr (0, [.int 0, .ref (u1 1), .ref (u1 2), .ref (u1 3), .ref (u1 4), .ref (u1 5), .ref (u1 6), .ref (u1 7), .ref (u1 8), .ref (u1 9), .ref (u1 10), .ref (u1 11), .ref (u1 12), .ref (u1 13), .ref (u1 14), .ref (u1 15), .ref (u1 16)]))]) [1] rfl) rfl rfl rfl) rfl rfl hl.1 rfl (lv_room (Nat.le_of_ble_eq_true rfl)) dX6_build_63 ⟨(show 17 + 0 ≤ 17 by omega), (show 1697 + 0 ≤ 1697 by omega)⟩) (fun hr5 => ?_)
  refine lv_aload_n hx hb dX6_build_66 rfl (lv_at hl 2 rfl) ?_
  refine lv_dup hx hb dX6_build_67 rfl ?_
  refine va_get (D := (dC, dI)) (ci := 5) (v := .int 0) (C := RX6) (T := TX6) (N := 7) hx hb hts hiX6 hown hK hP 0 rfl rfl 3 (by decide) (hts (.fieldLink RX6 23 "LinkModels" "buildCount" "I") (by decide +kernel)) (fun _ h9 => h9) rfl dX6_build_68 ?_
  refine lv_iconst (v := 1) hx hb dX6_build_71 (by decide) ?_
  refine lv_iadd hx hb dX6_build_72 ?_
  refine lv_topi (fun x6 ex6 => ?_)
  refine va_put (D := (dC, dI)) (ci := 5) (v := .int x6) (ty := (.int)) (C := RX6) (T := TX6) (N := 7) hx hb hts hiX6 tyX6 tyX6_ok nmX6 hown hK hP hD hS 0 rfl rfl 3 (by decide) (hts (.fieldLink RX6 23 "LinkModels" "buildCount" "I") (by decide +kernel)) (fun _ h9 => h9) rfl (by decide +kernel) rfl rfl (Nat.le_of_ble_eq_true rfl) dX6_build_73 (fun H locs hP hD hS => ?_)
  have hP : va_P (dC, dI) vwCl [(h0, .inr (5, [.ref rt, .int 0, .ref rb, .int x6, .ref ru, .int 0, .ref rr])), (r2, .inr (0, [.int 0, .ref (u1 1), .ref (u1 2), .ref (u1 3), .ref (u1 4), .ref (u1 5), .ref (u1 6), .ref (u1 7), .ref (u1 8), .ref (u1 9), .ref (u1 10), .ref (u1 11), .ref (u1 12), .ref (u1 13), .ref (u1 14), .ref (u1 15), .ref (u1 16)]))] H := hP
  have hD : va_D A [(h0, .inr (5, [.ref rt, .int 0, .ref rb, .int x6, .ref ru, .int 0, .ref rr])), (r2, .inr (0, [.int 0, .ref (u1 1), .ref (u1 2), .ref (u1 3), .ref (u1 4), .ref (u1 5), .ref (u1 6), .ref (u1 7), .ref (u1 8), .ref (u1 9), .ref (u1 10), .ref (u1 11), .ref (u1 12), .ref (u1 13), .ref (u1 14), .ref (u1 15), .ref (u1 16)]))] := hD
  refine lv_aload_n hx hb dX6_build_76 rfl (lv_at hl 2 rfl) ?_
  refine va_get (D := (dC, dI)) (ci := 5) (v := .int x6) (C := RX6) (T := TX6) (N := 7) hx hb hts hiX6 hown hK hP 0 rfl rfl 3 (by decide) (hts (.fieldLink RX6 23 "LinkModels" "buildCount" "I") (by decide +kernel)) (fun _ h9 => h9) rfl dX6_build_77 ?_
  refine lv_iconst (v := 1) hx hb dX6_build_80 (by decide) ?_
  refine lv_isub hx hb dX6_build_81 ?_
  refine lv_topi (fun x7 ex7 => ?_)
  exact W.iret (v := x7) hx hb hr (fun t ht hW => ⟨⟨x7, (), rfl, by rw [ex7, ex6]; decide, trivial⟩, hS.F ht⟩) hS.2.2 dX6_build_82
