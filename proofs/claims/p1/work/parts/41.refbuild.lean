theorem dX7_next_0 : decode cX7_next 0 = .ok (.aload_n 0, 1) := by decide +kernel
theorem dX7_next_1 : decode cX7_next 1 = .ok (.getfield 126, 3) := by decide +kernel
theorem dX7_next_4 : decode cX7_next 4 = .ok (.aload_n 0, 1) := by decide +kernel
theorem dX7_next_5 : decode cX7_next 5 = .ok (.getfield 109, 3) := by decide +kernel
theorem dX7_next_8 : decode cX7_next 8 = .ok (.if_icmp .ge 44, 3) := by decide +kernel
theorem dX7_next_52 : decode cX7_next 52 = .ok (.aload_n 0, 1) := by decide +kernel
theorem dX7_next_53 : decode cX7_next 53 = .ok (.aload_n 0, 1) := by decide +kernel
theorem dX7_next_54 : decode cX7_next 54 = .ok (.getfield 126, 3) := by decide +kernel
theorem dX7_next_57 : decode cX7_next 57 = .ok (.putfield 129, 3) := by decide +kernel
theorem dX7_next_60 : decode cX7_next 60 = .ok (.aload_n 0, 1) := by decide +kernel
theorem dX7_next_61 : decode cX7_next 61 = .ok (.lconst 0, 1) := by decide +kernel
theorem dX7_next_62 : decode cX7_next 62 = .ok (.putfield 132, 3) := by decide +kernel
theorem dX7_next_65 : decode cX7_next 65 = .ok (.aload_n 0, 1) := by decide +kernel
theorem dX7_next_66 : decode cX7_next 66 = .ok (.getfield 126, 3) := by decide +kernel
theorem dX7_next_69 : decode cX7_next 69 = .ok (.aload_n 0, 1) := by decide +kernel
theorem dX7_next_70 : decode cX7_next 70 = .ok (.getfield 109, 3) := by decide +kernel
theorem dX7_next_73 : decode cX7_next 73 = .ok (.if_icmp .ne 9, 3) := by decide +kernel
theorem dX7_next_76 : decode cX7_next 76 = .ok (.aload_n 0, 1) := by decide +kernel
theorem dX7_next_77 : decode cX7_next 77 = .ok (.iconst 0, 1) := by decide +kernel
theorem dX7_next_78 : decode cX7_next 78 = .ok (.putfield 136, 3) := by decide +kernel
theorem dX7_next_81 : decode cX7_next 81 = .ok (.return_, 1) := by decide +kernel
def zwX7_next : List Cond := .code yX7_next cX7_next 2 none :: ([.fieldLink RX7 126 "LinkModelsModel" "at" "I", .fieldLink RX7 109 "LinkModelsModel" "taped" "I", .fieldLink RX7 129 "LinkModelsModel" "tokenAt" "I", .fieldLink RX7 132 "LinkModelsModel" "value" "J", .fieldLink RX7 136 "LinkModelsModel" "token" "I"] ++ wsX70)
set_option maxHeartbeats 4000000 in
set_option maxRecDepth 100000 in
theorem zX7_next (l : Launch) (dC : Nat → ClassId) (dI : Nat → Nat → Nat) (h0 : Nat) (r : Nat → Nat) (sz : Nat) : Met l yX7_next zwX7_next ({ frames := 0, cells := 0, slots := 0, locals := 0 }) (zPw dC dI [.ref h0] sz [(h0, .inr (6, zM 0 r))] []) (va_Qv (fun _ : Unit => True) (fun _ t => zB dC dI (va_A [(h0, .inr (6, zM 0 r))] sz) [(h0, .inr (6, zM 0 r))] [] t) (va_A [(h0, .inr (6, zM 0 r))] sz)) 0 0 (va_A [(h0, .inr (6, zM 0 r))] sz) := by
  refine Met.ofW (cc := cX7_next) (maxL := 2) (ret := none) (by decide) rfl ?_
  intro p e s m args below meth c s₁ B hml hv
  obtain ⟨rfl, hsz, hP, hK, hD0⟩ := hv
  have hx := B.exec
  have hb := B.bytes
  have hr := B.returns
  have hts := atoms_spec (ws := zwX7_next) B.pre
  have hown : s.vm.findClass RX7 = some m.cls := findClass_of_methodNamed B.named
  have hlocks := B.notSynchronized
  have hiX7 : ∀ w ∈ wsX70, w ∈ zwX7_next := (fun _ h => List.mem_cons_of_mem _ (List.mem_append_right _ h))
  subst hsz
  have hD := hD0.self (sz := s.heap.size)
  generalize hAe : va_A [(h0, .inr (6, zM 0 r))] s.heap.size = A at hD ⊢
  have hA : ∀ q : Nat, s.heap.size ≤ q → A q := fun q h => by rw [← hAe]; exact Or.inr h
  have hS : va_S A s.heap s.heap [] := va_S.rf
  have hP : va_P (dC, dI) vwCl [(h0, .inr (6, zM 0 r))] s.heap := hP
  have hl := lv_entry ([.ref h0]) (n := 2) (Nat.le_of_ble_eq_true rfl)
  rw [lg_entry_eq]
  generalize (lg_sl ([.ref h0]) ++ List.replicate (2 - (lg_sl ([.ref h0])).length) Slot.unset).toArray = ls at hl ⊢
  have hl : lv_has ls 2 [(0, .ref h0)] := hl
  refine lv_aload_n hx hb dX7_next_0 rfl (lv_at hl 0 rfl) ?_
  refine va_get (D := (dC, dI)) (ci := 6) (v := .int 0) (C := RX7) (T := TX7) (N := 46) hx hb hts hiX7 hown hK hP 0 rfl rfl 21 (by decide) (hts (.fieldLink RX7 126 "LinkModelsModel" "at" "I") (by decide +kernel)) (fun _ h9 => h9) rfl dX7_next_1 ?_
  refine lv_aload_n hx hb dX7_next_4 rfl (lv_at hl 0 rfl) ?_
  refine va_get (D := (dC, dI)) (ci := 6) (v := .int 0) (C := RX7) (T := TX7) (N := 46) hx hb hts hiX7 hown hK hP 0 rfl rfl 2 (by decide) (hts (.fieldLink RX7 109 "LinkModelsModel" "taped" "I") (by decide +kernel)) (fun _ h9 => h9) rfl dX7_next_5 ?_
  refine lv_icmp_ge (tgt := 52) hx hb dX7_next_8 (by decide) (fun _ => ?_) (fun c9 => absurd (by decide) c9)
  refine lv_aload_n hx hb dX7_next_52 rfl (lv_at hl 0 rfl) ?_
  refine lv_aload_n hx hb dX7_next_53 rfl (lv_at hl 0 rfl) ?_
  refine va_get (D := (dC, dI)) (ci := 6) (v := .int 0) (C := RX7) (T := TX7) (N := 46) hx hb hts hiX7 hown hK hP 0 rfl rfl 21 (by decide) (hts (.fieldLink RX7 126 "LinkModelsModel" "at" "I") (by decide +kernel)) (fun _ h9 => h9) rfl dX7_next_54 ?_
  refine va_put (D := (dC, dI)) (ci := 6) (v := .int 0) (ty := (.int)) (C := RX7) (T := TX7) (N := 46) hx hb hts hiX7 tyX7 tyX7_ok nmX7 hown hK hP hD hS 0 rfl rfl 23 (by decide) (hts (.fieldLink RX7 129 "LinkModelsModel" "tokenAt" "I") (by decide +kernel)) (fun _ h9 => h9) rfl (by decide +kernel) rfl rfl (Nat.le_of_ble_eq_true rfl) dX7_next_57 (fun H locs hP hD hS => ?_)
  have hP : va_P (dC, dI) vwCl [(h0, .inr (6, zM 0 r))] H := hP
  have hD : va_D A [(h0, .inr (6, zM 0 r))] := hD
  refine lv_aload_n hx hb dX7_next_60 rfl (lv_at hl 0 rfl) ?_
  refine lv_lconst (v := 0) hx hb dX7_next_61 (by decide) ?_
  refine va_put (D := (dC, dI)) (ci := 6) (v := .long 0) (ty := (.long)) (C := RX7) (T := TX7) (N := 46) hx hb hts hiX7 tyX7 tyX7_ok nmX7 hown hK hP hD hS 0 rfl rfl 24 (by decide) (hts (.fieldLink RX7 132 "LinkModelsModel" "value" "J") (by decide +kernel)) (fun _ h9 => h9) rfl (by decide +kernel) rfl rfl (Nat.le_of_ble_eq_true rfl) dX7_next_62 (fun H locs hP hD hS => ?_)
  have hP : va_P (dC, dI) vwCl [(h0, .inr (6, zM 0 r))] H := hP
  have hD : va_D A [(h0, .inr (6, zM 0 r))] := hD
  refine lv_aload_n hx hb dX7_next_65 rfl (lv_at hl 0 rfl) ?_
  refine va_get (D := (dC, dI)) (ci := 6) (v := .int 0) (C := RX7) (T := TX7) (N := 46) hx hb hts hiX7 hown hK hP 0 rfl rfl 21 (by decide) (hts (.fieldLink RX7 126 "LinkModelsModel" "at" "I") (by decide +kernel)) (fun _ h9 => h9) rfl dX7_next_66 ?_
  refine lv_aload_n hx hb dX7_next_69 rfl (lv_at hl 0 rfl) ?_
  refine va_get (D := (dC, dI)) (ci := 6) (v := .int 0) (C := RX7) (T := TX7) (N := 46) hx hb hts hiX7 hown hK hP 0 rfl rfl 2 (by decide) (hts (.fieldLink RX7 109 "LinkModelsModel" "taped" "I") (by decide +kernel)) (fun _ h9 => h9) rfl dX7_next_70 ?_
  refine lv_icmp_ne (tgt := 82) hx hb dX7_next_73 (by decide) (fun c9 => absurd c9 (fun h9 => h9 rfl)) (fun _ => ?_)
  refine lv_aload_n hx hb dX7_next_76 rfl (lv_at hl 0 rfl) ?_
  refine lv_iconst (v := 0) hx hb dX7_next_77 (by decide) ?_
  refine va_put (D := (dC, dI)) (ci := 6) (v := .int 0) (ty := (.int)) (C := RX7) (T := TX7) (N := 46) hx hb hts hiX7 tyX7 tyX7_ok nmX7 hown hK hP hD hS 0 rfl rfl 22 (by decide) (hts (.fieldLink RX7 136 "LinkModelsModel" "token" "I") (by decide +kernel)) (fun _ h9 => h9) rfl (by decide +kernel) rfl rfl (Nat.le_of_ble_eq_true rfl) dX7_next_78 (fun H locs hP hD hS => ?_)
  have hP : va_P (dC, dI) vwCl [(h0, .inr (6, zM 0 r))] H := hP
  have hD : va_D A [(h0, .inr (6, zM 0 r))] := hD
  have hP9 := hP.sub (ws' := [(h0, .inr (6, zM 0 r))]) [0] rfl
  have hD9 := hD.sub (ws' := [(h0, .inr (6, zM 0 r))]) [0] (by decide) rfl
  have hK9 := hK.sub (tys' := []) [] rfl
  exact W.vret hx hb hr (fun t ht hW => ⟨⟨(), rfl, trivial, by rw [ht]; exact hP9, va_K.moved hW.alike hK9, hD9⟩, hS.F ht⟩) hS.2.2 dX7_next_81
theorem dX7_reckon_0 : decode cX7_reckon 0 = .ok (.aload_n 0, 1) := by decide +kernel
theorem dX7_reckon_1 : decode cX7_reckon 1 = .ok (.getfield 17, 3) := by decide +kernel
theorem dX7_reckon_4 : decode cX7_reckon 4 = .ok (.aload_n 0, 1) := by decide +kernel
theorem dX7_reckon_5 : decode cX7_reckon 5 = .ok (.getfield 198, 3) := by decide +kernel
theorem dX7_reckon_8 : decode cX7_reckon 8 = .ok (.iaload, 1) := by decide +kernel
theorem dX7_reckon_9 : decode cX7_reckon 9 = .ok (.istore_n 1, 1) := by decide +kernel
theorem dX7_reckon_10 : decode cX7_reckon 10 = .ok (.iconst 0, 1) := by decide +kernel
theorem dX7_reckon_11 : decode cX7_reckon 11 = .ok (.istore_n 2, 1) := by decide +kernel
theorem dX7_reckon_12 : decode cX7_reckon 12 = .ok (.iload_n 2, 1) := by decide +kernel
theorem dX7_reckon_13 : decode cX7_reckon 13 = .ok (.iload_n 1, 1) := by decide +kernel
theorem dX7_reckon_14 : decode cX7_reckon 14 = .ok (.if_icmp .ge 28, 3) := by decide +kernel
theorem dX7_reckon_42 : decode cX7_reckon 42 = .ok (.iconst 1, 1) := by decide +kernel
theorem dX7_reckon_43 : decode cX7_reckon 43 = .ok (.istore_n 2, 1) := by decide +kernel
theorem dX7_reckon_44 : decode cX7_reckon 44 = .ok (.iload_n 2, 1) := by decide +kernel
theorem dX7_reckon_45 : decode cX7_reckon 45 = .ok (.ifCond .eq 104, 3) := by decide +kernel
theorem dX7_reckon_48 : decode cX7_reckon 48 = .ok (.iconst 0, 1) := by decide +kernel
theorem dX7_reckon_49 : decode cX7_reckon 49 = .ok (.istore_n 2, 1) := by decide +kernel
theorem dX7_reckon_50 : decode cX7_reckon 50 = .ok (.iconst 0, 1) := by decide +kernel
theorem dX7_reckon_51 : decode cX7_reckon 51 = .ok (.istore_n 3, 1) := by decide +kernel
theorem dX7_reckon_52 : decode cX7_reckon 52 = .ok (.iload_n 3, 1) := by decide +kernel
theorem dX7_reckon_53 : decode cX7_reckon 53 = .ok (.iload_n 1, 1) := by decide +kernel
theorem dX7_reckon_54 : decode cX7_reckon 54 = .ok (.if_icmp .ge 92, 3) := by decide +kernel
theorem dX7_reckon_146 : decode cX7_reckon 146 = .ok (.goto (-102), 3) := by decide +kernel
theorem dX7_reckon_149 : decode cX7_reckon 149 = .ok (.iconst 0, 1) := by decide +kernel
theorem dX7_reckon_150 : decode cX7_reckon 150 = .ok (.istore_n 3, 1) := by decide +kernel
theorem dX7_reckon_151 : decode cX7_reckon 151 = .ok (.iload_n 3, 1) := by decide +kernel
theorem dX7_reckon_152 : decode cX7_reckon 152 = .ok (.iload_n 1, 1) := by decide +kernel
theorem dX7_reckon_153 : decode cX7_reckon 153 = .ok (.if_icmp .ge 66, 3) := by decide +kernel
theorem dX7_reckon_219 : decode cX7_reckon 219 = .ok (.iconst 1, 1) := by decide +kernel
theorem dX7_reckon_220 : decode cX7_reckon 220 = .ok (.istore_n 2, 1) := by decide +kernel
theorem dX7_reckon_221 : decode cX7_reckon 221 = .ok (.iload_n 2, 1) := by decide +kernel
theorem dX7_reckon_222 : decode cX7_reckon 222 = .ok (.ifCond .eq 67, 3) := by decide +kernel
theorem dX7_reckon_225 : decode cX7_reckon 225 = .ok (.iconst 0, 1) := by decide +kernel
theorem dX7_reckon_226 : decode cX7_reckon 226 = .ok (.istore_n 2, 1) := by decide +kernel
theorem dX7_reckon_227 : decode cX7_reckon 227 = .ok (.iconst 0, 1) := by decide +kernel
theorem dX7_reckon_228 : decode cX7_reckon 228 = .ok (.istore_n 3, 1) := by decide +kernel
theorem dX7_reckon_229 : decode cX7_reckon 229 = .ok (.iload_n 3, 1) := by decide +kernel
theorem dX7_reckon_230 : decode cX7_reckon 230 = .ok (.iload_n 1, 1) := by decide +kernel
theorem dX7_reckon_231 : decode cX7_reckon 231 = .ok (.if_icmp .ge 55, 3) := by decide +kernel
theorem dX7_reckon_286 : decode cX7_reckon 286 = .ok (.goto (-65), 3) := by decide +kernel
theorem dX7_reckon_289 : decode cX7_reckon 289 = .ok (.return_, 1) := by decide +kernel
def zwX7_reckon : List Cond := .code yX7_reckon cX7_reckon 6 none :: ([.fieldLink RX7 17 "LinkModelsModel" "classes" "[I", .fieldLink RX7 198 "LinkModelsModel" "b" "I"] ++ wsX70)
set_option maxHeartbeats 4000000 in
set_option maxRecDepth 100000 in
theorem zX7_reckon (l : Launch) (dC : Nat → ClassId) (dI : Nat → Nat → Nat) (h0 : Nat) (r : Nat → Nat) (cI : ClassId) (f : Nat → Int32) (hf : f 0 = 0) : Met l yX7_reckon zwX7_reckon ({ frames := 0, cells := 0, slots := 0, locals := 0 }) (zPr dC dI [.ref h0] [(h0, .inr (6, zM 0 r)), (r 4, .inl (cI, 5, .inl f))] [(cI, .int)]) (va_Sv (fun _ => True)) 0 0 (fun _ => False) := by
  refine Met.ofW (cc := cX7_reckon) (maxL := 6) (ret := none) (by decide) rfl ?_
  intro p e s m args below meth c s₁ B hml hv
  obtain ⟨rfl, hP, hK⟩ := hv
  have hx := B.exec
  have hb := B.bytes
  have hr := B.returns
  have hts := atoms_spec (ws := zwX7_reckon) B.pre
  have hown : s.vm.findClass RX7 = some m.cls := findClass_of_methodNamed B.named
  have hlocks := B.notSynchronized
  have hiX7 : ∀ w ∈ wsX70, w ∈ zwX7_reckon := (fun _ h => List.mem_cons_of_mem _ (List.mem_append_right _ h))
  have hP : va_P (dC, dI) vwCl [(h0, .inr (6, zM 0 r)), (r 4, .inl (cI, 5, .inl f))] s.heap := hP
  have hl := lv_entry ([.ref h0]) (n := 6) (Nat.le_of_ble_eq_true rfl)
  rw [lg_entry_eq]
  generalize (lg_sl ([.ref h0]) ++ List.replicate (6 - (lg_sl ([.ref h0])).length) Slot.unset).toArray = ls at hl ⊢
  have hl : lv_has ls 6 [(0, .ref h0)] := hl
  refine lv_aload_n hx hb dX7_reckon_0 rfl (lv_at hl 0 rfl) ?_
  refine va_get (D := (dC, dI)) (ci := 6) (v := .ref (r 4)) (C := RX7) (T := TX7) (N := 46) hx hb hts hiX7 hown hK hP 0 rfl rfl 4 (by decide) (hts (.fieldLink RX7 17 "LinkModelsModel" "classes" "[I") (by decide +kernel)) (fun _ h9 => h9) rfl dX7_reckon_1 ?_
  refine lv_aload_n hx hb dX7_reckon_4 rfl (lv_at hl 0 rfl) ?_
  refine va_get (D := (dC, dI)) (ci := 6) (v := .int 0) (C := RX7) (T := TX7) (N := 46) hx hb hts hiX7 hown hK hP 0 rfl rfl 27 (by decide) (hts (.fieldLink RX7 198 "LinkModelsModel" "b" "I") (by decide +kernel)) (fun _ h9 => h9) rfl dX7_reckon_5 ?_
  refine va_iald hx hb hK hP 1 0 rfl rfl (by unfold vp_in; decide) dX7_reckon_8 ?_
  refine W.eq (g2 := F0 m 9 ls [.int (f (0 : Int32).toNatClampNeg)]) rfl ?_
  refine lv_topi (fun x1 ex1 => ?_)
  obtain rfl : x1 = 0 := by rw [ex1]; exact hf
  refine lv_istore_n (lv' := [(1, .int 0), (0, .ref h0)]) hx hb dX7_reckon_9 rfl hl (by decide) rfl (fun ls hl => ?_)
  refine lv_iconst (v := 0) hx hb dX7_reckon_10 (by decide) ?_
  refine lv_istore_n (lv' := [(2, .int 0), (1, .int 0), (0, .ref h0)]) hx hb dX7_reckon_11 rfl hl (by decide) rfl (fun ls hl => ?_)
  refine lv_iload_n hx hb dX7_reckon_12 rfl (lv_at hl 0 rfl) ?_
  refine lv_iload_n hx hb dX7_reckon_13 rfl (lv_at hl 1 rfl) ?_
  refine lv_icmp_ge (tgt := 42) hx hb dX7_reckon_14 (by decide) (fun _ => ?_) (fun c9 => absurd (by decide) c9)
  refine lv_iconst (v := 1) hx hb dX7_reckon_42 (by decide) ?_
  refine lv_istore_n (lv' := [(2, .int 1), (1, .int 0), (0, .ref h0)]) hx hb dX7_reckon_43 rfl hl (by decide) rfl (fun ls hl => ?_)
  refine lv_iload_n hx hb dX7_reckon_44 rfl (lv_at hl 0 rfl) ?_
  refine lv_if_eq (tgt := 149) hx hb dX7_reckon_45 (by decide) (fun c9 => absurd c9 (by decide)) (fun _ => ?_)
  refine lv_iconst (v := 0) hx hb dX7_reckon_48 (by decide) ?_
  refine lv_istore_n (lv' := [(2, .int 0), (1, .int 0), (0, .ref h0)]) hx hb dX7_reckon_49 rfl hl (by decide) rfl (fun ls hl => ?_)
  refine lv_iconst (v := 0) hx hb dX7_reckon_50 (by decide) ?_
  refine lv_istore_n (lv' := [(3, .int 0), (2, .int 0), (1, .int 0), (0, .ref h0)]) hx hb dX7_reckon_51 rfl hl (by decide) rfl (fun ls hl => ?_)
  refine lv_iload_n hx hb dX7_reckon_52 rfl (lv_at hl 0 rfl) ?_
  refine lv_iload_n hx hb dX7_reckon_53 rfl (lv_at hl 2 rfl) ?_
  refine lv_icmp_ge (tgt := 146) hx hb dX7_reckon_54 (by decide) (fun _ => ?_) (fun c9 => absurd (by decide) c9)
  refine lv_goto (tgt := 44) hx hb dX7_reckon_146 (by decide) ?_
  refine lv_iload_n hx hb dX7_reckon_44 rfl (lv_at hl 1 rfl) ?_
  refine lv_if_eq (tgt := 149) hx hb dX7_reckon_45 (by decide) (fun _ => ?_) (fun c9 => absurd (rfl) c9)
  refine lv_iconst (v := 0) hx hb dX7_reckon_149 (by decide) ?_
  refine lv_istore_n (lv' := [(3, .int 0), (2, .int 0), (1, .int 0), (0, .ref h0)]) hx hb dX7_reckon_150 rfl hl (by decide) rfl (fun ls hl => ?_)
  refine lv_iload_n hx hb dX7_reckon_151 rfl (lv_at hl 0 rfl) ?_
  refine lv_iload_n hx hb dX7_reckon_152 rfl (lv_at hl 2 rfl) ?_
  refine lv_icmp_ge (tgt := 219) hx hb dX7_reckon_153 (by decide) (fun _ => ?_) (fun c9 => absurd (by decide) c9)
  refine lv_iconst (v := 1) hx hb dX7_reckon_219 (by decide) ?_
  refine lv_istore_n (lv' := [(2, .int 1), (3, .int 0), (1, .int 0), (0, .ref h0)]) hx hb dX7_reckon_220 rfl hl (by decide) rfl (fun ls hl => ?_)
  refine lv_iload_n hx hb dX7_reckon_221 rfl (lv_at hl 0 rfl) ?_
  refine lv_if_eq (tgt := 289) hx hb dX7_reckon_222 (by decide) (fun c9 => absurd c9 (by decide)) (fun _ => ?_)
  refine lv_iconst (v := 0) hx hb dX7_reckon_225 (by decide) ?_
  refine lv_istore_n (lv' := [(2, .int 0), (3, .int 0), (1, .int 0), (0, .ref h0)]) hx hb dX7_reckon_226 rfl hl (by decide) rfl (fun ls hl => ?_)
  refine lv_iconst (v := 0) hx hb dX7_reckon_227 (by decide) ?_
  refine lv_istore_n (lv' := [(3, .int 0), (2, .int 0), (1, .int 0), (0, .ref h0)]) hx hb dX7_reckon_228 rfl hl (by decide) rfl (fun ls hl => ?_)
  refine lv_iload_n hx hb dX7_reckon_229 rfl (lv_at hl 0 rfl) ?_
  refine lv_iload_n hx hb dX7_reckon_230 rfl (lv_at hl 2 rfl) ?_
  refine lv_icmp_ge (tgt := 286) hx hb dX7_reckon_231 (by decide) (fun _ => ?_) (fun c9 => absurd (by decide) c9)
  refine lv_goto (tgt := 221) hx hb dX7_reckon_286 (by decide) ?_
  refine lv_iload_n hx hb dX7_reckon_221 rfl (lv_at hl 1 rfl) ?_
  refine lv_if_eq (tgt := 289) hx hb dX7_reckon_222 (by decide) (fun _ => ?_) (fun c9 => absurd (rfl) c9)
  exact W.vret hx hb hr (fun t ht hW => ⟨rfl, trivial, ht⟩) (fun _ h => by cases h) dX7_reckon_289
theorem dX7_build_0 : decode cX7_build 0 = .ok (.aload_n 0, 1) := by decide +kernel
theorem dX7_build_1 : decode cX7_build 1 = .ok (.iconst 0, 1) := by decide +kernel
theorem dX7_build_2 : decode cX7_build 2 = .ok (.putfield 1, 3) := by decide +kernel
theorem dX7_build_5 : decode cX7_build 5 = .ok (.aload_n 0, 1) := by decide +kernel
theorem dX7_build_6 : decode cX7_build 6 = .ok (.getfield 232, 3) := by decide +kernel
theorem dX7_build_9 : decode cX7_build 9 = .ok (.iconst 5, 1) := by decide +kernel
theorem dX7_build_10 : decode cX7_build 10 = .ok (.if_icmp .ne 11, 3) := by decide +kernel
theorem dX7_build_21 : decode cX7_build 21 = .ok (.aload_n 0, 1) := by decide +kernel
theorem dX7_build_22 : decode cX7_build 22 = .ok (.aload_n 0, 1) := by decide +kernel
theorem dX7_build_23 : decode cX7_build 23 = .ok (.getfield 232, 3) := by decide +kernel
theorem dX7_build_26 : decode cX7_build 26 = .ok (.putfield 198, 3) := by decide +kernel
theorem dX7_build_29 : decode cX7_build 29 = .ok (.aload_n 0, 1) := by decide +kernel
theorem dX7_build_30 : decode cX7_build 30 = .ok (.getfield 17, 3) := by decide +kernel
theorem dX7_build_33 : decode cX7_build 33 = .ok (.aload_n 0, 1) := by decide +kernel
theorem dX7_build_34 : decode cX7_build 34 = .ok (.getfield 198, 3) := by decide +kernel
theorem dX7_build_37 : decode cX7_build 37 = .ok (.iconst 0, 1) := by decide +kernel
theorem dX7_build_38 : decode cX7_build 38 = .ok (.iastore, 1) := by decide +kernel
theorem dX7_build_39 : decode cX7_build 39 = .ok (.aload_n 0, 1) := by decide +kernel
theorem dX7_build_40 : decode cX7_build 40 = .ok (.iconst 0, 1) := by decide +kernel
theorem dX7_build_41 : decode cX7_build 41 = .ok (.putfield 126, 3) := by decide +kernel
theorem dX7_build_44 : decode cX7_build 44 = .ok (.aload_n 0, 1) := by decide +kernel
theorem dX7_build_45 : decode cX7_build 45 = .ok (.iconst 0, 1) := by decide +kernel
theorem dX7_build_46 : decode cX7_build 46 = .ok (.putfield 155, 3) := by decide +kernel
theorem dX7_build_49 : decode cX7_build 49 = .ok (.aload_n 0, 1) := by decide +kernel
theorem dX7_build_50 : decode cX7_build 50 = .ok (.invokevirtual 195, 3) := by decide +kernel
theorem dX7_build_53 : decode cX7_build 53 = .ok (.iconst 1, 1) := by decide +kernel
theorem dX7_build_54 : decode cX7_build 54 = .ok (.istore_n 1, 1) := by decide +kernel
theorem dX7_build_55 : decode cX7_build 55 = .ok (.iload_n 1, 1) := by decide +kernel
theorem dX7_build_56 : decode cX7_build 56 = .ok (.ifCond .eq 18, 3) := by decide +kernel
theorem dX7_build_59 : decode cX7_build 59 = .ok (.aload_n 0, 1) := by decide +kernel
theorem dX7_build_60 : decode cX7_build 60 = .ok (.getfield 136, 3) := by decide +kernel
theorem dX7_build_63 : decode cX7_build 63 = .ok (.ifCond .eq 11, 3) := by decide +kernel
theorem dX7_build_74 : decode cX7_build 74 = .ok (.aload_n 0, 1) := by decide +kernel
theorem dX7_build_75 : decode cX7_build 75 = .ok (.iconst 0, 1) := by decide +kernel
theorem dX7_build_76 : decode cX7_build 76 = .ok (.putfield 109, 3) := by decide +kernel
theorem dX7_build_79 : decode cX7_build 79 = .ok (.iload_n 1, 1) := by decide +kernel
theorem dX7_build_80 : decode cX7_build 80 = .ok (.ifCond .ne 21, 3) := by decide +kernel
theorem dX7_build_101 : decode cX7_build 101 = .ok (.aload_n 0, 1) := by decide +kernel
theorem dX7_build_102 : decode cX7_build 102 = .ok (.invokevirtual 238, 3) := by decide +kernel
theorem dX7_build_105 : decode cX7_build 105 = .ok (.aload_n 0, 1) := by decide +kernel
theorem dX7_build_106 : decode cX7_build 106 = .ok (.dup, 1) := by decide +kernel
theorem dX7_build_107 : decode cX7_build 107 = .ok (.getfield 232, 3) := by decide +kernel
theorem dX7_build_110 : decode cX7_build 110 = .ok (.iconst 1, 1) := by decide +kernel
theorem dX7_build_111 : decode cX7_build 111 = .ok (.iadd, 1) := by decide +kernel
theorem dX7_build_112 : decode cX7_build 112 = .ok (.putfield 232, 3) := by decide +kernel
theorem dX7_build_115 : decode cX7_build 115 = .ok (.aload_n 0, 1) := by decide +kernel
theorem dX7_build_116 : decode cX7_build 116 = .ok (.getfield 232, 3) := by decide +kernel
theorem dX7_build_119 : decode cX7_build 119 = .ok (.iconst 1, 1) := by decide +kernel
theorem dX7_build_120 : decode cX7_build 120 = .ok (.isub, 1) := by decide +kernel
theorem dX7_build_121 : decode cX7_build 121 = .ok (.ireturn, 1) := by decide +kernel
def zwX7_build : List Cond := .code yX7_build cX7_build 2 (some .int) :: ([.fieldLink RX7 1 "LinkModelsModel" "thrown" "I", .fieldLink RX7 232 "LinkModelsModel" "builds" "I", .fieldLink RX7 198 "LinkModelsModel" "b" "I", .fieldLink RX7 17 "LinkModelsModel" "classes" "[I", .fieldLink RX7 126 "LinkModelsModel" "at" "I", .fieldLink RX7 155 "LinkModelsModel" "fault" "I", .fieldLink RX7 136 "LinkModelsModel" "token" "I", .fieldLink RX7 109 "LinkModelsModel" "taped" "I", .methodLink RX7 195 yX7_next, .instanceMethod yX7_next, .selects RX7 yX7_next yX7_next, .initialized RX7, .code yX7_next cX7_next 2 none, .fieldLink RX7 129 "LinkModelsModel" "tokenAt" "I", .fieldLink RX7 132 "LinkModelsModel" "value" "J", .methodLink RX7 238 yX7_reckon, .instanceMethod yX7_reckon, .selects RX7 yX7_reckon yX7_reckon, .code yX7_reckon cX7_reckon 6 none] ++ wsX70)
theorem zgX7_build_X7_next_195 : GoodIn zwX7_build (wsV RX7 195 RX7 yX7_next zwX7_next) := goodIn_app (goodIn_of _ (by decide +kernel)) (goodIn_ca (goodIn_of _ (by decide +kernel)) (zgt zg7))
theorem zgX7_build_X7_reckon_238 : GoodIn zwX7_build (wsV RX7 238 RX7 yX7_reckon zwX7_reckon) := goodIn_app (goodIn_of _ (by decide +kernel)) (goodIn_ca (goodIn_of _ (by decide +kernel)) (zgt zg7))
set_option maxHeartbeats 4000000 in
set_option maxRecDepth 100000 in
theorem zX7_build (l : Launch) (dC : Nat → ClassId) (dI : Nat → Nat → Nat) (h0 : Nat) (r : Nat → Nat) (cI : ClassId) (sz : Nat) : Met l yX7_build zwX7_build ({ frames := 1, cells := 0, slots := 0, locals := 25 }) (zPw dC dI [.ref h0] sz [(h0, .inr (6, zM 0 r)), (r 4, .inl (cI, 5, .inl (fun _ => 0)))] [(cI, .int)]) (va_Qi (fun (r : Int32) (_ : Unit) => r = 0) (fun _ _ => True) (va_A [(h0, .inr (6, zM 0 r)), (r 4, .inl (cI, 5, .inl (fun _ => 0)))] sz)) 0 0 (va_A [(h0, .inr (6, zM 0 r)), (r 4, .inl (cI, 5, .inl (fun _ => 0)))] sz) := by
  refine Met.ofW (cc := cX7_build) (maxL := 2) (ret := (some .int)) (by decide) rfl ?_
  intro p e s m args below meth c s₁ B hml hv
  obtain ⟨rfl, hsz, hP, hK, hD0⟩ := hv
  have hx := B.exec
  have hb := B.bytes
  have hr := B.returns
  have hts := atoms_spec (ws := zwX7_build) B.pre
  have hown : s.vm.findClass RX7 = some m.cls := findClass_of_methodNamed B.named
  have hlocks := B.notSynchronized
  have hiX7 : ∀ w ∈ wsX70, w ∈ zwX7_build := (fun _ h => List.mem_cons_of_mem _ (List.mem_append_right _ h))
  subst hsz
  have hD := hD0.self (sz := s.heap.size)
  generalize hAe : va_A [(h0, .inr (6, zM 0 r)), (r 4, .inl (cI, 5, .inl (fun _ => 0)))] s.heap.size = A at hD ⊢
  have hA : ∀ q : Nat, s.heap.size ≤ q → A q := fun q h => by rw [← hAe]; exact Or.inr h
  have hS : va_S A s.heap s.heap [] := va_S.rf
  have hP : va_P (dC, dI) vwCl [(h0, .inr (6, zM 0 r)), (r 4, .inl (cI, 5, .inl (fun _ => 0)))] s.heap := hP
  have hl := lv_entry ([.ref h0]) (n := 2) (Nat.le_of_ble_eq_true rfl)
  rw [lg_entry_eq]
  generalize (lg_sl ([.ref h0]) ++ List.replicate (2 - (lg_sl ([.ref h0])).length) Slot.unset).toArray = ls at hl ⊢
  have hl : lv_has ls 2 [(0, .ref h0)] := hl
  refine lv_aload_n hx hb dX7_build_0 rfl (lv_at hl 0 rfl) ?_
  refine lv_iconst (v := 0) hx hb dX7_build_1 (by decide) ?_
  refine va_put (D := (dC, dI)) (ci := 6) (v := .int 0) (ty := (.int)) (C := RX7) (T := TX7) (N := 46) hx hb hts hiX7 tyX7 tyX7_ok nmX7 hown hK hP hD hS 0 rfl rfl 0 (by decide) (hts (.fieldLink RX7 1 "LinkModelsModel" "thrown" "I") (by decide +kernel)) (fun _ h9 => h9) rfl (by decide +kernel) rfl rfl (Nat.le_of_ble_eq_true rfl) dX7_build_2 (fun H locs hP hD hS => ?_)
  have hP : va_P (dC, dI) vwCl [(h0, .inr (6, zM 0 r)), (r 4, .inl (cI, 5, .inl (fun _ => 0)))] H := hP
  have hD : va_D A [(h0, .inr (6, zM 0 r)), (r 4, .inl (cI, 5, .inl (fun _ => 0)))] := hD
  refine lv_aload_n hx hb dX7_build_5 rfl (lv_at hl 0 rfl) ?_
  refine va_get (D := (dC, dI)) (ci := 6) (v := .int 0) (C := RX7) (T := TX7) (N := 46) hx hb hts hiX7 hown hK hP 0 rfl rfl 3 (by decide) (hts (.fieldLink RX7 232 "LinkModelsModel" "builds" "I") (by decide +kernel)) (fun _ h9 => h9) rfl dX7_build_6 ?_
  refine lv_iconst (v := 5) hx hb dX7_build_9 (by decide) ?_
  refine lv_icmp_ne (tgt := 21) hx hb dX7_build_10 (by decide) (fun _ => ?_) (fun c9 => absurd c9 (by decide))
  refine lv_aload_n hx hb dX7_build_21 rfl (lv_at hl 0 rfl) ?_
  refine lv_aload_n hx hb dX7_build_22 rfl (lv_at hl 0 rfl) ?_
  refine va_get (D := (dC, dI)) (ci := 6) (v := .int 0) (C := RX7) (T := TX7) (N := 46) hx hb hts hiX7 hown hK hP 0 rfl rfl 3 (by decide) (hts (.fieldLink RX7 232 "LinkModelsModel" "builds" "I") (by decide +kernel)) (fun _ h9 => h9) rfl dX7_build_23 ?_
  refine va_put (D := (dC, dI)) (ci := 6) (v := .int 0) (ty := (.int)) (C := RX7) (T := TX7) (N := 46) hx hb hts hiX7 tyX7 tyX7_ok nmX7 hown hK hP hD hS 0 rfl rfl 27 (by decide) (hts (.fieldLink RX7 198 "LinkModelsModel" "b" "I") (by decide +kernel)) (fun _ h9 => h9) rfl (by decide +kernel) rfl rfl (Nat.le_of_ble_eq_true rfl) dX7_build_26 (fun H locs hP hD hS => ?_)
  have hP : va_P (dC, dI) vwCl [(h0, .inr (6, zM 0 r)), (r 4, .inl (cI, 5, .inl (fun _ => 0)))] H := hP
  have hD : va_D A [(h0, .inr (6, zM 0 r)), (r 4, .inl (cI, 5, .inl (fun _ => 0)))] := hD
  refine lv_aload_n hx hb dX7_build_29 rfl (lv_at hl 0 rfl) ?_
  refine va_get (D := (dC, dI)) (ci := 6) (v := .ref (r 4)) (C := RX7) (T := TX7) (N := 46) hx hb hts hiX7 hown hK hP 0 rfl rfl 4 (by decide) (hts (.fieldLink RX7 17 "LinkModelsModel" "classes" "[I") (by decide +kernel)) (fun _ h9 => h9) rfl dX7_build_30 ?_
  refine lv_aload_n hx hb dX7_build_33 rfl (lv_at hl 0 rfl) ?_
  refine va_get (D := (dC, dI)) (ci := 6) (v := .int 0) (C := RX7) (T := TX7) (N := 46) hx hb hts hiX7 hown hK hP 0 rfl rfl 27 (by decide) (hts (.fieldLink RX7 198 "LinkModelsModel" "b" "I") (by decide +kernel)) (fun _ h9 => h9) rfl dX7_build_34 ?_
  refine lv_iconst (v := 0) hx hb dX7_build_37 (by decide) ?_
  refine va_iast hx hb hK hP hD hS 1 0 rfl rfl (by unfold vp_in; decide) dX7_build_38 (fun H locs hP hD hS => ?_)
  have hP : va_P (dC, dI) vwCl [(h0, .inr (6, zM 0 r)), (r 4, .inl (cI, 5, .inl (upd (fun _ => 0) (0 : Int32).toNatClampNeg (0 : Int32))))] H := hP
  have hD : va_D A [(h0, .inr (6, zM 0 r)), (r 4, .inl (cI, 5, .inl (upd (fun _ => 0) (0 : Int32).toNatClampNeg (0 : Int32))))] := hD
  refine lv_aload_n hx hb dX7_build_39 rfl (lv_at hl 0 rfl) ?_
  refine lv_iconst (v := 0) hx hb dX7_build_40 (by decide) ?_
  refine va_put (D := (dC, dI)) (ci := 6) (v := .int 0) (ty := (.int)) (C := RX7) (T := TX7) (N := 46) hx hb hts hiX7 tyX7 tyX7_ok nmX7 hown hK hP hD hS 0 rfl rfl 21 (by decide) (hts (.fieldLink RX7 126 "LinkModelsModel" "at" "I") (by decide +kernel)) (fun _ h9 => h9) rfl (by decide +kernel) rfl rfl (Nat.le_of_ble_eq_true rfl) dX7_build_41 (fun H locs hP hD hS => ?_)
  have hP : va_P (dC, dI) vwCl [(h0, .inr (6, zM 0 r)), (r 4, .inl (cI, 5, .inl (upd (fun _ => 0) (0 : Int32).toNatClampNeg (0 : Int32))))] H := hP
  have hD : va_D A [(h0, .inr (6, zM 0 r)), (r 4, .inl (cI, 5, .inl (upd (fun _ => 0) (0 : Int32).toNatClampNeg (0 : Int32))))] := hD
  refine lv_aload_n hx hb dX7_build_44 rfl (lv_at hl 0 rfl) ?_
  refine lv_iconst (v := 0) hx hb dX7_build_45 (by decide) ?_
  refine va_put (D := (dC, dI)) (ci := 6) (v := .int 0) (ty := (.int)) (C := RX7) (T := TX7) (N := 46) hx hb hts hiX7 tyX7 tyX7_ok nmX7 hown hK hP hD hS 0 rfl rfl 25 (by decide) (hts (.fieldLink RX7 155 "LinkModelsModel" "fault" "I") (by decide +kernel)) (fun _ h9 => h9) rfl (by decide +kernel) rfl rfl (Nat.le_of_ble_eq_true rfl) dX7_build_46 (fun H locs hP hD hS => ?_)
  have hP : va_P (dC, dI) vwCl [(h0, .inr (6, zM 0 r)), (r 4, .inl (cI, 5, .inl (upd (fun _ => 0) (0 : Int32).toNatClampNeg (0 : Int32))))] H := hP
  have hD : va_D A [(h0, .inr (6, zM 0 r)), (r 4, .inl (cI, 5, .inl (upd (fun _ => 0) (0 : Int32).toNatClampNeg (0 : Int32))))] := hD
  refine lv_aload_n hx hb dX7_build_49 rfl (lv_at hl 0 rfl) ?_
  have hPc := hP.sub (ws' := [(h0, .inr (6, zM 0 r))]) [0] rfl
  have hDc := hD.sub (ws' := [(h0, .inr (6, zM 0 r))]) [0] (by decide) rfl
  have hKc := hK.sub (tys' := []) [] rfl
  have hFc := va_free (wc := [(h0, .inr (6, zM 0 r))]) hD hS hA [0] rfl
  refine va_callv (va_runV (As := []) (rest := []) ⟨hx, hb, hml, hown, hts⟩ (zX7_next l dC dI h0 r H.size) (cwV 0 hts zgX7_build_X7_next_195 rfl rfl rfl (by decide +kernel) ⟨(show 0 + 1 ≤ 1 by omega), (show 8 + (2 + 11) + 0 ≤ 25 by omega)⟩) (zVw (ci := 6) (q0 := 0) (q := (RX7, TX7, 46)) hKc hPc hDc rfl rfl rfl) rfl rfl hl.1 rfl (lv_room (Nat.le_of_ble_eq_true rfl)) dX7_build_50 ⟨(show 0 + 0 ≤ 0 by omega), (show 0 + 0 ≤ 0 by omega)⟩) hS (fun q _ h => hFc q h) hFc (fun u1 t H1 locs ht hvm hw hB hz1 hk1 hS => ?_)
  obtain ⟨hP1, hK1, hD1⟩ := hB
  rw [ht] at hP1
  have hK1 := va_K.moved hvm.symm hK1
  obtain ⟨hP, hD⟩ := va_join (wr := [(r 4, .inl (cI, 5, .inl (upd (fun _ => 0) (0 : Int32).toNatClampNeg (0 : Int32))))]) (w1 := [(h0, .inr (6, zM 0 r))]) hP hD [0] [1] rfl rfl (by decide) (by decide) hk1 hFc hP1 hD1
  have hK := (hK.sub (tys' := [(cI, .int)]) [0] rfl).app hK1
  generalize H1 = H at hP hS ⊢
  have hP : va_P (dC, dI) vwCl [(r 4, .inl (cI, 5, .inl (upd (fun _ => 0) (0 : Int32).toNatClampNeg (0 : Int32)))), (h0, .inr (6, zM 0 r))] H := hP
  have hD : va_D A [(r 4, .inl (cI, 5, .inl (upd (fun _ => 0) (0 : Int32).toNatClampNeg (0 : Int32)))), (h0, .inr (6, zM 0 r))] := hD
  have hK : va_K (dC, dI) vwCl [(cI, .int)] s := hK
  refine lv_iconst (v := 1) hx hb dX7_build_53 (by decide) ?_
  refine lv_istore_n (lv' := [(1, .int 1), (0, .ref h0)]) hx hb dX7_build_54 rfl hl (by decide) rfl (fun ls hl => ?_)
  refine lv_iload_n hx hb dX7_build_55 rfl (lv_at hl 0 rfl) ?_
  refine lv_if_eq (tgt := 74) hx hb dX7_build_56 (by decide) (fun c9 => absurd c9 (by decide)) (fun _ => ?_)
  refine lv_aload_n hx hb dX7_build_59 rfl (lv_at hl 1 rfl) ?_
  refine va_get (D := (dC, dI)) (ci := 6) (v := .int 0) (C := RX7) (T := TX7) (N := 46) hx hb hts hiX7 hown hK hP 1 rfl rfl 22 (by decide) (hts (.fieldLink RX7 136 "LinkModelsModel" "token" "I") (by decide +kernel)) (fun _ h9 => h9) rfl dX7_build_60 ?_
  refine lv_if_eq (tgt := 74) hx hb dX7_build_63 (by decide) (fun _ => ?_) (fun c9 => absurd (rfl) c9)
  refine lv_aload_n hx hb dX7_build_74 rfl (lv_at hl 1 rfl) ?_
  refine lv_iconst (v := 0) hx hb dX7_build_75 (by decide) ?_
  refine va_put (D := (dC, dI)) (ci := 6) (v := .int 0) (ty := (.int)) (C := RX7) (T := TX7) (N := 46) hx hb hts hiX7 tyX7 tyX7_ok nmX7 hown hK hP hD hS 1 rfl rfl 2 (by decide) (hts (.fieldLink RX7 109 "LinkModelsModel" "taped" "I") (by decide +kernel)) (fun _ h9 => h9) rfl (by decide +kernel) rfl rfl (Nat.le_of_ble_eq_true rfl) dX7_build_76 (fun H locs hP hD hS => ?_)
  have hP : va_P (dC, dI) vwCl [(r 4, .inl (cI, 5, .inl (upd (fun _ => 0) (0 : Int32).toNatClampNeg (0 : Int32)))), (h0, .inr (6, zM 0 r))] H := hP
  have hD : va_D A [(r 4, .inl (cI, 5, .inl (upd (fun _ => 0) (0 : Int32).toNatClampNeg (0 : Int32)))), (h0, .inr (6, zM 0 r))] := hD
  refine lv_iload_n hx hb dX7_build_79 rfl (lv_at hl 0 rfl) ?_
  refine lv_if_ne (tgt := 101) hx hb dX7_build_80 (by decide) (fun _ => ?_) (fun c9 => absurd c9 (by decide))
  refine lv_aload_n hx hb dX7_build_101 rfl (lv_at hl 1 rfl) ?_
  refine va_csv (W.runV (As := []) (rest := []) ⟨hx, hb, hml, hown, hts⟩ (zX7_reckon l dC dI h0 r cI (upd (fun _ => 0) (0 : Int32).toNatClampNeg (0 : Int32)) rfl) (cwV 0 hts zgX7_build_X7_reckon_238 rfl rfl rfl (by decide +kernel) ⟨(show 0 + 1 ≤ 1 by omega), (show 8 + (6 + 11) + 0 ≤ 25 by omega)⟩) (zVr (ci := 6) (q0 := 0) (q := (RX7, TX7, 46)) (hK.sub (tys' := [(cI, .int)]) [0] rfl) (hP.sub (ws' := [(h0, .inr (6, zM 0 r)), (r 4, .inl (cI, 5, .inl (upd (fun _ => 0) (0 : Int32).toNatClampNeg (0 : Int32))))]) [1, 0] rfl) rfl rfl rfl) rfl rfl hl.1 rfl (lv_room (Nat.le_of_ble_eq_true rfl)) dX7_build_102 ⟨(show 0 + 0 ≤ 0 by omega), (show 0 + 0 ≤ 0 by omega)⟩) (fun hr3 => ?_)
  refine lv_aload_n hx hb dX7_build_105 rfl (lv_at hl 1 rfl) ?_
  refine lv_dup hx hb dX7_build_106 rfl ?_
  refine va_get (D := (dC, dI)) (ci := 6) (v := .int 0) (C := RX7) (T := TX7) (N := 46) hx hb hts hiX7 hown hK hP 1 rfl rfl 3 (by decide) (hts (.fieldLink RX7 232 "LinkModelsModel" "builds" "I") (by decide +kernel)) (fun _ h9 => h9) rfl dX7_build_107 ?_
  refine lv_iconst (v := 1) hx hb dX7_build_110 (by decide) ?_
  refine lv_iadd hx hb dX7_build_111 ?_
  refine lv_topi (fun x4 ex4 => ?_)
  refine va_put (D := (dC, dI)) (ci := 6) (v := .int x4) (ty := (.int)) (C := RX7) (T := TX7) (N := 46) hx hb hts hiX7 tyX7 tyX7_ok nmX7 hown hK hP hD hS 1 rfl rfl 3 (by decide) (hts (.fieldLink RX7 232 "LinkModelsModel" "builds" "I") (by decide +kernel)) (fun _ h9 => h9) rfl (by decide +kernel) rfl rfl (Nat.le_of_ble_eq_true rfl) dX7_build_112 (fun H locs hP hD hS => ?_)
  have hP : va_P (dC, dI) vwCl [(r 4, .inl (cI, 5, .inl (upd (fun _ => 0) (0 : Int32).toNatClampNeg (0 : Int32)))), (h0, .inr (6, [.int 0, .ref (r 1), .int 0, .int x4, .ref (r 4), .ref (r 5), .ref (r 6), .ref (r 7), .ref (r 8), .ref (r 9), .ref (r 10), .ref (r 11), .ref (r 12), .ref (r 13), .ref (r 14), .ref (r 15), .ref (r 16), .ref (r 17), .ref (r 18), .ref (r 19), .ref (r 20), .int 0, .int 0, .int 0, .long 0, .int 0, .int 0, .int 0, .ref (r 28), .int 0, .ref (r 30), .ref (r 31), .ref (r 32), .ref (r 33), .ref (r 34), .ref (r 35), .ref (r 36), .ref (r 37), .ref (r 38), .ref (r 39), .int 0, .int 0, .int 0, .int 0, .int 0, .int 0]))] H := hP
  have hD : va_D A [(r 4, .inl (cI, 5, .inl (upd (fun _ => 0) (0 : Int32).toNatClampNeg (0 : Int32)))), (h0, .inr (6, [.int 0, .ref (r 1), .int 0, .int x4, .ref (r 4), .ref (r 5), .ref (r 6), .ref (r 7), .ref (r 8), .ref (r 9), .ref (r 10), .ref (r 11), .ref (r 12), .ref (r 13), .ref (r 14), .ref (r 15), .ref (r 16), .ref (r 17), .ref (r 18), .ref (r 19), .ref (r 20), .int 0, .int 0, .int 0, .long 0, .int 0, .int 0, .int 0, .ref (r 28), .int 0, .ref (r 30), .ref (r 31), .ref (r 32), .ref (r 33), .ref (r 34), .ref (r 35), .ref (r 36), .ref (r 37), .ref (r 38), .ref (r 39), .int 0, .int 0, .int 0, .int 0, .int 0, .int 0]))] := hD
  refine lv_aload_n hx hb dX7_build_115 rfl (lv_at hl 1 rfl) ?_
  refine va_get (D := (dC, dI)) (ci := 6) (v := .int x4) (C := RX7) (T := TX7) (N := 46) hx hb hts hiX7 hown hK hP 1 rfl rfl 3 (by decide) (hts (.fieldLink RX7 232 "LinkModelsModel" "builds" "I") (by decide +kernel)) (fun _ h9 => h9) rfl dX7_build_116 ?_
  refine lv_iconst (v := 1) hx hb dX7_build_119 (by decide) ?_
  refine lv_isub hx hb dX7_build_120 ?_
  refine lv_topi (fun x5 ex5 => ?_)
  exact W.iret (v := x5) hx hb hr (fun t ht hW => ⟨⟨x5, (), rfl, by rw [ex5, ex4]; decide, trivial⟩, hS.F ht⟩) hS.2.2 dX7_build_121
