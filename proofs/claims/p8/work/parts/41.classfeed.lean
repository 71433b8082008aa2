/-- what feed answers, and how long the tape is behind it -/
def zFd (tp : Nat) (nx r : Int32) (tp2 : Nat) : Prop := ((¬ ∃ nn : Nat, 1 ≤ nn ∧ nn ≤ 8 ∧ nx = nI nn) ∧ r = -3 ∧ tp2 = tp) ∨ ∃ nn : Nat, 1 ≤ nn ∧ nn ≤ 8 ∧ nx = nI nn ∧ ((800 < tp + nn ∧ r = -5 ∧ tp2 = tp) ∨ (tp + nn ≤ 800 ∧ r = nI (tp + nn) ∧ tp2 = tp + nn))
theorem zFd.le {tp tp2 : Nat} {nx r : Int32} (h : zFd tp nx r tp2) (ht : tp ≤ 800) : tp2 ≤ 800 := by
  rcases h with ⟨-, -, rfl⟩ | ⟨n, -, -, -, ⟨-, -, rfl⟩ | ⟨h, -, rfl⟩⟩
  · exact ht
  · exact ht
  · exact h
theorem zFd.uniq {tp a b : Nat} {nx r q : Int32} (h : zFd tp nx r a) (g : zFd tp nx q b) : r = q ∧ a = b := by
  rcases h with ⟨h1, rfl, rfl⟩ | ⟨n, h1, h2, h3, h⟩ <;> rcases g with ⟨g1, rfl, rfl⟩ | ⟨k, g1, g2, g3, g⟩
  · exact ⟨rfl, rfl⟩
  · exact absurd ⟨k, g1, g2, g3⟩ h1
  · exact absurd ⟨n, h1, h2, h3⟩ g1
  · have e : n = k := (nI_eq (by omega) (by omega)).mp (h3.symm.trans g3)
    subst e
    rcases h with ⟨q1, rfl, rfl⟩ | ⟨q1, rfl, rfl⟩ <;> rcases g with ⟨q2, rfl, rfl⟩ | ⟨q2, rfl, rfl⟩
    · exact ⟨rfl, rfl⟩
    · omega
    · omega
    · exact ⟨rfl, rfl⟩
theorem z_n18 {x : Int32} (h1 : ¬ x < 1) (h8 : x ≤ 8) : ∃ j : Nat, 1 ≤ j ∧ j ≤ 8 ∧ x = nI j := by
  have h0 : ¬ x < 0 := fun h => h1 (Int32.lt_trans h (by decide))
  obtain ⟨j, hj, e⟩ := nI_of2 (n := 8) (M := 8) (by decide) h0 h8
  refine ⟨j, ?_, hj, e⟩
  rcases Nat.eq_zero_or_pos j with h | h
  · subst h
    exact absurd (by rw [e]; decide) h1
  · exact h
theorem z_no1 {x : Int32} (h : x < 1) : ¬ ∃ nn : Nat, 1 ≤ nn ∧ nn ≤ 8 ∧ x = nI nn := by
  rintro ⟨n, h1, h2, rfl⟩
  exact absurd ((nI_ltI (a := n) (b := 1) (by omega) (by omega)).mp h) (by omega)
theorem z_no8 {x : Int32} (h : ¬ x ≤ 8) : ¬ ∃ nn : Nat, 1 ≤ nn ∧ nn ≤ 8 ∧ x = nI nn := by
  rintro ⟨n, h1, h2, rfl⟩
  exact h ((nI_leI (a := n) (b := 8) (by omega) (by omega)).mpr h2)
theorem dX6_feed_0 : decode cX6_feed 0 = .ok (.iload_n 3, 1) := by decide +kernel
theorem dX6_feed_1 : decode cX6_feed 1 = .ok (.iconst 1, 1) := by decide +kernel
theorem dX6_feed_2 : decode cX6_feed 2 = .ok (.if_icmp .lt 9, 3) := by decide +kernel
theorem dX6_feed_5 : decode cX6_feed 5 = .ok (.iload_n 3, 1) := by decide +kernel
theorem dX6_feed_6 : decode cX6_feed 6 = .ok (.bipush 8, 2) := by decide +kernel
theorem dX6_feed_8 : decode cX6_feed 8 = .ok (.if_icmp .le 6, 3) := by decide +kernel
theorem dX6_feed_11 : decode cX6_feed 11 = .ok (.bipush (-3), 2) := by decide +kernel
theorem dX6_feed_13 : decode cX6_feed 13 = .ok (.ireturn, 1) := by decide +kernel
theorem dX6_feed_14 : decode cX6_feed 14 = .ok (.aload_n 0, 1) := by decide +kernel
theorem dX6_feed_15 : decode cX6_feed 15 = .ok (.getfield 13, 3) := by decide +kernel
theorem dX6_feed_18 : decode cX6_feed 18 = .ok (.iload_n 3, 1) := by decide +kernel
theorem dX6_feed_19 : decode cX6_feed 19 = .ok (.iadd, 1) := by decide +kernel
theorem dX6_feed_20 : decode cX6_feed 20 = .ok (.sipush 800, 3) := by decide +kernel
theorem dX6_feed_23 : decode cX6_feed 23 = .ok (.if_icmp .le 6, 3) := by decide +kernel
theorem dX6_feed_26 : decode cX6_feed 26 = .ok (.bipush (-5), 2) := by decide +kernel
theorem dX6_feed_28 : decode cX6_feed 28 = .ok (.ireturn, 1) := by decide +kernel
theorem dX6_feed_29 : decode cX6_feed 29 = .ok (.iload_n 3, 1) := by decide +kernel
theorem dX6_feed_30 : decode cX6_feed 30 = .ok (.iconst 1, 1) := by decide +kernel
theorem dX6_feed_31 : decode cX6_feed 31 = .ok (.isub, 1) := by decide +kernel
theorem dX6_feed_32 : decode cX6_feed 32 = .ok (.istore 4, 2) := by decide +kernel
theorem dX6_feed_34 : decode cX6_feed 34 = .ok (.iload 4, 2) := by decide +kernel
theorem dX6_feed_36 : decode cX6_feed 36 = .ok (.ifCond .lt 37, 3) := by decide +kernel
theorem dX6_feed_39 : decode cX6_feed 39 = .ok (.aload_n 0, 1) := by decide +kernel
theorem dX6_feed_40 : decode cX6_feed 40 = .ok (.getfield 9, 3) := by decide +kernel
theorem dX6_feed_43 : decode cX6_feed 43 = .ok (.aload_n 0, 1) := by decide +kernel
theorem dX6_feed_44 : decode cX6_feed 44 = .ok (.getfield 13, 3) := by decide +kernel
theorem dX6_feed_47 : decode cX6_feed 47 = .ok (.lload_n 1, 1) := by decide +kernel
theorem dX6_feed_48 : decode cX6_feed 48 = .ok (.bipush 8, 2) := by decide +kernel
theorem dX6_feed_50 : decode cX6_feed 50 = .ok (.iload 4, 2) := by decide +kernel
theorem dX6_feed_52 : decode cX6_feed 52 = .ok (.imul, 1) := by decide +kernel
theorem dX6_feed_53 : decode cX6_feed 53 = .ok (.lushr, 1) := by decide +kernel
theorem dX6_feed_54 : decode cX6_feed 54 = .ok (.l2i, 1) := by decide +kernel
theorem dX6_feed_55 : decode cX6_feed 55 = .ok (.i2b, 1) := by decide +kernel
theorem dX6_feed_56 : decode cX6_feed 56 = .ok (.bastore, 1) := by decide +kernel
theorem dX6_feed_57 : decode cX6_feed 57 = .ok (.aload_n 0, 1) := by decide +kernel
theorem dX6_feed_58 : decode cX6_feed 58 = .ok (.dup, 1) := by decide +kernel
theorem dX6_feed_59 : decode cX6_feed 59 = .ok (.getfield 13, 3) := by decide +kernel
theorem dX6_feed_62 : decode cX6_feed 62 = .ok (.iconst 1, 1) := by decide +kernel
theorem dX6_feed_63 : decode cX6_feed 63 = .ok (.iadd, 1) := by decide +kernel
theorem dX6_feed_64 : decode cX6_feed 64 = .ok (.putfield 13, 3) := by decide +kernel
theorem dX6_feed_67 : decode cX6_feed 67 = .ok (.iinc 4 (-1), 3) := by decide +kernel
theorem dX6_feed_70 : decode cX6_feed 70 = .ok (.goto (-36), 3) := by decide +kernel
theorem dX6_feed_73 : decode cX6_feed 73 = .ok (.aload_n 0, 1) := by decide +kernel
theorem dX6_feed_74 : decode cX6_feed 74 = .ok (.getfield 13, 3) := by decide +kernel
theorem dX6_feed_77 : decode cX6_feed 77 = .ok (.ireturn, 1) := by decide +kernel
def zwX6_feed : List Cond := .code yX6_feed cX6_feed 5 (some .int) :: ([.fieldLink RX6 13 "LinkModels" "tapeLength" "I", .fieldLink RX6 9 "LinkModels" "tape" "[B"] ++ wsX60)
set_option maxHeartbeats 4000000 in
set_option maxRecDepth 100000 in
theorem kX6_feed (l : Launch) (dC : Nat → ClassId) (dI : Nat → Nat → Nat) (xh : Nat) (tb : Nat) (xb : Nat) (xu : Nat) (rh : Nat) (th : Nat) (sh : Nat) (cI : ClassId) (cJ : ClassId) (cB : ClassId) (cQ : ClassId) (cV : ClassId) (tn : Nat) (bn : Nat) (un : Nat) (bf : Nat → Option Nat) (wf : Nat → Option Nat) (rm : Int32) (ry : Int32) (rf : Int32) (tl : Nat) (ta : Nat) (ts : Int32) (so : Int32) (tv : Int64) (tpA : Nat → Int32) (sw : Int64) (st : Int32) (sf : Int32) (sq : Int32) (hI : xWI tn bn un tl ta) (ww : Int64) (nx : Int32) (sz : Nat) : Met l yX6_feed zwX6_feed ({ frames := 0, cells := 0, slots := 0, locals := 0 }) (zPk dC dI [.ref xh, .long ww, .int nx] sz (xW xh tb xb xu rh th sh cI cJ cB cQ cV (nI tn) (nI bn) (nI un) bf wf rm ry rf (nI tl) (nI ta) ts so tv tpA sw st sf sq) [(cI, .int), (cJ, .long), (cB, .byte), (cQ, .object RX0), (cV, .object RX5)]) (va_Qi (fun (r : Int32) (u : Nat × (Nat → Int32)) => ((u.1) ≤ 800) ∧ (zFd tn nx r (u.1))) (fun u t => zB dC dI (va_A (xW xh tb xb xu rh th sh cI cJ cB cQ cV (nI tn) (nI bn) (nI un) bf wf rm ry rf (nI tl) (nI ta) ts so tv tpA sw st sf sq) sz) (xW xh tb xb xu rh th sh cI cJ cB cQ cV (nI (u.1)) (nI bn) (nI un) bf wf rm ry rf (nI tl) (nI ta) ts so tv (u.2) sw st sf sq) [(cI, .int), (cJ, .long), (cB, .byte), (cQ, .object RX0), (cV, .object RX5)] t) (va_A (xW xh tb xb xu rh th sh cI cJ cB cQ cV (nI tn) (nI bn) (nI un) bf wf rm ry rf (nI tl) (nI ta) ts so tv tpA sw st sf sq) sz)) 0 0 (va_A (xW xh tb xb xu rh th sh cI cJ cB cQ cV (nI tn) (nI bn) (nI un) bf wf rm ry rf (nI tl) (nI ta) ts so tv tpA sw st sf sq) sz) := by
  refine Met.ofW (cc := cX6_feed) (maxL := 5) (ret := (some .int)) (by decide) rfl ?_
  intro p e s m args below meth c s₁ B hml hv
  obtain ⟨rfl, hsz, hP, hK, hD0, hE⟩ := hv
  have hx := B.exec
  have hb := B.bytes
  have hr := B.returns
  have hts := atoms_spec (ws := zwX6_feed) B.pre
  have hown : s.vm.findClass RX6 = some m.cls := findClass_of_methodNamed B.named
  have hiX6 : ∀ w ∈ wsX60, w ∈ zwX6_feed := (fun w hw => (List.mem_cons_of_mem _ (List.mem_append_right _ hw)))
  obtain ⟨htn, hbn, hun, htl, hta⟩ := hI
  subst hsz
  have hD := hD0.self (sz := s.heap.size)
  generalize hAe : va_A (xW xh tb xb xu rh th sh cI cJ cB cQ cV (nI tn) (nI bn) (nI un) bf wf rm ry rf (nI tl) (nI ta) ts so tv tpA sw st sf sq) s.heap.size = A at hD ⊢
  have hA : ∀ q : Nat, s.heap.size ≤ q → A q := fun q h => by rw [← hAe]; exact Or.inr h
  have hS : va_S A s.heap s.heap [] := va_S.rf
  have hl := lv_entry ([.ref xh, .long ww, .int nx]) (n := 5) (Nat.le_of_ble_eq_true rfl)
  rw [lg_entry_eq]
  generalize (lg_sl ([.ref xh, .long ww, .int nx]) ++ List.replicate (5 - (lg_sl ([.ref xh, .long ww, .int nx])).length) Slot.unset).toArray = ls at hl ⊢
  have hl : lv_has ls 5 [(0, .ref xh), (1, .long ww), (3, .int nx)] := hl
  have J34 : ∀ (z34 : Nat) (n8 : Nat) (k4 : Int32) (tn2 : Nat) (t2 : Nat → Int32) (H : Heap) (locs : List Loc) (ls : Array Slot), tn + n8 - tn2 < z34 → (zM k4 (fun k => k < 8 ∧ tn2 + k + 1 = tn + n8)) → (tn + n8 ≤ 800) → (1 ≤ n8 ∧ n8 ≤ 8) → (nx = nI n8) → (k4 = -1 → tn2 = tn + n8) → (tn2 ≤ tn + n8) → va_P (dC, dI) vwCl (xW xh tb xb xu rh th sh cI cJ cB cQ cV (nI tn2) (nI bn) (nI un) bf wf rm ry rf (nI tl) (nI ta) ts so tv t2 sw st sf sq) H → va_D A (xW xh tb xb xu rh th sh cI cJ cB cQ cV (nI tn2) (nI bn) (nI un) bf wf rm ry rf (nI tl) (nI ta) ts so tv t2 sw st sf sq) → va_S A s.heap H locs → lv_has ls 5 [(0, .ref xh), (1, .long ww), (3, .int (nI n8)), (4, .int k4)] → W p l e (headSpec zwX6_feed { frames := 0, cells := 0, slots := 0, locals := 0 }).room s m (([.ref xh, .long ww, .int nx] : List Value).toArray) below meth c H locs 0 0 (MQ below (va_Qi (fun (r : Int32) (u : Nat × (Nat → Int32)) => ((u.1) ≤ 800) ∧ (zFd tn nx r (u.1))) (fun u t => zB dC dI (A) (xW xh tb xb xu rh th sh cI cJ cB cQ cV (nI (u.1)) (nI bn) (nI un) bf wf rm ry rf (nI tl) (nI ta) ts so tv (u.2) sw st sf sq) [(cI, .int), (cJ, .long), (cB, .byte), (cQ, .object RX0), (cV, .object RX5)] t) (A)) (([.ref xh, .long ww, .int nx] : List Value).toArray) s 0 0 A) (F0 m 34 ls []) := by
    intro z34
    induction z34 with
    | zero => intro n8 k4 tn2 t2 H locs ls h9; exact absurd h9 (Nat.not_lt_zero _)
    | succ z34 ih34 =>
      intro n8 k4 tn2 t2 H locs ls hm34 hm34_k4 i34_0 i34_1 i34_2 i34_3 i34_4 hP hD hS hl
      refine lv_iload hx hb dX6_feed_34 (lv_at hl 3 rfl) ?_
      refine lv_if_lt (tgt := 73) hx hb dX6_feed_36 (by decide) (fun cp36 => ?_) (fun cp36 => ?_)
      · obtain rfl : k4 = -1 := zM.neg hm34_k4 cp36
        refine lv_aload_n hx hb dX6_feed_73 rfl (lv_at hl 0 rfl) ?_
        refine va_get (D := (dC, dI)) (ci := 5) (v := .int (nI tn2)) (C := RX6) (T := TX6) (N := 7) hx hb hts hiX6 hown hK hP 0 rfl rfl 1 (by decide) (hts (.fieldLink RX6 13 "LinkModels" "tapeLength" "I") (by decide +kernel)) (fun _ h9 => h9) rfl dX6_feed_74 ?_
        have hP9 : va_P (dC, dI) vwCl (xW xh tb xb xu rh th sh cI cJ cB cQ cV (nI tn2) (nI bn) (nI un) bf wf rm ry rf (nI tl) (nI ta) ts so tv t2 sw st sf sq) H := hP
        have hD9 : va_D A (xW xh tb xb xu rh th sh cI cJ cB cQ cV (nI tn2) (nI bn) (nI un) bf wf rm ry rf (nI tl) (nI ta) ts so tv t2 sw st sf sq) := hD
        exact W.iret (v := (nI tn2)) hx hb hr (fun t ht hW => ⟨⟨(nI tn2), (tn2, t2), rfl, ⟨(show tn2 ≤ 800 from (by show tn2 ≤ 800; omega)), (show zFd tn nx ((nI tn2)) tn2 from (by exact Or.inr ⟨n8, by omega, by omega, by assumption, Or.inr ⟨by omega, by rw [i34_3 rfl], i34_3 rfl⟩⟩))⟩, by rw [ht]; exact hP9, va_K.moved hW.alike hK, hD9⟩, hS.F ht⟩) hS.2.2 dX6_feed_77
      · obtain ⟨k1, hBk1, hQk1, rfl⟩ := zM.pos hm34_k4 cp36
        refine lv_aload_n hx hb dX6_feed_39 rfl (lv_at hl 0 rfl) ?_
        refine va_get (D := (dC, dI)) (ci := 5) (v := .ref tb) (C := RX6) (T := TX6) (N := 7) hx hb hts hiX6 hown hK hP 0 rfl rfl 0 (by decide) (hts (.fieldLink RX6 9 "LinkModels" "tape" "[B") (by decide +kernel)) (fun _ h9 => h9) rfl dX6_feed_40 ?_
        refine lv_aload_n hx hb dX6_feed_43 rfl (lv_at hl 0 rfl) ?_
        refine va_get (D := (dC, dI)) (ci := 5) (v := .int (nI tn2)) (C := RX6) (T := TX6) (N := 7) hx hb hts hiX6 hown hK hP 0 rfl rfl 1 (by decide) (hts (.fieldLink RX6 13 "LinkModels" "tapeLength" "I") (by decide +kernel)) (fun _ h9 => h9) rfl dX6_feed_44 ?_
        refine lv_lload_n hx hb dX6_feed_47 rfl (lv_at hl 1 rfl) ?_
        refine lv_bipush (v := 8) hx hb dX6_feed_48 (by decide) ?_
        refine lv_iload hx hb dX6_feed_50 (lv_at hl 3 rfl) ?_
        refine lv_imul hx hb dX6_feed_52 ?_
        refine lv_topi (fun x2 ex2 => ?_)
        obtain rfl : x2 = nI (8 * k1) := by rw [ex2]; exact pk_mul (8) (k1)
        refine lv_lushr hx hb dX6_feed_53 rfl ?_
        refine lv_topl (fun x3 ex3 => ?_)
        refine lv_l2i hx hb dX6_feed_54 rfl ?_
        refine lv_topi (fun x4 ex4 => ?_)
        refine lv_i2b hx hb dX6_feed_55 rfl ?_
        refine lv_topi (fun x5 ex5 => ?_)
        refine va_bast hx hb hK hP hD hS 5 2 rfl rfl (vp_in_nI (show tn2 < 800 by omega) (by decide)) dX6_feed_56 (fun H locs hP hD hS => ?_)
        obtain ⟨f6, hP, hD⟩ : ∃ g : Nat → Int32, va_P (dC, dI) vwCl (xW xh tb xb xu rh th sh cI cJ cB cQ cV (nI tn2) (nI bn) (nI un) bf wf rm ry rf (nI tl) (nI ta) ts so tv g sw st sf sq) H ∧ va_D A (xW xh tb xb xu rh th sh cI cJ cB cQ cV (nI tn2) (nI bn) (nI un) bf wf rm ry rf (nI tl) (nI ta) ts so tv g sw st sf sq) := ⟨_, hP, hD⟩
        refine lv_aload_n hx hb dX6_feed_57 rfl (lv_at hl 0 rfl) ?_
        refine lv_dup hx hb dX6_feed_58 rfl ?_
        refine va_get (D := (dC, dI)) (ci := 5) (v := .int (nI tn2)) (C := RX6) (T := TX6) (N := 7) hx hb hts hiX6 hown hK hP 0 rfl rfl 1 (by decide) (hts (.fieldLink RX6 13 "LinkModels" "tapeLength" "I") (by decide +kernel)) (fun _ h9 => h9) rfl dX6_feed_59 ?_
        refine lv_iconst (v := 1) hx hb dX6_feed_62 (by decide) ?_
        refine lv_iadd hx hb dX6_feed_63 ?_
        refine lv_topi (fun x7 ex7 => ?_)
        obtain rfl : x7 = nI (tn2 + 1) := by rw [ex7]; exact nI_add (tn2) (1)
        refine va_put (D := (dC, dI)) (ci := 5) (v := .int (nI (tn2 + 1))) (ty := (.int)) (C := RX6) (T := TX6) (N := 7) hx hb hts hiX6 tyX6 tyX6_ok nmX6 hown hK hP hD hS 0 rfl rfl 1 (by decide) (hts (.fieldLink RX6 13 "LinkModels" "tapeLength" "I") (by decide +kernel)) (fun _ h9 => h9) rfl (by decide +kernel) rfl rfl (Nat.le_of_ble_eq_true rfl) dX6_feed_64 (fun H locs hP hD hS => ?_)
        have hP : va_P (dC, dI) vwCl (xW xh tb xb xu rh th sh cI cJ cB cQ cV (nI (tn2 + 1)) (nI bn) (nI un) bf wf rm ry rf (nI tl) (nI ta) ts so tv f6 sw st sf sq) H := hP
        have hD : va_D A (xW xh tb xb xu rh th sh cI cJ cB cQ cV (nI (tn2 + 1)) (nI bn) (nI un) bf wf rm ry rf (nI tl) (nI ta) ts so tv f6 sw st sf sq) := hD
        obtain ⟨x8, ex8⟩ : ∃ y : Int32, y = (nI k1) + (-1) := ⟨_, rfl⟩
        refine lv_iinc (v := x8) (lv' := [(4, .int x8), (0, .ref xh), (1, .long ww), (3, .int (nI n8))]) hx hb dX6_feed_67 hl (k := 3) rfl (by rw [ex8]; rfl) (by decide) rfl (fun ls hl => ?_)
        have hdx8 : zM x8 (fun j => j + 1 = k1) := by rw [ex8]; exact z_dec (by omega)
        have hex8 : x8 = -1 → k1 = 0 := fun h9 => z_dec0 (by omega) (ex8.symm.trans h9)
        refine lv_goto (tgt := 34) hx hb dX6_feed_70 (by decide) ?_
        exact ih34 n8 x8 (tn2 + 1) f6 _ _ ls (by omega) (zM.imp hdx8 (fun k hk hq => by first | exact hq | trivial | omega)) (by first | omega | rfl | assumption) (by first | omega | rfl | assumption) (by first | omega | rfl | assumption) (by intro h9; have h8 := hex8 h9; omega) (by first | omega | rfl | assumption) hP hD hS (lv_sub hl [1, 2, 3, 0] rfl)
  refine lv_iload_n hx hb dX6_feed_0 rfl (lv_at hl 2 rfl) ?_
  refine lv_iconst (v := 1) hx hb dX6_feed_1 (by decide) ?_
  refine lv_icmp_lt (tgt := 11) hx hb dX6_feed_2 (by decide) (fun cp2 => ?_) (fun cp2 => ?_)
  · refine lv_bipush (v := (-3)) hx hb dX6_feed_11 (by decide) ?_
    have hP9 : va_P (dC, dI) vwCl (xW xh tb xb xu rh th sh cI cJ cB cQ cV (nI tn) (nI bn) (nI un) bf wf rm ry rf (nI tl) (nI ta) ts so tv tpA sw st sf sq) s.heap := hP
    have hD9 : va_D A (xW xh tb xb xu rh th sh cI cJ cB cQ cV (nI tn) (nI bn) (nI un) bf wf rm ry rf (nI tl) (nI ta) ts so tv tpA sw st sf sq) := hD
    exact W.iret (v := (-3 : Int32)) hx hb hr (fun t ht hW => ⟨⟨(-3 : Int32), (tn, tpA), rfl, ⟨(show tn ≤ 800 from (by omega)), (show zFd tn nx ((-3 : Int32)) tn from (by exact Or.inl ⟨z_no1 cp2, rfl, rfl⟩))⟩, by rw [ht]; exact hP9, va_K.moved hW.alike hK, hD9⟩, hS.F ht⟩) hS.2.2 dX6_feed_13
  · refine lv_iload_n hx hb dX6_feed_5 rfl (lv_at hl 2 rfl) ?_
    refine lv_bipush (v := 8) hx hb dX6_feed_6 (by decide) ?_
    refine lv_icmp_le (tgt := 14) hx hb dX6_feed_8 (by decide) (fun cp8 => ?_) (fun cp8 => ?_)
    · obtain ⟨n8, hn81, hn82, rfl⟩ := z_n18 cp2 cp8
      refine lv_aload_n hx hb dX6_feed_14 rfl (lv_at hl 0 rfl) ?_
      refine va_get (D := (dC, dI)) (ci := 5) (v := .int (nI tn)) (C := RX6) (T := TX6) (N := 7) hx hb hts hiX6 hown hK hP 0 rfl rfl 1 (by decide) (hts (.fieldLink RX6 13 "LinkModels" "tapeLength" "I") (by decide +kernel)) (fun _ h9 => h9) rfl dX6_feed_15 ?_
      refine lv_iload_n hx hb dX6_feed_18 rfl (lv_at hl 2 rfl) ?_
      refine lv_iadd hx hb dX6_feed_19 ?_
      refine lv_topi (fun x9 ex9 => ?_)
      obtain rfl : x9 = nI (tn + n8) := by rw [ex9]; exact nI_add (tn) (n8)
      refine lv_sipush (v := 800) hx hb dX6_feed_20 (by decide) ?_
      refine lv_icmp_le (tgt := 29) hx hb dX6_feed_23 (by decide) (fun cp23 => ?_) (fun cp23 => ?_)
      · have qcp23 : (tn + n8) ≤ 800 := (nI_leI (a := tn + n8) (b := 800) (by omega) (by omega)).mp cp23
        refine lv_iload_n hx hb dX6_feed_29 rfl (lv_at hl 2 rfl) ?_
        refine lv_iconst (v := 1) hx hb dX6_feed_30 (by decide) ?_
        refine lv_isub hx hb dX6_feed_31 ?_
        refine lv_topi (fun x10 ex10 => ?_)
        have hdx10 : zM x10 (fun j => j + 1 = n8) := by rw [ex10]; exact z_decs (by omega)
        have hex10 : x10 = -1 → n8 = 0 := fun h9 => z_decs0 (by omega) (ex10.symm.trans h9)
        refine lv_istore (lv' := [(4, .int x10), (0, .ref xh), (1, .long ww), (3, .int (nI n8))]) hx hb dX6_feed_32 hl (by decide) rfl (fun ls hl => ?_)
        exact J34 _ n8 x10 tn tpA _ _ ls (Nat.lt_succ_self _) (zM.imp hdx10 (fun k hk hq => by first | exact hq | trivial | omega)) (by first | omega | rfl | assumption) (by first | omega | rfl | assumption) (by first | omega | rfl | assumption) (by intro h9; have h8 := hex10 h9; omega) (by first | omega | rfl | assumption) hP hD hS (lv_sub hl [1, 2, 3, 0] rfl)
      · have qcp23 : ¬ (tn + n8) ≤ 800 := fun h9 => cp23 ((nI_leI (a := tn + n8) (b := 800) (by omega) (by omega)).mpr h9)
        refine lv_bipush (v := (-5)) hx hb dX6_feed_26 (by decide) ?_
        have hP9 : va_P (dC, dI) vwCl (xW xh tb xb xu rh th sh cI cJ cB cQ cV (nI tn) (nI bn) (nI un) bf wf rm ry rf (nI tl) (nI ta) ts so tv tpA sw st sf sq) s.heap := hP
        have hD9 : va_D A (xW xh tb xb xu rh th sh cI cJ cB cQ cV (nI tn) (nI bn) (nI un) bf wf rm ry rf (nI tl) (nI ta) ts so tv tpA sw st sf sq) := hD
        exact W.iret (v := (-5 : Int32)) hx hb hr (fun t ht hW => ⟨⟨(-5 : Int32), (tn, tpA), rfl, ⟨(show tn ≤ 800 from (by omega)), (Or.inr ⟨n8, by omega, by omega, rfl, Or.inl ⟨by omega, rfl, rfl⟩⟩)⟩, by rw [ht]; exact hP9, va_K.moved hW.alike hK, hD9⟩, hS.F ht⟩) hS.2.2 dX6_feed_28
    · refine lv_bipush (v := (-3)) hx hb dX6_feed_11 (by decide) ?_
      have hP9 : va_P (dC, dI) vwCl (xW xh tb xb xu rh th sh cI cJ cB cQ cV (nI tn) (nI bn) (nI un) bf wf rm ry rf (nI tl) (nI ta) ts so tv tpA sw st sf sq) s.heap := hP
      have hD9 : va_D A (xW xh tb xb xu rh th sh cI cJ cB cQ cV (nI tn) (nI bn) (nI un) bf wf rm ry rf (nI tl) (nI ta) ts so tv tpA sw st sf sq) := hD
      exact W.iret (v := (-3 : Int32)) hx hb hr (fun t ht hW => ⟨⟨(-3 : Int32), (tn, tpA), rfl, ⟨(show tn ≤ 800 from (by omega)), (show zFd tn nx ((-3 : Int32)) tn from (by exact Or.inl ⟨z_no8 cp8, rfl, rfl⟩))⟩, by rw [ht]; exact hP9, va_K.moved hW.alike hK, hD9⟩, hS.F ht⟩) hS.2.2 dX6_feed_13
