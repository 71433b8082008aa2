theorem dX7_feed_0 : decode cX7_feed 0 = .ok (.aload_n 0, 1) := by decide +kernel
theorem dX7_feed_1 : decode cX7_feed 1 = .ok (.iconst 0, 1) := by decide +kernel
theorem dX7_feed_2 : decode cX7_feed 2 = .ok (.putfield 1, 3) := by decide +kernel
theorem dX7_feed_5 : decode cX7_feed 5 = .ok (.iload_n 3, 1) := by decide +kernel
theorem dX7_feed_6 : decode cX7_feed 6 = .ok (.i2l, 1) := by decide +kernel
theorem dX7_feed_7 : decode cX7_feed 7 = .ok (.lconst 1, 1) := by decide +kernel
theorem dX7_feed_8 : decode cX7_feed 8 = .ok (.ldc2_w 103, 3) := by decide +kernel
theorem dX7_feed_11 : decode cX7_feed 11 = .ok (.invokestatic 105, 3) := by decide +kernel
theorem dX7_feed_14 : decode cX7_feed 14 = .ok (.ifCond .ne 6, 3) := by decide +kernel
theorem dX7_feed_17 : decode cX7_feed 17 = .ok (.bipush (-3), 2) := by decide +kernel
theorem dX7_feed_19 : decode cX7_feed 19 = .ok (.ireturn, 1) := by decide +kernel
theorem dX7_feed_20 : decode cX7_feed 20 = .ok (.aload_n 0, 1) := by decide +kernel
theorem dX7_feed_21 : decode cX7_feed 21 = .ok (.getfield 109, 3) := by decide +kernel
theorem dX7_feed_24 : decode cX7_feed 24 = .ok (.iload_n 3, 1) := by decide +kernel
theorem dX7_feed_25 : decode cX7_feed 25 = .ok (.iadd, 1) := by decide +kernel
theorem dX7_feed_26 : decode cX7_feed 26 = .ok (.sipush 800, 3) := by decide +kernel
theorem dX7_feed_29 : decode cX7_feed 29 = .ok (.if_icmp .le 6, 3) := by decide +kernel
theorem dX7_feed_32 : decode cX7_feed 32 = .ok (.bipush (-5), 2) := by decide +kernel
theorem dX7_feed_34 : decode cX7_feed 34 = .ok (.ireturn, 1) := by decide +kernel
theorem dX7_feed_35 : decode cX7_feed 35 = .ok (.iload_n 3, 1) := by decide +kernel
theorem dX7_feed_36 : decode cX7_feed 36 = .ok (.iconst 1, 1) := by decide +kernel
theorem dX7_feed_37 : decode cX7_feed 37 = .ok (.isub, 1) := by decide +kernel
theorem dX7_feed_38 : decode cX7_feed 38 = .ok (.istore 4, 2) := by decide +kernel
theorem dX7_feed_40 : decode cX7_feed 40 = .ok (.iload 4, 2) := by decide +kernel
theorem dX7_feed_42 : decode cX7_feed 42 = .ok (.ifCond .lt 40, 3) := by decide +kernel
theorem dX7_feed_45 : decode cX7_feed 45 = .ok (.aload_n 0, 1) := by decide +kernel
theorem dX7_feed_46 : decode cX7_feed 46 = .ok (.getfield 13, 3) := by decide +kernel
theorem dX7_feed_49 : decode cX7_feed 49 = .ok (.aload_n 0, 1) := by decide +kernel
theorem dX7_feed_50 : decode cX7_feed 50 = .ok (.getfield 109, 3) := by decide +kernel
theorem dX7_feed_53 : decode cX7_feed 53 = .ok (.lload_n 1, 1) := by decide +kernel
theorem dX7_feed_54 : decode cX7_feed 54 = .ok (.bipush 8, 2) := by decide +kernel
theorem dX7_feed_56 : decode cX7_feed 56 = .ok (.iload 4, 2) := by decide +kernel
theorem dX7_feed_58 : decode cX7_feed 58 = .ok (.imul, 1) := by decide +kernel
theorem dX7_feed_59 : decode cX7_feed 59 = .ok (.lshr, 1) := by decide +kernel
theorem dX7_feed_60 : decode cX7_feed 60 = .ok (.ldc2_w 112, 3) := by decide +kernel
theorem dX7_feed_63 : decode cX7_feed 63 = .ok (.land, 1) := by decide +kernel
theorem dX7_feed_64 : decode cX7_feed 64 = .ok (.l2i, 1) := by decide +kernel
theorem dX7_feed_65 : decode cX7_feed 65 = .ok (.iastore, 1) := by decide +kernel
theorem dX7_feed_66 : decode cX7_feed 66 = .ok (.aload_n 0, 1) := by decide +kernel
theorem dX7_feed_67 : decode cX7_feed 67 = .ok (.dup, 1) := by decide +kernel
theorem dX7_feed_68 : decode cX7_feed 68 = .ok (.getfield 109, 3) := by decide +kernel
theorem dX7_feed_71 : decode cX7_feed 71 = .ok (.iconst 1, 1) := by decide +kernel
theorem dX7_feed_72 : decode cX7_feed 72 = .ok (.iadd, 1) := by decide +kernel
theorem dX7_feed_73 : decode cX7_feed 73 = .ok (.putfield 109, 3) := by decide +kernel
theorem dX7_feed_76 : decode cX7_feed 76 = .ok (.iinc 4 (-1), 3) := by decide +kernel
theorem dX7_feed_79 : decode cX7_feed 79 = .ok (.goto (-39), 3) := by decide +kernel
theorem dX7_feed_82 : decode cX7_feed 82 = .ok (.aload_n 0, 1) := by decide +kernel
theorem dX7_feed_83 : decode cX7_feed 83 = .ok (.getfield 109, 3) := by decide +kernel
theorem dX7_feed_86 : decode cX7_feed 86 = .ok (.ireturn, 1) := by decide +kernel
def zwX7_feed : List Cond := .code yX7_feed cX7_feed 5 (some .int) :: ([.fieldLink RX7 109 "LinkModelsModel" "taped" "I", .fieldLink RX7 13 "LinkModelsModel" "tape" "[I", .constantLong RX7 112 (255), .fieldLink RX7 1 "LinkModelsModel" "thrown" "I", .constantLong RX7 103 (8), .methodLink RX7 105 yX7_in, .static yX7_in, .initialized RX7, .code yX7_in cX7_in 6 (some .boolean)] ++ wsX70)
theorem zgX7_feed_X7_in_105 : GoodIn zwX7_feed (va_wsS RX7 105 yX7_in zwX7_in) := goodIn_app (goodIn_r _ [6, 7, 8] rfl (by decide +kernel)) (goodIn_r _ [9] rfl (by decide +kernel))
set_option maxHeartbeats 4000000 in
set_option maxRecDepth 100000 in
theorem kX7_feed (l : Launch) (dC : Nat → ClassId) (dI : Nat → Nat → Nat) (h0 : Nat) (r : Nat → Nat) (cI : ClassId) (cJ : ClassId) (cZ : ClassId) (v0 : Int32) (a1 : Nat → Int32) (tp : Nat) (bs : Nat) (cl : Nat → Nat) (a5 : Nat → Int32) (a6 : Nat → Int32) (a7 : Nat → Int32) (fc : Nat → Nat) (a9 : Nat → Int32) (mb : Nat → Nat) (a11 : Nat → Int32) (a12 : Nat → Int32) (a13 : Nat → Int64) (a14 : Nat → Int32) (a15 : Nat → Int32) (a16 : Nat → Int32) (a17 : Nat → Int32) (a18 : Nat → Int32) (a19 : Nat → Int32) (a20 : Nat → Int32) (az : Nat) (v22 : Int32) (v23 : Int32) (v24 : Int64) (v25 : Int32) (v26 : Int32) (bb : Nat) (ct : Nat → Nat) (us : Nat) (a30 : Nat → Int32) (a31 : Nat → Int32) (a32 : Nat → Int32) (a33 : Nat → Int64) (a34 : Nat → Int32) (a35 : Nat → Int32) (a36 : Nat → Int32) (a37 : Nat → Int32) (pil : Nat → Nat) (rwv : Nat → Nat) (rl : Nat) (v41 : Int32) (v42 : Int32) (v43 : Int32) (v44 : Int32) (v45 : Int32) (hI : rWI tp bs cl fc mb az bb ct us pil rwv rl) (ww : Int64) (nx : Int32) (sz : Nat) : Met l yX7_feed zwX7_feed ({ frames := 1, cells := 0, slots := 0, locals := 25 }) (zPm dC dI [.ref h0, .long ww, .int nx] sz (rW h0 r cI cJ cZ v0 a1 (nI tp) (nI bs) (fun j => nI (cl j)) a5 a6 a7 (fun j => nI (fc j)) a9 (fun j => nI (mb j)) a11 a12 a13 a14 a15 a16 a17 a18 a19 a20 (nI az) v22 v23 v24 v25 v26 (nI bb) (fun j => nI (ct j)) (nI us) a30 a31 a32 a33 a34 a35 a36 a37 (fun j => nI (pil j)) (fun j => nI (rwv j)) (nI rl) v41 v42 v43 v44 v45) [(cI, .int), (cJ, .long), (cZ, .boolean)]) (va_Qi (fun (r : Int32) (u : Int32 × Nat × (Nat → Int32)) => ((u.2.1) ≤ 800) ∧ (((¬ ∃ nn, 1 ≤ nn ∧ nn ≤ 8 ∧ nx = nI nn) ∧ r = -3 ∧ (u.2.1) = tp) ∨ ∃ nn, 1 ≤ nn ∧ nn ≤ 8 ∧ nx = nI nn ∧ ((800 < tp + nn ∧ r = -5 ∧ (u.2.1) = tp) ∨ (tp + nn ≤ 800 ∧ r = nI (tp + nn) ∧ (u.2.1) = tp + nn)))) (fun u t => zB dC dI (va_A (rW h0 r cI cJ cZ v0 a1 (nI tp) (nI bs) (fun j => nI (cl j)) a5 a6 a7 (fun j => nI (fc j)) a9 (fun j => nI (mb j)) a11 a12 a13 a14 a15 a16 a17 a18 a19 a20 (nI az) v22 v23 v24 v25 v26 (nI bb) (fun j => nI (ct j)) (nI us) a30 a31 a32 a33 a34 a35 a36 a37 (fun j => nI (pil j)) (fun j => nI (rwv j)) (nI rl) v41 v42 v43 v44 v45) sz) (rW h0 r cI cJ cZ (u.1) (u.2.2) (nI (u.2.1)) (nI bs) (fun j => nI (cl j)) a5 a6 a7 (fun j => nI (fc j)) a9 (fun j => nI (mb j)) a11 a12 a13 a14 a15 a16 a17 a18 a19 a20 (nI az) v22 v23 v24 v25 v26 (nI bb) (fun j => nI (ct j)) (nI us) a30 a31 a32 a33 a34 a35 a36 a37 (fun j => nI (pil j)) (fun j => nI (rwv j)) (nI rl) v41 v42 v43 v44 v45) [(cI, .int), (cJ, .long), (cZ, .boolean)] t) (va_A (rW h0 r cI cJ cZ v0 a1 (nI tp) (nI bs) (fun j => nI (cl j)) a5 a6 a7 (fun j => nI (fc j)) a9 (fun j => nI (mb j)) a11 a12 a13 a14 a15 a16 a17 a18 a19 a20 (nI az) v22 v23 v24 v25 v26 (nI bb) (fun j => nI (ct j)) (nI us) a30 a31 a32 a33 a34 a35 a36 a37 (fun j => nI (pil j)) (fun j => nI (rwv j)) (nI rl) v41 v42 v43 v44 v45) sz)) 0 0 (va_A (rW h0 r cI cJ cZ v0 a1 (nI tp) (nI bs) (fun j => nI (cl j)) a5 a6 a7 (fun j => nI (fc j)) a9 (fun j => nI (mb j)) a11 a12 a13 a14 a15 a16 a17 a18 a19 a20 (nI az) v22 v23 v24 v25 v26 (nI bb) (fun j => nI (ct j)) (nI us) a30 a31 a32 a33 a34 a35 a36 a37 (fun j => nI (pil j)) (fun j => nI (rwv j)) (nI rl) v41 v42 v43 v44 v45) sz) := by
  refine Met.ofW (cc := cX7_feed) (maxL := 5) (ret := (some .int)) (by decide) rfl ?_
  intro p e s m args below meth c s₁ B hml hv
  obtain ⟨rfl, hsz, hP, hK, hD0, hL0⟩ := hv
  have hx := B.exec
  have hb := B.bytes
  have hr := B.returns
  have hts := atoms_spec (ws := zwX7_feed) B.pre
  have hown : s.vm.findClass RX7 = some m.cls := findClass_of_methodNamed B.named
  have hiX7 : ∀ w ∈ wsX70, w ∈ zwX7_feed := (fun _ h => List.mem_cons_of_mem _ (List.mem_append_right _ h))
  obtain ⟨htp, hbs, hus, hcl, hfc, hmb, hct, hpil, hrwv⟩ := hI
  subst hsz
  have hD := hD0.self (sz := s.heap.size)
  generalize hAe : va_A (rW h0 r cI cJ cZ v0 a1 (nI tp) (nI bs) (fun j => nI (cl j)) a5 a6 a7 (fun j => nI (fc j)) a9 (fun j => nI (mb j)) a11 a12 a13 a14 a15 a16 a17 a18 a19 a20 (nI az) v22 v23 v24 v25 v26 (nI bb) (fun j => nI (ct j)) (nI us) a30 a31 a32 a33 a34 a35 a36 a37 (fun j => nI (pil j)) (fun j => nI (rwv j)) (nI rl) v41 v42 v43 v44 v45) s.heap.size = A at hD hL0 ⊢
  have hA : ∀ q : Nat, s.heap.size ≤ q → A q := fun q h => by rw [← hAe]; exact Or.inr h
  have hS : va_S A s.heap s.heap [] := va_S.rf
  have hL := hL0
  have hl := lv_entry ([.ref h0, .long ww, .int nx]) (n := 5) (Nat.le_of_ble_eq_true rfl)
  rw [lg_entry_eq]
  generalize (lg_sl ([.ref h0, .long ww, .int nx]) ++ List.replicate (5 - (lg_sl ([.ref h0, .long ww, .int nx])).length) Slot.unset).toArray = ls at hl ⊢
  have hl : lv_has ls 5 [(0, .ref h0), (1, .long ww), (3, .int nx)] := hl
  have J40 : ∀ (z40 : Nat) (n8 : Nat) (k4 : Int32) (th : Int32) (tp2 : Nat) (t2 : Nat → Int32) (H : Heap) (locs : List Loc) (ls : Array Slot), tp + n8 - tp2 < z40 → (zM k4 (fun k => k < 8 ∧ tp2 + k + 1 = tp + n8)) → (tp + n8 ≤ 800) → (1 ≤ n8 ∧ n8 ≤ 8) → (nx = nI n8) → (k4 = -1 → tp2 = tp + n8) → (tp2 ≤ tp + n8) → va_P (dC, dI) vwCl (rW h0 r cI cJ cZ th t2 (nI tp2) (nI bs) (fun j => nI (cl j)) a5 a6 a7 (fun j => nI (fc j)) a9 (fun j => nI (mb j)) a11 a12 a13 a14 a15 a16 a17 a18 a19 a20 (nI az) v22 v23 v24 v25 v26 (nI bb) (fun j => nI (ct j)) (nI us) a30 a31 a32 a33 a34 a35 a36 a37 (fun j => nI (pil j)) (fun j => nI (rwv j)) (nI rl) v41 v42 v43 v44 v45) H → va_D A (rW h0 r cI cJ cZ th t2 (nI tp2) (nI bs) (fun j => nI (cl j)) a5 a6 a7 (fun j => nI (fc j)) a9 (fun j => nI (mb j)) a11 a12 a13 a14 a15 a16 a17 a18 a19 a20 (nI az) v22 v23 v24 v25 v26 (nI bb) (fun j => nI (ct j)) (nI us) a30 a31 a32 a33 a34 a35 a36 a37 (fun j => nI (pil j)) (fun j => nI (rwv j)) (nI rl) v41 v42 v43 v44 v45) → va_S A s.heap H locs → lv_has ls 5 [(0, .ref h0), (1, .long ww), (3, .int (nI n8)), (4, .int k4)] → W p l e (headSpec zwX7_feed { frames := 1, cells := 0, slots := 0, locals := 25 }).room s m (([.ref h0, .long ww, .int nx] : List Value).toArray) below meth c H locs 0 0 (MQ below (va_Qi (fun (r : Int32) (u : Int32 × Nat × (Nat → Int32)) => ((u.2.1) ≤ 800) ∧ (((¬ ∃ nn, 1 ≤ nn ∧ nn ≤ 8 ∧ nx = nI nn) ∧ r = -3 ∧ (u.2.1) = tp) ∨ ∃ nn, 1 ≤ nn ∧ nn ≤ 8 ∧ nx = nI nn ∧ ((800 < tp + nn ∧ r = -5 ∧ (u.2.1) = tp) ∨ (tp + nn ≤ 800 ∧ r = nI (tp + nn) ∧ (u.2.1) = tp + nn)))) (fun u t => zB dC dI (A) (rW h0 r cI cJ cZ (u.1) (u.2.2) (nI (u.2.1)) (nI bs) (fun j => nI (cl j)) a5 a6 a7 (fun j => nI (fc j)) a9 (fun j => nI (mb j)) a11 a12 a13 a14 a15 a16 a17 a18 a19 a20 (nI az) v22 v23 v24 v25 v26 (nI bb) (fun j => nI (ct j)) (nI us) a30 a31 a32 a33 a34 a35 a36 a37 (fun j => nI (pil j)) (fun j => nI (rwv j)) (nI rl) v41 v42 v43 v44 v45) [(cI, .int), (cJ, .long), (cZ, .boolean)] t) (A)) (([.ref h0, .long ww, .int nx] : List Value).toArray) s 0 0 A) (F0 m 40 ls []) := by
    intro z40
    induction z40 with
    | zero => intro n8 k4 th tp2 t2 H locs ls h9; exact absurd h9 (Nat.not_lt_zero _)
    | succ z40 ih40 =>
      intro n8 k4 th tp2 t2 H locs ls hm40 hm40_k4 i40_0 i40_1 i40_2 i40_3 i40_4 hP hD hS hl
      refine lv_iload hx hb dX7_feed_40 (lv_at hl 3 rfl) ?_
      refine lv_if_lt (tgt := 82) hx hb dX7_feed_42 (by decide) (fun cp42 => ?_) (fun cp42 => ?_)
      · obtain rfl : k4 = -1 := zM.neg hm40_k4 cp42
        refine lv_aload_n hx hb dX7_feed_82 rfl (lv_at hl 0 rfl) ?_
        refine va_get (D := (dC, dI)) (ci := 6) (v := .int (nI tp2)) (C := RX7) (T := TX7) (N := 46) hx hb hts hiX7 hown hK hP 0 rfl rfl 2 (by decide) (hts (.fieldLink RX7 109 "LinkModelsModel" "taped" "I") (by decide +kernel)) (fun _ h9 => h9) rfl dX7_feed_83 ?_
        have hP9 : va_P (dC, dI) vwCl (rW h0 r cI cJ cZ th t2 (nI tp2) (nI bs) (fun j => nI (cl j)) a5 a6 a7 (fun j => nI (fc j)) a9 (fun j => nI (mb j)) a11 a12 a13 a14 a15 a16 a17 a18 a19 a20 (nI az) v22 v23 v24 v25 v26 (nI bb) (fun j => nI (ct j)) (nI us) a30 a31 a32 a33 a34 a35 a36 a37 (fun j => nI (pil j)) (fun j => nI (rwv j)) (nI rl) v41 v42 v43 v44 v45) H := hP
        have hD9 : va_D A (rW h0 r cI cJ cZ th t2 (nI tp2) (nI bs) (fun j => nI (cl j)) a5 a6 a7 (fun j => nI (fc j)) a9 (fun j => nI (mb j)) a11 a12 a13 a14 a15 a16 a17 a18 a19 a20 (nI az) v22 v23 v24 v25 v26 (nI bb) (fun j => nI (ct j)) (nI us) a30 a31 a32 a33 a34 a35 a36 a37 (fun j => nI (pil j)) (fun j => nI (rwv j)) (nI rl) v41 v42 v43 v44 v45) := hD
        exact W.iret (v := (nI tp2)) hx hb hr (fun t ht hW => ⟨⟨(nI tp2), (th, tp2, t2), rfl, ⟨(by show tp2 ≤ 800; omega), (by exact Or.inr ⟨n8, by omega, by omega, by assumption, Or.inr ⟨by omega, by rw [i40_3 rfl], i40_3 rfl⟩⟩)⟩, by rw [ht]; exact hP9, va_K.moved hW.alike hK, hD9⟩, hS.F ht⟩) hS.2.2 dX7_feed_86
      · obtain ⟨k1, hBk1, hQk1, rfl⟩ := zM.pos hm40_k4 cp42
        refine lv_aload_n hx hb dX7_feed_45 rfl (lv_at hl 0 rfl) ?_
        refine va_get (D := (dC, dI)) (ci := 6) (v := .ref (r 1)) (C := RX7) (T := TX7) (N := 46) hx hb hts hiX7 hown hK hP 0 rfl rfl 1 (by decide) (hts (.fieldLink RX7 13 "LinkModelsModel" "tape" "[I") (by decide +kernel)) (fun _ h9 => h9) rfl dX7_feed_46 ?_
        refine lv_aload_n hx hb dX7_feed_49 rfl (lv_at hl 0 rfl) ?_
        refine va_get (D := (dC, dI)) (ci := 6) (v := .int (nI tp2)) (C := RX7) (T := TX7) (N := 46) hx hb hts hiX7 hown hK hP 0 rfl rfl 2 (by decide) (hts (.fieldLink RX7 109 "LinkModelsModel" "taped" "I") (by decide +kernel)) (fun _ h9 => h9) rfl dX7_feed_50 ?_
        refine lv_lload_n hx hb dX7_feed_53 rfl (lv_at hl 1 rfl) ?_
        refine lv_bipush (v := 8) hx hb dX7_feed_54 (by decide) ?_
        refine lv_iload hx hb dX7_feed_56 (lv_at hl 3 rfl) ?_
        refine lv_imul hx hb dX7_feed_58 ?_
        refine lv_topi (fun x2 ex2 => ?_)
        obtain rfl : x2 = nI (8 * k1) := by rw [ex2]; exact pk_mul (8) (k1)
        refine lv_lshr hx hb dX7_feed_59 rfl ?_
        refine lv_topl (fun x3 ex3 => ?_)
        refine lv_ldc2 (v := 255) hx hb hown (hts (.constantLong RX7 112 (255)) (by decide +kernel)) dX7_feed_60 ?_
        refine lv_land hx hb dX7_feed_63 ?_
        refine lv_topl (fun x4 ex4 => ?_)
        refine lv_l2i hx hb dX7_feed_64 rfl ?_
        refine lv_topi (fun x5 ex5 => ?_)
        refine va_iast hx hb hK hP hD hS 1 0 rfl rfl (vp_in_nI (show tp2 < 800 by omega) (by decide)) dX7_feed_65 (fun H locs hP hD hS => ?_)
        obtain ⟨f6, hP, hD⟩ : ∃ g : Nat → Int32, va_P (dC, dI) vwCl (rW h0 r cI cJ cZ th g (nI tp2) (nI bs) (fun j => nI (cl j)) a5 a6 a7 (fun j => nI (fc j)) a9 (fun j => nI (mb j)) a11 a12 a13 a14 a15 a16 a17 a18 a19 a20 (nI az) v22 v23 v24 v25 v26 (nI bb) (fun j => nI (ct j)) (nI us) a30 a31 a32 a33 a34 a35 a36 a37 (fun j => nI (pil j)) (fun j => nI (rwv j)) (nI rl) v41 v42 v43 v44 v45) H ∧ va_D A (rW h0 r cI cJ cZ th g (nI tp2) (nI bs) (fun j => nI (cl j)) a5 a6 a7 (fun j => nI (fc j)) a9 (fun j => nI (mb j)) a11 a12 a13 a14 a15 a16 a17 a18 a19 a20 (nI az) v22 v23 v24 v25 v26 (nI bb) (fun j => nI (ct j)) (nI us) a30 a31 a32 a33 a34 a35 a36 a37 (fun j => nI (pil j)) (fun j => nI (rwv j)) (nI rl) v41 v42 v43 v44 v45) := ⟨_, hP, hD⟩
        refine lv_aload_n hx hb dX7_feed_66 rfl (lv_at hl 0 rfl) ?_
        refine lv_dup hx hb dX7_feed_67 rfl ?_
        refine va_get (D := (dC, dI)) (ci := 6) (v := .int (nI tp2)) (C := RX7) (T := TX7) (N := 46) hx hb hts hiX7 hown hK hP 0 rfl rfl 2 (by decide) (hts (.fieldLink RX7 109 "LinkModelsModel" "taped" "I") (by decide +kernel)) (fun _ h9 => h9) rfl dX7_feed_68 ?_
        refine lv_iconst (v := 1) hx hb dX7_feed_71 (by decide) ?_
        refine lv_iadd hx hb dX7_feed_72 ?_
        refine lv_topi (fun x7 ex7 => ?_)
        obtain rfl : x7 = nI (tp2 + 1) := by rw [ex7]; exact nI_add (tp2) (1)
        refine va_put (D := (dC, dI)) (ci := 6) (v := .int (nI (tp2 + 1))) (ty := (.int)) (C := RX7) (T := TX7) (N := 46) hx hb hts hiX7 tyX7 tyX7_ok nmX7 hown hK hP hD hS 0 rfl rfl 2 (by decide) (hts (.fieldLink RX7 109 "LinkModelsModel" "taped" "I") (by decide +kernel)) (fun _ h9 => h9) rfl (by decide +kernel) rfl rfl (Nat.le_of_ble_eq_true rfl) dX7_feed_73 (fun H locs hP hD hS => ?_)
        have hP : va_P (dC, dI) vwCl (rW h0 r cI cJ cZ th f6 (nI (tp2 + 1)) (nI bs) (fun j => nI (cl j)) a5 a6 a7 (fun j => nI (fc j)) a9 (fun j => nI (mb j)) a11 a12 a13 a14 a15 a16 a17 a18 a19 a20 (nI az) v22 v23 v24 v25 v26 (nI bb) (fun j => nI (ct j)) (nI us) a30 a31 a32 a33 a34 a35 a36 a37 (fun j => nI (pil j)) (fun j => nI (rwv j)) (nI rl) v41 v42 v43 v44 v45) H := hP
        have hD : va_D A (rW h0 r cI cJ cZ th f6 (nI (tp2 + 1)) (nI bs) (fun j => nI (cl j)) a5 a6 a7 (fun j => nI (fc j)) a9 (fun j => nI (mb j)) a11 a12 a13 a14 a15 a16 a17 a18 a19 a20 (nI az) v22 v23 v24 v25 v26 (nI bb) (fun j => nI (ct j)) (nI us) a30 a31 a32 a33 a34 a35 a36 a37 (fun j => nI (pil j)) (fun j => nI (rwv j)) (nI rl) v41 v42 v43 v44 v45) := hD
        obtain ⟨x8, ex8⟩ : ∃ y : Int32, y = (nI k1) + (-1) := ⟨_, rfl⟩
        refine lv_iinc (v := x8) (lv' := [(4, .int x8), (0, .ref h0), (1, .long ww), (3, .int (nI n8))]) hx hb dX7_feed_76 hl (k := 3) rfl (by rw [ex8]; rfl) (by decide) rfl (fun ls hl => ?_)
        have hdx8 : zM x8 (fun j => j + 1 = k1) := by rw [ex8]; exact z_dec (by omega)
        have hex8 : x8 = -1 → k1 = 0 := fun h9 => z_dec0 (by omega) (ex8.symm.trans h9)
        refine lv_goto (tgt := 40) hx hb dX7_feed_79 (by decide) ?_
        exact ih40 n8 x8 th (tp2 + 1) f6 _ _ ls (by omega) (zM.imp hdx8 (fun k hk hq => by first | exact hq | trivial | omega)) (by first | omega | rfl | assumption) (by first | omega | rfl | assumption) (by first | omega | rfl | assumption) (by intro h9; have h8 := hex8 h9; omega) (by first | omega | rfl | assumption) hP hD hS (lv_sub hl [1, 2, 3, 0] rfl)
  refine lv_aload_n hx hb dX7_feed_0 rfl (lv_at hl 0 rfl) ?_
  refine lv_iconst (v := 0) hx hb dX7_feed_1 (by decide) ?_
  refine va_put (D := (dC, dI)) (ci := 6) (v := .int 0) (ty := (.int)) (C := RX7) (T := TX7) (N := 46) hx hb hts hiX7 tyX7 tyX7_ok nmX7 hown hK hP hD hS 0 rfl rfl 0 (by decide) (hts (.fieldLink RX7 1 "LinkModelsModel" "thrown" "I") (by decide +kernel)) (fun _ h9 => h9) rfl (by decide +kernel) rfl rfl (Nat.le_of_ble_eq_true rfl) dX7_feed_2 (fun H locs hP hD hS => ?_)
  have hP : va_P (dC, dI) vwCl (rW h0 r cI cJ cZ 0 a1 (nI tp) (nI bs) (fun j => nI (cl j)) a5 a6 a7 (fun j => nI (fc j)) a9 (fun j => nI (mb j)) a11 a12 a13 a14 a15 a16 a17 a18 a19 a20 (nI az) v22 v23 v24 v25 v26 (nI bb) (fun j => nI (ct j)) (nI us) a30 a31 a32 a33 a34 a35 a36 a37 (fun j => nI (pil j)) (fun j => nI (rwv j)) (nI rl) v41 v42 v43 v44 v45) H := hP
  have hD : va_D A (rW h0 r cI cJ cZ 0 a1 (nI tp) (nI bs) (fun j => nI (cl j)) a5 a6 a7 (fun j => nI (fc j)) a9 (fun j => nI (mb j)) a11 a12 a13 a14 a15 a16 a17 a18 a19 a20 (nI az) v22 v23 v24 v25 v26 (nI bb) (fun j => nI (ct j)) (nI us) a30 a31 a32 a33 a34 a35 a36 a37 (fun j => nI (pil j)) (fun j => nI (rwv j)) (nI rl) v41 v42 v43 v44 v45) := hD
  refine lv_iload_n hx hb dX7_feed_5 rfl (lv_at hl 2 rfl) ?_
  refine lv_i2l hx hb dX7_feed_6 rfl ?_
  refine lv_topl (fun x9 ex9 => ?_)
  refine lv_lconst (v := 1) hx hb dX7_feed_7 (by decide) ?_
  refine lv_ldc2 (v := 8) hx hb hown (hts (.constantLong RX7 103 (8)) (by decide +kernel)) dX7_feed_8 ?_
  refine vp_callSi (W.runS (As := [.long x9, .long 1, .long 8]) (rest := []) ⟨hx, hb, hml, hown, hts⟩ (kX7_in l dC dI x9 (1 : Int64) (8 : Int64)) (va_cwS 3 hts zgX7_feed_X7_in_105 rfl rfl rfl (by decide +kernel) ⟨(show 0 + 1 ≤ 1 by omega), (show 8 + (6 + 11) + 0 ≤ 25 by omega)⟩) (zSr (ws := []) (tys := []) (hK.sub (tys' := []) [] rfl) (hP.sub (ws' := []) [] rfl)) rfl rfl hl.1 rfl (lv_room (Nat.le_of_ble_eq_true rfl)) dX7_feed_11 ⟨(show 0 + 0 ≤ 0 by omega), (show 0 + 0 ≤ 0 by omega)⟩) (fun r10 hw => ?_)
  have w0r10 : r10 = if (((1 : Int64)) ≤ x9 ∧ x9 ≤ ((8 : Int64))) then 1 else 0 := hw
  have wzr10 := z_if01 w0r10
  refine lv_if_ne (tgt := 20) hx hb dX7_feed_14 (by decide) (fun cp14 => ?_) (fun cp14 => ?_)
  · obtain ⟨n8, hn81, hn82, rfl⟩ := z_inLH 1 8 (by decide) (by decide) (by decide) ex9 (z_if1 w0r10 (wzr10.resolve_left cp14))
    refine lv_aload_n hx hb dX7_feed_20 rfl (lv_at hl 0 rfl) ?_
    refine va_get (D := (dC, dI)) (ci := 6) (v := .int (nI tp)) (C := RX7) (T := TX7) (N := 46) hx hb hts hiX7 hown hK hP 0 rfl rfl 2 (by decide) (hts (.fieldLink RX7 109 "LinkModelsModel" "taped" "I") (by decide +kernel)) (fun _ h9 => h9) rfl dX7_feed_21 ?_
    refine lv_iload_n hx hb dX7_feed_24 rfl (lv_at hl 2 rfl) ?_
    refine lv_iadd hx hb dX7_feed_25 ?_
    refine lv_topi (fun x11 ex11 => ?_)
    obtain rfl : x11 = nI (tp + n8) := by rw [ex11]; exact nI_add (tp) (n8)
    refine lv_sipush (v := 800) hx hb dX7_feed_26 (by decide) ?_
    refine lv_icmp_le (tgt := 35) hx hb dX7_feed_29 (by decide) (fun cp29 => ?_) (fun cp29 => ?_)
    · have qcp29 : (tp + n8) ≤ 800 := (nI_leI (a := tp + n8) (b := 800) (by omega) (by omega)).mp cp29
      refine lv_iload_n hx hb dX7_feed_35 rfl (lv_at hl 2 rfl) ?_
      refine lv_iconst (v := 1) hx hb dX7_feed_36 (by decide) ?_
      refine lv_isub hx hb dX7_feed_37 ?_
      refine lv_topi (fun x12 ex12 => ?_)
      have hdx12 : zM x12 (fun j => j + 1 = n8) := by rw [ex12]; exact z_decs (by omega)
      have hex12 : x12 = -1 → n8 = 0 := fun h9 => z_decs0 (by omega) (ex12.symm.trans h9)
      refine lv_istore (lv' := [(4, .int x12), (0, .ref h0), (1, .long ww), (3, .int (nI n8))]) hx hb dX7_feed_38 hl (by decide) rfl (fun ls hl => ?_)
      exact J40 _ n8 x12 0 tp a1 _ _ ls (Nat.lt_succ_self _) (zM.imp hdx12 (fun k hk hq => by first | exact hq | trivial | omega)) (by first | omega | rfl | assumption) (by first | omega | rfl | assumption) (by first | omega | rfl | assumption) (by intro h9; have h8 := hex12 h9; omega) (by first | omega | rfl | assumption) hP hD hS (lv_sub hl [1, 2, 3, 0] rfl)
    · have qcp29 : ¬ (tp + n8) ≤ 800 := fun h9 => cp29 ((nI_leI (a := tp + n8) (b := 800) (by omega) (by omega)).mpr h9)
      refine lv_bipush (v := (-5)) hx hb dX7_feed_32 (by decide) ?_
      have hP9 : va_P (dC, dI) vwCl (rW h0 r cI cJ cZ 0 a1 (nI tp) (nI bs) (fun j => nI (cl j)) a5 a6 a7 (fun j => nI (fc j)) a9 (fun j => nI (mb j)) a11 a12 a13 a14 a15 a16 a17 a18 a19 a20 (nI az) v22 v23 v24 v25 v26 (nI bb) (fun j => nI (ct j)) (nI us) a30 a31 a32 a33 a34 a35 a36 a37 (fun j => nI (pil j)) (fun j => nI (rwv j)) (nI rl) v41 v42 v43 v44 v45) H := hP
      have hD9 : va_D A (rW h0 r cI cJ cZ 0 a1 (nI tp) (nI bs) (fun j => nI (cl j)) a5 a6 a7 (fun j => nI (fc j)) a9 (fun j => nI (mb j)) a11 a12 a13 a14 a15 a16 a17 a18 a19 a20 (nI az) v22 v23 v24 v25 v26 (nI bb) (fun j => nI (ct j)) (nI us) a30 a31 a32 a33 a34 a35 a36 a37 (fun j => nI (pil j)) (fun j => nI (rwv j)) (nI rl) v41 v42 v43 v44 v45) := hD
      exact W.iret (v := (-5 : Int32)) hx hb hr (fun t ht hW => ⟨⟨(-5 : Int32), (0, tp, a1), rfl, ⟨(by omega), (by exact Or.inr ⟨n8, by omega, by omega, rfl, Or.inl ⟨by omega, rfl, rfl⟩⟩)⟩, by rw [ht]; exact hP9, va_K.moved hW.alike hK, hD9⟩, hS.F ht⟩) hS.2.2 dX7_feed_34
  · refine lv_bipush (v := (-3)) hx hb dX7_feed_17 (by decide) ?_
    have hP9 : va_P (dC, dI) vwCl (rW h0 r cI cJ cZ 0 a1 (nI tp) (nI bs) (fun j => nI (cl j)) a5 a6 a7 (fun j => nI (fc j)) a9 (fun j => nI (mb j)) a11 a12 a13 a14 a15 a16 a17 a18 a19 a20 (nI az) v22 v23 v24 v25 v26 (nI bb) (fun j => nI (ct j)) (nI us) a30 a31 a32 a33 a34 a35 a36 a37 (fun j => nI (pil j)) (fun j => nI (rwv j)) (nI rl) v41 v42 v43 v44 v45) H := hP
    have hD9 : va_D A (rW h0 r cI cJ cZ 0 a1 (nI tp) (nI bs) (fun j => nI (cl j)) a5 a6 a7 (fun j => nI (fc j)) a9 (fun j => nI (mb j)) a11 a12 a13 a14 a15 a16 a17 a18 a19 a20 (nI az) v22 v23 v24 v25 v26 (nI bb) (fun j => nI (ct j)) (nI us) a30 a31 a32 a33 a34 a35 a36 a37 (fun j => nI (pil j)) (fun j => nI (rwv j)) (nI rl) v41 v42 v43 v44 v45) := hD
    exact W.iret (v := (-3 : Int32)) hx hb hr (fun t ht hW => ⟨⟨(-3 : Int32), (0, tp, a1), rfl, ⟨(by omega), (by exact Or.inl ⟨z_inno 1 8 (by decide) (by decide) (by decide) ex9 w0r10 cp14, rfl, rfl⟩)⟩, by rw [ht]; exact hP9, va_K.moved hW.alike hK, hD9⟩, hS.F ht⟩) hS.2.2 dX7_feed_19
theorem dX7_defined_0 : decode cX7_defined 0 = .ok (.aload_n 0, 1) := by decide +kernel
theorem dX7_defined_1 : decode cX7_defined 1 = .ok (.iconst 0, 1) := by decide +kernel
theorem dX7_defined_2 : decode cX7_defined 2 = .ok (.putfield 1, 3) := by decide +kernel
theorem dX7_defined_5 : decode cX7_defined 5 = .ok (.aload_n 0, 1) := by decide +kernel
theorem dX7_defined_6 : decode cX7_defined 6 = .ok (.iload_n 1, 1) := by decide +kernel
theorem dX7_defined_7 : decode cX7_defined 7 = .ok (.invokevirtual 248, 3) := by decide +kernel
theorem dX7_defined_10 : decode cX7_defined 10 = .ok (.ifCond .ne 6, 3) := by decide +kernel
theorem dX7_defined_13 : decode cX7_defined 13 = .ok (.bipush (-2), 2) := by decide +kernel
theorem dX7_defined_15 : decode cX7_defined 15 = .ok (.ireturn, 1) := by decide +kernel
theorem dX7_defined_16 : decode cX7_defined 16 = .ok (.aload_n 0, 1) := by decide +kernel
theorem dX7_defined_17 : decode cX7_defined 17 = .ok (.iload_n 1, 1) := by decide +kernel
theorem dX7_defined_18 : decode cX7_defined 18 = .ok (.iload_n 2, 1) := by decide +kernel
theorem dX7_defined_19 : decode cX7_defined 19 = .ok (.invokevirtual 251, 3) := by decide +kernel
theorem dX7_defined_22 : decode cX7_defined 22 = .ok (.istore_n 3, 1) := by decide +kernel
theorem dX7_defined_23 : decode cX7_defined 23 = .ok (.iload_n 3, 1) := by decide +kernel
theorem dX7_defined_24 : decode cX7_defined 24 = .ok (.ifCond .le 10, 3) := by decide +kernel
theorem dX7_defined_27 : decode cX7_defined 27 = .ok (.bipush (-10), 2) := by decide +kernel
theorem dX7_defined_29 : decode cX7_defined 29 = .ok (.iload_n 3, 1) := by decide +kernel
theorem dX7_defined_30 : decode cX7_defined 30 = .ok (.isub, 1) := by decide +kernel
theorem dX7_defined_31 : decode cX7_defined 31 = .ok (.goto 4, 3) := by decide +kernel
theorem dX7_defined_34 : decode cX7_defined 34 = .ok (.iconst 1, 1) := by decide +kernel
theorem dX7_defined_35 : decode cX7_defined 35 = .ok (.ireturn, 1) := by decide +kernel
def zwX7_defined : List Cond := .code yX7_defined cX7_defined 4 (some .int) :: ([.fieldLink RX7 1 "LinkModelsModel" "thrown" "I", .methodLink RX7 248 yX7_isBuild, .instanceMethod yX7_isBuild, .selects RX7 yX7_isBuild yX7_isBuild, .initialized RX7, .code yX7_isBuild cX7_isBuild 2 (some .boolean), .fieldLink RX7 232 "LinkModelsModel" "builds" "I", .methodLink RX7 105 yX7_in, .static yX7_in, .code yX7_in cX7_in 6 (some .boolean), .methodLink RX7 251 yX7_errorOf, .instanceMethod yX7_errorOf, .selects RX7 yX7_errorOf yX7_errorOf, .code yX7_errorOf cX7_errorOf 4 (some .int), .fieldLink RX7 38 "LinkModelsModel" "error" "[I", .methodLink RX7 201 yX7_place, .instanceMethod yX7_place, .selects RX7 yX7_place yX7_place, .code yX7_place cX7_place 4 (some .int), .fieldLink RX7 17 "LinkModelsModel" "classes" "[I", .fieldLink RX7 20 "LinkModelsModel" "className" "[I"] ++ wsX70)
theorem zgX7_defined_X7_isBuild_248 : GoodIn zwX7_defined (wsV RX7 248 RX7 yX7_isBuild zwX7_isBuild) := goodIn_app (goodIn_r _ [2, 3, 4, 5] rfl (by decide +kernel)) (goodIn_ca (goodIn_r _ [6, 7, 8, 9, 5, 10] rfl (by decide +kernel)) (zgt zg7))
theorem zgX7_defined_X7_errorOf_251 : GoodIn zwX7_defined (wsV RX7 251 RX7 yX7_errorOf zwX7_errorOf) := goodIn_app (goodIn_r _ [11, 12, 13, 5] rfl (by decide +kernel)) (goodIn_ca (goodIn_r _ [14, 15, 16, 17, 18, 5, 19, 20, 21] rfl (by decide +kernel)) (zgt zg7))
set_option maxHeartbeats 4000000 in
set_option maxRecDepth 100000 in
theorem kX7_defined (l : Launch) (dC : Nat → ClassId) (dI : Nat → Nat → Nat) (h0 : Nat) (r : Nat → Nat) (cI : ClassId) (cJ : ClassId) (cZ : ClassId) (v0 : Int32) (a1 : Nat → Int32) (tp : Nat) (bs : Nat) (cl : Nat → Nat) (a5 : Nat → Int32) (a6 : Nat → Int32) (a7 : Nat → Int32) (fc : Nat → Nat) (a9 : Nat → Int32) (mb : Nat → Nat) (a11 : Nat → Int32) (a12 : Nat → Int32) (a13 : Nat → Int64) (a14 : Nat → Int32) (a15 : Nat → Int32) (a16 : Nat → Int32) (a17 : Nat → Int32) (a18 : Nat → Int32) (a19 : Nat → Int32) (a20 : Nat → Int32) (az : Nat) (v22 : Int32) (v23 : Int32) (v24 : Int64) (v25 : Int32) (v26 : Int32) (bb : Nat) (ct : Nat → Nat) (us : Nat) (a30 : Nat → Int32) (a31 : Nat → Int32) (a32 : Nat → Int32) (a33 : Nat → Int64) (a34 : Nat → Int32) (a35 : Nat → Int32) (a36 : Nat → Int32) (a37 : Nat → Int32) (pil : Nat → Nat) (rwv : Nat → Nat) (rl : Nat) (v41 : Int32) (v42 : Int32) (v43 : Int32) (v44 : Int32) (v45 : Int32) (hI : rWI tp bs cl fc mb az bb ct us pil rwv rl) (xb : Int32) (nm : Int32) (sz : Nat) : Met l yX7_defined zwX7_defined ({ frames := 2, cells := 0, slots := 0, locals := 46 }) (zPm dC dI [.ref h0, .int xb, .int nm] sz (rW h0 r cI cJ cZ v0 a1 (nI tp) (nI bs) (fun j => nI (cl j)) a5 a6 a7 (fun j => nI (fc j)) a9 (fun j => nI (mb j)) a11 a12 a13 a14 a15 a16 a17 a18 a19 a20 (nI az) v22 v23 v24 v25 v26 (nI bb) (fun j => nI (ct j)) (nI us) a30 a31 a32 a33 a34 a35 a36 a37 (fun j => nI (pil j)) (fun j => nI (rwv j)) (nI rl) v41 v42 v43 v44 v45) [(cI, .int), (cJ, .long), (cZ, .boolean)]) (va_Qi (fun (r : Int32) (u : Int32) => (True)) (fun u t => zB dC dI (va_A (rW h0 r cI cJ cZ v0 a1 (nI tp) (nI bs) (fun j => nI (cl j)) a5 a6 a7 (fun j => nI (fc j)) a9 (fun j => nI (mb j)) a11 a12 a13 a14 a15 a16 a17 a18 a19 a20 (nI az) v22 v23 v24 v25 v26 (nI bb) (fun j => nI (ct j)) (nI us) a30 a31 a32 a33 a34 a35 a36 a37 (fun j => nI (pil j)) (fun j => nI (rwv j)) (nI rl) v41 v42 v43 v44 v45) sz) (rW h0 r cI cJ cZ u a1 (nI tp) (nI bs) (fun j => nI (cl j)) a5 a6 a7 (fun j => nI (fc j)) a9 (fun j => nI (mb j)) a11 a12 a13 a14 a15 a16 a17 a18 a19 a20 (nI az) v22 v23 v24 v25 v26 (nI bb) (fun j => nI (ct j)) (nI us) a30 a31 a32 a33 a34 a35 a36 a37 (fun j => nI (pil j)) (fun j => nI (rwv j)) (nI rl) v41 v42 v43 v44 v45) [(cI, .int), (cJ, .long), (cZ, .boolean)] t) (va_A (rW h0 r cI cJ cZ v0 a1 (nI tp) (nI bs) (fun j => nI (cl j)) a5 a6 a7 (fun j => nI (fc j)) a9 (fun j => nI (mb j)) a11 a12 a13 a14 a15 a16 a17 a18 a19 a20 (nI az) v22 v23 v24 v25 v26 (nI bb) (fun j => nI (ct j)) (nI us) a30 a31 a32 a33 a34 a35 a36 a37 (fun j => nI (pil j)) (fun j => nI (rwv j)) (nI rl) v41 v42 v43 v44 v45) sz)) 0 0 (va_A (rW h0 r cI cJ cZ v0 a1 (nI tp) (nI bs) (fun j => nI (cl j)) a5 a6 a7 (fun j => nI (fc j)) a9 (fun j => nI (mb j)) a11 a12 a13 a14 a15 a16 a17 a18 a19 a20 (nI az) v22 v23 v24 v25 v26 (nI bb) (fun j => nI (ct j)) (nI us) a30 a31 a32 a33 a34 a35 a36 a37 (fun j => nI (pil j)) (fun j => nI (rwv j)) (nI rl) v41 v42 v43 v44 v45) sz) := by
  refine Met.ofW (cc := cX7_defined) (maxL := 4) (ret := (some .int)) (by decide) rfl ?_
  intro p e s m args below meth c s₁ B hml hv
  obtain ⟨rfl, hsz, hP, hK, hD0, hL0⟩ := hv
  have hx := B.exec
  have hb := B.bytes
  have hr := B.returns
  have hts := atoms_spec (ws := zwX7_defined) B.pre
  have hown : s.vm.findClass RX7 = some m.cls := findClass_of_methodNamed B.named
  have hiX7 : ∀ w ∈ wsX70, w ∈ zwX7_defined := (fun _ h => List.mem_cons_of_mem _ (List.mem_append_right _ h))
  obtain ⟨htp, hbs, hus, hcl, hfc, hmb, hct, hpil, hrwv⟩ := hI
  subst hsz
  have hD := hD0.self (sz := s.heap.size)
  generalize hAe : va_A (rW h0 r cI cJ cZ v0 a1 (nI tp) (nI bs) (fun j => nI (cl j)) a5 a6 a7 (fun j => nI (fc j)) a9 (fun j => nI (mb j)) a11 a12 a13 a14 a15 a16 a17 a18 a19 a20 (nI az) v22 v23 v24 v25 v26 (nI bb) (fun j => nI (ct j)) (nI us) a30 a31 a32 a33 a34 a35 a36 a37 (fun j => nI (pil j)) (fun j => nI (rwv j)) (nI rl) v41 v42 v43 v44 v45) s.heap.size = A at hD hL0 ⊢
  have hA : ∀ q : Nat, s.heap.size ≤ q → A q := fun q h => by rw [← hAe]; exact Or.inr h
  have hS : va_S A s.heap s.heap [] := va_S.rf
  have hL := hL0
  have hl := lv_entry ([.ref h0, .int xb, .int nm]) (n := 4) (Nat.le_of_ble_eq_true rfl)
  rw [lg_entry_eq]
  generalize (lg_sl ([.ref h0, .int xb, .int nm]) ++ List.replicate (4 - (lg_sl ([.ref h0, .int xb, .int nm])).length) Slot.unset).toArray = ls at hl ⊢
  have hl : lv_has ls 4 [(0, .ref h0), (1, .int xb), (2, .int nm)] := hl
  refine lv_aload_n hx hb dX7_defined_0 rfl (lv_at hl 0 rfl) ?_
  refine lv_iconst (v := 0) hx hb dX7_defined_1 (by decide) ?_
  refine va_put (D := (dC, dI)) (ci := 6) (v := .int 0) (ty := (.int)) (C := RX7) (T := TX7) (N := 46) hx hb hts hiX7 tyX7 tyX7_ok nmX7 hown hK hP hD hS 0 rfl rfl 0 (by decide) (hts (.fieldLink RX7 1 "LinkModelsModel" "thrown" "I") (by decide +kernel)) (fun _ h9 => h9) rfl (by decide +kernel) rfl rfl (Nat.le_of_ble_eq_true rfl) dX7_defined_2 (fun H locs hP hD hS => ?_)
  have hP : va_P (dC, dI) vwCl (rW h0 r cI cJ cZ 0 a1 (nI tp) (nI bs) (fun j => nI (cl j)) a5 a6 a7 (fun j => nI (fc j)) a9 (fun j => nI (mb j)) a11 a12 a13 a14 a15 a16 a17 a18 a19 a20 (nI az) v22 v23 v24 v25 v26 (nI bb) (fun j => nI (ct j)) (nI us) a30 a31 a32 a33 a34 a35 a36 a37 (fun j => nI (pil j)) (fun j => nI (rwv j)) (nI rl) v41 v42 v43 v44 v45) H := hP
  have hD : va_D A (rW h0 r cI cJ cZ 0 a1 (nI tp) (nI bs) (fun j => nI (cl j)) a5 a6 a7 (fun j => nI (fc j)) a9 (fun j => nI (mb j)) a11 a12 a13 a14 a15 a16 a17 a18 a19 a20 (nI az) v22 v23 v24 v25 v26 (nI bb) (fun j => nI (ct j)) (nI us) a30 a31 a32 a33 a34 a35 a36 a37 (fun j => nI (pil j)) (fun j => nI (rwv j)) (nI rl) v41 v42 v43 v44 v45) := hD
  refine lv_aload_n hx hb dX7_defined_5 rfl (lv_at hl 0 rfl) ?_
  refine lv_iload_n hx hb dX7_defined_6 rfl (lv_at hl 1 rfl) ?_
  have hFc := z_freeW hD hS hA
  refine vp_callSi (W.runV (As := [.int xb]) (rest := []) ⟨hx, hb, hml, hown, hts⟩ (kX7_isBuild l dC dI h0 r cI cJ cZ 0 a1 tp bs cl a5 a6 a7 fc a9 mb a11 a12 a13 a14 a15 a16 a17 a18 a19 a20 az v22 v23 v24 v25 v26 bb ct us a30 a31 a32 a33 a34 a35 a36 a37 pil rwv rl v41 v42 v43 v44 v45 ⟨by omega, by omega, by omega, hcl, hfc, hmb, hct, hpil, hrwv⟩ xb H.size) (cwV 1 hts zgX7_defined_X7_isBuild_248 rfl rfl rfl (by decide +kernel) ⟨(show 1 + 1 ≤ 2 by omega), (show 8 + (2 + 11) + 25 ≤ 46 by omega)⟩) (zVm (ci := 6) (q0 := 0) (q := (RX7, TX7, 46)) hK hP hD hL hS.2.1 hFc rfl rfl rfl) rfl rfl hl.1 rfl (lv_room (Nat.le_of_ble_eq_true rfl)) dX7_defined_7 ⟨(show 0 + 0 ≤ 0 by omega), (show 0 + 0 ≤ 0 by omega)⟩) (fun r1 hw => ?_)
  have hw : (r1 = 0 ∨ r1 = 1) ∧ (r1 = 1 → ∃ k, k < bs ∧ xb = nI k) := hw
  obtain ⟨w0r1, w1r1⟩ := hw
  refine lv_if_ne (tgt := 16) hx hb dX7_defined_10 (by decide) (fun cp10 => ?_) (fun cp10 => ?_)
  · obtain ⟨k2, hBk2, rfl⟩ := w1r1 (w0r1.resolve_left cp10)
    refine lv_aload_n hx hb dX7_defined_16 rfl (lv_at hl 0 rfl) ?_
    refine lv_iload_n hx hb dX7_defined_17 rfl (lv_at hl 1 rfl) ?_
    refine lv_iload_n hx hb dX7_defined_18 rfl (lv_at hl 2 rfl) ?_
    have hFc := z_freeW hD hS hA
    refine vp_callSi (W.runV (As := [.int (nI k2), .int nm]) (rest := []) ⟨hx, hb, hml, hown, hts⟩ (kX7_errorOf l dC dI h0 r cI cJ cZ 0 a1 tp bs cl a5 a6 a7 fc a9 mb a11 a12 a13 a14 a15 a16 a17 a18 a19 a20 az v22 v23 v24 v25 v26 bb ct us a30 a31 a32 a33 a34 a35 a36 a37 pil rwv rl v41 v42 v43 v44 v45 ⟨by omega, by omega, by omega, hcl, hfc, hmb, hct, hpil, hrwv⟩ k2 nm (by first | omega | assumption | trivial) H.size) (cwV 2 hts zgX7_defined_X7_errorOf_251 rfl rfl rfl (by decide +kernel) ⟨(show 1 + 1 ≤ 2 by omega), (show 8 + (4 + 11) + 23 ≤ 46 by omega)⟩) (zVm (ci := 6) (q0 := 0) (q := (RX7, TX7, 46)) hK hP hD hL hS.2.1 hFc rfl rfl rfl) rfl rfl hl.1 rfl (lv_room (Nat.le_of_ble_eq_true rfl)) dX7_defined_19 ⟨(show 0 + 0 ≤ 0 by omega), (show 0 + 0 ≤ 0 by omega)⟩) (fun r3 hw => ?_)
    have hw : (zEr cl a5 a11 k2 nm r3) := hw
    have w0r3 := hw
    refine lv_istore_n (lv' := [(3, .int r3), (0, .ref h0), (1, .int (nI k2)), (2, .int nm)]) hx hb dX7_defined_22 rfl hl (by decide) rfl (fun ls hl => ?_)
    refine lv_iload_n hx hb dX7_defined_23 rfl (lv_at hl 0 rfl) ?_
    refine lv_if_le (tgt := 34) hx hb dX7_defined_24 (by decide) (fun cp24 => ?_) (fun cp24 => ?_)
    · refine lv_iconst (v := 1) hx hb dX7_defined_34 (by decide) ?_
      have hP9 : va_P (dC, dI) vwCl (rW h0 r cI cJ cZ 0 a1 (nI tp) (nI bs) (fun j => nI (cl j)) a5 a6 a7 (fun j => nI (fc j)) a9 (fun j => nI (mb j)) a11 a12 a13 a14 a15 a16 a17 a18 a19 a20 (nI az) v22 v23 v24 v25 v26 (nI bb) (fun j => nI (ct j)) (nI us) a30 a31 a32 a33 a34 a35 a36 a37 (fun j => nI (pil j)) (fun j => nI (rwv j)) (nI rl) v41 v42 v43 v44 v45) H := hP
      have hD9 : va_D A (rW h0 r cI cJ cZ 0 a1 (nI tp) (nI bs) (fun j => nI (cl j)) a5 a6 a7 (fun j => nI (fc j)) a9 (fun j => nI (mb j)) a11 a12 a13 a14 a15 a16 a17 a18 a19 a20 (nI az) v22 v23 v24 v25 v26 (nI bb) (fun j => nI (ct j)) (nI us) a30 a31 a32 a33 a34 a35 a36 a37 (fun j => nI (pil j)) (fun j => nI (rwv j)) (nI rl) v41 v42 v43 v44 v45) := hD
      exact W.iret (v := (1 : Int32)) hx hb hr (fun t ht hW => ⟨⟨(1 : Int32), (0), rfl, trivial, by rw [ht]; exact hP9, va_K.moved hW.alike hK, hD9⟩, hS.F ht⟩) hS.2.2 dX7_defined_35
    · refine lv_bipush (v := (-10)) hx hb dX7_defined_27 (by decide) ?_
      refine lv_iload_n hx hb dX7_defined_29 rfl (lv_at hl 0 rfl) ?_
      refine lv_isub hx hb dX7_defined_30 ?_
      refine lv_topi (fun x4 ex4 => ?_)
      refine lv_goto (tgt := 35) hx hb dX7_defined_31 (by decide) ?_
      have hP9 : va_P (dC, dI) vwCl (rW h0 r cI cJ cZ 0 a1 (nI tp) (nI bs) (fun j => nI (cl j)) a5 a6 a7 (fun j => nI (fc j)) a9 (fun j => nI (mb j)) a11 a12 a13 a14 a15 a16 a17 a18 a19 a20 (nI az) v22 v23 v24 v25 v26 (nI bb) (fun j => nI (ct j)) (nI us) a30 a31 a32 a33 a34 a35 a36 a37 (fun j => nI (pil j)) (fun j => nI (rwv j)) (nI rl) v41 v42 v43 v44 v45) H := hP
      have hD9 : va_D A (rW h0 r cI cJ cZ 0 a1 (nI tp) (nI bs) (fun j => nI (cl j)) a5 a6 a7 (fun j => nI (fc j)) a9 (fun j => nI (mb j)) a11 a12 a13 a14 a15 a16 a17 a18 a19 a20 (nI az) v22 v23 v24 v25 v26 (nI bb) (fun j => nI (ct j)) (nI us) a30 a31 a32 a33 a34 a35 a36 a37 (fun j => nI (pil j)) (fun j => nI (rwv j)) (nI rl) v41 v42 v43 v44 v45) := hD
      exact W.iret (v := x4) hx hb hr (fun t ht hW => ⟨⟨x4, (0), rfl, trivial, by rw [ht]; exact hP9, va_K.moved hW.alike hK, hD9⟩, hS.F ht⟩) hS.2.2 dX7_defined_35
  · refine lv_bipush (v := (-2)) hx hb dX7_defined_13 (by decide) ?_
    have hP9 : va_P (dC, dI) vwCl (rW h0 r cI cJ cZ 0 a1 (nI tp) (nI bs) (fun j => nI (cl j)) a5 a6 a7 (fun j => nI (fc j)) a9 (fun j => nI (mb j)) a11 a12 a13 a14 a15 a16 a17 a18 a19 a20 (nI az) v22 v23 v24 v25 v26 (nI bb) (fun j => nI (ct j)) (nI us) a30 a31 a32 a33 a34 a35 a36 a37 (fun j => nI (pil j)) (fun j => nI (rwv j)) (nI rl) v41 v42 v43 v44 v45) H := hP
    have hD9 : va_D A (rW h0 r cI cJ cZ 0 a1 (nI tp) (nI bs) (fun j => nI (cl j)) a5 a6 a7 (fun j => nI (fc j)) a9 (fun j => nI (mb j)) a11 a12 a13 a14 a15 a16 a17 a18 a19 a20 (nI az) v22 v23 v24 v25 v26 (nI bb) (fun j => nI (ct j)) (nI us) a30 a31 a32 a33 a34 a35 a36 a37 (fun j => nI (pil j)) (fun j => nI (rwv j)) (nI rl) v41 v42 v43 v44 v45) := hD
    exact W.iret (v := (-2 : Int32)) hx hb hr (fun t ht hW => ⟨⟨(-2 : Int32), (0), rfl, trivial, by rw [ht]; exact hP9, va_K.moved hW.alike hK, hD9⟩, hS.F ht⟩) hS.2.2 dX7_defined_15
theorem dX7_count_0 : decode cX7_count 0 = .ok (.aload_n 0, 1) := by decide +kernel
theorem dX7_count_1 : decode cX7_count 1 = .ok (.iconst 0, 1) := by decide +kernel
theorem dX7_count_2 : decode cX7_count 2 = .ok (.putfield 1, 3) := by decide +kernel
theorem dX7_count_5 : decode cX7_count 5 = .ok (.aload_n 0, 1) := by decide +kernel
theorem dX7_count_6 : decode cX7_count 6 = .ok (.iload_n 1, 1) := by decide +kernel
theorem dX7_count_7 : decode cX7_count 7 = .ok (.invokevirtual 248, 3) := by decide +kernel
theorem dX7_count_10 : decode cX7_count 10 = .ok (.ifCond .ne 6, 3) := by decide +kernel
theorem dX7_count_13 : decode cX7_count 13 = .ok (.bipush (-2), 2) := by decide +kernel
theorem dX7_count_15 : decode cX7_count 15 = .ok (.ireturn, 1) := by decide +kernel
theorem dX7_count_16 : decode cX7_count 16 = .ok (.iload_n 2, 1) := by decide +kernel
theorem dX7_count_17 : decode cX7_count 17 = .ok (.i2l, 1) := by decide +kernel
theorem dX7_count_18 : decode cX7_count 18 = .ok (.lconst 0, 1) := by decide +kernel
theorem dX7_count_19 : decode cX7_count 19 = .ok (.ldc2_w 254, 3) := by decide +kernel
theorem dX7_count_22 : decode cX7_count 22 = .ok (.invokestatic 105, 3) := by decide +kernel
theorem dX7_count_25 : decode cX7_count 25 = .ok (.ifCond .ne 6, 3) := by decide +kernel
theorem dX7_count_28 : decode cX7_count 28 = .ok (.bipush (-3), 2) := by decide +kernel
theorem dX7_count_30 : decode cX7_count 30 = .ok (.ireturn, 1) := by decide +kernel
theorem dX7_count_31 : decode cX7_count 31 = .ok (.iconst 0, 1) := by decide +kernel
theorem dX7_count_32 : decode cX7_count 32 = .ok (.istore_n 3, 1) := by decide +kernel
theorem dX7_count_33 : decode cX7_count 33 = .ok (.bipush 16, 2) := by decide +kernel
theorem dX7_count_35 : decode cX7_count 35 = .ok (.iload_n 1, 1) := by decide +kernel
theorem dX7_count_36 : decode cX7_count 36 = .ok (.imul, 1) := by decide +kernel
theorem dX7_count_37 : decode cX7_count 37 = .ok (.istore 4, 2) := by decide +kernel
theorem dX7_count_39 : decode cX7_count 39 = .ok (.iload 4, 2) := by decide +kernel
theorem dX7_count_41 : decode cX7_count 41 = .ok (.bipush 16, 2) := by decide +kernel
theorem dX7_count_43 : decode cX7_count 43 = .ok (.iload_n 1, 1) := by decide +kernel
theorem dX7_count_44 : decode cX7_count 44 = .ok (.imul, 1) := by decide +kernel
theorem dX7_count_45 : decode cX7_count 45 = .ok (.aload_n 0, 1) := by decide +kernel
theorem dX7_count_46 : decode cX7_count 46 = .ok (.getfield 17, 3) := by decide +kernel
theorem dX7_count_49 : decode cX7_count 49 = .ok (.iload_n 1, 1) := by decide +kernel
theorem dX7_count_50 : decode cX7_count 50 = .ok (.iaload, 1) := by decide +kernel
theorem dX7_count_51 : decode cX7_count 51 = .ok (.iadd, 1) := by decide +kernel
theorem dX7_count_52 : decode cX7_count 52 = .ok (.if_icmp .ge 104, 3) := by decide +kernel
theorem dX7_count_55 : decode cX7_count 55 = .ok (.bipush 12, 2) := by decide +kernel
theorem dX7_count_57 : decode cX7_count 57 = .ok (.iload 4, 2) := by decide +kernel
theorem dX7_count_59 : decode cX7_count 59 = .ok (.imul, 1) := by decide +kernel
theorem dX7_count_60 : decode cX7_count 60 = .ok (.istore 5, 2) := by decide +kernel
theorem dX7_count_62 : decode cX7_count 62 = .ok (.iload 5, 2) := by decide +kernel
theorem dX7_count_64 : decode cX7_count 64 = .ok (.bipush 12, 2) := by decide +kernel
theorem dX7_count_66 : decode cX7_count 66 = .ok (.iload 4, 2) := by decide +kernel
theorem dX7_count_68 : decode cX7_count 68 = .ok (.imul, 1) := by decide +kernel
theorem dX7_count_69 : decode cX7_count 69 = .ok (.aload_n 0, 1) := by decide +kernel
theorem dX7_count_70 : decode cX7_count 70 = .ok (.getfield 35, 3) := by decide +kernel
theorem dX7_count_73 : decode cX7_count 73 = .ok (.iload 4, 2) := by decide +kernel
theorem dX7_count_75 : decode cX7_count 75 = .ok (.iaload, 1) := by decide +kernel
theorem dX7_count_76 : decode cX7_count 76 = .ok (.iadd, 1) := by decide +kernel
theorem dX7_count_77 : decode cX7_count 77 = .ok (.if_icmp .ge 73, 3) := by decide +kernel
theorem dX7_count_80 : decode cX7_count 80 = .ok (.iload_n 3, 1) := by decide +kernel
theorem dX7_count_81 : decode cX7_count 81 = .ok (.iload_n 2, 1) := by decide +kernel
theorem dX7_count_82 : decode cX7_count 82 = .ok (.iconst 1, 1) := by decide +kernel
theorem dX7_count_83 : decode cX7_count 83 = .ok (.if_icmp .ne 21, 3) := by decide +kernel
theorem dX7_count_86 : decode cX7_count 86 = .ok (.aload_n 0, 1) := by decide +kernel
theorem dX7_count_87 : decode cX7_count 87 = .ok (.getfield 51, 3) := by decide +kernel
theorem dX7_count_90 : decode cX7_count 90 = .ok (.iload 5, 2) := by decide +kernel
theorem dX7_count_92 : decode cX7_count 92 = .ok (.baload, 1) := by decide +kernel
theorem dX7_count_93 : decode cX7_count 93 = .ok (.ifCond .eq 7, 3) := by decide +kernel
theorem dX7_count_96 : decode cX7_count 96 = .ok (.iconst 0, 1) := by decide +kernel
theorem dX7_count_97 : decode cX7_count 97 = .ok (.goto 45, 3) := by decide +kernel
theorem dX7_count_100 : decode cX7_count 100 = .ok (.iconst 1, 1) := by decide +kernel
theorem dX7_count_101 : decode cX7_count 101 = .ok (.goto 41, 3) := by decide +kernel
theorem dX7_count_104 : decode cX7_count 104 = .ok (.iload_n 2, 1) := by decide +kernel
theorem dX7_count_105 : decode cX7_count 105 = .ok (.iconst 2, 1) := by decide +kernel
theorem dX7_count_106 : decode cX7_count 106 = .ok (.if_icmp .ne 21, 3) := by decide +kernel
theorem dX7_count_109 : decode cX7_count 109 = .ok (.aload_n 0, 1) := by decide +kernel
theorem dX7_count_110 : decode cX7_count 110 = .ok (.getfield 51, 3) := by decide +kernel
theorem dX7_count_113 : decode cX7_count 113 = .ok (.iload 5, 2) := by decide +kernel
theorem dX7_count_115 : decode cX7_count 115 = .ok (.baload, 1) := by decide +kernel
theorem dX7_count_116 : decode cX7_count 116 = .ok (.ifCond .eq 7, 3) := by decide +kernel
theorem dX7_count_119 : decode cX7_count 119 = .ok (.iconst 1, 1) := by decide +kernel
theorem dX7_count_120 : decode cX7_count 120 = .ok (.goto 22, 3) := by decide +kernel
theorem dX7_count_123 : decode cX7_count 123 = .ok (.iconst 0, 1) := by decide +kernel
theorem dX7_count_124 : decode cX7_count 124 = .ok (.goto 18, 3) := by decide +kernel
theorem dX7_count_127 : decode cX7_count 127 = .ok (.aload_n 0, 1) := by decide +kernel
theorem dX7_count_128 : decode cX7_count 128 = .ok (.getfield 55, 3) := by decide +kernel
theorem dX7_count_131 : decode cX7_count 131 = .ok (.iload 5, 2) := by decide +kernel
theorem dX7_count_133 : decode cX7_count 133 = .ok (.baload, 1) := by decide +kernel
theorem dX7_count_134 : decode cX7_count 134 = .ok (.ifCond .eq 7, 3) := by decide +kernel
theorem dX7_count_137 : decode cX7_count 137 = .ok (.iconst 1, 1) := by decide +kernel
theorem dX7_count_138 : decode cX7_count 138 = .ok (.goto 4, 3) := by decide +kernel
theorem dX7_count_141 : decode cX7_count 141 = .ok (.iconst 0, 1) := by decide +kernel
theorem dX7_count_142 : decode cX7_count 142 = .ok (.iadd, 1) := by decide +kernel
theorem dX7_count_143 : decode cX7_count 143 = .ok (.istore_n 3, 1) := by decide +kernel
theorem dX7_count_144 : decode cX7_count 144 = .ok (.iinc 5 1, 3) := by decide +kernel
theorem dX7_count_147 : decode cX7_count 147 = .ok (.goto (-85), 3) := by decide +kernel
theorem dX7_count_150 : decode cX7_count 150 = .ok (.iinc 4 1, 3) := by decide +kernel
theorem dX7_count_153 : decode cX7_count 153 = .ok (.goto (-114), 3) := by decide +kernel
theorem dX7_count_156 : decode cX7_count 156 = .ok (.iload_n 2, 1) := by decide +kernel
theorem dX7_count_157 : decode cX7_count 157 = .ok (.ifCond .ne 12, 3) := by decide +kernel
theorem dX7_count_160 : decode cX7_count 160 = .ok (.aload_n 0, 1) := by decide +kernel
theorem dX7_count_161 : decode cX7_count 161 = .ok (.getfield 17, 3) := by decide +kernel
theorem dX7_count_164 : decode cX7_count 164 = .ok (.iload_n 1, 1) := by decide +kernel
theorem dX7_count_165 : decode cX7_count 165 = .ok (.iaload, 1) := by decide +kernel
theorem dX7_count_166 : decode cX7_count 166 = .ok (.goto 4, 3) := by decide +kernel
theorem dX7_count_169 : decode cX7_count 169 = .ok (.iload_n 3, 1) := by decide +kernel
theorem dX7_count_170 : decode cX7_count 170 = .ok (.ireturn, 1) := by decide +kernel
def zwX7_count : List Cond := .code yX7_count cX7_count 6 (some .int) :: ([.fieldLink RX7 35 "LinkModelsModel" "members" "[I", .fieldLink RX7 55 "LinkModelsModel" "isConstant" "[Z", .fieldLink RX7 51 "LinkModelsModel" "isMethod" "[Z", .fieldLink RX7 17 "LinkModelsModel" "classes" "[I", .fieldLink RX7 1 "LinkModelsModel" "thrown" "I", .constantLong RX7 254 (3), .methodLink RX7 248 yX7_isBuild, .instanceMethod yX7_isBuild, .selects RX7 yX7_isBuild yX7_isBuild, .initialized RX7, .code yX7_isBuild cX7_isBuild 2 (some .boolean), .fieldLink RX7 232 "LinkModelsModel" "builds" "I", .methodLink RX7 105 yX7_in, .static yX7_in, .code yX7_in cX7_in 6 (some .boolean)] ++ wsX70)
theorem zgX7_count_X7_isBuild_248 : GoodIn zwX7_count (wsV RX7 248 RX7 yX7_isBuild zwX7_isBuild) := goodIn_app (goodIn_r _ [7, 8, 9, 10] rfl (by decide +kernel)) (goodIn_ca (goodIn_r _ [11, 12, 13, 14, 10, 15] rfl (by decide +kernel)) (zgt zg7))
theorem zgX7_count_X7_in_105 : GoodIn zwX7_count (va_wsS RX7 105 yX7_in zwX7_in) := goodIn_app (goodIn_r _ [13, 14, 10] rfl (by decide +kernel)) (goodIn_r _ [15] rfl (by decide +kernel))
set_option maxHeartbeats 4000000 in
set_option maxRecDepth 100000 in
theorem kX7_count (l : Launch) (dC : Nat → ClassId) (dI : Nat → Nat → Nat) (h0 : Nat) (r : Nat → Nat) (cI : ClassId) (cJ : ClassId) (cZ : ClassId) (v0 : Int32) (a1 : Nat → Int32) (tp : Nat) (bs : Nat) (cl : Nat → Nat) (a5 : Nat → Int32) (a6 : Nat → Int32) (a7 : Nat → Int32) (fc : Nat → Nat) (a9 : Nat → Int32) (mb : Nat → Nat) (a11 : Nat → Int32) (a12 : Nat → Int32) (a13 : Nat → Int64) (a14 : Nat → Int32) (a15 : Nat → Int32) (a16 : Nat → Int32) (a17 : Nat → Int32) (a18 : Nat → Int32) (a19 : Nat → Int32) (a20 : Nat → Int32) (az : Nat) (v22 : Int32) (v23 : Int32) (v24 : Int64) (v25 : Int32) (v26 : Int32) (bb : Nat) (ct : Nat → Nat) (us : Nat) (a30 : Nat → Int32) (a31 : Nat → Int32) (a32 : Nat → Int32) (a33 : Nat → Int64) (a34 : Nat → Int32) (a35 : Nat → Int32) (a36 : Nat → Int32) (a37 : Nat → Int32) (pil : Nat → Nat) (rwv : Nat → Nat) (rl : Nat) (v41 : Int32) (v42 : Int32) (v43 : Int32) (v44 : Int32) (v45 : Int32) (hI : rWI tp bs cl fc mb az bb ct us pil rwv rl) (xb : Int32) (wh : Int32) (sz : Nat) : Met l yX7_count zwX7_count ({ frames := 2, cells := 0, slots := 0, locals := 46 }) (zPm dC dI [.ref h0, .int xb, .int wh] sz (rW h0 r cI cJ cZ v0 a1 (nI tp) (nI bs) (fun j => nI (cl j)) a5 a6 a7 (fun j => nI (fc j)) a9 (fun j => nI (mb j)) a11 a12 a13 a14 a15 a16 a17 a18 a19 a20 (nI az) v22 v23 v24 v25 v26 (nI bb) (fun j => nI (ct j)) (nI us) a30 a31 a32 a33 a34 a35 a36 a37 (fun j => nI (pil j)) (fun j => nI (rwv j)) (nI rl) v41 v42 v43 v44 v45) [(cI, .int), (cJ, .long), (cZ, .boolean)]) (va_Qi (fun (r : Int32) (u : Int32) => (True)) (fun u t => zB dC dI (va_A (rW h0 r cI cJ cZ v0 a1 (nI tp) (nI bs) (fun j => nI (cl j)) a5 a6 a7 (fun j => nI (fc j)) a9 (fun j => nI (mb j)) a11 a12 a13 a14 a15 a16 a17 a18 a19 a20 (nI az) v22 v23 v24 v25 v26 (nI bb) (fun j => nI (ct j)) (nI us) a30 a31 a32 a33 a34 a35 a36 a37 (fun j => nI (pil j)) (fun j => nI (rwv j)) (nI rl) v41 v42 v43 v44 v45) sz) (rW h0 r cI cJ cZ u a1 (nI tp) (nI bs) (fun j => nI (cl j)) a5 a6 a7 (fun j => nI (fc j)) a9 (fun j => nI (mb j)) a11 a12 a13 a14 a15 a16 a17 a18 a19 a20 (nI az) v22 v23 v24 v25 v26 (nI bb) (fun j => nI (ct j)) (nI us) a30 a31 a32 a33 a34 a35 a36 a37 (fun j => nI (pil j)) (fun j => nI (rwv j)) (nI rl) v41 v42 v43 v44 v45) [(cI, .int), (cJ, .long), (cZ, .boolean)] t) (va_A (rW h0 r cI cJ cZ v0 a1 (nI tp) (nI bs) (fun j => nI (cl j)) a5 a6 a7 (fun j => nI (fc j)) a9 (fun j => nI (mb j)) a11 a12 a13 a14 a15 a16 a17 a18 a19 a20 (nI az) v22 v23 v24 v25 v26 (nI bb) (fun j => nI (ct j)) (nI us) a30 a31 a32 a33 a34 a35 a36 a37 (fun j => nI (pil j)) (fun j => nI (rwv j)) (nI rl) v41 v42 v43 v44 v45) sz)) 0 0 (va_A (rW h0 r cI cJ cZ v0 a1 (nI tp) (nI bs) (fun j => nI (cl j)) a5 a6 a7 (fun j => nI (fc j)) a9 (fun j => nI (mb j)) a11 a12 a13 a14 a15 a16 a17 a18 a19 a20 (nI az) v22 v23 v24 v25 v26 (nI bb) (fun j => nI (ct j)) (nI us) a30 a31 a32 a33 a34 a35 a36 a37 (fun j => nI (pil j)) (fun j => nI (rwv j)) (nI rl) v41 v42 v43 v44 v45) sz) := by
  refine Met.ofW (cc := cX7_count) (maxL := 6) (ret := (some .int)) (by decide) rfl ?_
  intro p e s m args below meth c s₁ B hml hv
  obtain ⟨rfl, hsz, hP, hK, hD0, hL0⟩ := hv
  have hx := B.exec
  have hb := B.bytes
  have hr := B.returns
  have hts := atoms_spec (ws := zwX7_count) B.pre
  have hown : s.vm.findClass RX7 = some m.cls := findClass_of_methodNamed B.named
  have hiX7 : ∀ w ∈ wsX70, w ∈ zwX7_count := (fun _ h => List.mem_cons_of_mem _ (List.mem_append_right _ h))
  obtain ⟨htp, hbs, hus, hcl, hfc, hmb, hct, hpil, hrwv⟩ := hI
  subst hsz
  have hD := hD0.self (sz := s.heap.size)
  generalize hAe : va_A (rW h0 r cI cJ cZ v0 a1 (nI tp) (nI bs) (fun j => nI (cl j)) a5 a6 a7 (fun j => nI (fc j)) a9 (fun j => nI (mb j)) a11 a12 a13 a14 a15 a16 a17 a18 a19 a20 (nI az) v22 v23 v24 v25 v26 (nI bb) (fun j => nI (ct j)) (nI us) a30 a31 a32 a33 a34 a35 a36 a37 (fun j => nI (pil j)) (fun j => nI (rwv j)) (nI rl) v41 v42 v43 v44 v45) s.heap.size = A at hD hL0 ⊢
  have hA : ∀ q : Nat, s.heap.size ≤ q → A q := fun q h => by rw [← hAe]; exact Or.inr h
  have hS : va_S A s.heap s.heap [] := va_S.rf
  have hL := hL0
  have hl := lv_entry ([.ref h0, .int xb, .int wh]) (n := 6) (Nat.le_of_ble_eq_true rfl)
  rw [lg_entry_eq]
  generalize (lg_sl ([.ref h0, .int xb, .int wh]) ++ List.replicate (6 - (lg_sl ([.ref h0, .int xb, .int wh])).length) Slot.unset).toArray = ls at hl ⊢
  have hl : lv_has ls 6 [(0, .ref h0), (1, .int xb), (2, .int wh)] := hl
  have J39 : ∀ (z39 : Nat) (bd : Nat) (cn : Int32) (c4 : Nat) (th : Int32) (H : Heap) (locs : List Loc) (ls : Array Slot), 16 * bd + cl bd - c4 < z39 → (bd < 5) → (c4 ≤ 16 * bd + cl bd) → va_P (dC, dI) vwCl (rW h0 r cI cJ cZ th a1 (nI tp) (nI bs) (fun j => nI (cl j)) a5 a6 a7 (fun j => nI (fc j)) a9 (fun j => nI (mb j)) a11 a12 a13 a14 a15 a16 a17 a18 a19 a20 (nI az) v22 v23 v24 v25 v26 (nI bb) (fun j => nI (ct j)) (nI us) a30 a31 a32 a33 a34 a35 a36 a37 (fun j => nI (pil j)) (fun j => nI (rwv j)) (nI rl) v41 v42 v43 v44 v45) H → va_D A (rW h0 r cI cJ cZ th a1 (nI tp) (nI bs) (fun j => nI (cl j)) a5 a6 a7 (fun j => nI (fc j)) a9 (fun j => nI (mb j)) a11 a12 a13 a14 a15 a16 a17 a18 a19 a20 (nI az) v22 v23 v24 v25 v26 (nI bb) (fun j => nI (ct j)) (nI us) a30 a31 a32 a33 a34 a35 a36 a37 (fun j => nI (pil j)) (fun j => nI (rwv j)) (nI rl) v41 v42 v43 v44 v45) → va_S A s.heap H locs → lv_has ls 6 [(0, .ref h0), (1, .int (nI bd)), (2, .int wh), (3, .int cn), (4, .int (nI c4))] → W p l e (headSpec zwX7_count { frames := 2, cells := 0, slots := 0, locals := 46 }).room s m (([.ref h0, .int xb, .int wh] : List Value).toArray) below meth c H locs 0 0 (MQ below (va_Qi (fun (r : Int32) (u : Int32) => (True)) (fun u t => zB dC dI (A) (rW h0 r cI cJ cZ u a1 (nI tp) (nI bs) (fun j => nI (cl j)) a5 a6 a7 (fun j => nI (fc j)) a9 (fun j => nI (mb j)) a11 a12 a13 a14 a15 a16 a17 a18 a19 a20 (nI az) v22 v23 v24 v25 v26 (nI bb) (fun j => nI (ct j)) (nI us) a30 a31 a32 a33 a34 a35 a36 a37 (fun j => nI (pil j)) (fun j => nI (rwv j)) (nI rl) v41 v42 v43 v44 v45) [(cI, .int), (cJ, .long), (cZ, .boolean)] t) (A)) (([.ref h0, .int xb, .int wh] : List Value).toArray) s 0 0 A) (F0 m 39 ls []) := by
    intro z39
    induction z39 with
    | zero => intro bd cn c4 th H locs ls h9; exact absurd h9 (Nat.not_lt_zero _)
    | succ z39 ih39 =>
      intro bd cn c4 th H locs ls hm39 i39_0 i39_1 hP hD hS hl
      have hclb := hcl bd
      have J62 : ∀ (z62 : Nat) (cn2 : Int32) (m5 : Nat) (H : Heap) (locs : List Loc) (ls : Array Slot), 12 * c4 + mb c4 - m5 < z62 → (m5 ≤ 12 * c4 + mb c4) → (c4 < 16 * bd + cl bd) → va_P (dC, dI) vwCl (rW h0 r cI cJ cZ th a1 (nI tp) (nI bs) (fun j => nI (cl j)) a5 a6 a7 (fun j => nI (fc j)) a9 (fun j => nI (mb j)) a11 a12 a13 a14 a15 a16 a17 a18 a19 a20 (nI az) v22 v23 v24 v25 v26 (nI bb) (fun j => nI (ct j)) (nI us) a30 a31 a32 a33 a34 a35 a36 a37 (fun j => nI (pil j)) (fun j => nI (rwv j)) (nI rl) v41 v42 v43 v44 v45) H → va_D A (rW h0 r cI cJ cZ th a1 (nI tp) (nI bs) (fun j => nI (cl j)) a5 a6 a7 (fun j => nI (fc j)) a9 (fun j => nI (mb j)) a11 a12 a13 a14 a15 a16 a17 a18 a19 a20 (nI az) v22 v23 v24 v25 v26 (nI bb) (fun j => nI (ct j)) (nI us) a30 a31 a32 a33 a34 a35 a36 a37 (fun j => nI (pil j)) (fun j => nI (rwv j)) (nI rl) v41 v42 v43 v44 v45) → va_S A s.heap H locs → lv_has ls 6 [(0, .ref h0), (1, .int (nI bd)), (2, .int wh), (3, .int cn2), (4, .int (nI c4)), (5, .int (nI m5))] → W p l e (headSpec zwX7_count { frames := 2, cells := 0, slots := 0, locals := 46 }).room s m (([.ref h0, .int xb, .int wh] : List Value).toArray) below meth c H locs 0 0 (MQ below (va_Qi (fun (r : Int32) (u : Int32) => (True)) (fun u t => zB dC dI (A) (rW h0 r cI cJ cZ u a1 (nI tp) (nI bs) (fun j => nI (cl j)) a5 a6 a7 (fun j => nI (fc j)) a9 (fun j => nI (mb j)) a11 a12 a13 a14 a15 a16 a17 a18 a19 a20 (nI az) v22 v23 v24 v25 v26 (nI bb) (fun j => nI (ct j)) (nI us) a30 a31 a32 a33 a34 a35 a36 a37 (fun j => nI (pil j)) (fun j => nI (rwv j)) (nI rl) v41 v42 v43 v44 v45) [(cI, .int), (cJ, .long), (cZ, .boolean)] t) (A)) (([.ref h0, .int xb, .int wh] : List Value).toArray) s 0 0 A) (F0 m 62 ls []) := by
        intro z62
        induction z62 with
        | zero => intro cn2 m5 H locs ls h9; exact absurd h9 (Nat.not_lt_zero _)
        | succ z62 ih62 =>
          intro cn2 m5 H locs ls hm62 i62_0 i62_1 hP hD hS hl
          have hmbc := hmb c4
          refine lv_iload hx hb dX7_count_62 (lv_at hl 5 rfl) ?_
          refine lv_bipush (v := 12) hx hb dX7_count_64 (by decide) ?_
          refine lv_iload hx hb dX7_count_66 (lv_at hl 4 rfl) ?_
          refine lv_imul hx hb dX7_count_68 ?_
          refine lv_topi (fun x1 ex1 => ?_)
          obtain rfl : x1 = nI (12 * c4) := by rw [ex1]; exact pk_mul (12) (c4)
          refine lv_aload_n hx hb dX7_count_69 rfl (lv_at hl 0 rfl) ?_
          refine va_get (D := (dC, dI)) (ci := 6) (v := .ref (r 10)) (C := RX7) (T := TX7) (N := 46) hx hb hts hiX7 hown hK hP 0 rfl rfl 10 (by decide) (hts (.fieldLink RX7 35 "LinkModelsModel" "members" "[I") (by decide +kernel)) (fun _ h9 => h9) rfl dX7_count_70 ?_
          refine lv_iload hx hb dX7_count_73 (lv_at hl 4 rfl) ?_
          refine va_iald hx hb hK hP 8 0 rfl rfl (vp_in_nI (show c4 < 80 by omega) (by decide)) dX7_count_75 ?_
          refine lv_topi (fun x2 ex2 => ?_)
          obtain rfl : x2 = nI (mb c4) := by rw [ex2, nI_clamp (show c4 < 2 ^ 31 by omega)]
          have hqx2 := hmb c4
          refine lv_iadd hx hb dX7_count_76 ?_
          refine lv_topi (fun x3 ex3 => ?_)
          obtain rfl : x3 = nI ((12 * c4) + (mb c4)) := by rw [ex3]; exact nI_add (12 * c4) (mb c4)
          refine lv_icmp_ge (tgt := 150) hx hb dX7_count_77 (by decide) (fun cp77 => ?_) (fun cp77 => ?_)
          · have qcp77 : ((12 * c4) + (mb c4)) ≤ m5 := (nI_leI (a := (12 * c4) + (mb c4)) (b := m5) (by omega) (by omega)).mp cp77
            obtain ⟨x4, ex4⟩ : ∃ y : Int32, y = (nI c4) + 1 := ⟨_, rfl⟩
            refine lv_iinc (v := x4) (lv' := [(4, .int x4), (0, .ref h0), (1, .int (nI bd)), (2, .int wh), (3, .int cn2), (5, .int (nI m5))]) hx hb dX7_count_150 hl (k := 4) rfl (by rw [ex4]; rfl) (by decide) rfl (fun ls hl => ?_)
            obtain rfl : x4 = nI (c4 + 1) := by rw [ex4]; exact nI_add (c4) 1
            refine lv_goto (tgt := 39) hx hb dX7_count_153 (by decide) ?_
            exact ih39 bd cn2 (c4 + 1) th _ _ ls (by omega) (by first | omega | assumption | trivial) (by first | omega | assumption | trivial) hP hD hS (lv_sub hl [1, 2, 3, 4, 0] rfl)
          · have qcp77 : ¬ ((12 * c4) + (mb c4)) ≤ m5 := fun h9 => cp77 ((nI_leI (a := (12 * c4) + (mb c4)) (b := m5) (by omega) (by omega)).mpr h9)
            refine lv_iload_n hx hb dX7_count_80 rfl (lv_at hl 3 rfl) ?_
            refine lv_iload_n hx hb dX7_count_81 rfl (lv_at hl 2 rfl) ?_
            refine lv_iconst (v := 1) hx hb dX7_count_82 (by decide) ?_
            refine lv_icmp_ne (tgt := 104) hx hb dX7_count_83 (by decide) (fun cp83 => ?_) (fun cp83 => ?_)
            · refine lv_iload_n hx hb dX7_count_104 rfl (lv_at hl 2 rfl) ?_
              refine lv_iconst (v := 2) hx hb dX7_count_105 (by decide) ?_
              refine lv_icmp_ne (tgt := 127) hx hb dX7_count_106 (by decide) (fun cp106 => ?_) (fun cp106 => ?_)
              · refine lv_aload_n hx hb dX7_count_127 rfl (lv_at hl 0 rfl) ?_
                refine va_get (D := (dC, dI)) (ci := 6) (v := .ref (r 16)) (C := RX7) (T := TX7) (N := 46) hx hb hts hiX7 hown hK hP 0 rfl rfl 16 (by decide) (hts (.fieldLink RX7 55 "LinkModelsModel" "isConstant" "[Z") (by decide +kernel)) (fun _ h9 => h9) rfl dX7_count_128 ?_
                refine lv_iload hx hb dX7_count_131 (lv_at hl 5 rfl) ?_
                refine va_zald hx hb hK hP 14 2 rfl rfl (vp_in_nI (show m5 < 960 by omega) (by decide)) dX7_count_133 ?_
                refine lv_topi (fun x5 ex5 => ?_)
                obtain rfl : x5 = a16 m5 := by rw [ex5, nI_clamp (show m5 < 2 ^ 31 by omega)]
                refine lv_if_eq (tgt := 141) hx hb dX7_count_134 (by decide) (fun cp134 => ?_) (fun cp134 => ?_)
                · refine lv_iconst (v := 0) hx hb dX7_count_141 (by decide) ?_
                  refine lv_iadd hx hb dX7_count_142 ?_
                  refine lv_topi (fun x6 ex6 => ?_)
                  refine lv_istore_n (lv' := [(3, .int x6), (0, .ref h0), (1, .int (nI bd)), (2, .int wh), (4, .int (nI c4)), (5, .int (nI m5))]) hx hb dX7_count_143 rfl hl (by decide) rfl (fun ls hl => ?_)
                  obtain ⟨x7, ex7⟩ : ∃ y : Int32, y = (nI m5) + 1 := ⟨_, rfl⟩
                  refine lv_iinc (v := x7) (lv' := [(5, .int x7), (3, .int x6), (0, .ref h0), (1, .int (nI bd)), (2, .int wh), (4, .int (nI c4))]) hx hb dX7_count_144 hl (k := 5) rfl (by rw [ex7]; rfl) (by decide) rfl (fun ls hl => ?_)
                  obtain rfl : x7 = nI (m5 + 1) := by rw [ex7]; exact nI_add (m5) 1
                  refine lv_goto (tgt := 62) hx hb dX7_count_147 (by decide) ?_
                  exact ih62 x6 (m5 + 1) _ _ ls (by omega) (by first | omega | assumption | trivial) (by first | omega | assumption | trivial) hP hD hS (lv_sub hl [2, 3, 4, 1, 5, 0] rfl)
                · refine lv_iconst (v := 1) hx hb dX7_count_137 (by decide) ?_
                  refine lv_goto (tgt := 142) hx hb dX7_count_138 (by decide) ?_
                  refine lv_iadd hx hb dX7_count_142 ?_
                  refine lv_topi (fun x8 ex8 => ?_)
                  refine lv_istore_n (lv' := [(3, .int x8), (0, .ref h0), (1, .int (nI bd)), (2, .int wh), (4, .int (nI c4)), (5, .int (nI m5))]) hx hb dX7_count_143 rfl hl (by decide) rfl (fun ls hl => ?_)
                  obtain ⟨x9, ex9⟩ : ∃ y : Int32, y = (nI m5) + 1 := ⟨_, rfl⟩
                  refine lv_iinc (v := x9) (lv' := [(5, .int x9), (3, .int x8), (0, .ref h0), (1, .int (nI bd)), (2, .int wh), (4, .int (nI c4))]) hx hb dX7_count_144 hl (k := 5) rfl (by rw [ex9]; rfl) (by decide) rfl (fun ls hl => ?_)
                  obtain rfl : x9 = nI (m5 + 1) := by rw [ex9]; exact nI_add (m5) 1
                  refine lv_goto (tgt := 62) hx hb dX7_count_147 (by decide) ?_
                  exact ih62 x8 (m5 + 1) _ _ ls (by omega) (by first | omega | assumption | trivial) (by first | omega | assumption | trivial) hP hD hS (lv_sub hl [2, 3, 4, 1, 5, 0] rfl)
              · refine lv_aload_n hx hb dX7_count_109 rfl (lv_at hl 0 rfl) ?_
                refine va_get (D := (dC, dI)) (ci := 6) (v := .ref (r 15)) (C := RX7) (T := TX7) (N := 46) hx hb hts hiX7 hown hK hP 0 rfl rfl 15 (by decide) (hts (.fieldLink RX7 51 "LinkModelsModel" "isMethod" "[Z") (by decide +kernel)) (fun _ h9 => h9) rfl dX7_count_110 ?_
                refine lv_iload hx hb dX7_count_113 (lv_at hl 5 rfl) ?_
                refine va_zald hx hb hK hP 13 2 rfl rfl (vp_in_nI (show m5 < 960 by omega) (by decide)) dX7_count_115 ?_
                refine lv_topi (fun x10 ex10 => ?_)
                obtain rfl : x10 = a15 m5 := by rw [ex10, nI_clamp (show m5 < 2 ^ 31 by omega)]
                refine lv_if_eq (tgt := 123) hx hb dX7_count_116 (by decide) (fun cp116 => ?_) (fun cp116 => ?_)
                · refine lv_iconst (v := 0) hx hb dX7_count_123 (by decide) ?_
                  refine lv_goto (tgt := 142) hx hb dX7_count_124 (by decide) ?_
                  refine lv_iadd hx hb dX7_count_142 ?_
                  refine lv_topi (fun x11 ex11 => ?_)
                  refine lv_istore_n (lv' := [(3, .int x11), (0, .ref h0), (1, .int (nI bd)), (2, .int wh), (4, .int (nI c4)), (5, .int (nI m5))]) hx hb dX7_count_143 rfl hl (by decide) rfl (fun ls hl => ?_)
                  obtain ⟨x12, ex12⟩ : ∃ y : Int32, y = (nI m5) + 1 := ⟨_, rfl⟩
                  refine lv_iinc (v := x12) (lv' := [(5, .int x12), (3, .int x11), (0, .ref h0), (1, .int (nI bd)), (2, .int wh), (4, .int (nI c4))]) hx hb dX7_count_144 hl (k := 5) rfl (by rw [ex12]; rfl) (by decide) rfl (fun ls hl => ?_)
                  obtain rfl : x12 = nI (m5 + 1) := by rw [ex12]; exact nI_add (m5) 1
                  refine lv_goto (tgt := 62) hx hb dX7_count_147 (by decide) ?_
                  exact ih62 x11 (m5 + 1) _ _ ls (by omega) (by first | omega | assumption | trivial) (by first | omega | assumption | trivial) hP hD hS (lv_sub hl [2, 3, 4, 1, 5, 0] rfl)
                · refine lv_iconst (v := 1) hx hb dX7_count_119 (by decide) ?_
                  refine lv_goto (tgt := 142) hx hb dX7_count_120 (by decide) ?_
                  refine lv_iadd hx hb dX7_count_142 ?_
                  refine lv_topi (fun x13 ex13 => ?_)
                  refine lv_istore_n (lv' := [(3, .int x13), (0, .ref h0), (1, .int (nI bd)), (2, .int wh), (4, .int (nI c4)), (5, .int (nI m5))]) hx hb dX7_count_143 rfl hl (by decide) rfl (fun ls hl => ?_)
                  obtain ⟨x14, ex14⟩ : ∃ y : Int32, y = (nI m5) + 1 := ⟨_, rfl⟩
                  refine lv_iinc (v := x14) (lv' := [(5, .int x14), (3, .int x13), (0, .ref h0), (1, .int (nI bd)), (2, .int wh), (4, .int (nI c4))]) hx hb dX7_count_144 hl (k := 5) rfl (by rw [ex14]; rfl) (by decide) rfl (fun ls hl => ?_)
                  obtain rfl : x14 = nI (m5 + 1) := by rw [ex14]; exact nI_add (m5) 1
                  refine lv_goto (tgt := 62) hx hb dX7_count_147 (by decide) ?_
                  exact ih62 x13 (m5 + 1) _ _ ls (by omega) (by first | omega | assumption | trivial) (by first | omega | assumption | trivial) hP hD hS (lv_sub hl [2, 3, 4, 1, 5, 0] rfl)
            · refine lv_aload_n hx hb dX7_count_86 rfl (lv_at hl 0 rfl) ?_
              refine va_get (D := (dC, dI)) (ci := 6) (v := .ref (r 15)) (C := RX7) (T := TX7) (N := 46) hx hb hts hiX7 hown hK hP 0 rfl rfl 15 (by decide) (hts (.fieldLink RX7 51 "LinkModelsModel" "isMethod" "[Z") (by decide +kernel)) (fun _ h9 => h9) rfl dX7_count_87 ?_
              refine lv_iload hx hb dX7_count_90 (lv_at hl 5 rfl) ?_
              refine va_zald hx hb hK hP 13 2 rfl rfl (vp_in_nI (show m5 < 960 by omega) (by decide)) dX7_count_92 ?_
              refine lv_topi (fun x15 ex15 => ?_)
              obtain rfl : x15 = a15 m5 := by rw [ex15, nI_clamp (show m5 < 2 ^ 31 by omega)]
              refine lv_if_eq (tgt := 100) hx hb dX7_count_93 (by decide) (fun cp93 => ?_) (fun cp93 => ?_)
              · refine lv_iconst (v := 1) hx hb dX7_count_100 (by decide) ?_
                refine lv_goto (tgt := 142) hx hb dX7_count_101 (by decide) ?_
                refine lv_iadd hx hb dX7_count_142 ?_
                refine lv_topi (fun x16 ex16 => ?_)
                refine lv_istore_n (lv' := [(3, .int x16), (0, .ref h0), (1, .int (nI bd)), (2, .int wh), (4, .int (nI c4)), (5, .int (nI m5))]) hx hb dX7_count_143 rfl hl (by decide) rfl (fun ls hl => ?_)
                obtain ⟨x17, ex17⟩ : ∃ y : Int32, y = (nI m5) + 1 := ⟨_, rfl⟩
                refine lv_iinc (v := x17) (lv' := [(5, .int x17), (3, .int x16), (0, .ref h0), (1, .int (nI bd)), (2, .int wh), (4, .int (nI c4))]) hx hb dX7_count_144 hl (k := 5) rfl (by rw [ex17]; rfl) (by decide) rfl (fun ls hl => ?_)
                obtain rfl : x17 = nI (m5 + 1) := by rw [ex17]; exact nI_add (m5) 1
                refine lv_goto (tgt := 62) hx hb dX7_count_147 (by decide) ?_
                exact ih62 x16 (m5 + 1) _ _ ls (by omega) (by first | omega | assumption | trivial) (by first | omega | assumption | trivial) hP hD hS (lv_sub hl [2, 3, 4, 1, 5, 0] rfl)
              · refine lv_iconst (v := 0) hx hb dX7_count_96 (by decide) ?_
                refine lv_goto (tgt := 142) hx hb dX7_count_97 (by decide) ?_
                refine lv_iadd hx hb dX7_count_142 ?_
                refine lv_topi (fun x18 ex18 => ?_)
                refine lv_istore_n (lv' := [(3, .int x18), (0, .ref h0), (1, .int (nI bd)), (2, .int wh), (4, .int (nI c4)), (5, .int (nI m5))]) hx hb dX7_count_143 rfl hl (by decide) rfl (fun ls hl => ?_)
                obtain ⟨x19, ex19⟩ : ∃ y : Int32, y = (nI m5) + 1 := ⟨_, rfl⟩
                refine lv_iinc (v := x19) (lv' := [(5, .int x19), (3, .int x18), (0, .ref h0), (1, .int (nI bd)), (2, .int wh), (4, .int (nI c4))]) hx hb dX7_count_144 hl (k := 5) rfl (by rw [ex19]; rfl) (by decide) rfl (fun ls hl => ?_)
                obtain rfl : x19 = nI (m5 + 1) := by rw [ex19]; exact nI_add (m5) 1
                refine lv_goto (tgt := 62) hx hb dX7_count_147 (by decide) ?_
                exact ih62 x18 (m5 + 1) _ _ ls (by omega) (by first | omega | assumption | trivial) (by first | omega | assumption | trivial) hP hD hS (lv_sub hl [2, 3, 4, 1, 5, 0] rfl)
      refine lv_iload hx hb dX7_count_39 (lv_at hl 4 rfl) ?_
      refine lv_bipush (v := 16) hx hb dX7_count_41 (by decide) ?_
      refine lv_iload_n hx hb dX7_count_43 rfl (lv_at hl 1 rfl) ?_
      refine lv_imul hx hb dX7_count_44 ?_
      refine lv_topi (fun x20 ex20 => ?_)
      obtain rfl : x20 = nI (16 * bd) := by rw [ex20]; exact pk_mul (16) (bd)
      refine lv_aload_n hx hb dX7_count_45 rfl (lv_at hl 0 rfl) ?_
      refine va_get (D := (dC, dI)) (ci := 6) (v := .ref (r 4)) (C := RX7) (T := TX7) (N := 46) hx hb hts hiX7 hown hK hP 0 rfl rfl 4 (by decide) (hts (.fieldLink RX7 17 "LinkModelsModel" "classes" "[I") (by decide +kernel)) (fun _ h9 => h9) rfl dX7_count_46 ?_
      refine lv_iload_n hx hb dX7_count_49 rfl (lv_at hl 1 rfl) ?_
      refine va_iald hx hb hK hP 2 0 rfl rfl (vp_in_nI (show bd < 5 by omega) (by decide)) dX7_count_50 ?_
      refine lv_topi (fun x21 ex21 => ?_)
      obtain rfl : x21 = nI (cl bd) := by rw [ex21, nI_clamp (show bd < 2 ^ 31 by omega)]
      have hqx21 := hcl bd
      refine lv_iadd hx hb dX7_count_51 ?_
      refine lv_topi (fun x22 ex22 => ?_)
      obtain rfl : x22 = nI ((16 * bd) + (cl bd)) := by rw [ex22]; exact nI_add (16 * bd) (cl bd)
      refine lv_icmp_ge (tgt := 156) hx hb dX7_count_52 (by decide) (fun cp52 => ?_) (fun cp52 => ?_)
      · have qcp52 : ((16 * bd) + (cl bd)) ≤ c4 := (nI_leI (a := (16 * bd) + (cl bd)) (b := c4) (by omega) (by omega)).mp cp52
        refine lv_iload_n hx hb dX7_count_156 rfl (lv_at hl 2 rfl) ?_
        refine lv_if_ne (tgt := 169) hx hb dX7_count_157 (by decide) (fun cp157 => ?_) (fun cp157 => ?_)
        · refine lv_iload_n hx hb dX7_count_169 rfl (lv_at hl 3 rfl) ?_
          have hP9 : va_P (dC, dI) vwCl (rW h0 r cI cJ cZ th a1 (nI tp) (nI bs) (fun j => nI (cl j)) a5 a6 a7 (fun j => nI (fc j)) a9 (fun j => nI (mb j)) a11 a12 a13 a14 a15 a16 a17 a18 a19 a20 (nI az) v22 v23 v24 v25 v26 (nI bb) (fun j => nI (ct j)) (nI us) a30 a31 a32 a33 a34 a35 a36 a37 (fun j => nI (pil j)) (fun j => nI (rwv j)) (nI rl) v41 v42 v43 v44 v45) H := hP
          have hD9 : va_D A (rW h0 r cI cJ cZ th a1 (nI tp) (nI bs) (fun j => nI (cl j)) a5 a6 a7 (fun j => nI (fc j)) a9 (fun j => nI (mb j)) a11 a12 a13 a14 a15 a16 a17 a18 a19 a20 (nI az) v22 v23 v24 v25 v26 (nI bb) (fun j => nI (ct j)) (nI us) a30 a31 a32 a33 a34 a35 a36 a37 (fun j => nI (pil j)) (fun j => nI (rwv j)) (nI rl) v41 v42 v43 v44 v45) := hD
          exact W.iret (v := cn) hx hb hr (fun t ht hW => ⟨⟨cn, (th), rfl, trivial, by rw [ht]; exact hP9, va_K.moved hW.alike hK, hD9⟩, hS.F ht⟩) hS.2.2 dX7_count_170
        · refine lv_aload_n hx hb dX7_count_160 rfl (lv_at hl 0 rfl) ?_
          refine va_get (D := (dC, dI)) (ci := 6) (v := .ref (r 4)) (C := RX7) (T := TX7) (N := 46) hx hb hts hiX7 hown hK hP 0 rfl rfl 4 (by decide) (hts (.fieldLink RX7 17 "LinkModelsModel" "classes" "[I") (by decide +kernel)) (fun _ h9 => h9) rfl dX7_count_161 ?_
          refine lv_iload_n hx hb dX7_count_164 rfl (lv_at hl 1 rfl) ?_
          refine va_iald hx hb hK hP 2 0 rfl rfl (vp_in_nI (show bd < 5 by omega) (by decide)) dX7_count_165 ?_
          refine lv_topi (fun x23 ex23 => ?_)
          obtain rfl : x23 = nI (cl bd) := by rw [ex23, nI_clamp (show bd < 2 ^ 31 by omega)]
          have hqx23 := hcl bd
          refine lv_goto (tgt := 170) hx hb dX7_count_166 (by decide) ?_
          have hP9 : va_P (dC, dI) vwCl (rW h0 r cI cJ cZ th a1 (nI tp) (nI bs) (fun j => nI (cl j)) a5 a6 a7 (fun j => nI (fc j)) a9 (fun j => nI (mb j)) a11 a12 a13 a14 a15 a16 a17 a18 a19 a20 (nI az) v22 v23 v24 v25 v26 (nI bb) (fun j => nI (ct j)) (nI us) a30 a31 a32 a33 a34 a35 a36 a37 (fun j => nI (pil j)) (fun j => nI (rwv j)) (nI rl) v41 v42 v43 v44 v45) H := hP
          have hD9 : va_D A (rW h0 r cI cJ cZ th a1 (nI tp) (nI bs) (fun j => nI (cl j)) a5 a6 a7 (fun j => nI (fc j)) a9 (fun j => nI (mb j)) a11 a12 a13 a14 a15 a16 a17 a18 a19 a20 (nI az) v22 v23 v24 v25 v26 (nI bb) (fun j => nI (ct j)) (nI us) a30 a31 a32 a33 a34 a35 a36 a37 (fun j => nI (pil j)) (fun j => nI (rwv j)) (nI rl) v41 v42 v43 v44 v45) := hD
          exact W.iret (v := (nI (cl bd))) hx hb hr (fun t ht hW => ⟨⟨(nI (cl bd)), (th), rfl, trivial, by rw [ht]; exact hP9, va_K.moved hW.alike hK, hD9⟩, hS.F ht⟩) hS.2.2 dX7_count_170
      · have qcp52 : ¬ ((16 * bd) + (cl bd)) ≤ c4 := fun h9 => cp52 ((nI_leI (a := (16 * bd) + (cl bd)) (b := c4) (by omega) (by omega)).mpr h9)
        refine lv_bipush (v := 12) hx hb dX7_count_55 (by decide) ?_
        refine lv_iload hx hb dX7_count_57 (lv_at hl 4 rfl) ?_
        refine lv_imul hx hb dX7_count_59 ?_
        refine lv_topi (fun x24 ex24 => ?_)
        obtain rfl : x24 = nI (12 * c4) := by rw [ex24]; exact pk_mul (12) (c4)
        refine lv_istore (lv' := [(5, .int (nI (12 * c4))), (0, .ref h0), (1, .int (nI bd)), (2, .int wh), (3, .int cn), (4, .int (nI c4))]) hx hb dX7_count_60 hl (by decide) rfl (fun ls hl => ?_)
        exact J62 _ cn (12 * c4) _ _ ls (Nat.lt_succ_self _) (by first | omega | assumption | trivial) (by first | omega | assumption | trivial) hP hD hS (lv_sub hl [1, 2, 3, 4, 5, 0] rfl)
  refine lv_aload_n hx hb dX7_count_0 rfl (lv_at hl 0 rfl) ?_
  refine lv_iconst (v := 0) hx hb dX7_count_1 (by decide) ?_
  refine va_put (D := (dC, dI)) (ci := 6) (v := .int 0) (ty := (.int)) (C := RX7) (T := TX7) (N := 46) hx hb hts hiX7 tyX7 tyX7_ok nmX7 hown hK hP hD hS 0 rfl rfl 0 (by decide) (hts (.fieldLink RX7 1 "LinkModelsModel" "thrown" "I") (by decide +kernel)) (fun _ h9 => h9) rfl (by decide +kernel) rfl rfl (Nat.le_of_ble_eq_true rfl) dX7_count_2 (fun H locs hP hD hS => ?_)
  have hP : va_P (dC, dI) vwCl (rW h0 r cI cJ cZ 0 a1 (nI tp) (nI bs) (fun j => nI (cl j)) a5 a6 a7 (fun j => nI (fc j)) a9 (fun j => nI (mb j)) a11 a12 a13 a14 a15 a16 a17 a18 a19 a20 (nI az) v22 v23 v24 v25 v26 (nI bb) (fun j => nI (ct j)) (nI us) a30 a31 a32 a33 a34 a35 a36 a37 (fun j => nI (pil j)) (fun j => nI (rwv j)) (nI rl) v41 v42 v43 v44 v45) H := hP
  have hD : va_D A (rW h0 r cI cJ cZ 0 a1 (nI tp) (nI bs) (fun j => nI (cl j)) a5 a6 a7 (fun j => nI (fc j)) a9 (fun j => nI (mb j)) a11 a12 a13 a14 a15 a16 a17 a18 a19 a20 (nI az) v22 v23 v24 v25 v26 (nI bb) (fun j => nI (ct j)) (nI us) a30 a31 a32 a33 a34 a35 a36 a37 (fun j => nI (pil j)) (fun j => nI (rwv j)) (nI rl) v41 v42 v43 v44 v45) := hD
  refine lv_aload_n hx hb dX7_count_5 rfl (lv_at hl 0 rfl) ?_
  refine lv_iload_n hx hb dX7_count_6 rfl (lv_at hl 1 rfl) ?_
  have hFc := z_freeW hD hS hA
  refine vp_callSi (W.runV (As := [.int xb]) (rest := []) ⟨hx, hb, hml, hown, hts⟩ (kX7_isBuild l dC dI h0 r cI cJ cZ 0 a1 tp bs cl a5 a6 a7 fc a9 mb a11 a12 a13 a14 a15 a16 a17 a18 a19 a20 az v22 v23 v24 v25 v26 bb ct us a30 a31 a32 a33 a34 a35 a36 a37 pil rwv rl v41 v42 v43 v44 v45 ⟨by omega, by omega, by omega, hcl, hfc, hmb, hct, hpil, hrwv⟩ xb H.size) (cwV 1 hts zgX7_count_X7_isBuild_248 rfl rfl rfl (by decide +kernel) ⟨(show 1 + 1 ≤ 2 by omega), (show 8 + (2 + 11) + 25 ≤ 46 by omega)⟩) (zVm (ci := 6) (q0 := 0) (q := (RX7, TX7, 46)) hK hP hD hL hS.2.1 hFc rfl rfl rfl) rfl rfl hl.1 rfl (lv_room (Nat.le_of_ble_eq_true rfl)) dX7_count_7 ⟨(show 0 + 0 ≤ 0 by omega), (show 0 + 0 ≤ 0 by omega)⟩) (fun r25 hw => ?_)
  have hw : (r25 = 0 ∨ r25 = 1) ∧ (r25 = 1 → ∃ k, k < bs ∧ xb = nI k) := hw
  obtain ⟨w0r25, w1r25⟩ := hw
  refine lv_if_ne (tgt := 16) hx hb dX7_count_10 (by decide) (fun cp10 => ?_) (fun cp10 => ?_)
  · obtain ⟨k26, hBk26, rfl⟩ := w1r25 (w0r25.resolve_left cp10)
    refine lv_iload_n hx hb dX7_count_16 rfl (lv_at hl 2 rfl) ?_
    refine lv_i2l hx hb dX7_count_17 rfl ?_
    refine lv_topl (fun x27 ex27 => ?_)
    refine lv_lconst (v := 0) hx hb dX7_count_18 (by decide) ?_
    refine lv_ldc2 (v := 3) hx hb hown (hts (.constantLong RX7 254 (3)) (by decide +kernel)) dX7_count_19 ?_
    refine vp_callSi (W.runS (As := [.long x27, .long 0, .long 3]) (rest := []) ⟨hx, hb, hml, hown, hts⟩ (kX7_in l dC dI x27 (0 : Int64) (3 : Int64)) (va_cwS 3 hts zgX7_count_X7_in_105 rfl rfl rfl (by decide +kernel) ⟨(show 0 + 1 ≤ 2 by omega), (show 8 + (6 + 11) + 0 ≤ 46 by omega)⟩) (zSr (ws := []) (tys := []) (hK.sub (tys' := []) [] rfl) (hP.sub (ws' := []) [] rfl)) rfl rfl hl.1 rfl (lv_room (Nat.le_of_ble_eq_true rfl)) dX7_count_22 ⟨(show 0 + 0 ≤ 0 by omega), (show 0 + 0 ≤ 0 by omega)⟩) (fun r28 hw => ?_)
    have w0r28 : r28 = if (((0 : Int64)) ≤ x27 ∧ x27 ≤ ((3 : Int64))) then 1 else 0 := hw
    have wzr28 := z_if01 w0r28
    refine lv_if_ne (tgt := 31) hx hb dX7_count_25 (by decide) (fun cp25 => ?_) (fun cp25 => ?_)
    · refine lv_iconst (v := 0) hx hb dX7_count_31 (by decide) ?_
      refine lv_istore_n (lv' := [(3, .int 0), (0, .ref h0), (1, .int (nI k26)), (2, .int wh)]) hx hb dX7_count_32 rfl hl (by decide) rfl (fun ls hl => ?_)
      refine lv_bipush (v := 16) hx hb dX7_count_33 (by decide) ?_
      refine lv_iload_n hx hb dX7_count_35 rfl (lv_at hl 2 rfl) ?_
      refine lv_imul hx hb dX7_count_36 ?_
      refine lv_topi (fun x29 ex29 => ?_)
      obtain rfl : x29 = nI (16 * k26) := by rw [ex29]; exact pk_mul (16) (k26)
      refine lv_istore (lv' := [(4, .int (nI (16 * k26))), (3, .int 0), (0, .ref h0), (1, .int (nI k26)), (2, .int wh)]) hx hb dX7_count_37 hl (by decide) rfl (fun ls hl => ?_)
      exact J39 _ k26 (0 : Int32) (16 * k26) 0 _ _ ls (Nat.lt_succ_self _) (by first | omega | assumption | trivial) (by first | omega | assumption | trivial) hP hD hS (lv_sub hl [2, 3, 4, 1, 0] rfl)
    · refine lv_bipush (v := (-3)) hx hb dX7_count_28 (by decide) ?_
      have hP9 : va_P (dC, dI) vwCl (rW h0 r cI cJ cZ 0 a1 (nI tp) (nI bs) (fun j => nI (cl j)) a5 a6 a7 (fun j => nI (fc j)) a9 (fun j => nI (mb j)) a11 a12 a13 a14 a15 a16 a17 a18 a19 a20 (nI az) v22 v23 v24 v25 v26 (nI bb) (fun j => nI (ct j)) (nI us) a30 a31 a32 a33 a34 a35 a36 a37 (fun j => nI (pil j)) (fun j => nI (rwv j)) (nI rl) v41 v42 v43 v44 v45) H := hP
      have hD9 : va_D A (rW h0 r cI cJ cZ 0 a1 (nI tp) (nI bs) (fun j => nI (cl j)) a5 a6 a7 (fun j => nI (fc j)) a9 (fun j => nI (mb j)) a11 a12 a13 a14 a15 a16 a17 a18 a19 a20 (nI az) v22 v23 v24 v25 v26 (nI bb) (fun j => nI (ct j)) (nI us) a30 a31 a32 a33 a34 a35 a36 a37 (fun j => nI (pil j)) (fun j => nI (rwv j)) (nI rl) v41 v42 v43 v44 v45) := hD
      exact W.iret (v := (-3 : Int32)) hx hb hr (fun t ht hW => ⟨⟨(-3 : Int32), (0), rfl, trivial, by rw [ht]; exact hP9, va_K.moved hW.alike hK, hD9⟩, hS.F ht⟩) hS.2.2 dX7_count_30
  · refine lv_bipush (v := (-2)) hx hb dX7_count_13 (by decide) ?_
    have hP9 : va_P (dC, dI) vwCl (rW h0 r cI cJ cZ 0 a1 (nI tp) (nI bs) (fun j => nI (cl j)) a5 a6 a7 (fun j => nI (fc j)) a9 (fun j => nI (mb j)) a11 a12 a13 a14 a15 a16 a17 a18 a19 a20 (nI az) v22 v23 v24 v25 v26 (nI bb) (fun j => nI (ct j)) (nI us) a30 a31 a32 a33 a34 a35 a36 a37 (fun j => nI (pil j)) (fun j => nI (rwv j)) (nI rl) v41 v42 v43 v44 v45) H := hP
    have hD9 : va_D A (rW h0 r cI cJ cZ 0 a1 (nI tp) (nI bs) (fun j => nI (cl j)) a5 a6 a7 (fun j => nI (fc j)) a9 (fun j => nI (mb j)) a11 a12 a13 a14 a15 a16 a17 a18 a19 a20 (nI az) v22 v23 v24 v25 v26 (nI bb) (fun j => nI (ct j)) (nI us) a30 a31 a32 a33 a34 a35 a36 a37 (fun j => nI (pil j)) (fun j => nI (rwv j)) (nI rl) v41 v42 v43 v44 v45) := hD
    exact W.iret (v := (-2 : Int32)) hx hb hr (fun t ht hW => ⟨⟨(-2 : Int32), (0), rfl, trivial, by rw [ht]; exact hP9, va_K.moved hW.alike hK, hD9⟩, hS.F ht⟩) hS.2.2 dX7_count_15
theorem dX7_name_0 : decode cX7_name 0 = .ok (.aload_n 0, 1) := by decide +kernel
theorem dX7_name_1 : decode cX7_name 1 = .ok (.iconst 0, 1) := by decide +kernel
theorem dX7_name_2 : decode cX7_name 2 = .ok (.putfield 1, 3) := by decide +kernel
theorem dX7_name_5 : decode cX7_name 5 = .ok (.aload_n 0, 1) := by decide +kernel
theorem dX7_name_6 : decode cX7_name 6 = .ok (.iload_n 1, 1) := by decide +kernel
theorem dX7_name_7 : decode cX7_name 7 = .ok (.invokevirtual 248, 3) := by decide +kernel
theorem dX7_name_10 : decode cX7_name 10 = .ok (.ifCond .ne 6, 3) := by decide +kernel
theorem dX7_name_13 : decode cX7_name 13 = .ok (.bipush (-2), 2) := by decide +kernel
theorem dX7_name_15 : decode cX7_name 15 = .ok (.ireturn, 1) := by decide +kernel
theorem dX7_name_16 : decode cX7_name 16 = .ok (.iload_n 2, 1) := by decide +kernel
theorem dX7_name_17 : decode cX7_name 17 = .ok (.i2l, 1) := by decide +kernel
theorem dX7_name_18 : decode cX7_name 18 = .ok (.lconst 0, 1) := by decide +kernel
theorem dX7_name_19 : decode cX7_name 19 = .ok (.aload_n 0, 1) := by decide +kernel
theorem dX7_name_20 : decode cX7_name 20 = .ok (.getfield 17, 3) := by decide +kernel
theorem dX7_name_23 : decode cX7_name 23 = .ok (.iload_n 1, 1) := by decide +kernel
theorem dX7_name_24 : decode cX7_name 24 = .ok (.iaload, 1) := by decide +kernel
theorem dX7_name_25 : decode cX7_name 25 = .ok (.iconst 1, 1) := by decide +kernel
theorem dX7_name_26 : decode cX7_name 26 = .ok (.isub, 1) := by decide +kernel
theorem dX7_name_27 : decode cX7_name 27 = .ok (.i2l, 1) := by decide +kernel
theorem dX7_name_28 : decode cX7_name 28 = .ok (.invokestatic 105, 3) := by decide +kernel
theorem dX7_name_31 : decode cX7_name 31 = .ok (.ifCond .eq 17, 3) := by decide +kernel
theorem dX7_name_34 : decode cX7_name 34 = .ok (.aload_n 0, 1) := by decide +kernel
theorem dX7_name_35 : decode cX7_name 35 = .ok (.getfield 20, 3) := by decide +kernel
theorem dX7_name_38 : decode cX7_name 38 = .ok (.bipush 16, 2) := by decide +kernel
theorem dX7_name_40 : decode cX7_name 40 = .ok (.iload_n 1, 1) := by decide +kernel
theorem dX7_name_41 : decode cX7_name 41 = .ok (.imul, 1) := by decide +kernel
theorem dX7_name_42 : decode cX7_name 42 = .ok (.iload_n 2, 1) := by decide +kernel
theorem dX7_name_43 : decode cX7_name 43 = .ok (.iadd, 1) := by decide +kernel
theorem dX7_name_44 : decode cX7_name 44 = .ok (.iaload, 1) := by decide +kernel
theorem dX7_name_45 : decode cX7_name 45 = .ok (.goto 4, 3) := by decide +kernel
theorem dX7_name_48 : decode cX7_name 48 = .ok (.iconst (-1), 1) := by decide +kernel
theorem dX7_name_49 : decode cX7_name 49 = .ok (.ireturn, 1) := by decide +kernel
def zwX7_name : List Cond := .code yX7_name cX7_name 3 (some .int) :: ([.fieldLink RX7 1 "LinkModelsModel" "thrown" "I", .fieldLink RX7 17 "LinkModelsModel" "classes" "[I", .fieldLink RX7 20 "LinkModelsModel" "className" "[I", .methodLink RX7 248 yX7_isBuild, .instanceMethod yX7_isBuild, .selects RX7 yX7_isBuild yX7_isBuild, .initialized RX7, .code yX7_isBuild cX7_isBuild 2 (some .boolean), .fieldLink RX7 232 "LinkModelsModel" "builds" "I", .methodLink RX7 105 yX7_in, .static yX7_in, .code yX7_in cX7_in 6 (some .boolean)] ++ wsX70)
theorem zgX7_name_X7_isBuild_248 : GoodIn zwX7_name (wsV RX7 248 RX7 yX7_isBuild zwX7_isBuild) := goodIn_app (goodIn_r _ [4, 5, 6, 7] rfl (by decide +kernel)) (goodIn_ca (goodIn_r _ [8, 9, 10, 11, 7, 12] rfl (by decide +kernel)) (zgt zg7))
theorem zgX7_name_X7_in_105 : GoodIn zwX7_name (va_wsS RX7 105 yX7_in zwX7_in) := goodIn_app (goodIn_r _ [10, 11, 7] rfl (by decide +kernel)) (goodIn_r _ [12] rfl (by decide +kernel))
set_option maxHeartbeats 4000000 in
set_option maxRecDepth 100000 in
theorem kX7_name (l : Launch) (dC : Nat → ClassId) (dI : Nat → Nat → Nat) (h0 : Nat) (r : Nat → Nat) (cI : ClassId) (cJ : ClassId) (cZ : ClassId) (v0 : Int32) (a1 : Nat → Int32) (tp : Nat) (bs : Nat) (cl : Nat → Nat) (a5 : Nat → Int32) (a6 : Nat → Int32) (a7 : Nat → Int32) (fc : Nat → Nat) (a9 : Nat → Int32) (mb : Nat → Nat) (a11 : Nat → Int32) (a12 : Nat → Int32) (a13 : Nat → Int64) (a14 : Nat → Int32) (a15 : Nat → Int32) (a16 : Nat → Int32) (a17 : Nat → Int32) (a18 : Nat → Int32) (a19 : Nat → Int32) (a20 : Nat → Int32) (az : Nat) (v22 : Int32) (v23 : Int32) (v24 : Int64) (v25 : Int32) (v26 : Int32) (bb : Nat) (ct : Nat → Nat) (us : Nat) (a30 : Nat → Int32) (a31 : Nat → Int32) (a32 : Nat → Int32) (a33 : Nat → Int64) (a34 : Nat → Int32) (a35 : Nat → Int32) (a36 : Nat → Int32) (a37 : Nat → Int32) (pil : Nat → Nat) (rwv : Nat → Nat) (rl : Nat) (v41 : Int32) (v42 : Int32) (v43 : Int32) (v44 : Int32) (v45 : Int32) (hI : rWI tp bs cl fc mb az bb ct us pil rwv rl) (xb : Int32) (ii : Int32) (sz : Nat) : Met l yX7_name zwX7_name ({ frames := 2, cells := 0, slots := 0, locals := 46 }) (zPm dC dI [.ref h0, .int xb, .int ii] sz (rW h0 r cI cJ cZ v0 a1 (nI tp) (nI bs) (fun j => nI (cl j)) a5 a6 a7 (fun j => nI (fc j)) a9 (fun j => nI (mb j)) a11 a12 a13 a14 a15 a16 a17 a18 a19 a20 (nI az) v22 v23 v24 v25 v26 (nI bb) (fun j => nI (ct j)) (nI us) a30 a31 a32 a33 a34 a35 a36 a37 (fun j => nI (pil j)) (fun j => nI (rwv j)) (nI rl) v41 v42 v43 v44 v45) [(cI, .int), (cJ, .long), (cZ, .boolean)]) (va_Qi (fun (r : Int32) (u : Int32) => (True)) (fun u t => zB dC dI (va_A (rW h0 r cI cJ cZ v0 a1 (nI tp) (nI bs) (fun j => nI (cl j)) a5 a6 a7 (fun j => nI (fc j)) a9 (fun j => nI (mb j)) a11 a12 a13 a14 a15 a16 a17 a18 a19 a20 (nI az) v22 v23 v24 v25 v26 (nI bb) (fun j => nI (ct j)) (nI us) a30 a31 a32 a33 a34 a35 a36 a37 (fun j => nI (pil j)) (fun j => nI (rwv j)) (nI rl) v41 v42 v43 v44 v45) sz) (rW h0 r cI cJ cZ u a1 (nI tp) (nI bs) (fun j => nI (cl j)) a5 a6 a7 (fun j => nI (fc j)) a9 (fun j => nI (mb j)) a11 a12 a13 a14 a15 a16 a17 a18 a19 a20 (nI az) v22 v23 v24 v25 v26 (nI bb) (fun j => nI (ct j)) (nI us) a30 a31 a32 a33 a34 a35 a36 a37 (fun j => nI (pil j)) (fun j => nI (rwv j)) (nI rl) v41 v42 v43 v44 v45) [(cI, .int), (cJ, .long), (cZ, .boolean)] t) (va_A (rW h0 r cI cJ cZ v0 a1 (nI tp) (nI bs) (fun j => nI (cl j)) a5 a6 a7 (fun j => nI (fc j)) a9 (fun j => nI (mb j)) a11 a12 a13 a14 a15 a16 a17 a18 a19 a20 (nI az) v22 v23 v24 v25 v26 (nI bb) (fun j => nI (ct j)) (nI us) a30 a31 a32 a33 a34 a35 a36 a37 (fun j => nI (pil j)) (fun j => nI (rwv j)) (nI rl) v41 v42 v43 v44 v45) sz)) 0 0 (va_A (rW h0 r cI cJ cZ v0 a1 (nI tp) (nI bs) (fun j => nI (cl j)) a5 a6 a7 (fun j => nI (fc j)) a9 (fun j => nI (mb j)) a11 a12 a13 a14 a15 a16 a17 a18 a19 a20 (nI az) v22 v23 v24 v25 v26 (nI bb) (fun j => nI (ct j)) (nI us) a30 a31 a32 a33 a34 a35 a36 a37 (fun j => nI (pil j)) (fun j => nI (rwv j)) (nI rl) v41 v42 v43 v44 v45) sz) := by
  refine Met.ofW (cc := cX7_name) (maxL := 3) (ret := (some .int)) (by decide) rfl ?_
  intro p e s m args below meth c s₁ B hml hv
  obtain ⟨rfl, hsz, hP, hK, hD0, hL0⟩ := hv
  have hx := B.exec
  have hb := B.bytes
  have hr := B.returns
  have hts := atoms_spec (ws := zwX7_name) B.pre
  have hown : s.vm.findClass RX7 = some m.cls := findClass_of_methodNamed B.named
  have hiX7 : ∀ w ∈ wsX70, w ∈ zwX7_name := (fun _ h => List.mem_cons_of_mem _ (List.mem_append_right _ h))
  obtain ⟨htp, hbs, hus, hcl, hfc, hmb, hct, hpil, hrwv⟩ := hI
  subst hsz
  have hD := hD0.self (sz := s.heap.size)
  generalize hAe : va_A (rW h0 r cI cJ cZ v0 a1 (nI tp) (nI bs) (fun j => nI (cl j)) a5 a6 a7 (fun j => nI (fc j)) a9 (fun j => nI (mb j)) a11 a12 a13 a14 a15 a16 a17 a18 a19 a20 (nI az) v22 v23 v24 v25 v26 (nI bb) (fun j => nI (ct j)) (nI us) a30 a31 a32 a33 a34 a35 a36 a37 (fun j => nI (pil j)) (fun j => nI (rwv j)) (nI rl) v41 v42 v43 v44 v45) s.heap.size = A at hD hL0 ⊢
  have hA : ∀ q : Nat, s.heap.size ≤ q → A q := fun q h => by rw [← hAe]; exact Or.inr h
  have hS : va_S A s.heap s.heap [] := va_S.rf
  have hL := hL0
  have hl := lv_entry ([.ref h0, .int xb, .int ii]) (n := 3) (Nat.le_of_ble_eq_true rfl)
  rw [lg_entry_eq]
  generalize (lg_sl ([.ref h0, .int xb, .int ii]) ++ List.replicate (3 - (lg_sl ([.ref h0, .int xb, .int ii])).length) Slot.unset).toArray = ls at hl ⊢
  have hl : lv_has ls 3 [(0, .ref h0), (1, .int xb), (2, .int ii)] := hl
  refine lv_aload_n hx hb dX7_name_0 rfl (lv_at hl 0 rfl) ?_
  refine lv_iconst (v := 0) hx hb dX7_name_1 (by decide) ?_
  refine va_put (D := (dC, dI)) (ci := 6) (v := .int 0) (ty := (.int)) (C := RX7) (T := TX7) (N := 46) hx hb hts hiX7 tyX7 tyX7_ok nmX7 hown hK hP hD hS 0 rfl rfl 0 (by decide) (hts (.fieldLink RX7 1 "LinkModelsModel" "thrown" "I") (by decide +kernel)) (fun _ h9 => h9) rfl (by decide +kernel) rfl rfl (Nat.le_of_ble_eq_true rfl) dX7_name_2 (fun H locs hP hD hS => ?_)
  have hP : va_P (dC, dI) vwCl (rW h0 r cI cJ cZ 0 a1 (nI tp) (nI bs) (fun j => nI (cl j)) a5 a6 a7 (fun j => nI (fc j)) a9 (fun j => nI (mb j)) a11 a12 a13 a14 a15 a16 a17 a18 a19 a20 (nI az) v22 v23 v24 v25 v26 (nI bb) (fun j => nI (ct j)) (nI us) a30 a31 a32 a33 a34 a35 a36 a37 (fun j => nI (pil j)) (fun j => nI (rwv j)) (nI rl) v41 v42 v43 v44 v45) H := hP
  have hD : va_D A (rW h0 r cI cJ cZ 0 a1 (nI tp) (nI bs) (fun j => nI (cl j)) a5 a6 a7 (fun j => nI (fc j)) a9 (fun j => nI (mb j)) a11 a12 a13 a14 a15 a16 a17 a18 a19 a20 (nI az) v22 v23 v24 v25 v26 (nI bb) (fun j => nI (ct j)) (nI us) a30 a31 a32 a33 a34 a35 a36 a37 (fun j => nI (pil j)) (fun j => nI (rwv j)) (nI rl) v41 v42 v43 v44 v45) := hD
  refine lv_aload_n hx hb dX7_name_5 rfl (lv_at hl 0 rfl) ?_
  refine lv_iload_n hx hb dX7_name_6 rfl (lv_at hl 1 rfl) ?_
  have hFc := z_freeW hD hS hA
  refine vp_callSi (W.runV (As := [.int xb]) (rest := []) ⟨hx, hb, hml, hown, hts⟩ (kX7_isBuild l dC dI h0 r cI cJ cZ 0 a1 tp bs cl a5 a6 a7 fc a9 mb a11 a12 a13 a14 a15 a16 a17 a18 a19 a20 az v22 v23 v24 v25 v26 bb ct us a30 a31 a32 a33 a34 a35 a36 a37 pil rwv rl v41 v42 v43 v44 v45 ⟨by omega, by omega, by omega, hcl, hfc, hmb, hct, hpil, hrwv⟩ xb H.size) (cwV 1 hts zgX7_name_X7_isBuild_248 rfl rfl rfl (by decide +kernel) ⟨(show 1 + 1 ≤ 2 by omega), (show 8 + (2 + 11) + 25 ≤ 46 by omega)⟩) (zVm (ci := 6) (q0 := 0) (q := (RX7, TX7, 46)) hK hP hD hL hS.2.1 hFc rfl rfl rfl) rfl rfl hl.1 rfl (lv_room (Nat.le_of_ble_eq_true rfl)) dX7_name_7 ⟨(show 0 + 0 ≤ 0 by omega), (show 0 + 0 ≤ 0 by omega)⟩) (fun r1 hw => ?_)
  have hw : (r1 = 0 ∨ r1 = 1) ∧ (r1 = 1 → ∃ k, k < bs ∧ xb = nI k) := hw
  obtain ⟨w0r1, w1r1⟩ := hw
  refine lv_if_ne (tgt := 16) hx hb dX7_name_10 (by decide) (fun cp10 => ?_) (fun cp10 => ?_)
  · obtain ⟨k2, hBk2, rfl⟩ := w1r1 (w0r1.resolve_left cp10)
    refine lv_iload_n hx hb dX7_name_16 rfl (lv_at hl 2 rfl) ?_
    refine lv_i2l hx hb dX7_name_17 rfl ?_
    refine lv_topl (fun x3 ex3 => ?_)
    refine lv_lconst (v := 0) hx hb dX7_name_18 (by decide) ?_
    refine lv_aload_n hx hb dX7_name_19 rfl (lv_at hl 0 rfl) ?_
    refine va_get (D := (dC, dI)) (ci := 6) (v := .ref (r 4)) (C := RX7) (T := TX7) (N := 46) hx hb hts hiX7 hown hK hP 0 rfl rfl 4 (by decide) (hts (.fieldLink RX7 17 "LinkModelsModel" "classes" "[I") (by decide +kernel)) (fun _ h9 => h9) rfl dX7_name_20 ?_
    refine lv_iload_n hx hb dX7_name_23 rfl (lv_at hl 1 rfl) ?_
    refine va_iald hx hb hK hP 2 0 rfl rfl (vp_in_nI (show k2 < 5 by omega) (by decide)) dX7_name_24 ?_
    refine lv_topi (fun x4 ex4 => ?_)
    obtain rfl : x4 = nI (cl k2) := by rw [ex4, nI_clamp (show k2 < 2 ^ 31 by omega)]
    have hqx4 := hcl k2
    refine lv_iconst (v := 1) hx hb dX7_name_25 (by decide) ?_
    refine lv_isub hx hb dX7_name_26 ?_
    refine lv_topi (fun x5 ex5 => ?_)
    refine lv_i2l hx hb dX7_name_27 rfl ?_
    refine lv_topl (fun x6 ex6 => ?_)
    refine vp_callSi (W.runS (As := [.long x3, .long 0, .long x6]) (rest := []) ⟨hx, hb, hml, hown, hts⟩ (kX7_in l dC dI x3 (0 : Int64) x6) (va_cwS 3 hts zgX7_name_X7_in_105 rfl rfl rfl (by decide +kernel) ⟨(show 0 + 1 ≤ 2 by omega), (show 8 + (6 + 11) + 0 ≤ 46 by omega)⟩) (zSr (ws := []) (tys := []) (hK.sub (tys' := []) [] rfl) (hP.sub (ws' := []) [] rfl)) rfl rfl hl.1 rfl (lv_room (Nat.le_of_ble_eq_true rfl)) dX7_name_28 ⟨(show 0 + 0 ≤ 0 by omega), (show 0 + 0 ≤ 0 by omega)⟩) (fun r7 hw => ?_)
    have w0r7 : r7 = if (((0 : Int64)) ≤ x3 ∧ x3 ≤ x6) then 1 else 0 := hw
    have wzr7 := z_if01 w0r7
    refine lv_if_eq (tgt := 48) hx hb dX7_name_31 (by decide) (fun cp31 => ?_) (fun cp31 => ?_)
    · refine lv_iconst (v := (-1)) hx hb dX7_name_48 (by decide) ?_
      have hP9 : va_P (dC, dI) vwCl (rW h0 r cI cJ cZ 0 a1 (nI tp) (nI bs) (fun j => nI (cl j)) a5 a6 a7 (fun j => nI (fc j)) a9 (fun j => nI (mb j)) a11 a12 a13 a14 a15 a16 a17 a18 a19 a20 (nI az) v22 v23 v24 v25 v26 (nI bb) (fun j => nI (ct j)) (nI us) a30 a31 a32 a33 a34 a35 a36 a37 (fun j => nI (pil j)) (fun j => nI (rwv j)) (nI rl) v41 v42 v43 v44 v45) H := hP
      have hD9 : va_D A (rW h0 r cI cJ cZ 0 a1 (nI tp) (nI bs) (fun j => nI (cl j)) a5 a6 a7 (fun j => nI (fc j)) a9 (fun j => nI (mb j)) a11 a12 a13 a14 a15 a16 a17 a18 a19 a20 (nI az) v22 v23 v24 v25 v26 (nI bb) (fun j => nI (ct j)) (nI us) a30 a31 a32 a33 a34 a35 a36 a37 (fun j => nI (pil j)) (fun j => nI (rwv j)) (nI rl) v41 v42 v43 v44 v45) := hD
      exact W.iret (v := (-1 : Int32)) hx hb hr (fun t ht hW => ⟨⟨(-1 : Int32), (0), rfl, trivial, by rw [ht]; exact hP9, va_K.moved hW.alike hK, hD9⟩, hS.F ht⟩) hS.2.2 dX7_name_49
    · obtain ⟨i8, hi8, rfl⟩ := z_inB (by omega) ex3 ex6 ex5 (z_if1 w0r7 (wzr7.resolve_left cp31))
      refine lv_aload_n hx hb dX7_name_34 rfl (lv_at hl 0 rfl) ?_
      refine va_get (D := (dC, dI)) (ci := 6) (v := .ref (r 5)) (C := RX7) (T := TX7) (N := 46) hx hb hts hiX7 hown hK hP 0 rfl rfl 5 (by decide) (hts (.fieldLink RX7 20 "LinkModelsModel" "className" "[I") (by decide +kernel)) (fun _ h9 => h9) rfl dX7_name_35 ?_
      refine lv_bipush (v := 16) hx hb dX7_name_38 (by decide) ?_
      refine lv_iload_n hx hb dX7_name_40 rfl (lv_at hl 1 rfl) ?_
      refine lv_imul hx hb dX7_name_41 ?_
      refine lv_topi (fun x8 ex8 => ?_)
      obtain rfl : x8 = nI (16 * k2) := by rw [ex8]; exact pk_mul (16) (k2)
      refine lv_iload_n hx hb dX7_name_42 rfl (lv_at hl 2 rfl) ?_
      refine lv_iadd hx hb dX7_name_43 ?_
      refine lv_topi (fun x9 ex9 => ?_)
      obtain rfl : x9 = nI ((16 * k2) + i8) := by rw [ex9]; exact nI_add (16 * k2) (i8)
      refine va_iald hx hb hK hP 3 0 rfl rfl (vp_in_nI (show (16 * k2) + i8 < 80 by omega) (by decide)) dX7_name_44 ?_
      refine lv_topi (fun x10 ex10 => ?_)
      obtain rfl : x10 = a5 ((16 * k2) + i8) := by rw [ex10, nI_clamp (show (16 * k2) + i8 < 2 ^ 31 by omega)]
      refine lv_goto (tgt := 49) hx hb dX7_name_45 (by decide) ?_
      have hP9 : va_P (dC, dI) vwCl (rW h0 r cI cJ cZ 0 a1 (nI tp) (nI bs) (fun j => nI (cl j)) a5 a6 a7 (fun j => nI (fc j)) a9 (fun j => nI (mb j)) a11 a12 a13 a14 a15 a16 a17 a18 a19 a20 (nI az) v22 v23 v24 v25 v26 (nI bb) (fun j => nI (ct j)) (nI us) a30 a31 a32 a33 a34 a35 a36 a37 (fun j => nI (pil j)) (fun j => nI (rwv j)) (nI rl) v41 v42 v43 v44 v45) H := hP
      have hD9 : va_D A (rW h0 r cI cJ cZ 0 a1 (nI tp) (nI bs) (fun j => nI (cl j)) a5 a6 a7 (fun j => nI (fc j)) a9 (fun j => nI (mb j)) a11 a12 a13 a14 a15 a16 a17 a18 a19 a20 (nI az) v22 v23 v24 v25 v26 (nI bb) (fun j => nI (ct j)) (nI us) a30 a31 a32 a33 a34 a35 a36 a37 (fun j => nI (pil j)) (fun j => nI (rwv j)) (nI rl) v41 v42 v43 v44 v45) := hD
      exact W.iret (v := (a5 ((16 * k2) + i8))) hx hb hr (fun t ht hW => ⟨⟨(a5 ((16 * k2) + i8)), (0), rfl, trivial, by rw [ht]; exact hP9, va_K.moved hW.alike hK, hD9⟩, hS.F ht⟩) hS.2.2 dX7_name_49
  · refine lv_bipush (v := (-2)) hx hb dX7_name_13 (by decide) ?_
    have hP9 : va_P (dC, dI) vwCl (rW h0 r cI cJ cZ 0 a1 (nI tp) (nI bs) (fun j => nI (cl j)) a5 a6 a7 (fun j => nI (fc j)) a9 (fun j => nI (mb j)) a11 a12 a13 a14 a15 a16 a17 a18 a19 a20 (nI az) v22 v23 v24 v25 v26 (nI bb) (fun j => nI (ct j)) (nI us) a30 a31 a32 a33 a34 a35 a36 a37 (fun j => nI (pil j)) (fun j => nI (rwv j)) (nI rl) v41 v42 v43 v44 v45) H := hP
    have hD9 : va_D A (rW h0 r cI cJ cZ 0 a1 (nI tp) (nI bs) (fun j => nI (cl j)) a5 a6 a7 (fun j => nI (fc j)) a9 (fun j => nI (mb j)) a11 a12 a13 a14 a15 a16 a17 a18 a19 a20 (nI az) v22 v23 v24 v25 v26 (nI bb) (fun j => nI (ct j)) (nI us) a30 a31 a32 a33 a34 a35 a36 a37 (fun j => nI (pil j)) (fun j => nI (rwv j)) (nI rl) v41 v42 v43 v44 v45) := hD
    exact W.iret (v := (-2 : Int32)) hx hb hr (fun t ht hW => ⟨⟨(-2 : Int32), (0), rfl, trivial, by rw [ht]; exact hP9, va_K.moved hW.alike hK, hD9⟩, hS.F ht⟩) hS.2.2 dX7_name_15
theorem dX7_is_0 : decode cX7_is 0 = .ok (.aload_n 0, 1) := by decide +kernel
theorem dX7_is_1 : decode cX7_is 1 = .ok (.iconst 0, 1) := by decide +kernel
theorem dX7_is_2 : decode cX7_is 2 = .ok (.putfield 1, 3) := by decide +kernel
theorem dX7_is_5 : decode cX7_is 5 = .ok (.aload_n 0, 1) := by decide +kernel
theorem dX7_is_6 : decode cX7_is 6 = .ok (.iload_n 1, 1) := by decide +kernel
theorem dX7_is_7 : decode cX7_is 7 = .ok (.invokevirtual 248, 3) := by decide +kernel
theorem dX7_is_10 : decode cX7_is 10 = .ok (.ifCond .ne 6, 3) := by decide +kernel
theorem dX7_is_13 : decode cX7_is 13 = .ok (.bipush (-2), 2) := by decide +kernel
theorem dX7_is_15 : decode cX7_is 15 = .ok (.ireturn, 1) := by decide +kernel
theorem dX7_is_16 : decode cX7_is 16 = .ok (.aload_n 0, 1) := by decide +kernel
theorem dX7_is_17 : decode cX7_is 17 = .ok (.iload_n 1, 1) := by decide +kernel
theorem dX7_is_18 : decode cX7_is 18 = .ok (.iload_n 2, 1) := by decide +kernel
theorem dX7_is_19 : decode cX7_is 19 = .ok (.invokevirtual 251, 3) := by decide +kernel
theorem dX7_is_22 : decode cX7_is 22 = .ok (.istore 4, 2) := by decide +kernel
theorem dX7_is_24 : decode cX7_is 24 = .ok (.iload 4, 2) := by decide +kernel
theorem dX7_is_26 : decode cX7_is 26 = .ok (.ifCond .le 8, 3) := by decide +kernel
theorem dX7_is_29 : decode cX7_is 29 = .ok (.iload 4, 2) := by decide +kernel
theorem dX7_is_31 : decode cX7_is 31 = .ok (.goto 9, 3) := by decide +kernel
theorem dX7_is_34 : decode cX7_is 34 = .ok (.aload_n 0, 1) := by decide +kernel
theorem dX7_is_35 : decode cX7_is 35 = .ok (.iload_n 1, 1) := by decide +kernel
theorem dX7_is_36 : decode cX7_is 36 = .ok (.iload_n 3, 1) := by decide +kernel
theorem dX7_is_37 : decode cX7_is 37 = .ok (.invokevirtual 251, 3) := by decide +kernel
theorem dX7_is_40 : decode cX7_is 40 = .ok (.istore 4, 2) := by decide +kernel
theorem dX7_is_42 : decode cX7_is 42 = .ok (.iload 4, 2) := by decide +kernel
theorem dX7_is_44 : decode cX7_is 44 = .ok (.ifCond .le 11, 3) := by decide +kernel
theorem dX7_is_47 : decode cX7_is 47 = .ok (.bipush (-10), 2) := by decide +kernel
theorem dX7_is_49 : decode cX7_is 49 = .ok (.iload 4, 2) := by decide +kernel
theorem dX7_is_51 : decode cX7_is 51 = .ok (.isub, 1) := by decide +kernel
theorem dX7_is_52 : decode cX7_is 52 = .ok (.goto 28, 3) := by decide +kernel
theorem dX7_is_55 : decode cX7_is 55 = .ok (.aload_n 0, 1) := by decide +kernel
theorem dX7_is_56 : decode cX7_is 56 = .ok (.iload_n 1, 1) := by decide +kernel
theorem dX7_is_57 : decode cX7_is 57 = .ok (.aload_n 0, 1) := by decide +kernel
theorem dX7_is_58 : decode cX7_is 58 = .ok (.iload_n 1, 1) := by decide +kernel
theorem dX7_is_59 : decode cX7_is 59 = .ok (.iload_n 2, 1) := by decide +kernel
theorem dX7_is_60 : decode cX7_is 60 = .ok (.invokevirtual 201, 3) := by decide +kernel
theorem dX7_is_63 : decode cX7_is 63 = .ok (.aload_n 0, 1) := by decide +kernel
theorem dX7_is_64 : decode cX7_is 64 = .ok (.iload_n 1, 1) := by decide +kernel
theorem dX7_is_65 : decode cX7_is 65 = .ok (.iload_n 3, 1) := by decide +kernel
theorem dX7_is_66 : decode cX7_is 66 = .ok (.invokevirtual 201, 3) := by decide +kernel
theorem dX7_is_69 : decode cX7_is 69 = .ok (.invokevirtual 256, 3) := by decide +kernel
theorem dX7_is_72 : decode cX7_is 72 = .ok (.ifCond .eq 7, 3) := by decide +kernel
theorem dX7_is_75 : decode cX7_is 75 = .ok (.iconst 1, 1) := by decide +kernel
theorem dX7_is_76 : decode cX7_is 76 = .ok (.goto 4, 3) := by decide +kernel
theorem dX7_is_79 : decode cX7_is 79 = .ok (.iconst 0, 1) := by decide +kernel
theorem dX7_is_80 : decode cX7_is 80 = .ok (.ireturn, 1) := by decide +kernel
def zwX7_is : List Cond := .code yX7_is cX7_is 5 (some .int) :: ([.fieldLink RX7 1 "LinkModelsModel" "thrown" "I", .methodLink RX7 248 yX7_isBuild, .instanceMethod yX7_isBuild, .selects RX7 yX7_isBuild yX7_isBuild, .initialized RX7, .code yX7_isBuild cX7_isBuild 2 (some .boolean), .fieldLink RX7 232 "LinkModelsModel" "builds" "I", .methodLink RX7 105 yX7_in, .static yX7_in, .code yX7_in cX7_in 6 (some .boolean), .methodLink RX7 251 yX7_errorOf, .instanceMethod yX7_errorOf, .selects RX7 yX7_errorOf yX7_errorOf, .code yX7_errorOf cX7_errorOf 4 (some .int), .fieldLink RX7 38 "LinkModelsModel" "error" "[I", .methodLink RX7 201 yX7_place, .instanceMethod yX7_place, .selects RX7 yX7_place yX7_place, .code yX7_place cX7_place 4 (some .int), .fieldLink RX7 17 "LinkModelsModel" "classes" "[I", .fieldLink RX7 20 "LinkModelsModel" "className" "[I", .methodLink RX7 256 yX7_isOf, .instanceMethod yX7_isOf, .selects RX7 yX7_isOf yX7_isOf, .code yX7_isOf cX7_isOf 4 (some .boolean), .fieldLink RX7 41 "LinkModelsModel" "ofAll" "[I"] ++ wsX70)
theorem zgX7_is_X7_isBuild_248 : GoodIn zwX7_is (wsV RX7 248 RX7 yX7_isBuild zwX7_isBuild) := goodIn_app (goodIn_r _ [2, 3, 4, 5] rfl (by decide +kernel)) (goodIn_ca (goodIn_r _ [6, 7, 8, 9, 5, 10] rfl (by decide +kernel)) (zgt zg7))
theorem zgX7_is_X7_errorOf_251 : GoodIn zwX7_is (wsV RX7 251 RX7 yX7_errorOf zwX7_errorOf) := goodIn_app (goodIn_r _ [11, 12, 13, 5] rfl (by decide +kernel)) (goodIn_ca (goodIn_r _ [14, 15, 16, 17, 18, 5, 19, 20, 21] rfl (by decide +kernel)) (zgt zg7))
theorem zgX7_is_X7_place_201 : GoodIn zwX7_is (wsV RX7 201 RX7 yX7_place zwX7_place) := goodIn_app (goodIn_r _ [16, 17, 18, 5] rfl (by decide +kernel)) (goodIn_ca (goodIn_r _ [19, 20, 21] rfl (by decide +kernel)) (zgt zg7))
theorem zgX7_is_X7_isOf_256 : GoodIn zwX7_is (wsV RX7 256 RX7 yX7_isOf zwX7_isOf) := goodIn_app (goodIn_r _ [22, 23, 24, 5] rfl (by decide +kernel)) (goodIn_ca (goodIn_r _ [25, 26] rfl (by decide +kernel)) (zgt zg7))
set_option maxHeartbeats 4000000 in
set_option maxRecDepth 100000 in
theorem kX7_is (l : Launch) (dC : Nat → ClassId) (dI : Nat → Nat → Nat) (h0 : Nat) (r : Nat → Nat) (cI : ClassId) (cJ : ClassId) (cZ : ClassId) (v0 : Int32) (a1 : Nat → Int32) (tp : Nat) (bs : Nat) (cl : Nat → Nat) (a5 : Nat → Int32) (a6 : Nat → Int32) (a7 : Nat → Int32) (fc : Nat → Nat) (a9 : Nat → Int32) (mb : Nat → Nat) (a11 : Nat → Int32) (a12 : Nat → Int32) (a13 : Nat → Int64) (a14 : Nat → Int32) (a15 : Nat → Int32) (a16 : Nat → Int32) (a17 : Nat → Int32) (a18 : Nat → Int32) (a19 : Nat → Int32) (a20 : Nat → Int32) (az : Nat) (v22 : Int32) (v23 : Int32) (v24 : Int64) (v25 : Int32) (v26 : Int32) (bb : Nat) (ct : Nat → Nat) (us : Nat) (a30 : Nat → Int32) (a31 : Nat → Int32) (a32 : Nat → Int32) (a33 : Nat → Int64) (a34 : Nat → Int32) (a35 : Nat → Int32) (a36 : Nat → Int32) (a37 : Nat → Int32) (pil : Nat → Nat) (rwv : Nat → Nat) (rl : Nat) (v41 : Int32) (v42 : Int32) (v43 : Int32) (v44 : Int32) (v45 : Int32) (hI : rWI tp bs cl fc mb az bb ct us pil rwv rl) (xb : Int32) (nm : Int32) (ot : Int32) (hp0 : ∀ bd, bd < bs → zOK cl a5 a7 fc a9 a11 bd) (sz : Nat) : Met l yX7_is zwX7_is ({ frames := 2, cells := 0, slots := 0, locals := 46 }) (zPm dC dI [.ref h0, .int xb, .int nm, .int ot] sz (rW h0 r cI cJ cZ v0 a1 (nI tp) (nI bs) (fun j => nI (cl j)) a5 a6 a7 (fun j => nI (fc j)) a9 (fun j => nI (mb j)) a11 a12 a13 a14 a15 a16 a17 a18 a19 a20 (nI az) v22 v23 v24 v25 v26 (nI bb) (fun j => nI (ct j)) (nI us) a30 a31 a32 a33 a34 a35 a36 a37 (fun j => nI (pil j)) (fun j => nI (rwv j)) (nI rl) v41 v42 v43 v44 v45) [(cI, .int), (cJ, .long), (cZ, .boolean)]) (va_Qi (fun (r : Int32) (u : Int32) => (True)) (fun u t => zB dC dI (va_A (rW h0 r cI cJ cZ v0 a1 (nI tp) (nI bs) (fun j => nI (cl j)) a5 a6 a7 (fun j => nI (fc j)) a9 (fun j => nI (mb j)) a11 a12 a13 a14 a15 a16 a17 a18 a19 a20 (nI az) v22 v23 v24 v25 v26 (nI bb) (fun j => nI (ct j)) (nI us) a30 a31 a32 a33 a34 a35 a36 a37 (fun j => nI (pil j)) (fun j => nI (rwv j)) (nI rl) v41 v42 v43 v44 v45) sz) (rW h0 r cI cJ cZ u a1 (nI tp) (nI bs) (fun j => nI (cl j)) a5 a6 a7 (fun j => nI (fc j)) a9 (fun j => nI (mb j)) a11 a12 a13 a14 a15 a16 a17 a18 a19 a20 (nI az) v22 v23 v24 v25 v26 (nI bb) (fun j => nI (ct j)) (nI us) a30 a31 a32 a33 a34 a35 a36 a37 (fun j => nI (pil j)) (fun j => nI (rwv j)) (nI rl) v41 v42 v43 v44 v45) [(cI, .int), (cJ, .long), (cZ, .boolean)] t) (va_A (rW h0 r cI cJ cZ v0 a1 (nI tp) (nI bs) (fun j => nI (cl j)) a5 a6 a7 (fun j => nI (fc j)) a9 (fun j => nI (mb j)) a11 a12 a13 a14 a15 a16 a17 a18 a19 a20 (nI az) v22 v23 v24 v25 v26 (nI bb) (fun j => nI (ct j)) (nI us) a30 a31 a32 a33 a34 a35 a36 a37 (fun j => nI (pil j)) (fun j => nI (rwv j)) (nI rl) v41 v42 v43 v44 v45) sz)) 0 0 (va_A (rW h0 r cI cJ cZ v0 a1 (nI tp) (nI bs) (fun j => nI (cl j)) a5 a6 a7 (fun j => nI (fc j)) a9 (fun j => nI (mb j)) a11 a12 a13 a14 a15 a16 a17 a18 a19 a20 (nI az) v22 v23 v24 v25 v26 (nI bb) (fun j => nI (ct j)) (nI us) a30 a31 a32 a33 a34 a35 a36 a37 (fun j => nI (pil j)) (fun j => nI (rwv j)) (nI rl) v41 v42 v43 v44 v45) sz) := by
  refine Met.ofW (cc := cX7_is) (maxL := 5) (ret := (some .int)) (by decide) rfl ?_
  intro p e s m args below meth c s₁ B hml hv
  obtain ⟨rfl, hsz, hP, hK, hD0, hL0⟩ := hv
  have hx := B.exec
  have hb := B.bytes
  have hr := B.returns
  have hts := atoms_spec (ws := zwX7_is) B.pre
  have hown : s.vm.findClass RX7 = some m.cls := findClass_of_methodNamed B.named
  have hiX7 : ∀ w ∈ wsX70, w ∈ zwX7_is := (fun _ h => List.mem_cons_of_mem _ (List.mem_append_right _ h))
  obtain ⟨htp, hbs, hus, hcl, hfc, hmb, hct, hpil, hrwv⟩ := hI
  subst hsz
  have hD := hD0.self (sz := s.heap.size)
  generalize hAe : va_A (rW h0 r cI cJ cZ v0 a1 (nI tp) (nI bs) (fun j => nI (cl j)) a5 a6 a7 (fun j => nI (fc j)) a9 (fun j => nI (mb j)) a11 a12 a13 a14 a15 a16 a17 a18 a19 a20 (nI az) v22 v23 v24 v25 v26 (nI bb) (fun j => nI (ct j)) (nI us) a30 a31 a32 a33 a34 a35 a36 a37 (fun j => nI (pil j)) (fun j => nI (rwv j)) (nI rl) v41 v42 v43 v44 v45) s.heap.size = A at hD hL0 ⊢
  have hA : ∀ q : Nat, s.heap.size ≤ q → A q := fun q h => by rw [← hAe]; exact Or.inr h
  have hS : va_S A s.heap s.heap [] := va_S.rf
  have hL := hL0
  have hl := lv_entry ([.ref h0, .int xb, .int nm, .int ot]) (n := 5) (Nat.le_of_ble_eq_true rfl)
  rw [lg_entry_eq]
  generalize (lg_sl ([.ref h0, .int xb, .int nm, .int ot]) ++ List.replicate (5 - (lg_sl ([.ref h0, .int xb, .int nm, .int ot])).length) Slot.unset).toArray = ls at hl ⊢
  have hl : lv_has ls 5 [(0, .ref h0), (1, .int xb), (2, .int nm), (3, .int ot)] := hl
  refine lv_aload_n hx hb dX7_is_0 rfl (lv_at hl 0 rfl) ?_
  refine lv_iconst (v := 0) hx hb dX7_is_1 (by decide) ?_
  refine va_put (D := (dC, dI)) (ci := 6) (v := .int 0) (ty := (.int)) (C := RX7) (T := TX7) (N := 46) hx hb hts hiX7 tyX7 tyX7_ok nmX7 hown hK hP hD hS 0 rfl rfl 0 (by decide) (hts (.fieldLink RX7 1 "LinkModelsModel" "thrown" "I") (by decide +kernel)) (fun _ h9 => h9) rfl (by decide +kernel) rfl rfl (Nat.le_of_ble_eq_true rfl) dX7_is_2 (fun H locs hP hD hS => ?_)
  have hP : va_P (dC, dI) vwCl (rW h0 r cI cJ cZ 0 a1 (nI tp) (nI bs) (fun j => nI (cl j)) a5 a6 a7 (fun j => nI (fc j)) a9 (fun j => nI (mb j)) a11 a12 a13 a14 a15 a16 a17 a18 a19 a20 (nI az) v22 v23 v24 v25 v26 (nI bb) (fun j => nI (ct j)) (nI us) a30 a31 a32 a33 a34 a35 a36 a37 (fun j => nI (pil j)) (fun j => nI (rwv j)) (nI rl) v41 v42 v43 v44 v45) H := hP
  have hD : va_D A (rW h0 r cI cJ cZ 0 a1 (nI tp) (nI bs) (fun j => nI (cl j)) a5 a6 a7 (fun j => nI (fc j)) a9 (fun j => nI (mb j)) a11 a12 a13 a14 a15 a16 a17 a18 a19 a20 (nI az) v22 v23 v24 v25 v26 (nI bb) (fun j => nI (ct j)) (nI us) a30 a31 a32 a33 a34 a35 a36 a37 (fun j => nI (pil j)) (fun j => nI (rwv j)) (nI rl) v41 v42 v43 v44 v45) := hD
  refine lv_aload_n hx hb dX7_is_5 rfl (lv_at hl 0 rfl) ?_
  refine lv_iload_n hx hb dX7_is_6 rfl (lv_at hl 1 rfl) ?_
  have hFc := z_freeW hD hS hA
  refine vp_callSi (W.runV (As := [.int xb]) (rest := []) ⟨hx, hb, hml, hown, hts⟩ (kX7_isBuild l dC dI h0 r cI cJ cZ 0 a1 tp bs cl a5 a6 a7 fc a9 mb a11 a12 a13 a14 a15 a16 a17 a18 a19 a20 az v22 v23 v24 v25 v26 bb ct us a30 a31 a32 a33 a34 a35 a36 a37 pil rwv rl v41 v42 v43 v44 v45 ⟨by omega, by omega, by omega, hcl, hfc, hmb, hct, hpil, hrwv⟩ xb H.size) (cwV 1 hts zgX7_is_X7_isBuild_248 rfl rfl rfl (by decide +kernel) ⟨(show 1 + 1 ≤ 2 by omega), (show 8 + (2 + 11) + 25 ≤ 46 by omega)⟩) (zVm (ci := 6) (q0 := 0) (q := (RX7, TX7, 46)) hK hP hD hL hS.2.1 hFc rfl rfl rfl) rfl rfl hl.1 rfl (lv_room (Nat.le_of_ble_eq_true rfl)) dX7_is_7 ⟨(show 0 + 0 ≤ 0 by omega), (show 0 + 0 ≤ 0 by omega)⟩) (fun r1 hw => ?_)
  have hw : (r1 = 0 ∨ r1 = 1) ∧ (r1 = 1 → ∃ k, k < bs ∧ xb = nI k) := hw
  obtain ⟨w0r1, w1r1⟩ := hw
  refine lv_if_ne (tgt := 16) hx hb dX7_is_10 (by decide) (fun cp10 => ?_) (fun cp10 => ?_)
  · obtain ⟨k2, hBk2, rfl⟩ := w1r1 (w0r1.resolve_left cp10)
    refine lv_aload_n hx hb dX7_is_16 rfl (lv_at hl 0 rfl) ?_
    refine lv_iload_n hx hb dX7_is_17 rfl (lv_at hl 1 rfl) ?_
    refine lv_iload_n hx hb dX7_is_18 rfl (lv_at hl 2 rfl) ?_
    have hFc := z_freeW hD hS hA
    refine vp_callSi (W.runV (As := [.int (nI k2), .int nm]) (rest := []) ⟨hx, hb, hml, hown, hts⟩ (kX7_errorOf l dC dI h0 r cI cJ cZ 0 a1 tp bs cl a5 a6 a7 fc a9 mb a11 a12 a13 a14 a15 a16 a17 a18 a19 a20 az v22 v23 v24 v25 v26 bb ct us a30 a31 a32 a33 a34 a35 a36 a37 pil rwv rl v41 v42 v43 v44 v45 ⟨by omega, by omega, by omega, hcl, hfc, hmb, hct, hpil, hrwv⟩ k2 nm (by first | omega | assumption | trivial) H.size) (cwV 2 hts zgX7_is_X7_errorOf_251 rfl rfl rfl (by decide +kernel) ⟨(show 1 + 1 ≤ 2 by omega), (show 8 + (4 + 11) + 23 ≤ 46 by omega)⟩) (zVm (ci := 6) (q0 := 0) (q := (RX7, TX7, 46)) hK hP hD hL hS.2.1 hFc rfl rfl rfl) rfl rfl hl.1 rfl (lv_room (Nat.le_of_ble_eq_true rfl)) dX7_is_19 ⟨(show 0 + 0 ≤ 0 by omega), (show 0 + 0 ≤ 0 by omega)⟩) (fun r3 hw => ?_)
    have hw : (zEr cl a5 a11 k2 nm r3) := hw
    have w0r3 := hw
    refine lv_istore (lv' := [(4, .int r3), (0, .ref h0), (1, .int (nI k2)), (2, .int nm), (3, .int ot)]) hx hb dX7_is_22 hl (by decide) rfl (fun ls hl => ?_)
    refine lv_iload hx hb dX7_is_24 (lv_at hl 0 rfl) ?_
    refine lv_if_le (tgt := 34) hx hb dX7_is_26 (by decide) (fun cp26 => ?_) (fun cp26 => ?_)
    · refine lv_aload_n hx hb dX7_is_34 rfl (lv_at hl 1 rfl) ?_
      refine lv_iload_n hx hb dX7_is_35 rfl (lv_at hl 2 rfl) ?_
      refine lv_iload_n hx hb dX7_is_36 rfl (lv_at hl 4 rfl) ?_
      have hFc := z_freeW hD hS hA
      refine vp_callSi (W.runV (As := [.int (nI k2), .int ot]) (rest := []) ⟨hx, hb, hml, hown, hts⟩ (kX7_errorOf l dC dI h0 r cI cJ cZ 0 a1 tp bs cl a5 a6 a7 fc a9 mb a11 a12 a13 a14 a15 a16 a17 a18 a19 a20 az v22 v23 v24 v25 v26 bb ct us a30 a31 a32 a33 a34 a35 a36 a37 pil rwv rl v41 v42 v43 v44 v45 ⟨by omega, by omega, by omega, hcl, hfc, hmb, hct, hpil, hrwv⟩ k2 ot (by first | omega | assumption | trivial) H.size) (cwV 2 hts zgX7_is_X7_errorOf_251 rfl rfl rfl (by decide +kernel) ⟨(show 1 + 1 ≤ 2 by omega), (show 8 + (4 + 11) + 23 ≤ 46 by omega)⟩) (zVm (ci := 6) (q0 := 0) (q := (RX7, TX7, 46)) hK hP hD hL hS.2.1 hFc rfl rfl rfl) rfl rfl hl.1 rfl (lv_room (Nat.le_of_ble_eq_true rfl)) dX7_is_37 ⟨(show 0 + 0 ≤ 0 by omega), (show 0 + 0 ≤ 0 by omega)⟩) (fun r4 hw => ?_)
      have hw : (zEr cl a5 a11 k2 ot r4) := hw
      have w0r4 := hw
      refine lv_istore (lv' := [(4, .int r4), (0, .ref h0), (1, .int (nI k2)), (2, .int nm), (3, .int ot)]) hx hb dX7_is_40 hl (by decide) rfl (fun ls hl => ?_)
      refine lv_iload hx hb dX7_is_42 (lv_at hl 0 rfl) ?_
      refine lv_if_le (tgt := 55) hx hb dX7_is_44 (by decide) (fun cp44 => ?_) (fun cp44 => ?_)
      · obtain ⟨c8, hac8, hbc8, hcc8⟩ := z_er (hp0 k2 (by omega)) w0r3 (Int32.not_lt.mpr cp26)
        obtain ⟨c9, hac9, hbc9, hcc9⟩ := z_er (hp0 k2 (by omega)) w0r4 (Int32.not_lt.mpr cp44)
        have hclb := hcl k2
        refine lv_aload_n hx hb dX7_is_55 rfl (lv_at hl 1 rfl) ?_
        refine lv_iload_n hx hb dX7_is_56 rfl (lv_at hl 2 rfl) ?_
        refine lv_aload_n hx hb dX7_is_57 rfl (lv_at hl 1 rfl) ?_
        refine lv_iload_n hx hb dX7_is_58 rfl (lv_at hl 2 rfl) ?_
        refine lv_iload_n hx hb dX7_is_59 rfl (lv_at hl 3 rfl) ?_
        have hFc := z_freeW hD hS hA
        refine vp_callSi (W.runV (As := [.int (nI k2), .int nm]) (rest := [.int (nI k2), .ref h0]) ⟨hx, hb, hml, hown, hts⟩ (kX7_place l dC dI h0 r cI cJ cZ 0 a1 tp bs cl a5 a6 a7 fc a9 mb a11 a12 a13 a14 a15 a16 a17 a18 a19 a20 az v22 v23 v24 v25 v26 bb ct us a30 a31 a32 a33 a34 a35 a36 a37 pil rwv rl v41 v42 v43 v44 v45 ⟨by omega, by omega, by omega, hcl, hfc, hmb, hct, hpil, hrwv⟩ k2 nm (by first | omega | assumption | trivial) H.size) (cwV 2 hts zgX7_is_X7_place_201 rfl rfl rfl (by decide +kernel) ⟨(show 0 + 1 ≤ 2 by omega), (show 8 + (4 + 11) + 0 ≤ 46 by omega)⟩) (zVm (ci := 6) (q0 := 0) (q := (RX7, TX7, 46)) hK hP hD hL hS.2.1 hFc rfl rfl rfl) rfl rfl hl.1 rfl (lv_room (Nat.le_of_ble_eq_true rfl)) dX7_is_60 ⟨(show 0 + 0 ≤ 0 by omega), (show 0 + 0 ≤ 0 by omega)⟩) (fun r5 hw => ?_)
        have hw : (zM r5 (fun k => k < cl k2)) ∧ (zPl a5 (16 * k2) (cl k2) nm r5) := hw
        obtain ⟨w0r5, w1r5⟩ := hw
        obtain rfl : r5 = nI c8 := w1r5.uniq hbc8
        refine lv_aload_n hx hb dX7_is_63 rfl (lv_at hl 1 rfl) ?_
        refine lv_iload_n hx hb dX7_is_64 rfl (lv_at hl 2 rfl) ?_
        refine lv_iload_n hx hb dX7_is_65 rfl (lv_at hl 4 rfl) ?_
        have hFc := z_freeW hD hS hA
        refine vp_callSi (W.runV (As := [.int (nI k2), .int ot]) (rest := [.int (nI c8), .int (nI k2), .ref h0]) ⟨hx, hb, hml, hown, hts⟩ (kX7_place l dC dI h0 r cI cJ cZ 0 a1 tp bs cl a5 a6 a7 fc a9 mb a11 a12 a13 a14 a15 a16 a17 a18 a19 a20 az v22 v23 v24 v25 v26 bb ct us a30 a31 a32 a33 a34 a35 a36 a37 pil rwv rl v41 v42 v43 v44 v45 ⟨by omega, by omega, by omega, hcl, hfc, hmb, hct, hpil, hrwv⟩ k2 ot (by first | omega | assumption | trivial) H.size) (cwV 2 hts zgX7_is_X7_place_201 rfl rfl rfl (by decide +kernel) ⟨(show 0 + 1 ≤ 2 by omega), (show 8 + (4 + 11) + 0 ≤ 46 by omega)⟩) (zVm (ci := 6) (q0 := 0) (q := (RX7, TX7, 46)) hK hP hD hL hS.2.1 hFc rfl rfl rfl) rfl rfl hl.1 rfl (lv_room (Nat.le_of_ble_eq_true rfl)) dX7_is_66 ⟨(show 0 + 0 ≤ 0 by omega), (show 0 + 0 ≤ 0 by omega)⟩) (fun r6 hw => ?_)
        have hw : (zM r6 (fun k => k < cl k2)) ∧ (zPl a5 (16 * k2) (cl k2) ot r6) := hw
        obtain ⟨w0r6, w1r6⟩ := hw
        obtain rfl : r6 = nI c9 := w1r6.uniq hbc9
        have hFc := z_freeW hD hS hA
        refine vp_callSi (W.runV (As := [.int (nI k2), .int (nI c8), .int (nI c9)]) (rest := []) ⟨hx, hb, hml, hown, hts⟩ (kX7_isOf l dC dI h0 r cI cJ cZ 0 a1 tp bs cl a5 a6 a7 fc a9 mb a11 a12 a13 a14 a15 a16 a17 a18 a19 a20 az v22 v23 v24 v25 v26 bb ct us a30 a31 a32 a33 a34 a35 a36 a37 pil rwv rl v41 v42 v43 v44 v45 ⟨by omega, by omega, by omega, hcl, hfc, hmb, hct, hpil, hrwv⟩ k2 c8 (nI c9) (by first | omega | assumption | trivial) (by first | omega | assumption | trivial) H.size) (cwV 3 hts zgX7_is_X7_isOf_256 rfl rfl rfl (by decide +kernel) ⟨(show 0 + 1 ≤ 2 by omega), (show 8 + (4 + 11) + 0 ≤ 46 by omega)⟩) (zVm (ci := 6) (q0 := 0) (q := (RX7, TX7, 46)) hK hP hD hL hS.2.1 hFc rfl rfl rfl) rfl rfl hl.1 rfl (lv_room (Nat.le_of_ble_eq_true rfl)) dX7_is_69 ⟨(show 0 + 0 ≤ 0 by omega), (show 0 + 0 ≤ 0 by omega)⟩) (fun r7 hw => ?_)
        have hw : (r7 = 0 ∨ r7 = 1) := hw
        have w0r7 := hw
        refine lv_if_eq (tgt := 79) hx hb dX7_is_72 (by decide) (fun cp72 => ?_) (fun cp72 => ?_)
        · refine lv_iconst (v := 0) hx hb dX7_is_79 (by decide) ?_
          have hP9 : va_P (dC, dI) vwCl (rW h0 r cI cJ cZ 0 a1 (nI tp) (nI bs) (fun j => nI (cl j)) a5 a6 a7 (fun j => nI (fc j)) a9 (fun j => nI (mb j)) a11 a12 a13 a14 a15 a16 a17 a18 a19 a20 (nI az) v22 v23 v24 v25 v26 (nI bb) (fun j => nI (ct j)) (nI us) a30 a31 a32 a33 a34 a35 a36 a37 (fun j => nI (pil j)) (fun j => nI (rwv j)) (nI rl) v41 v42 v43 v44 v45) H := hP
          have hD9 : va_D A (rW h0 r cI cJ cZ 0 a1 (nI tp) (nI bs) (fun j => nI (cl j)) a5 a6 a7 (fun j => nI (fc j)) a9 (fun j => nI (mb j)) a11 a12 a13 a14 a15 a16 a17 a18 a19 a20 (nI az) v22 v23 v24 v25 v26 (nI bb) (fun j => nI (ct j)) (nI us) a30 a31 a32 a33 a34 a35 a36 a37 (fun j => nI (pil j)) (fun j => nI (rwv j)) (nI rl) v41 v42 v43 v44 v45) := hD
          exact W.iret (v := (0 : Int32)) hx hb hr (fun t ht hW => ⟨⟨(0 : Int32), (0), rfl, trivial, by rw [ht]; exact hP9, va_K.moved hW.alike hK, hD9⟩, hS.F ht⟩) hS.2.2 dX7_is_80
        · refine lv_iconst (v := 1) hx hb dX7_is_75 (by decide) ?_
          refine lv_goto (tgt := 80) hx hb dX7_is_76 (by decide) ?_
          have hP9 : va_P (dC, dI) vwCl (rW h0 r cI cJ cZ 0 a1 (nI tp) (nI bs) (fun j => nI (cl j)) a5 a6 a7 (fun j => nI (fc j)) a9 (fun j => nI (mb j)) a11 a12 a13 a14 a15 a16 a17 a18 a19 a20 (nI az) v22 v23 v24 v25 v26 (nI bb) (fun j => nI (ct j)) (nI us) a30 a31 a32 a33 a34 a35 a36 a37 (fun j => nI (pil j)) (fun j => nI (rwv j)) (nI rl) v41 v42 v43 v44 v45) H := hP
          have hD9 : va_D A (rW h0 r cI cJ cZ 0 a1 (nI tp) (nI bs) (fun j => nI (cl j)) a5 a6 a7 (fun j => nI (fc j)) a9 (fun j => nI (mb j)) a11 a12 a13 a14 a15 a16 a17 a18 a19 a20 (nI az) v22 v23 v24 v25 v26 (nI bb) (fun j => nI (ct j)) (nI us) a30 a31 a32 a33 a34 a35 a36 a37 (fun j => nI (pil j)) (fun j => nI (rwv j)) (nI rl) v41 v42 v43 v44 v45) := hD
          exact W.iret (v := (1 : Int32)) hx hb hr (fun t ht hW => ⟨⟨(1 : Int32), (0), rfl, trivial, by rw [ht]; exact hP9, va_K.moved hW.alike hK, hD9⟩, hS.F ht⟩) hS.2.2 dX7_is_80
      · refine lv_bipush (v := (-10)) hx hb dX7_is_47 (by decide) ?_
        refine lv_iload hx hb dX7_is_49 (lv_at hl 0 rfl) ?_
        refine lv_isub hx hb dX7_is_51 ?_
        refine lv_topi (fun x8 ex8 => ?_)
        refine lv_goto (tgt := 80) hx hb dX7_is_52 (by decide) ?_
        have hP9 : va_P (dC, dI) vwCl (rW h0 r cI cJ cZ 0 a1 (nI tp) (nI bs) (fun j => nI (cl j)) a5 a6 a7 (fun j => nI (fc j)) a9 (fun j => nI (mb j)) a11 a12 a13 a14 a15 a16 a17 a18 a19 a20 (nI az) v22 v23 v24 v25 v26 (nI bb) (fun j => nI (ct j)) (nI us) a30 a31 a32 a33 a34 a35 a36 a37 (fun j => nI (pil j)) (fun j => nI (rwv j)) (nI rl) v41 v42 v43 v44 v45) H := hP
        have hD9 : va_D A (rW h0 r cI cJ cZ 0 a1 (nI tp) (nI bs) (fun j => nI (cl j)) a5 a6 a7 (fun j => nI (fc j)) a9 (fun j => nI (mb j)) a11 a12 a13 a14 a15 a16 a17 a18 a19 a20 (nI az) v22 v23 v24 v25 v26 (nI bb) (fun j => nI (ct j)) (nI us) a30 a31 a32 a33 a34 a35 a36 a37 (fun j => nI (pil j)) (fun j => nI (rwv j)) (nI rl) v41 v42 v43 v44 v45) := hD
        exact W.iret (v := x8) hx hb hr (fun t ht hW => ⟨⟨x8, (0), rfl, trivial, by rw [ht]; exact hP9, va_K.moved hW.alike hK, hD9⟩, hS.F ht⟩) hS.2.2 dX7_is_80
    · refine lv_iload hx hb dX7_is_29 (lv_at hl 0 rfl) ?_
      refine lv_goto (tgt := 40) hx hb dX7_is_31 (by decide) ?_
      refine lv_istore (lv' := [(4, .int r3), (0, .ref h0), (1, .int (nI k2)), (2, .int nm), (3, .int ot)]) hx hb dX7_is_40 hl (by decide) rfl (fun ls hl => ?_)
      refine lv_iload hx hb dX7_is_42 (lv_at hl 0 rfl) ?_
      refine lv_if_le (tgt := 55) hx hb dX7_is_44 (by decide) (fun c9 => absurd c9 (cp26)) (fun _ => ?_)
      refine lv_bipush (v := (-10)) hx hb dX7_is_47 (by decide) ?_
      refine lv_iload hx hb dX7_is_49 (lv_at hl 0 rfl) ?_
      refine lv_isub hx hb dX7_is_51 ?_
      refine lv_topi (fun x9 ex9 => ?_)
      refine lv_goto (tgt := 80) hx hb dX7_is_52 (by decide) ?_
      have hP9 : va_P (dC, dI) vwCl (rW h0 r cI cJ cZ 0 a1 (nI tp) (nI bs) (fun j => nI (cl j)) a5 a6 a7 (fun j => nI (fc j)) a9 (fun j => nI (mb j)) a11 a12 a13 a14 a15 a16 a17 a18 a19 a20 (nI az) v22 v23 v24 v25 v26 (nI bb) (fun j => nI (ct j)) (nI us) a30 a31 a32 a33 a34 a35 a36 a37 (fun j => nI (pil j)) (fun j => nI (rwv j)) (nI rl) v41 v42 v43 v44 v45) H := hP
      have hD9 : va_D A (rW h0 r cI cJ cZ 0 a1 (nI tp) (nI bs) (fun j => nI (cl j)) a5 a6 a7 (fun j => nI (fc j)) a9 (fun j => nI (mb j)) a11 a12 a13 a14 a15 a16 a17 a18 a19 a20 (nI az) v22 v23 v24 v25 v26 (nI bb) (fun j => nI (ct j)) (nI us) a30 a31 a32 a33 a34 a35 a36 a37 (fun j => nI (pil j)) (fun j => nI (rwv j)) (nI rl) v41 v42 v43 v44 v45) := hD
      exact W.iret (v := x9) hx hb hr (fun t ht hW => ⟨⟨x9, (0), rfl, trivial, by rw [ht]; exact hP9, va_K.moved hW.alike hK, hD9⟩, hS.F ht⟩) hS.2.2 dX7_is_80
  · refine lv_bipush (v := (-2)) hx hb dX7_is_13 (by decide) ?_
    have hP9 : va_P (dC, dI) vwCl (rW h0 r cI cJ cZ 0 a1 (nI tp) (nI bs) (fun j => nI (cl j)) a5 a6 a7 (fun j => nI (fc j)) a9 (fun j => nI (mb j)) a11 a12 a13 a14 a15 a16 a17 a18 a19 a20 (nI az) v22 v23 v24 v25 v26 (nI bb) (fun j => nI (ct j)) (nI us) a30 a31 a32 a33 a34 a35 a36 a37 (fun j => nI (pil j)) (fun j => nI (rwv j)) (nI rl) v41 v42 v43 v44 v45) H := hP
    have hD9 : va_D A (rW h0 r cI cJ cZ 0 a1 (nI tp) (nI bs) (fun j => nI (cl j)) a5 a6 a7 (fun j => nI (fc j)) a9 (fun j => nI (mb j)) a11 a12 a13 a14 a15 a16 a17 a18 a19 a20 (nI az) v22 v23 v24 v25 v26 (nI bb) (fun j => nI (ct j)) (nI us) a30 a31 a32 a33 a34 a35 a36 a37 (fun j => nI (pil j)) (fun j => nI (rwv j)) (nI rl) v41 v42 v43 v44 v45) := hD
    exact W.iret (v := (-2 : Int32)) hx hb hr (fun t ht hW => ⟨⟨(-2 : Int32), (0), rfl, trivial, by rw [ht]; exact hP9, va_K.moved hW.alike hK, hD9⟩, hS.F ht⟩) hS.2.2 dX7_is_15
theorem dX7_use_0 : decode cX7_use 0 = .ok (.aload_n 0, 1) := by decide +kernel
theorem dX7_use_1 : decode cX7_use 1 = .ok (.iconst 0, 1) := by decide +kernel
theorem dX7_use_2 : decode cX7_use 2 = .ok (.putfield 1, 3) := by decide +kernel
theorem dX7_use_5 : decode cX7_use 5 = .ok (.iload_n 1, 1) := by decide +kernel
theorem dX7_use_6 : decode cX7_use 6 = .ok (.i2l, 1) := by decide +kernel
theorem dX7_use_7 : decode cX7_use 7 = .ok (.lconst 0, 1) := by decide +kernel
theorem dX7_use_8 : decode cX7_use 8 = .ok (.ldc2_w 259, 3) := by decide +kernel
theorem dX7_use_11 : decode cX7_use 11 = .ok (.invokestatic 105, 3) := by decide +kernel
theorem dX7_use_14 : decode cX7_use 14 = .ok (.ifCond .eq 16, 3) := by decide +kernel
theorem dX7_use_17 : decode cX7_use 17 = .ok (.iload 6, 2) := by decide +kernel
theorem dX7_use_19 : decode cX7_use 19 = .ok (.i2l, 1) := by decide +kernel
theorem dX7_use_20 : decode cX7_use 20 = .ok (.lconst 0, 1) := by decide +kernel
theorem dX7_use_21 : decode cX7_use 21 = .ok (.ldc2_w 261, 3) := by decide +kernel
theorem dX7_use_24 : decode cX7_use 24 = .ok (.invokestatic 105, 3) := by decide +kernel
theorem dX7_use_27 : decode cX7_use 27 = .ok (.ifCond .ne 6, 3) := by decide +kernel
theorem dX7_use_30 : decode cX7_use 30 = .ok (.bipush (-3), 2) := by decide +kernel
theorem dX7_use_32 : decode cX7_use 32 = .ok (.ireturn, 1) := by decide +kernel
theorem dX7_use_33 : decode cX7_use 33 = .ok (.aload_n 0, 1) := by decide +kernel
theorem dX7_use_34 : decode cX7_use 34 = .ok (.getfield 263, 3) := by decide +kernel
theorem dX7_use_37 : decode cX7_use 37 = .ok (.bipush 40, 2) := by decide +kernel
theorem dX7_use_39 : decode cX7_use 39 = .ok (.if_icmp .ne 6, 3) := by decide +kernel
theorem dX7_use_42 : decode cX7_use 42 = .ok (.bipush (-5), 2) := by decide +kernel
theorem dX7_use_44 : decode cX7_use 44 = .ok (.ireturn, 1) := by decide +kernel
theorem dX7_use_45 : decode cX7_use 45 = .ok (.aload_n 0, 1) := by decide +kernel
theorem dX7_use_46 : decode cX7_use 46 = .ok (.getfield 263, 3) := by decide +kernel
theorem dX7_use_49 : decode cX7_use 49 = .ok (.istore 9, 2) := by decide +kernel
theorem dX7_use_51 : decode cX7_use 51 = .ok (.aload_n 0, 1) := by decide +kernel
theorem dX7_use_52 : decode cX7_use 52 = .ok (.dup, 1) := by decide +kernel
theorem dX7_use_53 : decode cX7_use 53 = .ok (.getfield 263, 3) := by decide +kernel
theorem dX7_use_56 : decode cX7_use 56 = .ok (.iconst 1, 1) := by decide +kernel
theorem dX7_use_57 : decode cX7_use 57 = .ok (.iadd, 1) := by decide +kernel
theorem dX7_use_58 : decode cX7_use 58 = .ok (.putfield 263, 3) := by decide +kernel
theorem dX7_use_61 : decode cX7_use 61 = .ok (.aload_n 0, 1) := by decide +kernel
theorem dX7_use_62 : decode cX7_use 62 = .ok (.getfield 73, 3) := by decide +kernel
theorem dX7_use_65 : decode cX7_use 65 = .ok (.iload 9, 2) := by decide +kernel
theorem dX7_use_67 : decode cX7_use 67 = .ok (.iload_n 1, 1) := by decide +kernel
theorem dX7_use_68 : decode cX7_use 68 = .ok (.iastore, 1) := by decide +kernel
theorem dX7_use_69 : decode cX7_use 69 = .ok (.aload_n 0, 1) := by decide +kernel
theorem dX7_use_70 : decode cX7_use 70 = .ok (.getfield 76, 3) := by decide +kernel
theorem dX7_use_73 : decode cX7_use 73 = .ok (.iload 9, 2) := by decide +kernel
theorem dX7_use_75 : decode cX7_use 75 = .ok (.iload_n 2, 1) := by decide +kernel
theorem dX7_use_76 : decode cX7_use 76 = .ok (.iastore, 1) := by decide +kernel
theorem dX7_use_77 : decode cX7_use 77 = .ok (.aload_n 0, 1) := by decide +kernel
theorem dX7_use_78 : decode cX7_use 78 = .ok (.getfield 79, 3) := by decide +kernel
theorem dX7_use_81 : decode cX7_use 81 = .ok (.iload 9, 2) := by decide +kernel
theorem dX7_use_83 : decode cX7_use 83 = .ok (.iload_n 3, 1) := by decide +kernel
theorem dX7_use_84 : decode cX7_use 84 = .ok (.iastore, 1) := by decide +kernel
theorem dX7_use_85 : decode cX7_use 85 = .ok (.aload_n 0, 1) := by decide +kernel
theorem dX7_use_86 : decode cX7_use 86 = .ok (.getfield 82, 3) := by decide +kernel
theorem dX7_use_89 : decode cX7_use 89 = .ok (.iload 9, 2) := by decide +kernel
theorem dX7_use_91 : decode cX7_use 91 = .ok (.lload 4, 2) := by decide +kernel
theorem dX7_use_93 : decode cX7_use 93 = .ok (.lastore, 1) := by decide +kernel
theorem dX7_use_94 : decode cX7_use 94 = .ok (.aload_n 0, 1) := by decide +kernel
theorem dX7_use_95 : decode cX7_use 95 = .ok (.getfield 85, 3) := by decide +kernel
theorem dX7_use_98 : decode cX7_use 98 = .ok (.iload 9, 2) := by decide +kernel
theorem dX7_use_100 : decode cX7_use 100 = .ok (.iload 6, 2) := by decide +kernel
theorem dX7_use_102 : decode cX7_use 102 = .ok (.iastore, 1) := by decide +kernel
theorem dX7_use_103 : decode cX7_use 103 = .ok (.aload_n 0, 1) := by decide +kernel
theorem dX7_use_104 : decode cX7_use 104 = .ok (.getfield 88, 3) := by decide +kernel
theorem dX7_use_107 : decode cX7_use 107 = .ok (.iload 9, 2) := by decide +kernel
theorem dX7_use_109 : decode cX7_use 109 = .ok (.iload 7, 2) := by decide +kernel
theorem dX7_use_111 : decode cX7_use 111 = .ok (.iastore, 1) := by decide +kernel
theorem dX7_use_112 : decode cX7_use 112 = .ok (.aload_n 0, 1) := by decide +kernel
theorem dX7_use_113 : decode cX7_use 113 = .ok (.getfield 91, 3) := by decide +kernel
theorem dX7_use_116 : decode cX7_use 116 = .ok (.iload 9, 2) := by decide +kernel
theorem dX7_use_118 : decode cX7_use 118 = .ok (.iload 8, 2) := by decide +kernel
theorem dX7_use_120 : decode cX7_use 120 = .ok (.iastore, 1) := by decide +kernel
theorem dX7_use_121 : decode cX7_use 121 = .ok (.aload_n 0, 1) := by decide +kernel
theorem dX7_use_122 : decode cX7_use 122 = .ok (.getfield 94, 3) := by decide +kernel
theorem dX7_use_125 : decode cX7_use 125 = .ok (.iload 9, 2) := by decide +kernel
theorem dX7_use_127 : decode cX7_use 127 = .ok (.iconst (-1), 1) := by decide +kernel
theorem dX7_use_128 : decode cX7_use 128 = .ok (.iastore, 1) := by decide +kernel
theorem dX7_use_129 : decode cX7_use 129 = .ok (.iload 9, 2) := by decide +kernel
theorem dX7_use_131 : decode cX7_use 131 = .ok (.ireturn, 1) := by decide +kernel
def zwX7_use : List Cond := .code yX7_use cX7_use 10 (some .int) :: ([.fieldLink RX7 1 "LinkModelsModel" "thrown" "I", .constantLong RX7 259 (9), .constantLong RX7 261 (2), .fieldLink RX7 263 "LinkModelsModel" "uses" "I", .fieldLink RX7 73 "LinkModelsModel" "useKind" "[I", .fieldLink RX7 76 "LinkModelsModel" "caller" "[I", .fieldLink RX7 79 "LinkModelsModel" "owner" "[I", .fieldLink RX7 82 "LinkModelsModel" "useWord" "[J", .fieldLink RX7 85 "LinkModelsModel" "useMany" "[I", .fieldLink RX7 88 "LinkModelsModel" "useFirst" "[I", .fieldLink RX7 91 "LinkModelsModel" "useSecond" "[I", .fieldLink RX7 94 "LinkModelsModel" "copy" "[I", .methodLink RX7 105 yX7_in, .static yX7_in, .initialized RX7, .code yX7_in cX7_in 6 (some .boolean)] ++ wsX70)
theorem zgX7_use_X7_in_105 : GoodIn zwX7_use (va_wsS RX7 105 yX7_in zwX7_in) := goodIn_app (goodIn_r _ [13, 14, 15] rfl (by decide +kernel)) (goodIn_r _ [16] rfl (by decide +kernel))
set_option maxHeartbeats 4000000 in
set_option maxRecDepth 100000 in
theorem kX7_use (l : Launch) (dC : Nat → ClassId) (dI : Nat → Nat → Nat) (h0 : Nat) (r : Nat → Nat) (cI : ClassId) (cJ : ClassId) (cZ : ClassId) (v0 : Int32) (a1 : Nat → Int32) (tp : Nat) (bs : Nat) (cl : Nat → Nat) (a5 : Nat → Int32) (a6 : Nat → Int32) (a7 : Nat → Int32) (fc : Nat → Nat) (a9 : Nat → Int32) (mb : Nat → Nat) (a11 : Nat → Int32) (a12 : Nat → Int32) (a13 : Nat → Int64) (a14 : Nat → Int32) (a15 : Nat → Int32) (a16 : Nat → Int32) (a17 : Nat → Int32) (a18 : Nat → Int32) (a19 : Nat → Int32) (a20 : Nat → Int32) (az : Nat) (v22 : Int32) (v23 : Int32) (v24 : Int64) (v25 : Int32) (v26 : Int32) (bb : Nat) (ct : Nat → Nat) (us : Nat) (a30 : Nat → Int32) (a31 : Nat → Int32) (a32 : Nat → Int32) (a33 : Nat → Int64) (a34 : Nat → Int32) (a35 : Nat → Int32) (a36 : Nat → Int32) (a37 : Nat → Int32) (pil : Nat → Nat) (rwv : Nat → Nat) (rl : Nat) (v41 : Int32) (v42 : Int32) (v43 : Int32) (v44 : Int32) (v45 : Int32) (hI : rWI tp bs cl fc mb az bb ct us pil rwv rl) (kd : Int32) (ca : Int32) (ow : Int32) (wo : Int64) (nn : Int32) (on : Int32) (tw : Int32) (hp0 : ∀ j, j < us → a37 j = -1 ∨ a30 j = 2) (sz : Nat) : Met l yX7_use zwX7_use ({ frames := 1, cells := 0, slots := 0, locals := 25 }) (zPm dC dI [.ref h0, .int kd, .int ca, .int ow, .long wo, .int nn, .int on, .int tw] sz (rW h0 r cI cJ cZ v0 a1 (nI tp) (nI bs) (fun j => nI (cl j)) a5 a6 a7 (fun j => nI (fc j)) a9 (fun j => nI (mb j)) a11 a12 a13 a14 a15 a16 a17 a18 a19 a20 (nI az) v22 v23 v24 v25 v26 (nI bb) (fun j => nI (ct j)) (nI us) a30 a31 a32 a33 a34 a35 a36 a37 (fun j => nI (pil j)) (fun j => nI (rwv j)) (nI rl) v41 v42 v43 v44 v45) [(cI, .int), (cJ, .long), (cZ, .boolean)]) (va_Qi (fun (r : Int32) (u : Int32 × Nat × (Nat → Int32) × (Nat → Int32) × (Nat → Int32) × (Nat → Int64) × (Nat → Int32) × (Nat → Int32) × (Nat → Int32) × (Nat → Int32)) => ((u.2.1) ≤ 40) ∧ (((¬ ((∃ k, 0 ≤ k ∧ k ≤ 9 ∧ kd = nI k) ∧ ∃ k, 0 ≤ k ∧ k ≤ 2 ∧ nn = nI k)) ∧ r = -3 ∧ (u.2.1) = us) ∨ (((∃ k, 0 ≤ k ∧ k ≤ 9 ∧ kd = nI k) ∧ ∃ k, 0 ≤ k ∧ k ≤ 2 ∧ nn = nI k) ∧ ((us = 40 ∧ r = -5 ∧ (u.2.1) = us) ∨ (us < 40 ∧ r = nI us ∧ (u.2.1) = us + 1)))) ∧ (∀ j, j < (u.2.1) → (u.2.2.2.2.2.2.2.2.2) j = -1 ∨ (u.2.2.1) j = 2)) (fun u t => zB dC dI (va_A (rW h0 r cI cJ cZ v0 a1 (nI tp) (nI bs) (fun j => nI (cl j)) a5 a6 a7 (fun j => nI (fc j)) a9 (fun j => nI (mb j)) a11 a12 a13 a14 a15 a16 a17 a18 a19 a20 (nI az) v22 v23 v24 v25 v26 (nI bb) (fun j => nI (ct j)) (nI us) a30 a31 a32 a33 a34 a35 a36 a37 (fun j => nI (pil j)) (fun j => nI (rwv j)) (nI rl) v41 v42 v43 v44 v45) sz) (rW h0 r cI cJ cZ (u.1) a1 (nI tp) (nI bs) (fun j => nI (cl j)) a5 a6 a7 (fun j => nI (fc j)) a9 (fun j => nI (mb j)) a11 a12 a13 a14 a15 a16 a17 a18 a19 a20 (nI az) v22 v23 v24 v25 v26 (nI bb) (fun j => nI (ct j)) (nI (u.2.1)) (u.2.2.1) (u.2.2.2.1) (u.2.2.2.2.1) (u.2.2.2.2.2.1) (u.2.2.2.2.2.2.1) (u.2.2.2.2.2.2.2.1) (u.2.2.2.2.2.2.2.2.1) (u.2.2.2.2.2.2.2.2.2) (fun j => nI (pil j)) (fun j => nI (rwv j)) (nI rl) v41 v42 v43 v44 v45) [(cI, .int), (cJ, .long), (cZ, .boolean)] t) (va_A (rW h0 r cI cJ cZ v0 a1 (nI tp) (nI bs) (fun j => nI (cl j)) a5 a6 a7 (fun j => nI (fc j)) a9 (fun j => nI (mb j)) a11 a12 a13 a14 a15 a16 a17 a18 a19 a20 (nI az) v22 v23 v24 v25 v26 (nI bb) (fun j => nI (ct j)) (nI us) a30 a31 a32 a33 a34 a35 a36 a37 (fun j => nI (pil j)) (fun j => nI (rwv j)) (nI rl) v41 v42 v43 v44 v45) sz)) 0 0 (va_A (rW h0 r cI cJ cZ v0 a1 (nI tp) (nI bs) (fun j => nI (cl j)) a5 a6 a7 (fun j => nI (fc j)) a9 (fun j => nI (mb j)) a11 a12 a13 a14 a15 a16 a17 a18 a19 a20 (nI az) v22 v23 v24 v25 v26 (nI bb) (fun j => nI (ct j)) (nI us) a30 a31 a32 a33 a34 a35 a36 a37 (fun j => nI (pil j)) (fun j => nI (rwv j)) (nI rl) v41 v42 v43 v44 v45) sz) := by
  refine Met.ofW (cc := cX7_use) (maxL := 10) (ret := (some .int)) (by decide) rfl ?_
  intro p e s m args below meth c s₁ B hml hv
  obtain ⟨rfl, hsz, hP, hK, hD0, hL0⟩ := hv
  have hx := B.exec
  have hb := B.bytes
  have hr := B.returns
  have hts := atoms_spec (ws := zwX7_use) B.pre
  have hown : s.vm.findClass RX7 = some m.cls := findClass_of_methodNamed B.named
  have hiX7 : ∀ w ∈ wsX70, w ∈ zwX7_use := (fun _ h => List.mem_cons_of_mem _ (List.mem_append_right _ h))
  obtain ⟨htp, hbs, hus, hcl, hfc, hmb, hct, hpil, hrwv⟩ := hI
  subst hsz
  have hD := hD0.self (sz := s.heap.size)
  generalize hAe : va_A (rW h0 r cI cJ cZ v0 a1 (nI tp) (nI bs) (fun j => nI (cl j)) a5 a6 a7 (fun j => nI (fc j)) a9 (fun j => nI (mb j)) a11 a12 a13 a14 a15 a16 a17 a18 a19 a20 (nI az) v22 v23 v24 v25 v26 (nI bb) (fun j => nI (ct j)) (nI us) a30 a31 a32 a33 a34 a35 a36 a37 (fun j => nI (pil j)) (fun j => nI (rwv j)) (nI rl) v41 v42 v43 v44 v45) s.heap.size = A at hD hL0 ⊢
  have hA : ∀ q : Nat, s.heap.size ≤ q → A q := fun q h => by rw [← hAe]; exact Or.inr h
  have hS : va_S A s.heap s.heap [] := va_S.rf
  have hL := hL0
  have hl := lv_entry ([.ref h0, .int kd, .int ca, .int ow, .long wo, .int nn, .int on, .int tw]) (n := 10) (Nat.le_of_ble_eq_true rfl)
  rw [lg_entry_eq]
  generalize (lg_sl ([.ref h0, .int kd, .int ca, .int ow, .long wo, .int nn, .int on, .int tw]) ++ List.replicate (10 - (lg_sl ([.ref h0, .int kd, .int ca, .int ow, .long wo, .int nn, .int on, .int tw])).length) Slot.unset).toArray = ls at hl ⊢
  have hl : lv_has ls 10 [(0, .ref h0), (1, .int kd), (2, .int ca), (3, .int ow), (4, .long wo), (6, .int nn), (7, .int on), (8, .int tw)] := hl
  refine lv_aload_n hx hb dX7_use_0 rfl (lv_at hl 0 rfl) ?_
  refine lv_iconst (v := 0) hx hb dX7_use_1 (by decide) ?_
  refine va_put (D := (dC, dI)) (ci := 6) (v := .int 0) (ty := (.int)) (C := RX7) (T := TX7) (N := 46) hx hb hts hiX7 tyX7 tyX7_ok nmX7 hown hK hP hD hS 0 rfl rfl 0 (by decide) (hts (.fieldLink RX7 1 "LinkModelsModel" "thrown" "I") (by decide +kernel)) (fun _ h9 => h9) rfl (by decide +kernel) rfl rfl (Nat.le_of_ble_eq_true rfl) dX7_use_2 (fun H locs hP hD hS => ?_)
  have hP : va_P (dC, dI) vwCl (rW h0 r cI cJ cZ 0 a1 (nI tp) (nI bs) (fun j => nI (cl j)) a5 a6 a7 (fun j => nI (fc j)) a9 (fun j => nI (mb j)) a11 a12 a13 a14 a15 a16 a17 a18 a19 a20 (nI az) v22 v23 v24 v25 v26 (nI bb) (fun j => nI (ct j)) (nI us) a30 a31 a32 a33 a34 a35 a36 a37 (fun j => nI (pil j)) (fun j => nI (rwv j)) (nI rl) v41 v42 v43 v44 v45) H := hP
  have hD : va_D A (rW h0 r cI cJ cZ 0 a1 (nI tp) (nI bs) (fun j => nI (cl j)) a5 a6 a7 (fun j => nI (fc j)) a9 (fun j => nI (mb j)) a11 a12 a13 a14 a15 a16 a17 a18 a19 a20 (nI az) v22 v23 v24 v25 v26 (nI bb) (fun j => nI (ct j)) (nI us) a30 a31 a32 a33 a34 a35 a36 a37 (fun j => nI (pil j)) (fun j => nI (rwv j)) (nI rl) v41 v42 v43 v44 v45) := hD
  refine lv_iload_n hx hb dX7_use_5 rfl (lv_at hl 1 rfl) ?_
  refine lv_i2l hx hb dX7_use_6 rfl ?_
  refine lv_topl (fun x1 ex1 => ?_)
  refine lv_lconst (v := 0) hx hb dX7_use_7 (by decide) ?_
  refine lv_ldc2 (v := 9) hx hb hown (hts (.constantLong RX7 259 (9)) (by decide +kernel)) dX7_use_8 ?_
  refine vp_callSi (W.runS (As := [.long x1, .long 0, .long 9]) (rest := []) ⟨hx, hb, hml, hown, hts⟩ (kX7_in l dC dI x1 (0 : Int64) (9 : Int64)) (va_cwS 3 hts zgX7_use_X7_in_105 rfl rfl rfl (by decide +kernel) ⟨(show 0 + 1 ≤ 1 by omega), (show 8 + (6 + 11) + 0 ≤ 25 by omega)⟩) (zSr (ws := []) (tys := []) (hK.sub (tys' := []) [] rfl) (hP.sub (ws' := []) [] rfl)) rfl rfl hl.1 rfl (lv_room (Nat.le_of_ble_eq_true rfl)) dX7_use_11 ⟨(show 0 + 0 ≤ 0 by omega), (show 0 + 0 ≤ 0 by omega)⟩) (fun r2 hw => ?_)
  have w0r2 : r2 = if (((0 : Int64)) ≤ x1 ∧ x1 ≤ ((9 : Int64))) then 1 else 0 := hw
  have wzr2 := z_if01 w0r2
  refine lv_if_eq (tgt := 30) hx hb dX7_use_14 (by decide) (fun cp14 => ?_) (fun cp14 => ?_)
  · have hnA := z_inno 0 9 (by decide) (by decide) (by decide) ex1 w0r2 cp14
    refine lv_bipush (v := (-3)) hx hb dX7_use_30 (by decide) ?_
    have hP9 : va_P (dC, dI) vwCl (rW h0 r cI cJ cZ 0 a1 (nI tp) (nI bs) (fun j => nI (cl j)) a5 a6 a7 (fun j => nI (fc j)) a9 (fun j => nI (mb j)) a11 a12 a13 a14 a15 a16 a17 a18 a19 a20 (nI az) v22 v23 v24 v25 v26 (nI bb) (fun j => nI (ct j)) (nI us) a30 a31 a32 a33 a34 a35 a36 a37 (fun j => nI (pil j)) (fun j => nI (rwv j)) (nI rl) v41 v42 v43 v44 v45) H := hP
    have hD9 : va_D A (rW h0 r cI cJ cZ 0 a1 (nI tp) (nI bs) (fun j => nI (cl j)) a5 a6 a7 (fun j => nI (fc j)) a9 (fun j => nI (mb j)) a11 a12 a13 a14 a15 a16 a17 a18 a19 a20 (nI az) v22 v23 v24 v25 v26 (nI bb) (fun j => nI (ct j)) (nI us) a30 a31 a32 a33 a34 a35 a36 a37 (fun j => nI (pil j)) (fun j => nI (rwv j)) (nI rl) v41 v42 v43 v44 v45) := hD
    exact W.iret (v := (-3 : Int32)) hx hb hr (fun t ht hW => ⟨⟨(-3 : Int32), (0, us, a30, a31, a32, a33, a34, a35, a36, a37), rfl, ⟨(by omega), (by exact Or.inl ⟨fun h9 => hnA h9.1, rfl, rfl⟩), (by exact hp0)⟩, by rw [ht]; exact hP9, va_K.moved hW.alike hK, hD9⟩, hS.F ht⟩) hS.2.2 dX7_use_32
  · have hyA := z_inLH 0 9 (by decide) (by decide) (by decide) ex1 (z_if1 w0r2 (wzr2.resolve_left cp14))
    refine lv_iload hx hb dX7_use_17 (lv_at hl 5 rfl) ?_
    refine lv_i2l hx hb dX7_use_19 rfl ?_
    refine lv_topl (fun x3 ex3 => ?_)
    refine lv_lconst (v := 0) hx hb dX7_use_20 (by decide) ?_
    refine lv_ldc2 (v := 2) hx hb hown (hts (.constantLong RX7 261 (2)) (by decide +kernel)) dX7_use_21 ?_
    refine vp_callSi (W.runS (As := [.long x3, .long 0, .long 2]) (rest := []) ⟨hx, hb, hml, hown, hts⟩ (kX7_in l dC dI x3 (0 : Int64) (2 : Int64)) (va_cwS 3 hts zgX7_use_X7_in_105 rfl rfl rfl (by decide +kernel) ⟨(show 0 + 1 ≤ 1 by omega), (show 8 + (6 + 11) + 0 ≤ 25 by omega)⟩) (zSr (ws := []) (tys := []) (hK.sub (tys' := []) [] rfl) (hP.sub (ws' := []) [] rfl)) rfl rfl hl.1 rfl (lv_room (Nat.le_of_ble_eq_true rfl)) dX7_use_24 ⟨(show 0 + 0 ≤ 0 by omega), (show 0 + 0 ≤ 0 by omega)⟩) (fun r4 hw => ?_)
    have w0r4 : r4 = if (((0 : Int64)) ≤ x3 ∧ x3 ≤ ((2 : Int64))) then 1 else 0 := hw
    have wzr4 := z_if01 w0r4
    refine lv_if_ne (tgt := 33) hx hb dX7_use_27 (by decide) (fun cp27 => ?_) (fun cp27 => ?_)
    · have hyB := z_inLH 0 2 (by decide) (by decide) (by decide) ex3 (z_if1 w0r4 (wzr4.resolve_left cp27))
      refine lv_aload_n hx hb dX7_use_33 rfl (lv_at hl 0 rfl) ?_
      refine va_get (D := (dC, dI)) (ci := 6) (v := .int (nI us)) (C := RX7) (T := TX7) (N := 46) hx hb hts hiX7 hown hK hP 0 rfl rfl 29 (by decide) (hts (.fieldLink RX7 263 "LinkModelsModel" "uses" "I") (by decide +kernel)) (fun _ h9 => h9) rfl dX7_use_34 ?_
      refine lv_bipush (v := 40) hx hb dX7_use_37 (by decide) ?_
      refine lv_icmp_ne (tgt := 45) hx hb dX7_use_39 (by decide) (fun cp39 => ?_) (fun cp39 => ?_)
      · have qcp39 : ¬ us = 40 := fun h9 => cp39 ((nI_eq (a := us) (b := 40) (by omega) (by omega)).mpr h9)
        refine lv_aload_n hx hb dX7_use_45 rfl (lv_at hl 0 rfl) ?_
        refine va_get (D := (dC, dI)) (ci := 6) (v := .int (nI us)) (C := RX7) (T := TX7) (N := 46) hx hb hts hiX7 hown hK hP 0 rfl rfl 29 (by decide) (hts (.fieldLink RX7 263 "LinkModelsModel" "uses" "I") (by decide +kernel)) (fun _ h9 => h9) rfl dX7_use_46 ?_
        refine lv_istore (lv' := [(9, .int (nI us)), (0, .ref h0), (1, .int kd), (2, .int ca), (3, .int ow), (4, .long wo), (6, .int nn), (7, .int on), (8, .int tw)]) hx hb dX7_use_49 hl (by decide) rfl (fun ls hl => ?_)
        refine lv_aload_n hx hb dX7_use_51 rfl (lv_at hl 1 rfl) ?_
        refine lv_dup hx hb dX7_use_52 rfl ?_
        refine va_get (D := (dC, dI)) (ci := 6) (v := .int (nI us)) (C := RX7) (T := TX7) (N := 46) hx hb hts hiX7 hown hK hP 0 rfl rfl 29 (by decide) (hts (.fieldLink RX7 263 "LinkModelsModel" "uses" "I") (by decide +kernel)) (fun _ h9 => h9) rfl dX7_use_53 ?_
        refine lv_iconst (v := 1) hx hb dX7_use_56 (by decide) ?_
        refine lv_iadd hx hb dX7_use_57 ?_
        refine lv_topi (fun x5 ex5 => ?_)
        obtain rfl : x5 = nI (us + 1) := by rw [ex5]; exact nI_add (us) (1)
        refine va_put (D := (dC, dI)) (ci := 6) (v := .int (nI (us + 1))) (ty := (.int)) (C := RX7) (T := TX7) (N := 46) hx hb hts hiX7 tyX7 tyX7_ok nmX7 hown hK hP hD hS 0 rfl rfl 29 (by decide) (hts (.fieldLink RX7 263 "LinkModelsModel" "uses" "I") (by decide +kernel)) (fun _ h9 => h9) rfl (by decide +kernel) rfl rfl (Nat.le_of_ble_eq_true rfl) dX7_use_58 (fun H locs hP hD hS => ?_)
        have hP : va_P (dC, dI) vwCl (rW h0 r cI cJ cZ 0 a1 (nI tp) (nI bs) (fun j => nI (cl j)) a5 a6 a7 (fun j => nI (fc j)) a9 (fun j => nI (mb j)) a11 a12 a13 a14 a15 a16 a17 a18 a19 a20 (nI az) v22 v23 v24 v25 v26 (nI bb) (fun j => nI (ct j)) (nI (us + 1)) a30 a31 a32 a33 a34 a35 a36 a37 (fun j => nI (pil j)) (fun j => nI (rwv j)) (nI rl) v41 v42 v43 v44 v45) H := hP
        have hD : va_D A (rW h0 r cI cJ cZ 0 a1 (nI tp) (nI bs) (fun j => nI (cl j)) a5 a6 a7 (fun j => nI (fc j)) a9 (fun j => nI (mb j)) a11 a12 a13 a14 a15 a16 a17 a18 a19 a20 (nI az) v22 v23 v24 v25 v26 (nI bb) (fun j => nI (ct j)) (nI (us + 1)) a30 a31 a32 a33 a34 a35 a36 a37 (fun j => nI (pil j)) (fun j => nI (rwv j)) (nI rl) v41 v42 v43 v44 v45) := hD
        refine lv_aload_n hx hb dX7_use_61 rfl (lv_at hl 1 rfl) ?_
        refine va_get (D := (dC, dI)) (ci := 6) (v := .ref (r 30)) (C := RX7) (T := TX7) (N := 46) hx hb hts hiX7 hown hK hP 0 rfl rfl 30 (by decide) (hts (.fieldLink RX7 73 "LinkModelsModel" "useKind" "[I") (by decide +kernel)) (fun _ h9 => h9) rfl dX7_use_62 ?_
        refine lv_iload hx hb dX7_use_65 (lv_at hl 0 rfl) ?_
        refine lv_iload_n hx hb dX7_use_67 rfl (lv_at hl 2 rfl) ?_
        refine va_iast hx hb hK hP hD hS 20 0 rfl rfl (vp_in_nI (show us < 40 by omega) (by decide)) dX7_use_68 (fun H locs hP hD hS => ?_)
        obtain ⟨f6, ef6, hP, hD⟩ : ∃ g : Nat → Int32, g = upd a30 us kd ∧ va_P (dC, dI) vwCl (rW h0 r cI cJ cZ 0 a1 (nI tp) (nI bs) (fun j => nI (cl j)) a5 a6 a7 (fun j => nI (fc j)) a9 (fun j => nI (mb j)) a11 a12 a13 a14 a15 a16 a17 a18 a19 a20 (nI az) v22 v23 v24 v25 v26 (nI bb) (fun j => nI (ct j)) (nI (us + 1)) g a31 a32 a33 a34 a35 a36 a37 (fun j => nI (pil j)) (fun j => nI (rwv j)) (nI rl) v41 v42 v43 v44 v45) H ∧ va_D A (rW h0 r cI cJ cZ 0 a1 (nI tp) (nI bs) (fun j => nI (cl j)) a5 a6 a7 (fun j => nI (fc j)) a9 (fun j => nI (mb j)) a11 a12 a13 a14 a15 a16 a17 a18 a19 a20 (nI az) v22 v23 v24 v25 v26 (nI bb) (fun j => nI (ct j)) (nI (us + 1)) g a31 a32 a33 a34 a35 a36 a37 (fun j => nI (pil j)) (fun j => nI (rwv j)) (nI rl) v41 v42 v43 v44 v45) := ⟨_, rfl, (by rw [nI_clamp (show us < 2 ^ 31 by omega)] at hP; exact hP), (by rw [nI_clamp (show us < 2 ^ 31 by omega)] at hD; exact hD)⟩
        refine lv_aload_n hx hb dX7_use_69 rfl (lv_at hl 1 rfl) ?_
        refine va_get (D := (dC, dI)) (ci := 6) (v := .ref (r 31)) (C := RX7) (T := TX7) (N := 46) hx hb hts hiX7 hown hK hP 0 rfl rfl 31 (by decide) (hts (.fieldLink RX7 76 "LinkModelsModel" "caller" "[I") (by decide +kernel)) (fun _ h9 => h9) rfl dX7_use_70 ?_
        refine lv_iload hx hb dX7_use_73 (lv_at hl 0 rfl) ?_
        refine lv_iload_n hx hb dX7_use_75 rfl (lv_at hl 3 rfl) ?_
        refine va_iast hx hb hK hP hD hS 21 0 rfl rfl (vp_in_nI (show us < 40 by omega) (by decide)) dX7_use_76 (fun H locs hP hD hS => ?_)
        obtain ⟨f7, hP, hD⟩ : ∃ g : Nat → Int32, va_P (dC, dI) vwCl (rW h0 r cI cJ cZ 0 a1 (nI tp) (nI bs) (fun j => nI (cl j)) a5 a6 a7 (fun j => nI (fc j)) a9 (fun j => nI (mb j)) a11 a12 a13 a14 a15 a16 a17 a18 a19 a20 (nI az) v22 v23 v24 v25 v26 (nI bb) (fun j => nI (ct j)) (nI (us + 1)) f6 g a32 a33 a34 a35 a36 a37 (fun j => nI (pil j)) (fun j => nI (rwv j)) (nI rl) v41 v42 v43 v44 v45) H ∧ va_D A (rW h0 r cI cJ cZ 0 a1 (nI tp) (nI bs) (fun j => nI (cl j)) a5 a6 a7 (fun j => nI (fc j)) a9 (fun j => nI (mb j)) a11 a12 a13 a14 a15 a16 a17 a18 a19 a20 (nI az) v22 v23 v24 v25 v26 (nI bb) (fun j => nI (ct j)) (nI (us + 1)) f6 g a32 a33 a34 a35 a36 a37 (fun j => nI (pil j)) (fun j => nI (rwv j)) (nI rl) v41 v42 v43 v44 v45) := ⟨_, hP, hD⟩
        refine lv_aload_n hx hb dX7_use_77 rfl (lv_at hl 1 rfl) ?_
        refine va_get (D := (dC, dI)) (ci := 6) (v := .ref (r 32)) (C := RX7) (T := TX7) (N := 46) hx hb hts hiX7 hown hK hP 0 rfl rfl 32 (by decide) (hts (.fieldLink RX7 79 "LinkModelsModel" "owner" "[I") (by decide +kernel)) (fun _ h9 => h9) rfl dX7_use_78 ?_
        refine lv_iload hx hb dX7_use_81 (lv_at hl 0 rfl) ?_
        refine lv_iload_n hx hb dX7_use_83 rfl (lv_at hl 4 rfl) ?_
        refine va_iast hx hb hK hP hD hS 22 0 rfl rfl (vp_in_nI (show us < 40 by omega) (by decide)) dX7_use_84 (fun H locs hP hD hS => ?_)
        obtain ⟨f8, hP, hD⟩ : ∃ g : Nat → Int32, va_P (dC, dI) vwCl (rW h0 r cI cJ cZ 0 a1 (nI tp) (nI bs) (fun j => nI (cl j)) a5 a6 a7 (fun j => nI (fc j)) a9 (fun j => nI (mb j)) a11 a12 a13 a14 a15 a16 a17 a18 a19 a20 (nI az) v22 v23 v24 v25 v26 (nI bb) (fun j => nI (ct j)) (nI (us + 1)) f6 f7 g a33 a34 a35 a36 a37 (fun j => nI (pil j)) (fun j => nI (rwv j)) (nI rl) v41 v42 v43 v44 v45) H ∧ va_D A (rW h0 r cI cJ cZ 0 a1 (nI tp) (nI bs) (fun j => nI (cl j)) a5 a6 a7 (fun j => nI (fc j)) a9 (fun j => nI (mb j)) a11 a12 a13 a14 a15 a16 a17 a18 a19 a20 (nI az) v22 v23 v24 v25 v26 (nI bb) (fun j => nI (ct j)) (nI (us + 1)) f6 f7 g a33 a34 a35 a36 a37 (fun j => nI (pil j)) (fun j => nI (rwv j)) (nI rl) v41 v42 v43 v44 v45) := ⟨_, hP, hD⟩
        refine lv_aload_n hx hb dX7_use_85 rfl (lv_at hl 1 rfl) ?_
        refine va_get (D := (dC, dI)) (ci := 6) (v := .ref (r 33)) (C := RX7) (T := TX7) (N := 46) hx hb hts hiX7 hown hK hP 0 rfl rfl 33 (by decide) (hts (.fieldLink RX7 82 "LinkModelsModel" "useWord" "[J") (by decide +kernel)) (fun _ h9 => h9) rfl dX7_use_86 ?_
        refine lv_iload hx hb dX7_use_89 (lv_at hl 0 rfl) ?_
        refine lv_lload hx hb dX7_use_91 (lv_at hl 5 rfl) ?_
        refine va_last hx hb hK hP hD hS 23 1 rfl rfl (vp_in_nI (show us < 40 by omega) (by decide)) dX7_use_93 (fun H locs hP hD hS => ?_)
        obtain ⟨f9, hP, hD⟩ : ∃ g : Nat → Int64, va_P (dC, dI) vwCl (rW h0 r cI cJ cZ 0 a1 (nI tp) (nI bs) (fun j => nI (cl j)) a5 a6 a7 (fun j => nI (fc j)) a9 (fun j => nI (mb j)) a11 a12 a13 a14 a15 a16 a17 a18 a19 a20 (nI az) v22 v23 v24 v25 v26 (nI bb) (fun j => nI (ct j)) (nI (us + 1)) f6 f7 f8 g a34 a35 a36 a37 (fun j => nI (pil j)) (fun j => nI (rwv j)) (nI rl) v41 v42 v43 v44 v45) H ∧ va_D A (rW h0 r cI cJ cZ 0 a1 (nI tp) (nI bs) (fun j => nI (cl j)) a5 a6 a7 (fun j => nI (fc j)) a9 (fun j => nI (mb j)) a11 a12 a13 a14 a15 a16 a17 a18 a19 a20 (nI az) v22 v23 v24 v25 v26 (nI bb) (fun j => nI (ct j)) (nI (us + 1)) f6 f7 f8 g a34 a35 a36 a37 (fun j => nI (pil j)) (fun j => nI (rwv j)) (nI rl) v41 v42 v43 v44 v45) := ⟨_, hP, hD⟩
        refine lv_aload_n hx hb dX7_use_94 rfl (lv_at hl 1 rfl) ?_
        refine va_get (D := (dC, dI)) (ci := 6) (v := .ref (r 34)) (C := RX7) (T := TX7) (N := 46) hx hb hts hiX7 hown hK hP 0 rfl rfl 34 (by decide) (hts (.fieldLink RX7 85 "LinkModelsModel" "useMany" "[I") (by decide +kernel)) (fun _ h9 => h9) rfl dX7_use_95 ?_
        refine lv_iload hx hb dX7_use_98 (lv_at hl 0 rfl) ?_
        refine lv_iload hx hb dX7_use_100 (lv_at hl 6 rfl) ?_
        refine va_iast hx hb hK hP hD hS 24 0 rfl rfl (vp_in_nI (show us < 40 by omega) (by decide)) dX7_use_102 (fun H locs hP hD hS => ?_)
        obtain ⟨f10, hP, hD⟩ : ∃ g : Nat → Int32, va_P (dC, dI) vwCl (rW h0 r cI cJ cZ 0 a1 (nI tp) (nI bs) (fun j => nI (cl j)) a5 a6 a7 (fun j => nI (fc j)) a9 (fun j => nI (mb j)) a11 a12 a13 a14 a15 a16 a17 a18 a19 a20 (nI az) v22 v23 v24 v25 v26 (nI bb) (fun j => nI (ct j)) (nI (us + 1)) f6 f7 f8 f9 g a35 a36 a37 (fun j => nI (pil j)) (fun j => nI (rwv j)) (nI rl) v41 v42 v43 v44 v45) H ∧ va_D A (rW h0 r cI cJ cZ 0 a1 (nI tp) (nI bs) (fun j => nI (cl j)) a5 a6 a7 (fun j => nI (fc j)) a9 (fun j => nI (mb j)) a11 a12 a13 a14 a15 a16 a17 a18 a19 a20 (nI az) v22 v23 v24 v25 v26 (nI bb) (fun j => nI (ct j)) (nI (us + 1)) f6 f7 f8 f9 g a35 a36 a37 (fun j => nI (pil j)) (fun j => nI (rwv j)) (nI rl) v41 v42 v43 v44 v45) := ⟨_, hP, hD⟩
        refine lv_aload_n hx hb dX7_use_103 rfl (lv_at hl 1 rfl) ?_
        refine va_get (D := (dC, dI)) (ci := 6) (v := .ref (r 35)) (C := RX7) (T := TX7) (N := 46) hx hb hts hiX7 hown hK hP 0 rfl rfl 35 (by decide) (hts (.fieldLink RX7 88 "LinkModelsModel" "useFirst" "[I") (by decide +kernel)) (fun _ h9 => h9) rfl dX7_use_104 ?_
        refine lv_iload hx hb dX7_use_107 (lv_at hl 0 rfl) ?_
        refine lv_iload hx hb dX7_use_109 (lv_at hl 7 rfl) ?_
        refine va_iast hx hb hK hP hD hS 25 0 rfl rfl (vp_in_nI (show us < 40 by omega) (by decide)) dX7_use_111 (fun H locs hP hD hS => ?_)
        obtain ⟨f11, hP, hD⟩ : ∃ g : Nat → Int32, va_P (dC, dI) vwCl (rW h0 r cI cJ cZ 0 a1 (nI tp) (nI bs) (fun j => nI (cl j)) a5 a6 a7 (fun j => nI (fc j)) a9 (fun j => nI (mb j)) a11 a12 a13 a14 a15 a16 a17 a18 a19 a20 (nI az) v22 v23 v24 v25 v26 (nI bb) (fun j => nI (ct j)) (nI (us + 1)) f6 f7 f8 f9 f10 g a36 a37 (fun j => nI (pil j)) (fun j => nI (rwv j)) (nI rl) v41 v42 v43 v44 v45) H ∧ va_D A (rW h0 r cI cJ cZ 0 a1 (nI tp) (nI bs) (fun j => nI (cl j)) a5 a6 a7 (fun j => nI (fc j)) a9 (fun j => nI (mb j)) a11 a12 a13 a14 a15 a16 a17 a18 a19 a20 (nI az) v22 v23 v24 v25 v26 (nI bb) (fun j => nI (ct j)) (nI (us + 1)) f6 f7 f8 f9 f10 g a36 a37 (fun j => nI (pil j)) (fun j => nI (rwv j)) (nI rl) v41 v42 v43 v44 v45) := ⟨_, hP, hD⟩
        refine lv_aload_n hx hb dX7_use_112 rfl (lv_at hl 1 rfl) ?_
        refine va_get (D := (dC, dI)) (ci := 6) (v := .ref (r 36)) (C := RX7) (T := TX7) (N := 46) hx hb hts hiX7 hown hK hP 0 rfl rfl 36 (by decide) (hts (.fieldLink RX7 91 "LinkModelsModel" "useSecond" "[I") (by decide +kernel)) (fun _ h9 => h9) rfl dX7_use_113 ?_
        refine lv_iload hx hb dX7_use_116 (lv_at hl 0 rfl) ?_
        refine lv_iload hx hb dX7_use_118 (lv_at hl 8 rfl) ?_
        refine va_iast hx hb hK hP hD hS 26 0 rfl rfl (vp_in_nI (show us < 40 by omega) (by decide)) dX7_use_120 (fun H locs hP hD hS => ?_)
        obtain ⟨f12, hP, hD⟩ : ∃ g : Nat → Int32, va_P (dC, dI) vwCl (rW h0 r cI cJ cZ 0 a1 (nI tp) (nI bs) (fun j => nI (cl j)) a5 a6 a7 (fun j => nI (fc j)) a9 (fun j => nI (mb j)) a11 a12 a13 a14 a15 a16 a17 a18 a19 a20 (nI az) v22 v23 v24 v25 v26 (nI bb) (fun j => nI (ct j)) (nI (us + 1)) f6 f7 f8 f9 f10 f11 g a37 (fun j => nI (pil j)) (fun j => nI (rwv j)) (nI rl) v41 v42 v43 v44 v45) H ∧ va_D A (rW h0 r cI cJ cZ 0 a1 (nI tp) (nI bs) (fun j => nI (cl j)) a5 a6 a7 (fun j => nI (fc j)) a9 (fun j => nI (mb j)) a11 a12 a13 a14 a15 a16 a17 a18 a19 a20 (nI az) v22 v23 v24 v25 v26 (nI bb) (fun j => nI (ct j)) (nI (us + 1)) f6 f7 f8 f9 f10 f11 g a37 (fun j => nI (pil j)) (fun j => nI (rwv j)) (nI rl) v41 v42 v43 v44 v45) := ⟨_, hP, hD⟩
        refine lv_aload_n hx hb dX7_use_121 rfl (lv_at hl 1 rfl) ?_
        refine va_get (D := (dC, dI)) (ci := 6) (v := .ref (r 37)) (C := RX7) (T := TX7) (N := 46) hx hb hts hiX7 hown hK hP 0 rfl rfl 37 (by decide) (hts (.fieldLink RX7 94 "LinkModelsModel" "copy" "[I") (by decide +kernel)) (fun _ h9 => h9) rfl dX7_use_122 ?_
        refine lv_iload hx hb dX7_use_125 (lv_at hl 0 rfl) ?_
        refine lv_iconst (v := (-1)) hx hb dX7_use_127 (by decide) ?_
        refine va_iast hx hb hK hP hD hS 27 0 rfl rfl (vp_in_nI (show us < 40 by omega) (by decide)) dX7_use_128 (fun H locs hP hD hS => ?_)
        obtain ⟨f13, ef13, hP, hD⟩ : ∃ g : Nat → Int32, g = upd a37 us (-1 : Int32) ∧ va_P (dC, dI) vwCl (rW h0 r cI cJ cZ 0 a1 (nI tp) (nI bs) (fun j => nI (cl j)) a5 a6 a7 (fun j => nI (fc j)) a9 (fun j => nI (mb j)) a11 a12 a13 a14 a15 a16 a17 a18 a19 a20 (nI az) v22 v23 v24 v25 v26 (nI bb) (fun j => nI (ct j)) (nI (us + 1)) f6 f7 f8 f9 f10 f11 f12 g (fun j => nI (pil j)) (fun j => nI (rwv j)) (nI rl) v41 v42 v43 v44 v45) H ∧ va_D A (rW h0 r cI cJ cZ 0 a1 (nI tp) (nI bs) (fun j => nI (cl j)) a5 a6 a7 (fun j => nI (fc j)) a9 (fun j => nI (mb j)) a11 a12 a13 a14 a15 a16 a17 a18 a19 a20 (nI az) v22 v23 v24 v25 v26 (nI bb) (fun j => nI (ct j)) (nI (us + 1)) f6 f7 f8 f9 f10 f11 f12 g (fun j => nI (pil j)) (fun j => nI (rwv j)) (nI rl) v41 v42 v43 v44 v45) := ⟨_, rfl, (by rw [nI_clamp (show us < 2 ^ 31 by omega)] at hP; exact hP), (by rw [nI_clamp (show us < 2 ^ 31 by omega)] at hD; exact hD)⟩
        refine lv_iload hx hb dX7_use_129 (lv_at hl 0 rfl) ?_
        have hP9 : va_P (dC, dI) vwCl (rW h0 r cI cJ cZ 0 a1 (nI tp) (nI bs) (fun j => nI (cl j)) a5 a6 a7 (fun j => nI (fc j)) a9 (fun j => nI (mb j)) a11 a12 a13 a14 a15 a16 a17 a18 a19 a20 (nI az) v22 v23 v24 v25 v26 (nI bb) (fun j => nI (ct j)) (nI (us + 1)) f6 f7 f8 f9 f10 f11 f12 f13 (fun j => nI (pil j)) (fun j => nI (rwv j)) (nI rl) v41 v42 v43 v44 v45) H := hP
        have hD9 : va_D A (rW h0 r cI cJ cZ 0 a1 (nI tp) (nI bs) (fun j => nI (cl j)) a5 a6 a7 (fun j => nI (fc j)) a9 (fun j => nI (mb j)) a11 a12 a13 a14 a15 a16 a17 a18 a19 a20 (nI az) v22 v23 v24 v25 v26 (nI bb) (fun j => nI (ct j)) (nI (us + 1)) f6 f7 f8 f9 f10 f11 f12 f13 (fun j => nI (pil j)) (fun j => nI (rwv j)) (nI rl) v41 v42 v43 v44 v45) := hD
        exact W.iret (v := (nI us)) hx hb hr (fun t ht hW => ⟨⟨(nI us), (0, (us + 1), f6, f7, f8, f9, f10, f11, f12, f13), rfl, ⟨(by show us + 1 ≤ 40; clear hyA hyB; omega), (by exact Or.inr ⟨⟨hyA, hyB⟩, Or.inr ⟨(by clear hyA hyB; omega), rfl, rfl⟩⟩), (by intro j hj; have hj : j < us + 1 := hj; show f13 j = -1 ∨ f6 j = 2; rw [ef13, ef6]; rcases Nat.decEq j us with q | q; (rw [pk_un q, pk_un q]; exact hp0 j (by clear hyA hyB; omega)); (rw [q, pk_us]; exact Or.inl rfl))⟩, by rw [ht]; exact hP9, va_K.moved hW.alike hK, hD9⟩, hS.F ht⟩) hS.2.2 dX7_use_131
      · have qcp39 : us = 40 := (nI_eq (a := us) (b := 40) (by omega) (by omega)).mp cp39
        refine lv_bipush (v := (-5)) hx hb dX7_use_42 (by decide) ?_
        have hP9 : va_P (dC, dI) vwCl (rW h0 r cI cJ cZ 0 a1 (nI tp) (nI bs) (fun j => nI (cl j)) a5 a6 a7 (fun j => nI (fc j)) a9 (fun j => nI (mb j)) a11 a12 a13 a14 a15 a16 a17 a18 a19 a20 (nI az) v22 v23 v24 v25 v26 (nI bb) (fun j => nI (ct j)) (nI us) a30 a31 a32 a33 a34 a35 a36 a37 (fun j => nI (pil j)) (fun j => nI (rwv j)) (nI rl) v41 v42 v43 v44 v45) H := hP
        have hD9 : va_D A (rW h0 r cI cJ cZ 0 a1 (nI tp) (nI bs) (fun j => nI (cl j)) a5 a6 a7 (fun j => nI (fc j)) a9 (fun j => nI (mb j)) a11 a12 a13 a14 a15 a16 a17 a18 a19 a20 (nI az) v22 v23 v24 v25 v26 (nI bb) (fun j => nI (ct j)) (nI us) a30 a31 a32 a33 a34 a35 a36 a37 (fun j => nI (pil j)) (fun j => nI (rwv j)) (nI rl) v41 v42 v43 v44 v45) := hD
        exact W.iret (v := (-5 : Int32)) hx hb hr (fun t ht hW => ⟨⟨(-5 : Int32), (0, us, a30, a31, a32, a33, a34, a35, a36, a37), rfl, ⟨(by clear hyA hyB; omega), (by exact Or.inr ⟨⟨hyA, hyB⟩, Or.inl ⟨(by clear hyA hyB; omega), rfl, rfl⟩⟩), (by exact hp0)⟩, by rw [ht]; exact hP9, va_K.moved hW.alike hK, hD9⟩, hS.F ht⟩) hS.2.2 dX7_use_44
    · have hnB := z_inno 0 2 (by decide) (by decide) (by decide) ex3 w0r4 cp27
      refine lv_bipush (v := (-3)) hx hb dX7_use_30 (by decide) ?_
      have hP9 : va_P (dC, dI) vwCl (rW h0 r cI cJ cZ 0 a1 (nI tp) (nI bs) (fun j => nI (cl j)) a5 a6 a7 (fun j => nI (fc j)) a9 (fun j => nI (mb j)) a11 a12 a13 a14 a15 a16 a17 a18 a19 a20 (nI az) v22 v23 v24 v25 v26 (nI bb) (fun j => nI (ct j)) (nI us) a30 a31 a32 a33 a34 a35 a36 a37 (fun j => nI (pil j)) (fun j => nI (rwv j)) (nI rl) v41 v42 v43 v44 v45) H := hP
      have hD9 : va_D A (rW h0 r cI cJ cZ 0 a1 (nI tp) (nI bs) (fun j => nI (cl j)) a5 a6 a7 (fun j => nI (fc j)) a9 (fun j => nI (mb j)) a11 a12 a13 a14 a15 a16 a17 a18 a19 a20 (nI az) v22 v23 v24 v25 v26 (nI bb) (fun j => nI (ct j)) (nI us) a30 a31 a32 a33 a34 a35 a36 a37 (fun j => nI (pil j)) (fun j => nI (rwv j)) (nI rl) v41 v42 v43 v44 v45) := hD
      exact W.iret (v := (-3 : Int32)) hx hb hr (fun t ht hW => ⟨⟨(-3 : Int32), (0, us, a30, a31, a32, a33, a34, a35, a36, a37), rfl, ⟨(by omega), (by exact Or.inl ⟨fun h9 => hnB h9.2, rfl, rfl⟩), (by exact hp0)⟩, by rw [ht]; exact hP9, va_K.moved hW.alike hK, hD9⟩, hS.F ht⟩) hS.2.2 dX7_use_32
theorem dX7_told_0 : decode cX7_told 0 = .ok (.aload_n 0, 1) := by decide +kernel
theorem dX7_told_1 : decode cX7_told 1 = .ok (.iconst 0, 1) := by decide +kernel
theorem dX7_told_2 : decode cX7_told 2 = .ok (.putfield 1, 3) := by decide +kernel
theorem dX7_told_5 : decode cX7_told 5 = .ok (.iload_n 1, 1) := by decide +kernel
theorem dX7_told_6 : decode cX7_told 6 = .ok (.ifCond .ne 10, 3) := by decide +kernel
theorem dX7_told_9 : decode cX7_told 9 = .ok (.aload_n 0, 1) := by decide +kernel
theorem dX7_told_10 : decode cX7_told 10 = .ok (.getfield 109, 3) := by decide +kernel
theorem dX7_told_13 : decode cX7_told 13 = .ok (.goto 29, 3) := by decide +kernel
theorem dX7_told_16 : decode cX7_told 16 = .ok (.iload_n 1, 1) := by decide +kernel
theorem dX7_told_17 : decode cX7_told 17 = .ok (.iconst 1, 1) := by decide +kernel
theorem dX7_told_18 : decode cX7_told 18 = .ok (.if_icmp .ne 10, 3) := by decide +kernel
theorem dX7_told_21 : decode cX7_told 21 = .ok (.aload_n 0, 1) := by decide +kernel
theorem dX7_told_22 : decode cX7_told 22 = .ok (.getfield 232, 3) := by decide +kernel
theorem dX7_told_25 : decode cX7_told 25 = .ok (.goto 17, 3) := by decide +kernel
theorem dX7_told_28 : decode cX7_told 28 = .ok (.iload_n 1, 1) := by decide +kernel
theorem dX7_told_29 : decode cX7_told 29 = .ok (.iconst 2, 1) := by decide +kernel
theorem dX7_told_30 : decode cX7_told 30 = .ok (.if_icmp .ne 10, 3) := by decide +kernel
theorem dX7_told_33 : decode cX7_told 33 = .ok (.aload_n 0, 1) := by decide +kernel
theorem dX7_told_34 : decode cX7_told 34 = .ok (.getfield 263, 3) := by decide +kernel
theorem dX7_told_37 : decode cX7_told 37 = .ok (.goto 5, 3) := by decide +kernel
theorem dX7_told_40 : decode cX7_told 40 = .ok (.bipush (-3), 2) := by decide +kernel
theorem dX7_told_42 : decode cX7_told 42 = .ok (.ireturn, 1) := by decide +kernel
def zwX7_told : List Cond := .code yX7_told cX7_told 2 (some .int) :: ([.fieldLink RX7 1 "LinkModelsModel" "thrown" "I", .fieldLink RX7 263 "LinkModelsModel" "uses" "I", .fieldLink RX7 232 "LinkModelsModel" "builds" "I", .fieldLink RX7 109 "LinkModelsModel" "taped" "I"] ++ wsX70)
set_option maxHeartbeats 4000000 in
set_option maxRecDepth 100000 in
theorem kX7_told (l : Launch) (dC : Nat → ClassId) (dI : Nat → Nat → Nat) (h0 : Nat) (r : Nat → Nat) (cI : ClassId) (cJ : ClassId) (cZ : ClassId) (v0 : Int32) (a1 : Nat → Int32) (tp : Nat) (bs : Nat) (cl : Nat → Nat) (a5 : Nat → Int32) (a6 : Nat → Int32) (a7 : Nat → Int32) (fc : Nat → Nat) (a9 : Nat → Int32) (mb : Nat → Nat) (a11 : Nat → Int32) (a12 : Nat → Int32) (a13 : Nat → Int64) (a14 : Nat → Int32) (a15 : Nat → Int32) (a16 : Nat → Int32) (a17 : Nat → Int32) (a18 : Nat → Int32) (a19 : Nat → Int32) (a20 : Nat → Int32) (az : Nat) (v22 : Int32) (v23 : Int32) (v24 : Int64) (v25 : Int32) (v26 : Int32) (bb : Nat) (ct : Nat → Nat) (us : Nat) (a30 : Nat → Int32) (a31 : Nat → Int32) (a32 : Nat → Int32) (a33 : Nat → Int64) (a34 : Nat → Int32) (a35 : Nat → Int32) (a36 : Nat → Int32) (a37 : Nat → Int32) (pil : Nat → Nat) (rwv : Nat → Nat) (rl : Nat) (v41 : Int32) (v42 : Int32) (v43 : Int32) (v44 : Int32) (v45 : Int32) (hI : rWI tp bs cl fc mb az bb ct us pil rwv rl) (wh : Int32) (sz : Nat) : Met l yX7_told zwX7_told ({ frames := 0, cells := 0, slots := 0, locals := 0 }) (zPm dC dI [.ref h0, .int wh] sz (rW h0 r cI cJ cZ v0 a1 (nI tp) (nI bs) (fun j => nI (cl j)) a5 a6 a7 (fun j => nI (fc j)) a9 (fun j => nI (mb j)) a11 a12 a13 a14 a15 a16 a17 a18 a19 a20 (nI az) v22 v23 v24 v25 v26 (nI bb) (fun j => nI (ct j)) (nI us) a30 a31 a32 a33 a34 a35 a36 a37 (fun j => nI (pil j)) (fun j => nI (rwv j)) (nI rl) v41 v42 v43 v44 v45) [(cI, .int), (cJ, .long), (cZ, .boolean)]) (va_Qi (fun (r : Int32) (u : Int32) => (True)) (fun u t => zB dC dI (va_A (rW h0 r cI cJ cZ v0 a1 (nI tp) (nI bs) (fun j => nI (cl j)) a5 a6 a7 (fun j => nI (fc j)) a9 (fun j => nI (mb j)) a11 a12 a13 a14 a15 a16 a17 a18 a19 a20 (nI az) v22 v23 v24 v25 v26 (nI bb) (fun j => nI (ct j)) (nI us) a30 a31 a32 a33 a34 a35 a36 a37 (fun j => nI (pil j)) (fun j => nI (rwv j)) (nI rl) v41 v42 v43 v44 v45) sz) (rW h0 r cI cJ cZ u a1 (nI tp) (nI bs) (fun j => nI (cl j)) a5 a6 a7 (fun j => nI (fc j)) a9 (fun j => nI (mb j)) a11 a12 a13 a14 a15 a16 a17 a18 a19 a20 (nI az) v22 v23 v24 v25 v26 (nI bb) (fun j => nI (ct j)) (nI us) a30 a31 a32 a33 a34 a35 a36 a37 (fun j => nI (pil j)) (fun j => nI (rwv j)) (nI rl) v41 v42 v43 v44 v45) [(cI, .int), (cJ, .long), (cZ, .boolean)] t) (va_A (rW h0 r cI cJ cZ v0 a1 (nI tp) (nI bs) (fun j => nI (cl j)) a5 a6 a7 (fun j => nI (fc j)) a9 (fun j => nI (mb j)) a11 a12 a13 a14 a15 a16 a17 a18 a19 a20 (nI az) v22 v23 v24 v25 v26 (nI bb) (fun j => nI (ct j)) (nI us) a30 a31 a32 a33 a34 a35 a36 a37 (fun j => nI (pil j)) (fun j => nI (rwv j)) (nI rl) v41 v42 v43 v44 v45) sz)) 0 0 (va_A (rW h0 r cI cJ cZ v0 a1 (nI tp) (nI bs) (fun j => nI (cl j)) a5 a6 a7 (fun j => nI (fc j)) a9 (fun j => nI (mb j)) a11 a12 a13 a14 a15 a16 a17 a18 a19 a20 (nI az) v22 v23 v24 v25 v26 (nI bb) (fun j => nI (ct j)) (nI us) a30 a31 a32 a33 a34 a35 a36 a37 (fun j => nI (pil j)) (fun j => nI (rwv j)) (nI rl) v41 v42 v43 v44 v45) sz) := by
  refine Met.ofW (cc := cX7_told) (maxL := 2) (ret := (some .int)) (by decide) rfl ?_
  intro p e s m args below meth c s₁ B hml hv
  obtain ⟨rfl, hsz, hP, hK, hD0, hL0⟩ := hv
  have hx := B.exec
  have hb := B.bytes
  have hr := B.returns
  have hts := atoms_spec (ws := zwX7_told) B.pre
  have hown : s.vm.findClass RX7 = some m.cls := findClass_of_methodNamed B.named
  have hiX7 : ∀ w ∈ wsX70, w ∈ zwX7_told := (fun _ h => List.mem_cons_of_mem _ (List.mem_append_right _ h))
  obtain ⟨htp, hbs, hus, hcl, hfc, hmb, hct, hpil, hrwv⟩ := hI
  subst hsz
  have hD := hD0.self (sz := s.heap.size)
  generalize hAe : va_A (rW h0 r cI cJ cZ v0 a1 (nI tp) (nI bs) (fun j => nI (cl j)) a5 a6 a7 (fun j => nI (fc j)) a9 (fun j => nI (mb j)) a11 a12 a13 a14 a15 a16 a17 a18 a19 a20 (nI az) v22 v23 v24 v25 v26 (nI bb) (fun j => nI (ct j)) (nI us) a30 a31 a32 a33 a34 a35 a36 a37 (fun j => nI (pil j)) (fun j => nI (rwv j)) (nI rl) v41 v42 v43 v44 v45) s.heap.size = A at hD hL0 ⊢
  have hA : ∀ q : Nat, s.heap.size ≤ q → A q := fun q h => by rw [← hAe]; exact Or.inr h
  have hS : va_S A s.heap s.heap [] := va_S.rf
  have hL := hL0
  have hl := lv_entry ([.ref h0, .int wh]) (n := 2) (Nat.le_of_ble_eq_true rfl)
  rw [lg_entry_eq]
  generalize (lg_sl ([.ref h0, .int wh]) ++ List.replicate (2 - (lg_sl ([.ref h0, .int wh])).length) Slot.unset).toArray = ls at hl ⊢
  have hl : lv_has ls 2 [(0, .ref h0), (1, .int wh)] := hl
  refine lv_aload_n hx hb dX7_told_0 rfl (lv_at hl 0 rfl) ?_
  refine lv_iconst (v := 0) hx hb dX7_told_1 (by decide) ?_
  refine va_put (D := (dC, dI)) (ci := 6) (v := .int 0) (ty := (.int)) (C := RX7) (T := TX7) (N := 46) hx hb hts hiX7 tyX7 tyX7_ok nmX7 hown hK hP hD hS 0 rfl rfl 0 (by decide) (hts (.fieldLink RX7 1 "LinkModelsModel" "thrown" "I") (by decide +kernel)) (fun _ h9 => h9) rfl (by decide +kernel) rfl rfl (Nat.le_of_ble_eq_true rfl) dX7_told_2 (fun H locs hP hD hS => ?_)
  have hP : va_P (dC, dI) vwCl (rW h0 r cI cJ cZ 0 a1 (nI tp) (nI bs) (fun j => nI (cl j)) a5 a6 a7 (fun j => nI (fc j)) a9 (fun j => nI (mb j)) a11 a12 a13 a14 a15 a16 a17 a18 a19 a20 (nI az) v22 v23 v24 v25 v26 (nI bb) (fun j => nI (ct j)) (nI us) a30 a31 a32 a33 a34 a35 a36 a37 (fun j => nI (pil j)) (fun j => nI (rwv j)) (nI rl) v41 v42 v43 v44 v45) H := hP
  have hD : va_D A (rW h0 r cI cJ cZ 0 a1 (nI tp) (nI bs) (fun j => nI (cl j)) a5 a6 a7 (fun j => nI (fc j)) a9 (fun j => nI (mb j)) a11 a12 a13 a14 a15 a16 a17 a18 a19 a20 (nI az) v22 v23 v24 v25 v26 (nI bb) (fun j => nI (ct j)) (nI us) a30 a31 a32 a33 a34 a35 a36 a37 (fun j => nI (pil j)) (fun j => nI (rwv j)) (nI rl) v41 v42 v43 v44 v45) := hD
  refine lv_iload_n hx hb dX7_told_5 rfl (lv_at hl 1 rfl) ?_
  refine lv_if_ne (tgt := 16) hx hb dX7_told_6 (by decide) (fun cp6 => ?_) (fun cp6 => ?_)
  · refine lv_iload_n hx hb dX7_told_16 rfl (lv_at hl 1 rfl) ?_
    refine lv_iconst (v := 1) hx hb dX7_told_17 (by decide) ?_
    refine lv_icmp_ne (tgt := 28) hx hb dX7_told_18 (by decide) (fun cp18 => ?_) (fun cp18 => ?_)
    · refine lv_iload_n hx hb dX7_told_28 rfl (lv_at hl 1 rfl) ?_
      refine lv_iconst (v := 2) hx hb dX7_told_29 (by decide) ?_
      refine lv_icmp_ne (tgt := 40) hx hb dX7_told_30 (by decide) (fun cp30 => ?_) (fun cp30 => ?_)
      · refine lv_bipush (v := (-3)) hx hb dX7_told_40 (by decide) ?_
        have hP9 : va_P (dC, dI) vwCl (rW h0 r cI cJ cZ 0 a1 (nI tp) (nI bs) (fun j => nI (cl j)) a5 a6 a7 (fun j => nI (fc j)) a9 (fun j => nI (mb j)) a11 a12 a13 a14 a15 a16 a17 a18 a19 a20 (nI az) v22 v23 v24 v25 v26 (nI bb) (fun j => nI (ct j)) (nI us) a30 a31 a32 a33 a34 a35 a36 a37 (fun j => nI (pil j)) (fun j => nI (rwv j)) (nI rl) v41 v42 v43 v44 v45) H := hP
        have hD9 : va_D A (rW h0 r cI cJ cZ 0 a1 (nI tp) (nI bs) (fun j => nI (cl j)) a5 a6 a7 (fun j => nI (fc j)) a9 (fun j => nI (mb j)) a11 a12 a13 a14 a15 a16 a17 a18 a19 a20 (nI az) v22 v23 v24 v25 v26 (nI bb) (fun j => nI (ct j)) (nI us) a30 a31 a32 a33 a34 a35 a36 a37 (fun j => nI (pil j)) (fun j => nI (rwv j)) (nI rl) v41 v42 v43 v44 v45) := hD
        exact W.iret (v := (-3 : Int32)) hx hb hr (fun t ht hW => ⟨⟨(-3 : Int32), (0), rfl, trivial, by rw [ht]; exact hP9, va_K.moved hW.alike hK, hD9⟩, hS.F ht⟩) hS.2.2 dX7_told_42
      · refine lv_aload_n hx hb dX7_told_33 rfl (lv_at hl 0 rfl) ?_
        refine va_get (D := (dC, dI)) (ci := 6) (v := .int (nI us)) (C := RX7) (T := TX7) (N := 46) hx hb hts hiX7 hown hK hP 0 rfl rfl 29 (by decide) (hts (.fieldLink RX7 263 "LinkModelsModel" "uses" "I") (by decide +kernel)) (fun _ h9 => h9) rfl dX7_told_34 ?_
        refine lv_goto (tgt := 42) hx hb dX7_told_37 (by decide) ?_
        have hP9 : va_P (dC, dI) vwCl (rW h0 r cI cJ cZ 0 a1 (nI tp) (nI bs) (fun j => nI (cl j)) a5 a6 a7 (fun j => nI (fc j)) a9 (fun j => nI (mb j)) a11 a12 a13 a14 a15 a16 a17 a18 a19 a20 (nI az) v22 v23 v24 v25 v26 (nI bb) (fun j => nI (ct j)) (nI us) a30 a31 a32 a33 a34 a35 a36 a37 (fun j => nI (pil j)) (fun j => nI (rwv j)) (nI rl) v41 v42 v43 v44 v45) H := hP
        have hD9 : va_D A (rW h0 r cI cJ cZ 0 a1 (nI tp) (nI bs) (fun j => nI (cl j)) a5 a6 a7 (fun j => nI (fc j)) a9 (fun j => nI (mb j)) a11 a12 a13 a14 a15 a16 a17 a18 a19 a20 (nI az) v22 v23 v24 v25 v26 (nI bb) (fun j => nI (ct j)) (nI us) a30 a31 a32 a33 a34 a35 a36 a37 (fun j => nI (pil j)) (fun j => nI (rwv j)) (nI rl) v41 v42 v43 v44 v45) := hD
        exact W.iret (v := (nI us)) hx hb hr (fun t ht hW => ⟨⟨(nI us), (0), rfl, trivial, by rw [ht]; exact hP9, va_K.moved hW.alike hK, hD9⟩, hS.F ht⟩) hS.2.2 dX7_told_42
    · refine lv_aload_n hx hb dX7_told_21 rfl (lv_at hl 0 rfl) ?_
      refine va_get (D := (dC, dI)) (ci := 6) (v := .int (nI bs)) (C := RX7) (T := TX7) (N := 46) hx hb hts hiX7 hown hK hP 0 rfl rfl 3 (by decide) (hts (.fieldLink RX7 232 "LinkModelsModel" "builds" "I") (by decide +kernel)) (fun _ h9 => h9) rfl dX7_told_22 ?_
      refine lv_goto (tgt := 42) hx hb dX7_told_25 (by decide) ?_
      have hP9 : va_P (dC, dI) vwCl (rW h0 r cI cJ cZ 0 a1 (nI tp) (nI bs) (fun j => nI (cl j)) a5 a6 a7 (fun j => nI (fc j)) a9 (fun j => nI (mb j)) a11 a12 a13 a14 a15 a16 a17 a18 a19 a20 (nI az) v22 v23 v24 v25 v26 (nI bb) (fun j => nI (ct j)) (nI us) a30 a31 a32 a33 a34 a35 a36 a37 (fun j => nI (pil j)) (fun j => nI (rwv j)) (nI rl) v41 v42 v43 v44 v45) H := hP
      have hD9 : va_D A (rW h0 r cI cJ cZ 0 a1 (nI tp) (nI bs) (fun j => nI (cl j)) a5 a6 a7 (fun j => nI (fc j)) a9 (fun j => nI (mb j)) a11 a12 a13 a14 a15 a16 a17 a18 a19 a20 (nI az) v22 v23 v24 v25 v26 (nI bb) (fun j => nI (ct j)) (nI us) a30 a31 a32 a33 a34 a35 a36 a37 (fun j => nI (pil j)) (fun j => nI (rwv j)) (nI rl) v41 v42 v43 v44 v45) := hD
      exact W.iret (v := (nI bs)) hx hb hr (fun t ht hW => ⟨⟨(nI bs), (0), rfl, trivial, by rw [ht]; exact hP9, va_K.moved hW.alike hK, hD9⟩, hS.F ht⟩) hS.2.2 dX7_told_42
  · refine lv_aload_n hx hb dX7_told_9 rfl (lv_at hl 0 rfl) ?_
    refine va_get (D := (dC, dI)) (ci := 6) (v := .int (nI tp)) (C := RX7) (T := TX7) (N := 46) hx hb hts hiX7 hown hK hP 0 rfl rfl 2 (by decide) (hts (.fieldLink RX7 109 "LinkModelsModel" "taped" "I") (by decide +kernel)) (fun _ h9 => h9) rfl dX7_told_10 ?_
    refine lv_goto (tgt := 42) hx hb dX7_told_13 (by decide) ?_
    have hP9 : va_P (dC, dI) vwCl (rW h0 r cI cJ cZ 0 a1 (nI tp) (nI bs) (fun j => nI (cl j)) a5 a6 a7 (fun j => nI (fc j)) a9 (fun j => nI (mb j)) a11 a12 a13 a14 a15 a16 a17 a18 a19 a20 (nI az) v22 v23 v24 v25 v26 (nI bb) (fun j => nI (ct j)) (nI us) a30 a31 a32 a33 a34 a35 a36 a37 (fun j => nI (pil j)) (fun j => nI (rwv j)) (nI rl) v41 v42 v43 v44 v45) H := hP
    have hD9 : va_D A (rW h0 r cI cJ cZ 0 a1 (nI tp) (nI bs) (fun j => nI (cl j)) a5 a6 a7 (fun j => nI (fc j)) a9 (fun j => nI (mb j)) a11 a12 a13 a14 a15 a16 a17 a18 a19 a20 (nI az) v22 v23 v24 v25 v26 (nI bb) (fun j => nI (ct j)) (nI us) a30 a31 a32 a33 a34 a35 a36 a37 (fun j => nI (pil j)) (fun j => nI (rwv j)) (nI rl) v41 v42 v43 v44 v45) := hD
    exact W.iret (v := (nI tp)) hx hb hr (fun t ht hW => ⟨⟨(nI tp), (0), rfl, trivial, by rw [ht]; exact hP9, va_K.moved hW.alike hK, hD9⟩, hS.F ht⟩) hS.2.2 dX7_told_42
theorem dX7_copied_0 : decode cX7_copied 0 = .ok (.aload_n 0, 1) := by decide +kernel
theorem dX7_copied_1 : decode cX7_copied 1 = .ok (.iconst 0, 1) := by decide +kernel
theorem dX7_copied_2 : decode cX7_copied 2 = .ok (.putfield 1, 3) := by decide +kernel
theorem dX7_copied_5 : decode cX7_copied 5 = .ok (.aload_n 0, 1) := by decide +kernel
theorem dX7_copied_6 : decode cX7_copied 6 = .ok (.iload_n 1, 1) := by decide +kernel
theorem dX7_copied_7 : decode cX7_copied 7 = .ok (.invokevirtual 306, 3) := by decide +kernel
theorem dX7_copied_10 : decode cX7_copied 10 = .ok (.ifCond .eq 12, 3) := by decide +kernel
theorem dX7_copied_13 : decode cX7_copied 13 = .ok (.aload_n 0, 1) := by decide +kernel
theorem dX7_copied_14 : decode cX7_copied 14 = .ok (.getfield 94, 3) := by decide +kernel
theorem dX7_copied_17 : decode cX7_copied 17 = .ok (.iload_n 1, 1) := by decide +kernel
theorem dX7_copied_18 : decode cX7_copied 18 = .ok (.iaload, 1) := by decide +kernel
theorem dX7_copied_19 : decode cX7_copied 19 = .ok (.goto 5, 3) := by decide +kernel
theorem dX7_copied_22 : decode cX7_copied 22 = .ok (.bipush (-2), 2) := by decide +kernel
theorem dX7_copied_24 : decode cX7_copied 24 = .ok (.ireturn, 1) := by decide +kernel
def zwX7_copied : List Cond := .code yX7_copied cX7_copied 2 (some .int) :: ([.fieldLink RX7 1 "LinkModelsModel" "thrown" "I", .fieldLink RX7 94 "LinkModelsModel" "copy" "[I", .methodLink RX7 306 yX7_isUse, .instanceMethod yX7_isUse, .selects RX7 yX7_isUse yX7_isUse, .initialized RX7, .code yX7_isUse cX7_isUse 2 (some .boolean), .fieldLink RX7 263 "LinkModelsModel" "uses" "I", .methodLink RX7 105 yX7_in, .static yX7_in, .code yX7_in cX7_in 6 (some .boolean)] ++ wsX70)
theorem zgX7_copied_X7_isUse_306 : GoodIn zwX7_copied (wsV RX7 306 RX7 yX7_isUse zwX7_isUse) := goodIn_app (goodIn_r _ [3, 4, 5, 6] rfl (by decide +kernel)) (goodIn_ca (goodIn_r _ [7, 8, 9, 10, 6, 11] rfl (by decide +kernel)) (zgt zg7))
set_option maxHeartbeats 4000000 in
set_option maxRecDepth 100000 in
theorem kX7_copied (l : Launch) (dC : Nat → ClassId) (dI : Nat → Nat → Nat) (h0 : Nat) (r : Nat → Nat) (cI : ClassId) (cJ : ClassId) (cZ : ClassId) (v0 : Int32) (a1 : Nat → Int32) (tp : Nat) (bs : Nat) (cl : Nat → Nat) (a5 : Nat → Int32) (a6 : Nat → Int32) (a7 : Nat → Int32) (fc : Nat → Nat) (a9 : Nat → Int32) (mb : Nat → Nat) (a11 : Nat → Int32) (a12 : Nat → Int32) (a13 : Nat → Int64) (a14 : Nat → Int32) (a15 : Nat → Int32) (a16 : Nat → Int32) (a17 : Nat → Int32) (a18 : Nat → Int32) (a19 : Nat → Int32) (a20 : Nat → Int32) (az : Nat) (v22 : Int32) (v23 : Int32) (v24 : Int64) (v25 : Int32) (v26 : Int32) (bb : Nat) (ct : Nat → Nat) (us : Nat) (a30 : Nat → Int32) (a31 : Nat → Int32) (a32 : Nat → Int32) (a33 : Nat → Int64) (a34 : Nat → Int32) (a35 : Nat → Int32) (a36 : Nat → Int32) (a37 : Nat → Int32) (pil : Nat → Nat) (rwv : Nat → Nat) (rl : Nat) (v41 : Int32) (v42 : Int32) (v43 : Int32) (v44 : Int32) (v45 : Int32) (hI : rWI tp bs cl fc mb az bb ct us pil rwv rl) (xb : Int32) (sz : Nat) : Met l yX7_copied zwX7_copied ({ frames := 2, cells := 0, slots := 0, locals := 46 }) (zPm dC dI [.ref h0, .int xb] sz (rW h0 r cI cJ cZ v0 a1 (nI tp) (nI bs) (fun j => nI (cl j)) a5 a6 a7 (fun j => nI (fc j)) a9 (fun j => nI (mb j)) a11 a12 a13 a14 a15 a16 a17 a18 a19 a20 (nI az) v22 v23 v24 v25 v26 (nI bb) (fun j => nI (ct j)) (nI us) a30 a31 a32 a33 a34 a35 a36 a37 (fun j => nI (pil j)) (fun j => nI (rwv j)) (nI rl) v41 v42 v43 v44 v45) [(cI, .int), (cJ, .long), (cZ, .boolean)]) (va_Qi (fun (r : Int32) (u : Int32) => (True)) (fun u t => zB dC dI (va_A (rW h0 r cI cJ cZ v0 a1 (nI tp) (nI bs) (fun j => nI (cl j)) a5 a6 a7 (fun j => nI (fc j)) a9 (fun j => nI (mb j)) a11 a12 a13 a14 a15 a16 a17 a18 a19 a20 (nI az) v22 v23 v24 v25 v26 (nI bb) (fun j => nI (ct j)) (nI us) a30 a31 a32 a33 a34 a35 a36 a37 (fun j => nI (pil j)) (fun j => nI (rwv j)) (nI rl) v41 v42 v43 v44 v45) sz) (rW h0 r cI cJ cZ u a1 (nI tp) (nI bs) (fun j => nI (cl j)) a5 a6 a7 (fun j => nI (fc j)) a9 (fun j => nI (mb j)) a11 a12 a13 a14 a15 a16 a17 a18 a19 a20 (nI az) v22 v23 v24 v25 v26 (nI bb) (fun j => nI (ct j)) (nI us) a30 a31 a32 a33 a34 a35 a36 a37 (fun j => nI (pil j)) (fun j => nI (rwv j)) (nI rl) v41 v42 v43 v44 v45) [(cI, .int), (cJ, .long), (cZ, .boolean)] t) (va_A (rW h0 r cI cJ cZ v0 a1 (nI tp) (nI bs) (fun j => nI (cl j)) a5 a6 a7 (fun j => nI (fc j)) a9 (fun j => nI (mb j)) a11 a12 a13 a14 a15 a16 a17 a18 a19 a20 (nI az) v22 v23 v24 v25 v26 (nI bb) (fun j => nI (ct j)) (nI us) a30 a31 a32 a33 a34 a35 a36 a37 (fun j => nI (pil j)) (fun j => nI (rwv j)) (nI rl) v41 v42 v43 v44 v45) sz)) 0 0 (va_A (rW h0 r cI cJ cZ v0 a1 (nI tp) (nI bs) (fun j => nI (cl j)) a5 a6 a7 (fun j => nI (fc j)) a9 (fun j => nI (mb j)) a11 a12 a13 a14 a15 a16 a17 a18 a19 a20 (nI az) v22 v23 v24 v25 v26 (nI bb) (fun j => nI (ct j)) (nI us) a30 a31 a32 a33 a34 a35 a36 a37 (fun j => nI (pil j)) (fun j => nI (rwv j)) (nI rl) v41 v42 v43 v44 v45) sz) := by
  refine Met.ofW (cc := cX7_copied) (maxL := 2) (ret := (some .int)) (by decide) rfl ?_
  intro p e s m args below meth c s₁ B hml hv
  obtain ⟨rfl, hsz, hP, hK, hD0, hL0⟩ := hv
  have hx := B.exec
  have hb := B.bytes
  have hr := B.returns
  have hts := atoms_spec (ws := zwX7_copied) B.pre
  have hown : s.vm.findClass RX7 = some m.cls := findClass_of_methodNamed B.named
  have hiX7 : ∀ w ∈ wsX70, w ∈ zwX7_copied := (fun _ h => List.mem_cons_of_mem _ (List.mem_append_right _ h))
  obtain ⟨htp, hbs, hus, hcl, hfc, hmb, hct, hpil, hrwv⟩ := hI
  subst hsz
  have hD := hD0.self (sz := s.heap.size)
  generalize hAe : va_A (rW h0 r cI cJ cZ v0 a1 (nI tp) (nI bs) (fun j => nI (cl j)) a5 a6 a7 (fun j => nI (fc j)) a9 (fun j => nI (mb j)) a11 a12 a13 a14 a15 a16 a17 a18 a19 a20 (nI az) v22 v23 v24 v25 v26 (nI bb) (fun j => nI (ct j)) (nI us) a30 a31 a32 a33 a34 a35 a36 a37 (fun j => nI (pil j)) (fun j => nI (rwv j)) (nI rl) v41 v42 v43 v44 v45) s.heap.size = A at hD hL0 ⊢
  have hA : ∀ q : Nat, s.heap.size ≤ q → A q := fun q h => by rw [← hAe]; exact Or.inr h
  have hS : va_S A s.heap s.heap [] := va_S.rf
  have hL := hL0
  have hl := lv_entry ([.ref h0, .int xb]) (n := 2) (Nat.le_of_ble_eq_true rfl)
  rw [lg_entry_eq]
  generalize (lg_sl ([.ref h0, .int xb]) ++ List.replicate (2 - (lg_sl ([.ref h0, .int xb])).length) Slot.unset).toArray = ls at hl ⊢
  have hl : lv_has ls 2 [(0, .ref h0), (1, .int xb)] := hl
  refine lv_aload_n hx hb dX7_copied_0 rfl (lv_at hl 0 rfl) ?_
  refine lv_iconst (v := 0) hx hb dX7_copied_1 (by decide) ?_
  refine va_put (D := (dC, dI)) (ci := 6) (v := .int 0) (ty := (.int)) (C := RX7) (T := TX7) (N := 46) hx hb hts hiX7 tyX7 tyX7_ok nmX7 hown hK hP hD hS 0 rfl rfl 0 (by decide) (hts (.fieldLink RX7 1 "LinkModelsModel" "thrown" "I") (by decide +kernel)) (fun _ h9 => h9) rfl (by decide +kernel) rfl rfl (Nat.le_of_ble_eq_true rfl) dX7_copied_2 (fun H locs hP hD hS => ?_)
  have hP : va_P (dC, dI) vwCl (rW h0 r cI cJ cZ 0 a1 (nI tp) (nI bs) (fun j => nI (cl j)) a5 a6 a7 (fun j => nI (fc j)) a9 (fun j => nI (mb j)) a11 a12 a13 a14 a15 a16 a17 a18 a19 a20 (nI az) v22 v23 v24 v25 v26 (nI bb) (fun j => nI (ct j)) (nI us) a30 a31 a32 a33 a34 a35 a36 a37 (fun j => nI (pil j)) (fun j => nI (rwv j)) (nI rl) v41 v42 v43 v44 v45) H := hP
  have hD : va_D A (rW h0 r cI cJ cZ 0 a1 (nI tp) (nI bs) (fun j => nI (cl j)) a5 a6 a7 (fun j => nI (fc j)) a9 (fun j => nI (mb j)) a11 a12 a13 a14 a15 a16 a17 a18 a19 a20 (nI az) v22 v23 v24 v25 v26 (nI bb) (fun j => nI (ct j)) (nI us) a30 a31 a32 a33 a34 a35 a36 a37 (fun j => nI (pil j)) (fun j => nI (rwv j)) (nI rl) v41 v42 v43 v44 v45) := hD
  refine lv_aload_n hx hb dX7_copied_5 rfl (lv_at hl 0 rfl) ?_
  refine lv_iload_n hx hb dX7_copied_6 rfl (lv_at hl 1 rfl) ?_
  have hFc := z_freeW hD hS hA
  refine vp_callSi (W.runV (As := [.int xb]) (rest := []) ⟨hx, hb, hml, hown, hts⟩ (kX7_isUse l dC dI h0 r cI cJ cZ 0 a1 tp bs cl a5 a6 a7 fc a9 mb a11 a12 a13 a14 a15 a16 a17 a18 a19 a20 az v22 v23 v24 v25 v26 bb ct us a30 a31 a32 a33 a34 a35 a36 a37 pil rwv rl v41 v42 v43 v44 v45 ⟨by omega, by omega, by omega, hcl, hfc, hmb, hct, hpil, hrwv⟩ xb H.size) (cwV 1 hts zgX7_copied_X7_isUse_306 rfl rfl rfl (by decide +kernel) ⟨(show 1 + 1 ≤ 2 by omega), (show 8 + (2 + 11) + 25 ≤ 46 by omega)⟩) (zVm (ci := 6) (q0 := 0) (q := (RX7, TX7, 46)) hK hP hD hL hS.2.1 hFc rfl rfl rfl) rfl rfl hl.1 rfl (lv_room (Nat.le_of_ble_eq_true rfl)) dX7_copied_7 ⟨(show 0 + 0 ≤ 0 by omega), (show 0 + 0 ≤ 0 by omega)⟩) (fun r1 hw => ?_)
  have hw : (r1 = 0 ∨ r1 = 1) ∧ (r1 = 1 → ∃ k, k < us ∧ xb = nI k) := hw
  obtain ⟨w0r1, w1r1⟩ := hw
  refine lv_if_eq (tgt := 22) hx hb dX7_copied_10 (by decide) (fun cp10 => ?_) (fun cp10 => ?_)
  · refine lv_bipush (v := (-2)) hx hb dX7_copied_22 (by decide) ?_
    have hP9 : va_P (dC, dI) vwCl (rW h0 r cI cJ cZ 0 a1 (nI tp) (nI bs) (fun j => nI (cl j)) a5 a6 a7 (fun j => nI (fc j)) a9 (fun j => nI (mb j)) a11 a12 a13 a14 a15 a16 a17 a18 a19 a20 (nI az) v22 v23 v24 v25 v26 (nI bb) (fun j => nI (ct j)) (nI us) a30 a31 a32 a33 a34 a35 a36 a37 (fun j => nI (pil j)) (fun j => nI (rwv j)) (nI rl) v41 v42 v43 v44 v45) H := hP
    have hD9 : va_D A (rW h0 r cI cJ cZ 0 a1 (nI tp) (nI bs) (fun j => nI (cl j)) a5 a6 a7 (fun j => nI (fc j)) a9 (fun j => nI (mb j)) a11 a12 a13 a14 a15 a16 a17 a18 a19 a20 (nI az) v22 v23 v24 v25 v26 (nI bb) (fun j => nI (ct j)) (nI us) a30 a31 a32 a33 a34 a35 a36 a37 (fun j => nI (pil j)) (fun j => nI (rwv j)) (nI rl) v41 v42 v43 v44 v45) := hD
    exact W.iret (v := (-2 : Int32)) hx hb hr (fun t ht hW => ⟨⟨(-2 : Int32), (0), rfl, trivial, by rw [ht]; exact hP9, va_K.moved hW.alike hK, hD9⟩, hS.F ht⟩) hS.2.2 dX7_copied_24
  · obtain ⟨k2, hBk2, rfl⟩ := w1r1 (w0r1.resolve_left cp10)
    refine lv_aload_n hx hb dX7_copied_13 rfl (lv_at hl 0 rfl) ?_
    refine va_get (D := (dC, dI)) (ci := 6) (v := .ref (r 37)) (C := RX7) (T := TX7) (N := 46) hx hb hts hiX7 hown hK hP 0 rfl rfl 37 (by decide) (hts (.fieldLink RX7 94 "LinkModelsModel" "copy" "[I") (by decide +kernel)) (fun _ h9 => h9) rfl dX7_copied_14 ?_
    refine lv_iload_n hx hb dX7_copied_17 rfl (lv_at hl 1 rfl) ?_
    refine va_iald hx hb hK hP 27 0 rfl rfl (vp_in_nI (show k2 < 40 by omega) (by decide)) dX7_copied_18 ?_
    refine lv_topi (fun x3 ex3 => ?_)
    obtain rfl : x3 = a37 k2 := by rw [ex3, nI_clamp (show k2 < 2 ^ 31 by omega)]
    refine lv_goto (tgt := 24) hx hb dX7_copied_19 (by decide) ?_
    have hP9 : va_P (dC, dI) vwCl (rW h0 r cI cJ cZ 0 a1 (nI tp) (nI bs) (fun j => nI (cl j)) a5 a6 a7 (fun j => nI (fc j)) a9 (fun j => nI (mb j)) a11 a12 a13 a14 a15 a16 a17 a18 a19 a20 (nI az) v22 v23 v24 v25 v26 (nI bb) (fun j => nI (ct j)) (nI us) a30 a31 a32 a33 a34 a35 a36 a37 (fun j => nI (pil j)) (fun j => nI (rwv j)) (nI rl) v41 v42 v43 v44 v45) H := hP
    have hD9 : va_D A (rW h0 r cI cJ cZ 0 a1 (nI tp) (nI bs) (fun j => nI (cl j)) a5 a6 a7 (fun j => nI (fc j)) a9 (fun j => nI (mb j)) a11 a12 a13 a14 a15 a16 a17 a18 a19 a20 (nI az) v22 v23 v24 v25 v26 (nI bb) (fun j => nI (ct j)) (nI us) a30 a31 a32 a33 a34 a35 a36 a37 (fun j => nI (pil j)) (fun j => nI (rwv j)) (nI rl) v41 v42 v43 v44 v45) := hD
    exact W.iret (v := (a37 k2)) hx hb hr (fun t ht hW => ⟨⟨(a37 k2), (0), rfl, trivial, by rw [ht]; exact hP9, va_K.moved hW.alike hK, hD9⟩, hS.F ht⟩) hS.2.2 dX7_copied_24
