theorem dX7_steps_0 : decode cX7_steps 0 = .ok (.iconst 0, 1) := by decide +kernel
theorem dX7_steps_1 : decode cX7_steps 1 = .ok (.istore_n 2, 1) := by decide +kernel
theorem dX7_steps_2 : decode cX7_steps 2 = .ok (.aload_n 0, 1) := by decide +kernel
theorem dX7_steps_3 : decode cX7_steps 3 = .ok (.aload_n 0, 1) := by decide +kernel
theorem dX7_steps_4 : decode cX7_steps 4 = .ok (.getfield 198, 3) := by decide +kernel
theorem dX7_steps_7 : decode cX7_steps 7 = .ok (.aload_n 0, 1) := by decide +kernel
theorem dX7_steps_8 : decode cX7_steps 8 = .ok (.getfield 26, 3) := by decide +kernel
theorem dX7_steps_11 : decode cX7_steps 11 = .ok (.iload_n 1, 1) := by decide +kernel
theorem dX7_steps_12 : decode cX7_steps 12 = .ok (.iaload, 1) := by decide +kernel
theorem dX7_steps_13 : decode cX7_steps 13 = .ok (.invokevirtual 201, 3) := by decide +kernel
theorem dX7_steps_16 : decode cX7_steps 16 = .ok (.istore_n 3, 1) := by decide +kernel
theorem dX7_steps_17 : decode cX7_steps 17 = .ok (.iload_n 2, 1) := by decide +kernel
theorem dX7_steps_18 : decode cX7_steps 18 = .ok (.aload_n 0, 1) := by decide +kernel
theorem dX7_steps_19 : decode cX7_steps 19 = .ok (.getfield 26, 3) := by decide +kernel
theorem dX7_steps_22 : decode cX7_steps 22 = .ok (.iload_n 1, 1) := by decide +kernel
theorem dX7_steps_23 : decode cX7_steps 23 = .ok (.iaload, 1) := by decide +kernel
theorem dX7_steps_24 : decode cX7_steps 24 = .ok (.ifCond .eq 13, 3) := by decide +kernel
theorem dX7_steps_27 : decode cX7_steps 27 = .ok (.iload_n 3, 1) := by decide +kernel
theorem dX7_steps_28 : decode cX7_steps 28 = .ok (.ifCond .lt 9, 3) := by decide +kernel
theorem dX7_steps_31 : decode cX7_steps 31 = .ok (.iconst 1, 1) := by decide +kernel
theorem dX7_steps_32 : decode cX7_steps 32 = .ok (.iload_n 3, 1) := by decide +kernel
theorem dX7_steps_33 : decode cX7_steps 33 = .ok (.ishl, 1) := by decide +kernel
theorem dX7_steps_34 : decode cX7_steps 34 = .ok (.goto 4, 3) := by decide +kernel
theorem dX7_steps_37 : decode cX7_steps 37 = .ok (.iconst 0, 1) := by decide +kernel
theorem dX7_steps_38 : decode cX7_steps 38 = .ok (.ior, 1) := by decide +kernel
theorem dX7_steps_39 : decode cX7_steps 39 = .ok (.istore_n 2, 1) := by decide +kernel
theorem dX7_steps_40 : decode cX7_steps 40 = .ok (.iconst 0, 1) := by decide +kernel
theorem dX7_steps_41 : decode cX7_steps 41 = .ok (.istore 4, 2) := by decide +kernel
theorem dX7_steps_43 : decode cX7_steps 43 = .ok (.iload 4, 2) := by decide +kernel
theorem dX7_steps_45 : decode cX7_steps 45 = .ok (.aload_n 0, 1) := by decide +kernel
theorem dX7_steps_46 : decode cX7_steps 46 = .ok (.getfield 29, 3) := by decide +kernel
theorem dX7_steps_49 : decode cX7_steps 49 = .ok (.iload_n 1, 1) := by decide +kernel
theorem dX7_steps_50 : decode cX7_steps 50 = .ok (.iaload, 1) := by decide +kernel
theorem dX7_steps_51 : decode cX7_steps 51 = .ok (.if_icmp .ge 46, 3) := by decide +kernel
theorem dX7_steps_54 : decode cX7_steps 54 = .ok (.aload_n 0, 1) := by decide +kernel
theorem dX7_steps_55 : decode cX7_steps 55 = .ok (.aload_n 0, 1) := by decide +kernel
theorem dX7_steps_56 : decode cX7_steps 56 = .ok (.getfield 198, 3) := by decide +kernel
theorem dX7_steps_59 : decode cX7_steps 59 = .ok (.aload_n 0, 1) := by decide +kernel
theorem dX7_steps_60 : decode cX7_steps 60 = .ok (.getfield 32, 3) := by decide +kernel
theorem dX7_steps_63 : decode cX7_steps 63 = .ok (.iconst 3, 1) := by decide +kernel
theorem dX7_steps_64 : decode cX7_steps 64 = .ok (.iload_n 1, 1) := by decide +kernel
theorem dX7_steps_65 : decode cX7_steps 65 = .ok (.imul, 1) := by decide +kernel
theorem dX7_steps_66 : decode cX7_steps 66 = .ok (.iload 4, 2) := by decide +kernel
theorem dX7_steps_68 : decode cX7_steps 68 = .ok (.iadd, 1) := by decide +kernel
theorem dX7_steps_69 : decode cX7_steps 69 = .ok (.iaload, 1) := by decide +kernel
theorem dX7_steps_70 : decode cX7_steps 70 = .ok (.invokevirtual 201, 3) := by decide +kernel
theorem dX7_steps_73 : decode cX7_steps 73 = .ok (.istore 5, 2) := by decide +kernel
theorem dX7_steps_75 : decode cX7_steps 75 = .ok (.iload_n 2, 1) := by decide +kernel
theorem dX7_steps_76 : decode cX7_steps 76 = .ok (.iload 5, 2) := by decide +kernel
theorem dX7_steps_78 : decode cX7_steps 78 = .ok (.ifCond .lt 10, 3) := by decide +kernel
theorem dX7_steps_81 : decode cX7_steps 81 = .ok (.iconst 1, 1) := by decide +kernel
theorem dX7_steps_82 : decode cX7_steps 82 = .ok (.iload 5, 2) := by decide +kernel
theorem dX7_steps_84 : decode cX7_steps 84 = .ok (.ishl, 1) := by decide +kernel
theorem dX7_steps_85 : decode cX7_steps 85 = .ok (.goto 4, 3) := by decide +kernel
theorem dX7_steps_88 : decode cX7_steps 88 = .ok (.iconst 0, 1) := by decide +kernel
theorem dX7_steps_89 : decode cX7_steps 89 = .ok (.ior, 1) := by decide +kernel
theorem dX7_steps_90 : decode cX7_steps 90 = .ok (.istore_n 2, 1) := by decide +kernel
theorem dX7_steps_91 : decode cX7_steps 91 = .ok (.iinc 4 1, 3) := by decide +kernel
theorem dX7_steps_94 : decode cX7_steps 94 = .ok (.goto (-51), 3) := by decide +kernel
theorem dX7_steps_97 : decode cX7_steps 97 = .ok (.iload_n 2, 1) := by decide +kernel
theorem dX7_steps_98 : decode cX7_steps 98 = .ok (.ireturn, 1) := by decide +kernel
def zwX7_steps : List Cond := .code yX7_steps cX7_steps 6 (some .int) :: ([.fieldLink RX7 29 "LinkModelsModel" "faces" "[I", .fieldLink RX7 198 "LinkModelsModel" "b" "I", .fieldLink RX7 32 "LinkModelsModel" "face" "[I", .fieldLink RX7 26 "LinkModelsModel" "above" "[I", .methodLink RX7 201 yX7_place, .instanceMethod yX7_place, .selects RX7 yX7_place yX7_place, .initialized RX7, .code yX7_place cX7_place 4 (some .int), .fieldLink RX7 17 "LinkModelsModel" "classes" "[I", .fieldLink RX7 20 "LinkModelsModel" "className" "[I"] ++ wsX70)
theorem zgX7_steps_X7_place_201 : GoodIn zwX7_steps (wsV RX7 201 RX7 yX7_place zwX7_place) := goodIn_app (goodIn_r _ [5, 6, 7, 8] rfl (by decide +kernel)) (goodIn_ca (goodIn_r _ [9, 10, 11] rfl (by decide +kernel)) (zgt zg7))
set_option maxHeartbeats 4000000 in
set_option maxRecDepth 100000 in
theorem kX7_steps (l : Launch) (dC : Nat → ClassId) (dI : Nat → Nat → Nat) (h0 : Nat) (r : Nat → Nat) (cI : ClassId) (cJ : ClassId) (cZ : ClassId) (v0 : Int32) (a1 : Nat → Int32) (tp : Nat) (bs : Nat) (cl : Nat → Nat) (a5 : Nat → Int32) (a6 : Nat → Int32) (a7 : Nat → Int32) (fc : Nat → Nat) (a9 : Nat → Int32) (mb : Nat → Nat) (a11 : Nat → Int32) (a12 : Nat → Int32) (a13 : Nat → Int64) (a14 : Nat → Int32) (a15 : Nat → Int32) (a16 : Nat → Int32) (a17 : Nat → Int32) (a18 : Nat → Int32) (a19 : Nat → Int32) (a20 : Nat → Int32) (az : Nat) (v22 : Int32) (v23 : Int32) (v24 : Int64) (v25 : Int32) (v26 : Int32) (bb : Nat) (ct : Nat → Nat) (us : Nat) (a30 : Nat → Int32) (a31 : Nat → Int32) (a32 : Nat → Int32) (a33 : Nat → Int64) (a34 : Nat → Int32) (a35 : Nat → Int32) (a36 : Nat → Int32) (a37 : Nat → Int32) (pil : Nat → Nat) (rwv : Nat → Nat) (rl : Nat) (v41 : Int32) (v42 : Int32) (v43 : Int32) (v44 : Int32) (v45 : Int32) (hI : rWI tp bs cl fc mb az bb ct us pil rwv rl) (ci : Nat) (hp0 : bb < 5) (hp1 : ci < 80) (sz : Nat) : Met l yX7_steps zwX7_steps ({ frames := 1, cells := 0, slots := 0, locals := 23 }) (zPm dC dI [.ref h0, .int (nI ci)] sz (rW h0 r cI cJ cZ v0 a1 (nI tp) (nI bs) (fun j => nI (cl j)) a5 a6 a7 (fun j => nI (fc j)) a9 (fun j => nI (mb j)) a11 a12 a13 a14 a15 a16 a17 a18 a19 a20 (nI az) v22 v23 v24 v25 v26 (nI bb) (fun j => nI (ct j)) (nI us) a30 a31 a32 a33 a34 a35 a36 a37 (fun j => nI (pil j)) (fun j => nI (rwv j)) (nI rl) v41 v42 v43 v44 v45) [(cI, .int), (cJ, .long), (cZ, .boolean)]) (vp_Si (fun r => (zN r (fun k => k ≤ 65535 ∧ ∀ p, p < 16 → zDep cl a5 a7 fc a9 bb ci p → k.testBit p = true)))) 0 0 (fun _ => False) := by
  refine Met.ofW (cc := cX7_steps) (maxL := 6) (ret := (some .int)) (by decide) rfl ?_
  intro p e s m args below meth c s₁ B hml hv
  obtain ⟨rfl, hsz, hP, hK, hD0, hL0⟩ := hv
  have hx := B.exec
  have hb := B.bytes
  have hr := B.returns
  have hts := atoms_spec (ws := zwX7_steps) B.pre
  have hown : s.vm.findClass RX7 = some m.cls := findClass_of_methodNamed B.named
  have hiX7 : ∀ w ∈ wsX70, w ∈ zwX7_steps := (fun _ h => List.mem_cons_of_mem _ (List.mem_append_right _ h))
  obtain ⟨htp, hbs, hus, hcl, hfc, hmb, hct, hpil, hrwv⟩ := hI
  subst hsz
  have hD := hD0.self (sz := s.heap.size)
  generalize hAe : va_A (rW h0 r cI cJ cZ v0 a1 (nI tp) (nI bs) (fun j => nI (cl j)) a5 a6 a7 (fun j => nI (fc j)) a9 (fun j => nI (mb j)) a11 a12 a13 a14 a15 a16 a17 a18 a19 a20 (nI az) v22 v23 v24 v25 v26 (nI bb) (fun j => nI (ct j)) (nI us) a30 a31 a32 a33 a34 a35 a36 a37 (fun j => nI (pil j)) (fun j => nI (rwv j)) (nI rl) v41 v42 v43 v44 v45) s.heap.size = A at hD hL0
  have hA : ∀ q : Nat, s.heap.size ≤ q → A q := fun q h => by rw [← hAe]; exact Or.inr h
  have hS : va_S A s.heap s.heap [] := va_S.rf
  have hL := hL0
  have hclb := hcl bb
  have hl := lv_entry ([.ref h0, .int (nI ci)]) (n := 6) (Nat.le_of_ble_eq_true rfl)
  rw [lg_entry_eq]
  generalize (lg_sl ([.ref h0, .int (nI ci)]) ++ List.replicate (6 - (lg_sl ([.ref h0, .int (nI ci)])).length) Slot.unset).toArray = ls at hl ⊢
  have hl : lv_has ls 6 [(0, .ref h0), (1, .int (nI ci))] := hl
  have J43 : ∀ (z43 : Nat) (bt : Nat) (kf : Nat) (ls : Array Slot), fc ci - kf < z43 → (kf ≤ fc ci) → (bt ≤ 65535) → (∀ p, p < 16 → a7 ci ≠ 0 → zPl a5 (16 * bb) (cl bb) (a7 ci) (nI p) → bt.testBit p = true) → (∀ j, j < kf → ∀ p, p < 16 → zPl a5 (16 * bb) (cl bb) (a9 (3 * ci + j)) (nI p) → bt.testBit p = true) → lv_has ls 6 [(0, .ref h0), (1, .int (nI ci)), (2, .int (nI bt)), (4, .int (nI kf))] → W p l e (headSpec zwX7_steps { frames := 1, cells := 0, slots := 0, locals := 23 }).room s m (([.ref h0, .int (nI ci)] : List Value).toArray) below meth c s.heap [] 0 0 (MQ below (vp_Si (fun r => (zN r (fun k => k ≤ 65535 ∧ ∀ p, p < 16 → zDep cl a5 a7 fc a9 bb ci p → k.testBit p = true)))) (([.ref h0, .int (nI ci)] : List Value).toArray) s 0 0 (fun _ => False)) (F0 m 43 ls []) := by
    intro z43
    induction z43 with
    | zero => intro bt kf ls h9; exact absurd h9 (Nat.not_lt_zero _)
    | succ z43 ih43 =>
      intro bt kf ls hm43 i43_0 i43_1 i43_2 i43_3 hl
      refine lv_iload hx hb dX7_steps_43 (lv_at hl 3 rfl) ?_
      refine lv_aload_n hx hb dX7_steps_45 rfl (lv_at hl 0 rfl) ?_
      refine va_get (D := (dC, dI)) (ci := 6) (v := .ref (r 8)) (C := RX7) (T := TX7) (N := 46) hx hb hts hiX7 hown hK hP 0 rfl rfl 8 (by decide) (hts (.fieldLink RX7 29 "LinkModelsModel" "faces" "[I") (by decide +kernel)) (fun _ h9 => h9) rfl dX7_steps_46 ?_
      refine lv_iload_n hx hb dX7_steps_49 rfl (lv_at hl 1 rfl) ?_
      refine va_iald hx hb hK hP 6 0 rfl rfl (vp_in_nI (show ci < 80 by omega) (by decide)) dX7_steps_50 ?_
      refine lv_topi (fun x1 ex1 => ?_)
      obtain rfl : x1 = nI (fc ci) := by rw [ex1, nI_clamp (show ci < 2 ^ 31 by omega)]
      have hqx1 := hfc ci
      refine lv_icmp_ge (tgt := 97) hx hb dX7_steps_51 (by decide) (fun cp51 => ?_) (fun cp51 => ?_)
      · have qcp51 : (fc ci) ≤ kf := (nI_leI (a := fc ci) (b := kf) (by omega) (by omega)).mp cp51
        refine lv_iload_n hx hb dX7_steps_97 rfl (lv_at hl 2 rfl) ?_
        exact W.iret (v := (nI bt)) hx hb hr (fun t ht hW => ⟨(nI bt), rfl, ⟨bt, by omega, (by exact ⟨by omega, fun p hp hd => hd.elim (fun h => i43_2 p hp h.1 h.2) (fun ⟨j, hj, h⟩ => i43_3 j (by omega) p hp h)⟩), rfl⟩, ht⟩) (fun _ h => by cases h) dX7_steps_98
      · have qcp51 : ¬ (fc ci) ≤ kf := fun h9 => cp51 ((nI_leI (a := fc ci) (b := kf) (by omega) (by omega)).mpr h9)
        refine lv_aload_n hx hb dX7_steps_54 rfl (lv_at hl 0 rfl) ?_
        refine lv_aload_n hx hb dX7_steps_55 rfl (lv_at hl 0 rfl) ?_
        refine va_get (D := (dC, dI)) (ci := 6) (v := .int (nI bb)) (C := RX7) (T := TX7) (N := 46) hx hb hts hiX7 hown hK hP 0 rfl rfl 27 (by decide) (hts (.fieldLink RX7 198 "LinkModelsModel" "b" "I") (by decide +kernel)) (fun _ h9 => h9) rfl dX7_steps_56 ?_
        refine lv_aload_n hx hb dX7_steps_59 rfl (lv_at hl 0 rfl) ?_
        refine va_get (D := (dC, dI)) (ci := 6) (v := .ref (r 9)) (C := RX7) (T := TX7) (N := 46) hx hb hts hiX7 hown hK hP 0 rfl rfl 9 (by decide) (hts (.fieldLink RX7 32 "LinkModelsModel" "face" "[I") (by decide +kernel)) (fun _ h9 => h9) rfl dX7_steps_60 ?_
        refine lv_iconst (v := 3) hx hb dX7_steps_63 (by decide) ?_
        refine lv_iload_n hx hb dX7_steps_64 rfl (lv_at hl 1 rfl) ?_
        refine lv_imul hx hb dX7_steps_65 ?_
        refine lv_topi (fun x2 ex2 => ?_)
        obtain rfl : x2 = nI (3 * ci) := by rw [ex2]; exact pk_mul (3) (ci)
        refine lv_iload hx hb dX7_steps_66 (lv_at hl 3 rfl) ?_
        refine lv_iadd hx hb dX7_steps_68 ?_
        refine lv_topi (fun x3 ex3 => ?_)
        obtain rfl : x3 = nI ((3 * ci) + kf) := by rw [ex3]; exact nI_add (3 * ci) (kf)
        refine va_iald hx hb hK hP 7 0 rfl rfl (vp_in_nI (show (3 * ci) + kf < 240 by omega) (by decide)) dX7_steps_69 ?_
        refine lv_topi (fun x4 ex4 => ?_)
        obtain rfl : x4 = a9 ((3 * ci) + kf) := by rw [ex4, nI_clamp (show (3 * ci) + kf < 2 ^ 31 by omega)]
        have hFc := z_freeW hD hS hA
        refine vp_callSi (W.runV (As := [.int (nI bb), .int (a9 ((3 * ci) + kf))]) (rest := []) ⟨hx, hb, hml, hown, hts⟩ (kX7_place l dC dI h0 r cI cJ cZ v0 a1 tp bs cl a5 a6 a7 fc a9 mb a11 a12 a13 a14 a15 a16 a17 a18 a19 a20 az v22 v23 v24 v25 v26 bb ct us a30 a31 a32 a33 a34 a35 a36 a37 pil rwv rl v41 v42 v43 v44 v45 ⟨by omega, by omega, by omega, hcl, hfc, hmb, hct, hpil, hrwv⟩ bb (a9 ((3 * ci) + kf)) (by first | omega | assumption | trivial) s.heap.size) (cwV 2 hts zgX7_steps_X7_place_201 rfl rfl rfl (by decide +kernel) ⟨(show 0 + 1 ≤ 1 by omega), (show 8 + (4 + 11) + 0 ≤ 23 by omega)⟩) (zVm (ci := 6) (q0 := 0) (q := (RX7, TX7, 46)) hK hP hD hL hS.2.1 hFc rfl rfl rfl) rfl rfl hl.1 rfl (lv_room (Nat.le_of_ble_eq_true rfl)) dX7_steps_70 ⟨(show 0 + 0 ≤ 0 by omega), (show 0 + 0 ≤ 0 by omega)⟩) (fun r5 hw => ?_)
        have hw : (zM r5 (fun k => k < cl bb)) ∧ (zPl a5 (16 * bb) (cl bb) ((a9 ((3 * ci) + kf))) r5) := hw
        obtain ⟨w0r5, w1r5⟩ := hw
        refine lv_istore (lv' := [(5, .int r5), (0, .ref h0), (1, .int (nI ci)), (2, .int (nI bt)), (4, .int (nI kf))]) hx hb dX7_steps_73 hl (by decide) rfl (fun ls hl => ?_)
        refine lv_iload_n hx hb dX7_steps_75 rfl (lv_at hl 3 rfl) ?_
        refine lv_iload hx hb dX7_steps_76 (lv_at hl 0 rfl) ?_
        refine lv_if_lt (tgt := 88) hx hb dX7_steps_78 (by decide) (fun cp78 => ?_) (fun cp78 => ?_)
        · obtain rfl : r5 = -1 := zM.neg w0r5 cp78
          refine lv_iconst (v := 0) hx hb dX7_steps_88 (by decide) ?_
          refine lv_ior hx hb dX7_steps_89 ?_
          refine lv_topi (fun x6 ex6 => ?_)
          obtain rfl : x6 = nI (bt) := by rw [ex6]; exact (z_or (bt) (0)).trans (by rw [Nat.or_zero])
          refine lv_istore_n (lv' := [(2, .int (nI bt)), (5, .int (-1)), (0, .ref h0), (1, .int (nI ci)), (4, .int (nI kf))]) hx hb dX7_steps_90 rfl hl (by decide) rfl (fun ls hl => ?_)
          obtain ⟨x7, ex7⟩ : ∃ y : Int32, y = (nI kf) + 1 := ⟨_, rfl⟩
          refine lv_iinc (v := x7) (lv' := [(4, .int x7), (2, .int (nI bt)), (5, .int (-1)), (0, .ref h0), (1, .int (nI ci))]) hx hb dX7_steps_91 hl (k := 4) rfl (by rw [ex7]; rfl) (by decide) rfl (fun ls hl => ?_)
          obtain rfl : x7 = nI (kf + 1) := by rw [ex7]; exact nI_add (kf) 1
          refine lv_goto (tgt := 43) hx hb dX7_steps_94 (by decide) ?_
          exact ih43 bt (kf + 1) ls (by omega) (by omega) (by first | assumption | exact z_or16 (by assumption) (z_p16 _ (by omega))) (by first | assumption | (intro p hp h1 h2; exact z_bm (i43_2 p hp h1 h2))) (by intro j hj p hp h2; rcases Nat.lt_or_ge j kf with h8 | h8; (first | exact i43_3 j h8 p hp h2 | exact z_bm (i43_3 j h8 p hp h2)); (rw [show j = kf by omega] at h2; first | exact z_bn w1r5 hp h2 | exact z_bs (by omega) w1r5 p hp h2)) (lv_sub hl [3, 4, 1, 0] rfl)
        · obtain ⟨k8, hBk8, hQk8, rfl⟩ := zM.pos w0r5 cp78
          refine lv_iconst (v := 1) hx hb dX7_steps_81 (by decide) ?_
          refine lv_iload hx hb dX7_steps_82 (lv_at hl 0 rfl) ?_
          refine lv_ishl hx hb dX7_steps_84 ?_
          refine lv_topi (fun x9 ex9 => ?_)
          obtain rfl : x9 = nI (2 ^ k8) := by rw [ex9]; exact z_shl1 (k8) (by omega)
          refine lv_goto (tgt := 89) hx hb dX7_steps_85 (by decide) ?_
          refine lv_ior hx hb dX7_steps_89 ?_
          refine lv_topi (fun x10 ex10 => ?_)
          obtain rfl : x10 = nI (bt ||| (2 ^ k8)) := by rw [ex10]; exact (z_or (bt) (2 ^ k8))
          refine lv_istore_n (lv' := [(2, .int (nI (bt ||| (2 ^ k8)))), (5, .int (nI k8)), (0, .ref h0), (1, .int (nI ci)), (4, .int (nI kf))]) hx hb dX7_steps_90 rfl hl (by decide) rfl (fun ls hl => ?_)
          obtain ⟨x11, ex11⟩ : ∃ y : Int32, y = (nI kf) + 1 := ⟨_, rfl⟩
          refine lv_iinc (v := x11) (lv' := [(4, .int x11), (2, .int (nI (bt ||| (2 ^ k8)))), (5, .int (nI k8)), (0, .ref h0), (1, .int (nI ci))]) hx hb dX7_steps_91 hl (k := 4) rfl (by rw [ex11]; rfl) (by decide) rfl (fun ls hl => ?_)
          obtain rfl : x11 = nI (kf + 1) := by rw [ex11]; exact nI_add (kf) 1
          refine lv_goto (tgt := 43) hx hb dX7_steps_94 (by decide) ?_
          exact ih43 (bt ||| (2 ^ k8)) (kf + 1) ls (by omega) (by omega) (by first | assumption | exact z_or16 (by assumption) (z_p16 _ (by omega))) (by first | assumption | (intro p hp h1 h2; exact z_bm (i43_2 p hp h1 h2))) (by intro j hj p hp h2; rcases Nat.lt_or_ge j kf with h8 | h8; (first | exact i43_3 j h8 p hp h2 | exact z_bm (i43_3 j h8 p hp h2)); (rw [show j = kf by omega] at h2; first | exact z_bn w1r5 hp h2 | exact z_bs (by omega) w1r5 p hp h2)) (lv_sub hl [3, 4, 1, 0] rfl)
  have J40 : ∀ (bt : Nat) (ls : Array Slot), (bt ≤ 65535) → (∀ p, p < 16 → a7 ci ≠ 0 → zPl a5 (16 * bb) (cl bb) (a7 ci) (nI p) → bt.testBit p = true) → lv_has ls 6 [(0, .ref h0), (1, .int (nI ci)), (2, .int (nI bt))] → W p l e (headSpec zwX7_steps { frames := 1, cells := 0, slots := 0, locals := 23 }).room s m (([.ref h0, .int (nI ci)] : List Value).toArray) below meth c s.heap [] 0 0 (MQ below (vp_Si (fun r => (zN r (fun k => k ≤ 65535 ∧ ∀ p, p < 16 → zDep cl a5 a7 fc a9 bb ci p → k.testBit p = true)))) (([.ref h0, .int (nI ci)] : List Value).toArray) s 0 0 (fun _ => False)) (F0 m 40 ls []) := by
    intro bt ls i40_0 i40_1 hl
    refine lv_iconst (v := 0) hx hb dX7_steps_40 (by decide) ?_
    refine lv_istore (lv' := [(4, .int 0), (0, .ref h0), (1, .int (nI ci)), (2, .int (nI bt))]) hx hb dX7_steps_41 hl (by decide) rfl (fun ls hl => ?_)
    exact J43 _ bt 0 ls (Nat.lt_succ_self _) (by omega) (by assumption) (by assumption) (by intro j hj; omega) (lv_sub hl [1, 2, 3, 0] rfl)
  refine lv_iconst (v := 0) hx hb dX7_steps_0 (by decide) ?_
  refine lv_istore_n (lv' := [(2, .int 0), (0, .ref h0), (1, .int (nI ci))]) hx hb dX7_steps_1 rfl hl (by decide) rfl (fun ls hl => ?_)
  refine lv_aload_n hx hb dX7_steps_2 rfl (lv_at hl 1 rfl) ?_
  refine lv_aload_n hx hb dX7_steps_3 rfl (lv_at hl 1 rfl) ?_
  refine va_get (D := (dC, dI)) (ci := 6) (v := .int (nI bb)) (C := RX7) (T := TX7) (N := 46) hx hb hts hiX7 hown hK hP 0 rfl rfl 27 (by decide) (hts (.fieldLink RX7 198 "LinkModelsModel" "b" "I") (by decide +kernel)) (fun _ h9 => h9) rfl dX7_steps_4 ?_
  refine lv_aload_n hx hb dX7_steps_7 rfl (lv_at hl 1 rfl) ?_
  refine va_get (D := (dC, dI)) (ci := 6) (v := .ref (r 7)) (C := RX7) (T := TX7) (N := 46) hx hb hts hiX7 hown hK hP 0 rfl rfl 7 (by decide) (hts (.fieldLink RX7 26 "LinkModelsModel" "above" "[I") (by decide +kernel)) (fun _ h9 => h9) rfl dX7_steps_8 ?_
  refine lv_iload_n hx hb dX7_steps_11 rfl (lv_at hl 2 rfl) ?_
  refine va_iald hx hb hK hP 5 0 rfl rfl (vp_in_nI (show ci < 80 by omega) (by decide)) dX7_steps_12 ?_
  refine lv_topi (fun x12 ex12 => ?_)
  obtain rfl : x12 = a7 ci := by rw [ex12, nI_clamp (show ci < 2 ^ 31 by omega)]
  have hFc := z_freeW hD hS hA
  refine vp_callSi (W.runV (As := [.int (nI bb), .int (a7 ci)]) (rest := []) ⟨hx, hb, hml, hown, hts⟩ (kX7_place l dC dI h0 r cI cJ cZ v0 a1 tp bs cl a5 a6 a7 fc a9 mb a11 a12 a13 a14 a15 a16 a17 a18 a19 a20 az v22 v23 v24 v25 v26 bb ct us a30 a31 a32 a33 a34 a35 a36 a37 pil rwv rl v41 v42 v43 v44 v45 ⟨by omega, by omega, by omega, hcl, hfc, hmb, hct, hpil, hrwv⟩ bb (a7 ci) (by first | omega | assumption | trivial) s.heap.size) (cwV 2 hts zgX7_steps_X7_place_201 rfl rfl rfl (by decide +kernel) ⟨(show 0 + 1 ≤ 1 by omega), (show 8 + (4 + 11) + 0 ≤ 23 by omega)⟩) (zVm (ci := 6) (q0 := 0) (q := (RX7, TX7, 46)) hK hP hD hL hS.2.1 hFc rfl rfl rfl) rfl rfl hl.1 rfl (lv_room (Nat.le_of_ble_eq_true rfl)) dX7_steps_13 ⟨(show 0 + 0 ≤ 0 by omega), (show 0 + 0 ≤ 0 by omega)⟩) (fun r13 hw => ?_)
  have hw : (zM r13 (fun k => k < cl bb)) ∧ (zPl a5 (16 * bb) (cl bb) ((a7 ci)) r13) := hw
  obtain ⟨w0r13, w1r13⟩ := hw
  refine lv_istore_n (lv' := [(3, .int r13), (2, .int 0), (0, .ref h0), (1, .int (nI ci))]) hx hb dX7_steps_16 rfl hl (by decide) rfl (fun ls hl => ?_)
  refine lv_iload_n hx hb dX7_steps_17 rfl (lv_at hl 1 rfl) ?_
  refine lv_aload_n hx hb dX7_steps_18 rfl (lv_at hl 2 rfl) ?_
  refine va_get (D := (dC, dI)) (ci := 6) (v := .ref (r 7)) (C := RX7) (T := TX7) (N := 46) hx hb hts hiX7 hown hK hP 0 rfl rfl 7 (by decide) (hts (.fieldLink RX7 26 "LinkModelsModel" "above" "[I") (by decide +kernel)) (fun _ h9 => h9) rfl dX7_steps_19 ?_
  refine lv_iload_n hx hb dX7_steps_22 rfl (lv_at hl 3 rfl) ?_
  refine va_iald hx hb hK hP 5 0 rfl rfl (vp_in_nI (show ci < 80 by omega) (by decide)) dX7_steps_23 ?_
  refine lv_topi (fun x14 ex14 => ?_)
  obtain rfl : x14 = a7 ci := by rw [ex14, nI_clamp (show ci < 2 ^ 31 by omega)]
  refine lv_if_eq (tgt := 37) hx hb dX7_steps_24 (by decide) (fun cp24 => ?_) (fun cp24 => ?_)
  · refine lv_iconst (v := 0) hx hb dX7_steps_37 (by decide) ?_
    refine lv_ior hx hb dX7_steps_38 ?_
    refine lv_topi (fun x15 ex15 => ?_)
    obtain rfl : x15 = nI (0) := by rw [ex15]; exact (z_or (0) (0)).trans (by rw [Nat.zero_or])
    refine lv_istore_n (lv' := [(2, .int (nI 0)), (3, .int r13), (0, .ref h0), (1, .int (nI ci))]) hx hb dX7_steps_39 rfl hl (by decide) rfl (fun ls hl => ?_)
    exact J40 0 ls  (by first | omega | exact z_p16 _ (by omega)) (by intro p hp h1 h2; first | exact absurd cp24 h1 | exact z_bn w1r13 hp h2 | exact z_bs0 (by omega) w1r13 p hp h2) (lv_sub hl [2, 3, 0] rfl)
  · refine lv_iload_n hx hb dX7_steps_27 rfl (lv_at hl 0 rfl) ?_
    refine lv_if_lt (tgt := 37) hx hb dX7_steps_28 (by decide) (fun cp28 => ?_) (fun cp28 => ?_)
    · obtain rfl : r13 = -1 := zM.neg w0r13 cp28
      refine lv_iconst (v := 0) hx hb dX7_steps_37 (by decide) ?_
      refine lv_ior hx hb dX7_steps_38 ?_
      refine lv_topi (fun x16 ex16 => ?_)
      obtain rfl : x16 = nI (0) := by rw [ex16]; exact (z_or (0) (0)).trans (by rw [Nat.zero_or])
      refine lv_istore_n (lv' := [(2, .int (nI 0)), (3, .int (-1)), (0, .ref h0), (1, .int (nI ci))]) hx hb dX7_steps_39 rfl hl (by decide) rfl (fun ls hl => ?_)
      exact J40 0 ls  (by first | omega | exact z_p16 _ (by omega)) (by intro p hp h1 h2; first | exact absurd cp24 h1 | exact z_bn w1r13 hp h2 | exact z_bs0 (by omega) w1r13 p hp h2) (lv_sub hl [2, 3, 0] rfl)
    · obtain ⟨k17, hBk17, hQk17, rfl⟩ := zM.pos w0r13 cp28
      refine lv_iconst (v := 1) hx hb dX7_steps_31 (by decide) ?_
      refine lv_iload_n hx hb dX7_steps_32 rfl (lv_at hl 0 rfl) ?_
      refine lv_ishl hx hb dX7_steps_33 ?_
      refine lv_topi (fun x18 ex18 => ?_)
      obtain rfl : x18 = nI (2 ^ k17) := by rw [ex18]; exact z_shl1 (k17) (by omega)
      refine lv_goto (tgt := 38) hx hb dX7_steps_34 (by decide) ?_
      refine lv_ior hx hb dX7_steps_38 ?_
      refine lv_topi (fun x19 ex19 => ?_)
      obtain rfl : x19 = nI (2 ^ k17) := by rw [ex19]; exact (z_or (0) (2 ^ k17)).trans (by rw [Nat.zero_or])
      refine lv_istore_n (lv' := [(2, .int (nI (2 ^ k17))), (3, .int (nI k17)), (0, .ref h0), (1, .int (nI ci))]) hx hb dX7_steps_39 rfl hl (by decide) rfl (fun ls hl => ?_)
      exact J40 (2 ^ k17) ls  (by first | omega | exact z_p16 _ (by omega)) (by intro p hp h1 h2; first | exact absurd cp24 h1 | exact z_bn w1r13 hp h2 | exact z_bs0 (by omega) w1r13 p hp h2) (lv_sub hl [2, 3, 0] rfl)
theorem dX7_errorNow_0 : decode cX7_errorNow 0 = .ok (.aload_n 0, 1) := by decide +kernel
theorem dX7_errorNow_1 : decode cX7_errorNow 1 = .ok (.getfield 26, 3) := by decide +kernel
theorem dX7_errorNow_4 : decode cX7_errorNow 4 = .ok (.iload_n 1, 1) := by decide +kernel
theorem dX7_errorNow_5 : decode cX7_errorNow 5 = .ok (.iaload, 1) := by decide +kernel
theorem dX7_errorNow_6 : decode cX7_errorNow 6 = .ok (.ifCond .eq 114, 3) := by decide +kernel
theorem dX7_errorNow_9 : decode cX7_errorNow 9 = .ok (.aload_n 0, 1) := by decide +kernel
theorem dX7_errorNow_10 : decode cX7_errorNow 10 = .ok (.aload_n 0, 1) := by decide +kernel
theorem dX7_errorNow_11 : decode cX7_errorNow 11 = .ok (.getfield 198, 3) := by decide +kernel
theorem dX7_errorNow_14 : decode cX7_errorNow 14 = .ok (.aload_n 0, 1) := by decide +kernel
theorem dX7_errorNow_15 : decode cX7_errorNow 15 = .ok (.getfield 26, 3) := by decide +kernel
theorem dX7_errorNow_18 : decode cX7_errorNow 18 = .ok (.iload_n 1, 1) := by decide +kernel
theorem dX7_errorNow_19 : decode cX7_errorNow 19 = .ok (.iaload, 1) := by decide +kernel
theorem dX7_errorNow_20 : decode cX7_errorNow 20 = .ok (.invokevirtual 201, 3) := by decide +kernel
theorem dX7_errorNow_23 : decode cX7_errorNow 23 = .ok (.istore_n 2, 1) := by decide +kernel
theorem dX7_errorNow_24 : decode cX7_errorNow 24 = .ok (.iload_n 2, 1) := by decide +kernel
theorem dX7_errorNow_25 : decode cX7_errorNow 25 = .ok (.ifCond .ge 7, 3) := by decide +kernel
theorem dX7_errorNow_28 : decode cX7_errorNow 28 = .ok (.iconst 1, 1) := by decide +kernel
theorem dX7_errorNow_29 : decode cX7_errorNow 29 = .ok (.goto 17, 3) := by decide +kernel
theorem dX7_errorNow_32 : decode cX7_errorNow 32 = .ok (.aload_n 0, 1) := by decide +kernel
theorem dX7_errorNow_33 : decode cX7_errorNow 33 = .ok (.getfield 38, 3) := by decide +kernel
theorem dX7_errorNow_36 : decode cX7_errorNow 36 = .ok (.bipush 16, 2) := by decide +kernel
theorem dX7_errorNow_38 : decode cX7_errorNow 38 = .ok (.aload_n 0, 1) := by decide +kernel
theorem dX7_errorNow_39 : decode cX7_errorNow 39 = .ok (.getfield 198, 3) := by decide +kernel
theorem dX7_errorNow_42 : decode cX7_errorNow 42 = .ok (.imul, 1) := by decide +kernel
theorem dX7_errorNow_43 : decode cX7_errorNow 43 = .ok (.iload_n 2, 1) := by decide +kernel
theorem dX7_errorNow_44 : decode cX7_errorNow 44 = .ok (.iadd, 1) := by decide +kernel
theorem dX7_errorNow_45 : decode cX7_errorNow 45 = .ok (.iaload, 1) := by decide +kernel
theorem dX7_errorNow_46 : decode cX7_errorNow 46 = .ok (.istore_n 3, 1) := by decide +kernel
theorem dX7_errorNow_47 : decode cX7_errorNow 47 = .ok (.iload_n 3, 1) := by decide +kernel
theorem dX7_errorNow_48 : decode cX7_errorNow 48 = .ok (.ifCond .ge 5, 3) := by decide +kernel
theorem dX7_errorNow_51 : decode cX7_errorNow 51 = .ok (.iconst (-1), 1) := by decide +kernel
theorem dX7_errorNow_52 : decode cX7_errorNow 52 = .ok (.ireturn, 1) := by decide +kernel
theorem dX7_errorNow_53 : decode cX7_errorNow 53 = .ok (.iload_n 3, 1) := by decide +kernel
theorem dX7_errorNow_54 : decode cX7_errorNow 54 = .ok (.ifCond .le 5, 3) := by decide +kernel
theorem dX7_errorNow_57 : decode cX7_errorNow 57 = .ok (.iconst 2, 1) := by decide +kernel
theorem dX7_errorNow_58 : decode cX7_errorNow 58 = .ok (.ireturn, 1) := by decide +kernel
theorem dX7_errorNow_59 : decode cX7_errorNow 59 = .ok (.aload_n 0, 1) := by decide +kernel
theorem dX7_errorNow_60 : decode cX7_errorNow 60 = .ok (.getfield 23, 3) := by decide +kernel
theorem dX7_errorNow_63 : decode cX7_errorNow 63 = .ok (.bipush 16, 2) := by decide +kernel
theorem dX7_errorNow_65 : decode cX7_errorNow 65 = .ok (.aload_n 0, 1) := by decide +kernel
theorem dX7_errorNow_66 : decode cX7_errorNow 66 = .ok (.getfield 198, 3) := by decide +kernel
theorem dX7_errorNow_69 : decode cX7_errorNow 69 = .ok (.imul, 1) := by decide +kernel
theorem dX7_errorNow_70 : decode cX7_errorNow 70 = .ok (.iload_n 2, 1) := by decide +kernel
theorem dX7_errorNow_71 : decode cX7_errorNow 71 = .ok (.iadd, 1) := by decide +kernel
theorem dX7_errorNow_72 : decode cX7_errorNow 72 = .ok (.iaload, 1) := by decide +kernel
theorem dX7_errorNow_73 : decode cX7_errorNow 73 = .ok (.istore 4, 2) := by decide +kernel
theorem dX7_errorNow_75 : decode cX7_errorNow 75 = .ok (.iload 4, 2) := by decide +kernel
theorem dX7_errorNow_77 : decode cX7_errorNow 77 = .ok (.iconst 1, 1) := by decide +kernel
theorem dX7_errorNow_78 : decode cX7_errorNow 78 = .ok (.if_icmp .eq 13, 3) := by decide +kernel
theorem dX7_errorNow_81 : decode cX7_errorNow 81 = .ok (.aload_n 0, 1) := by decide +kernel
theorem dX7_errorNow_82 : decode cX7_errorNow 82 = .ok (.getfield 23, 3) := by decide +kernel
theorem dX7_errorNow_85 : decode cX7_errorNow 85 = .ok (.iload_n 1, 1) := by decide +kernel
theorem dX7_errorNow_86 : decode cX7_errorNow 86 = .ok (.iaload, 1) := by decide +kernel
theorem dX7_errorNow_87 : decode cX7_errorNow 87 = .ok (.iconst 1, 1) := by decide +kernel
theorem dX7_errorNow_88 : decode cX7_errorNow 88 = .ok (.if_icmp .ne 7, 3) := by decide +kernel
theorem dX7_errorNow_91 : decode cX7_errorNow 91 = .ok (.iconst 1, 1) := by decide +kernel
theorem dX7_errorNow_92 : decode cX7_errorNow 92 = .ok (.goto 4, 3) := by decide +kernel
theorem dX7_errorNow_95 : decode cX7_errorNow 95 = .ok (.iconst 0, 1) := by decide +kernel
theorem dX7_errorNow_96 : decode cX7_errorNow 96 = .ok (.istore 5, 2) := by decide +kernel
theorem dX7_errorNow_98 : decode cX7_errorNow 98 = .ok (.iload 5, 2) := by decide +kernel
theorem dX7_errorNow_100 : decode cX7_errorNow 100 = .ok (.ifCond .ne 9, 3) := by decide +kernel
theorem dX7_errorNow_103 : decode cX7_errorNow 103 = .ok (.iload 4, 2) := by decide +kernel
theorem dX7_errorNow_105 : decode cX7_errorNow 105 = .ok (.iconst 3, 1) := by decide +kernel
theorem dX7_errorNow_106 : decode cX7_errorNow 106 = .ok (.if_icmp .ne 14, 3) := by decide +kernel
theorem dX7_errorNow_109 : decode cX7_errorNow 109 = .ok (.iload 5, 2) := by decide +kernel
theorem dX7_errorNow_111 : decode cX7_errorNow 111 = .ok (.ifCond .eq 7, 3) := by decide +kernel
theorem dX7_errorNow_114 : decode cX7_errorNow 114 = .ok (.iconst 4, 1) := by decide +kernel
theorem dX7_errorNow_115 : decode cX7_errorNow 115 = .ok (.goto 4, 3) := by decide +kernel
theorem dX7_errorNow_118 : decode cX7_errorNow 118 = .ok (.iconst 5, 1) := by decide +kernel
theorem dX7_errorNow_119 : decode cX7_errorNow 119 = .ok (.ireturn, 1) := by decide +kernel
theorem dX7_errorNow_120 : decode cX7_errorNow 120 = .ok (.iconst 0, 1) := by decide +kernel
theorem dX7_errorNow_121 : decode cX7_errorNow 121 = .ok (.istore_n 2, 1) := by decide +kernel
theorem dX7_errorNow_122 : decode cX7_errorNow 122 = .ok (.iload_n 2, 1) := by decide +kernel
theorem dX7_errorNow_123 : decode cX7_errorNow 123 = .ok (.aload_n 0, 1) := by decide +kernel
theorem dX7_errorNow_124 : decode cX7_errorNow 124 = .ok (.getfield 29, 3) := by decide +kernel
theorem dX7_errorNow_127 : decode cX7_errorNow 127 = .ok (.iload_n 1, 1) := by decide +kernel
theorem dX7_errorNow_128 : decode cX7_errorNow 128 = .ok (.iaload, 1) := by decide +kernel
theorem dX7_errorNow_129 : decode cX7_errorNow 129 = .ok (.if_icmp .ge 86, 3) := by decide +kernel
theorem dX7_errorNow_132 : decode cX7_errorNow 132 = .ok (.aload_n 0, 1) := by decide +kernel
theorem dX7_errorNow_133 : decode cX7_errorNow 133 = .ok (.aload_n 0, 1) := by decide +kernel
theorem dX7_errorNow_134 : decode cX7_errorNow 134 = .ok (.getfield 198, 3) := by decide +kernel
theorem dX7_errorNow_137 : decode cX7_errorNow 137 = .ok (.aload_n 0, 1) := by decide +kernel
theorem dX7_errorNow_138 : decode cX7_errorNow 138 = .ok (.getfield 32, 3) := by decide +kernel
theorem dX7_errorNow_141 : decode cX7_errorNow 141 = .ok (.iconst 3, 1) := by decide +kernel
theorem dX7_errorNow_142 : decode cX7_errorNow 142 = .ok (.iload_n 1, 1) := by decide +kernel
theorem dX7_errorNow_143 : decode cX7_errorNow 143 = .ok (.imul, 1) := by decide +kernel
theorem dX7_errorNow_144 : decode cX7_errorNow 144 = .ok (.iload_n 2, 1) := by decide +kernel
theorem dX7_errorNow_145 : decode cX7_errorNow 145 = .ok (.iadd, 1) := by decide +kernel
theorem dX7_errorNow_146 : decode cX7_errorNow 146 = .ok (.iaload, 1) := by decide +kernel
theorem dX7_errorNow_147 : decode cX7_errorNow 147 = .ok (.invokevirtual 201, 3) := by decide +kernel
theorem dX7_errorNow_150 : decode cX7_errorNow 150 = .ok (.istore_n 3, 1) := by decide +kernel
theorem dX7_errorNow_151 : decode cX7_errorNow 151 = .ok (.iload_n 3, 1) := by decide +kernel
theorem dX7_errorNow_152 : decode cX7_errorNow 152 = .ok (.ifCond .ge 7, 3) := by decide +kernel
theorem dX7_errorNow_155 : decode cX7_errorNow 155 = .ok (.iconst 1, 1) := by decide +kernel
theorem dX7_errorNow_156 : decode cX7_errorNow 156 = .ok (.goto 17, 3) := by decide +kernel
theorem dX7_errorNow_159 : decode cX7_errorNow 159 = .ok (.aload_n 0, 1) := by decide +kernel
theorem dX7_errorNow_160 : decode cX7_errorNow 160 = .ok (.getfield 38, 3) := by decide +kernel
theorem dX7_errorNow_163 : decode cX7_errorNow 163 = .ok (.bipush 16, 2) := by decide +kernel
theorem dX7_errorNow_165 : decode cX7_errorNow 165 = .ok (.aload_n 0, 1) := by decide +kernel
theorem dX7_errorNow_166 : decode cX7_errorNow 166 = .ok (.getfield 198, 3) := by decide +kernel
theorem dX7_errorNow_169 : decode cX7_errorNow 169 = .ok (.imul, 1) := by decide +kernel
theorem dX7_errorNow_170 : decode cX7_errorNow 170 = .ok (.iload_n 3, 1) := by decide +kernel
theorem dX7_errorNow_171 : decode cX7_errorNow 171 = .ok (.iadd, 1) := by decide +kernel
theorem dX7_errorNow_172 : decode cX7_errorNow 172 = .ok (.iaload, 1) := by decide +kernel
theorem dX7_errorNow_173 : decode cX7_errorNow 173 = .ok (.istore 4, 2) := by decide +kernel
theorem dX7_errorNow_175 : decode cX7_errorNow 175 = .ok (.iload 4, 2) := by decide +kernel
theorem dX7_errorNow_177 : decode cX7_errorNow 177 = .ok (.ifCond .ge 5, 3) := by decide +kernel
theorem dX7_errorNow_180 : decode cX7_errorNow 180 = .ok (.iconst (-1), 1) := by decide +kernel
theorem dX7_errorNow_181 : decode cX7_errorNow 181 = .ok (.ireturn, 1) := by decide +kernel
theorem dX7_errorNow_182 : decode cX7_errorNow 182 = .ok (.iload 4, 2) := by decide +kernel
theorem dX7_errorNow_184 : decode cX7_errorNow 184 = .ok (.ifCond .le 5, 3) := by decide +kernel
theorem dX7_errorNow_187 : decode cX7_errorNow 187 = .ok (.iconst 2, 1) := by decide +kernel
theorem dX7_errorNow_188 : decode cX7_errorNow 188 = .ok (.ireturn, 1) := by decide +kernel
theorem dX7_errorNow_189 : decode cX7_errorNow 189 = .ok (.aload_n 0, 1) := by decide +kernel
theorem dX7_errorNow_190 : decode cX7_errorNow 190 = .ok (.getfield 23, 3) := by decide +kernel
theorem dX7_errorNow_193 : decode cX7_errorNow 193 = .ok (.bipush 16, 2) := by decide +kernel
theorem dX7_errorNow_195 : decode cX7_errorNow 195 = .ok (.aload_n 0, 1) := by decide +kernel
theorem dX7_errorNow_196 : decode cX7_errorNow 196 = .ok (.getfield 198, 3) := by decide +kernel
theorem dX7_errorNow_199 : decode cX7_errorNow 199 = .ok (.imul, 1) := by decide +kernel
theorem dX7_errorNow_200 : decode cX7_errorNow 200 = .ok (.iload_n 3, 1) := by decide +kernel
theorem dX7_errorNow_201 : decode cX7_errorNow 201 = .ok (.iadd, 1) := by decide +kernel
theorem dX7_errorNow_202 : decode cX7_errorNow 202 = .ok (.iaload, 1) := by decide +kernel
theorem dX7_errorNow_203 : decode cX7_errorNow 203 = .ok (.iconst 1, 1) := by decide +kernel
theorem dX7_errorNow_204 : decode cX7_errorNow 204 = .ok (.if_icmp .eq 5, 3) := by decide +kernel
theorem dX7_errorNow_207 : decode cX7_errorNow 207 = .ok (.iconst 4, 1) := by decide +kernel
theorem dX7_errorNow_208 : decode cX7_errorNow 208 = .ok (.ireturn, 1) := by decide +kernel
theorem dX7_errorNow_209 : decode cX7_errorNow 209 = .ok (.iinc 2 1, 3) := by decide +kernel
theorem dX7_errorNow_212 : decode cX7_errorNow 212 = .ok (.goto (-90), 3) := by decide +kernel
theorem dX7_errorNow_215 : decode cX7_errorNow 215 = .ok (.iconst 0, 1) := by decide +kernel
theorem dX7_errorNow_216 : decode cX7_errorNow 216 = .ok (.ireturn, 1) := by decide +kernel
def zwX7_errorNow : List Cond := .code yX7_errorNow cX7_errorNow 6 (some .int) :: ([.fieldLink RX7 29 "LinkModelsModel" "faces" "[I", .fieldLink RX7 198 "LinkModelsModel" "b" "I", .fieldLink RX7 32 "LinkModelsModel" "face" "[I", .fieldLink RX7 38 "LinkModelsModel" "error" "[I", .fieldLink RX7 23 "LinkModelsModel" "sort" "[I", .fieldLink RX7 26 "LinkModelsModel" "above" "[I", .methodLink RX7 201 yX7_place, .instanceMethod yX7_place, .selects RX7 yX7_place yX7_place, .initialized RX7, .code yX7_place cX7_place 4 (some .int), .fieldLink RX7 17 "LinkModelsModel" "classes" "[I", .fieldLink RX7 20 "LinkModelsModel" "className" "[I"] ++ wsX70)
theorem zgX7_errorNow_X7_place_201 : GoodIn zwX7_errorNow (wsV RX7 201 RX7 yX7_place zwX7_place) := goodIn_app (goodIn_r _ [7, 8, 9, 10] rfl (by decide +kernel)) (goodIn_ca (goodIn_r _ [11, 12, 13] rfl (by decide +kernel)) (zgt zg7))
set_option maxHeartbeats 4000000 in
set_option maxRecDepth 100000 in
theorem kX7_errorNow (l : Launch) (dC : Nat → ClassId) (dI : Nat → Nat → Nat) (h0 : Nat) (r : Nat → Nat) (cI : ClassId) (cJ : ClassId) (cZ : ClassId) (v0 : Int32) (a1 : Nat → Int32) (tp : Nat) (bs : Nat) (cl : Nat → Nat) (a5 : Nat → Int32) (a6 : Nat → Int32) (a7 : Nat → Int32) (fc : Nat → Nat) (a9 : Nat → Int32) (mb : Nat → Nat) (a11 : Nat → Int32) (a12 : Nat → Int32) (a13 : Nat → Int64) (a14 : Nat → Int32) (a15 : Nat → Int32) (a16 : Nat → Int32) (a17 : Nat → Int32) (a18 : Nat → Int32) (a19 : Nat → Int32) (a20 : Nat → Int32) (az : Nat) (v22 : Int32) (v23 : Int32) (v24 : Int64) (v25 : Int32) (v26 : Int32) (bb : Nat) (ct : Nat → Nat) (us : Nat) (a30 : Nat → Int32) (a31 : Nat → Int32) (a32 : Nat → Int32) (a33 : Nat → Int64) (a34 : Nat → Int32) (a35 : Nat → Int32) (a36 : Nat → Int32) (a37 : Nat → Int32) (pil : Nat → Nat) (rwv : Nat → Nat) (rl : Nat) (v41 : Int32) (v42 : Int32) (v43 : Int32) (v44 : Int32) (v45 : Int32) (hI : rWI tp bs cl fc mb az bb ct us pil rwv rl) (ci : Nat) (hp0 : bb < 5) (hp1 : ci < 80) (sz : Nat) : Met l yX7_errorNow zwX7_errorNow ({ frames := 1, cells := 0, slots := 0, locals := 23 }) (zPm dC dI [.ref h0, .int (nI ci)] sz (rW h0 r cI cJ cZ v0 a1 (nI tp) (nI bs) (fun j => nI (cl j)) a5 a6 a7 (fun j => nI (fc j)) a9 (fun j => nI (mb j)) a11 a12 a13 a14 a15 a16 a17 a18 a19 a20 (nI az) v22 v23 v24 v25 v26 (nI bb) (fun j => nI (ct j)) (nI us) a30 a31 a32 a33 a34 a35 a36 a37 (fun j => nI (pil j)) (fun j => nI (rwv j)) (nI rl) v41 v42 v43 v44 v45) [(cI, .int), (cJ, .long), (cZ, .boolean)]) (vp_Si (fun r => (r < 0 → ∃ p, p < cl bb ∧ zDep cl a5 a7 fc a9 bb ci p ∧ a11 (16 * bb + p) < 0) ∧ (r = 0 → zRdy cl a5 a7 fc a9 a11 bb ci))) 0 0 (fun _ => False) := by
  refine Met.ofW (cc := cX7_errorNow) (maxL := 6) (ret := (some .int)) (by decide) rfl ?_
  intro p e s m args below meth c s₁ B hml hv
  obtain ⟨rfl, hsz, hP, hK, hD0, hL0⟩ := hv
  have hx := B.exec
  have hb := B.bytes
  have hr := B.returns
  have hts := atoms_spec (ws := zwX7_errorNow) B.pre
  have hown : s.vm.findClass RX7 = some m.cls := findClass_of_methodNamed B.named
  have hiX7 : ∀ w ∈ wsX70, w ∈ zwX7_errorNow := (fun _ h => List.mem_cons_of_mem _ (List.mem_append_right _ h))
  obtain ⟨htp, hbs, hus, hcl, hfc, hmb, hct, hpil, hrwv⟩ := hI
  subst hsz
  have hD := hD0.self (sz := s.heap.size)
  generalize hAe : va_A (rW h0 r cI cJ cZ v0 a1 (nI tp) (nI bs) (fun j => nI (cl j)) a5 a6 a7 (fun j => nI (fc j)) a9 (fun j => nI (mb j)) a11 a12 a13 a14 a15 a16 a17 a18 a19 a20 (nI az) v22 v23 v24 v25 v26 (nI bb) (fun j => nI (ct j)) (nI us) a30 a31 a32 a33 a34 a35 a36 a37 (fun j => nI (pil j)) (fun j => nI (rwv j)) (nI rl) v41 v42 v43 v44 v45) s.heap.size = A at hD hL0
  have hA : ∀ q : Nat, s.heap.size ≤ q → A q := fun q h => by rw [← hAe]; exact Or.inr h
  have hS : va_S A s.heap s.heap [] := va_S.rf
  have hL := hL0
  have hclb := hcl bb
  have hl := lv_entry ([.ref h0, .int (nI ci)]) (n := 6) (Nat.le_of_ble_eq_true rfl)
  rw [lg_entry_eq]
  generalize (lg_sl ([.ref h0, .int (nI ci)]) ++ List.replicate (6 - (lg_sl ([.ref h0, .int (nI ci)])).length) Slot.unset).toArray = ls at hl ⊢
  have hl : lv_has ls 6 [(0, .ref h0), (1, .int (nI ci))] := hl
  have J122 : ∀ (z122 : Nat) (kf : Nat) (ls : Array Slot), fc ci - kf < z122 → (kf ≤ fc ci) → (a7 ci ≠ 0 → ∃ p, p < cl bb ∧ zPl a5 (16 * bb) (cl bb) (a7 ci) (nI p) ∧ a11 (16 * bb + p) = 0) → (∀ j, j < kf → ∃ p, p < cl bb ∧ zPl a5 (16 * bb) (cl bb) (a9 (3 * ci + j)) (nI p) ∧ a11 (16 * bb + p) = 0) → lv_has ls 6 [(0, .ref h0), (1, .int (nI ci)), (2, .int (nI kf))] → W p l e (headSpec zwX7_errorNow { frames := 1, cells := 0, slots := 0, locals := 23 }).room s m (([.ref h0, .int (nI ci)] : List Value).toArray) below meth c s.heap [] 0 0 (MQ below (vp_Si (fun r => (r < 0 → ∃ p, p < cl bb ∧ zDep cl a5 a7 fc a9 bb ci p ∧ a11 (16 * bb + p) < 0) ∧ (r = 0 → zRdy cl a5 a7 fc a9 a11 bb ci))) (([.ref h0, .int (nI ci)] : List Value).toArray) s 0 0 (fun _ => False)) (F0 m 122 ls []) := by
    intro z122
    induction z122 with
    | zero => intro kf ls h9; exact absurd h9 (Nat.not_lt_zero _)
    | succ z122 ih122 =>
      intro kf ls hm122 i122_0 i122_1 i122_2 hl
      refine lv_iload_n hx hb dX7_errorNow_122 rfl (lv_at hl 2 rfl) ?_
      refine lv_aload_n hx hb dX7_errorNow_123 rfl (lv_at hl 0 rfl) ?_
      refine va_get (D := (dC, dI)) (ci := 6) (v := .ref (r 8)) (C := RX7) (T := TX7) (N := 46) hx hb hts hiX7 hown hK hP 0 rfl rfl 8 (by decide) (hts (.fieldLink RX7 29 "LinkModelsModel" "faces" "[I") (by decide +kernel)) (fun _ h9 => h9) rfl dX7_errorNow_124 ?_
      refine lv_iload_n hx hb dX7_errorNow_127 rfl (lv_at hl 1 rfl) ?_
      refine va_iald hx hb hK hP 6 0 rfl rfl (vp_in_nI (show ci < 80 by omega) (by decide)) dX7_errorNow_128 ?_
      refine lv_topi (fun x1 ex1 => ?_)
      obtain rfl : x1 = nI (fc ci) := by rw [ex1, nI_clamp (show ci < 2 ^ 31 by omega)]
      have hqx1 := hfc ci
      refine lv_icmp_ge (tgt := 215) hx hb dX7_errorNow_129 (by decide) (fun cp129 => ?_) (fun cp129 => ?_)
      · have qcp129 : (fc ci) ≤ kf := (nI_leI (a := fc ci) (b := kf) (by omega) (by omega)).mp cp129
        refine lv_iconst (v := 0) hx hb dX7_errorNow_215 (by decide) ?_
        exact W.iret (v := (0 : Int32)) hx hb hr (fun t ht hW => ⟨(0 : Int32), rfl, ⟨(by intro h9; exact absurd h9 (by decide)), (by intro _; exact ⟨i122_1, fun j hj => i122_2 j (by omega)⟩)⟩, ht⟩) (fun _ h => by cases h) dX7_errorNow_216
      · have qcp129 : ¬ (fc ci) ≤ kf := fun h9 => cp129 ((nI_leI (a := fc ci) (b := kf) (by omega) (by omega)).mpr h9)
        refine lv_aload_n hx hb dX7_errorNow_132 rfl (lv_at hl 0 rfl) ?_
        refine lv_aload_n hx hb dX7_errorNow_133 rfl (lv_at hl 0 rfl) ?_
        refine va_get (D := (dC, dI)) (ci := 6) (v := .int (nI bb)) (C := RX7) (T := TX7) (N := 46) hx hb hts hiX7 hown hK hP 0 rfl rfl 27 (by decide) (hts (.fieldLink RX7 198 "LinkModelsModel" "b" "I") (by decide +kernel)) (fun _ h9 => h9) rfl dX7_errorNow_134 ?_
        refine lv_aload_n hx hb dX7_errorNow_137 rfl (lv_at hl 0 rfl) ?_
        refine va_get (D := (dC, dI)) (ci := 6) (v := .ref (r 9)) (C := RX7) (T := TX7) (N := 46) hx hb hts hiX7 hown hK hP 0 rfl rfl 9 (by decide) (hts (.fieldLink RX7 32 "LinkModelsModel" "face" "[I") (by decide +kernel)) (fun _ h9 => h9) rfl dX7_errorNow_138 ?_
        refine lv_iconst (v := 3) hx hb dX7_errorNow_141 (by decide) ?_
        refine lv_iload_n hx hb dX7_errorNow_142 rfl (lv_at hl 1 rfl) ?_
        refine lv_imul hx hb dX7_errorNow_143 ?_
        refine lv_topi (fun x2 ex2 => ?_)
        obtain rfl : x2 = nI (3 * ci) := by rw [ex2]; exact pk_mul (3) (ci)
        refine lv_iload_n hx hb dX7_errorNow_144 rfl (lv_at hl 2 rfl) ?_
        refine lv_iadd hx hb dX7_errorNow_145 ?_
        refine lv_topi (fun x3 ex3 => ?_)
        obtain rfl : x3 = nI ((3 * ci) + kf) := by rw [ex3]; exact nI_add (3 * ci) (kf)
        refine va_iald hx hb hK hP 7 0 rfl rfl (vp_in_nI (show (3 * ci) + kf < 240 by omega) (by decide)) dX7_errorNow_146 ?_
        refine lv_topi (fun x4 ex4 => ?_)
        obtain rfl : x4 = a9 ((3 * ci) + kf) := by rw [ex4, nI_clamp (show (3 * ci) + kf < 2 ^ 31 by omega)]
        have hFc := z_freeW hD hS hA
        refine vp_callSi (W.runV (As := [.int (nI bb), .int (a9 ((3 * ci) + kf))]) (rest := []) ⟨hx, hb, hml, hown, hts⟩ (kX7_place l dC dI h0 r cI cJ cZ v0 a1 tp bs cl a5 a6 a7 fc a9 mb a11 a12 a13 a14 a15 a16 a17 a18 a19 a20 az v22 v23 v24 v25 v26 bb ct us a30 a31 a32 a33 a34 a35 a36 a37 pil rwv rl v41 v42 v43 v44 v45 ⟨by omega, by omega, by omega, hcl, hfc, hmb, hct, hpil, hrwv⟩ bb (a9 ((3 * ci) + kf)) (by first | omega | assumption | trivial) s.heap.size) (cwV 2 hts zgX7_errorNow_X7_place_201 rfl rfl rfl (by decide +kernel) ⟨(show 0 + 1 ≤ 1 by omega), (show 8 + (4 + 11) + 0 ≤ 23 by omega)⟩) (zVm (ci := 6) (q0 := 0) (q := (RX7, TX7, 46)) hK hP hD hL hS.2.1 hFc rfl rfl rfl) rfl rfl hl.1 rfl (lv_room (Nat.le_of_ble_eq_true rfl)) dX7_errorNow_147 ⟨(show 0 + 0 ≤ 0 by omega), (show 0 + 0 ≤ 0 by omega)⟩) (fun r5 hw => ?_)
        have hw : (zM r5 (fun k => k < cl bb)) ∧ (zPl a5 (16 * bb) (cl bb) ((a9 ((3 * ci) + kf))) r5) := hw
        obtain ⟨w0r5, w1r5⟩ := hw
        refine lv_istore_n (lv' := [(3, .int r5), (0, .ref h0), (1, .int (nI ci)), (2, .int (nI kf))]) hx hb dX7_errorNow_150 rfl hl (by decide) rfl (fun ls hl => ?_)
        refine lv_iload_n hx hb dX7_errorNow_151 rfl (lv_at hl 0 rfl) ?_
        refine lv_if_ge (tgt := 159) hx hb dX7_errorNow_152 (by decide) (fun cp152 => ?_) (fun cp152 => ?_)
        · obtain ⟨k6, hBk6, hQk6, rfl⟩ := zM.pos' w0r5 cp152
          refine lv_aload_n hx hb dX7_errorNow_159 rfl (lv_at hl 1 rfl) ?_
          refine va_get (D := (dC, dI)) (ci := 6) (v := .ref (r 11)) (C := RX7) (T := TX7) (N := 46) hx hb hts hiX7 hown hK hP 0 rfl rfl 11 (by decide) (hts (.fieldLink RX7 38 "LinkModelsModel" "error" "[I") (by decide +kernel)) (fun _ h9 => h9) rfl dX7_errorNow_160 ?_
          refine lv_bipush (v := 16) hx hb dX7_errorNow_163 (by decide) ?_
          refine lv_aload_n hx hb dX7_errorNow_165 rfl (lv_at hl 1 rfl) ?_
          refine va_get (D := (dC, dI)) (ci := 6) (v := .int (nI bb)) (C := RX7) (T := TX7) (N := 46) hx hb hts hiX7 hown hK hP 0 rfl rfl 27 (by decide) (hts (.fieldLink RX7 198 "LinkModelsModel" "b" "I") (by decide +kernel)) (fun _ h9 => h9) rfl dX7_errorNow_166 ?_
          refine lv_imul hx hb dX7_errorNow_169 ?_
          refine lv_topi (fun x7 ex7 => ?_)
          obtain rfl : x7 = nI (16 * bb) := by rw [ex7]; exact pk_mul (16) (bb)
          refine lv_iload_n hx hb dX7_errorNow_170 rfl (lv_at hl 0 rfl) ?_
          refine lv_iadd hx hb dX7_errorNow_171 ?_
          refine lv_topi (fun x8 ex8 => ?_)
          obtain rfl : x8 = nI ((16 * bb) + k6) := by rw [ex8]; exact nI_add (16 * bb) (k6)
          refine va_iald hx hb hK hP 9 0 rfl rfl (vp_in_nI (show (16 * bb) + k6 < 80 by omega) (by decide)) dX7_errorNow_172 ?_
          refine lv_topi (fun x9 ex9 => ?_)
          obtain rfl : x9 = a11 ((16 * bb) + k6) := by rw [ex9, nI_clamp (show (16 * bb) + k6 < 2 ^ 31 by omega)]
          refine lv_istore (lv' := [(4, .int (a11 ((16 * bb) + k6))), (3, .int (nI k6)), (0, .ref h0), (1, .int (nI ci)), (2, .int (nI kf))]) hx hb dX7_errorNow_173 hl (by decide) rfl (fun ls hl => ?_)
          refine lv_iload hx hb dX7_errorNow_175 (lv_at hl 0 rfl) ?_
          refine lv_if_ge (tgt := 182) hx hb dX7_errorNow_177 (by decide) (fun cp177 => ?_) (fun cp177 => ?_)
          · refine lv_iload hx hb dX7_errorNow_182 (lv_at hl 0 rfl) ?_
            refine lv_if_le (tgt := 189) hx hb dX7_errorNow_184 (by decide) (fun cp184 => ?_) (fun cp184 => ?_)
            · refine lv_aload_n hx hb dX7_errorNow_189 rfl (lv_at hl 2 rfl) ?_
              refine va_get (D := (dC, dI)) (ci := 6) (v := .ref (r 6)) (C := RX7) (T := TX7) (N := 46) hx hb hts hiX7 hown hK hP 0 rfl rfl 6 (by decide) (hts (.fieldLink RX7 23 "LinkModelsModel" "sort" "[I") (by decide +kernel)) (fun _ h9 => h9) rfl dX7_errorNow_190 ?_
              refine lv_bipush (v := 16) hx hb dX7_errorNow_193 (by decide) ?_
              refine lv_aload_n hx hb dX7_errorNow_195 rfl (lv_at hl 2 rfl) ?_
              refine va_get (D := (dC, dI)) (ci := 6) (v := .int (nI bb)) (C := RX7) (T := TX7) (N := 46) hx hb hts hiX7 hown hK hP 0 rfl rfl 27 (by decide) (hts (.fieldLink RX7 198 "LinkModelsModel" "b" "I") (by decide +kernel)) (fun _ h9 => h9) rfl dX7_errorNow_196 ?_
              refine lv_imul hx hb dX7_errorNow_199 ?_
              refine lv_topi (fun x10 ex10 => ?_)
              obtain rfl : x10 = nI (16 * bb) := by rw [ex10]; exact pk_mul (16) (bb)
              refine lv_iload_n hx hb dX7_errorNow_200 rfl (lv_at hl 1 rfl) ?_
              refine lv_iadd hx hb dX7_errorNow_201 ?_
              refine lv_topi (fun x11 ex11 => ?_)
              obtain rfl : x11 = nI ((16 * bb) + k6) := by rw [ex11]; exact nI_add (16 * bb) (k6)
              refine va_iald hx hb hK hP 4 0 rfl rfl (vp_in_nI (show (16 * bb) + k6 < 80 by omega) (by decide)) dX7_errorNow_202 ?_
              refine lv_topi (fun x12 ex12 => ?_)
              obtain rfl : x12 = a6 ((16 * bb) + k6) := by rw [ex12, nI_clamp (show (16 * bb) + k6 < 2 ^ 31 by omega)]
              refine lv_iconst (v := 1) hx hb dX7_errorNow_203 (by decide) ?_
              refine lv_icmp_eq (tgt := 209) hx hb dX7_errorNow_204 (by decide) (fun cp204 => ?_) (fun cp204 => ?_)
              · obtain ⟨x13, ex13⟩ : ∃ y : Int32, y = (nI kf) + 1 := ⟨_, rfl⟩
                refine lv_iinc (v := x13) (lv' := [(2, .int x13), (4, .int (a11 ((16 * bb) + k6))), (3, .int (nI k6)), (0, .ref h0), (1, .int (nI ci))]) hx hb dX7_errorNow_209 hl (k := 4) rfl (by rw [ex13]; rfl) (by decide) rfl (fun ls hl => ?_)
                obtain rfl : x13 = nI (kf + 1) := by rw [ex13]; exact nI_add (kf) 1
                refine lv_goto (tgt := 122) hx hb dX7_errorNow_212 (by decide) ?_
                exact ih122 (kf + 1) ls (by omega) (by omega) (by assumption) (by intro j hj; rcases Nat.lt_or_ge j kf with h8 | h8; (exact i122_2 j h8); (rw [show j = kf by omega]; exact ⟨k6, hQk6, w1r5, z_e0 cp177 cp184⟩)) (lv_sub hl [3, 4, 0] rfl)
              · refine lv_iconst (v := 4) hx hb dX7_errorNow_207 (by decide) ?_
                exact W.iret (v := (4 : Int32)) hx hb hr (fun t ht hW => ⟨(4 : Int32), rfl, ⟨(by intro h9; exact absurd h9 (by decide)), (by intro h9; exact absurd h9 (by decide))⟩, ht⟩) (fun _ h => by cases h) dX7_errorNow_208
            · refine lv_iconst (v := 2) hx hb dX7_errorNow_187 (by decide) ?_
              exact W.iret (v := (2 : Int32)) hx hb hr (fun t ht hW => ⟨(2 : Int32), rfl, ⟨(by intro h9; exact absurd h9 (by decide)), (by intro h9; exact absurd h9 (by decide))⟩, ht⟩) (fun _ h => by cases h) dX7_errorNow_188
          · refine lv_iconst (v := (-1)) hx hb dX7_errorNow_180 (by decide) ?_
            exact W.iret (v := (-1 : Int32)) hx hb hr (fun t ht hW => ⟨(-1 : Int32), rfl, ⟨(by intro _; exact ⟨k6, hQk6, Or.inr ⟨kf, by omega, w1r5⟩, Int32.not_le.mp cp177⟩), (by intro h9; exact absurd h9 (by decide))⟩, ht⟩) (fun _ h => by cases h) dX7_errorNow_181
        · obtain rfl : r5 = -1 := zM.neg' w0r5 cp152
          refine lv_iconst (v := 1) hx hb dX7_errorNow_155 (by decide) ?_
          refine lv_goto (tgt := 173) hx hb dX7_errorNow_156 (by decide) ?_
          refine lv_istore (lv' := [(4, .int 1), (3, .int (-1)), (0, .ref h0), (1, .int (nI ci)), (2, .int (nI kf))]) hx hb dX7_errorNow_173 hl (by decide) rfl (fun ls hl => ?_)
          refine lv_iload hx hb dX7_errorNow_175 (lv_at hl 0 rfl) ?_
          refine lv_if_ge (tgt := 182) hx hb dX7_errorNow_177 (by decide) (fun _ => ?_) (fun c9 => absurd (by decide) c9)
          refine lv_iload hx hb dX7_errorNow_182 (lv_at hl 0 rfl) ?_
          refine lv_if_le (tgt := 189) hx hb dX7_errorNow_184 (by decide) (fun c9 => absurd c9 (by decide)) (fun _ => ?_)
          refine lv_iconst (v := 2) hx hb dX7_errorNow_187 (by decide) ?_
          exact W.iret (v := (2 : Int32)) hx hb hr (fun t ht hW => ⟨(2 : Int32), rfl, ⟨(by intro h9; exact absurd h9 (by decide)), (by intro h9; exact absurd h9 (by decide))⟩, ht⟩) (fun _ h => by cases h) dX7_errorNow_188
  have J120 : ∀  (ls : Array Slot), (a7 ci ≠ 0 → ∃ p, p < cl bb ∧ zPl a5 (16 * bb) (cl bb) (a7 ci) (nI p) ∧ a11 (16 * bb + p) = 0) → lv_has ls 6 [(0, .ref h0), (1, .int (nI ci))] → W p l e (headSpec zwX7_errorNow { frames := 1, cells := 0, slots := 0, locals := 23 }).room s m (([.ref h0, .int (nI ci)] : List Value).toArray) below meth c s.heap [] 0 0 (MQ below (vp_Si (fun r => (r < 0 → ∃ p, p < cl bb ∧ zDep cl a5 a7 fc a9 bb ci p ∧ a11 (16 * bb + p) < 0) ∧ (r = 0 → zRdy cl a5 a7 fc a9 a11 bb ci))) (([.ref h0, .int (nI ci)] : List Value).toArray) s 0 0 (fun _ => False)) (F0 m 120 ls []) := by
    intro  ls i120_0 hl
    refine lv_iconst (v := 0) hx hb dX7_errorNow_120 (by decide) ?_
    refine lv_istore_n (lv' := [(2, .int 0), (0, .ref h0), (1, .int (nI ci))]) hx hb dX7_errorNow_121 rfl hl (by decide) rfl (fun ls hl => ?_)
    exact J122 _ 0 ls (Nat.lt_succ_self _) (by omega) (by assumption) (by intro j hj; omega) (lv_sub hl [1, 2, 0] rfl)
  refine lv_aload_n hx hb dX7_errorNow_0 rfl (lv_at hl 0 rfl) ?_
  refine va_get (D := (dC, dI)) (ci := 6) (v := .ref (r 7)) (C := RX7) (T := TX7) (N := 46) hx hb hts hiX7 hown hK hP 0 rfl rfl 7 (by decide) (hts (.fieldLink RX7 26 "LinkModelsModel" "above" "[I") (by decide +kernel)) (fun _ h9 => h9) rfl dX7_errorNow_1 ?_
  refine lv_iload_n hx hb dX7_errorNow_4 rfl (lv_at hl 1 rfl) ?_
  refine va_iald hx hb hK hP 5 0 rfl rfl (vp_in_nI (show ci < 80 by omega) (by decide)) dX7_errorNow_5 ?_
  refine lv_topi (fun x14 ex14 => ?_)
  obtain rfl : x14 = a7 ci := by rw [ex14, nI_clamp (show ci < 2 ^ 31 by omega)]
  refine lv_if_eq (tgt := 120) hx hb dX7_errorNow_6 (by decide) (fun cp6 => ?_) (fun cp6 => ?_)
  · exact J120  ls  (by intro h; exact absurd cp6 h) (lv_sub hl [0, 1] rfl)
  · refine lv_aload_n hx hb dX7_errorNow_9 rfl (lv_at hl 0 rfl) ?_
    refine lv_aload_n hx hb dX7_errorNow_10 rfl (lv_at hl 0 rfl) ?_
    refine va_get (D := (dC, dI)) (ci := 6) (v := .int (nI bb)) (C := RX7) (T := TX7) (N := 46) hx hb hts hiX7 hown hK hP 0 rfl rfl 27 (by decide) (hts (.fieldLink RX7 198 "LinkModelsModel" "b" "I") (by decide +kernel)) (fun _ h9 => h9) rfl dX7_errorNow_11 ?_
    refine lv_aload_n hx hb dX7_errorNow_14 rfl (lv_at hl 0 rfl) ?_
    refine va_get (D := (dC, dI)) (ci := 6) (v := .ref (r 7)) (C := RX7) (T := TX7) (N := 46) hx hb hts hiX7 hown hK hP 0 rfl rfl 7 (by decide) (hts (.fieldLink RX7 26 "LinkModelsModel" "above" "[I") (by decide +kernel)) (fun _ h9 => h9) rfl dX7_errorNow_15 ?_
    refine lv_iload_n hx hb dX7_errorNow_18 rfl (lv_at hl 1 rfl) ?_
    refine va_iald hx hb hK hP 5 0 rfl rfl (vp_in_nI (show ci < 80 by omega) (by decide)) dX7_errorNow_19 ?_
    refine lv_topi (fun x15 ex15 => ?_)
    obtain rfl : x15 = a7 ci := by rw [ex15, nI_clamp (show ci < 2 ^ 31 by omega)]
    have hFc := z_freeW hD hS hA
    refine vp_callSi (W.runV (As := [.int (nI bb), .int (a7 ci)]) (rest := []) ⟨hx, hb, hml, hown, hts⟩ (kX7_place l dC dI h0 r cI cJ cZ v0 a1 tp bs cl a5 a6 a7 fc a9 mb a11 a12 a13 a14 a15 a16 a17 a18 a19 a20 az v22 v23 v24 v25 v26 bb ct us a30 a31 a32 a33 a34 a35 a36 a37 pil rwv rl v41 v42 v43 v44 v45 ⟨by omega, by omega, by omega, hcl, hfc, hmb, hct, hpil, hrwv⟩ bb (a7 ci) (by first | omega | assumption | trivial) s.heap.size) (cwV 2 hts zgX7_errorNow_X7_place_201 rfl rfl rfl (by decide +kernel) ⟨(show 0 + 1 ≤ 1 by omega), (show 8 + (4 + 11) + 0 ≤ 23 by omega)⟩) (zVm (ci := 6) (q0 := 0) (q := (RX7, TX7, 46)) hK hP hD hL hS.2.1 hFc rfl rfl rfl) rfl rfl hl.1 rfl (lv_room (Nat.le_of_ble_eq_true rfl)) dX7_errorNow_20 ⟨(show 0 + 0 ≤ 0 by omega), (show 0 + 0 ≤ 0 by omega)⟩) (fun r16 hw => ?_)
    have hw : (zM r16 (fun k => k < cl bb)) ∧ (zPl a5 (16 * bb) (cl bb) ((a7 ci)) r16) := hw
    obtain ⟨w0r16, w1r16⟩ := hw
    refine lv_istore_n (lv' := [(2, .int r16), (0, .ref h0), (1, .int (nI ci))]) hx hb dX7_errorNow_23 rfl hl (by decide) rfl (fun ls hl => ?_)
    refine lv_iload_n hx hb dX7_errorNow_24 rfl (lv_at hl 0 rfl) ?_
    refine lv_if_ge (tgt := 32) hx hb dX7_errorNow_25 (by decide) (fun cp25 => ?_) (fun cp25 => ?_)
    · obtain ⟨k17, hBk17, hQk17, rfl⟩ := zM.pos' w0r16 cp25
      refine lv_aload_n hx hb dX7_errorNow_32 rfl (lv_at hl 1 rfl) ?_
      refine va_get (D := (dC, dI)) (ci := 6) (v := .ref (r 11)) (C := RX7) (T := TX7) (N := 46) hx hb hts hiX7 hown hK hP 0 rfl rfl 11 (by decide) (hts (.fieldLink RX7 38 "LinkModelsModel" "error" "[I") (by decide +kernel)) (fun _ h9 => h9) rfl dX7_errorNow_33 ?_
      refine lv_bipush (v := 16) hx hb dX7_errorNow_36 (by decide) ?_
      refine lv_aload_n hx hb dX7_errorNow_38 rfl (lv_at hl 1 rfl) ?_
      refine va_get (D := (dC, dI)) (ci := 6) (v := .int (nI bb)) (C := RX7) (T := TX7) (N := 46) hx hb hts hiX7 hown hK hP 0 rfl rfl 27 (by decide) (hts (.fieldLink RX7 198 "LinkModelsModel" "b" "I") (by decide +kernel)) (fun _ h9 => h9) rfl dX7_errorNow_39 ?_
      refine lv_imul hx hb dX7_errorNow_42 ?_
      refine lv_topi (fun x18 ex18 => ?_)
      obtain rfl : x18 = nI (16 * bb) := by rw [ex18]; exact pk_mul (16) (bb)
      refine lv_iload_n hx hb dX7_errorNow_43 rfl (lv_at hl 0 rfl) ?_
      refine lv_iadd hx hb dX7_errorNow_44 ?_
      refine lv_topi (fun x19 ex19 => ?_)
      obtain rfl : x19 = nI ((16 * bb) + k17) := by rw [ex19]; exact nI_add (16 * bb) (k17)
      refine va_iald hx hb hK hP 9 0 rfl rfl (vp_in_nI (show (16 * bb) + k17 < 80 by omega) (by decide)) dX7_errorNow_45 ?_
      refine lv_topi (fun x20 ex20 => ?_)
      obtain rfl : x20 = a11 ((16 * bb) + k17) := by rw [ex20, nI_clamp (show (16 * bb) + k17 < 2 ^ 31 by omega)]
      refine lv_istore_n (lv' := [(3, .int (a11 ((16 * bb) + k17))), (2, .int (nI k17)), (0, .ref h0), (1, .int (nI ci))]) hx hb dX7_errorNow_46 rfl hl (by decide) rfl (fun ls hl => ?_)
      refine lv_iload_n hx hb dX7_errorNow_47 rfl (lv_at hl 0 rfl) ?_
      refine lv_if_ge (tgt := 53) hx hb dX7_errorNow_48 (by decide) (fun cp48 => ?_) (fun cp48 => ?_)
      · refine lv_iload_n hx hb dX7_errorNow_53 rfl (lv_at hl 0 rfl) ?_
        refine lv_if_le (tgt := 59) hx hb dX7_errorNow_54 (by decide) (fun cp54 => ?_) (fun cp54 => ?_)
        · refine lv_aload_n hx hb dX7_errorNow_59 rfl (lv_at hl 2 rfl) ?_
          refine va_get (D := (dC, dI)) (ci := 6) (v := .ref (r 6)) (C := RX7) (T := TX7) (N := 46) hx hb hts hiX7 hown hK hP 0 rfl rfl 6 (by decide) (hts (.fieldLink RX7 23 "LinkModelsModel" "sort" "[I") (by decide +kernel)) (fun _ h9 => h9) rfl dX7_errorNow_60 ?_
          refine lv_bipush (v := 16) hx hb dX7_errorNow_63 (by decide) ?_
          refine lv_aload_n hx hb dX7_errorNow_65 rfl (lv_at hl 2 rfl) ?_
          refine va_get (D := (dC, dI)) (ci := 6) (v := .int (nI bb)) (C := RX7) (T := TX7) (N := 46) hx hb hts hiX7 hown hK hP 0 rfl rfl 27 (by decide) (hts (.fieldLink RX7 198 "LinkModelsModel" "b" "I") (by decide +kernel)) (fun _ h9 => h9) rfl dX7_errorNow_66 ?_
          refine lv_imul hx hb dX7_errorNow_69 ?_
          refine lv_topi (fun x21 ex21 => ?_)
          obtain rfl : x21 = nI (16 * bb) := by rw [ex21]; exact pk_mul (16) (bb)
          refine lv_iload_n hx hb dX7_errorNow_70 rfl (lv_at hl 1 rfl) ?_
          refine lv_iadd hx hb dX7_errorNow_71 ?_
          refine lv_topi (fun x22 ex22 => ?_)
          obtain rfl : x22 = nI ((16 * bb) + k17) := by rw [ex22]; exact nI_add (16 * bb) (k17)
          refine va_iald hx hb hK hP 4 0 rfl rfl (vp_in_nI (show (16 * bb) + k17 < 80 by omega) (by decide)) dX7_errorNow_72 ?_
          refine lv_topi (fun x23 ex23 => ?_)
          obtain rfl : x23 = a6 ((16 * bb) + k17) := by rw [ex23, nI_clamp (show (16 * bb) + k17 < 2 ^ 31 by omega)]
          refine lv_istore (lv' := [(4, .int (a6 ((16 * bb) + k17))), (3, .int (a11 ((16 * bb) + k17))), (2, .int (nI k17)), (0, .ref h0), (1, .int (nI ci))]) hx hb dX7_errorNow_73 hl (by decide) rfl (fun ls hl => ?_)
          refine lv_iload hx hb dX7_errorNow_75 (lv_at hl 0 rfl) ?_
          refine lv_iconst (v := 1) hx hb dX7_errorNow_77 (by decide) ?_
          refine lv_icmp_eq (tgt := 91) hx hb dX7_errorNow_78 (by decide) (fun cp78 => ?_) (fun cp78 => ?_)
          · refine lv_iconst (v := 1) hx hb dX7_errorNow_91 (by decide) ?_
            refine lv_goto (tgt := 96) hx hb dX7_errorNow_92 (by decide) ?_
            refine lv_istore (lv' := [(5, .int 1), (4, .int (a6 ((16 * bb) + k17))), (3, .int (a11 ((16 * bb) + k17))), (2, .int (nI k17)), (0, .ref h0), (1, .int (nI ci))]) hx hb dX7_errorNow_96 hl (by decide) rfl (fun ls hl => ?_)
            refine lv_iload hx hb dX7_errorNow_98 (lv_at hl 0 rfl) ?_
            refine lv_if_ne (tgt := 109) hx hb dX7_errorNow_100 (by decide) (fun _ => ?_) (fun c9 => absurd c9 (by decide))
            refine lv_iload hx hb dX7_errorNow_109 (lv_at hl 0 rfl) ?_
            refine lv_if_eq (tgt := 118) hx hb dX7_errorNow_111 (by decide) (fun c9 => absurd c9 (by decide)) (fun _ => ?_)
            refine lv_iconst (v := 4) hx hb dX7_errorNow_114 (by decide) ?_
            refine lv_goto (tgt := 119) hx hb dX7_errorNow_115 (by decide) ?_
            exact W.iret (v := (4 : Int32)) hx hb hr (fun t ht hW => ⟨(4 : Int32), rfl, ⟨(by intro h9; exact absurd h9 (by decide)), (by intro h9; exact absurd h9 (by decide))⟩, ht⟩) (fun _ h => by cases h) dX7_errorNow_119
          · refine lv_aload_n hx hb dX7_errorNow_81 rfl (lv_at hl 3 rfl) ?_
            refine va_get (D := (dC, dI)) (ci := 6) (v := .ref (r 6)) (C := RX7) (T := TX7) (N := 46) hx hb hts hiX7 hown hK hP 0 rfl rfl 6 (by decide) (hts (.fieldLink RX7 23 "LinkModelsModel" "sort" "[I") (by decide +kernel)) (fun _ h9 => h9) rfl dX7_errorNow_82 ?_
            refine lv_iload_n hx hb dX7_errorNow_85 rfl (lv_at hl 4 rfl) ?_
            refine va_iald hx hb hK hP 4 0 rfl rfl (vp_in_nI (show ci < 80 by omega) (by decide)) dX7_errorNow_86 ?_
            refine lv_topi (fun x24 ex24 => ?_)
            obtain rfl : x24 = a6 ci := by rw [ex24, nI_clamp (show ci < 2 ^ 31 by omega)]
            refine lv_iconst (v := 1) hx hb dX7_errorNow_87 (by decide) ?_
            refine lv_icmp_ne (tgt := 95) hx hb dX7_errorNow_88 (by decide) (fun cp88 => ?_) (fun cp88 => ?_)
            · refine lv_iconst (v := 0) hx hb dX7_errorNow_95 (by decide) ?_
              refine lv_istore (lv' := [(5, .int 0), (4, .int (a6 ((16 * bb) + k17))), (3, .int (a11 ((16 * bb) + k17))), (2, .int (nI k17)), (0, .ref h0), (1, .int (nI ci))]) hx hb dX7_errorNow_96 hl (by decide) rfl (fun ls hl => ?_)
              refine lv_iload hx hb dX7_errorNow_98 (lv_at hl 0 rfl) ?_
              refine lv_if_ne (tgt := 109) hx hb dX7_errorNow_100 (by decide) (fun c9 => absurd c9 (by decide)) (fun _ => ?_)
              refine lv_iload hx hb dX7_errorNow_103 (lv_at hl 1 rfl) ?_
              refine lv_iconst (v := 3) hx hb dX7_errorNow_105 (by decide) ?_
              refine lv_icmp_ne (tgt := 120) hx hb dX7_errorNow_106 (by decide) (fun cp106 => ?_) (fun cp106 => ?_)
              · exact J120  ls  (by first | (intro h; exact absurd cp6 h) | (intro _; exact ⟨k17, hQk17, w1r16, z_e0 cp48 cp54⟩)) (lv_sub hl [4, 5] rfl)
              · refine lv_iload hx hb dX7_errorNow_109 (lv_at hl 0 rfl) ?_
                refine lv_if_eq (tgt := 118) hx hb dX7_errorNow_111 (by decide) (fun _ => ?_) (fun c9 => absurd (by decide) c9)
                refine lv_iconst (v := 5) hx hb dX7_errorNow_118 (by decide) ?_
                exact W.iret (v := (5 : Int32)) hx hb hr (fun t ht hW => ⟨(5 : Int32), rfl, ⟨(by intro h9; exact absurd h9 (by decide)), (by intro h9; exact absurd h9 (by decide))⟩, ht⟩) (fun _ h => by cases h) dX7_errorNow_119
            · refine lv_iconst (v := 1) hx hb dX7_errorNow_91 (by decide) ?_
              refine lv_goto (tgt := 96) hx hb dX7_errorNow_92 (by decide) ?_
              refine lv_istore (lv' := [(5, .int 1), (4, .int (a6 ((16 * bb) + k17))), (3, .int (a11 ((16 * bb) + k17))), (2, .int (nI k17)), (0, .ref h0), (1, .int (nI ci))]) hx hb dX7_errorNow_96 hl (by decide) rfl (fun ls hl => ?_)
              refine lv_iload hx hb dX7_errorNow_98 (lv_at hl 0 rfl) ?_
              refine lv_if_ne (tgt := 109) hx hb dX7_errorNow_100 (by decide) (fun _ => ?_) (fun c9 => absurd c9 (by decide))
              refine lv_iload hx hb dX7_errorNow_109 (lv_at hl 0 rfl) ?_
              refine lv_if_eq (tgt := 118) hx hb dX7_errorNow_111 (by decide) (fun c9 => absurd c9 (by decide)) (fun _ => ?_)
              refine lv_iconst (v := 4) hx hb dX7_errorNow_114 (by decide) ?_
              refine lv_goto (tgt := 119) hx hb dX7_errorNow_115 (by decide) ?_
              exact W.iret (v := (4 : Int32)) hx hb hr (fun t ht hW => ⟨(4 : Int32), rfl, ⟨(by intro h9; exact absurd h9 (by decide)), (by intro h9; exact absurd h9 (by decide))⟩, ht⟩) (fun _ h => by cases h) dX7_errorNow_119
        · refine lv_iconst (v := 2) hx hb dX7_errorNow_57 (by decide) ?_
          exact W.iret (v := (2 : Int32)) hx hb hr (fun t ht hW => ⟨(2 : Int32), rfl, ⟨(by intro h9; exact absurd h9 (by decide)), (by intro h9; exact absurd h9 (by decide))⟩, ht⟩) (fun _ h => by cases h) dX7_errorNow_58
      · refine lv_iconst (v := (-1)) hx hb dX7_errorNow_51 (by decide) ?_
        exact W.iret (v := (-1 : Int32)) hx hb hr (fun t ht hW => ⟨(-1 : Int32), rfl, ⟨(by intro _; exact ⟨k17, hQk17, Or.inl ⟨cp6, w1r16⟩, Int32.not_le.mp cp48⟩), (by intro h9; exact absurd h9 (by decide))⟩, ht⟩) (fun _ h => by cases h) dX7_errorNow_52
    · obtain rfl : r16 = -1 := zM.neg' w0r16 cp25
      refine lv_iconst (v := 1) hx hb dX7_errorNow_28 (by decide) ?_
      refine lv_goto (tgt := 46) hx hb dX7_errorNow_29 (by decide) ?_
      refine lv_istore_n (lv' := [(3, .int 1), (2, .int (-1)), (0, .ref h0), (1, .int (nI ci))]) hx hb dX7_errorNow_46 rfl hl (by decide) rfl (fun ls hl => ?_)
      refine lv_iload_n hx hb dX7_errorNow_47 rfl (lv_at hl 0 rfl) ?_
      refine lv_if_ge (tgt := 53) hx hb dX7_errorNow_48 (by decide) (fun _ => ?_) (fun c9 => absurd (by decide) c9)
      refine lv_iload_n hx hb dX7_errorNow_53 rfl (lv_at hl 0 rfl) ?_
      refine lv_if_le (tgt := 59) hx hb dX7_errorNow_54 (by decide) (fun c9 => absurd c9 (by decide)) (fun _ => ?_)
      refine lv_iconst (v := 2) hx hb dX7_errorNow_57 (by decide) ?_
      exact W.iret (v := (2 : Int32)) hx hb hr (fun t ht hW => ⟨(2 : Int32), rfl, ⟨(by intro h9; exact absurd h9 (by decide)), (by intro h9; exact absurd h9 (by decide))⟩, ht⟩) (fun _ h => by cases h) dX7_errorNow_58
