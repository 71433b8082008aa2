theorem dX7_feed_0 : decode cX7_feed 0 = .ok (.aload_n 0, 1) := by decide +kernel
theorem dX7_feed_1 : decode cX7_feed 1 = .ok (.iconst 0, 1) := by decide +kernel
theorem dX7_feed_2 : decode cX7_feed 2 = .ok (.putfield 1, 3) := by decide +kernel
theorem dX7_feed_5 : decode cX7_feed 5 = .ok (.iload_n 3, 1) := by decide +kernel
theorem dX7_feed_6 : decode cX7_feed 6 = .ok (.i2l, 1) := by decide +kernel
theorem dX7_feed_7 : decode cX7_feed 7 = .ok (.lconst 1, 1) := by decide +kernel
theorem dX7_feed_8 : decode cX7_feed 8 = .ok (.ldc2_w 103, 3) := by decide +kernel
theorem dX7_feed_11 : decode cX7_feed 11 = .ok (.invokestatic 105, 3) := by decide +kernel
theorem dX7_feed_14 : decode cX7_feed 14 = .ok (.ifCond .ne 6, 3) := by decide +kernel
theorem dX7_feed_17 : decode cX7_feed 17 = .ok (.bipush (-3), 2) := by decide +kernel
theorem dX7_feed_19 : decode cX7_feed 19 = .ok (.ireturn, 1) := by decide +kernel
theorem dX7_feed_20 : decode cX7_feed 20 = .ok (.aload_n 0, 1) := by decide +kernel
theorem dX7_feed_21 : decode cX7_feed 21 = .ok (.getfield 109, 3) := by decide +kernel
theorem dX7_feed_24 : decode cX7_feed 24 = .ok (.iload_n 3, 1) := by decide +kernel
theorem dX7_feed_25 : decode cX7_feed 25 = .ok (.iadd, 1) := by decide +kernel
theorem dX7_feed_26 : decode cX7_feed 26 = .ok (.sipush 800, 3) := by decide +kernel
theorem dX7_feed_29 : decode cX7_feed 29 = .ok (.if_icmp .le 6, 3) := by decide +kernel
theorem dX7_feed_35 : decode cX7_feed 35 = .ok (.iload_n 3, 1) := by decide +kernel
theorem dX7_feed_36 : decode cX7_feed 36 = .ok (.iconst 1, 1) := by decide +kernel
theorem dX7_feed_37 : decode cX7_feed 37 = .ok (.isub, 1) := by decide +kernel
theorem dX7_feed_38 : decode cX7_feed 38 = .ok (.istore 4, 2) := by decide +kernel
theorem dX7_feed_40 : decode cX7_feed 40 = .ok (.iload 4, 2) := by decide +kernel
theorem dX7_feed_42 : decode cX7_feed 42 = .ok (.ifCond .lt 40, 3) := by decide +kernel
theorem dX7_feed_45 : decode cX7_feed 45 = .ok (.aload_n 0, 1) := by decide +kernel
theorem dX7_feed_46 : decode cX7_feed 46 = .ok (.getfield 13, 3) := by decide +kernel
theorem dX7_feed_49 : decode cX7_feed 49 = .ok (.aload_n 0, 1) := by decide +kernel
theorem dX7_feed_50 : decode cX7_feed 50 = .ok (.getfield 109, 3) := by decide +kernel
theorem dX7_feed_53 : decode cX7_feed 53 = .ok (.lload_n 1, 1) := by decide +kernel
theorem dX7_feed_54 : decode cX7_feed 54 = .ok (.bipush 8, 2) := by decide +kernel
theorem dX7_feed_56 : decode cX7_feed 56 = .ok (.iload 4, 2) := by decide +kernel
theorem dX7_feed_58 : decode cX7_feed 58 = .ok (.imul, 1) := by decide +kernel
theorem dX7_feed_59 : decode cX7_feed 59 = .ok (.lshr, 1) := by decide +kernel
theorem dX7_feed_60 : decode cX7_feed 60 = .ok (.ldc2_w 112, 3) := by decide +kernel
theorem dX7_feed_63 : decode cX7_feed 63 = .ok (.land, 1) := by decide +kernel
theorem dX7_feed_64 : decode cX7_feed 64 = .ok (.l2i, 1) := by decide +kernel
theorem dX7_feed_65 : decode cX7_feed 65 = .ok (.iastore, 1) := by decide +kernel
theorem dX7_feed_66 : decode cX7_feed 66 = .ok (.aload_n 0, 1) := by decide +kernel
theorem dX7_feed_67 : decode cX7_feed 67 = .ok (.dup, 1) := by decide +kernel
theorem dX7_feed_68 : decode cX7_feed 68 = .ok (.getfield 109, 3) := by decide +kernel
theorem dX7_feed_71 : decode cX7_feed 71 = .ok (.iconst 1, 1) := by decide +kernel
theorem dX7_feed_72 : decode cX7_feed 72 = .ok (.iadd, 1) := by decide +kernel
theorem dX7_feed_73 : decode cX7_feed 73 = .ok (.putfield 109, 3) := by decide +kernel
theorem dX7_feed_76 : decode cX7_feed 76 = .ok (.iinc 4 (-1), 3) := by decide +kernel
theorem dX7_feed_79 : decode cX7_feed 79 = .ok (.goto (-39), 3) := by decide +kernel
theorem dX7_feed_82 : decode cX7_feed 82 = .ok (.aload_n 0, 1) := by decide +kernel
theorem dX7_feed_83 : decode cX7_feed 83 = .ok (.getfield 109, 3) := by decide +kernel
theorem dX7_feed_86 : decode cX7_feed 86 = .ok (.ireturn, 1) := by decide +kernel
def zwX7_feed : List Cond := .code yX7_feed cX7_feed 5 (some .int) :: ([.fieldLink RX7 1 "LinkModelsModel" "thrown" "I", .constantLong RX7 103 (8), .fieldLink RX7 109 "LinkModelsModel" "taped" "I", .fieldLink RX7 13 "LinkModelsModel" "tape" "[I", .constantLong RX7 112 (255), .methodLink RX7 105 yX7_in, .static yX7_in, .initialized RX7, .code yX7_in cX7_in 6 (some .boolean)] ++ wsX70)
theorem zgX7_feed_X7_in_105 : GoodIn zwX7_feed (va_wsS RX7 105 yX7_in zwX7_in) := goodIn_of _ (by decide +kernel)
set_option maxHeartbeats 4000000 in
set_option maxRecDepth 100000 in
theorem zX7_feed (l : Launch) (dC : Nat → ClassId) (dI : Nat → Nat → Nat) (h0 : Nat) (r : Nat → Nat) (cI : ClassId) (p0 : Int64) (p1 : Int32) (sz : Nat) : Met l yX7_feed zwX7_feed ({ frames := 1, cells := 0, slots := 0, locals := 25 }) (zPw dC dI [.ref h0, .long p0, .int p1] sz [(h0, .inr (6, zM 0 r)), (r 1, .inl (cI, 800, .inl (fun _ => 0)))] [(cI, .int)]) (va_Qi (fun (r : Int32) (_ : Unit) => r = if (p1 < 1 ∨ 8 < p1) then -3 else p1) (fun _ _ => True) (va_A [(h0, .inr (6, zM 0 r)), (r 1, .inl (cI, 800, .inl (fun _ => 0)))] sz)) 0 0 (va_A [(h0, .inr (6, zM 0 r)), (r 1, .inl (cI, 800, .inl (fun _ => 0)))] sz) := by
  refine Met.ofW (cc := cX7_feed) (maxL := 5) (ret := (some .int)) (by decide) rfl ?_
  intro p e s m args below meth c s₁ B hml hv
  obtain ⟨rfl, hsz, hP, hK, hD0⟩ := hv
  have hx := B.exec
  have hb := B.bytes
  have hr := B.returns
  have hts := atoms_spec (ws := zwX7_feed) B.pre
  have hown : s.vm.findClass RX7 = some m.cls := findClass_of_methodNamed B.named
  have hlocks := B.notSynchronized
  have hiX7 : ∀ w ∈ wsX70, w ∈ zwX7_feed := (fun _ h => List.mem_cons_of_mem _ (List.mem_append_right _ h))
  subst hsz
  have hD := hD0.self (sz := s.heap.size)
  generalize hAe : va_A [(h0, .inr (6, zM 0 r)), (r 1, .inl (cI, 800, .inl (fun _ => 0)))] s.heap.size = A at hD ⊢
  have hA : ∀ q : Nat, s.heap.size ≤ q → A q := fun q h => by rw [← hAe]; exact Or.inr h
  have hS : va_S A s.heap s.heap [] := va_S.rf
  have hP : va_P (dC, dI) vwCl [(h0, .inr (6, zM 0 r)), (r 1, .inl (cI, 800, .inl (fun _ => 0)))] s.heap := hP
  have hl := lv_entry ([.ref h0, .long p0, .int p1]) (n := 5) (Nat.le_of_ble_eq_true rfl)
  rw [lg_entry_eq]
  generalize (lg_sl ([.ref h0, .long p0, .int p1]) ++ List.replicate (5 - (lg_sl ([.ref h0, .long p0, .int p1])).length) Slot.unset).toArray = ls at hl ⊢
  have hl : lv_has ls 5 [(0, .ref h0), (1, .long p0), (3, .int p1)] := hl
  refine lv_aload_n hx hb dX7_feed_0 rfl (lv_at hl 0 rfl) ?_
  refine lv_iconst (v := 0) hx hb dX7_feed_1 (by decide) ?_
  refine va_put (D := (dC, dI)) (ci := 6) (v := .int 0) (ty := (.int)) (C := RX7) (T := TX7) (N := 46) hx hb hts hiX7 tyX7 tyX7_ok nmX7 hown hK hP hD hS 0 rfl rfl 0 (by decide) (hts (.fieldLink RX7 1 "LinkModelsModel" "thrown" "I") (by decide +kernel)) (fun _ h9 => h9) rfl (by decide +kernel) rfl rfl (Nat.le_of_ble_eq_true rfl) dX7_feed_2 (fun H locs hP hD hS => ?_)
  have hP : va_P (dC, dI) vwCl [(h0, .inr (6, zM 0 r)), (r 1, .inl (cI, 800, .inl (fun _ => 0)))] H := hP
  have hD : va_D A [(h0, .inr (6, zM 0 r)), (r 1, .inl (cI, 800, .inl (fun _ => 0)))] := hD
  refine lv_iload_n hx hb dX7_feed_5 rfl (lv_at hl 2 rfl) ?_
  refine lv_i2l hx hb dX7_feed_6 rfl ?_
  refine lv_topl (fun x1 ex1 => ?_)
  refine lv_lconst (v := 1) hx hb dX7_feed_7 (by decide) ?_
  refine lv_ldc2 (v := 8) hx hb hown (hts (.constantLong RX7 103 (8)) (by decide +kernel)) dX7_feed_8 ?_
  refine vp_callSi (W.runS (As := [.long x1, .long 1, .long 8]) (rest := []) ⟨hx, hb, hml, hown, hts⟩ (zX7_in l dC dI x1 1 8) (va_cwS 3 hts zgX7_feed_X7_in_105 rfl rfl rfl (by decide +kernel) ⟨(show 0 + 1 ≤ 1 by omega), (show 8 + (6 + 11) + 0 ≤ 25 by omega)⟩) (zSr (hK.sub (tys' := []) [] rfl) (hP.sub (ws' := []) [] rfl)) rfl rfl hl.1 rfl (lv_room (Nat.le_of_ble_eq_true rfl)) dX7_feed_11 ⟨(show 0 + 0 ≤ 0 by omega), (show 0 + 0 ≤ 0 by omega)⟩) (fun r2 hr2 => ?_)
  by_cases a1 : (1 ≤ x1 ∧ x1 ≤ 8)
  · obtain rfl : r2 = 1 := by rw [hr2, if_pos a1]
    have hno : ¬ (p1 < 1 ∨ 8 < p1) := (z_io (a := 1) (b := 8) ex1 (by decide) (by decide)).mp a1
    have c1 : ¬ p1 < 1 := fun q => hno (Or.inl q)
    have c2 : p1 ≤ 8 := Int32.not_lt.mp (fun q => hno (Or.inr q))
    refine lv_if_ne (tgt := 20) hx hb dX7_feed_14 (by decide) (fun _ => ?_) (fun c9 => absurd c9 (by decide))
    refine lv_aload_n hx hb dX7_feed_20 rfl (lv_at hl 0 rfl) ?_
    refine va_get (D := (dC, dI)) (ci := 6) (v := .int 0) (C := RX7) (T := TX7) (N := 46) hx hb hts hiX7 hown hK hP 0 rfl rfl 2 (by decide) (hts (.fieldLink RX7 109 "LinkModelsModel" "taped" "I") (by decide +kernel)) (fun _ h9 => h9) rfl dX7_feed_21 ?_
    refine lv_iload_n hx hb dX7_feed_24 rfl (lv_at hl 2 rfl) ?_
    refine lv_iadd hx hb dX7_feed_25 ?_
    refine lv_topi (fun x3 ex3 => ?_)
    refine lv_sipush (v := 800) hx hb dX7_feed_26 (by decide) ?_
    refine lv_icmp_le (tgt := 35) hx hb dX7_feed_29 (by decide) (fun _ => ?_) (fun c9 => absurd (by rw [ex3]; exact z_room c2) c9)
    obtain ⟨j, hj1, hj8, ej⟩ := z_18 c1 c2
    have loop : ∀ (k : Nat), k ≤ j → ∀ (f : Nat → Int32) (H : Heap) (locs : List Loc) (ls : Array Slot), va_P (dC, dI) vwCl [(h0, .inr (6, [.int 0, .ref (r 1), .int (nI (j - k)), .int 0, .ref (r 4), .ref (r 5), .ref (r 6), .ref (r 7), .ref (r 8), .ref (r 9), .ref (r 10), .ref (r 11), .ref (r 12), .ref (r 13), .ref (r 14), .ref (r 15), .ref (r 16), .ref (r 17), .ref (r 18), .ref (r 19), .ref (r 20), .int 0, .int 0, .int 0, .long 0, .int 0, .int 0, .int 0, .ref (r 28), .int 0, .ref (r 30), .ref (r 31), .ref (r 32), .ref (r 33), .ref (r 34), .ref (r 35), .ref (r 36), .ref (r 37), .ref (r 38), .ref (r 39), .int 0, .int 0, .int 0, .int 0, .int 0, .int 0])), (r 1, .inl (cI, 800, .inl f))] H → va_D A [(h0, .inr (6, [.int 0, .ref (r 1), .int (nI (j - k)), .int 0, .ref (r 4), .ref (r 5), .ref (r 6), .ref (r 7), .ref (r 8), .ref (r 9), .ref (r 10), .ref (r 11), .ref (r 12), .ref (r 13), .ref (r 14), .ref (r 15), .ref (r 16), .ref (r 17), .ref (r 18), .ref (r 19), .ref (r 20), .int 0, .int 0, .int 0, .long 0, .int 0, .int 0, .int 0, .ref (r 28), .int 0, .ref (r 30), .ref (r 31), .ref (r 32), .ref (r 33), .ref (r 34), .ref (r 35), .ref (r 36), .ref (r 37), .ref (r 38), .ref (r 39), .int 0, .int 0, .int 0, .int 0, .int 0, .int 0])), (r 1, .inl (cI, 800, .inl f))] → va_S A s.heap H locs → lv_has ls 5 [(4, .int (z_i k)), (0, .ref h0), (1, .long p0), (3, .int p1)] → W p l e (headSpec zwX7_feed { frames := 1, cells := 0, slots := 0, locals := 25 }).room s m (([.ref h0, .long p0, .int p1] : List Value).toArray) below meth c H locs 0 0 (MQ below (va_Qi (fun (r : Int32) (_ : Unit) => r = if (p1 < 1 ∨ 8 < p1) then -3 else p1) (fun _ _ => True) A) ([.ref h0, .long p0, .int p1] : List Value).toArray s 0 0 A) (F0 m 40 ls []) := by
      intro k
      induction k with
      | zero =>
        intro hk f H locs ls hP hD hS hl
        refine lv_iload hx hb dX7_feed_40 (lv_at hl 0 rfl) ?_
        refine lv_if_lt (tgt := 82) hx hb dX7_feed_42 (by decide) (fun _ => ?_) (fun c9 => absurd (by decide) c9)
        refine lv_aload_n hx hb dX7_feed_82 rfl (lv_at hl 1 rfl) ?_
        refine va_get (D := (dC, dI)) (ci := 6) (v := .int (nI (j - 0))) (C := RX7) (T := TX7) (N := 46) hx hb hts hiX7 hown hK hP 0 rfl rfl 2 (by decide) (hts (.fieldLink RX7 109 "LinkModelsModel" "taped" "I") (by decide +kernel)) (fun _ h9 => h9) rfl dX7_feed_83 ?_
        exact W.iret (v := nI (j - 0)) hx hb hr (fun t ht hW => ⟨⟨nI (j - 0), (), rfl, by rw [if_neg hno, ej]; rfl, trivial⟩, hS.F ht⟩) hS.2.2 dX7_feed_86
      | succ k ih =>
        intro hk f H locs ls hP hD hS hl
        refine lv_iload hx hb dX7_feed_40 (lv_at hl 0 rfl) ?_
        refine lv_if_lt (tgt := 82) hx hb dX7_feed_42 (by decide) (fun c9 => absurd c9 (nI_pos (show k < 2 ^ 31 by omega))) (fun _ => ?_)
        refine lv_aload_n hx hb dX7_feed_45 rfl (lv_at hl 1 rfl) ?_
        refine va_get (D := (dC, dI)) (ci := 6) (v := .ref (r 1)) (C := RX7) (T := TX7) (N := 46) hx hb hts hiX7 hown hK hP 0 rfl rfl 1 (by decide) (hts (.fieldLink RX7 13 "LinkModelsModel" "tape" "[I") (by decide +kernel)) (fun _ h9 => h9) rfl dX7_feed_46 ?_
        refine lv_aload_n hx hb dX7_feed_49 rfl (lv_at hl 1 rfl) ?_
        refine va_get (D := (dC, dI)) (ci := 6) (v := .int (nI (j - (k + 1)))) (C := RX7) (T := TX7) (N := 46) hx hb hts hiX7 hown hK hP 0 rfl rfl 2 (by decide) (hts (.fieldLink RX7 109 "LinkModelsModel" "taped" "I") (by decide +kernel)) (fun _ h9 => h9) rfl dX7_feed_50 ?_
        refine lv_lload_n hx hb dX7_feed_53 rfl (lv_at hl 2 rfl) ?_
        refine lv_bipush (v := 8) hx hb dX7_feed_54 (by decide) ?_
        refine lv_iload hx hb dX7_feed_56 (lv_at hl 0 rfl) ?_
        refine lv_imul hx hb dX7_feed_58 ?_
        refine lv_topi (fun x4 ex4 => ?_)
        refine lv_lshr hx hb dX7_feed_59 rfl ?_
        refine lv_topl (fun x5 ex5 => ?_)
        refine lv_ldc2 (v := 255) hx hb hown (hts (.constantLong RX7 112 (255)) (by decide +kernel)) dX7_feed_60 ?_
        refine lv_land hx hb dX7_feed_63 ?_
        refine lv_topl (fun x6 ex6 => ?_)
        refine lv_l2i hx hb dX7_feed_64 rfl ?_
        refine lv_topi (fun x7 ex7 => ?_)
        refine va_iast hx hb hK hP hD hS 1 0 rfl rfl (vp_in_nI (show j - (k + 1) < 800 by omega) (by decide)) dX7_feed_65 (fun H locs hP hD hS => ?_)
        have hP := (hP.sub (ws' := [(h0, .inr (6, [.int 0, .ref (r 1), .int (nI (j - (k + 1))), .int 0, .ref (r 4), .ref (r 5), .ref (r 6), .ref (r 7), .ref (r 8), .ref (r 9), .ref (r 10), .ref (r 11), .ref (r 12), .ref (r 13), .ref (r 14), .ref (r 15), .ref (r 16), .ref (r 17), .ref (r 18), .ref (r 19), .ref (r 20), .int 0, .int 0, .int 0, .long 0, .int 0, .int 0, .int 0, .ref (r 28), .int 0, .ref (r 30), .ref (r 31), .ref (r 32), .ref (r 33), .ref (r 34), .ref (r 35), .ref (r 36), .ref (r 37), .ref (r 38), .ref (r 39), .int 0, .int 0, .int 0, .int 0, .int 0, .int 0])), (r 1, .inl (cI, 800, .inl _))]) [0, 1] rfl)
        have hD := (hD.sub (ws' := [(h0, .inr (6, [.int 0, .ref (r 1), .int (nI (j - (k + 1))), .int 0, .ref (r 4), .ref (r 5), .ref (r 6), .ref (r 7), .ref (r 8), .ref (r 9), .ref (r 10), .ref (r 11), .ref (r 12), .ref (r 13), .ref (r 14), .ref (r 15), .ref (r 16), .ref (r 17), .ref (r 18), .ref (r 19), .ref (r 20), .int 0, .int 0, .int 0, .long 0, .int 0, .int 0, .int 0, .ref (r 28), .int 0, .ref (r 30), .ref (r 31), .ref (r 32), .ref (r 33), .ref (r 34), .ref (r 35), .ref (r 36), .ref (r 37), .ref (r 38), .ref (r 39), .int 0, .int 0, .int 0, .int 0, .int 0, .int 0])), (r 1, .inl (cI, 800, .inl _))]) [0, 1] (by decide) rfl)
        refine lv_aload_n hx hb dX7_feed_66 rfl (lv_at hl 1 rfl) ?_
        refine lv_dup hx hb dX7_feed_67 rfl ?_
        refine va_get (D := (dC, dI)) (ci := 6) (v := .int (nI (j - (k + 1)))) (C := RX7) (T := TX7) (N := 46) hx hb hts hiX7 hown hK hP 0 rfl rfl 2 (by decide) (hts (.fieldLink RX7 109 "LinkModelsModel" "taped" "I") (by decide +kernel)) (fun _ h9 => h9) rfl dX7_feed_68 ?_
        refine lv_iconst (v := 1) hx hb dX7_feed_71 (by decide) ?_
        refine lv_iadd hx hb dX7_feed_72 ?_
        refine lv_topi (fun x8 ex8 => ?_)
        refine va_put (D := (dC, dI)) (ci := 6) (v := .int x8) (ty := (.int)) (C := RX7) (T := TX7) (N := 46) hx hb hts hiX7 tyX7 tyX7_ok nmX7 hown hK hP hD hS 0 rfl rfl 2 (by decide) (hts (.fieldLink RX7 109 "LinkModelsModel" "taped" "I") (by decide +kernel)) (fun _ h9 => h9) rfl (by decide +kernel) rfl rfl (Nat.le_of_ble_eq_true rfl) dX7_feed_73 (fun H locs hP hD hS => ?_)
        have hP : va_P (dC, dI) vwCl [(h0, .inr (6, [.int 0, .ref (r 1), .int x8, .int 0, .ref (r 4), .ref (r 5), .ref (r 6), .ref (r 7), .ref (r 8), .ref (r 9), .ref (r 10), .ref (r 11), .ref (r 12), .ref (r 13), .ref (r 14), .ref (r 15), .ref (r 16), .ref (r 17), .ref (r 18), .ref (r 19), .ref (r 20), .int 0, .int 0, .int 0, .long 0, .int 0, .int 0, .int 0, .ref (r 28), .int 0, .ref (r 30), .ref (r 31), .ref (r 32), .ref (r 33), .ref (r 34), .ref (r 35), .ref (r 36), .ref (r 37), .ref (r 38), .ref (r 39), .int 0, .int 0, .int 0, .int 0, .int 0, .int 0])), (r 1, .inl (cI, 800, .inl _))] H := hP
        have hD : va_D A [(h0, .inr (6, [.int 0, .ref (r 1), .int x8, .int 0, .ref (r 4), .ref (r 5), .ref (r 6), .ref (r 7), .ref (r 8), .ref (r 9), .ref (r 10), .ref (r 11), .ref (r 12), .ref (r 13), .ref (r 14), .ref (r 15), .ref (r 16), .ref (r 17), .ref (r 18), .ref (r 19), .ref (r 20), .int 0, .int 0, .int 0, .long 0, .int 0, .int 0, .int 0, .ref (r 28), .int 0, .ref (r 30), .ref (r 31), .ref (r 32), .ref (r 33), .ref (r 34), .ref (r 35), .ref (r 36), .ref (r 37), .ref (r 38), .ref (r 39), .int 0, .int 0, .int 0, .int 0, .int 0, .int 0])), (r 1, .inl (cI, 800, .inl _))] := hD
        obtain ⟨x9, ex9⟩ : ∃ y : Int32, y = (z_i (k + 1)) + (-1) := ⟨_, rfl⟩
        refine lv_iinc (v := x9) (lv' := [(4, .int x9), (0, .ref h0), (1, .long p0), (3, .int p1)]) hx hb dX7_feed_76 hl (k := 0) rfl (by rw [ex9]; rfl) (by decide) rfl (fun ls hl => ?_)
        refine lv_goto (tgt := 40) hx hb dX7_feed_79 (by decide) ?_
        obtain rfl : x8 = nI (j - k) := by rw [ex8, nI_1, show j - (k + 1) + 1 = j - k by omega]
        obtain rfl : x9 = z_i k := by rw [ex9]; exact z_dec k
        exact ih (by omega) _ _ _ _ hP hD hS hl
    refine lv_iload_n hx hb dX7_feed_35 rfl (lv_at hl 2 rfl) ?_
    refine lv_iconst (v := 1) hx hb dX7_feed_36 (by decide) ?_
    refine lv_isub hx hb dX7_feed_37 ?_
    refine lv_topi (fun x10 ex10 => ?_)
    refine lv_istore (lv' := [(4, .int x10), (0, .ref h0), (1, .long p0), (3, .int p1)]) hx hb dX7_feed_38 hl (by decide) rfl (fun ls hl => ?_)
    obtain rfl : x10 = z_i j := by rw [ex10, ej]; exact z_first hj1
    exact loop j (Nat.le_refl j) (fun _ => 0) H locs ls (by rw [Nat.sub_self, nI_0]; exact hP) (by rw [Nat.sub_self, nI_0]; exact hD) hS (lv_sub hl [0, 1, 2, 3] rfl)
  · obtain rfl : r2 = 0 := by rw [hr2, if_neg a1]
    refine lv_if_ne (tgt := 20) hx hb dX7_feed_14 (by decide) (fun c9 => absurd c9 (fun h9 => h9 rfl)) (fun _ => ?_)
    refine lv_bipush (v := (-3)) hx hb dX7_feed_17 (by decide) ?_
    exact W.iret (v := -3) hx hb hr (fun t ht hW => ⟨⟨-3, (), rfl, by rw [if_pos (Classical.not_not.mp (mt (z_io (a := 1) (b := 8) ex1 (by decide) (by decide)).mpr a1))], trivial⟩, hS.F ht⟩) hS.2.2 dX7_feed_19
