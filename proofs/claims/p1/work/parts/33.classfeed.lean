/-- what the loop of feed counts down -/
def z_i (k : Nat) : Int32 := if k = 0 then -1 else nI (k - 1)
theorem z_i0 : z_i 0 = -1 := rfl
theorem z_iS (k : Nat) : z_i (k + 1) = nI k := rfl
theorem z_dec (k : Nat) : nI k + (-1) = z_i k := by
  cases k with
  | zero => decide
  | succ k => rw [pk_m1]; rfl
theorem z_first {j : Nat} (h : 1 ≤ j) : nI j - 1 = z_i j := by
  cases j with
  | zero => exact absurd h (by omega)
  | succ j => rw [nI_pred]; rfl
/-- n of 1 to 8 -/
theorem z_18 {x : Int32} (h1 : ¬ x < 1) (h8 : x ≤ 8) : ∃ j : Nat, 1 ≤ j ∧ j ≤ 8 ∧ x = nI j := by
  have h0 : ¬ x < 0 := fun h => h1 (Int32.lt_trans h (by decide))
  obtain ⟨j, hj, e⟩ := nI_of2 (n := 8) (M := 8) (by decide) h0 h8
  refine ⟨j, ?_, hj, e⟩
  rcases Nat.eq_zero_or_pos j with h | h
  · subst h
    exact absurd (by rw [e]; decide) h1
  · exact h
theorem z_room {x : Int32} (h : x ≤ 8) : (0 : Int32) + x ≤ 800 := by rw [Int32.zero_add]; exact Int32.le_trans h (by decide)
theorem dX6_feed_0 : decode cX6_feed 0 = .ok (.iload_n 3, 1) := by decide +kernel
theorem dX6_feed_1 : decode cX6_feed 1 = .ok (.iconst 1, 1) := by decide +kernel
theorem dX6_feed_2 : decode cX6_feed 2 = .ok (.if_icmp .lt 9, 3) := by decide +kernel
theorem dX6_feed_5 : decode cX6_feed 5 = .ok (.iload_n 3, 1) := by decide +kernel
theorem dX6_feed_6 : decode cX6_feed 6 = .ok (.bipush 8, 2) := by decide +kernel
theorem dX6_feed_8 : decode cX6_feed 8 = .ok (.if_icmp .le 6, 3) := by decide +kernel
theorem dX6_feed_11 : decode cX6_feed 11 = .ok (.bipush (-3), 2) := by decide +kernel
theorem dX6_feed_13 : decode cX6_feed 13 = .ok (.ireturn, 1) := by decide +kernel
theorem dX6_feed_14 : decode cX6_feed 14 = .ok (.aload_n 0, 1) := by decide +kernel
theorem dX6_feed_15 : decode cX6_feed 15 = .ok (.getfield 13, 3) := by decide +kernel
theorem dX6_feed_18 : decode cX6_feed 18 = .ok (.iload_n 3, 1) := by decide +kernel
theorem dX6_feed_19 : decode cX6_feed 19 = .ok (.iadd, 1) := by decide +kernel
theorem dX6_feed_20 : decode cX6_feed 20 = .ok (.sipush 800, 3) := by decide +kernel
theorem dX6_feed_23 : decode cX6_feed 23 = .ok (.if_icmp .le 6, 3) := by decide +kernel
theorem dX6_feed_29 : decode cX6_feed 29 = .ok (.iload_n 3, 1) := by decide +kernel
theorem dX6_feed_30 : decode cX6_feed 30 = .ok (.iconst 1, 1) := by decide +kernel
theorem dX6_feed_31 : decode cX6_feed 31 = .ok (.isub, 1) := by decide +kernel
theorem dX6_feed_32 : decode cX6_feed 32 = .ok (.istore 4, 2) := by decide +kernel
theorem dX6_feed_34 : decode cX6_feed 34 = .ok (.iload 4, 2) := by decide +kernel
theorem dX6_feed_36 : decode cX6_feed 36 = .ok (.ifCond .lt 37, 3) := by decide +kernel
theorem dX6_feed_39 : decode cX6_feed 39 = .ok (.aload_n 0, 1) := by decide +kernel
theorem dX6_feed_40 : decode cX6_feed 40 = .ok (.getfield 9, 3) := by decide +kernel
theorem dX6_feed_43 : decode cX6_feed 43 = .ok (.aload_n 0, 1) := by decide +kernel
theorem dX6_feed_44 : decode cX6_feed 44 = .ok (.getfield 13, 3) := by decide +kernel
theorem dX6_feed_47 : decode cX6_feed 47 = .ok (.lload_n 1, 1) := by decide +kernel
theorem dX6_feed_48 : decode cX6_feed 48 = .ok (.bipush 8, 2) := by decide +kernel
theorem dX6_feed_50 : decode cX6_feed 50 = .ok (.iload 4, 2) := by decide +kernel
theorem dX6_feed_52 : decode cX6_feed 52 = .ok (.imul, 1) := by decide +kernel
theorem dX6_feed_53 : decode cX6_feed 53 = .ok (.lushr, 1) := by decide +kernel
theorem dX6_feed_54 : decode cX6_feed 54 = .ok (.l2i, 1) := by decide +kernel
theorem dX6_feed_55 : decode cX6_feed 55 = .ok (.i2b, 1) := by decide +kernel
theorem dX6_feed_56 : decode cX6_feed 56 = .ok (.bastore, 1) := by decide +kernel
theorem dX6_feed_57 : decode cX6_feed 57 = .ok (.aload_n 0, 1) := by decide +kernel
theorem dX6_feed_58 : decode cX6_feed 58 = .ok (.dup, 1) := by decide +kernel
theorem dX6_feed_59 : decode cX6_feed 59 = .ok (.getfield 13, 3) := by decide +kernel
theorem dX6_feed_62 : decode cX6_feed 62 = .ok (.iconst 1, 1) := by decide +kernel
theorem dX6_feed_63 : decode cX6_feed 63 = .ok (.iadd, 1) := by decide +kernel
theorem dX6_feed_64 : decode cX6_feed 64 = .ok (.putfield 13, 3) := by decide +kernel
theorem dX6_feed_67 : decode cX6_feed 67 = .ok (.iinc 4 (-1), 3) := by decide +kernel
theorem dX6_feed_70 : decode cX6_feed 70 = .ok (.goto (-36), 3) := by decide +kernel
theorem dX6_feed_73 : decode cX6_feed 73 = .ok (.aload_n 0, 1) := by decide +kernel
theorem dX6_feed_74 : decode cX6_feed 74 = .ok (.getfield 13, 3) := by decide +kernel
theorem dX6_feed_77 : decode cX6_feed 77 = .ok (.ireturn, 1) := by decide +kernel
def zwX6_feed : List Cond := .code yX6_feed cX6_feed 5 (some .int) :: ([.fieldLink RX6 13 "LinkModels" "tapeLength" "I", .fieldLink RX6 9 "LinkModels" "tape" "[B"] ++ wsX60)
set_option maxHeartbeats 4000000 in
set_option maxRecDepth 100000 in
theorem zX6_feed (l : Launch) (dC : Nat → ClassId) (dI : Nat → Nat → Nat) (h0 rt rb ru rr : Nat) (cB : ClassId) (p0 : Int64) (p1 : Int32) (sz : Nat) : Met l yX6_feed zwX6_feed ({ frames := 0, cells := 0, slots := 0, locals := 0 }) (zPw dC dI [.ref h0, .long p0, .int p1] sz [(h0, .inr (5, [.ref rt, .int 0, .ref rb, .int 0, .ref ru, .int 0, .ref rr])), (rt, .inl (cB, 800, .inl (fun _ => 0)))] [(cB, .byte)]) (va_Qi (fun (r : Int32) (_ : Unit) => r = if (p1 < 1 ∨ 8 < p1) then -3 else p1) (fun _ _ => True) (va_A [(h0, .inr (5, [.ref rt, .int 0, .ref rb, .int 0, .ref ru, .int 0, .ref rr])), (rt, .inl (cB, 800, .inl (fun _ => 0)))] sz)) 0 0 (va_A [(h0, .inr (5, [.ref rt, .int 0, .ref rb, .int 0, .ref ru, .int 0, .ref rr])), (rt, .inl (cB, 800, .inl (fun _ => 0)))] sz) := by
  refine Met.ofW (cc := cX6_feed) (maxL := 5) (ret := (some .int)) (by decide) rfl ?_
  intro p e s m args below meth c s₁ B hml hv
  obtain ⟨rfl, hsz, hP, hK, hD0⟩ := hv
  have hx := B.exec
  have hb := B.bytes
  have hr := B.returns
  have hts := atoms_spec (ws := zwX6_feed) B.pre
  have hown : s.vm.findClass RX6 = some m.cls := findClass_of_methodNamed B.named
  have hlocks := B.notSynchronized
  have hiX6 : ∀ w ∈ wsX60, w ∈ zwX6_feed := (by decide +kernel)
  subst hsz
  have hD := hD0.self (sz := s.heap.size)
  generalize hAe : va_A [(h0, .inr (5, [.ref rt, .int 0, .ref rb, .int 0, .ref ru, .int 0, .ref rr])), (rt, .inl (cB, 800, .inl (fun _ => 0)))] s.heap.size = A at hD ⊢
  have hA : ∀ q : Nat, s.heap.size ≤ q → A q := fun q h => by rw [← hAe]; exact Or.inr h
  have hS : va_S A s.heap s.heap [] := va_S.rf
  have hP : va_P (dC, dI) vwCl [(h0, .inr (5, [.ref rt, .int 0, .ref rb, .int 0, .ref ru, .int 0, .ref rr])), (rt, .inl (cB, 800, .inl (fun _ => 0)))] s.heap := hP
  have hl := lv_entry ([.ref h0, .long p0, .int p1]) (n := 5) (Nat.le_of_ble_eq_true rfl)
  rw [lg_entry_eq]
  generalize (lg_sl ([.ref h0, .long p0, .int p1]) ++ List.replicate (5 - (lg_sl ([.ref h0, .long p0, .int p1])).length) Slot.unset).toArray = ls at hl ⊢
  have hl : lv_has ls 5 [(0, .ref h0), (1, .long p0), (3, .int p1)] := hl
  refine lv_iload_n hx hb dX6_feed_0 rfl (lv_at hl 2 rfl) ?_
  refine lv_iconst (v := 1) hx hb dX6_feed_1 (by decide) ?_
  refine lv_icmp_lt (tgt := 11) hx hb dX6_feed_2 (by decide) (fun c1 => ?_) (fun c1 => ?_)
  · refine lv_bipush (v := (-3)) hx hb dX6_feed_11 (by decide) ?_
    exact W.iret (v := -3) hx hb hr (fun t ht hW => ⟨⟨-3, (), rfl, by rw [if_pos (Or.inl c1)], trivial⟩, hS.F ht⟩) hS.2.2 dX6_feed_13
  · refine lv_iload_n hx hb dX6_feed_5 rfl (lv_at hl 2 rfl) ?_
    refine lv_bipush (v := 8) hx hb dX6_feed_6 (by decide) ?_
    refine lv_icmp_le (tgt := 14) hx hb dX6_feed_8 (by decide) (fun c2 => ?_) (fun c2 => ?_)
    · refine lv_aload_n hx hb dX6_feed_14 rfl (lv_at hl 0 rfl) ?_
      refine va_get (D := (dC, dI)) (ci := 5) (v := .int 0) (C := RX6) (T := TX6) (N := 7) hx hb hts hiX6 hown hK hP 0 rfl rfl 1 (by decide) (hts (.fieldLink RX6 13 "LinkModels" "tapeLength" "I") (by decide +kernel)) (fun _ h9 => h9) rfl dX6_feed_15 ?_
      refine lv_iload_n hx hb dX6_feed_18 rfl (lv_at hl 2 rfl) ?_
      refine lv_iadd hx hb dX6_feed_19 ?_
      refine lv_topi (fun x1 ex1 => ?_)
      refine lv_sipush (v := 800) hx hb dX6_feed_20 (by decide) ?_
      refine lv_icmp_le (tgt := 29) hx hb dX6_feed_23 (by decide) (fun _ => ?_) (fun c9 => absurd (by rw [ex1]; exact z_room c2) c9)
      obtain ⟨j, hj1, hj8, ej⟩ := z_18 c1 c2
      have hno : ¬ (p1 < 1 ∨ 8 < p1) := fun q => q.elim c1 (fun q => absurd c2 (Int32.not_le.mpr q))
      have loop : ∀ (k : Nat), k ≤ j → ∀ (f : Nat → Int32) (H : Heap) (locs : List Loc) (ls : Array Slot), va_P (dC, dI) vwCl [(h0, .inr (5, [.ref rt, .int (nI (j - k)), .ref rb, .int 0, .ref ru, .int 0, .ref rr])), (rt, .inl (cB, 800, .inl f))] H → va_D A [(h0, .inr (5, [.ref rt, .int (nI (j - k)), .ref rb, .int 0, .ref ru, .int 0, .ref rr])), (rt, .inl (cB, 800, .inl f))] → va_S A s.heap H locs → lv_has ls 5 [(4, .int (z_i k)), (0, .ref h0), (1, .long p0), (3, .int p1)] → W p l e (headSpec zwX6_feed { frames := 0, cells := 0, slots := 0, locals := 0 }).room s m (([.ref h0, .long p0, .int p1] : List Value).toArray) below meth c H locs 0 0 (MQ below (va_Qi (fun (r : Int32) (_ : Unit) => r = if (p1 < 1 ∨ 8 < p1) then -3 else p1) (fun _ _ => True) A) ([.ref h0, .long p0, .int p1] : List Value).toArray s 0 0 A) (F0 m 34 ls []) := by
        intro k
        induction k with
        | zero =>
          intro hk f H locs ls hP hD hS hl
          refine lv_iload hx hb dX6_feed_34 (lv_at hl 0 rfl) ?_
          refine lv_if_lt (tgt := 73) hx hb dX6_feed_36 (by decide) (fun _ => ?_) (fun c9 => absurd (by decide) c9)
          refine lv_aload_n hx hb dX6_feed_73 rfl (lv_at hl 1 rfl) ?_
          refine va_get (D := (dC, dI)) (ci := 5) (v := .int (nI (j - 0))) (C := RX6) (T := TX6) (N := 7) hx hb hts hiX6 hown hK hP 0 rfl rfl 1 (by decide) (hts (.fieldLink RX6 13 "LinkModels" "tapeLength" "I") (by decide +kernel)) (fun _ h9 => h9) rfl dX6_feed_74 ?_
          exact W.iret (v := nI (j - 0)) hx hb hr (fun t ht hW => ⟨⟨nI (j - 0), (), rfl, by rw [if_neg hno, ej]; rfl, trivial⟩, hS.F ht⟩) hS.2.2 dX6_feed_77
        | succ k ih =>
          intro hk f H locs ls hP hD hS hl
          refine lv_iload hx hb dX6_feed_34 (lv_at hl 0 rfl) ?_
          refine lv_if_lt (tgt := 73) hx hb dX6_feed_36 (by decide) (fun c9 => absurd c9 (nI_pos (show k < 2 ^ 31 by omega))) (fun _ => ?_)
          refine lv_aload_n hx hb dX6_feed_39 rfl (lv_at hl 1 rfl) ?_
          refine va_get (D := (dC, dI)) (ci := 5) (v := .ref rt) (C := RX6) (T := TX6) (N := 7) hx hb hts hiX6 hown hK hP 0 rfl rfl 0 (by decide) (hts (.fieldLink RX6 9 "LinkModels" "tape" "[B") (by decide +kernel)) (fun _ h9 => h9) rfl dX6_feed_40 ?_
          refine lv_aload_n hx hb dX6_feed_43 rfl (lv_at hl 1 rfl) ?_
          refine va_get (D := (dC, dI)) (ci := 5) (v := .int (nI (j - (k + 1)))) (C := RX6) (T := TX6) (N := 7) hx hb hts hiX6 hown hK hP 0 rfl rfl 1 (by decide) (hts (.fieldLink RX6 13 "LinkModels" "tapeLength" "I") (by decide +kernel)) (fun _ h9 => h9) rfl dX6_feed_44 ?_
          refine lv_lload_n hx hb dX6_feed_47 rfl (lv_at hl 2 rfl) ?_
          refine lv_bipush (v := 8) hx hb dX6_feed_48 (by decide) ?_
          refine lv_iload hx hb dX6_feed_50 (lv_at hl 0 rfl) ?_
          refine lv_imul hx hb dX6_feed_52 ?_
          refine lv_topi (fun x2 ex2 => ?_)
          refine lv_lushr hx hb dX6_feed_53 rfl ?_
          refine lv_topl (fun x3 ex3 => ?_)
          refine lv_l2i hx hb dX6_feed_54 rfl ?_
          refine lv_topi (fun x4 ex4 => ?_)
          refine lv_i2b hx hb dX6_feed_55 rfl ?_
          refine lv_topi (fun x5 ex5 => ?_)
          refine va_bast hx hb hK hP hD hS 1 0 rfl rfl (vp_in_nI (show j - (k + 1) < 800 by omega) (by decide)) dX6_feed_56 (fun H locs hP hD hS => ?_)
          have hP := (hP.sub (ws' := [(h0, .inr (5, [.ref rt, .int (nI (j - (k + 1))), .ref rb, .int 0, .ref ru, .int 0, .ref rr])), (rt, .inl (cB, 800, .inl _))]) [0, 1] rfl)
          have hD := (hD.sub (ws' := [(h0, .inr (5, [.ref rt, .int (nI (j - (k + 1))), .ref rb, .int 0, .ref ru, .int 0, .ref rr])), (rt, .inl (cB, 800, .inl _))]) [0, 1] (by decide) rfl)
          refine lv_aload_n hx hb dX6_feed_57 rfl (lv_at hl 1 rfl) ?_
          refine lv_dup hx hb dX6_feed_58 rfl ?_
          refine va_get (D := (dC, dI)) (ci := 5) (v := .int (nI (j - (k + 1)))) (C := RX6) (T := TX6) (N := 7) hx hb hts hiX6 hown hK hP 0 rfl rfl 1 (by decide) (hts (.fieldLink RX6 13 "LinkModels" "tapeLength" "I") (by decide +kernel)) (fun _ h9 => h9) rfl dX6_feed_59 ?_
          refine lv_iconst (v := 1) hx hb dX6_feed_62 (by decide) ?_
          refine lv_iadd hx hb dX6_feed_63 ?_
          refine lv_topi (fun x6 ex6 => ?_)
          refine va_put (D := (dC, dI)) (ci := 5) (v := .int x6) (ty := (.int)) (C := RX6) (T := TX6) (N := 7) hx hb hts hiX6 tyX6 tyX6_ok nmX6 hown hK hP hD hS 0 rfl rfl 1 (by decide) (hts (.fieldLink RX6 13 "LinkModels" "tapeLength" "I") (by decide +kernel)) (fun _ h9 => h9) rfl (by decide +kernel) rfl rfl (Nat.le_of_ble_eq_true rfl) dX6_feed_64 (fun H locs hP hD hS => ?_)
          have hP : va_P (dC, dI) vwCl [(h0, .inr (5, [.ref rt, .int x6, .ref rb, .int 0, .ref ru, .int 0, .ref rr])), (rt, .inl (cB, 800, .inl _))] H := hP
          have hD : va_D A [(h0, .inr (5, [.ref rt, .int x6, .ref rb, .int 0, .ref ru, .int 0, .ref rr])), (rt, .inl (cB, 800, .inl _))] := hD
          obtain ⟨x7, ex7⟩ : ∃ y : Int32, y = (z_i (k + 1)) + (-1) := ⟨_, rfl⟩
          refine lv_iinc (v := x7) (lv' := [(4, .int x7), (0, .ref h0), (1, .long p0), (3, .int p1)]) hx hb dX6_feed_67 hl (k := 0) rfl (by rw [ex7]; rfl) (by decide) rfl (fun ls hl => ?_)
          refine lv_goto (tgt := 34) hx hb dX6_feed_70 (by decide) ?_
          obtain rfl : x6 = nI (j - k) := by rw [ex6, nI_1, show j - (k + 1) + 1 = j - k by omega]
          obtain rfl : x7 = z_i k := by rw [ex7]; exact z_dec k
          exact ih (by omega) _ _ _ _ hP hD hS hl
      refine lv_iload_n hx hb dX6_feed_29 rfl (lv_at hl 2 rfl) ?_
      refine lv_iconst (v := 1) hx hb dX6_feed_30 (by decide) ?_
      refine lv_isub hx hb dX6_feed_31 ?_
      refine lv_topi (fun x8 ex8 => ?_)
      refine lv_istore (lv' := [(4, .int x8), (0, .ref h0), (1, .long p0), (3, .int p1)]) hx hb dX6_feed_32 hl (by decide) rfl (fun ls hl => ?_)
      obtain rfl : x8 = z_i j := by rw [ex8, ej]; exact z_first hj1
      exact loop j (Nat.le_refl j) (fun _ => 0) s.heap [] ls (by rw [Nat.sub_self, nI_0]; exact hP) (by rw [Nat.sub_self, nI_0]; exact hD) hS (lv_sub hl [0, 1, 2, 3] rfl)
    · refine lv_bipush (v := (-3)) hx hb dX6_feed_11 (by decide) ?_
      exact W.iret (v := -3) hx hb hr (fun t ht hW => ⟨⟨-3, (), rfl, by rw [if_pos (Or.inr (Int32.not_le.mp c2))], trivial⟩, hS.F ht⟩) hS.2.2 dX6_feed_13
