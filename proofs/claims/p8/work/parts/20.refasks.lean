theorem z_if01 {r : Int32} {P : Prop} [Decidable P] (h : r = if P then 1 else 0) : r = 0 ∨ r = 1 := by
  rw [h]
  split
  · exact Or.inr rfl
  · exact Or.inl rfl
theorem z_if1 {r : Int32} {P : Prop} [Decidable P] (h : r = if P then 1 else 0) (h1 : r = 1) : P := by
  rw [h] at h1
  by_cases q : P
  · exact q
  · rw [if_neg q] at h1
    exact absurd h1 (by decide)
theorem z_inB {x z : Int32} {y1 y2 : Int64} {n : Nat} (hn : n ≤ 100) (h1 : y1 = x.toInt64) (h2 : y2 = z.toInt64) (h3 : z = nI n - 1) (h : (0 : Int64) ≤ y1 ∧ y1 ≤ y2) : ∃ k : Nat, k < n ∧ x = nI k := by
  obtain ⟨g1, g2⟩ := h
  rw [Int64.le_iff_toInt_le] at g1 g2
  rw [h1, Int32.toInt_toInt64] at g1 g2
  rw [h2, Int32.toInt_toInt64, h3, show (nI n - 1).toInt = (n : Int) - 1 from pk_sub_toInt (b := 1) (by omega) (by omega)] at g2
  have g3 : (0 : Int64).toInt = 0 := by decide
  rw [g3] at g1
  obtain ⟨k, hk, rfl⟩ := nI_of (x := x) (fun h => by
    rw [Int32.lt_iff_toInt_lt] at h
    have : (0 : Int32).toInt = 0 := by decide
    omega)
  rw [nI_toInt hk] at g2
  exact ⟨k, by omega, rfl⟩
theorem z_dec {k : Nat} (h : k < 2000) : zM (nI k + (-1)) (fun j => j + 1 = k) := by
  rcases Nat.eq_zero_or_pos k with rfl | q
  · exact Or.inl (by decide)
  · exact Or.inr ⟨k - 1, by omega, by omega, sb_m1 q⟩
theorem z_decs {k : Nat} (h : k < 2000) : zM (nI k - 1) (fun j => j + 1 = k) := by
  rcases Nat.eq_zero_or_pos k with rfl | q
  · exact Or.inl (by decide)
  · exact Or.inr ⟨k - 1, by omega, by omega, pk_sub (b := 1) q⟩
theorem z_dec0 {k : Nat} (h : k < 2000) (e : nI k + (-1) = -1) : k = 0 := by
  rcases Nat.eq_zero_or_pos k with q | q
  · exact q
  · rw [sb_m1 q] at e
    exact (z_nIm1 (by omega) e.symm).elim
theorem z_decs0 {k : Nat} (h : k < 2000) (e : nI k - 1 = -1) : k = 0 := by
  rcases Nat.eq_zero_or_pos k with q | q
  · exact q
  · rw [show nI k - 1 = nI (k - 1) from pk_sub (b := 1) q] at e
    exact (z_nIm1 (by omega) e.symm).elim
theorem z_inLH {x : Int32} {y a b : Int64} (lo hi : Nat) (ha : a.toInt = lo) (hb : b.toInt = hi) (hh : hi < 2 ^ 31) (h1 : y = x.toInt64) (h : a ≤ y ∧ y ≤ b) : ∃ k : Nat, lo ≤ k ∧ k ≤ hi ∧ x = nI k := by
  obtain ⟨g1, g2⟩ := h
  rw [Int64.le_iff_toInt_le, h1, Int32.toInt_toInt64] at g1 g2
  rw [ha] at g1
  rw [hb] at g2
  obtain ⟨k, hk, rfl⟩ := nI_of (x := x) (fun h => by
    rw [Int32.lt_iff_toInt_lt] at h
    have : (0 : Int32).toInt = 0 := by decide
    omega)
  rw [nI_toInt hk] at g1 g2
  exact ⟨k, by omega, by omega, rfl⟩
theorem z_inno {x r : Int32} {y a b : Int64} (lo hi : Nat) (ha : a.toInt = lo) (hb : b.toInt = hi) (hh : hi < 2 ^ 31) (h1 : y = x.toInt64) (h : r = if (a ≤ y ∧ y ≤ b) then 1 else 0) (h0 : r = 0) : ¬ ∃ k : Nat, lo ≤ k ∧ k ≤ hi ∧ x = nI k := by
  rintro ⟨k, k1, k2, rfl⟩
  rw [if_pos (by
    rw [Int64.le_iff_toInt_le, Int64.le_iff_toInt_le, h1, Int32.toInt_toInt64, ha, hb, nI_toInt (by omega)]
    omega)] at h
  rw [h] at h0
  exact absurd h0 (by decide)
/-- a settled build, with its ranks; a class of it without ERROR -/
def zOKr (cl : Nat → Nat) (cn ab : Nat → Int32) (fc : Nat → Nat) (fa er : Nat → Int32) (bd : Nat) (rk : Nat → Nat) : Prop := ∀ c, c < cl bd → (¬ er (16 * bd + c) < 0) ∧ (er (16 * bd + c) = 0 → zRdk cl cn ab fc fa er bd c rk)
def zGd (cl : Nat → Nat) (er : Nat → Int32) (bd ci : Nat) : Prop := ∃ c, c < cl bd ∧ ci = 16 * bd + c ∧ er ci = 0
theorem zGd.mk {cl : Nat → Nat} {er : Nat → Int32} {bd c : Nat} (h : c < cl bd) (he : er (16 * bd + c) = 0) : zGd cl er bd (16 * bd + c) := ⟨c, h, rfl, he⟩
theorem zGd.lt {cl : Nat → Nat} {er : Nat → Int32} {bd ci : Nat} (h : zGd cl er bd ci) (hc : cl bd ≤ 16) (hb : bd < 5) : ci < 80 := by
  obtain ⟨c, h1, h2, -⟩ := h
  omega
theorem z_gf {cl : Nat → Nat} {cn ab : Nat → Int32} {fc : Nat → Nat} {fa er : Nat → Int32} {bd ci k : Nat} {rk : Nat → Nat} (h : zOKr cl cn ab fc fa er bd rk) (hg : zGd cl er bd ci) (hk : k < fc ci) : ∃ p, p < cl bd ∧ zPl cn (16 * bd) (cl bd) (fa (3 * ci + k)) (nI p) ∧ er (16 * bd + p) = 0 := by
  obtain ⟨c, hc, rfl, he⟩ := hg
  obtain ⟨p, p1, p2, p3, -⟩ := ((h c hc).2 he).2 k hk
  exact ⟨p, p1, p2, p3⟩
theorem z_ga {cl : Nat → Nat} {cn ab : Nat → Int32} {fc : Nat → Nat} {fa er : Nat → Int32} {bd ci : Nat} {rk : Nat → Nat} (h : zOKr cl cn ab fc fa er bd rk) (hg : zGd cl er bd ci) (ha : ¬ ab ci = 0) : ∃ p, p < cl bd ∧ zPl cn (16 * bd) (cl bd) (ab ci) (nI p) ∧ er (16 * bd + p) = 0 ∧ rk p < rk (ci - 16 * bd) := by
  obtain ⟨c, hc, rfl, he⟩ := hg
  obtain ⟨p, p1, p2, p3, p4⟩ := ((h c hc).2 he).1 ha
  exact ⟨p, p1, p2, p3, by rw [Nat.add_sub_cancel_left]; exact p4⟩
/-- what errorOf tells, and what follows where it tells no ERROR -/
def zEr (cl : Nat → Nat) (cn er : Nat → Int32) (bd : Nat) (nm r : Int32) : Prop := (zPl cn (16 * bd) (cl bd) nm (-1) ∧ r = 1) ∨ ∃ k, k < cl bd ∧ zPl cn (16 * bd) (cl bd) nm (nI k) ∧ r = er (16 * bd + k)
theorem z_er {cl : Nat → Nat} {cn ab : Nat → Int32} {fc : Nat → Nat} {fa er : Nat → Int32} {bd : Nat} {nm r : Int32} (h : zOK cl cn ab fc fa er bd) (he : zEr cl cn er bd nm r) (hr : ¬ 0 < r) : ∃ k, k < cl bd ∧ zPl cn (16 * bd) (cl bd) nm (nI k) ∧ er (16 * bd + k) = 0 := by
  rcases he with ⟨-, rfl⟩ | ⟨k, h1, h2, rfl⟩
  · exact absurd (by decide) hr
  · obtain ⟨rk, h⟩ := h
    exact ⟨k, h1, h2, z_e0 (Int32.not_lt.mp (h k h1).1) (Int32.not_lt.mp hr)⟩
/-- a row of classes without ERROR, none twice; a pile of such -/
def zRow (cl : Nat → Nat) (er : Nat → Int32) (bd : Nat) (rv : Nat → Nat) (rl : Nat) : Prop := (∀ i, i < rl → rv i < cl bd ∧ er (16 * bd + rv i) = 0) ∧ ∀ i j, i < j → j < rl → rv i ≠ rv j
def zPi (cl : Nat → Nat) (er : Nat → Int32) (bd : Nat) (pv : Nat → Nat) (op : Nat) : Prop := ∀ i, i < op → pv i < cl bd ∧ er (16 * bd + pv i) = 0
theorem zRow.nil {cl : Nat → Nat} {er : Nat → Int32} {bd : Nat} {rv : Nat → Nat} : zRow cl er bd rv 0 := ⟨fun i h => by omega, fun i j _ h => by omega⟩
theorem zPi.up {cl : Nat → Nat} {er : Nat → Int32} {bd op q : Nat} {pv : Nat → Nat} (h : zPi cl er bd pv op) (hq : q < cl bd) (he : er (16 * bd + q) = 0) : zPi cl er bd (z_up pv op q) (op + 1) := by
  intro i hi
  rcases Nat.decEq i op with e | e
  · rw [z_upn e]
    exact h i (by omega)
  · rw [e, z_ups]
    exact ⟨hq, he⟩
theorem zPi.dn {cl : Nat → Nat} {er : Nat → Int32} {bd op o2 : Nat} {pv : Nat → Nat} (h : zPi cl er bd pv op) (ho : o2 ≤ op) : zPi cl er bd pv o2 := fun i hi => h i (by omega)
theorem z_pig : ∀ (n : Nat) (f : Nat → Nat) (L : Nat), (∀ i, i < L → f i < n) → (∀ i j, i < j → j < L → f i ≠ f j) → L ≤ n
  | 0, f, L, h, _ => by
    rcases Nat.eq_zero_or_pos L with q | q
    · omega
    · have := h 0 q
      omega
  | n + 1, f, L, h, hd => by
    by_cases q : ∃ i, i < L ∧ f i = n
    · obtain ⟨i0, hi0, he⟩ := q
      have := z_pig n (fun i => if i < i0 then f i else f (i + 1)) (L - 1) (fun i hi => by
        show (if i < i0 then f i else f (i + 1)) < n
        by_cases c : i < i0
        · rw [if_pos c]
          have a := h i (by omega)
          have b := hd i i0 c hi0
          omega
        · rw [if_neg c]
          have a := h (i + 1) (by omega)
          have b := hd i0 (i + 1) (by omega) (by omega)
          omega) (fun i j hij hj => by
        show (if i < i0 then f i else f (i + 1)) ≠ (if j < i0 then f j else f (j + 1))
        by_cases c : i < i0
        · rw [if_pos c]
          by_cases d : j < i0
          · rw [if_pos d]
            exact hd i j hij (by omega)
          · rw [if_neg d]
            exact hd i (j + 1) (by omega) (by omega)
        · rw [if_neg c, if_neg (by omega)]
          exact hd (i + 1) (j + 1) (by omega) (by omega))
      omega
    · have := z_pig n f L (fun i hi => by
        have a := h i hi
        have b : f i ≠ n := fun e => q ⟨i, hi, e⟩
        omega) hd
      omega
theorem zRow.up {cl : Nat → Nat} {er : Nat → Int32} {bd rl q : Nat} {rv : Nat → Nat} (h : zRow cl er bd rv rl) (hq : q < cl bd) (he : er (16 * bd + q) = 0) (hn : ∀ i, i < rl → rv i ≠ q) : zRow cl er bd (z_up rv rl q) (rl + 1) := by
  refine ⟨fun i hi => ?_, fun i j hij hj => ?_⟩
  · rcases Nat.decEq i rl with e | e
    · rw [z_upn e]
      exact h.1 i (by omega)
    · rw [e, z_ups]
      exact ⟨hq, he⟩
  · rw [z_upn (show i ≠ rl by omega)]
    rcases Nat.decEq j rl with e | e
    · rw [z_upn e]
      exact h.2 i j hij (by omega)
    · rw [e, z_ups]
      exact hn i (by omega)
theorem zRow.le {cl : Nat → Nat} {er : Nat → Int32} {bd rl : Nat} {rv : Nat → Nat} (h : zRow cl er bd rv rl) : rl ≤ cl bd := z_pig (cl bd) rv rl (fun i hi => (h.1 i hi).1) h.2
theorem dX7_isBuild_0 : decode cX7_isBuild 0 = .ok (.iload_n 1, 1) := by decide +kernel
theorem dX7_isBuild_1 : decode cX7_isBuild 1 = .ok (.i2l, 1) := by decide +kernel
theorem dX7_isBuild_2 : decode cX7_isBuild 2 = .ok (.lconst 0, 1) := by decide +kernel
theorem dX7_isBuild_3 : decode cX7_isBuild 3 = .ok (.aload_n 0, 1) := by decide +kernel
theorem dX7_isBuild_4 : decode cX7_isBuild 4 = .ok (.getfield 232, 3) := by decide +kernel
theorem dX7_isBuild_7 : decode cX7_isBuild 7 = .ok (.iconst 1, 1) := by decide +kernel
theorem dX7_isBuild_8 : decode cX7_isBuild 8 = .ok (.isub, 1) := by decide +kernel
theorem dX7_isBuild_9 : decode cX7_isBuild 9 = .ok (.i2l, 1) := by decide +kernel
theorem dX7_isBuild_10 : decode cX7_isBuild 10 = .ok (.invokestatic 105, 3) := by decide +kernel
theorem dX7_isBuild_13 : decode cX7_isBuild 13 = .ok (.ireturn, 1) := by decide +kernel
def zwX7_isBuild : List Cond := .code yX7_isBuild cX7_isBuild 2 (some .boolean) :: ([.fieldLink RX7 232 "LinkModelsModel" "builds" "I", .methodLink RX7 105 yX7_in, .static yX7_in, .initialized RX7, .code yX7_in cX7_in 6 (some .boolean)] ++ wsX70)
theorem zgX7_isBuild_X7_in_105 : GoodIn zwX7_isBuild (va_wsS RX7 105 yX7_in zwX7_in) := goodIn_app (goodIn_r _ [2, 3, 4] rfl (by decide +kernel)) (goodIn_r _ [5] rfl (by decide +kernel))
set_option maxHeartbeats 4000000 in
set_option maxRecDepth 100000 in
theorem kX7_isBuild (l : Launch) (dC : Nat → ClassId) (dI : Nat → Nat → Nat) (h0 : Nat) (r : Nat → Nat) (cI : ClassId) (cJ : ClassId) (cZ : ClassId) (v0 : Int32) (a1 : Nat → Int32) (tp : Nat) (bs : Nat) (cl : Nat → Nat) (a5 : Nat → Int32) (a6 : Nat → Int32) (a7 : Nat → Int32) (fc : Nat → Nat) (a9 : Nat → Int32) (mb : Nat → Nat) (a11 : Nat → Int32) (a12 : Nat → Int32) (a13 : Nat → Int64) (a14 : Nat → Int32) (a15 : Nat → Int32) (a16 : Nat → Int32) (a17 : Nat → Int32) (a18 : Nat → Int32) (a19 : Nat → Int32) (a20 : Nat → Int32) (az : Nat) (v22 : Int32) (v23 : Int32) (v24 : Int64) (v25 : Int32) (v26 : Int32) (bb : Nat) (ct : Nat → Nat) (us : Nat) (a30 : Nat → Int32) (a31 : Nat → Int32) (a32 : Nat → Int32) (a33 : Nat → Int64) (a34 : Nat → Int32) (a35 : Nat → Int32) (a36 : Nat → Int32) (a37 : Nat → Int32) (pil : Nat → Nat) (rwv : Nat → Nat) (rl : Nat) (v41 : Int32) (v42 : Int32) (v43 : Int32) (v44 : Int32) (v45 : Int32) (hI : rWI tp bs cl fc mb az bb ct us pil rwv rl) (xb : Int32) (sz : Nat) : Met l yX7_isBuild zwX7_isBuild ({ frames := 1, cells := 0, slots := 0, locals := 25 }) (zPm dC dI [.ref h0, .int xb] sz (rW h0 r cI cJ cZ v0 a1 (nI tp) (nI bs) (fun j => nI (cl j)) a5 a6 a7 (fun j => nI (fc j)) a9 (fun j => nI (mb j)) a11 a12 a13 a14 a15 a16 a17 a18 a19 a20 (nI az) v22 v23 v24 v25 v26 (nI bb) (fun j => nI (ct j)) (nI us) a30 a31 a32 a33 a34 a35 a36 a37 (fun j => nI (pil j)) (fun j => nI (rwv j)) (nI rl) v41 v42 v43 v44 v45) [(cI, .int), (cJ, .long), (cZ, .boolean)]) (vp_Si (fun r => (r = 0 ∨ r = 1) ∧ (r = 1 → ∃ k, k < bs ∧ xb = nI k))) 0 0 (fun _ => False) := by
  refine Met.ofW (cc := cX7_isBuild) (maxL := 2) (ret := (some .boolean)) (by decide) rfl ?_
  intro p e s m args below meth c s₁ B hml hv
  obtain ⟨rfl, hsz, hP, hK, hD0, hL0⟩ := hv
  have hx := B.exec
  have hb := B.bytes
  have hr := B.returns
  have hts := atoms_spec (ws := zwX7_isBuild) B.pre
  have hown : s.vm.findClass RX7 = some m.cls := findClass_of_methodNamed B.named
  have hiX7 : ∀ w ∈ wsX70, w ∈ zwX7_isBuild := (fun _ h => List.mem_cons_of_mem _ (List.mem_append_right _ h))
  obtain ⟨htp, hbs, hus, hcl, hfc, hmb, hct, hpil, hrwv⟩ := hI
  subst hsz
  have hD := hD0.self (sz := s.heap.size)
  generalize hAe : va_A (rW h0 r cI cJ cZ v0 a1 (nI tp) (nI bs) (fun j => nI (cl j)) a5 a6 a7 (fun j => nI (fc j)) a9 (fun j => nI (mb j)) a11 a12 a13 a14 a15 a16 a17 a18 a19 a20 (nI az) v22 v23 v24 v25 v26 (nI bb) (fun j => nI (ct j)) (nI us) a30 a31 a32 a33 a34 a35 a36 a37 (fun j => nI (pil j)) (fun j => nI (rwv j)) (nI rl) v41 v42 v43 v44 v45) s.heap.size = A at hD hL0
  have hA : ∀ q : Nat, s.heap.size ≤ q → A q := fun q h => by rw [← hAe]; exact Or.inr h
  have hS : va_S A s.heap s.heap [] := va_S.rf
  have hL := hL0
  have hl := lv_entry ([.ref h0, .int xb]) (n := 2) (Nat.le_of_ble_eq_true rfl)
  rw [lg_entry_eq]
  generalize (lg_sl ([.ref h0, .int xb]) ++ List.replicate (2 - (lg_sl ([.ref h0, .int xb])).length) Slot.unset).toArray = ls at hl ⊢
  have hl : lv_has ls 2 [(0, .ref h0), (1, .int xb)] := hl
  refine lv_iload_n hx hb dX7_isBuild_0 rfl (lv_at hl 1 rfl) ?_
  refine lv_i2l hx hb dX7_isBuild_1 rfl ?_
  refine lv_topl (fun x1 ex1 => ?_)
  refine lv_lconst (v := 0) hx hb dX7_isBuild_2 (by decide) ?_
  refine lv_aload_n hx hb dX7_isBuild_3 rfl (lv_at hl 0 rfl) ?_
  refine va_get (D := (dC, dI)) (ci := 6) (v := .int (nI bs)) (C := RX7) (T := TX7) (N := 46) hx hb hts hiX7 hown hK hP 0 rfl rfl 3 (by decide) (hts (.fieldLink RX7 232 "LinkModelsModel" "builds" "I") (by decide +kernel)) (fun _ h9 => h9) rfl dX7_isBuild_4 ?_
  refine lv_iconst (v := 1) hx hb dX7_isBuild_7 (by decide) ?_
  refine lv_isub hx hb dX7_isBuild_8 ?_
  refine lv_topi (fun x2 ex2 => ?_)
  refine lv_i2l hx hb dX7_isBuild_9 rfl ?_
  refine lv_topl (fun x3 ex3 => ?_)
  refine vp_callSi (W.runS (As := [.long x1, .long 0, .long x3]) (rest := []) ⟨hx, hb, hml, hown, hts⟩ (kX7_in l dC dI x1 (0 : Int64) x3) (va_cwS 3 hts zgX7_isBuild_X7_in_105 rfl rfl rfl (by decide +kernel) ⟨(show 0 + 1 ≤ 1 by omega), (show 8 + (6 + 11) + 0 ≤ 25 by omega)⟩) (zSr (ws := []) (tys := []) (hK.sub (tys' := []) [] rfl) (hP.sub (ws' := []) [] rfl)) rfl rfl hl.1 rfl (lv_room (Nat.le_of_ble_eq_true rfl)) dX7_isBuild_10 ⟨(show 0 + 0 ≤ 0 by omega), (show 0 + 0 ≤ 0 by omega)⟩) (fun r4 hw => ?_)
  have w0r4 : r4 = if (((0 : Int64)) ≤ x1 ∧ x1 ≤ x3) then 1 else 0 := hw
  have wzr4 := z_if01 w0r4
  exact W.zret (v := r4) hx hb hr (z_nb wzr4) (fun t ht hW => ⟨r4, rfl, ⟨wzr4, (by intro h9; exact z_inB (n := bs) (by omega) ex1 ex3 ex2 (z_if1 w0r4 h9))⟩, ht⟩) (fun _ h => by cases h) dX7_isBuild_13
theorem dX7_isUse_0 : decode cX7_isUse 0 = .ok (.iload_n 1, 1) := by decide +kernel
theorem dX7_isUse_1 : decode cX7_isUse 1 = .ok (.i2l, 1) := by decide +kernel
theorem dX7_isUse_2 : decode cX7_isUse 2 = .ok (.lconst 0, 1) := by decide +kernel
theorem dX7_isUse_3 : decode cX7_isUse 3 = .ok (.aload_n 0, 1) := by decide +kernel
theorem dX7_isUse_4 : decode cX7_isUse 4 = .ok (.getfield 263, 3) := by decide +kernel
theorem dX7_isUse_7 : decode cX7_isUse 7 = .ok (.iconst 1, 1) := by decide +kernel
theorem dX7_isUse_8 : decode cX7_isUse 8 = .ok (.isub, 1) := by decide +kernel
theorem dX7_isUse_9 : decode cX7_isUse 9 = .ok (.i2l, 1) := by decide +kernel
theorem dX7_isUse_10 : decode cX7_isUse 10 = .ok (.invokestatic 105, 3) := by decide +kernel
theorem dX7_isUse_13 : decode cX7_isUse 13 = .ok (.ireturn, 1) := by decide +kernel
def zwX7_isUse : List Cond := .code yX7_isUse cX7_isUse 2 (some .boolean) :: ([.fieldLink RX7 263 "LinkModelsModel" "uses" "I", .methodLink RX7 105 yX7_in, .static yX7_in, .initialized RX7, .code yX7_in cX7_in 6 (some .boolean)] ++ wsX70)
theorem zgX7_isUse_X7_in_105 : GoodIn zwX7_isUse (va_wsS RX7 105 yX7_in zwX7_in) := goodIn_app (goodIn_r _ [2, 3, 4] rfl (by decide +kernel)) (goodIn_r _ [5] rfl (by decide +kernel))
set_option maxHeartbeats 4000000 in
set_option maxRecDepth 100000 in
theorem kX7_isUse (l : Launch) (dC : Nat → ClassId) (dI : Nat → Nat → Nat) (h0 : Nat) (r : Nat → Nat) (cI : ClassId) (cJ : ClassId) (cZ : ClassId) (v0 : Int32) (a1 : Nat → Int32) (tp : Nat) (bs : Nat) (cl : Nat → Nat) (a5 : Nat → Int32) (a6 : Nat → Int32) (a7 : Nat → Int32) (fc : Nat → Nat) (a9 : Nat → Int32) (mb : Nat → Nat) (a11 : Nat → Int32) (a12 : Nat → Int32) (a13 : Nat → Int64) (a14 : Nat → Int32) (a15 : Nat → Int32) (a16 : Nat → Int32) (a17 : Nat → Int32) (a18 : Nat → Int32) (a19 : Nat → Int32) (a20 : Nat → Int32) (az : Nat) (v22 : Int32) (v23 : Int32) (v24 : Int64) (v25 : Int32) (v26 : Int32) (bb : Nat) (ct : Nat → Nat) (us : Nat) (a30 : Nat → Int32) (a31 : Nat → Int32) (a32 : Nat → Int32) (a33 : Nat → Int64) (a34 : Nat → Int32) (a35 : Nat → Int32) (a36 : Nat → Int32) (a37 : Nat → Int32) (pil : Nat → Nat) (rwv : Nat → Nat) (rl : Nat) (v41 : Int32) (v42 : Int32) (v43 : Int32) (v44 : Int32) (v45 : Int32) (hI : rWI tp bs cl fc mb az bb ct us pil rwv rl) (xb : Int32) (sz : Nat) : Met l yX7_isUse zwX7_isUse ({ frames := 1, cells := 0, slots := 0, locals := 25 }) (zPm dC dI [.ref h0, .int xb] sz (rW h0 r cI cJ cZ v0 a1 (nI tp) (nI bs) (fun j => nI (cl j)) a5 a6 a7 (fun j => nI (fc j)) a9 (fun j => nI (mb j)) a11 a12 a13 a14 a15 a16 a17 a18 a19 a20 (nI az) v22 v23 v24 v25 v26 (nI bb) (fun j => nI (ct j)) (nI us) a30 a31 a32 a33 a34 a35 a36 a37 (fun j => nI (pil j)) (fun j => nI (rwv j)) (nI rl) v41 v42 v43 v44 v45) [(cI, .int), (cJ, .long), (cZ, .boolean)]) (vp_Si (fun r => (r = 0 ∨ r = 1) ∧ (r = 1 → ∃ k, k < us ∧ xb = nI k))) 0 0 (fun _ => False) := by
  refine Met.ofW (cc := cX7_isUse) (maxL := 2) (ret := (some .boolean)) (by decide) rfl ?_
  intro p e s m args below meth c s₁ B hml hv
  obtain ⟨rfl, hsz, hP, hK, hD0, hL0⟩ := hv
  have hx := B.exec
  have hb := B.bytes
  have hr := B.returns
  have hts := atoms_spec (ws := zwX7_isUse) B.pre
  have hown : s.vm.findClass RX7 = some m.cls := findClass_of_methodNamed B.named
  have hiX7 : ∀ w ∈ wsX70, w ∈ zwX7_isUse := (fun _ h => List.mem_cons_of_mem _ (List.mem_append_right _ h))
  obtain ⟨htp, hbs, hus, hcl, hfc, hmb, hct, hpil, hrwv⟩ := hI
  subst hsz
  have hD := hD0.self (sz := s.heap.size)
  generalize hAe : va_A (rW h0 r cI cJ cZ v0 a1 (nI tp) (nI bs) (fun j => nI (cl j)) a5 a6 a7 (fun j => nI (fc j)) a9 (fun j => nI (mb j)) a11 a12 a13 a14 a15 a16 a17 a18 a19 a20 (nI az) v22 v23 v24 v25 v26 (nI bb) (fun j => nI (ct j)) (nI us) a30 a31 a32 a33 a34 a35 a36 a37 (fun j => nI (pil j)) (fun j => nI (rwv j)) (nI rl) v41 v42 v43 v44 v45) s.heap.size = A at hD hL0
  have hA : ∀ q : Nat, s.heap.size ≤ q → A q := fun q h => by rw [← hAe]; exact Or.inr h
  have hS : va_S A s.heap s.heap [] := va_S.rf
  have hL := hL0
  have hl := lv_entry ([.ref h0, .int xb]) (n := 2) (Nat.le_of_ble_eq_true rfl)
  rw [lg_entry_eq]
  generalize (lg_sl ([.ref h0, .int xb]) ++ List.replicate (2 - (lg_sl ([.ref h0, .int xb])).length) Slot.unset).toArray = ls at hl ⊢
  have hl : lv_has ls 2 [(0, .ref h0), (1, .int xb)] := hl
  refine lv_iload_n hx hb dX7_isUse_0 rfl (lv_at hl 1 rfl) ?_
  refine lv_i2l hx hb dX7_isUse_1 rfl ?_
  refine lv_topl (fun x1 ex1 => ?_)
  refine lv_lconst (v := 0) hx hb dX7_isUse_2 (by decide) ?_
  refine lv_aload_n hx hb dX7_isUse_3 rfl (lv_at hl 0 rfl) ?_
  refine va_get (D := (dC, dI)) (ci := 6) (v := .int (nI us)) (C := RX7) (T := TX7) (N := 46) hx hb hts hiX7 hown hK hP 0 rfl rfl 29 (by decide) (hts (.fieldLink RX7 263 "LinkModelsModel" "uses" "I") (by decide +kernel)) (fun _ h9 => h9) rfl dX7_isUse_4 ?_
  refine lv_iconst (v := 1) hx hb dX7_isUse_7 (by decide) ?_
  refine lv_isub hx hb dX7_isUse_8 ?_
  refine lv_topi (fun x2 ex2 => ?_)
  refine lv_i2l hx hb dX7_isUse_9 rfl ?_
  refine lv_topl (fun x3 ex3 => ?_)
  refine vp_callSi (W.runS (As := [.long x1, .long 0, .long x3]) (rest := []) ⟨hx, hb, hml, hown, hts⟩ (kX7_in l dC dI x1 (0 : Int64) x3) (va_cwS 3 hts zgX7_isUse_X7_in_105 rfl rfl rfl (by decide +kernel) ⟨(show 0 + 1 ≤ 1 by omega), (show 8 + (6 + 11) + 0 ≤ 25 by omega)⟩) (zSr (ws := []) (tys := []) (hK.sub (tys' := []) [] rfl) (hP.sub (ws' := []) [] rfl)) rfl rfl hl.1 rfl (lv_room (Nat.le_of_ble_eq_true rfl)) dX7_isUse_10 ⟨(show 0 + 0 ≤ 0 by omega), (show 0 + 0 ≤ 0 by omega)⟩) (fun r4 hw => ?_)
  have w0r4 : r4 = if (((0 : Int64)) ≤ x1 ∧ x1 ≤ x3) then 1 else 0 := hw
  have wzr4 := z_if01 w0r4
  exact W.zret (v := r4) hx hb hr (z_nb wzr4) (fun t ht hW => ⟨r4, rfl, ⟨wzr4, (by intro h9; exact z_inB (n := us) (by omega) ex1 ex3 ex2 (z_if1 w0r4 h9))⟩, ht⟩) (fun _ h => by cases h) dX7_isUse_13
theorem dX7_errorOf_0 : decode cX7_errorOf 0 = .ok (.aload_n 0, 1) := by decide +kernel
theorem dX7_errorOf_1 : decode cX7_errorOf 1 = .ok (.iload_n 1, 1) := by decide +kernel
theorem dX7_errorOf_2 : decode cX7_errorOf 2 = .ok (.iload_n 2, 1) := by decide +kernel
theorem dX7_errorOf_3 : decode cX7_errorOf 3 = .ok (.invokevirtual 201, 3) := by decide +kernel
theorem dX7_errorOf_6 : decode cX7_errorOf 6 = .ok (.istore_n 3, 1) := by decide +kernel
theorem dX7_errorOf_7 : decode cX7_errorOf 7 = .ok (.iload_n 3, 1) := by decide +kernel
theorem dX7_errorOf_8 : decode cX7_errorOf 8 = .ok (.ifCond .ge 7, 3) := by decide +kernel
theorem dX7_errorOf_11 : decode cX7_errorOf 11 = .ok (.iconst 1, 1) := by decide +kernel
theorem dX7_errorOf_12 : decode cX7_errorOf 12 = .ok (.goto 14, 3) := by decide +kernel
theorem dX7_errorOf_15 : decode cX7_errorOf 15 = .ok (.aload_n 0, 1) := by decide +kernel
theorem dX7_errorOf_16 : decode cX7_errorOf 16 = .ok (.getfield 38, 3) := by decide +kernel
theorem dX7_errorOf_19 : decode cX7_errorOf 19 = .ok (.bipush 16, 2) := by decide +kernel
theorem dX7_errorOf_21 : decode cX7_errorOf 21 = .ok (.iload_n 1, 1) := by decide +kernel
theorem dX7_errorOf_22 : decode cX7_errorOf 22 = .ok (.imul, 1) := by decide +kernel
theorem dX7_errorOf_23 : decode cX7_errorOf 23 = .ok (.iload_n 3, 1) := by decide +kernel
theorem dX7_errorOf_24 : decode cX7_errorOf 24 = .ok (.iadd, 1) := by decide +kernel
theorem dX7_errorOf_25 : decode cX7_errorOf 25 = .ok (.iaload, 1) := by decide +kernel
theorem dX7_errorOf_26 : decode cX7_errorOf 26 = .ok (.ireturn, 1) := by decide +kernel
def zwX7_errorOf : List Cond := .code yX7_errorOf cX7_errorOf 4 (some .int) :: ([.fieldLink RX7 38 "LinkModelsModel" "error" "[I", .methodLink RX7 201 yX7_place, .instanceMethod yX7_place, .selects RX7 yX7_place yX7_place, .initialized RX7, .code yX7_place cX7_place 4 (some .int), .fieldLink RX7 17 "LinkModelsModel" "classes" "[I", .fieldLink RX7 20 "LinkModelsModel" "className" "[I"] ++ wsX70)
theorem zgX7_errorOf_X7_place_201 : GoodIn zwX7_errorOf (wsV RX7 201 RX7 yX7_place zwX7_place) := goodIn_app (goodIn_r _ [2, 3, 4, 5] rfl (by decide +kernel)) (goodIn_ca (goodIn_r _ [6, 7, 8] rfl (by decide +kernel)) (zgt zg7))
set_option maxHeartbeats 4000000 in
set_option maxRecDepth 100000 in
theorem kX7_errorOf (l : Launch) (dC : Nat → ClassId) (dI : Nat → Nat → Nat) (h0 : Nat) (r : Nat → Nat) (cI : ClassId) (cJ : ClassId) (cZ : ClassId) (v0 : Int32) (a1 : Nat → Int32) (tp : Nat) (bs : Nat) (cl : Nat → Nat) (a5 : Nat → Int32) (a6 : Nat → Int32) (a7 : Nat → Int32) (fc : Nat → Nat) (a9 : Nat → Int32) (mb : Nat → Nat) (a11 : Nat → Int32) (a12 : Nat → Int32) (a13 : Nat → Int64) (a14 : Nat → Int32) (a15 : Nat → Int32) (a16 : Nat → Int32) (a17 : Nat → Int32) (a18 : Nat → Int32) (a19 : Nat → Int32) (a20 : Nat → Int32) (az : Nat) (v22 : Int32) (v23 : Int32) (v24 : Int64) (v25 : Int32) (v26 : Int32) (bb : Nat) (ct : Nat → Nat) (us : Nat) (a30 : Nat → Int32) (a31 : Nat → Int32) (a32 : Nat → Int32) (a33 : Nat → Int64) (a34 : Nat → Int32) (a35 : Nat → Int32) (a36 : Nat → Int32) (a37 : Nat → Int32) (pil : Nat → Nat) (rwv : Nat → Nat) (rl : Nat) (v41 : Int32) (v42 : Int32) (v43 : Int32) (v44 : Int32) (v45 : Int32) (hI : rWI tp bs cl fc mb az bb ct us pil rwv rl) (bd : Nat) (nm : Int32) (hp0 : bd < 5) (sz : Nat) : Met l yX7_errorOf zwX7_errorOf ({ frames := 1, cells := 0, slots := 0, locals := 23 }) (zPm dC dI [.ref h0, .int (nI bd), .int nm] sz (rW h0 r cI cJ cZ v0 a1 (nI tp) (nI bs) (fun j => nI (cl j)) a5 a6 a7 (fun j => nI (fc j)) a9 (fun j => nI (mb j)) a11 a12 a13 a14 a15 a16 a17 a18 a19 a20 (nI az) v22 v23 v24 v25 v26 (nI bb) (fun j => nI (ct j)) (nI us) a30 a31 a32 a33 a34 a35 a36 a37 (fun j => nI (pil j)) (fun j => nI (rwv j)) (nI rl) v41 v42 v43 v44 v45) [(cI, .int), (cJ, .long), (cZ, .boolean)]) (vp_Si (fun r => (zEr cl a5 a11 bd nm r))) 0 0 (fun _ => False) := by
  refine Met.ofW (cc := cX7_errorOf) (maxL := 4) (ret := (some .int)) (by decide) rfl ?_
  intro p e s m args below meth c s₁ B hml hv
  obtain ⟨rfl, hsz, hP, hK, hD0, hL0⟩ := hv
  have hx := B.exec
  have hb := B.bytes
  have hr := B.returns
  have hts := atoms_spec (ws := zwX7_errorOf) B.pre
  have hown : s.vm.findClass RX7 = some m.cls := findClass_of_methodNamed B.named
  have hiX7 : ∀ w ∈ wsX70, w ∈ zwX7_errorOf := (fun _ h => List.mem_cons_of_mem _ (List.mem_append_right _ h))
  obtain ⟨htp, hbs, hus, hcl, hfc, hmb, hct, hpil, hrwv⟩ := hI
  subst hsz
  have hD := hD0.self (sz := s.heap.size)
  generalize hAe : va_A (rW h0 r cI cJ cZ v0 a1 (nI tp) (nI bs) (fun j => nI (cl j)) a5 a6 a7 (fun j => nI (fc j)) a9 (fun j => nI (mb j)) a11 a12 a13 a14 a15 a16 a17 a18 a19 a20 (nI az) v22 v23 v24 v25 v26 (nI bb) (fun j => nI (ct j)) (nI us) a30 a31 a32 a33 a34 a35 a36 a37 (fun j => nI (pil j)) (fun j => nI (rwv j)) (nI rl) v41 v42 v43 v44 v45) s.heap.size = A at hD hL0
  have hA : ∀ q : Nat, s.heap.size ≤ q → A q := fun q h => by rw [← hAe]; exact Or.inr h
  have hS : va_S A s.heap s.heap [] := va_S.rf
  have hL := hL0
  have hclb := hcl bd
  have hl := lv_entry ([.ref h0, .int (nI bd), .int nm]) (n := 4) (Nat.le_of_ble_eq_true rfl)
  rw [lg_entry_eq]
  generalize (lg_sl ([.ref h0, .int (nI bd), .int nm]) ++ List.replicate (4 - (lg_sl ([.ref h0, .int (nI bd), .int nm])).length) Slot.unset).toArray = ls at hl ⊢
  have hl : lv_has ls 4 [(0, .ref h0), (1, .int (nI bd)), (2, .int nm)] := hl
  refine lv_aload_n hx hb dX7_errorOf_0 rfl (lv_at hl 0 rfl) ?_
  refine lv_iload_n hx hb dX7_errorOf_1 rfl (lv_at hl 1 rfl) ?_
  refine lv_iload_n hx hb dX7_errorOf_2 rfl (lv_at hl 2 rfl) ?_
  have hFc := z_freeW hD hS hA
  refine vp_callSi (W.runV (As := [.int (nI bd), .int nm]) (rest := []) ⟨hx, hb, hml, hown, hts⟩ (kX7_place l dC dI h0 r cI cJ cZ v0 a1 tp bs cl a5 a6 a7 fc a9 mb a11 a12 a13 a14 a15 a16 a17 a18 a19 a20 az v22 v23 v24 v25 v26 bb ct us a30 a31 a32 a33 a34 a35 a36 a37 pil rwv rl v41 v42 v43 v44 v45 ⟨by omega, by omega, by omega, hcl, hfc, hmb, hct, hpil, hrwv⟩ bd nm (by first | omega | assumption | trivial) s.heap.size) (cwV 2 hts zgX7_errorOf_X7_place_201 rfl rfl rfl (by decide +kernel) ⟨(show 0 + 1 ≤ 1 by omega), (show 8 + (4 + 11) + 0 ≤ 23 by omega)⟩) (zVm (ci := 6) (q0 := 0) (q := (RX7, TX7, 46)) hK hP hD hL hS.2.1 hFc rfl rfl rfl) rfl rfl hl.1 rfl (lv_room (Nat.le_of_ble_eq_true rfl)) dX7_errorOf_3 ⟨(show 0 + 0 ≤ 0 by omega), (show 0 + 0 ≤ 0 by omega)⟩) (fun r1 hw => ?_)
  have hw : (zM r1 (fun k => k < cl bd)) ∧ (zPl a5 (16 * bd) (cl bd) nm r1) := hw
  obtain ⟨w0r1, w1r1⟩ := hw
  refine lv_istore_n (lv' := [(3, .int r1), (0, .ref h0), (1, .int (nI bd)), (2, .int nm)]) hx hb dX7_errorOf_6 rfl hl (by decide) rfl (fun ls hl => ?_)
  refine lv_iload_n hx hb dX7_errorOf_7 rfl (lv_at hl 0 rfl) ?_
  refine lv_if_ge (tgt := 15) hx hb dX7_errorOf_8 (by decide) (fun cp8 => ?_) (fun cp8 => ?_)
  · obtain ⟨k2, hBk2, hQk2, rfl⟩ := zM.pos' w0r1 cp8
    refine lv_aload_n hx hb dX7_errorOf_15 rfl (lv_at hl 1 rfl) ?_
    refine va_get (D := (dC, dI)) (ci := 6) (v := .ref (r 11)) (C := RX7) (T := TX7) (N := 46) hx hb hts hiX7 hown hK hP 0 rfl rfl 11 (by decide) (hts (.fieldLink RX7 38 "LinkModelsModel" "error" "[I") (by decide +kernel)) (fun _ h9 => h9) rfl dX7_errorOf_16 ?_
    refine lv_bipush (v := 16) hx hb dX7_errorOf_19 (by decide) ?_
    refine lv_iload_n hx hb dX7_errorOf_21 rfl (lv_at hl 2 rfl) ?_
    refine lv_imul hx hb dX7_errorOf_22 ?_
    refine lv_topi (fun x3 ex3 => ?_)
    obtain rfl : x3 = nI (16 * bd) := by rw [ex3]; exact pk_mul (16) (bd)
    refine lv_iload_n hx hb dX7_errorOf_23 rfl (lv_at hl 0 rfl) ?_
    refine lv_iadd hx hb dX7_errorOf_24 ?_
    refine lv_topi (fun x4 ex4 => ?_)
    obtain rfl : x4 = nI ((16 * bd) + k2) := by rw [ex4]; exact nI_add (16 * bd) (k2)
    refine va_iald hx hb hK hP 9 0 rfl rfl (vp_in_nI (show (16 * bd) + k2 < 80 by omega) (by decide)) dX7_errorOf_25 ?_
    refine lv_topi (fun x5 ex5 => ?_)
    obtain rfl : x5 = a11 ((16 * bd) + k2) := by rw [ex5, nI_clamp (show (16 * bd) + k2 < 2 ^ 31 by omega)]
    exact W.iret (v := (a11 ((16 * bd) + k2))) hx hb hr (fun t ht hW => ⟨(a11 ((16 * bd) + k2)), rfl, (by exact Or.inr ⟨k2, hQk2, w1r1, rfl⟩), ht⟩) (fun _ h => by cases h) dX7_errorOf_26
  · obtain rfl : r1 = -1 := zM.neg' w0r1 cp8
    refine lv_iconst (v := 1) hx hb dX7_errorOf_11 (by decide) ?_
    refine lv_goto (tgt := 26) hx hb dX7_errorOf_12 (by decide) ?_
    exact W.iret (v := (1 : Int32)) hx hb hr (fun t ht hW => ⟨(1 : Int32), rfl, (by exact Or.inl ⟨w1r1, rfl⟩), ht⟩) (fun _ h => by cases h) dX7_errorOf_26
theorem dX7_isOf_0 : decode cX7_isOf 0 = .ok (.aload_n 0, 1) := by decide +kernel
theorem dX7_isOf_1 : decode cX7_isOf 1 = .ok (.getfield 41, 3) := by decide +kernel
theorem dX7_isOf_4 : decode cX7_isOf 4 = .ok (.bipush 16, 2) := by decide +kernel
theorem dX7_isOf_6 : decode cX7_isOf 6 = .ok (.iload_n 1, 1) := by decide +kernel
theorem dX7_isOf_7 : decode cX7_isOf 7 = .ok (.imul, 1) := by decide +kernel
theorem dX7_isOf_8 : decode cX7_isOf 8 = .ok (.iload_n 2, 1) := by decide +kernel
theorem dX7_isOf_9 : decode cX7_isOf 9 = .ok (.iadd, 1) := by decide +kernel
theorem dX7_isOf_10 : decode cX7_isOf 10 = .ok (.iaload, 1) := by decide +kernel
theorem dX7_isOf_11 : decode cX7_isOf 11 = .ok (.iload_n 3, 1) := by decide +kernel
theorem dX7_isOf_12 : decode cX7_isOf 12 = .ok (.ishr, 1) := by decide +kernel
theorem dX7_isOf_13 : decode cX7_isOf 13 = .ok (.iconst 1, 1) := by decide +kernel
theorem dX7_isOf_14 : decode cX7_isOf 14 = .ok (.iand, 1) := by decide +kernel
theorem dX7_isOf_15 : decode cX7_isOf 15 = .ok (.iconst 1, 1) := by decide +kernel
theorem dX7_isOf_16 : decode cX7_isOf 16 = .ok (.if_icmp .ne 7, 3) := by decide +kernel
theorem dX7_isOf_19 : decode cX7_isOf 19 = .ok (.iconst 1, 1) := by decide +kernel
theorem dX7_isOf_20 : decode cX7_isOf 20 = .ok (.goto 4, 3) := by decide +kernel
theorem dX7_isOf_23 : decode cX7_isOf 23 = .ok (.iconst 0, 1) := by decide +kernel
theorem dX7_isOf_24 : decode cX7_isOf 24 = .ok (.ireturn, 1) := by decide +kernel
def zwX7_isOf : List Cond := .code yX7_isOf cX7_isOf 4 (some .boolean) :: ([.fieldLink RX7 41 "LinkModelsModel" "ofAll" "[I"] ++ wsX70)
set_option maxHeartbeats 4000000 in
set_option maxRecDepth 100000 in
theorem kX7_isOf (l : Launch) (dC : Nat → ClassId) (dI : Nat → Nat → Nat) (h0 : Nat) (r : Nat → Nat) (cI : ClassId) (cJ : ClassId) (cZ : ClassId) (v0 : Int32) (a1 : Nat → Int32) (tp : Nat) (bs : Nat) (cl : Nat → Nat) (a5 : Nat → Int32) (a6 : Nat → Int32) (a7 : Nat → Int32) (fc : Nat → Nat) (a9 : Nat → Int32) (mb : Nat → Nat) (a11 : Nat → Int32) (a12 : Nat → Int32) (a13 : Nat → Int64) (a14 : Nat → Int32) (a15 : Nat → Int32) (a16 : Nat → Int32) (a17 : Nat → Int32) (a18 : Nat → Int32) (a19 : Nat → Int32) (a20 : Nat → Int32) (az : Nat) (v22 : Int32) (v23 : Int32) (v24 : Int64) (v25 : Int32) (v26 : Int32) (bb : Nat) (ct : Nat → Nat) (us : Nat) (a30 : Nat → Int32) (a31 : Nat → Int32) (a32 : Nat → Int32) (a33 : Nat → Int64) (a34 : Nat → Int32) (a35 : Nat → Int32) (a36 : Nat → Int32) (a37 : Nat → Int32) (pil : Nat → Nat) (rwv : Nat → Nat) (rl : Nat) (v41 : Int32) (v42 : Int32) (v43 : Int32) (v44 : Int32) (v45 : Int32) (hI : rWI tp bs cl fc mb az bb ct us pil rwv rl) (bd : Nat) (cx : Nat) (dd : Int32) (hp0 : bd < 5) (hp1 : cx < 16) (sz : Nat) : Met l yX7_isOf zwX7_isOf ({ frames := 0, cells := 0, slots := 0, locals := 0 }) (zPm dC dI [.ref h0, .int (nI bd), .int (nI cx), .int dd] sz (rW h0 r cI cJ cZ v0 a1 (nI tp) (nI bs) (fun j => nI (cl j)) a5 a6 a7 (fun j => nI (fc j)) a9 (fun j => nI (mb j)) a11 a12 a13 a14 a15 a16 a17 a18 a19 a20 (nI az) v22 v23 v24 v25 v26 (nI bb) (fun j => nI (ct j)) (nI us) a30 a31 a32 a33 a34 a35 a36 a37 (fun j => nI (pil j)) (fun j => nI (rwv j)) (nI rl) v41 v42 v43 v44 v45) [(cI, .int), (cJ, .long), (cZ, .boolean)]) (vp_Si (fun r => (r = 0 ∨ r = 1))) 0 0 (fun _ => False) := by
  refine Met.ofW (cc := cX7_isOf) (maxL := 4) (ret := (some .boolean)) (by decide) rfl ?_
  intro p e s m args below meth c s₁ B hml hv
  obtain ⟨rfl, hsz, hP, hK, hD0, hL0⟩ := hv
  have hx := B.exec
  have hb := B.bytes
  have hr := B.returns
  have hts := atoms_spec (ws := zwX7_isOf) B.pre
  have hown : s.vm.findClass RX7 = some m.cls := findClass_of_methodNamed B.named
  have hiX7 : ∀ w ∈ wsX70, w ∈ zwX7_isOf := (fun _ h => List.mem_cons_of_mem _ (List.mem_append_right _ h))
  obtain ⟨htp, hbs, hus, hcl, hfc, hmb, hct, hpil, hrwv⟩ := hI
  subst hsz
  have hD := hD0.self (sz := s.heap.size)
  generalize hAe : va_A (rW h0 r cI cJ cZ v0 a1 (nI tp) (nI bs) (fun j => nI (cl j)) a5 a6 a7 (fun j => nI (fc j)) a9 (fun j => nI (mb j)) a11 a12 a13 a14 a15 a16 a17 a18 a19 a20 (nI az) v22 v23 v24 v25 v26 (nI bb) (fun j => nI (ct j)) (nI us) a30 a31 a32 a33 a34 a35 a36 a37 (fun j => nI (pil j)) (fun j => nI (rwv j)) (nI rl) v41 v42 v43 v44 v45) s.heap.size = A at hD hL0
  have hA : ∀ q : Nat, s.heap.size ≤ q → A q := fun q h => by rw [← hAe]; exact Or.inr h
  have hS : va_S A s.heap s.heap [] := va_S.rf
  have hL := hL0
  have hl := lv_entry ([.ref h0, .int (nI bd), .int (nI cx), .int dd]) (n := 4) (Nat.le_of_ble_eq_true rfl)
  rw [lg_entry_eq]
  generalize (lg_sl ([.ref h0, .int (nI bd), .int (nI cx), .int dd]) ++ List.replicate (4 - (lg_sl ([.ref h0, .int (nI bd), .int (nI cx), .int dd])).length) Slot.unset).toArray = ls at hl ⊢
  have hl : lv_has ls 4 [(0, .ref h0), (1, .int (nI bd)), (2, .int (nI cx)), (3, .int dd)] := hl
  refine lv_aload_n hx hb dX7_isOf_0 rfl (lv_at hl 0 rfl) ?_
  refine va_get (D := (dC, dI)) (ci := 6) (v := .ref (r 12)) (C := RX7) (T := TX7) (N := 46) hx hb hts hiX7 hown hK hP 0 rfl rfl 12 (by decide) (hts (.fieldLink RX7 41 "LinkModelsModel" "ofAll" "[I") (by decide +kernel)) (fun _ h9 => h9) rfl dX7_isOf_1 ?_
  refine lv_bipush (v := 16) hx hb dX7_isOf_4 (by decide) ?_
  refine lv_iload_n hx hb dX7_isOf_6 rfl (lv_at hl 1 rfl) ?_
  refine lv_imul hx hb dX7_isOf_7 ?_
  refine lv_topi (fun x1 ex1 => ?_)
  obtain rfl : x1 = nI (16 * bd) := by rw [ex1]; exact pk_mul (16) (bd)
  refine lv_iload_n hx hb dX7_isOf_8 rfl (lv_at hl 2 rfl) ?_
  refine lv_iadd hx hb dX7_isOf_9 ?_
  refine lv_topi (fun x2 ex2 => ?_)
  obtain rfl : x2 = nI ((16 * bd) + cx) := by rw [ex2]; exact nI_add (16 * bd) (cx)
  refine va_iald hx hb hK hP 10 0 rfl rfl (vp_in_nI (show (16 * bd) + cx < 80 by omega) (by decide)) dX7_isOf_10 ?_
  refine lv_topi (fun x3 ex3 => ?_)
  obtain rfl : x3 = a12 ((16 * bd) + cx) := by rw [ex3, nI_clamp (show (16 * bd) + cx < 2 ^ 31 by omega)]
  refine lv_iload_n hx hb dX7_isOf_11 rfl (lv_at hl 3 rfl) ?_
  refine lv_ishr hx hb dX7_isOf_12 ?_
  refine lv_topi (fun x4 ex4 => ?_)
  refine lv_iconst (v := 1) hx hb dX7_isOf_13 (by decide) ?_
  refine lv_iand hx hb dX7_isOf_14 ?_
  refine lv_topi (fun x5 ex5 => ?_)
  refine lv_iconst (v := 1) hx hb dX7_isOf_15 (by decide) ?_
  refine lv_icmp_ne (tgt := 23) hx hb dX7_isOf_16 (by decide) (fun cp16 => ?_) (fun cp16 => ?_)
  · refine lv_iconst (v := 0) hx hb dX7_isOf_23 (by decide) ?_
    exact W.zret (v := (0 : Int32)) hx hb hr rfl (fun t ht hW => ⟨(0 : Int32), rfl, (Or.inl rfl), ht⟩) (fun _ h => by cases h) dX7_isOf_24
  · refine lv_iconst (v := 1) hx hb dX7_isOf_19 (by decide) ?_
    refine lv_goto (tgt := 24) hx hb dX7_isOf_20 (by decide) ?_
    exact W.zret (v := (1 : Int32)) hx hb hr rfl (fun t ht hW => ⟨(1 : Int32), rfl, (Or.inr rfl), ht⟩) (fun _ h => by cases h) dX7_isOf_24
theorem dX7_fieldIn_0 : decode cX7_fieldIn 0 = .ok (.bipush 12, 2) := by decide +kernel
theorem dX7_fieldIn_2 : decode cX7_fieldIn 2 = .ok (.iload_n 1, 1) := by decide +kernel
theorem dX7_fieldIn_3 : decode cX7_fieldIn 3 = .ok (.imul, 1) := by decide +kernel
theorem dX7_fieldIn_4 : decode cX7_fieldIn 4 = .ok (.istore_n 3, 1) := by decide +kernel
theorem dX7_fieldIn_5 : decode cX7_fieldIn 5 = .ok (.iload_n 3, 1) := by decide +kernel
theorem dX7_fieldIn_6 : decode cX7_fieldIn 6 = .ok (.bipush 12, 2) := by decide +kernel
theorem dX7_fieldIn_8 : decode cX7_fieldIn 8 = .ok (.iload_n 1, 1) := by decide +kernel
theorem dX7_fieldIn_9 : decode cX7_fieldIn 9 = .ok (.imul, 1) := by decide +kernel
theorem dX7_fieldIn_10 : decode cX7_fieldIn 10 = .ok (.aload_n 0, 1) := by decide +kernel
theorem dX7_fieldIn_11 : decode cX7_fieldIn 11 = .ok (.getfield 35, 3) := by decide +kernel
theorem dX7_fieldIn_14 : decode cX7_fieldIn 14 = .ok (.iload_n 1, 1) := by decide +kernel
theorem dX7_fieldIn_15 : decode cX7_fieldIn 15 = .ok (.iaload, 1) := by decide +kernel
theorem dX7_fieldIn_16 : decode cX7_fieldIn 16 = .ok (.iadd, 1) := by decide +kernel
theorem dX7_fieldIn_17 : decode cX7_fieldIn 17 = .ok (.if_icmp .ge 36, 3) := by decide +kernel
theorem dX7_fieldIn_20 : decode cX7_fieldIn 20 = .ok (.aload_n 0, 1) := by decide +kernel
theorem dX7_fieldIn_21 : decode cX7_fieldIn 21 = .ok (.getfield 51, 3) := by decide +kernel
theorem dX7_fieldIn_24 : decode cX7_fieldIn 24 = .ok (.iload_n 3, 1) := by decide +kernel
theorem dX7_fieldIn_25 : decode cX7_fieldIn 25 = .ok (.baload, 1) := by decide +kernel
theorem dX7_fieldIn_26 : decode cX7_fieldIn 26 = .ok (.ifCond .ne 21, 3) := by decide +kernel
theorem dX7_fieldIn_29 : decode cX7_fieldIn 29 = .ok (.aload_n 0, 1) := by decide +kernel
theorem dX7_fieldIn_30 : decode cX7_fieldIn 30 = .ok (.getfield 44, 3) := by decide +kernel
theorem dX7_fieldIn_33 : decode cX7_fieldIn 33 = .ok (.iload_n 3, 1) := by decide +kernel
theorem dX7_fieldIn_34 : decode cX7_fieldIn 34 = .ok (.laload, 1) := by decide +kernel
theorem dX7_fieldIn_35 : decode cX7_fieldIn 35 = .ok (.aload_n 0, 1) := by decide +kernel
theorem dX7_fieldIn_36 : decode cX7_fieldIn 36 = .ok (.getfield 82, 3) := by decide +kernel
theorem dX7_fieldIn_39 : decode cX7_fieldIn 39 = .ok (.iload_n 2, 1) := by decide +kernel
theorem dX7_fieldIn_40 : decode cX7_fieldIn 40 = .ok (.laload, 1) := by decide +kernel
theorem dX7_fieldIn_41 : decode cX7_fieldIn 41 = .ok (.lcmp, 1) := by decide +kernel
theorem dX7_fieldIn_42 : decode cX7_fieldIn 42 = .ok (.ifCond .ne 5, 3) := by decide +kernel
theorem dX7_fieldIn_45 : decode cX7_fieldIn 45 = .ok (.iload_n 3, 1) := by decide +kernel
theorem dX7_fieldIn_46 : decode cX7_fieldIn 46 = .ok (.ireturn, 1) := by decide +kernel
theorem dX7_fieldIn_47 : decode cX7_fieldIn 47 = .ok (.iinc 3 1, 3) := by decide +kernel
theorem dX7_fieldIn_50 : decode cX7_fieldIn 50 = .ok (.goto (-45), 3) := by decide +kernel
theorem dX7_fieldIn_53 : decode cX7_fieldIn 53 = .ok (.iconst (-1), 1) := by decide +kernel
theorem dX7_fieldIn_54 : decode cX7_fieldIn 54 = .ok (.ireturn, 1) := by decide +kernel
def zwX7_fieldIn : List Cond := .code yX7_fieldIn cX7_fieldIn 4 (some .int) :: ([.fieldLink RX7 35 "LinkModelsModel" "members" "[I", .fieldLink RX7 51 "LinkModelsModel" "isMethod" "[Z", .fieldLink RX7 44 "LinkModelsModel" "word" "[J", .fieldLink RX7 82 "LinkModelsModel" "useWord" "[J"] ++ wsX70)
set_option maxHeartbeats 4000000 in
set_option maxRecDepth 100000 in
theorem kX7_fieldIn (l : Launch) (dC : Nat → ClassId) (dI : Nat → Nat → Nat) (h0 : Nat) (r : Nat → Nat) (cI : ClassId) (cJ : ClassId) (cZ : ClassId) (v0 : Int32) (a1 : Nat → Int32) (tp : Nat) (bs : Nat) (cl : Nat → Nat) (a5 : Nat → Int32) (a6 : Nat → Int32) (a7 : Nat → Int32) (fc : Nat → Nat) (a9 : Nat → Int32) (mb : Nat → Nat) (a11 : Nat → Int32) (a12 : Nat → Int32) (a13 : Nat → Int64) (a14 : Nat → Int32) (a15 : Nat → Int32) (a16 : Nat → Int32) (a17 : Nat → Int32) (a18 : Nat → Int32) (a19 : Nat → Int32) (a20 : Nat → Int32) (az : Nat) (v22 : Int32) (v23 : Int32) (v24 : Int64) (v25 : Int32) (v26 : Int32) (bb : Nat) (ct : Nat → Nat) (us : Nat) (a30 : Nat → Int32) (a31 : Nat → Int32) (a32 : Nat → Int32) (a33 : Nat → Int64) (a34 : Nat → Int32) (a35 : Nat → Int32) (a36 : Nat → Int32) (a37 : Nat → Int32) (pil : Nat → Nat) (rwv : Nat → Nat) (rl : Nat) (v41 : Int32) (v42 : Int32) (v43 : Int32) (v44 : Int32) (v45 : Int32) (hI : rWI tp bs cl fc mb az bb ct us pil rwv rl) (ci : Nat) (uu : Nat) (hp0 : ci < 80) (hp1 : uu < 40) (sz : Nat) : Met l yX7_fieldIn zwX7_fieldIn ({ frames := 0, cells := 0, slots := 0, locals := 0 }) (zPm dC dI [.ref h0, .int (nI ci), .int (nI uu)] sz (rW h0 r cI cJ cZ v0 a1 (nI tp) (nI bs) (fun j => nI (cl j)) a5 a6 a7 (fun j => nI (fc j)) a9 (fun j => nI (mb j)) a11 a12 a13 a14 a15 a16 a17 a18 a19 a20 (nI az) v22 v23 v24 v25 v26 (nI bb) (fun j => nI (ct j)) (nI us) a30 a31 a32 a33 a34 a35 a36 a37 (fun j => nI (pil j)) (fun j => nI (rwv j)) (nI rl) v41 v42 v43 v44 v45) [(cI, .int), (cJ, .long), (cZ, .boolean)]) (vp_Si (fun r => (zM r (fun k => k < 960)))) 0 0 (fun _ => False) := by
  refine Met.ofW (cc := cX7_fieldIn) (maxL := 4) (ret := (some .int)) (by decide) rfl ?_
  intro p e s m args below meth c s₁ B hml hv
  obtain ⟨rfl, hsz, hP, hK, hD0, hL0⟩ := hv
  have hx := B.exec
  have hb := B.bytes
  have hr := B.returns
  have hts := atoms_spec (ws := zwX7_fieldIn) B.pre
  have hown : s.vm.findClass RX7 = some m.cls := findClass_of_methodNamed B.named
  have hiX7 : ∀ w ∈ wsX70, w ∈ zwX7_fieldIn := (fun _ h => List.mem_cons_of_mem _ (List.mem_append_right _ h))
  obtain ⟨htp, hbs, hus, hcl, hfc, hmb, hct, hpil, hrwv⟩ := hI
  subst hsz
  have hD := hD0.self (sz := s.heap.size)
  generalize hAe : va_A (rW h0 r cI cJ cZ v0 a1 (nI tp) (nI bs) (fun j => nI (cl j)) a5 a6 a7 (fun j => nI (fc j)) a9 (fun j => nI (mb j)) a11 a12 a13 a14 a15 a16 a17 a18 a19 a20 (nI az) v22 v23 v24 v25 v26 (nI bb) (fun j => nI (ct j)) (nI us) a30 a31 a32 a33 a34 a35 a36 a37 (fun j => nI (pil j)) (fun j => nI (rwv j)) (nI rl) v41 v42 v43 v44 v45) s.heap.size = A at hD hL0
  have hA : ∀ q : Nat, s.heap.size ≤ q → A q := fun q h => by rw [← hAe]; exact Or.inr h
  have hS : va_S A s.heap s.heap [] := va_S.rf
  have hL := hL0
  have hmbc := hmb ci
  have hl := lv_entry ([.ref h0, .int (nI ci), .int (nI uu)]) (n := 4) (Nat.le_of_ble_eq_true rfl)
  rw [lg_entry_eq]
  generalize (lg_sl ([.ref h0, .int (nI ci), .int (nI uu)]) ++ List.replicate (4 - (lg_sl ([.ref h0, .int (nI ci), .int (nI uu)])).length) Slot.unset).toArray = ls at hl ⊢
  have hl : lv_has ls 4 [(0, .ref h0), (1, .int (nI ci)), (2, .int (nI uu))] := hl
  have J5 : ∀ (z5 : Nat) (mx : Nat) (ls : Array Slot), 12 * ci + mb ci - mx < z5 → (mx ≤ 12 * ci + mb ci) → lv_has ls 4 [(0, .ref h0), (1, .int (nI ci)), (2, .int (nI uu)), (3, .int (nI mx))] → W p l e (headSpec zwX7_fieldIn { frames := 0, cells := 0, slots := 0, locals := 0 }).room s m (([.ref h0, .int (nI ci), .int (nI uu)] : List Value).toArray) below meth c s.heap [] 0 0 (MQ below (vp_Si (fun r => (zM r (fun k => k < 960)))) (([.ref h0, .int (nI ci), .int (nI uu)] : List Value).toArray) s 0 0 (fun _ => False)) (F0 m 5 ls []) := by
    intro z5
    induction z5 with
    | zero => intro mx ls h9; exact absurd h9 (Nat.not_lt_zero _)
    | succ z5 ih5 =>
      intro mx ls hm5 i5_0 hl
      refine lv_iload_n hx hb dX7_fieldIn_5 rfl (lv_at hl 3 rfl) ?_
      refine lv_bipush (v := 12) hx hb dX7_fieldIn_6 (by decide) ?_
      refine lv_iload_n hx hb dX7_fieldIn_8 rfl (lv_at hl 1 rfl) ?_
      refine lv_imul hx hb dX7_fieldIn_9 ?_
      refine lv_topi (fun x1 ex1 => ?_)
      obtain rfl : x1 = nI (12 * ci) := by rw [ex1]; exact pk_mul (12) (ci)
      refine lv_aload_n hx hb dX7_fieldIn_10 rfl (lv_at hl 0 rfl) ?_
      refine va_get (D := (dC, dI)) (ci := 6) (v := .ref (r 10)) (C := RX7) (T := TX7) (N := 46) hx hb hts hiX7 hown hK hP 0 rfl rfl 10 (by decide) (hts (.fieldLink RX7 35 "LinkModelsModel" "members" "[I") (by decide +kernel)) (fun _ h9 => h9) rfl dX7_fieldIn_11 ?_
      refine lv_iload_n hx hb dX7_fieldIn_14 rfl (lv_at hl 1 rfl) ?_
      refine va_iald hx hb hK hP 8 0 rfl rfl (vp_in_nI (show ci < 80 by omega) (by decide)) dX7_fieldIn_15 ?_
      refine lv_topi (fun x2 ex2 => ?_)
      obtain rfl : x2 = nI (mb ci) := by rw [ex2, nI_clamp (show ci < 2 ^ 31 by omega)]
      have hqx2 := hmb ci
      refine lv_iadd hx hb dX7_fieldIn_16 ?_
      refine lv_topi (fun x3 ex3 => ?_)
      obtain rfl : x3 = nI ((12 * ci) + (mb ci)) := by rw [ex3]; exact nI_add (12 * ci) (mb ci)
      refine lv_icmp_ge (tgt := 53) hx hb dX7_fieldIn_17 (by decide) (fun cp17 => ?_) (fun cp17 => ?_)
      · have qcp17 : ((12 * ci) + (mb ci)) ≤ mx := (nI_leI (a := (12 * ci) + (mb ci)) (b := mx) (by omega) (by omega)).mp cp17
        refine lv_iconst (v := (-1)) hx hb dX7_fieldIn_53 (by decide) ?_
        exact W.iret (v := (-1 : Int32)) hx hb hr (fun t ht hW => ⟨(-1 : Int32), rfl, (Or.inl rfl), ht⟩) (fun _ h => by cases h) dX7_fieldIn_54
      · have qcp17 : ¬ ((12 * ci) + (mb ci)) ≤ mx := fun h9 => cp17 ((nI_leI (a := (12 * ci) + (mb ci)) (b := mx) (by omega) (by omega)).mpr h9)
        refine lv_aload_n hx hb dX7_fieldIn_20 rfl (lv_at hl 0 rfl) ?_
        refine va_get (D := (dC, dI)) (ci := 6) (v := .ref (r 15)) (C := RX7) (T := TX7) (N := 46) hx hb hts hiX7 hown hK hP 0 rfl rfl 15 (by decide) (hts (.fieldLink RX7 51 "LinkModelsModel" "isMethod" "[Z") (by decide +kernel)) (fun _ h9 => h9) rfl dX7_fieldIn_21 ?_
        refine lv_iload_n hx hb dX7_fieldIn_24 rfl (lv_at hl 3 rfl) ?_
        refine va_zald hx hb hK hP 13 2 rfl rfl (vp_in_nI (show mx < 960 by omega) (by decide)) dX7_fieldIn_25 ?_
        refine lv_topi (fun x4 ex4 => ?_)
        obtain rfl : x4 = a15 mx := by rw [ex4, nI_clamp (show mx < 2 ^ 31 by omega)]
        refine lv_if_ne (tgt := 47) hx hb dX7_fieldIn_26 (by decide) (fun cp26 => ?_) (fun cp26 => ?_)
        · obtain ⟨x5, ex5⟩ : ∃ y : Int32, y = (nI mx) + 1 := ⟨_, rfl⟩
          refine lv_iinc (v := x5) (lv' := [(3, .int x5), (0, .ref h0), (1, .int (nI ci)), (2, .int (nI uu))]) hx hb dX7_fieldIn_47 hl (k := 3) rfl (by rw [ex5]; rfl) (by decide) rfl (fun ls hl => ?_)
          obtain rfl : x5 = nI (mx + 1) := by rw [ex5]; exact nI_add (mx) 1
          refine lv_goto (tgt := 5) hx hb dX7_fieldIn_50 (by decide) ?_
          exact ih5 (mx + 1) ls (by omega) (by first | omega | assumption | trivial) (lv_sub hl [1, 2, 3, 0] rfl)
        · refine lv_aload_n hx hb dX7_fieldIn_29 rfl (lv_at hl 0 rfl) ?_
          refine va_get (D := (dC, dI)) (ci := 6) (v := .ref (r 13)) (C := RX7) (T := TX7) (N := 46) hx hb hts hiX7 hown hK hP 0 rfl rfl 13 (by decide) (hts (.fieldLink RX7 44 "LinkModelsModel" "word" "[J") (by decide +kernel)) (fun _ h9 => h9) rfl dX7_fieldIn_30 ?_
          refine lv_iload_n hx hb dX7_fieldIn_33 rfl (lv_at hl 3 rfl) ?_
          refine va_lald hx hb hK hP 11 1 rfl rfl (vp_in_nI (show mx < 960 by omega) (by decide)) dX7_fieldIn_34 ?_
          refine lv_topl (fun x6 ex6 => ?_)
          refine lv_aload_n hx hb dX7_fieldIn_35 rfl (lv_at hl 0 rfl) ?_
          refine va_get (D := (dC, dI)) (ci := 6) (v := .ref (r 33)) (C := RX7) (T := TX7) (N := 46) hx hb hts hiX7 hown hK hP 0 rfl rfl 33 (by decide) (hts (.fieldLink RX7 82 "LinkModelsModel" "useWord" "[J") (by decide +kernel)) (fun _ h9 => h9) rfl dX7_fieldIn_36 ?_
          refine lv_iload_n hx hb dX7_fieldIn_39 rfl (lv_at hl 2 rfl) ?_
          refine va_lald hx hb hK hP 23 1 rfl rfl (vp_in_nI (show uu < 40 by omega) (by decide)) dX7_fieldIn_40 ?_
          refine lv_topl (fun x7 ex7 => ?_)
          refine W.lcmp hx hb dX7_fieldIn_41 ?_
          refine lv_if_ne (tgt := 47) hx hb dX7_fieldIn_42 (by decide) (fun cp42 => ?_) (fun cp42 => ?_)
          · obtain ⟨x8, ex8⟩ : ∃ y : Int32, y = (nI mx) + 1 := ⟨_, rfl⟩
            refine lv_iinc (v := x8) (lv' := [(3, .int x8), (0, .ref h0), (1, .int (nI ci)), (2, .int (nI uu))]) hx hb dX7_fieldIn_47 hl (k := 3) rfl (by rw [ex8]; rfl) (by decide) rfl (fun ls hl => ?_)
            obtain rfl : x8 = nI (mx + 1) := by rw [ex8]; exact nI_add (mx) 1
            refine lv_goto (tgt := 5) hx hb dX7_fieldIn_50 (by decide) ?_
            exact ih5 (mx + 1) ls (by omega) (by first | omega | assumption | trivial) (lv_sub hl [1, 2, 3, 0] rfl)
          · refine lv_iload_n hx hb dX7_fieldIn_45 rfl (lv_at hl 3 rfl) ?_
            exact W.iret (v := (nI mx)) hx hb hr (fun t ht hW => ⟨(nI mx), rfl, (zM.mk (by omega) (by first | trivial | omega | assumption | (refine ⟨?_, ?_⟩ <;> first | trivial | omega | assumption))), ht⟩) (fun _ h => by cases h) dX7_fieldIn_46
  refine lv_bipush (v := 12) hx hb dX7_fieldIn_0 (by decide) ?_
  refine lv_iload_n hx hb dX7_fieldIn_2 rfl (lv_at hl 1 rfl) ?_
  refine lv_imul hx hb dX7_fieldIn_3 ?_
  refine lv_topi (fun x9 ex9 => ?_)
  obtain rfl : x9 = nI (12 * ci) := by rw [ex9]; exact pk_mul (12) (ci)
  refine lv_istore_n (lv' := [(3, .int (nI (12 * ci))), (0, .ref h0), (1, .int (nI ci)), (2, .int (nI uu))]) hx hb dX7_fieldIn_4 rfl hl (by decide) rfl (fun ls hl => ?_)
  exact J5 _ (12 * ci) ls (Nat.lt_succ_self _) (by first | omega | assumption | trivial) (lv_sub hl [1, 2, 3, 0] rfl)
theorem dX7_methodIn_0 : decode cX7_methodIn 0 = .ok (.bipush 12, 2) := by decide +kernel
theorem dX7_methodIn_2 : decode cX7_methodIn 2 = .ok (.iload_n 1, 1) := by decide +kernel
theorem dX7_methodIn_3 : decode cX7_methodIn 3 = .ok (.imul, 1) := by decide +kernel
theorem dX7_methodIn_4 : decode cX7_methodIn 4 = .ok (.istore 4, 2) := by decide +kernel
theorem dX7_methodIn_6 : decode cX7_methodIn 6 = .ok (.iload 4, 2) := by decide +kernel
theorem dX7_methodIn_8 : decode cX7_methodIn 8 = .ok (.bipush 12, 2) := by decide +kernel
theorem dX7_methodIn_10 : decode cX7_methodIn 10 = .ok (.iload_n 1, 1) := by decide +kernel
theorem dX7_methodIn_11 : decode cX7_methodIn 11 = .ok (.imul, 1) := by decide +kernel
theorem dX7_methodIn_12 : decode cX7_methodIn 12 = .ok (.aload_n 0, 1) := by decide +kernel
theorem dX7_methodIn_13 : decode cX7_methodIn 13 = .ok (.getfield 35, 3) := by decide +kernel
theorem dX7_methodIn_16 : decode cX7_methodIn 16 = .ok (.iload_n 1, 1) := by decide +kernel
theorem dX7_methodIn_17 : decode cX7_methodIn 17 = .ok (.iaload, 1) := by decide +kernel
theorem dX7_methodIn_18 : decode cX7_methodIn 18 = .ok (.iadd, 1) := by decide +kernel
theorem dX7_methodIn_19 : decode cX7_methodIn 19 = .ok (.if_icmp .ge 137, 3) := by decide +kernel
theorem dX7_methodIn_22 : decode cX7_methodIn 22 = .ok (.aload_n 0, 1) := by decide +kernel
theorem dX7_methodIn_23 : decode cX7_methodIn 23 = .ok (.getfield 61, 3) := by decide +kernel
theorem dX7_methodIn_26 : decode cX7_methodIn 26 = .ok (.iload 4, 2) := by decide +kernel
theorem dX7_methodIn_28 : decode cX7_methodIn 28 = .ok (.iaload, 1) := by decide +kernel
theorem dX7_methodIn_29 : decode cX7_methodIn 29 = .ok (.aload_n 0, 1) := by decide +kernel
theorem dX7_methodIn_30 : decode cX7_methodIn 30 = .ok (.getfield 85, 3) := by decide +kernel
theorem dX7_methodIn_33 : decode cX7_methodIn 33 = .ok (.iload_n 2, 1) := by decide +kernel
theorem dX7_methodIn_34 : decode cX7_methodIn 34 = .ok (.iaload, 1) := by decide +kernel
theorem dX7_methodIn_35 : decode cX7_methodIn 35 = .ok (.if_icmp .ne 61, 3) := by decide +kernel
theorem dX7_methodIn_38 : decode cX7_methodIn 38 = .ok (.aload_n 0, 1) := by decide +kernel
theorem dX7_methodIn_39 : decode cX7_methodIn 39 = .ok (.getfield 61, 3) := by decide +kernel
theorem dX7_methodIn_42 : decode cX7_methodIn 42 = .ok (.iload 4, 2) := by decide +kernel
theorem dX7_methodIn_44 : decode cX7_methodIn 44 = .ok (.iaload, 1) := by decide +kernel
theorem dX7_methodIn_45 : decode cX7_methodIn 45 = .ok (.iconst 1, 1) := by decide +kernel
theorem dX7_methodIn_46 : decode cX7_methodIn 46 = .ok (.if_icmp .lt 19, 3) := by decide +kernel
theorem dX7_methodIn_49 : decode cX7_methodIn 49 = .ok (.aload_n 0, 1) := by decide +kernel
theorem dX7_methodIn_50 : decode cX7_methodIn 50 = .ok (.getfield 64, 3) := by decide +kernel
theorem dX7_methodIn_53 : decode cX7_methodIn 53 = .ok (.iload 4, 2) := by decide +kernel
theorem dX7_methodIn_55 : decode cX7_methodIn 55 = .ok (.iaload, 1) := by decide +kernel
theorem dX7_methodIn_56 : decode cX7_methodIn 56 = .ok (.aload_n 0, 1) := by decide +kernel
theorem dX7_methodIn_57 : decode cX7_methodIn 57 = .ok (.getfield 88, 3) := by decide +kernel
theorem dX7_methodIn_60 : decode cX7_methodIn 60 = .ok (.iload_n 2, 1) := by decide +kernel
theorem dX7_methodIn_61 : decode cX7_methodIn 61 = .ok (.iaload, 1) := by decide +kernel
theorem dX7_methodIn_62 : decode cX7_methodIn 62 = .ok (.if_icmp .ne 34, 3) := by decide +kernel
theorem dX7_methodIn_65 : decode cX7_methodIn 65 = .ok (.aload_n 0, 1) := by decide +kernel
theorem dX7_methodIn_66 : decode cX7_methodIn 66 = .ok (.getfield 61, 3) := by decide +kernel
theorem dX7_methodIn_69 : decode cX7_methodIn 69 = .ok (.iload 4, 2) := by decide +kernel
theorem dX7_methodIn_71 : decode cX7_methodIn 71 = .ok (.iaload, 1) := by decide +kernel
theorem dX7_methodIn_72 : decode cX7_methodIn 72 = .ok (.iconst 2, 1) := by decide +kernel
theorem dX7_methodIn_73 : decode cX7_methodIn 73 = .ok (.if_icmp .lt 19, 3) := by decide +kernel
theorem dX7_methodIn_76 : decode cX7_methodIn 76 = .ok (.aload_n 0, 1) := by decide +kernel
theorem dX7_methodIn_77 : decode cX7_methodIn 77 = .ok (.getfield 67, 3) := by decide +kernel
theorem dX7_methodIn_80 : decode cX7_methodIn 80 = .ok (.iload 4, 2) := by decide +kernel
theorem dX7_methodIn_82 : decode cX7_methodIn 82 = .ok (.iaload, 1) := by decide +kernel
theorem dX7_methodIn_83 : decode cX7_methodIn 83 = .ok (.aload_n 0, 1) := by decide +kernel
theorem dX7_methodIn_84 : decode cX7_methodIn 84 = .ok (.getfield 91, 3) := by decide +kernel
theorem dX7_methodIn_87 : decode cX7_methodIn 87 = .ok (.iload_n 2, 1) := by decide +kernel
theorem dX7_methodIn_88 : decode cX7_methodIn 88 = .ok (.iaload, 1) := by decide +kernel
theorem dX7_methodIn_89 : decode cX7_methodIn 89 = .ok (.if_icmp .ne 7, 3) := by decide +kernel
theorem dX7_methodIn_92 : decode cX7_methodIn 92 = .ok (.iconst 1, 1) := by decide +kernel
theorem dX7_methodIn_93 : decode cX7_methodIn 93 = .ok (.goto 4, 3) := by decide +kernel
theorem dX7_methodIn_96 : decode cX7_methodIn 96 = .ok (.iconst 0, 1) := by decide +kernel
theorem dX7_methodIn_97 : decode cX7_methodIn 97 = .ok (.istore 5, 2) := by decide +kernel
theorem dX7_methodIn_99 : decode cX7_methodIn 99 = .ok (.aload_n 0, 1) := by decide +kernel
theorem dX7_methodIn_100 : decode cX7_methodIn 100 = .ok (.getfield 51, 3) := by decide +kernel
theorem dX7_methodIn_103 : decode cX7_methodIn 103 = .ok (.iload 4, 2) := by decide +kernel
theorem dX7_methodIn_105 : decode cX7_methodIn 105 = .ok (.baload, 1) := by decide +kernel
theorem dX7_methodIn_106 : decode cX7_methodIn 106 = .ok (.ifCond .eq 44, 3) := by decide +kernel
theorem dX7_methodIn_109 : decode cX7_methodIn 109 = .ok (.aload_n 0, 1) := by decide +kernel
theorem dX7_methodIn_110 : decode cX7_methodIn 110 = .ok (.getfield 44, 3) := by decide +kernel
theorem dX7_methodIn_113 : decode cX7_methodIn 113 = .ok (.iload 4, 2) := by decide +kernel
theorem dX7_methodIn_115 : decode cX7_methodIn 115 = .ok (.laload, 1) := by decide +kernel
theorem dX7_methodIn_116 : decode cX7_methodIn 116 = .ok (.aload_n 0, 1) := by decide +kernel
theorem dX7_methodIn_117 : decode cX7_methodIn 117 = .ok (.getfield 82, 3) := by decide +kernel
theorem dX7_methodIn_120 : decode cX7_methodIn 120 = .ok (.iload_n 2, 1) := by decide +kernel
theorem dX7_methodIn_121 : decode cX7_methodIn 121 = .ok (.laload, 1) := by decide +kernel
theorem dX7_methodIn_122 : decode cX7_methodIn 122 = .ok (.lcmp, 1) := by decide +kernel
theorem dX7_methodIn_123 : decode cX7_methodIn 123 = .ok (.ifCond .ne 27, 3) := by decide +kernel
theorem dX7_methodIn_126 : decode cX7_methodIn 126 = .ok (.iload 5, 2) := by decide +kernel
theorem dX7_methodIn_128 : decode cX7_methodIn 128 = .ok (.ifCond .eq 22, 3) := by decide +kernel
theorem dX7_methodIn_131 : decode cX7_methodIn 131 = .ok (.iload_n 3, 1) := by decide +kernel
theorem dX7_methodIn_132 : decode cX7_methodIn 132 = .ok (.ifCond .eq 15, 3) := by decide +kernel
theorem dX7_methodIn_135 : decode cX7_methodIn 135 = .ok (.aload_n 0, 1) := by decide +kernel
theorem dX7_methodIn_136 : decode cX7_methodIn 136 = .ok (.getfield 48, 3) := by decide +kernel
theorem dX7_methodIn_139 : decode cX7_methodIn 139 = .ok (.iload 4, 2) := by decide +kernel
theorem dX7_methodIn_141 : decode cX7_methodIn 141 = .ok (.iaload, 1) := by decide +kernel
theorem dX7_methodIn_142 : decode cX7_methodIn 142 = .ok (.iconst 3, 1) := by decide +kernel
theorem dX7_methodIn_143 : decode cX7_methodIn 143 = .ok (.iand, 1) := by decide +kernel
theorem dX7_methodIn_144 : decode cX7_methodIn 144 = .ok (.ifCond .ne 6, 3) := by decide +kernel
theorem dX7_methodIn_147 : decode cX7_methodIn 147 = .ok (.iload 4, 2) := by decide +kernel
theorem dX7_methodIn_149 : decode cX7_methodIn 149 = .ok (.ireturn, 1) := by decide +kernel
theorem dX7_methodIn_150 : decode cX7_methodIn 150 = .ok (.iinc 4 1, 3) := by decide +kernel
theorem dX7_methodIn_153 : decode cX7_methodIn 153 = .ok (.goto (-147), 3) := by decide +kernel
theorem dX7_methodIn_156 : decode cX7_methodIn 156 = .ok (.iconst (-1), 1) := by decide +kernel
theorem dX7_methodIn_157 : decode cX7_methodIn 157 = .ok (.ireturn, 1) := by decide +kernel
def zwX7_methodIn : List Cond := .code yX7_methodIn cX7_methodIn 6 (some .int) :: ([.fieldLink RX7 51 "LinkModelsModel" "isMethod" "[Z", .fieldLink RX7 44 "LinkModelsModel" "word" "[J", .fieldLink RX7 82 "LinkModelsModel" "useWord" "[J", .fieldLink RX7 48 "LinkModelsModel" "marks" "[I", .fieldLink RX7 35 "LinkModelsModel" "members" "[I", .fieldLink RX7 61 "LinkModelsModel" "many" "[I", .fieldLink RX7 85 "LinkModelsModel" "useMany" "[I", .fieldLink RX7 67 "LinkModelsModel" "second" "[I", .fieldLink RX7 91 "LinkModelsModel" "useSecond" "[I", .fieldLink RX7 64 "LinkModelsModel" "first" "[I", .fieldLink RX7 88 "LinkModelsModel" "useFirst" "[I"] ++ wsX70)
set_option maxHeartbeats 4000000 in
set_option maxRecDepth 100000 in
theorem kX7_methodIn (l : Launch) (dC : Nat → ClassId) (dI : Nat → Nat → Nat) (h0 : Nat) (r : Nat → Nat) (cI : ClassId) (cJ : ClassId) (cZ : ClassId) (v0 : Int32) (a1 : Nat → Int32) (tp : Nat) (bs : Nat) (cl : Nat → Nat) (a5 : Nat → Int32) (a6 : Nat → Int32) (a7 : Nat → Int32) (fc : Nat → Nat) (a9 : Nat → Int32) (mb : Nat → Nat) (a11 : Nat → Int32) (a12 : Nat → Int32) (a13 : Nat → Int64) (a14 : Nat → Int32) (a15 : Nat → Int32) (a16 : Nat → Int32) (a17 : Nat → Int32) (a18 : Nat → Int32) (a19 : Nat → Int32) (a20 : Nat → Int32) (az : Nat) (v22 : Int32) (v23 : Int32) (v24 : Int64) (v25 : Int32) (v26 : Int32) (bb : Nat) (ct : Nat → Nat) (us : Nat) (a30 : Nat → Int32) (a31 : Nat → Int32) (a32 : Nat → Int32) (a33 : Nat → Int64) (a34 : Nat → Int32) (a35 : Nat → Int32) (a36 : Nat → Int32) (a37 : Nat → Int32) (pil : Nat → Nat) (rwv : Nat → Nat) (rl : Nat) (v41 : Int32) (v42 : Int32) (v43 : Int32) (v44 : Int32) (v45 : Int32) (hI : rWI tp bs cl fc mb az bb ct us pil rwv rl) (ci : Nat) (uu : Nat) (pq : Int32) (hp0 : ci < 80) (hp1 : uu < 40) (sz : Nat) : Met l yX7_methodIn zwX7_methodIn ({ frames := 0, cells := 0, slots := 0, locals := 0 }) (zPm dC dI [.ref h0, .int (nI ci), .int (nI uu), .int pq] sz (rW h0 r cI cJ cZ v0 a1 (nI tp) (nI bs) (fun j => nI (cl j)) a5 a6 a7 (fun j => nI (fc j)) a9 (fun j => nI (mb j)) a11 a12 a13 a14 a15 a16 a17 a18 a19 a20 (nI az) v22 v23 v24 v25 v26 (nI bb) (fun j => nI (ct j)) (nI us) a30 a31 a32 a33 a34 a35 a36 a37 (fun j => nI (pil j)) (fun j => nI (rwv j)) (nI rl) v41 v42 v43 v44 v45) [(cI, .int), (cJ, .long), (cZ, .boolean)]) (vp_Si (fun r => (zM r (fun k => k < 960)))) 0 0 (fun _ => False) := by
  refine Met.ofW (cc := cX7_methodIn) (maxL := 6) (ret := (some .int)) (by decide) rfl ?_
  intro p e s m args below meth c s₁ B hml hv
  obtain ⟨rfl, hsz, hP, hK, hD0, hL0⟩ := hv
  have hx := B.exec
  have hb := B.bytes
  have hr := B.returns
  have hts := atoms_spec (ws := zwX7_methodIn) B.pre
  have hown : s.vm.findClass RX7 = some m.cls := findClass_of_methodNamed B.named
  have hiX7 : ∀ w ∈ wsX70, w ∈ zwX7_methodIn := (fun _ h => List.mem_cons_of_mem _ (List.mem_append_right _ h))
  obtain ⟨htp, hbs, hus, hcl, hfc, hmb, hct, hpil, hrwv⟩ := hI
  subst hsz
  have hD := hD0.self (sz := s.heap.size)
  generalize hAe : va_A (rW h0 r cI cJ cZ v0 a1 (nI tp) (nI bs) (fun j => nI (cl j)) a5 a6 a7 (fun j => nI (fc j)) a9 (fun j => nI (mb j)) a11 a12 a13 a14 a15 a16 a17 a18 a19 a20 (nI az) v22 v23 v24 v25 v26 (nI bb) (fun j => nI (ct j)) (nI us) a30 a31 a32 a33 a34 a35 a36 a37 (fun j => nI (pil j)) (fun j => nI (rwv j)) (nI rl) v41 v42 v43 v44 v45) s.heap.size = A at hD hL0
  have hA : ∀ q : Nat, s.heap.size ≤ q → A q := fun q h => by rw [← hAe]; exact Or.inr h
  have hS : va_S A s.heap s.heap [] := va_S.rf
  have hL := hL0
  have hmbc := hmb ci
  have hl := lv_entry ([.ref h0, .int (nI ci), .int (nI uu), .int pq]) (n := 6) (Nat.le_of_ble_eq_true rfl)
  rw [lg_entry_eq]
  generalize (lg_sl ([.ref h0, .int (nI ci), .int (nI uu), .int pq]) ++ List.replicate (6 - (lg_sl ([.ref h0, .int (nI ci), .int (nI uu), .int pq])).length) Slot.unset).toArray = ls at hl ⊢
  have hl : lv_has ls 6 [(0, .ref h0), (1, .int (nI ci)), (2, .int (nI uu)), (3, .int pq)] := hl
  have J6 : ∀ (z6 : Nat) (mx : Nat) (ls : Array Slot), 12 * ci + mb ci - mx < z6 → (mx ≤ 12 * ci + mb ci) → lv_has ls 6 [(0, .ref h0), (1, .int (nI ci)), (2, .int (nI uu)), (3, .int pq), (4, .int (nI mx))] → W p l e (headSpec zwX7_methodIn { frames := 0, cells := 0, slots := 0, locals := 0 }).room s m (([.ref h0, .int (nI ci), .int (nI uu), .int pq] : List Value).toArray) below meth c s.heap [] 0 0 (MQ below (vp_Si (fun r => (zM r (fun k => k < 960)))) (([.ref h0, .int (nI ci), .int (nI uu), .int pq] : List Value).toArray) s 0 0 (fun _ => False)) (F0 m 6 ls []) := by
    intro z6
    induction z6 with
    | zero => intro mx ls h9; exact absurd h9 (Nat.not_lt_zero _)
    | succ z6 ih6 =>
      intro mx ls hm6 i6_0 hl
      have J97 : ∀ (ty : Int32) (ls : Array Slot), (mx < 12 * ci + mb ci) → lv_has ls 6 [(0, .ref h0), (1, .int (nI ci)), (2, .int (nI uu)), (3, .int pq), (4, .int (nI mx))] → W p l e (headSpec zwX7_methodIn { frames := 0, cells := 0, slots := 0, locals := 0 }).room s m (([.ref h0, .int (nI ci), .int (nI uu), .int pq] : List Value).toArray) below meth c s.heap [] 0 0 (MQ below (vp_Si (fun r => (zM r (fun k => k < 960)))) (([.ref h0, .int (nI ci), .int (nI uu), .int pq] : List Value).toArray) s 0 0 (fun _ => False)) (F0 m 97 ls [.int ty]) := by
        intro ty ls i97_0 hl
        refine lv_istore (lv' := [(5, .int ty), (0, .ref h0), (1, .int (nI ci)), (2, .int (nI uu)), (3, .int pq), (4, .int (nI mx))]) hx hb dX7_methodIn_97 hl (by decide) rfl (fun ls hl => ?_)
        refine lv_aload_n hx hb dX7_methodIn_99 rfl (lv_at hl 1 rfl) ?_
        refine va_get (D := (dC, dI)) (ci := 6) (v := .ref (r 15)) (C := RX7) (T := TX7) (N := 46) hx hb hts hiX7 hown hK hP 0 rfl rfl 15 (by decide) (hts (.fieldLink RX7 51 "LinkModelsModel" "isMethod" "[Z") (by decide +kernel)) (fun _ h9 => h9) rfl dX7_methodIn_100 ?_
        refine lv_iload hx hb dX7_methodIn_103 (lv_at hl 5 rfl) ?_
        refine va_zald hx hb hK hP 13 2 rfl rfl (vp_in_nI (show mx < 960 by omega) (by decide)) dX7_methodIn_105 ?_
        refine lv_topi (fun x1 ex1 => ?_)
        obtain rfl : x1 = a15 mx := by rw [ex1, nI_clamp (show mx < 2 ^ 31 by omega)]
        refine lv_if_eq (tgt := 150) hx hb dX7_methodIn_106 (by decide) (fun cp106 => ?_) (fun cp106 => ?_)
        · obtain ⟨x2, ex2⟩ : ∃ y : Int32, y = (nI mx) + 1 := ⟨_, rfl⟩
          refine lv_iinc (v := x2) (lv' := [(4, .int x2), (5, .int ty), (0, .ref h0), (1, .int (nI ci)), (2, .int (nI uu)), (3, .int pq)]) hx hb dX7_methodIn_150 hl (k := 5) rfl (by rw [ex2]; rfl) (by decide) rfl (fun ls hl => ?_)
          obtain rfl : x2 = nI (mx + 1) := by rw [ex2]; exact nI_add (mx) 1
          refine lv_goto (tgt := 6) hx hb dX7_methodIn_153 (by decide) ?_
          exact ih6 (mx + 1) ls (by omega) (by first | omega | assumption | trivial) (lv_sub hl [2, 3, 4, 5, 0] rfl)
        · refine lv_aload_n hx hb dX7_methodIn_109 rfl (lv_at hl 1 rfl) ?_
          refine va_get (D := (dC, dI)) (ci := 6) (v := .ref (r 13)) (C := RX7) (T := TX7) (N := 46) hx hb hts hiX7 hown hK hP 0 rfl rfl 13 (by decide) (hts (.fieldLink RX7 44 "LinkModelsModel" "word" "[J") (by decide +kernel)) (fun _ h9 => h9) rfl dX7_methodIn_110 ?_
          refine lv_iload hx hb dX7_methodIn_113 (lv_at hl 5 rfl) ?_
          refine va_lald hx hb hK hP 11 1 rfl rfl (vp_in_nI (show mx < 960 by omega) (by decide)) dX7_methodIn_115 ?_
          refine lv_topl (fun x3 ex3 => ?_)
          refine lv_aload_n hx hb dX7_methodIn_116 rfl (lv_at hl 1 rfl) ?_
          refine va_get (D := (dC, dI)) (ci := 6) (v := .ref (r 33)) (C := RX7) (T := TX7) (N := 46) hx hb hts hiX7 hown hK hP 0 rfl rfl 33 (by decide) (hts (.fieldLink RX7 82 "LinkModelsModel" "useWord" "[J") (by decide +kernel)) (fun _ h9 => h9) rfl dX7_methodIn_117 ?_
          refine lv_iload_n hx hb dX7_methodIn_120 rfl (lv_at hl 3 rfl) ?_
          refine va_lald hx hb hK hP 23 1 rfl rfl (vp_in_nI (show uu < 40 by omega) (by decide)) dX7_methodIn_121 ?_
          refine lv_topl (fun x4 ex4 => ?_)
          refine W.lcmp hx hb dX7_methodIn_122 ?_
          refine lv_if_ne (tgt := 150) hx hb dX7_methodIn_123 (by decide) (fun cp123 => ?_) (fun cp123 => ?_)
          · obtain ⟨x5, ex5⟩ : ∃ y : Int32, y = (nI mx) + 1 := ⟨_, rfl⟩
            refine lv_iinc (v := x5) (lv' := [(4, .int x5), (5, .int ty), (0, .ref h0), (1, .int (nI ci)), (2, .int (nI uu)), (3, .int pq)]) hx hb dX7_methodIn_150 hl (k := 5) rfl (by rw [ex5]; rfl) (by decide) rfl (fun ls hl => ?_)
            obtain rfl : x5 = nI (mx + 1) := by rw [ex5]; exact nI_add (mx) 1
            refine lv_goto (tgt := 6) hx hb dX7_methodIn_153 (by decide) ?_
            exact ih6 (mx + 1) ls (by omega) (by first | omega | assumption | trivial) (lv_sub hl [2, 3, 4, 5, 0] rfl)
          · refine lv_iload hx hb dX7_methodIn_126 (lv_at hl 0 rfl) ?_
            refine lv_if_eq (tgt := 150) hx hb dX7_methodIn_128 (by decide) (fun cp128 => ?_) (fun cp128 => ?_)
            · obtain ⟨x6, ex6⟩ : ∃ y : Int32, y = (nI mx) + 1 := ⟨_, rfl⟩
              refine lv_iinc (v := x6) (lv' := [(4, .int x6), (5, .int ty), (0, .ref h0), (1, .int (nI ci)), (2, .int (nI uu)), (3, .int pq)]) hx hb dX7_methodIn_150 hl (k := 5) rfl (by rw [ex6]; rfl) (by decide) rfl (fun ls hl => ?_)
              obtain rfl : x6 = nI (mx + 1) := by rw [ex6]; exact nI_add (mx) 1
              refine lv_goto (tgt := 6) hx hb dX7_methodIn_153 (by decide) ?_
              exact ih6 (mx + 1) ls (by omega) (by first | omega | assumption | trivial) (lv_sub hl [2, 3, 4, 5, 0] rfl)
            · refine lv_iload_n hx hb dX7_methodIn_131 rfl (lv_at hl 4 rfl) ?_
              refine lv_if_eq (tgt := 147) hx hb dX7_methodIn_132 (by decide) (fun cp132 => ?_) (fun cp132 => ?_)
              · refine lv_iload hx hb dX7_methodIn_147 (lv_at hl 5 rfl) ?_
                exact W.iret (v := (nI mx)) hx hb hr (fun t ht hW => ⟨(nI mx), rfl, (zM.mk (by omega) (by first | trivial | omega | assumption | (refine ⟨?_, ?_⟩ <;> first | trivial | omega | assumption))), ht⟩) (fun _ h => by cases h) dX7_methodIn_149
              · refine lv_aload_n hx hb dX7_methodIn_135 rfl (lv_at hl 1 rfl) ?_
                refine va_get (D := (dC, dI)) (ci := 6) (v := .ref (r 14)) (C := RX7) (T := TX7) (N := 46) hx hb hts hiX7 hown hK hP 0 rfl rfl 14 (by decide) (hts (.fieldLink RX7 48 "LinkModelsModel" "marks" "[I") (by decide +kernel)) (fun _ h9 => h9) rfl dX7_methodIn_136 ?_
                refine lv_iload hx hb dX7_methodIn_139 (lv_at hl 5 rfl) ?_
                refine va_iald hx hb hK hP 12 0 rfl rfl (vp_in_nI (show mx < 960 by omega) (by decide)) dX7_methodIn_141 ?_
                refine lv_topi (fun x7 ex7 => ?_)
                obtain rfl : x7 = a14 mx := by rw [ex7, nI_clamp (show mx < 2 ^ 31 by omega)]
                refine lv_iconst (v := 3) hx hb dX7_methodIn_142 (by decide) ?_
                refine lv_iand hx hb dX7_methodIn_143 ?_
                refine lv_topi (fun x8 ex8 => ?_)
                refine lv_if_ne (tgt := 150) hx hb dX7_methodIn_144 (by decide) (fun cp144 => ?_) (fun cp144 => ?_)
                · obtain ⟨x9, ex9⟩ : ∃ y : Int32, y = (nI mx) + 1 := ⟨_, rfl⟩
                  refine lv_iinc (v := x9) (lv' := [(4, .int x9), (5, .int ty), (0, .ref h0), (1, .int (nI ci)), (2, .int (nI uu)), (3, .int pq)]) hx hb dX7_methodIn_150 hl (k := 5) rfl (by rw [ex9]; rfl) (by decide) rfl (fun ls hl => ?_)
                  obtain rfl : x9 = nI (mx + 1) := by rw [ex9]; exact nI_add (mx) 1
                  refine lv_goto (tgt := 6) hx hb dX7_methodIn_153 (by decide) ?_
                  exact ih6 (mx + 1) ls (by omega) (by first | omega | assumption | trivial) (lv_sub hl [2, 3, 4, 5, 0] rfl)
                · refine lv_iload hx hb dX7_methodIn_147 (lv_at hl 5 rfl) ?_
                  exact W.iret (v := (nI mx)) hx hb hr (fun t ht hW => ⟨(nI mx), rfl, (zM.mk (by omega) (by first | trivial | omega | assumption | (refine ⟨?_, ?_⟩ <;> first | trivial | omega | assumption))), ht⟩) (fun _ h => by cases h) dX7_methodIn_149
      refine lv_iload hx hb dX7_methodIn_6 (lv_at hl 4 rfl) ?_
      refine lv_bipush (v := 12) hx hb dX7_methodIn_8 (by decide) ?_
      refine lv_iload_n hx hb dX7_methodIn_10 rfl (lv_at hl 1 rfl) ?_
      refine lv_imul hx hb dX7_methodIn_11 ?_
      refine lv_topi (fun x10 ex10 => ?_)
      obtain rfl : x10 = nI (12 * ci) := by rw [ex10]; exact pk_mul (12) (ci)
      refine lv_aload_n hx hb dX7_methodIn_12 rfl (lv_at hl 0 rfl) ?_
      refine va_get (D := (dC, dI)) (ci := 6) (v := .ref (r 10)) (C := RX7) (T := TX7) (N := 46) hx hb hts hiX7 hown hK hP 0 rfl rfl 10 (by decide) (hts (.fieldLink RX7 35 "LinkModelsModel" "members" "[I") (by decide +kernel)) (fun _ h9 => h9) rfl dX7_methodIn_13 ?_
      refine lv_iload_n hx hb dX7_methodIn_16 rfl (lv_at hl 1 rfl) ?_
      refine va_iald hx hb hK hP 8 0 rfl rfl (vp_in_nI (show ci < 80 by omega) (by decide)) dX7_methodIn_17 ?_
      refine lv_topi (fun x11 ex11 => ?_)
      obtain rfl : x11 = nI (mb ci) := by rw [ex11, nI_clamp (show ci < 2 ^ 31 by omega)]
      have hqx11 := hmb ci
      refine lv_iadd hx hb dX7_methodIn_18 ?_
      refine lv_topi (fun x12 ex12 => ?_)
      obtain rfl : x12 = nI ((12 * ci) + (mb ci)) := by rw [ex12]; exact nI_add (12 * ci) (mb ci)
      refine lv_icmp_ge (tgt := 156) hx hb dX7_methodIn_19 (by decide) (fun cp19 => ?_) (fun cp19 => ?_)
      · have qcp19 : ((12 * ci) + (mb ci)) ≤ mx := (nI_leI (a := (12 * ci) + (mb ci)) (b := mx) (by omega) (by omega)).mp cp19
        refine lv_iconst (v := (-1)) hx hb dX7_methodIn_156 (by decide) ?_
        exact W.iret (v := (-1 : Int32)) hx hb hr (fun t ht hW => ⟨(-1 : Int32), rfl, (Or.inl rfl), ht⟩) (fun _ h => by cases h) dX7_methodIn_157
      · have qcp19 : ¬ ((12 * ci) + (mb ci)) ≤ mx := fun h9 => cp19 ((nI_leI (a := (12 * ci) + (mb ci)) (b := mx) (by omega) (by omega)).mpr h9)
        refine lv_aload_n hx hb dX7_methodIn_22 rfl (lv_at hl 0 rfl) ?_
        refine va_get (D := (dC, dI)) (ci := 6) (v := .ref (r 18)) (C := RX7) (T := TX7) (N := 46) hx hb hts hiX7 hown hK hP 0 rfl rfl 18 (by decide) (hts (.fieldLink RX7 61 "LinkModelsModel" "many" "[I") (by decide +kernel)) (fun _ h9 => h9) rfl dX7_methodIn_23 ?_
        refine lv_iload hx hb dX7_methodIn_26 (lv_at hl 4 rfl) ?_
        refine va_iald hx hb hK hP 16 0 rfl rfl (vp_in_nI (show mx < 960 by omega) (by decide)) dX7_methodIn_28 ?_
        refine lv_topi (fun x13 ex13 => ?_)
        obtain rfl : x13 = a18 mx := by rw [ex13, nI_clamp (show mx < 2 ^ 31 by omega)]
        refine lv_aload_n hx hb dX7_methodIn_29 rfl (lv_at hl 0 rfl) ?_
        refine va_get (D := (dC, dI)) (ci := 6) (v := .ref (r 34)) (C := RX7) (T := TX7) (N := 46) hx hb hts hiX7 hown hK hP 0 rfl rfl 34 (by decide) (hts (.fieldLink RX7 85 "LinkModelsModel" "useMany" "[I") (by decide +kernel)) (fun _ h9 => h9) rfl dX7_methodIn_30 ?_
        refine lv_iload_n hx hb dX7_methodIn_33 rfl (lv_at hl 2 rfl) ?_
        refine va_iald hx hb hK hP 24 0 rfl rfl (vp_in_nI (show uu < 40 by omega) (by decide)) dX7_methodIn_34 ?_
        refine lv_topi (fun x14 ex14 => ?_)
        obtain rfl : x14 = a34 uu := by rw [ex14, nI_clamp (show uu < 2 ^ 31 by omega)]
        refine lv_icmp_ne (tgt := 96) hx hb dX7_methodIn_35 (by decide) (fun cp35 => ?_) (fun cp35 => ?_)
        · refine lv_iconst (v := 0) hx hb dX7_methodIn_96 (by decide) ?_
          exact J97 (0 : Int32) ls  (by first | omega | assumption | trivial) (lv_sub hl [0, 1, 2, 3, 4] rfl)
        · refine lv_aload_n hx hb dX7_methodIn_38 rfl (lv_at hl 0 rfl) ?_
          refine va_get (D := (dC, dI)) (ci := 6) (v := .ref (r 18)) (C := RX7) (T := TX7) (N := 46) hx hb hts hiX7 hown hK hP 0 rfl rfl 18 (by decide) (hts (.fieldLink RX7 61 "LinkModelsModel" "many" "[I") (by decide +kernel)) (fun _ h9 => h9) rfl dX7_methodIn_39 ?_
          refine lv_iload hx hb dX7_methodIn_42 (lv_at hl 4 rfl) ?_
          refine va_iald hx hb hK hP 16 0 rfl rfl (vp_in_nI (show mx < 960 by omega) (by decide)) dX7_methodIn_44 ?_
          refine lv_topi (fun x15 ex15 => ?_)
          obtain rfl : x15 = a18 mx := by rw [ex15, nI_clamp (show mx < 2 ^ 31 by omega)]
          refine lv_iconst (v := 1) hx hb dX7_methodIn_45 (by decide) ?_
          refine lv_icmp_lt (tgt := 65) hx hb dX7_methodIn_46 (by decide) (fun cp46 => ?_) (fun cp46 => ?_)
          · refine lv_aload_n hx hb dX7_methodIn_65 rfl (lv_at hl 0 rfl) ?_
            refine va_get (D := (dC, dI)) (ci := 6) (v := .ref (r 18)) (C := RX7) (T := TX7) (N := 46) hx hb hts hiX7 hown hK hP 0 rfl rfl 18 (by decide) (hts (.fieldLink RX7 61 "LinkModelsModel" "many" "[I") (by decide +kernel)) (fun _ h9 => h9) rfl dX7_methodIn_66 ?_
            refine lv_iload hx hb dX7_methodIn_69 (lv_at hl 4 rfl) ?_
            refine va_iald hx hb hK hP 16 0 rfl rfl (vp_in_nI (show mx < 960 by omega) (by decide)) dX7_methodIn_71 ?_
            refine lv_topi (fun x16 ex16 => ?_)
            obtain rfl : x16 = a18 mx := by rw [ex16, nI_clamp (show mx < 2 ^ 31 by omega)]
            refine lv_iconst (v := 2) hx hb dX7_methodIn_72 (by decide) ?_
            refine lv_icmp_lt (tgt := 92) hx hb dX7_methodIn_73 (by decide) (fun cp73 => ?_) (fun cp73 => ?_)
            · refine lv_iconst (v := 1) hx hb dX7_methodIn_92 (by decide) ?_
              refine lv_goto (tgt := 97) hx hb dX7_methodIn_93 (by decide) ?_
              exact J97 (1 : Int32) ls  (by first | omega | assumption | trivial) (lv_sub hl [0, 1, 2, 3, 4] rfl)
            · refine lv_aload_n hx hb dX7_methodIn_76 rfl (lv_at hl 0 rfl) ?_
              refine va_get (D := (dC, dI)) (ci := 6) (v := .ref (r 20)) (C := RX7) (T := TX7) (N := 46) hx hb hts hiX7 hown hK hP 0 rfl rfl 20 (by decide) (hts (.fieldLink RX7 67 "LinkModelsModel" "second" "[I") (by decide +kernel)) (fun _ h9 => h9) rfl dX7_methodIn_77 ?_
              refine lv_iload hx hb dX7_methodIn_80 (lv_at hl 4 rfl) ?_
              refine va_iald hx hb hK hP 18 0 rfl rfl (vp_in_nI (show mx < 960 by omega) (by decide)) dX7_methodIn_82 ?_
              refine lv_topi (fun x17 ex17 => ?_)
              obtain rfl : x17 = a20 mx := by rw [ex17, nI_clamp (show mx < 2 ^ 31 by omega)]
              refine lv_aload_n hx hb dX7_methodIn_83 rfl (lv_at hl 0 rfl) ?_
              refine va_get (D := (dC, dI)) (ci := 6) (v := .ref (r 36)) (C := RX7) (T := TX7) (N := 46) hx hb hts hiX7 hown hK hP 0 rfl rfl 36 (by decide) (hts (.fieldLink RX7 91 "LinkModelsModel" "useSecond" "[I") (by decide +kernel)) (fun _ h9 => h9) rfl dX7_methodIn_84 ?_
              refine lv_iload_n hx hb dX7_methodIn_87 rfl (lv_at hl 2 rfl) ?_
              refine va_iald hx hb hK hP 26 0 rfl rfl (vp_in_nI (show uu < 40 by omega) (by decide)) dX7_methodIn_88 ?_
              refine lv_topi (fun x18 ex18 => ?_)
              obtain rfl : x18 = a36 uu := by rw [ex18, nI_clamp (show uu < 2 ^ 31 by omega)]
              refine lv_icmp_ne (tgt := 96) hx hb dX7_methodIn_89 (by decide) (fun cp89 => ?_) (fun cp89 => ?_)
              · refine lv_iconst (v := 0) hx hb dX7_methodIn_96 (by decide) ?_
                exact J97 (0 : Int32) ls  (by first | omega | assumption | trivial) (lv_sub hl [0, 1, 2, 3, 4] rfl)
              · refine lv_iconst (v := 1) hx hb dX7_methodIn_92 (by decide) ?_
                refine lv_goto (tgt := 97) hx hb dX7_methodIn_93 (by decide) ?_
                exact J97 (1 : Int32) ls  (by first | omega | assumption | trivial) (lv_sub hl [0, 1, 2, 3, 4] rfl)
          · refine lv_aload_n hx hb dX7_methodIn_49 rfl (lv_at hl 0 rfl) ?_
            refine va_get (D := (dC, dI)) (ci := 6) (v := .ref (r 19)) (C := RX7) (T := TX7) (N := 46) hx hb hts hiX7 hown hK hP 0 rfl rfl 19 (by decide) (hts (.fieldLink RX7 64 "LinkModelsModel" "first" "[I") (by decide +kernel)) (fun _ h9 => h9) rfl dX7_methodIn_50 ?_
            refine lv_iload hx hb dX7_methodIn_53 (lv_at hl 4 rfl) ?_
            refine va_iald hx hb hK hP 17 0 rfl rfl (vp_in_nI (show mx < 960 by omega) (by decide)) dX7_methodIn_55 ?_
            refine lv_topi (fun x19 ex19 => ?_)
            obtain rfl : x19 = a19 mx := by rw [ex19, nI_clamp (show mx < 2 ^ 31 by omega)]
            refine lv_aload_n hx hb dX7_methodIn_56 rfl (lv_at hl 0 rfl) ?_
            refine va_get (D := (dC, dI)) (ci := 6) (v := .ref (r 35)) (C := RX7) (T := TX7) (N := 46) hx hb hts hiX7 hown hK hP 0 rfl rfl 35 (by decide) (hts (.fieldLink RX7 88 "LinkModelsModel" "useFirst" "[I") (by decide +kernel)) (fun _ h9 => h9) rfl dX7_methodIn_57 ?_
            refine lv_iload_n hx hb dX7_methodIn_60 rfl (lv_at hl 2 rfl) ?_
            refine va_iald hx hb hK hP 25 0 rfl rfl (vp_in_nI (show uu < 40 by omega) (by decide)) dX7_methodIn_61 ?_
            refine lv_topi (fun x20 ex20 => ?_)
            obtain rfl : x20 = a35 uu := by rw [ex20, nI_clamp (show uu < 2 ^ 31 by omega)]
            refine lv_icmp_ne (tgt := 96) hx hb dX7_methodIn_62 (by decide) (fun cp62 => ?_) (fun cp62 => ?_)
            · refine lv_iconst (v := 0) hx hb dX7_methodIn_96 (by decide) ?_
              exact J97 (0 : Int32) ls  (by first | omega | assumption | trivial) (lv_sub hl [0, 1, 2, 3, 4] rfl)
            · refine lv_aload_n hx hb dX7_methodIn_65 rfl (lv_at hl 0 rfl) ?_
              refine va_get (D := (dC, dI)) (ci := 6) (v := .ref (r 18)) (C := RX7) (T := TX7) (N := 46) hx hb hts hiX7 hown hK hP 0 rfl rfl 18 (by decide) (hts (.fieldLink RX7 61 "LinkModelsModel" "many" "[I") (by decide +kernel)) (fun _ h9 => h9) rfl dX7_methodIn_66 ?_
              refine lv_iload hx hb dX7_methodIn_69 (lv_at hl 4 rfl) ?_
              refine va_iald hx hb hK hP 16 0 rfl rfl (vp_in_nI (show mx < 960 by omega) (by decide)) dX7_methodIn_71 ?_
              refine lv_topi (fun x21 ex21 => ?_)
              obtain rfl : x21 = a18 mx := by rw [ex21, nI_clamp (show mx < 2 ^ 31 by omega)]
              refine lv_iconst (v := 2) hx hb dX7_methodIn_72 (by decide) ?_
              refine lv_icmp_lt (tgt := 92) hx hb dX7_methodIn_73 (by decide) (fun cp73 => ?_) (fun cp73 => ?_)
              · refine lv_iconst (v := 1) hx hb dX7_methodIn_92 (by decide) ?_
                refine lv_goto (tgt := 97) hx hb dX7_methodIn_93 (by decide) ?_
                exact J97 (1 : Int32) ls  (by first | omega | assumption | trivial) (lv_sub hl [0, 1, 2, 3, 4] rfl)
              · refine lv_aload_n hx hb dX7_methodIn_76 rfl (lv_at hl 0 rfl) ?_
                refine va_get (D := (dC, dI)) (ci := 6) (v := .ref (r 20)) (C := RX7) (T := TX7) (N := 46) hx hb hts hiX7 hown hK hP 0 rfl rfl 20 (by decide) (hts (.fieldLink RX7 67 "LinkModelsModel" "second" "[I") (by decide +kernel)) (fun _ h9 => h9) rfl dX7_methodIn_77 ?_
                refine lv_iload hx hb dX7_methodIn_80 (lv_at hl 4 rfl) ?_
                refine va_iald hx hb hK hP 18 0 rfl rfl (vp_in_nI (show mx < 960 by omega) (by decide)) dX7_methodIn_82 ?_
                refine lv_topi (fun x22 ex22 => ?_)
                obtain rfl : x22 = a20 mx := by rw [ex22, nI_clamp (show mx < 2 ^ 31 by omega)]
                refine lv_aload_n hx hb dX7_methodIn_83 rfl (lv_at hl 0 rfl) ?_
                refine va_get (D := (dC, dI)) (ci := 6) (v := .ref (r 36)) (C := RX7) (T := TX7) (N := 46) hx hb hts hiX7 hown hK hP 0 rfl rfl 36 (by decide) (hts (.fieldLink RX7 91 "LinkModelsModel" "useSecond" "[I") (by decide +kernel)) (fun _ h9 => h9) rfl dX7_methodIn_84 ?_
                refine lv_iload_n hx hb dX7_methodIn_87 rfl (lv_at hl 2 rfl) ?_
                refine va_iald hx hb hK hP 26 0 rfl rfl (vp_in_nI (show uu < 40 by omega) (by decide)) dX7_methodIn_88 ?_
                refine lv_topi (fun x23 ex23 => ?_)
                obtain rfl : x23 = a36 uu := by rw [ex23, nI_clamp (show uu < 2 ^ 31 by omega)]
                refine lv_icmp_ne (tgt := 96) hx hb dX7_methodIn_89 (by decide) (fun cp89 => ?_) (fun cp89 => ?_)
                · refine lv_iconst (v := 0) hx hb dX7_methodIn_96 (by decide) ?_
                  exact J97 (0 : Int32) ls  (by first | omega | assumption | trivial) (lv_sub hl [0, 1, 2, 3, 4] rfl)
                · refine lv_iconst (v := 1) hx hb dX7_methodIn_92 (by decide) ?_
                  refine lv_goto (tgt := 97) hx hb dX7_methodIn_93 (by decide) ?_
                  exact J97 (1 : Int32) ls  (by first | omega | assumption | trivial) (lv_sub hl [0, 1, 2, 3, 4] rfl)
  refine lv_bipush (v := 12) hx hb dX7_methodIn_0 (by decide) ?_
  refine lv_iload_n hx hb dX7_methodIn_2 rfl (lv_at hl 1 rfl) ?_
  refine lv_imul hx hb dX7_methodIn_3 ?_
  refine lv_topi (fun x24 ex24 => ?_)
  obtain rfl : x24 = nI (12 * ci) := by rw [ex24]; exact pk_mul (12) (ci)
  refine lv_istore (lv' := [(4, .int (nI (12 * ci))), (0, .ref h0), (1, .int (nI ci)), (2, .int (nI uu)), (3, .int pq)]) hx hb dX7_methodIn_4 hl (by decide) rfl (fun ls hl => ?_)
  exact J6 _ (12 * ci) ls (Nat.lt_succ_self _) (by first | omega | assumption | trivial) (lv_sub hl [1, 2, 3, 4, 0] rfl)
theorem dX7_aboveOf_0 : decode cX7_aboveOf 0 = .ok (.aload_n 0, 1) := by decide +kernel
theorem dX7_aboveOf_1 : decode cX7_aboveOf 1 = .ok (.getfield 26, 3) := by decide +kernel
theorem dX7_aboveOf_4 : decode cX7_aboveOf 4 = .ok (.iload_n 2, 1) := by decide +kernel
theorem dX7_aboveOf_5 : decode cX7_aboveOf 5 = .ok (.iaload, 1) := by decide +kernel
theorem dX7_aboveOf_6 : decode cX7_aboveOf 6 = .ok (.ifCond .ne 7, 3) := by decide +kernel
theorem dX7_aboveOf_9 : decode cX7_aboveOf 9 = .ok (.iconst (-1), 1) := by decide +kernel
theorem dX7_aboveOf_10 : decode cX7_aboveOf 10 = .ok (.goto 19, 3) := by decide +kernel
theorem dX7_aboveOf_13 : decode cX7_aboveOf 13 = .ok (.bipush 16, 2) := by decide +kernel
theorem dX7_aboveOf_15 : decode cX7_aboveOf 15 = .ok (.iload_n 1, 1) := by decide +kernel
theorem dX7_aboveOf_16 : decode cX7_aboveOf 16 = .ok (.imul, 1) := by decide +kernel
theorem dX7_aboveOf_17 : decode cX7_aboveOf 17 = .ok (.aload_n 0, 1) := by decide +kernel
theorem dX7_aboveOf_18 : decode cX7_aboveOf 18 = .ok (.iload_n 1, 1) := by decide +kernel
theorem dX7_aboveOf_19 : decode cX7_aboveOf 19 = .ok (.aload_n 0, 1) := by decide +kernel
theorem dX7_aboveOf_20 : decode cX7_aboveOf 20 = .ok (.getfield 26, 3) := by decide +kernel
theorem dX7_aboveOf_23 : decode cX7_aboveOf 23 = .ok (.iload_n 2, 1) := by decide +kernel
theorem dX7_aboveOf_24 : decode cX7_aboveOf 24 = .ok (.iaload, 1) := by decide +kernel
theorem dX7_aboveOf_25 : decode cX7_aboveOf 25 = .ok (.invokevirtual 201, 3) := by decide +kernel
theorem dX7_aboveOf_28 : decode cX7_aboveOf 28 = .ok (.iadd, 1) := by decide +kernel
theorem dX7_aboveOf_29 : decode cX7_aboveOf 29 = .ok (.ireturn, 1) := by decide +kernel
def zwX7_aboveOf : List Cond := .code yX7_aboveOf cX7_aboveOf 3 (some .int) :: ([.fieldLink RX7 26 "LinkModelsModel" "above" "[I", .methodLink RX7 201 yX7_place, .instanceMethod yX7_place, .selects RX7 yX7_place yX7_place, .initialized RX7, .code yX7_place cX7_place 4 (some .int), .fieldLink RX7 17 "LinkModelsModel" "classes" "[I", .fieldLink RX7 20 "LinkModelsModel" "className" "[I"] ++ wsX70)
theorem zgX7_aboveOf_X7_place_201 : GoodIn zwX7_aboveOf (wsV RX7 201 RX7 yX7_place zwX7_place) := goodIn_app (goodIn_r _ [2, 3, 4, 5] rfl (by decide +kernel)) (goodIn_ca (goodIn_r _ [6, 7, 8] rfl (by decide +kernel)) (zgt zg7))
set_option maxHeartbeats 4000000 in
set_option maxRecDepth 100000 in
theorem kX7_aboveOf (l : Launch) (dC : Nat → ClassId) (dI : Nat → Nat → Nat) (h0 : Nat) (r : Nat → Nat) (cI : ClassId) (cJ : ClassId) (cZ : ClassId) (v0 : Int32) (a1 : Nat → Int32) (tp : Nat) (bs : Nat) (cl : Nat → Nat) (a5 : Nat → Int32) (a6 : Nat → Int32) (a7 : Nat → Int32) (fc : Nat → Nat) (a9 : Nat → Int32) (mb : Nat → Nat) (a11 : Nat → Int32) (a12 : Nat → Int32) (a13 : Nat → Int64) (a14 : Nat → Int32) (a15 : Nat → Int32) (a16 : Nat → Int32) (a17 : Nat → Int32) (a18 : Nat → Int32) (a19 : Nat → Int32) (a20 : Nat → Int32) (az : Nat) (v22 : Int32) (v23 : Int32) (v24 : Int64) (v25 : Int32) (v26 : Int32) (bb : Nat) (ct : Nat → Nat) (us : Nat) (a30 : Nat → Int32) (a31 : Nat → Int32) (a32 : Nat → Int32) (a33 : Nat → Int64) (a34 : Nat → Int32) (a35 : Nat → Int32) (a36 : Nat → Int32) (a37 : Nat → Int32) (pil : Nat → Nat) (rwv : Nat → Nat) (rl : Nat) (v41 : Int32) (v42 : Int32) (v43 : Int32) (v44 : Int32) (v45 : Int32) (hI : rWI tp bs cl fc mb az bb ct us pil rwv rl) (rk : Nat → Nat) (bd : Nat) (ci : Nat) (hp0 : bd < 5) (hp1 : zOKr cl a5 a7 fc a9 a11 bd rk) (hp2 : zGd cl a11 bd ci) (sz : Nat) : Met l yX7_aboveOf zwX7_aboveOf ({ frames := 1, cells := 0, slots := 0, locals := 23 }) (zPm dC dI [.ref h0, .int (nI bd), .int (nI ci)] sz (rW h0 r cI cJ cZ v0 a1 (nI tp) (nI bs) (fun j => nI (cl j)) a5 a6 a7 (fun j => nI (fc j)) a9 (fun j => nI (mb j)) a11 a12 a13 a14 a15 a16 a17 a18 a19 a20 (nI az) v22 v23 v24 v25 v26 (nI bb) (fun j => nI (ct j)) (nI us) a30 a31 a32 a33 a34 a35 a36 a37 (fun j => nI (pil j)) (fun j => nI (rwv j)) (nI rl) v41 v42 v43 v44 v45) [(cI, .int), (cJ, .long), (cZ, .boolean)]) (vp_Si (fun r => (zM r (fun k => zGd cl a11 bd k ∧ rk (k - 16 * bd) < rk (ci - 16 * bd))))) 0 0 (fun _ => False) := by
  refine Met.ofW (cc := cX7_aboveOf) (maxL := 3) (ret := (some .int)) (by decide) rfl ?_
  intro p e s m args below meth c s₁ B hml hv
  obtain ⟨rfl, hsz, hP, hK, hD0, hL0⟩ := hv
  have hx := B.exec
  have hb := B.bytes
  have hr := B.returns
  have hts := atoms_spec (ws := zwX7_aboveOf) B.pre
  have hown : s.vm.findClass RX7 = some m.cls := findClass_of_methodNamed B.named
  have hiX7 : ∀ w ∈ wsX70, w ∈ zwX7_aboveOf := (fun _ h => List.mem_cons_of_mem _ (List.mem_append_right _ h))
  obtain ⟨htp, hbs, hus, hcl, hfc, hmb, hct, hpil, hrwv⟩ := hI
  subst hsz
  have hD := hD0.self (sz := s.heap.size)
  generalize hAe : va_A (rW h0 r cI cJ cZ v0 a1 (nI tp) (nI bs) (fun j => nI (cl j)) a5 a6 a7 (fun j => nI (fc j)) a9 (fun j => nI (mb j)) a11 a12 a13 a14 a15 a16 a17 a18 a19 a20 (nI az) v22 v23 v24 v25 v26 (nI bb) (fun j => nI (ct j)) (nI us) a30 a31 a32 a33 a34 a35 a36 a37 (fun j => nI (pil j)) (fun j => nI (rwv j)) (nI rl) v41 v42 v43 v44 v45) s.heap.size = A at hD hL0
  have hA : ∀ q : Nat, s.heap.size ≤ q → A q := fun q h => by rw [← hAe]; exact Or.inr h
  have hS : va_S A s.heap s.heap [] := va_S.rf
  have hL := hL0
  have hclb := hcl bd
  have hcil := zGd.lt hp2 hclb hp0
  have hl := lv_entry ([.ref h0, .int (nI bd), .int (nI ci)]) (n := 3) (Nat.le_of_ble_eq_true rfl)
  rw [lg_entry_eq]
  generalize (lg_sl ([.ref h0, .int (nI bd), .int (nI ci)]) ++ List.replicate (3 - (lg_sl ([.ref h0, .int (nI bd), .int (nI ci)])).length) Slot.unset).toArray = ls at hl ⊢
  have hl : lv_has ls 3 [(0, .ref h0), (1, .int (nI bd)), (2, .int (nI ci))] := hl
  refine lv_aload_n hx hb dX7_aboveOf_0 rfl (lv_at hl 0 rfl) ?_
  refine va_get (D := (dC, dI)) (ci := 6) (v := .ref (r 7)) (C := RX7) (T := TX7) (N := 46) hx hb hts hiX7 hown hK hP 0 rfl rfl 7 (by decide) (hts (.fieldLink RX7 26 "LinkModelsModel" "above" "[I") (by decide +kernel)) (fun _ h9 => h9) rfl dX7_aboveOf_1 ?_
  refine lv_iload_n hx hb dX7_aboveOf_4 rfl (lv_at hl 2 rfl) ?_
  refine va_iald hx hb hK hP 5 0 rfl rfl (vp_in_nI (show ci < 80 by omega) (by decide)) dX7_aboveOf_5 ?_
  refine lv_topi (fun x1 ex1 => ?_)
  obtain rfl : x1 = a7 ci := by rw [ex1, nI_clamp (show ci < 2 ^ 31 by omega)]
  refine lv_if_ne (tgt := 13) hx hb dX7_aboveOf_6 (by decide) (fun cp6 => ?_) (fun cp6 => ?_)
  · refine lv_bipush (v := 16) hx hb dX7_aboveOf_13 (by decide) ?_
    refine lv_iload_n hx hb dX7_aboveOf_15 rfl (lv_at hl 1 rfl) ?_
    refine lv_imul hx hb dX7_aboveOf_16 ?_
    refine lv_topi (fun x2 ex2 => ?_)
    obtain rfl : x2 = nI (16 * bd) := by rw [ex2]; exact pk_mul (16) (bd)
    refine lv_aload_n hx hb dX7_aboveOf_17 rfl (lv_at hl 0 rfl) ?_
    refine lv_iload_n hx hb dX7_aboveOf_18 rfl (lv_at hl 1 rfl) ?_
    refine lv_aload_n hx hb dX7_aboveOf_19 rfl (lv_at hl 0 rfl) ?_
    refine va_get (D := (dC, dI)) (ci := 6) (v := .ref (r 7)) (C := RX7) (T := TX7) (N := 46) hx hb hts hiX7 hown hK hP 0 rfl rfl 7 (by decide) (hts (.fieldLink RX7 26 "LinkModelsModel" "above" "[I") (by decide +kernel)) (fun _ h9 => h9) rfl dX7_aboveOf_20 ?_
    refine lv_iload_n hx hb dX7_aboveOf_23 rfl (lv_at hl 2 rfl) ?_
    refine va_iald hx hb hK hP 5 0 rfl rfl (vp_in_nI (show ci < 80 by omega) (by decide)) dX7_aboveOf_24 ?_
    refine lv_topi (fun x3 ex3 => ?_)
    obtain rfl : x3 = a7 ci := by rw [ex3, nI_clamp (show ci < 2 ^ 31 by omega)]
    have hFc := z_freeW hD hS hA
    refine vp_callSi (W.runV (As := [.int (nI bd), .int (a7 ci)]) (rest := [.int (nI (16 * bd))]) ⟨hx, hb, hml, hown, hts⟩ (kX7_place l dC dI h0 r cI cJ cZ v0 a1 tp bs cl a5 a6 a7 fc a9 mb a11 a12 a13 a14 a15 a16 a17 a18 a19 a20 az v22 v23 v24 v25 v26 bb ct us a30 a31 a32 a33 a34 a35 a36 a37 pil rwv rl v41 v42 v43 v44 v45 ⟨by omega, by omega, by omega, hcl, hfc, hmb, hct, hpil, hrwv⟩ bd (a7 ci) (by first | omega | assumption | trivial) s.heap.size) (cwV 2 hts zgX7_aboveOf_X7_place_201 rfl rfl rfl (by decide +kernel) ⟨(show 0 + 1 ≤ 1 by omega), (show 8 + (4 + 11) + 0 ≤ 23 by omega)⟩) (zVm (ci := 6) (q0 := 0) (q := (RX7, TX7, 46)) hK hP hD hL hS.2.1 hFc rfl rfl rfl) rfl rfl hl.1 rfl (lv_room (Nat.le_of_ble_eq_true rfl)) dX7_aboveOf_25 ⟨(show 0 + 0 ≤ 0 by omega), (show 0 + 0 ≤ 0 by omega)⟩) (fun r4 hw => ?_)
    have hw : (zM r4 (fun k => k < cl bd)) ∧ (zPl a5 (16 * bd) (cl bd) ((a7 ci)) r4) := hw
    obtain ⟨w0r4, w1r4⟩ := hw
    obtain ⟨p5, hap5, hbp5, hcp5, hdp5⟩ := z_ga hp1 hp2 cp6
    obtain rfl : r4 = nI p5 := w1r4.uniq hbp5
    refine lv_iadd hx hb dX7_aboveOf_28 ?_
    refine lv_topi (fun x6 ex6 => ?_)
    obtain rfl : x6 = nI ((16 * bd) + p5) := by rw [ex6]; exact nI_add (16 * bd) (p5)
    exact W.iret (v := (nI ((16 * bd) + p5))) hx hb hr (fun t ht hW => ⟨(nI ((16 * bd) + p5)), rfl, (zM.mk (by omega) ⟨zGd.mk hap5 hcp5, by rw [Nat.add_sub_cancel_left]; exact hdp5⟩), ht⟩) (fun _ h => by cases h) dX7_aboveOf_29
  · refine lv_iconst (v := (-1)) hx hb dX7_aboveOf_9 (by decide) ?_
    refine lv_goto (tgt := 29) hx hb dX7_aboveOf_10 (by decide) ?_
    exact W.iret (v := (-1 : Int32)) hx hb hr (fun t ht hW => ⟨(-1 : Int32), rfl, (Or.inl rfl), ht⟩) (fun _ h => by cases h) dX7_aboveOf_29
