theorem dL_law_33 : decode cL_law 33 = .ok (.aload_n 0, 1) := by decide +kernel
theorem dL_law_34 : decode cL_law 34 = .ok (.iload 4, 2) := by decide +kernel
theorem dL_law_36 : decode cL_law 36 = .ok (.iaload, 1) := by decide +kernel
theorem dL_law_37 : decode cL_law 37 = .ok (.bipush 31, 2) := by decide +kernel
theorem dL_law_39 : decode cL_law 39 = .ok (.iand, 1) := by decide +kernel
theorem dL_law_40 : decode cL_law 40 = .ok (.tableswitch 834 0 16 #[84, 153, 166, 203, 240, 277, 326, 461, 498, 535, 584, 633, 670, 695, 732, 781, 806], 84) := by decide +kernel
set_option maxHeartbeats 4000000 in
set_option maxRecDepth 100000 in
theorem zround {p : Program} {l : Launch} {e : Env} {s : State} {m : MethodId} {below : List Frame} {meth : Method} {c : Code} {dC : Nat → ClassId} {dI : Nat → Nat → Nat} {b L : Nat} {xs : Nat → Int32} (C0 : lw_At p s m meth c b L xs) (hL9 : L ≤ 4608) (hE : zF s) (hL : zL (fun q : Nat => s.heap.size ≤ q) s s.heap) (hl9 : l.stackTraces = false) {sa sb : Nat} (hXs : zX sa sb s) (hZs : zZ (fun q : Nat => s.heap.size ≤ q) s s.heap) {xh tb xb xu rh : Nat} {cI cJ cB cQ cV cZ : ClassId} {h0 : Nat} {r : Nat → Nat} {ro : Nat} (hK : va_K (dC, dI) vwCl [(cI, .int), (cJ, .long), (cB, .byte), (cQ, .object RX0), (cV, .object RX5), (cZ, .boolean)] s) {n cells slots : Nat} (hn : 9 * n + 9 ≤ L) (hcc : cells + 17 ≤ 601024) (hss : slots + 1697 ≤ 7293034) {H : Heap} {locs : List Loc} (hG : zInv dC dI xh tb xb xu rh cI cJ cB cQ cV cZ h0 r ro (fun q : Nat => s.heap.size ≤ q) H) (hS : va_S (fun q : Nat => s.heap.size ≤ q) s.heap H locs) {ls : Array Slot} (hl : lv_has ls 7 [(4, .int (nI (9 * n))), (3, .ref ro), (2, .ref h0), (1, .ref xh), (0, .ref b)]) (kk : ∀ (H : Heap) (locs : List Loc) (ls : Array Slot), zInv dC dI xh tb xb xu rh cI cJ cB cQ cV cZ h0 r ro (fun q : Nat => s.heap.size ≤ q) H → va_S (fun q : Nat => s.heap.size ≤ q) s.heap H locs → lv_has ls 7 [(4, .int (nI (9 * n))), (3, .ref ro), (2, .ref h0), (1, .ref xh), (0, .ref b)] → W p l e room_1 s m #[Value.ref b] below meth c H locs (cells + 17) (slots + 1697) (lw_Z below #[Value.ref b] s) (F0 m 874 ls [])) : W p l e room_1 s m #[Value.ref b] below meth c H locs cells slots (lw_Z below #[Value.ref b] s) (F0 m 33 ls []) := by
  obtain ⟨hx, hb, hr, hml, hown, hts, hX, hbl, hlocks, hgv⟩ := id C0
  have hown : s.vm.findClass RL = some m.cls := hown
  have hA : ∀ q : Nat, s.heap.size ≤ q → (fun q : Nat => s.heap.size ≤ q) q := fun _ h => h
  have hbA : ¬ (fun q : Nat => s.heap.size ≤ q) b := Nat.not_le.mpr hbl
  refine lv_aload_n hx hb dL_law_33 rfl (lv_at hl 4 rfl) ?_
  refine lv_iload hx hb dL_law_34 (lv_at hl 0 rfl) ?_
  refine va_sld hx hb hX hbl hbA hS (vp_in_nI (show 9 * n < L by omega) (by omega)) dL_law_36 ?_
  refine lv_topi (fun x1 ex1 => ?_)
  refine lv_bipush (v := 31) hx hb dL_law_37 (by decide) ?_
  refine lv_iand hx hb dL_law_39 ?_
  refine lv_topi (fun x2 ex2 => ?_)
  obtain ⟨j, hj, ej⟩ := pk_andE (x1) (m := 31) 5 (by decide)
  obtain rfl : x2 = nI j := by rw [ex2]; exact ej
  by_cases t0 : j = 0
  · subst t0
    refine lv_tableIn (off := 84) (tgt := 124) hx hb dL_law_40 (by decide) (by decide) (by decide) (by decide) ?_
    exact zc_0 C0 hL9 hE hL hl9 hXs hZs hK hn hcc hss hG hS (lv_sub hl [0, 1, 2, 3, 4] rfl) kk
  by_cases t1 : j = 1
  · subst t1
    refine lv_tableIn (off := 153) (tgt := 193) hx hb dL_law_40 (by decide) (by decide) (by decide) (by decide) ?_
    exact zc_1 C0 hL9 hE hL hl9 hXs hZs hK hn hcc hss hG hS (lv_sub hl [0, 1, 2, 3, 4] rfl) kk
  by_cases t2 : j = 2
  · subst t2
    refine lv_tableIn (off := 166) (tgt := 206) hx hb dL_law_40 (by decide) (by decide) (by decide) (by decide) ?_
    exact zc_2 C0 hL9 hE hL hl9 hXs hZs hK hn hcc hss hG hS (lv_sub hl [0, 1, 2, 3, 4] rfl) kk
  by_cases t3 : j = 3
  · subst t3
    refine lv_tableIn (off := 203) (tgt := 243) hx hb dL_law_40 (by decide) (by decide) (by decide) (by decide) ?_
    exact zc_3 C0 hL9 hE hL hl9 hXs hZs hK hn hcc hss hG hS (lv_sub hl [0, 1, 2, 3, 4] rfl) kk
  by_cases t4 : j = 4
  · subst t4
    refine lv_tableIn (off := 240) (tgt := 280) hx hb dL_law_40 (by decide) (by decide) (by decide) (by decide) ?_
    exact zc_4 C0 hL9 hE hL hl9 hXs hZs hK hn hcc hss hG hS (lv_sub hl [0, 1, 2, 3, 4] rfl) kk
  by_cases t5 : j = 5
  · subst t5
    refine lv_tableIn (off := 277) (tgt := 317) hx hb dL_law_40 (by decide) (by decide) (by decide) (by decide) ?_
    exact zc_5 C0 hL9 hE hL hl9 hXs hZs hK hn hcc hss hG hS (lv_sub hl [0, 1, 2, 3, 4] rfl) kk
  by_cases t6 : j = 6
  · subst t6
    refine lv_tableIn (off := 326) (tgt := 366) hx hb dL_law_40 (by decide) (by decide) (by decide) (by decide) ?_
    exact zc_6 C0 hL9 hE hL hl9 hXs hZs hK hn hcc hss hG hS (lv_sub hl [0, 1, 2, 3, 4] rfl) kk
  by_cases t7 : j = 7
  · subst t7
    refine lv_tableIn (off := 461) (tgt := 501) hx hb dL_law_40 (by decide) (by decide) (by decide) (by decide) ?_
    exact zc_7 C0 hL9 hE hL hl9 hXs hZs hK hn hcc hss hG hS (lv_sub hl [0, 1, 2, 3, 4] rfl) kk
  by_cases t8 : j = 8
  · subst t8
    refine lv_tableIn (off := 498) (tgt := 538) hx hb dL_law_40 (by decide) (by decide) (by decide) (by decide) ?_
    exact zc_8 C0 hL9 hE hL hl9 hXs hZs hK hn hcc hss hG hS (lv_sub hl [0, 1, 2, 3, 4] rfl) kk
  by_cases t9 : j = 9
  · subst t9
    refine lv_tableIn (off := 535) (tgt := 575) hx hb dL_law_40 (by decide) (by decide) (by decide) (by decide) ?_
    exact zc_9 C0 hL9 hE hL hl9 hXs hZs hK hn hcc hss hG hS (lv_sub hl [0, 1, 2, 3, 4] rfl) kk
  by_cases t10 : j = 10
  · subst t10
    refine lv_tableIn (off := 584) (tgt := 624) hx hb dL_law_40 (by decide) (by decide) (by decide) (by decide) ?_
    exact zc_10 C0 hL9 hE hL hl9 hXs hZs hK hn hcc hss hG hS (lv_sub hl [0, 1, 2, 3, 4] rfl) kk
  by_cases t11 : j = 11
  · subst t11
    refine lv_tableIn (off := 633) (tgt := 673) hx hb dL_law_40 (by decide) (by decide) (by decide) (by decide) ?_
    exact zc_11 C0 hL9 hE hL hl9 hXs hZs hK hn hcc hss hG hS (lv_sub hl [0, 1, 2, 3, 4] rfl) kk
  by_cases t12 : j = 12
  · subst t12
    refine lv_tableIn (off := 670) (tgt := 710) hx hb dL_law_40 (by decide) (by decide) (by decide) (by decide) ?_
    exact zc_12 C0 hL9 hE hL hl9 hXs hZs hK hn hcc hss hG hS (lv_sub hl [0, 1, 2, 3, 4] rfl) kk
  by_cases t13 : j = 13
  · subst t13
    refine lv_tableIn (off := 695) (tgt := 735) hx hb dL_law_40 (by decide) (by decide) (by decide) (by decide) ?_
    exact zc_13 C0 hL9 hE hL hl9 hXs hZs hK hn hcc hss hG hS (lv_sub hl [0, 1, 2, 3, 4] rfl) kk
  by_cases t14 : j = 14
  · subst t14
    refine lv_tableIn (off := 732) (tgt := 772) hx hb dL_law_40 (by decide) (by decide) (by decide) (by decide) ?_
    exact zc_14 C0 hL9 hE hL hl9 hXs hZs hK hn hcc hss hG hS (lv_sub hl [0, 1, 2, 3, 4] rfl) kk
  by_cases t15 : j = 15
  · subst t15
    refine lv_tableIn (off := 781) (tgt := 821) hx hb dL_law_40 (by decide) (by decide) (by decide) (by decide) ?_
    exact zc_15 C0 hL9 hE hL hl9 hXs hZs hK hn hcc hss hG hS (lv_sub hl [0, 1, 2, 3, 4] rfl) kk
  by_cases t16 : j = 16
  · subst t16
    refine lv_tableIn (off := 806) (tgt := 846) hx hb dL_law_40 (by decide) (by decide) (by decide) (by decide) ?_
    exact zc_16 C0 hL9 hE hL hl9 hXs hZs hK hn hcc hss hG hS (lv_sub hl [0, 1, 2, 3, 4] rfl) kk
  refine lv_tableOut (tgt := 874) hx hb dL_law_40 (Or.inr (by rw [nI_toInt (by omega)]; omega)) (by decide) ?_
  refine W.widen (k := cells + 17) (n := slots + 1697) (by omega) (by omega) ?_
  exact kk _ _ _ hG hS (lv_sub hl [0, 1, 2, 3, 4] rfl)
theorem dL_law_23 : decode cL_law 23 = .ok (.iload 4, 2) := by decide +kernel
theorem dL_law_25 : decode cL_law 25 = .ok (.aload_n 0, 1) := by decide +kernel
theorem dL_law_26 : decode cL_law 26 = .ok (.arraylength, 1) := by decide +kernel
theorem dL_law_27 : decode cL_law 27 = .ok (.bipush 9, 2) := by decide +kernel
theorem dL_law_29 : decode cL_law 29 = .ok (.isub, 1) := by decide +kernel
theorem dL_law_30 : decode cL_law 30 = .ok (.if_icmp .gt 850, 3) := by decide +kernel
theorem dL_law_874 : decode cL_law 874 = .ok (.iinc 4 9, 3) := by decide +kernel
theorem dL_law_877 : decode cL_law 877 = .ok (.goto (-854), 3) := by decide +kernel
theorem dL_law_880 : decode cL_law 880 = .ok (.iconst 1, 1) := by decide +kernel
theorem dL_law_881 : decode cL_law 881 = .ok (.ireturn, 1) := by decide +kernel
set_option maxHeartbeats 4000000 in
set_option maxRecDepth 100000 in
/-- the rounds that are left -/
theorem zloop {p : Program} {l : Launch} {e : Env} {s : State} {m : MethodId} {below : List Frame} {meth : Method} {c : Code} {dC : Nat → ClassId} {dI : Nat → Nat → Nat} {b L : Nat} {xs : Nat → Int32} (C0 : lw_At p s m meth c b L xs) (hL9 : L ≤ 4608) (hE : zF s) (hL : zL (fun q : Nat => s.heap.size ≤ q) s s.heap) (hl9 : l.stackTraces = false) {sa sb : Nat} (hXs : zX sa sb s) (hZs : zZ (fun q : Nat => s.heap.size ≤ q) s s.heap) {xh tb xb xu rh : Nat} {cI cJ cB cQ cV cZ : ClassId} {h0 : Nat} {r : Nat → Nat} {ro : Nat} (hK : va_K (dC, dI) vwCl [(cI, .int), (cJ, .long), (cB, .byte), (cQ, .object RX0), (cV, .object RX5), (cZ, .boolean)] s) : ∀ (f n cells slots : Nat) (H : Heap) (locs : List Loc) (ls : Array Slot), L - 9 * n < f → 9 * n ≤ L → cells + 2 * (L - 9 * n) ≤ 601024 → slots + 200 * (L - 9 * n) ≤ 7293034 → zInv dC dI xh tb xb xu rh cI cJ cB cQ cV cZ h0 r ro (fun q : Nat => s.heap.size ≤ q) H → va_S (fun q : Nat => s.heap.size ≤ q) s.heap H locs → lv_has ls 7 [(4, .int (nI (9 * n))), (3, .ref ro), (2, .ref h0), (1, .ref xh), (0, .ref b)] → W p l e room_1 s m #[Value.ref b] below meth c H locs cells slots (lw_Z below #[Value.ref b] s) (F0 m 23 ls []) := by
  obtain ⟨hx, hb, hr, hml, hown, hts, hX, hbl, hlocks, hgv⟩ := id C0
  have hown : s.vm.findClass RL = some m.cls := hown
  have hA : ∀ q : Nat, s.heap.size ≤ q → (fun q : Nat => s.heap.size ≤ q) q := fun _ h => h
  have hbA : ¬ (fun q : Nat => s.heap.size ≤ q) b := Nat.not_le.mpr hbl
  intro f
  induction f with
  | zero => intro n cells slots H locs ls h; exact absurd h (Nat.not_lt_zero _)
  | succ f ih =>
    intro n cells slots H locs ls hf hn hcc hss hG hS hl
    refine lv_iload hx hb dL_law_23 (lv_at hl 0 rfl) ?_
    refine lv_aload_n hx hb dL_law_25 rfl (lv_at hl 4 rfl) ?_
    refine va_slen hx hb hX hbl hbA hS dL_law_26 ?_
    refine lv_bipush (v := 9) hx hb dL_law_27 (by decide) ?_
    refine lv_isub hx hb dL_law_29 ?_
    refine lv_topi (fun x1 ex1 => ?_)
    rcases Nat.lt_or_ge L 9 with h9 | h9
    · refine lv_icmp_gt (tgt := 880) hx hb dL_law_30 (by decide) (fun _ => ?_) (fun c9 => absurd (by rw [ex1]; exact Int32.lt_of_lt_of_le (pk_sneg (by decide) h9) (nI_pos' (by omega))) c9)
      refine lv_iconst (v := 1) hx hb dL_law_880 (by decide) ?_
      refine va_forget (fun q hq => hS.2.2 q hq) ?_
      refine W.widen (k := 601024) (n := 7293034) (by omega) (by omega) ?_
      exact lw_ret hx hb hr hlocks dL_law_881
    · rcases Nat.lt_or_ge L (9 * n + 9) with h9n | h9n
      · obtain rfl : x1 = nI (L - 9) := by rw [ex1]; exact pk_sub h9
        refine lv_icmp_gt (tgt := 880) hx hb dL_law_30 (by decide) (fun _ => ?_) (fun c9 => absurd ((nI_ltI (a := L - 9) (b := 9 * n) (by omega) (by omega)).mpr (by omega)) c9)
        refine lv_iconst (v := 1) hx hb dL_law_880 (by decide) ?_
        refine va_forget (fun q hq => hS.2.2 q hq) ?_
        refine W.widen (k := 601024) (n := 7293034) (by omega) (by omega) ?_
        exact lw_ret hx hb hr hlocks dL_law_881
      · obtain rfl : x1 = nI (L - 9) := by rw [ex1]; exact pk_sub h9
        refine lv_icmp_gt (tgt := 880) hx hb dL_law_30 (by decide) (fun c9 => absurd c9 (fun h8 => absurd ((nI_ltI (a := L - 9) (b := 9 * n) (by omega) (by omega)).mp h8) (by omega))) (fun _ => ?_)
        refine zround C0 hL9 hE hL hl9 hXs hZs hK (n := n) h9n (by omega) (by omega) hG hS (lv_sub hl [0, 1, 2, 3, 4] rfl) (fun H locs ls hG hS hl => ?_)
        obtain ⟨x2, ex2⟩ : ∃ y : Int32, y = (nI (9 * n)) + 9 := ⟨_, rfl⟩
        refine lv_iinc (v := x2) (lv' := [(4, .int x2), (3, .ref ro), (2, .ref h0), (1, .ref xh), (0, .ref b)]) hx hb dL_law_874 hl (k := 0) rfl (by rw [ex2]; rfl) (by decide) rfl (fun ls hl => ?_)
        obtain rfl : x2 = nI ((9 * n) + 9) := by rw [ex2]; exact nI_add (9 * n) 9
        refine lv_goto (tgt := 23) hx hb dL_law_877 (by decide) ?_
        have e9 : 9 * n + 9 = 9 * (n + 1) := by omega
        rw [e9] at hl
        exact ih (n + 1) (cells + 17) (slots + 1697) H locs ls (by omega) (by omega) (by omega) (by omega) hG hS (lv_sub hl [0, 1, 2, 3, 4] rfl)
