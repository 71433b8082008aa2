theorem dL_law_538 : decode cL_law 538 = .ok (.aload_n 1, 1) := by decide +kernel
theorem dL_law_539 : decode cL_law 539 = .ok (.aload_n 0, 1) := by decide +kernel
theorem dL_law_540 : decode cL_law 540 = .ok (.iload 4, 2) := by decide +kernel
theorem dL_law_542 : decode cL_law 542 = .ok (.iconst 1, 1) := by decide +kernel
theorem dL_law_543 : decode cL_law 543 = .ok (.iadd, 1) := by decide +kernel
theorem dL_law_544 : decode cL_law 544 = .ok (.iaload, 1) := by decide +kernel
theorem dL_law_545 : decode cL_law 545 = .ok (.aload_n 0, 1) := by decide +kernel
theorem dL_law_546 : decode cL_law 546 = .ok (.iload 4, 2) := by decide +kernel
theorem dL_law_548 : decode cL_law 548 = .ok (.iconst 2, 1) := by decide +kernel
theorem dL_law_549 : decode cL_law 549 = .ok (.iadd, 1) := by decide +kernel
theorem dL_law_550 : decode cL_law 550 = .ok (.iaload, 1) := by decide +kernel
theorem dL_law_551 : decode cL_law 551 = .ok (.invokevirtual 60, 3) := by decide +kernel
theorem dL_law_554 : decode cL_law 554 = .ok (.pop, 1) := by decide +kernel
theorem dL_law_555 : decode cL_law 555 = .ok (.aload_n 2, 1) := by decide +kernel
theorem dL_law_556 : decode cL_law 556 = .ok (.aload_n 0, 1) := by decide +kernel
theorem dL_law_557 : decode cL_law 557 = .ok (.iload 4, 2) := by decide +kernel
theorem dL_law_559 : decode cL_law 559 = .ok (.iconst 1, 1) := by decide +kernel
theorem dL_law_560 : decode cL_law 560 = .ok (.iadd, 1) := by decide +kernel
theorem dL_law_561 : decode cL_law 561 = .ok (.iaload, 1) := by decide +kernel
theorem dL_law_562 : decode cL_law 562 = .ok (.aload_n 0, 1) := by decide +kernel
theorem dL_law_563 : decode cL_law 563 = .ok (.iload 4, 2) := by decide +kernel
theorem dL_law_565 : decode cL_law 565 = .ok (.iconst 2, 1) := by decide +kernel
theorem dL_law_566 : decode cL_law 566 = .ok (.iadd, 1) := by decide +kernel
theorem dL_law_567 : decode cL_law 567 = .ok (.iaload, 1) := by decide +kernel
theorem dL_law_568 : decode cL_law 568 = .ok (.invokevirtual 63, 3) := by decide +kernel
theorem dL_law_571 : decode cL_law 571 = .ok (.pop, 1) := by decide +kernel
theorem dL_law_572 : decode cL_law 572 = .ok (.goto 302, 3) := by decide +kernel
set_option maxHeartbeats 4000000 in
set_option maxRecDepth 100000 in
theorem zc_8 {p : Program} {l : Launch} {e : Env} {s : State} {m : MethodId} {below : List Frame} {meth : Method} {c : Code} {dC : Nat → ClassId} {dI : Nat → Nat → Nat} {b L : Nat} {xs : Nat → Int32} (C0 : lw_At p s m meth c b L xs) (hL9 : L ≤ 4608) (hE : zF s) (hL : zL (fun q : Nat => s.heap.size ≤ q) s s.heap) (hl9 : l.stackTraces = false) {sa sb : Nat} (hXs : zX sa sb s) (hZs : zZ (fun q : Nat => s.heap.size ≤ q) s s.heap) {xh tb xb xu rh : Nat} {cI cJ cB cQ cV cZ : ClassId} {h0 : Nat} {r : Nat → Nat} {ro : Nat} (hK : va_K (dC, dI) vwCl [(cI, .int), (cJ, .long), (cB, .byte), (cQ, .object RX0), (cV, .object RX5), (cZ, .boolean)] s) {n cells slots : Nat} (hn : 9 * n + 9 ≤ L) (hcc : cells + 17 ≤ 601024) (hss : slots + 1697 ≤ 7293034) {H : Heap} {locs : List Loc} (hG : zInv dC dI xh tb xb xu rh cI cJ cB cQ cV cZ h0 r ro (fun q : Nat => s.heap.size ≤ q) H) (hS : va_S (fun q : Nat => s.heap.size ≤ q) s.heap H locs) {ls : Array Slot} (hl : lv_has ls 7 [(4, .int (nI (9 * n))), (3, .ref ro), (2, .ref h0), (1, .ref xh), (0, .ref b)]) (kk : ∀ (H : Heap) (locs : List Loc) (ls : Array Slot), zInv dC dI xh tb xb xu rh cI cJ cB cQ cV cZ h0 r ro (fun q : Nat => s.heap.size ≤ q) H → va_S (fun q : Nat => s.heap.size ≤ q) s.heap H locs → lv_has ls 7 [(4, .int (nI (9 * n))), (3, .ref ro), (2, .ref h0), (1, .ref xh), (0, .ref b)] → W p l e room_1 s m #[Value.ref b] below meth c H locs (cells + 17) (slots + 1697) (lw_Z below #[Value.ref b] s) (F0 m 874 ls [])) : W p l e room_1 s m #[Value.ref b] below meth c H locs cells slots (lw_Z below #[Value.ref b] s) (F0 m 538 ls []) := by
  obtain ⟨hx, hb, hr, hml, hown, hts, hX, hbl, hlocks, hgv⟩ := id C0
  have hown : s.vm.findClass RL = some m.cls := hown
  have hA : ∀ q : Nat, s.heap.size ≤ q → (fun q : Nat => s.heap.size ≤ q) q := fun _ h => h
  have hbA : ¬ (fun q : Nat => s.heap.size ≤ q) b := Nat.not_le.mpr hbl
  obtain ⟨tn, bn, un, bf, wf, Rw, Ex, Bl, Ul, Mw, fo, hIy, hRc, hEx, hbz, hBl, hUl, hM, hP, hD⟩ := hG
  have hKx := hK.sub (tys' := [(cI, .int), (cJ, .long), (cB, .byte), (cQ, .object RX0), (cV, .object RX5)]) [0, 1, 2, 3, 4] rfl
  have hKr := hK.sub (tys' := [(cI, .int), (cJ, .long), (cZ, .boolean)]) [0, 1, 5] rfl
  have hIy0 := hIy
  obtain ⟨htn, hbn, hun⟩ := hIy0
  refine lv_aload_n hx hb dL_law_538 rfl (lv_at hl 3 rfl) ?_
  refine lv_aload_n hx hb dL_law_539 rfl (lv_at hl 4 rfl) ?_
  refine lv_iload hx hb dL_law_540 (lv_at hl 0 rfl) ?_
  refine lv_iconst (v := 1) hx hb dL_law_542 (by decide) ?_
  refine lv_iadd hx hb dL_law_543 ?_
  refine lv_topi (fun x1 ex1 => ?_)
  obtain rfl : x1 = nI ((9 * n) + 1) := by rw [ex1]; exact nI_add (9 * n) (1)
  refine va_sld hx hb hX hbl hbA hS (vp_in_nI (show (9 * n) + 1 < L by omega) (by omega)) dL_law_544 ?_
  refine lv_topi (fun x2 ex2 => ?_)
  refine lv_aload_n hx hb dL_law_545 rfl (lv_at hl 4 rfl) ?_
  refine lv_iload hx hb dL_law_546 (lv_at hl 0 rfl) ?_
  refine lv_iconst (v := 2) hx hb dL_law_548 (by decide) ?_
  refine lv_iadd hx hb dL_law_549 ?_
  refine lv_topi (fun x3 ex3 => ?_)
  obtain rfl : x3 = nI ((9 * n) + 2) := by rw [ex3]; exact nI_add (9 * n) (2)
  refine va_sld hx hb hX hbl hbA hS (vp_in_nI (show (9 * n) + 2 < L by omega) (by omega)) dL_law_550 ?_
  refine lv_topi (fun x4 ex4 => ?_)
  have hBs : zBs (dC, dI) cI cJ cB bn bf H := hBl.bs (z_Pl (z_Pr (z_Pr (z_Pr hP))))
  have hUs : zUs (dC, dI) cI cJ cB un wf H := hUl.us (z_Pl (z_Pr (z_Pr (z_Pr (z_Pr hP)))))
  refine vp_callSi (W.runV (As := [.int x2, .int x4]) (rest := []) ⟨hx, hb, hml, hown, hts⟩ (kX6_member l dC dI xh tb xb xu rh cI cJ cB cQ cV tn bn un bf wf hIy x2 x4) (cwV 2 hts zgL_law_X6_member_60 rfl rfl rfl (by decide +kernel) ⟨(show 6 + 1 ≤ 10 by omega), (show 8 + (3 + 11) + 145 ≤ 372 by omega)⟩) (zVX (ci := 5) (q0 := 0) (q := (RX6, TX6, 7)) hKx (z_Pl hP) hE hBs hUs rfl rfl rfl) rfl rfl hl.1 rfl (lv_room (Nat.le_of_ble_eq_true rfl)) dL_law_551 ⟨(show _ + 0 ≤ 601024 by omega), (show _ + 0 ≤ 7293034 by omega)⟩) (fun r5 hw => ?_)
  refine lv_pop hx hb dL_law_554 rfl ?_
  refine lv_aload_n hx hb dL_law_555 rfl (lv_at hl 2 rfl) ?_
  refine lv_aload_n hx hb dL_law_556 rfl (lv_at hl 4 rfl) ?_
  refine lv_iload hx hb dL_law_557 (lv_at hl 0 rfl) ?_
  refine lv_iconst (v := 1) hx hb dL_law_559 (by decide) ?_
  refine lv_iadd hx hb dL_law_560 ?_
  refine lv_topi (fun x6 ex6 => ?_)
  obtain rfl : x6 = nI ((9 * n) + 1) := by rw [ex6]; exact nI_add (9 * n) (1)
  refine va_sld hx hb hX hbl hbA hS (vp_in_nI (show (9 * n) + 1 < L by omega) (by omega)) dL_law_561 ?_
  refine lv_topi (fun x7 ex7 => ?_)
  refine lv_aload_n hx hb dL_law_562 rfl (lv_at hl 4 rfl) ?_
  refine lv_iload hx hb dL_law_563 (lv_at hl 0 rfl) ?_
  refine lv_iconst (v := 2) hx hb dL_law_565 (by decide) ?_
  refine lv_iadd hx hb dL_law_566 ?_
  refine lv_topi (fun x8 ex8 => ?_)
  obtain rfl : x8 = nI ((9 * n) + 2) := by rw [ex8]; exact nI_add (9 * n) (2)
  refine va_sld hx hb hX hbl hbA hS (vp_in_nI (show (9 * n) + 2 < L by omega) (by omega)) dL_law_567 ?_
  refine lv_topi (fun x9 ex9 => ?_)
  have hPm := z_Pp z_pm hP
  have hDm := z_Dp z_pm hD
  obtain ⟨v0, a1, bs, cl, a5, a6, a7, fc, a9, mb, a11, a12, a13, a14, a15, a16, a17, a18, a19, a20, az, v22, v23, v24, v25, v26, bb, ct, a30, a31, a32, a33, a34, a35, a36, a37, pil, rwv, rl, v41, v42, v43, v44, v45, hIr, hO9, hC9, rfl⟩ := hM
  have hIr0 := hIr
  obtain ⟨ghtp, ghbs, ghus, ghcl, ghfc, ghmb, ghct, ghpil, ghrwv⟩ := hIr0
  have hFm := z_Fl hDm hS hA
  refine va_calli (va_runV (As := [.int x7, .int x9]) (rest := []) ⟨hx, hb, hml, hown, hts⟩ (kX7_member l dC dI h0 r cI cJ cZ v0 a1 tn bs cl a5 a6 a7 fc a9 mb a11 a12 a13 a14 a15 a16 a17 a18 a19 a20 az v22 v23 v24 v25 v26 bb ct un a30 a31 a32 a33 a34 a35 a36 a37 pil rwv rl v41 v42 v43 v44 v45 hIr x7 x9 hO9 H.size) (cwV 2 hts zgL_law_X7_member_63 rfl rfl rfl (by decide +kernel) ⟨(show 5 + 1 ≤ 10 by omega), (show 8 + (4 + 11) + 130 ≤ 372 by omega)⟩) (zVm (ci := 6) (q0 := 0) (q := (RX7, TX7, 46)) hKr (z_Pl hPm) (z_Dl hDm) hL (fun q h1 h2 => hS.2.1 q h1 h2) hFm rfl rfl rfl) rfl rfl hl.1 rfl (lv_room (Nat.le_of_ble_eq_true rfl)) dL_law_568 ⟨(show _ + 0 ≤ 601024 by omega), (show _ + 0 ≤ 7293034 by omega)⟩) hS (fun q _ h => hFm q h) hFm (fun r10 u8 t H2 locs ht2 hvm2 hw2 hB2 hz2 hk2 hS => ?_)
  obtain ⟨y0_th, y1_rl2, y2_pil2, y3_rwv2, y4_b0, y5_b1, y6_b2, y7_lk⟩ := u8
  obtain ⟨hP2, hK2, hD2⟩ := hB2
  rw [ht2] at hP2
  obtain ⟨hP, hD⟩ := z_Jn hPm hDm hk2 hFm hP2 hD2
  have hP := z_Pp z_pm.symm hP
  have hD := z_Dp z_pm.symm hD
  have hw2 : (∀ j, y2_pil2 j ≤ 15) ∧ (∀ j, y3_rwv2 j ≤ 15) := hw2
  obtain ⟨p0_, p1_⟩ := hw2
  refine lv_pop hx hb dL_law_571 rfl ?_
  have hG : zInv dC dI xh tb xb xu rh cI cJ cB cQ cV cZ h0 r ro (fun q : Nat => s.heap.size ≤ q) H2 := ⟨tn, bn, un, bf, wf, Rw, Ex, Bl, Ul, _, fo, hIy, hRc, hEx, hbz, hBl, hUl, ⟨y0_th, a1, bs, cl, a5, a6, a7, fc, a9, mb, a11, a12, a13, a14, a15, a16, a17, a18, a19, a20, az, v22, v23, v24, v25, v26, bb, ct, a30, a31, a32, a33, a34, a35, a36, a37, y2_pil2, y3_rwv2, y1_rl2, v41, y7_lk, y4_b0, y5_b1, y6_b2, ⟨(by omega), (by omega), (by omega), ghcl, ghfc, ghmb, ghct, p0_, p1_⟩, hO9, hC9, rfl⟩, hP, hD⟩
  refine lv_goto (tgt := 874) hx hb dL_law_572 (by decide) ?_
  refine W.widen (k := cells + 17) (n := slots + 1697) (by omega) (by omega) ?_
  exact kk _ _ _ hG hS (lv_sub hl [0, 1, 2, 3, 4] rfl)
theorem dL_law_575 : decode cL_law 575 = .ok (.aload_n 1, 1) := by decide +kernel
theorem dL_law_576 : decode cL_law 576 = .ok (.aload_n 0, 1) := by decide +kernel
theorem dL_law_577 : decode cL_law 577 = .ok (.iload 4, 2) := by decide +kernel
theorem dL_law_579 : decode cL_law 579 = .ok (.iconst 1, 1) := by decide +kernel
theorem dL_law_580 : decode cL_law 580 = .ok (.iadd, 1) := by decide +kernel
theorem dL_law_581 : decode cL_law 581 = .ok (.iaload, 1) := by decide +kernel
theorem dL_law_582 : decode cL_law 582 = .ok (.aload_n 0, 1) := by decide +kernel
theorem dL_law_583 : decode cL_law 583 = .ok (.iload 4, 2) := by decide +kernel
theorem dL_law_585 : decode cL_law 585 = .ok (.iconst 2, 1) := by decide +kernel
theorem dL_law_586 : decode cL_law 586 = .ok (.iadd, 1) := by decide +kernel
theorem dL_law_587 : decode cL_law 587 = .ok (.iaload, 1) := by decide +kernel
theorem dL_law_588 : decode cL_law 588 = .ok (.aload_n 0, 1) := by decide +kernel
theorem dL_law_589 : decode cL_law 589 = .ok (.iload 4, 2) := by decide +kernel
theorem dL_law_591 : decode cL_law 591 = .ok (.iconst 3, 1) := by decide +kernel
theorem dL_law_592 : decode cL_law 592 = .ok (.iadd, 1) := by decide +kernel
theorem dL_law_593 : decode cL_law 593 = .ok (.iaload, 1) := by decide +kernel
theorem dL_law_594 : decode cL_law 594 = .ok (.invokevirtual 64, 3) := by decide +kernel
theorem dL_law_597 : decode cL_law 597 = .ok (.pop, 1) := by decide +kernel
theorem dL_law_598 : decode cL_law 598 = .ok (.aload_n 2, 1) := by decide +kernel
theorem dL_law_599 : decode cL_law 599 = .ok (.aload_n 0, 1) := by decide +kernel
theorem dL_law_600 : decode cL_law 600 = .ok (.iload 4, 2) := by decide +kernel
theorem dL_law_602 : decode cL_law 602 = .ok (.iconst 1, 1) := by decide +kernel
theorem dL_law_603 : decode cL_law 603 = .ok (.iadd, 1) := by decide +kernel
theorem dL_law_604 : decode cL_law 604 = .ok (.iaload, 1) := by decide +kernel
theorem dL_law_605 : decode cL_law 605 = .ok (.aload_n 0, 1) := by decide +kernel
theorem dL_law_606 : decode cL_law 606 = .ok (.iload 4, 2) := by decide +kernel
theorem dL_law_608 : decode cL_law 608 = .ok (.iconst 2, 1) := by decide +kernel
theorem dL_law_609 : decode cL_law 609 = .ok (.iadd, 1) := by decide +kernel
theorem dL_law_610 : decode cL_law 610 = .ok (.iaload, 1) := by decide +kernel
theorem dL_law_611 : decode cL_law 611 = .ok (.aload_n 0, 1) := by decide +kernel
theorem dL_law_612 : decode cL_law 612 = .ok (.iload 4, 2) := by decide +kernel
theorem dL_law_614 : decode cL_law 614 = .ok (.iconst 3, 1) := by decide +kernel
theorem dL_law_615 : decode cL_law 615 = .ok (.iadd, 1) := by decide +kernel
theorem dL_law_616 : decode cL_law 616 = .ok (.iaload, 1) := by decide +kernel
theorem dL_law_617 : decode cL_law 617 = .ok (.invokevirtual 67, 3) := by decide +kernel
theorem dL_law_620 : decode cL_law 620 = .ok (.pop, 1) := by decide +kernel
theorem dL_law_621 : decode cL_law 621 = .ok (.goto 253, 3) := by decide +kernel
set_option maxHeartbeats 4000000 in
set_option maxRecDepth 100000 in
theorem zc_9 {p : Program} {l : Launch} {e : Env} {s : State} {m : MethodId} {below : List Frame} {meth : Method} {c : Code} {dC : Nat → ClassId} {dI : Nat → Nat → Nat} {b L : Nat} {xs : Nat → Int32} (C0 : lw_At p s m meth c b L xs) (hL9 : L ≤ 4608) (hE : zF s) (hL : zL (fun q : Nat => s.heap.size ≤ q) s s.heap) (hl9 : l.stackTraces = false) {sa sb : Nat} (hXs : zX sa sb s) (hZs : zZ (fun q : Nat => s.heap.size ≤ q) s s.heap) {xh tb xb xu rh : Nat} {cI cJ cB cQ cV cZ : ClassId} {h0 : Nat} {r : Nat → Nat} {ro : Nat} (hK : va_K (dC, dI) vwCl [(cI, .int), (cJ, .long), (cB, .byte), (cQ, .object RX0), (cV, .object RX5), (cZ, .boolean)] s) {n cells slots : Nat} (hn : 9 * n + 9 ≤ L) (hcc : cells + 17 ≤ 601024) (hss : slots + 1697 ≤ 7293034) {H : Heap} {locs : List Loc} (hG : zInv dC dI xh tb xb xu rh cI cJ cB cQ cV cZ h0 r ro (fun q : Nat => s.heap.size ≤ q) H) (hS : va_S (fun q : Nat => s.heap.size ≤ q) s.heap H locs) {ls : Array Slot} (hl : lv_has ls 7 [(4, .int (nI (9 * n))), (3, .ref ro), (2, .ref h0), (1, .ref xh), (0, .ref b)]) (kk : ∀ (H : Heap) (locs : List Loc) (ls : Array Slot), zInv dC dI xh tb xb xu rh cI cJ cB cQ cV cZ h0 r ro (fun q : Nat => s.heap.size ≤ q) H → va_S (fun q : Nat => s.heap.size ≤ q) s.heap H locs → lv_has ls 7 [(4, .int (nI (9 * n))), (3, .ref ro), (2, .ref h0), (1, .ref xh), (0, .ref b)] → W p l e room_1 s m #[Value.ref b] below meth c H locs (cells + 17) (slots + 1697) (lw_Z below #[Value.ref b] s) (F0 m 874 ls [])) : W p l e room_1 s m #[Value.ref b] below meth c H locs cells slots (lw_Z below #[Value.ref b] s) (F0 m 575 ls []) := by
  obtain ⟨hx, hb, hr, hml, hown, hts, hX, hbl, hlocks, hgv⟩ := id C0
  have hown : s.vm.findClass RL = some m.cls := hown
  have hA : ∀ q : Nat, s.heap.size ≤ q → (fun q : Nat => s.heap.size ≤ q) q := fun _ h => h
  have hbA : ¬ (fun q : Nat => s.heap.size ≤ q) b := Nat.not_le.mpr hbl
  obtain ⟨tn, bn, un, bf, wf, Rw, Ex, Bl, Ul, Mw, fo, hIy, hRc, hEx, hbz, hBl, hUl, hM, hP, hD⟩ := hG
  have hKx := hK.sub (tys' := [(cI, .int), (cJ, .long), (cB, .byte), (cQ, .object RX0), (cV, .object RX5)]) [0, 1, 2, 3, 4] rfl
  have hKr := hK.sub (tys' := [(cI, .int), (cJ, .long), (cZ, .boolean)]) [0, 1, 5] rfl
  have hIy0 := hIy
  obtain ⟨htn, hbn, hun⟩ := hIy0
  refine lv_aload_n hx hb dL_law_575 rfl (lv_at hl 3 rfl) ?_
  refine lv_aload_n hx hb dL_law_576 rfl (lv_at hl 4 rfl) ?_
  refine lv_iload hx hb dL_law_577 (lv_at hl 0 rfl) ?_
  refine lv_iconst (v := 1) hx hb dL_law_579 (by decide) ?_
  refine lv_iadd hx hb dL_law_580 ?_
  refine lv_topi (fun x1 ex1 => ?_)
  obtain rfl : x1 = nI ((9 * n) + 1) := by rw [ex1]; exact nI_add (9 * n) (1)
  refine va_sld hx hb hX hbl hbA hS (vp_in_nI (show (9 * n) + 1 < L by omega) (by omega)) dL_law_581 ?_
  refine lv_topi (fun x2 ex2 => ?_)
  refine lv_aload_n hx hb dL_law_582 rfl (lv_at hl 4 rfl) ?_
  refine lv_iload hx hb dL_law_583 (lv_at hl 0 rfl) ?_
  refine lv_iconst (v := 2) hx hb dL_law_585 (by decide) ?_
  refine lv_iadd hx hb dL_law_586 ?_
  refine lv_topi (fun x3 ex3 => ?_)
  obtain rfl : x3 = nI ((9 * n) + 2) := by rw [ex3]; exact nI_add (9 * n) (2)
  refine va_sld hx hb hX hbl hbA hS (vp_in_nI (show (9 * n) + 2 < L by omega) (by omega)) dL_law_587 ?_
  refine lv_topi (fun x4 ex4 => ?_)
  refine lv_aload_n hx hb dL_law_588 rfl (lv_at hl 4 rfl) ?_
  refine lv_iload hx hb dL_law_589 (lv_at hl 0 rfl) ?_
  refine lv_iconst (v := 3) hx hb dL_law_591 (by decide) ?_
  refine lv_iadd hx hb dL_law_592 ?_
  refine lv_topi (fun x5 ex5 => ?_)
  obtain rfl : x5 = nI ((9 * n) + 3) := by rw [ex5]; exact nI_add (9 * n) (3)
  refine va_sld hx hb hX hbl hbA hS (vp_in_nI (show (9 * n) + 3 < L by omega) (by omega)) dL_law_593 ?_
  refine lv_topi (fun x6 ex6 => ?_)
  have hBs : zBs (dC, dI) cI cJ cB bn bf H := hBl.bs (z_Pl (z_Pr (z_Pr (z_Pr hP))))
  have hUs : zUs (dC, dI) cI cJ cB un wf H := hUl.us (z_Pl (z_Pr (z_Pr (z_Pr (z_Pr hP)))))
  refine vp_callSi (W.runV (As := [.int x2, .int x4, .int x6]) (rest := []) ⟨hx, hb, hml, hown, hts⟩ (kX6_done l dC dI xh tb xb xu rh cI cJ cB cQ cV tn bn un bf wf hIy x2 x4 x6) (cwV 3 hts zgL_law_X6_done_64 rfl rfl rfl (by decide +kernel) ⟨(show 6 + 1 ≤ 10 by omega), (show 8 + (4 + 11) + 147 ≤ 372 by omega)⟩) (zVX (ci := 5) (q0 := 0) (q := (RX6, TX6, 7)) hKx (z_Pl hP) hE hBs hUs rfl rfl rfl) rfl rfl hl.1 rfl (lv_room (Nat.le_of_ble_eq_true rfl)) dL_law_594 ⟨(show _ + 0 ≤ 601024 by omega), (show _ + 0 ≤ 7293034 by omega)⟩) (fun r7 hw => ?_)
  refine lv_pop hx hb dL_law_597 rfl ?_
  refine lv_aload_n hx hb dL_law_598 rfl (lv_at hl 2 rfl) ?_
  refine lv_aload_n hx hb dL_law_599 rfl (lv_at hl 4 rfl) ?_
  refine lv_iload hx hb dL_law_600 (lv_at hl 0 rfl) ?_
  refine lv_iconst (v := 1) hx hb dL_law_602 (by decide) ?_
  refine lv_iadd hx hb dL_law_603 ?_
  refine lv_topi (fun x8 ex8 => ?_)
  obtain rfl : x8 = nI ((9 * n) + 1) := by rw [ex8]; exact nI_add (9 * n) (1)
  refine va_sld hx hb hX hbl hbA hS (vp_in_nI (show (9 * n) + 1 < L by omega) (by omega)) dL_law_604 ?_
  refine lv_topi (fun x9 ex9 => ?_)
  refine lv_aload_n hx hb dL_law_605 rfl (lv_at hl 4 rfl) ?_
  refine lv_iload hx hb dL_law_606 (lv_at hl 0 rfl) ?_
  refine lv_iconst (v := 2) hx hb dL_law_608 (by decide) ?_
  refine lv_iadd hx hb dL_law_609 ?_
  refine lv_topi (fun x10 ex10 => ?_)
  obtain rfl : x10 = nI ((9 * n) + 2) := by rw [ex10]; exact nI_add (9 * n) (2)
  refine va_sld hx hb hX hbl hbA hS (vp_in_nI (show (9 * n) + 2 < L by omega) (by omega)) dL_law_610 ?_
  refine lv_topi (fun x11 ex11 => ?_)
  refine lv_aload_n hx hb dL_law_611 rfl (lv_at hl 4 rfl) ?_
  refine lv_iload hx hb dL_law_612 (lv_at hl 0 rfl) ?_
  refine lv_iconst (v := 3) hx hb dL_law_614 (by decide) ?_
  refine lv_iadd hx hb dL_law_615 ?_
  refine lv_topi (fun x12 ex12 => ?_)
  obtain rfl : x12 = nI ((9 * n) + 3) := by rw [ex12]; exact nI_add (9 * n) (3)
  refine va_sld hx hb hX hbl hbA hS (vp_in_nI (show (9 * n) + 3 < L by omega) (by omega)) dL_law_616 ?_
  refine lv_topi (fun x13 ex13 => ?_)
  have hPm := z_Pp z_pm hP
  have hDm := z_Dp z_pm hD
  obtain ⟨v0, a1, bs, cl, a5, a6, a7, fc, a9, mb, a11, a12, a13, a14, a15, a16, a17, a18, a19, a20, az, v22, v23, v24, v25, v26, bb, ct, a30, a31, a32, a33, a34, a35, a36, a37, pil, rwv, rl, v41, v42, v43, v44, v45, hIr, hO9, hC9, rfl⟩ := hM
  have hIr0 := hIr
  obtain ⟨ghtp, ghbs, ghus, ghcl, ghfc, ghmb, ghct, ghpil, ghrwv⟩ := hIr0
  have hFm := z_Fl hDm hS hA
  refine va_calli (va_runV (As := [.int x9, .int x11, .int x13]) (rest := []) ⟨hx, hb, hml, hown, hts⟩ (kX7_done l dC dI h0 r cI cJ cZ v0 a1 tn bs cl a5 a6 a7 fc a9 mb a11 a12 a13 a14 a15 a16 a17 a18 a19 a20 az v22 v23 v24 v25 v26 bb ct un a30 a31 a32 a33 a34 a35 a36 a37 pil rwv rl v41 v42 v43 v44 v45 hIr x9 x11 x13 hO9 H.size) (cwV 3 hts zgL_law_X7_done_67 rfl rfl rfl (by decide +kernel) ⟨(show 6 + 1 ≤ 10 by omega), (show 8 + (5 + 11) + 158 ≤ 372 by omega)⟩) (zVm (ci := 6) (q0 := 0) (q := (RX7, TX7, 46)) hKr (z_Pl hPm) (z_Dl hDm) hL (fun q h1 h2 => hS.2.1 q h1 h2) hFm rfl rfl rfl) rfl rfl hl.1 rfl (lv_room (Nat.le_of_ble_eq_true rfl)) dL_law_617 ⟨(show _ + 0 ≤ 601024 by omega), (show _ + 0 ≤ 7293034 by omega)⟩) hS (fun q _ h => hFm q h) hFm (fun r14 u8 t H2 locs ht2 hvm2 hw2 hB2 hz2 hk2 hS => ?_)
  obtain ⟨y0_th, y1_rl2, y2_pil2, y3_rwv2, y4_b0, y5_b1, y6_b2, y7_lk⟩ := u8
  obtain ⟨hP2, hK2, hD2⟩ := hB2
  rw [ht2] at hP2
  obtain ⟨hP, hD⟩ := z_Jn hPm hDm hk2 hFm hP2 hD2
  have hP := z_Pp z_pm.symm hP
  have hD := z_Dp z_pm.symm hD
  have hw2 : (∀ j, y2_pil2 j ≤ 15) ∧ (∀ j, y3_rwv2 j ≤ 15) := hw2
  obtain ⟨p0_, p1_⟩ := hw2
  refine lv_pop hx hb dL_law_620 rfl ?_
  have hG : zInv dC dI xh tb xb xu rh cI cJ cB cQ cV cZ h0 r ro (fun q : Nat => s.heap.size ≤ q) H2 := ⟨tn, bn, un, bf, wf, Rw, Ex, Bl, Ul, _, fo, hIy, hRc, hEx, hbz, hBl, hUl, ⟨y0_th, a1, bs, cl, a5, a6, a7, fc, a9, mb, a11, a12, a13, a14, a15, a16, a17, a18, a19, a20, az, v22, v23, v24, v25, v26, bb, ct, a30, a31, a32, a33, a34, a35, a36, a37, y2_pil2, y3_rwv2, y1_rl2, v41, y7_lk, y4_b0, y5_b1, y6_b2, ⟨(by omega), (by omega), (by omega), ghcl, ghfc, ghmb, ghct, p0_, p1_⟩, hO9, hC9, rfl⟩, hP, hD⟩
  refine lv_goto (tgt := 874) hx hb dL_law_621 (by decide) ?_
  refine W.widen (k := cells + 17) (n := slots + 1697) (by omega) (by omega) ?_
  exact kk _ _ _ hG hS (lv_sub hl [0, 1, 2, 3, 4] rfl)
theorem dL_law_624 : decode cL_law 624 = .ok (.aload_n 1, 1) := by decide +kernel
theorem dL_law_625 : decode cL_law 625 = .ok (.aload_n 0, 1) := by decide +kernel
theorem dL_law_626 : decode cL_law 626 = .ok (.iload 4, 2) := by decide +kernel
theorem dL_law_628 : decode cL_law 628 = .ok (.iconst 1, 1) := by decide +kernel
theorem dL_law_629 : decode cL_law 629 = .ok (.iadd, 1) := by decide +kernel
theorem dL_law_630 : decode cL_law 630 = .ok (.iaload, 1) := by decide +kernel
theorem dL_law_631 : decode cL_law 631 = .ok (.aload_n 0, 1) := by decide +kernel
theorem dL_law_632 : decode cL_law 632 = .ok (.iload 4, 2) := by decide +kernel
theorem dL_law_634 : decode cL_law 634 = .ok (.iconst 2, 1) := by decide +kernel
theorem dL_law_635 : decode cL_law 635 = .ok (.iadd, 1) := by decide +kernel
theorem dL_law_636 : decode cL_law 636 = .ok (.iaload, 1) := by decide +kernel
theorem dL_law_637 : decode cL_law 637 = .ok (.aload_n 0, 1) := by decide +kernel
theorem dL_law_638 : decode cL_law 638 = .ok (.iload 4, 2) := by decide +kernel
theorem dL_law_640 : decode cL_law 640 = .ok (.iconst 3, 1) := by decide +kernel
theorem dL_law_641 : decode cL_law 641 = .ok (.iadd, 1) := by decide +kernel
theorem dL_law_642 : decode cL_law 642 = .ok (.iaload, 1) := by decide +kernel
theorem dL_law_643 : decode cL_law 643 = .ok (.invokevirtual 68, 3) := by decide +kernel
theorem dL_law_646 : decode cL_law 646 = .ok (.pop, 1) := by decide +kernel
theorem dL_law_647 : decode cL_law 647 = .ok (.aload_n 2, 1) := by decide +kernel
theorem dL_law_648 : decode cL_law 648 = .ok (.aload_n 0, 1) := by decide +kernel
theorem dL_law_649 : decode cL_law 649 = .ok (.iload 4, 2) := by decide +kernel
theorem dL_law_651 : decode cL_law 651 = .ok (.iconst 1, 1) := by decide +kernel
theorem dL_law_652 : decode cL_law 652 = .ok (.iadd, 1) := by decide +kernel
theorem dL_law_653 : decode cL_law 653 = .ok (.iaload, 1) := by decide +kernel
theorem dL_law_654 : decode cL_law 654 = .ok (.aload_n 0, 1) := by decide +kernel
theorem dL_law_655 : decode cL_law 655 = .ok (.iload 4, 2) := by decide +kernel
theorem dL_law_657 : decode cL_law 657 = .ok (.iconst 2, 1) := by decide +kernel
theorem dL_law_658 : decode cL_law 658 = .ok (.iadd, 1) := by decide +kernel
theorem dL_law_659 : decode cL_law 659 = .ok (.iaload, 1) := by decide +kernel
theorem dL_law_660 : decode cL_law 660 = .ok (.aload_n 0, 1) := by decide +kernel
theorem dL_law_661 : decode cL_law 661 = .ok (.iload 4, 2) := by decide +kernel
theorem dL_law_663 : decode cL_law 663 = .ok (.iconst 3, 1) := by decide +kernel
theorem dL_law_664 : decode cL_law 664 = .ok (.iadd, 1) := by decide +kernel
theorem dL_law_665 : decode cL_law 665 = .ok (.iaload, 1) := by decide +kernel
theorem dL_law_666 : decode cL_law 666 = .ok (.invokevirtual 71, 3) := by decide +kernel
theorem dL_law_669 : decode cL_law 669 = .ok (.pop, 1) := by decide +kernel
theorem dL_law_670 : decode cL_law 670 = .ok (.goto 204, 3) := by decide +kernel
set_option maxHeartbeats 4000000 in
set_option maxRecDepth 100000 in
theorem zc_10 {p : Program} {l : Launch} {e : Env} {s : State} {m : MethodId} {below : List Frame} {meth : Method} {c : Code} {dC : Nat → ClassId} {dI : Nat → Nat → Nat} {b L : Nat} {xs : Nat → Int32} (C0 : lw_At p s m meth c b L xs) (hL9 : L ≤ 4608) (hE : zF s) (hL : zL (fun q : Nat => s.heap.size ≤ q) s s.heap) (hl9 : l.stackTraces = false) {sa sb : Nat} (hXs : zX sa sb s) (hZs : zZ (fun q : Nat => s.heap.size ≤ q) s s.heap) {xh tb xb xu rh : Nat} {cI cJ cB cQ cV cZ : ClassId} {h0 : Nat} {r : Nat → Nat} {ro : Nat} (hK : va_K (dC, dI) vwCl [(cI, .int), (cJ, .long), (cB, .byte), (cQ, .object RX0), (cV, .object RX5), (cZ, .boolean)] s) {n cells slots : Nat} (hn : 9 * n + 9 ≤ L) (hcc : cells + 17 ≤ 601024) (hss : slots + 1697 ≤ 7293034) {H : Heap} {locs : List Loc} (hG : zInv dC dI xh tb xb xu rh cI cJ cB cQ cV cZ h0 r ro (fun q : Nat => s.heap.size ≤ q) H) (hS : va_S (fun q : Nat => s.heap.size ≤ q) s.heap H locs) {ls : Array Slot} (hl : lv_has ls 7 [(4, .int (nI (9 * n))), (3, .ref ro), (2, .ref h0), (1, .ref xh), (0, .ref b)]) (kk : ∀ (H : Heap) (locs : List Loc) (ls : Array Slot), zInv dC dI xh tb xb xu rh cI cJ cB cQ cV cZ h0 r ro (fun q : Nat => s.heap.size ≤ q) H → va_S (fun q : Nat => s.heap.size ≤ q) s.heap H locs → lv_has ls 7 [(4, .int (nI (9 * n))), (3, .ref ro), (2, .ref h0), (1, .ref xh), (0, .ref b)] → W p l e room_1 s m #[Value.ref b] below meth c H locs (cells + 17) (slots + 1697) (lw_Z below #[Value.ref b] s) (F0 m 874 ls [])) : W p l e room_1 s m #[Value.ref b] below meth c H locs cells slots (lw_Z below #[Value.ref b] s) (F0 m 624 ls []) := by
  obtain ⟨hx, hb, hr, hml, hown, hts, hX, hbl, hlocks, hgv⟩ := id C0
  have hown : s.vm.findClass RL = some m.cls := hown
  have hA : ∀ q : Nat, s.heap.size ≤ q → (fun q : Nat => s.heap.size ≤ q) q := fun _ h => h
  have hbA : ¬ (fun q : Nat => s.heap.size ≤ q) b := Nat.not_le.mpr hbl
  obtain ⟨tn, bn, un, bf, wf, Rw, Ex, Bl, Ul, Mw, fo, hIy, hRc, hEx, hbz, hBl, hUl, hM, hP, hD⟩ := hG
  have hKx := hK.sub (tys' := [(cI, .int), (cJ, .long), (cB, .byte), (cQ, .object RX0), (cV, .object RX5)]) [0, 1, 2, 3, 4] rfl
  have hKr := hK.sub (tys' := [(cI, .int), (cJ, .long), (cZ, .boolean)]) [0, 1, 5] rfl
  have hIy0 := hIy
  obtain ⟨htn, hbn, hun⟩ := hIy0
  refine lv_aload_n hx hb dL_law_624 rfl (lv_at hl 3 rfl) ?_
  refine lv_aload_n hx hb dL_law_625 rfl (lv_at hl 4 rfl) ?_
  refine lv_iload hx hb dL_law_626 (lv_at hl 0 rfl) ?_
  refine lv_iconst (v := 1) hx hb dL_law_628 (by decide) ?_
  refine lv_iadd hx hb dL_law_629 ?_
  refine lv_topi (fun x1 ex1 => ?_)
  obtain rfl : x1 = nI ((9 * n) + 1) := by rw [ex1]; exact nI_add (9 * n) (1)
  refine va_sld hx hb hX hbl hbA hS (vp_in_nI (show (9 * n) + 1 < L by omega) (by omega)) dL_law_630 ?_
  refine lv_topi (fun x2 ex2 => ?_)
  refine lv_aload_n hx hb dL_law_631 rfl (lv_at hl 4 rfl) ?_
  refine lv_iload hx hb dL_law_632 (lv_at hl 0 rfl) ?_
  refine lv_iconst (v := 2) hx hb dL_law_634 (by decide) ?_
  refine lv_iadd hx hb dL_law_635 ?_
  refine lv_topi (fun x3 ex3 => ?_)
  obtain rfl : x3 = nI ((9 * n) + 2) := by rw [ex3]; exact nI_add (9 * n) (2)
  refine va_sld hx hb hX hbl hbA hS (vp_in_nI (show (9 * n) + 2 < L by omega) (by omega)) dL_law_636 ?_
  refine lv_topi (fun x4 ex4 => ?_)
  refine lv_aload_n hx hb dL_law_637 rfl (lv_at hl 4 rfl) ?_
  refine lv_iload hx hb dL_law_638 (lv_at hl 0 rfl) ?_
  refine lv_iconst (v := 3) hx hb dL_law_640 (by decide) ?_
  refine lv_iadd hx hb dL_law_641 ?_
  refine lv_topi (fun x5 ex5 => ?_)
  obtain rfl : x5 = nI ((9 * n) + 3) := by rw [ex5]; exact nI_add (9 * n) (3)
  refine va_sld hx hb hX hbl hbA hS (vp_in_nI (show (9 * n) + 3 < L by omega) (by omega)) dL_law_642 ?_
  refine lv_topi (fun x6 ex6 => ?_)
  have hBs : zBs (dC, dI) cI cJ cB bn bf H := hBl.bs (z_Pl (z_Pr (z_Pr (z_Pr hP))))
  have hUs : zUs (dC, dI) cI cJ cB un wf H := hUl.us (z_Pl (z_Pr (z_Pr (z_Pr (z_Pr hP)))))
  refine vp_callSi (W.runV (As := [.int x2, .int x4, .int x6]) (rest := []) ⟨hx, hb, hml, hown, hts⟩ (kX6_doneMember l dC dI xh tb xb xu rh cI cJ cB cQ cV tn bn un bf wf hIy x2 x4 x6) (cwV 3 hts zgL_law_X6_doneMember_68 rfl rfl rfl (by decide +kernel) ⟨(show 6 + 1 ≤ 10 by omega), (show 8 + (4 + 11) + 147 ≤ 372 by omega)⟩) (zVX (ci := 5) (q0 := 0) (q := (RX6, TX6, 7)) hKx (z_Pl hP) hE hBs hUs rfl rfl rfl) rfl rfl hl.1 rfl (lv_room (Nat.le_of_ble_eq_true rfl)) dL_law_643 ⟨(show _ + 0 ≤ 601024 by omega), (show _ + 0 ≤ 7293034 by omega)⟩) (fun r7 hw => ?_)
  refine lv_pop hx hb dL_law_646 rfl ?_
  refine lv_aload_n hx hb dL_law_647 rfl (lv_at hl 2 rfl) ?_
  refine lv_aload_n hx hb dL_law_648 rfl (lv_at hl 4 rfl) ?_
  refine lv_iload hx hb dL_law_649 (lv_at hl 0 rfl) ?_
  refine lv_iconst (v := 1) hx hb dL_law_651 (by decide) ?_
  refine lv_iadd hx hb dL_law_652 ?_
  refine lv_topi (fun x8 ex8 => ?_)
  obtain rfl : x8 = nI ((9 * n) + 1) := by rw [ex8]; exact nI_add (9 * n) (1)
  refine va_sld hx hb hX hbl hbA hS (vp_in_nI (show (9 * n) + 1 < L by omega) (by omega)) dL_law_653 ?_
  refine lv_topi (fun x9 ex9 => ?_)
  refine lv_aload_n hx hb dL_law_654 rfl (lv_at hl 4 rfl) ?_
  refine lv_iload hx hb dL_law_655 (lv_at hl 0 rfl) ?_
  refine lv_iconst (v := 2) hx hb dL_law_657 (by decide) ?_
  refine lv_iadd hx hb dL_law_658 ?_
  refine lv_topi (fun x10 ex10 => ?_)
  obtain rfl : x10 = nI ((9 * n) + 2) := by rw [ex10]; exact nI_add (9 * n) (2)
  refine va_sld hx hb hX hbl hbA hS (vp_in_nI (show (9 * n) + 2 < L by omega) (by omega)) dL_law_659 ?_
  refine lv_topi (fun x11 ex11 => ?_)
  refine lv_aload_n hx hb dL_law_660 rfl (lv_at hl 4 rfl) ?_
  refine lv_iload hx hb dL_law_661 (lv_at hl 0 rfl) ?_
  refine lv_iconst (v := 3) hx hb dL_law_663 (by decide) ?_
  refine lv_iadd hx hb dL_law_664 ?_
  refine lv_topi (fun x12 ex12 => ?_)
  obtain rfl : x12 = nI ((9 * n) + 3) := by rw [ex12]; exact nI_add (9 * n) (3)
  refine va_sld hx hb hX hbl hbA hS (vp_in_nI (show (9 * n) + 3 < L by omega) (by omega)) dL_law_665 ?_
  refine lv_topi (fun x13 ex13 => ?_)
  have hPm := z_Pp z_pm hP
  have hDm := z_Dp z_pm hD
  obtain ⟨v0, a1, bs, cl, a5, a6, a7, fc, a9, mb, a11, a12, a13, a14, a15, a16, a17, a18, a19, a20, az, v22, v23, v24, v25, v26, bb, ct, a30, a31, a32, a33, a34, a35, a36, a37, pil, rwv, rl, v41, v42, v43, v44, v45, hIr, hO9, hC9, rfl⟩ := hM
  have hIr0 := hIr
  obtain ⟨ghtp, ghbs, ghus, ghcl, ghfc, ghmb, ghct, ghpil, ghrwv⟩ := hIr0
  have hFm := z_Fl hDm hS hA
  refine va_calli (va_runV (As := [.int x9, .int x11, .int x13]) (rest := []) ⟨hx, hb, hml, hown, hts⟩ (kX7_doneMember l dC dI h0 r cI cJ cZ v0 a1 tn bs cl a5 a6 a7 fc a9 mb a11 a12 a13 a14 a15 a16 a17 a18 a19 a20 az v22 v23 v24 v25 v26 bb ct un a30 a31 a32 a33 a34 a35 a36 a37 pil rwv rl v41 v42 v43 v44 v45 hIr x9 x11 x13 hO9 H.size) (cwV 3 hts zgL_law_X7_doneMember_71 rfl rfl rfl (by decide +kernel) ⟨(show 6 + 1 ≤ 10 by omega), (show 8 + (5 + 11) + 158 ≤ 372 by omega)⟩) (zVm (ci := 6) (q0 := 0) (q := (RX7, TX7, 46)) hKr (z_Pl hPm) (z_Dl hDm) hL (fun q h1 h2 => hS.2.1 q h1 h2) hFm rfl rfl rfl) rfl rfl hl.1 rfl (lv_room (Nat.le_of_ble_eq_true rfl)) dL_law_666 ⟨(show _ + 0 ≤ 601024 by omega), (show _ + 0 ≤ 7293034 by omega)⟩) hS (fun q _ h => hFm q h) hFm (fun r14 u8 t H2 locs ht2 hvm2 hw2 hB2 hz2 hk2 hS => ?_)
  obtain ⟨y0_th, y1_rl2, y2_pil2, y3_rwv2, y4_b0, y5_b1, y6_b2, y7_lk⟩ := u8
  obtain ⟨hP2, hK2, hD2⟩ := hB2
  rw [ht2] at hP2
  obtain ⟨hP, hD⟩ := z_Jn hPm hDm hk2 hFm hP2 hD2
  have hP := z_Pp z_pm.symm hP
  have hD := z_Dp z_pm.symm hD
  have hw2 : (∀ j, y2_pil2 j ≤ 15) ∧ (∀ j, y3_rwv2 j ≤ 15) := hw2
  obtain ⟨p0_, p1_⟩ := hw2
  refine lv_pop hx hb dL_law_669 rfl ?_
  have hG : zInv dC dI xh tb xb xu rh cI cJ cB cQ cV cZ h0 r ro (fun q : Nat => s.heap.size ≤ q) H2 := ⟨tn, bn, un, bf, wf, Rw, Ex, Bl, Ul, _, fo, hIy, hRc, hEx, hbz, hBl, hUl, ⟨y0_th, a1, bs, cl, a5, a6, a7, fc, a9, mb, a11, a12, a13, a14, a15, a16, a17, a18, a19, a20, az, v22, v23, v24, v25, v26, bb, ct, a30, a31, a32, a33, a34, a35, a36, a37, y2_pil2, y3_rwv2, y1_rl2, v41, y7_lk, y4_b0, y5_b1, y6_b2, ⟨(by omega), (by omega), (by omega), ghcl, ghfc, ghmb, ghct, p0_, p1_⟩, hO9, hC9, rfl⟩, hP, hD⟩
  refine lv_goto (tgt := 874) hx hb dL_law_670 (by decide) ?_
  refine W.widen (k := cells + 17) (n := slots + 1697) (by omega) (by omega) ?_
  exact kk _ _ _ hG hS (lv_sub hl [0, 1, 2, 3, 4] rfl)
theorem dL_law_710 : decode cL_law 710 = .ok (.aload_n 1, 1) := by decide +kernel
theorem dL_law_711 : decode cL_law 711 = .ok (.aload_n 0, 1) := by decide +kernel
theorem dL_law_712 : decode cL_law 712 = .ok (.iload 4, 2) := by decide +kernel
theorem dL_law_714 : decode cL_law 714 = .ok (.iconst 1, 1) := by decide +kernel
theorem dL_law_715 : decode cL_law 715 = .ok (.iadd, 1) := by decide +kernel
theorem dL_law_716 : decode cL_law 716 = .ok (.iaload, 1) := by decide +kernel
theorem dL_law_717 : decode cL_law 717 = .ok (.invokevirtual 76, 3) := by decide +kernel
theorem dL_law_720 : decode cL_law 720 = .ok (.pop, 1) := by decide +kernel
theorem dL_law_721 : decode cL_law 721 = .ok (.aload_n 2, 1) := by decide +kernel
theorem dL_law_722 : decode cL_law 722 = .ok (.aload_n 0, 1) := by decide +kernel
theorem dL_law_723 : decode cL_law 723 = .ok (.iload 4, 2) := by decide +kernel
theorem dL_law_725 : decode cL_law 725 = .ok (.iconst 1, 1) := by decide +kernel
theorem dL_law_726 : decode cL_law 726 = .ok (.iadd, 1) := by decide +kernel
theorem dL_law_727 : decode cL_law 727 = .ok (.iaload, 1) := by decide +kernel
theorem dL_law_728 : decode cL_law 728 = .ok (.invokevirtual 79, 3) := by decide +kernel
theorem dL_law_731 : decode cL_law 731 = .ok (.pop, 1) := by decide +kernel
theorem dL_law_732 : decode cL_law 732 = .ok (.goto 142, 3) := by decide +kernel
set_option maxHeartbeats 4000000 in
set_option maxRecDepth 100000 in
theorem zc_12 {p : Program} {l : Launch} {e : Env} {s : State} {m : MethodId} {below : List Frame} {meth : Method} {c : Code} {dC : Nat → ClassId} {dI : Nat → Nat → Nat} {b L : Nat} {xs : Nat → Int32} (C0 : lw_At p s m meth c b L xs) (hL9 : L ≤ 4608) (hE : zF s) (hL : zL (fun q : Nat => s.heap.size ≤ q) s s.heap) (hl9 : l.stackTraces = false) {sa sb : Nat} (hXs : zX sa sb s) (hZs : zZ (fun q : Nat => s.heap.size ≤ q) s s.heap) {xh tb xb xu rh : Nat} {cI cJ cB cQ cV cZ : ClassId} {h0 : Nat} {r : Nat → Nat} {ro : Nat} (hK : va_K (dC, dI) vwCl [(cI, .int), (cJ, .long), (cB, .byte), (cQ, .object RX0), (cV, .object RX5), (cZ, .boolean)] s) {n cells slots : Nat} (hn : 9 * n + 9 ≤ L) (hcc : cells + 17 ≤ 601024) (hss : slots + 1697 ≤ 7293034) {H : Heap} {locs : List Loc} (hG : zInv dC dI xh tb xb xu rh cI cJ cB cQ cV cZ h0 r ro (fun q : Nat => s.heap.size ≤ q) H) (hS : va_S (fun q : Nat => s.heap.size ≤ q) s.heap H locs) {ls : Array Slot} (hl : lv_has ls 7 [(4, .int (nI (9 * n))), (3, .ref ro), (2, .ref h0), (1, .ref xh), (0, .ref b)]) (kk : ∀ (H : Heap) (locs : List Loc) (ls : Array Slot), zInv dC dI xh tb xb xu rh cI cJ cB cQ cV cZ h0 r ro (fun q : Nat => s.heap.size ≤ q) H → va_S (fun q : Nat => s.heap.size ≤ q) s.heap H locs → lv_has ls 7 [(4, .int (nI (9 * n))), (3, .ref ro), (2, .ref h0), (1, .ref xh), (0, .ref b)] → W p l e room_1 s m #[Value.ref b] below meth c H locs (cells + 17) (slots + 1697) (lw_Z below #[Value.ref b] s) (F0 m 874 ls [])) : W p l e room_1 s m #[Value.ref b] below meth c H locs cells slots (lw_Z below #[Value.ref b] s) (F0 m 710 ls []) := by
  obtain ⟨hx, hb, hr, hml, hown, hts, hX, hbl, hlocks, hgv⟩ := id C0
  have hown : s.vm.findClass RL = some m.cls := hown
  have hA : ∀ q : Nat, s.heap.size ≤ q → (fun q : Nat => s.heap.size ≤ q) q := fun _ h => h
  have hbA : ¬ (fun q : Nat => s.heap.size ≤ q) b := Nat.not_le.mpr hbl
  obtain ⟨tn, bn, un, bf, wf, Rw, Ex, Bl, Ul, Mw, fo, hIy, hRc, hEx, hbz, hBl, hUl, hM, hP, hD⟩ := hG
  have hKx := hK.sub (tys' := [(cI, .int), (cJ, .long), (cB, .byte), (cQ, .object RX0), (cV, .object RX5)]) [0, 1, 2, 3, 4] rfl
  have hKr := hK.sub (tys' := [(cI, .int), (cJ, .long), (cZ, .boolean)]) [0, 1, 5] rfl
  have hIy0 := hIy
  obtain ⟨htn, hbn, hun⟩ := hIy0
  refine lv_aload_n hx hb dL_law_710 rfl (lv_at hl 3 rfl) ?_
  refine lv_aload_n hx hb dL_law_711 rfl (lv_at hl 4 rfl) ?_
  refine lv_iload hx hb dL_law_712 (lv_at hl 0 rfl) ?_
  refine lv_iconst (v := 1) hx hb dL_law_714 (by decide) ?_
  refine lv_iadd hx hb dL_law_715 ?_
  refine lv_topi (fun x1 ex1 => ?_)
  obtain rfl : x1 = nI ((9 * n) + 1) := by rw [ex1]; exact nI_add (9 * n) (1)
  refine va_sld hx hb hX hbl hbA hS (vp_in_nI (show (9 * n) + 1 < L by omega) (by omega)) dL_law_716 ?_
  refine lv_topi (fun x2 ex2 => ?_)
  have hBs : zBs (dC, dI) cI cJ cB bn bf H := hBl.bs (z_Pl (z_Pr (z_Pr (z_Pr hP))))
  have hUs : zUs (dC, dI) cI cJ cB un wf H := hUl.us (z_Pl (z_Pr (z_Pr (z_Pr (z_Pr hP)))))
  refine vp_callSi (W.runV (As := [.int x2]) (rest := []) ⟨hx, hb, hml, hown, hts⟩ (kX6_copied l dC dI xh tb xb xu rh cI cJ cB cQ cV tn bn un bf wf hIy x2) (cwV 1 hts zgL_law_X6_copied_76 rfl rfl rfl (by decide +kernel) ⟨(show 1 + 1 ≤ 10 by omega), (show 8 + (3 + 11) + 21 ≤ 372 by omega)⟩) (zVX (ci := 5) (q0 := 0) (q := (RX6, TX6, 7)) hKx (z_Pl hP) hE hBs hUs rfl rfl rfl) rfl rfl hl.1 rfl (lv_room (Nat.le_of_ble_eq_true rfl)) dL_law_717 ⟨(show _ + 0 ≤ 601024 by omega), (show _ + 0 ≤ 7293034 by omega)⟩) (fun r3 hw => ?_)
  refine lv_pop hx hb dL_law_720 rfl ?_
  refine lv_aload_n hx hb dL_law_721 rfl (lv_at hl 2 rfl) ?_
  refine lv_aload_n hx hb dL_law_722 rfl (lv_at hl 4 rfl) ?_
  refine lv_iload hx hb dL_law_723 (lv_at hl 0 rfl) ?_
  refine lv_iconst (v := 1) hx hb dL_law_725 (by decide) ?_
  refine lv_iadd hx hb dL_law_726 ?_
  refine lv_topi (fun x4 ex4 => ?_)
  obtain rfl : x4 = nI ((9 * n) + 1) := by rw [ex4]; exact nI_add (9 * n) (1)
  refine va_sld hx hb hX hbl hbA hS (vp_in_nI (show (9 * n) + 1 < L by omega) (by omega)) dL_law_727 ?_
  refine lv_topi (fun x5 ex5 => ?_)
  have hPm := z_Pp z_pm hP
  have hDm := z_Dp z_pm hD
  obtain ⟨v0, a1, bs, cl, a5, a6, a7, fc, a9, mb, a11, a12, a13, a14, a15, a16, a17, a18, a19, a20, az, v22, v23, v24, v25, v26, bb, ct, a30, a31, a32, a33, a34, a35, a36, a37, pil, rwv, rl, v41, v42, v43, v44, v45, hIr, hO9, hC9, rfl⟩ := hM
  have hIr0 := hIr
  obtain ⟨ghtp, ghbs, ghus, ghcl, ghfc, ghmb, ghct, ghpil, ghrwv⟩ := hIr0
  have hFm := z_Fl hDm hS hA
  refine va_calli (va_runV (As := [.int x5]) (rest := []) ⟨hx, hb, hml, hown, hts⟩ (kX7_copied l dC dI h0 r cI cJ cZ v0 a1 tn bs cl a5 a6 a7 fc a9 mb a11 a12 a13 a14 a15 a16 a17 a18 a19 a20 az v22 v23 v24 v25 v26 bb ct un a30 a31 a32 a33 a34 a35 a36 a37 pil rwv rl v41 v42 v43 v44 v45 hIr x5  H.size) (cwV 1 hts zgL_law_X7_copied_79 rfl rfl rfl (by decide +kernel) ⟨(show 2 + 1 ≤ 10 by omega), (show 8 + (2 + 11) + 46 ≤ 372 by omega)⟩) (zVm (ci := 6) (q0 := 0) (q := (RX7, TX7, 46)) hKr (z_Pl hPm) (z_Dl hDm) hL (fun q h1 h2 => hS.2.1 q h1 h2) hFm rfl rfl rfl) rfl rfl hl.1 rfl (lv_room (Nat.le_of_ble_eq_true rfl)) dL_law_728 ⟨(show _ + 0 ≤ 601024 by omega), (show _ + 0 ≤ 7293034 by omega)⟩) hS (fun q _ h => hFm q h) hFm (fun r6 y0_th t H2 locs ht2 hvm2 hw2 hB2 hz2 hk2 hS => ?_)
  obtain ⟨hP2, hK2, hD2⟩ := hB2
  rw [ht2] at hP2
  obtain ⟨hP, hD⟩ := z_Jn hPm hDm hk2 hFm hP2 hD2
  have hP := z_Pp z_pm.symm hP
  have hD := z_Dp z_pm.symm hD
  have hw2 : (True) := hw2
  have p0_ := hw2
  refine lv_pop hx hb dL_law_731 rfl ?_
  have hG : zInv dC dI xh tb xb xu rh cI cJ cB cQ cV cZ h0 r ro (fun q : Nat => s.heap.size ≤ q) H2 := ⟨tn, bn, un, bf, wf, Rw, Ex, Bl, Ul, _, fo, hIy, hRc, hEx, hbz, hBl, hUl, ⟨y0_th, a1, bs, cl, a5, a6, a7, fc, a9, mb, a11, a12, a13, a14, a15, a16, a17, a18, a19, a20, az, v22, v23, v24, v25, v26, bb, ct, a30, a31, a32, a33, a34, a35, a36, a37, pil, rwv, rl, v41, v42, v43, v44, v45, ⟨(by omega), (by omega), (by omega), ghcl, ghfc, ghmb, ghct, ghpil, ghrwv⟩, hO9, hC9, rfl⟩, hP, hD⟩
  refine lv_goto (tgt := 874) hx hb dL_law_732 (by decide) ?_
  refine W.widen (k := cells + 17) (n := slots + 1697) (by omega) (by omega) ?_
  exact kk _ _ _ hG hS (lv_sub hl [0, 1, 2, 3, 4] rfl)
theorem dL_law_735 : decode cL_law 735 = .ok (.aload_n 1, 1) := by decide +kernel
theorem dL_law_736 : decode cL_law 736 = .ok (.aload_n 0, 1) := by decide +kernel
theorem dL_law_737 : decode cL_law 737 = .ok (.iload 4, 2) := by decide +kernel
theorem dL_law_739 : decode cL_law 739 = .ok (.iconst 1, 1) := by decide +kernel
theorem dL_law_740 : decode cL_law 740 = .ok (.iadd, 1) := by decide +kernel
theorem dL_law_741 : decode cL_law 741 = .ok (.iaload, 1) := by decide +kernel
theorem dL_law_742 : decode cL_law 742 = .ok (.aload_n 0, 1) := by decide +kernel
theorem dL_law_743 : decode cL_law 743 = .ok (.iload 4, 2) := by decide +kernel
theorem dL_law_745 : decode cL_law 745 = .ok (.iconst 2, 1) := by decide +kernel
theorem dL_law_746 : decode cL_law 746 = .ok (.iadd, 1) := by decide +kernel
theorem dL_law_747 : decode cL_law 747 = .ok (.iaload, 1) := by decide +kernel
theorem dL_law_748 : decode cL_law 748 = .ok (.invokevirtual 80, 3) := by decide +kernel
theorem dL_law_751 : decode cL_law 751 = .ok (.pop, 1) := by decide +kernel
theorem dL_law_752 : decode cL_law 752 = .ok (.aload_n 2, 1) := by decide +kernel
theorem dL_law_753 : decode cL_law 753 = .ok (.aload_n 0, 1) := by decide +kernel
theorem dL_law_754 : decode cL_law 754 = .ok (.iload 4, 2) := by decide +kernel
theorem dL_law_756 : decode cL_law 756 = .ok (.iconst 1, 1) := by decide +kernel
theorem dL_law_757 : decode cL_law 757 = .ok (.iadd, 1) := by decide +kernel
theorem dL_law_758 : decode cL_law 758 = .ok (.iaload, 1) := by decide +kernel
theorem dL_law_759 : decode cL_law 759 = .ok (.aload_n 0, 1) := by decide +kernel
theorem dL_law_760 : decode cL_law 760 = .ok (.iload 4, 2) := by decide +kernel
theorem dL_law_762 : decode cL_law 762 = .ok (.iconst 2, 1) := by decide +kernel
theorem dL_law_763 : decode cL_law 763 = .ok (.iadd, 1) := by decide +kernel
theorem dL_law_764 : decode cL_law 764 = .ok (.iaload, 1) := by decide +kernel
theorem dL_law_765 : decode cL_law 765 = .ok (.invokevirtual 83, 3) := by decide +kernel
theorem dL_law_768 : decode cL_law 768 = .ok (.pop, 1) := by decide +kernel
theorem dL_law_769 : decode cL_law 769 = .ok (.goto 105, 3) := by decide +kernel
set_option maxHeartbeats 4000000 in
set_option maxRecDepth 100000 in
theorem zc_13 {p : Program} {l : Launch} {e : Env} {s : State} {m : MethodId} {below : List Frame} {meth : Method} {c : Code} {dC : Nat → ClassId} {dI : Nat → Nat → Nat} {b L : Nat} {xs : Nat → Int32} (C0 : lw_At p s m meth c b L xs) (hL9 : L ≤ 4608) (hE : zF s) (hL : zL (fun q : Nat => s.heap.size ≤ q) s s.heap) (hl9 : l.stackTraces = false) {sa sb : Nat} (hXs : zX sa sb s) (hZs : zZ (fun q : Nat => s.heap.size ≤ q) s s.heap) {xh tb xb xu rh : Nat} {cI cJ cB cQ cV cZ : ClassId} {h0 : Nat} {r : Nat → Nat} {ro : Nat} (hK : va_K (dC, dI) vwCl [(cI, .int), (cJ, .long), (cB, .byte), (cQ, .object RX0), (cV, .object RX5), (cZ, .boolean)] s) {n cells slots : Nat} (hn : 9 * n + 9 ≤ L) (hcc : cells + 17 ≤ 601024) (hss : slots + 1697 ≤ 7293034) {H : Heap} {locs : List Loc} (hG : zInv dC dI xh tb xb xu rh cI cJ cB cQ cV cZ h0 r ro (fun q : Nat => s.heap.size ≤ q) H) (hS : va_S (fun q : Nat => s.heap.size ≤ q) s.heap H locs) {ls : Array Slot} (hl : lv_has ls 7 [(4, .int (nI (9 * n))), (3, .ref ro), (2, .ref h0), (1, .ref xh), (0, .ref b)]) (kk : ∀ (H : Heap) (locs : List Loc) (ls : Array Slot), zInv dC dI xh tb xb xu rh cI cJ cB cQ cV cZ h0 r ro (fun q : Nat => s.heap.size ≤ q) H → va_S (fun q : Nat => s.heap.size ≤ q) s.heap H locs → lv_has ls 7 [(4, .int (nI (9 * n))), (3, .ref ro), (2, .ref h0), (1, .ref xh), (0, .ref b)] → W p l e room_1 s m #[Value.ref b] below meth c H locs (cells + 17) (slots + 1697) (lw_Z below #[Value.ref b] s) (F0 m 874 ls [])) : W p l e room_1 s m #[Value.ref b] below meth c H locs cells slots (lw_Z below #[Value.ref b] s) (F0 m 735 ls []) := by
  obtain ⟨hx, hb, hr, hml, hown, hts, hX, hbl, hlocks, hgv⟩ := id C0
  have hown : s.vm.findClass RL = some m.cls := hown
  have hA : ∀ q : Nat, s.heap.size ≤ q → (fun q : Nat => s.heap.size ≤ q) q := fun _ h => h
  have hbA : ¬ (fun q : Nat => s.heap.size ≤ q) b := Nat.not_le.mpr hbl
  obtain ⟨tn, bn, un, bf, wf, Rw, Ex, Bl, Ul, Mw, fo, hIy, hRc, hEx, hbz, hBl, hUl, hM, hP, hD⟩ := hG
  have hKx := hK.sub (tys' := [(cI, .int), (cJ, .long), (cB, .byte), (cQ, .object RX0), (cV, .object RX5)]) [0, 1, 2, 3, 4] rfl
  have hKr := hK.sub (tys' := [(cI, .int), (cJ, .long), (cZ, .boolean)]) [0, 1, 5] rfl
  have hIy0 := hIy
  obtain ⟨htn, hbn, hun⟩ := hIy0
  refine lv_aload_n hx hb dL_law_735 rfl (lv_at hl 3 rfl) ?_
  refine lv_aload_n hx hb dL_law_736 rfl (lv_at hl 4 rfl) ?_
  refine lv_iload hx hb dL_law_737 (lv_at hl 0 rfl) ?_
  refine lv_iconst (v := 1) hx hb dL_law_739 (by decide) ?_
  refine lv_iadd hx hb dL_law_740 ?_
  refine lv_topi (fun x1 ex1 => ?_)
  obtain rfl : x1 = nI ((9 * n) + 1) := by rw [ex1]; exact nI_add (9 * n) (1)
  refine va_sld hx hb hX hbl hbA hS (vp_in_nI (show (9 * n) + 1 < L by omega) (by omega)) dL_law_741 ?_
  refine lv_topi (fun x2 ex2 => ?_)
  refine lv_aload_n hx hb dL_law_742 rfl (lv_at hl 4 rfl) ?_
  refine lv_iload hx hb dL_law_743 (lv_at hl 0 rfl) ?_
  refine lv_iconst (v := 2) hx hb dL_law_745 (by decide) ?_
  refine lv_iadd hx hb dL_law_746 ?_
  refine lv_topi (fun x3 ex3 => ?_)
  obtain rfl : x3 = nI ((9 * n) + 2) := by rw [ex3]; exact nI_add (9 * n) (2)
  refine va_sld hx hb hX hbl hbA hS (vp_in_nI (show (9 * n) + 2 < L by omega) (by omega)) dL_law_747 ?_
  refine lv_topi (fun x4 ex4 => ?_)
  have hBs : zBs (dC, dI) cI cJ cB bn bf H := hBl.bs (z_Pl (z_Pr (z_Pr (z_Pr hP))))
  have hUs : zUs (dC, dI) cI cJ cB un wf H := hUl.us (z_Pl (z_Pr (z_Pr (z_Pr (z_Pr hP)))))
  refine vp_callSi (W.runV (As := [.int x2, .int x4]) (rest := []) ⟨hx, hb, hml, hown, hts⟩ (kX6_stale l dC dI xh tb xb xu rh cI cJ cB cQ cV tn bn un bf wf hIy x2 x4) (cwV 2 hts zgL_law_X6_stale_80 rfl rfl rfl (by decide +kernel) ⟨(show 5 + 1 ≤ 10 by omega), (show 8 + (6 + 11) + 121 ≤ 372 by omega)⟩) (zVX (ci := 5) (q0 := 0) (q := (RX6, TX6, 7)) hKx (z_Pl hP) hE hBs hUs rfl rfl rfl) rfl rfl hl.1 rfl (lv_room (Nat.le_of_ble_eq_true rfl)) dL_law_748 ⟨(show _ + 0 ≤ 601024 by omega), (show _ + 0 ≤ 7293034 by omega)⟩) (fun r5 hw => ?_)
  refine lv_pop hx hb dL_law_751 rfl ?_
  refine lv_aload_n hx hb dL_law_752 rfl (lv_at hl 2 rfl) ?_
  refine lv_aload_n hx hb dL_law_753 rfl (lv_at hl 4 rfl) ?_
  refine lv_iload hx hb dL_law_754 (lv_at hl 0 rfl) ?_
  refine lv_iconst (v := 1) hx hb dL_law_756 (by decide) ?_
  refine lv_iadd hx hb dL_law_757 ?_
  refine lv_topi (fun x6 ex6 => ?_)
  obtain rfl : x6 = nI ((9 * n) + 1) := by rw [ex6]; exact nI_add (9 * n) (1)
  refine va_sld hx hb hX hbl hbA hS (vp_in_nI (show (9 * n) + 1 < L by omega) (by omega)) dL_law_758 ?_
  refine lv_topi (fun x7 ex7 => ?_)
  refine lv_aload_n hx hb dL_law_759 rfl (lv_at hl 4 rfl) ?_
  refine lv_iload hx hb dL_law_760 (lv_at hl 0 rfl) ?_
  refine lv_iconst (v := 2) hx hb dL_law_762 (by decide) ?_
  refine lv_iadd hx hb dL_law_763 ?_
  refine lv_topi (fun x8 ex8 => ?_)
  obtain rfl : x8 = nI ((9 * n) + 2) := by rw [ex8]; exact nI_add (9 * n) (2)
  refine va_sld hx hb hX hbl hbA hS (vp_in_nI (show (9 * n) + 2 < L by omega) (by omega)) dL_law_764 ?_
  refine lv_topi (fun x9 ex9 => ?_)
  have hPm := z_Pp z_pm hP
  have hDm := z_Dp z_pm hD
  obtain ⟨v0, a1, bs, cl, a5, a6, a7, fc, a9, mb, a11, a12, a13, a14, a15, a16, a17, a18, a19, a20, az, v22, v23, v24, v25, v26, bb, ct, a30, a31, a32, a33, a34, a35, a36, a37, pil, rwv, rl, v41, v42, v43, v44, v45, hIr, hO9, hC9, rfl⟩ := hM
  have hIr0 := hIr
  obtain ⟨ghtp, ghbs, ghus, ghcl, ghfc, ghmb, ghct, ghpil, ghrwv⟩ := hIr0
  have hFm := z_Fl hDm hS hA
  refine va_calli (va_runV (As := [.int x7, .int x9]) (rest := []) ⟨hx, hb, hml, hown, hts⟩ (kX7_stale l dC dI h0 r cI cJ cZ v0 a1 tn bs cl a5 a6 a7 fc a9 mb a11 a12 a13 a14 a15 a16 a17 a18 a19 a20 az v22 v23 v24 v25 v26 bb ct un a30 a31 a32 a33 a34 a35 a36 a37 pil rwv rl v41 v42 v43 v44 v45 hIr x7 x9 hO9 hC9 H.size) (cwV 2 hts zgL_law_X7_stale_83 rfl rfl rfl (by decide +kernel) ⟨(show 5 + 1 ≤ 10 by omega), (show 8 + (3 + 11) + 130 ≤ 372 by omega)⟩) (zVm (ci := 6) (q0 := 0) (q := (RX7, TX7, 46)) hKr (z_Pl hPm) (z_Dl hDm) hL (fun q h1 h2 => hS.2.1 q h1 h2) hFm rfl rfl rfl) rfl rfl hl.1 rfl (lv_room (Nat.le_of_ble_eq_true rfl)) dL_law_765 ⟨(show _ + 0 ≤ 601024 by omega), (show _ + 0 ≤ 7293034 by omega)⟩) hS (fun q _ h => hFm q h) hFm (fun r10 u8 t H2 locs ht2 hvm2 hw2 hB2 hz2 hk2 hS => ?_)
  obtain ⟨y0_th, y1_rl2, y2_pil2, y3_rwv2, y4_b0, y5_b1, y6_b2, y7_lk⟩ := u8
  obtain ⟨hP2, hK2, hD2⟩ := hB2
  rw [ht2] at hP2
  obtain ⟨hP, hD⟩ := z_Jn hPm hDm hk2 hFm hP2 hD2
  have hP := z_Pp z_pm.symm hP
  have hD := z_Dp z_pm.symm hD
  have hw2 : (∀ j, y2_pil2 j ≤ 15) ∧ (∀ j, y3_rwv2 j ≤ 15) := hw2
  obtain ⟨p0_, p1_⟩ := hw2
  refine lv_pop hx hb dL_law_768 rfl ?_
  have hG : zInv dC dI xh tb xb xu rh cI cJ cB cQ cV cZ h0 r ro (fun q : Nat => s.heap.size ≤ q) H2 := ⟨tn, bn, un, bf, wf, Rw, Ex, Bl, Ul, _, fo, hIy, hRc, hEx, hbz, hBl, hUl, ⟨y0_th, a1, bs, cl, a5, a6, a7, fc, a9, mb, a11, a12, a13, a14, a15, a16, a17, a18, a19, a20, az, v22, v23, v24, v25, v26, bb, ct, a30, a31, a32, a33, a34, a35, a36, a37, y2_pil2, y3_rwv2, y1_rl2, v41, y7_lk, y4_b0, y5_b1, y6_b2, ⟨(by omega), (by omega), (by omega), ghcl, ghfc, ghmb, ghct, p0_, p1_⟩, hO9, hC9, rfl⟩, hP, hD⟩
  refine lv_goto (tgt := 874) hx hb dL_law_769 (by decide) ?_
  refine W.widen (k := cells + 17) (n := slots + 1697) (by omega) (by omega) ?_
  exact kk _ _ _ hG hS (lv_sub hl [0, 1, 2, 3, 4] rfl)
theorem dL_law_772 : decode cL_law 772 = .ok (.aload_n 1, 1) := by decide +kernel
theorem dL_law_773 : decode cL_law 773 = .ok (.aload_n 0, 1) := by decide +kernel
theorem dL_law_774 : decode cL_law 774 = .ok (.iload 4, 2) := by decide +kernel
theorem dL_law_776 : decode cL_law 776 = .ok (.iconst 1, 1) := by decide +kernel
theorem dL_law_777 : decode cL_law 777 = .ok (.iadd, 1) := by decide +kernel
theorem dL_law_778 : decode cL_law 778 = .ok (.iaload, 1) := by decide +kernel
theorem dL_law_779 : decode cL_law 779 = .ok (.aload_n 0, 1) := by decide +kernel
theorem dL_law_780 : decode cL_law 780 = .ok (.iload 4, 2) := by decide +kernel
theorem dL_law_782 : decode cL_law 782 = .ok (.iconst 2, 1) := by decide +kernel
theorem dL_law_783 : decode cL_law 783 = .ok (.iadd, 1) := by decide +kernel
theorem dL_law_784 : decode cL_law 784 = .ok (.iaload, 1) := by decide +kernel
theorem dL_law_785 : decode cL_law 785 = .ok (.aload_n 0, 1) := by decide +kernel
theorem dL_law_786 : decode cL_law 786 = .ok (.iload 4, 2) := by decide +kernel
theorem dL_law_788 : decode cL_law 788 = .ok (.iconst 3, 1) := by decide +kernel
theorem dL_law_789 : decode cL_law 789 = .ok (.iadd, 1) := by decide +kernel
theorem dL_law_790 : decode cL_law 790 = .ok (.iaload, 1) := by decide +kernel
theorem dL_law_791 : decode cL_law 791 = .ok (.invokevirtual 84, 3) := by decide +kernel
theorem dL_law_794 : decode cL_law 794 = .ok (.pop, 1) := by decide +kernel
theorem dL_law_795 : decode cL_law 795 = .ok (.aload_n 2, 1) := by decide +kernel
theorem dL_law_796 : decode cL_law 796 = .ok (.aload_n 0, 1) := by decide +kernel
theorem dL_law_797 : decode cL_law 797 = .ok (.iload 4, 2) := by decide +kernel
theorem dL_law_799 : decode cL_law 799 = .ok (.iconst 1, 1) := by decide +kernel
theorem dL_law_800 : decode cL_law 800 = .ok (.iadd, 1) := by decide +kernel
theorem dL_law_801 : decode cL_law 801 = .ok (.iaload, 1) := by decide +kernel
theorem dL_law_802 : decode cL_law 802 = .ok (.aload_n 0, 1) := by decide +kernel
theorem dL_law_803 : decode cL_law 803 = .ok (.iload 4, 2) := by decide +kernel
theorem dL_law_805 : decode cL_law 805 = .ok (.iconst 2, 1) := by decide +kernel
theorem dL_law_806 : decode cL_law 806 = .ok (.iadd, 1) := by decide +kernel
theorem dL_law_807 : decode cL_law 807 = .ok (.iaload, 1) := by decide +kernel
theorem dL_law_808 : decode cL_law 808 = .ok (.aload_n 0, 1) := by decide +kernel
theorem dL_law_809 : decode cL_law 809 = .ok (.iload 4, 2) := by decide +kernel
theorem dL_law_811 : decode cL_law 811 = .ok (.iconst 3, 1) := by decide +kernel
theorem dL_law_812 : decode cL_law 812 = .ok (.iadd, 1) := by decide +kernel
theorem dL_law_813 : decode cL_law 813 = .ok (.iaload, 1) := by decide +kernel
theorem dL_law_814 : decode cL_law 814 = .ok (.invokevirtual 87, 3) := by decide +kernel
theorem dL_law_817 : decode cL_law 817 = .ok (.pop, 1) := by decide +kernel
theorem dL_law_818 : decode cL_law 818 = .ok (.goto 56, 3) := by decide +kernel
set_option maxHeartbeats 4000000 in
set_option maxRecDepth 100000 in
theorem zc_14 {p : Program} {l : Launch} {e : Env} {s : State} {m : MethodId} {below : List Frame} {meth : Method} {c : Code} {dC : Nat → ClassId} {dI : Nat → Nat → Nat} {b L : Nat} {xs : Nat → Int32} (C0 : lw_At p s m meth c b L xs) (hL9 : L ≤ 4608) (hE : zF s) (hL : zL (fun q : Nat => s.heap.size ≤ q) s s.heap) (hl9 : l.stackTraces = false) {sa sb : Nat} (hXs : zX sa sb s) (hZs : zZ (fun q : Nat => s.heap.size ≤ q) s s.heap) {xh tb xb xu rh : Nat} {cI cJ cB cQ cV cZ : ClassId} {h0 : Nat} {r : Nat → Nat} {ro : Nat} (hK : va_K (dC, dI) vwCl [(cI, .int), (cJ, .long), (cB, .byte), (cQ, .object RX0), (cV, .object RX5), (cZ, .boolean)] s) {n cells slots : Nat} (hn : 9 * n + 9 ≤ L) (hcc : cells + 17 ≤ 601024) (hss : slots + 1697 ≤ 7293034) {H : Heap} {locs : List Loc} (hG : zInv dC dI xh tb xb xu rh cI cJ cB cQ cV cZ h0 r ro (fun q : Nat => s.heap.size ≤ q) H) (hS : va_S (fun q : Nat => s.heap.size ≤ q) s.heap H locs) {ls : Array Slot} (hl : lv_has ls 7 [(4, .int (nI (9 * n))), (3, .ref ro), (2, .ref h0), (1, .ref xh), (0, .ref b)]) (kk : ∀ (H : Heap) (locs : List Loc) (ls : Array Slot), zInv dC dI xh tb xb xu rh cI cJ cB cQ cV cZ h0 r ro (fun q : Nat => s.heap.size ≤ q) H → va_S (fun q : Nat => s.heap.size ≤ q) s.heap H locs → lv_has ls 7 [(4, .int (nI (9 * n))), (3, .ref ro), (2, .ref h0), (1, .ref xh), (0, .ref b)] → W p l e room_1 s m #[Value.ref b] below meth c H locs (cells + 17) (slots + 1697) (lw_Z below #[Value.ref b] s) (F0 m 874 ls [])) : W p l e room_1 s m #[Value.ref b] below meth c H locs cells slots (lw_Z below #[Value.ref b] s) (F0 m 772 ls []) := by
  obtain ⟨hx, hb, hr, hml, hown, hts, hX, hbl, hlocks, hgv⟩ := id C0
  have hown : s.vm.findClass RL = some m.cls := hown
  have hA : ∀ q : Nat, s.heap.size ≤ q → (fun q : Nat => s.heap.size ≤ q) q := fun _ h => h
  have hbA : ¬ (fun q : Nat => s.heap.size ≤ q) b := Nat.not_le.mpr hbl
  obtain ⟨tn, bn, un, bf, wf, Rw, Ex, Bl, Ul, Mw, fo, hIy, hRc, hEx, hbz, hBl, hUl, hM, hP, hD⟩ := hG
  have hKx := hK.sub (tys' := [(cI, .int), (cJ, .long), (cB, .byte), (cQ, .object RX0), (cV, .object RX5)]) [0, 1, 2, 3, 4] rfl
  have hKr := hK.sub (tys' := [(cI, .int), (cJ, .long), (cZ, .boolean)]) [0, 1, 5] rfl
  have hIy0 := hIy
  obtain ⟨htn, hbn, hun⟩ := hIy0
  refine lv_aload_n hx hb dL_law_772 rfl (lv_at hl 3 rfl) ?_
  refine lv_aload_n hx hb dL_law_773 rfl (lv_at hl 4 rfl) ?_
  refine lv_iload hx hb dL_law_774 (lv_at hl 0 rfl) ?_
  refine lv_iconst (v := 1) hx hb dL_law_776 (by decide) ?_
  refine lv_iadd hx hb dL_law_777 ?_
  refine lv_topi (fun x1 ex1 => ?_)
  obtain rfl : x1 = nI ((9 * n) + 1) := by rw [ex1]; exact nI_add (9 * n) (1)
  refine va_sld hx hb hX hbl hbA hS (vp_in_nI (show (9 * n) + 1 < L by omega) (by omega)) dL_law_778 ?_
  refine lv_topi (fun x2 ex2 => ?_)
  refine lv_aload_n hx hb dL_law_779 rfl (lv_at hl 4 rfl) ?_
  refine lv_iload hx hb dL_law_780 (lv_at hl 0 rfl) ?_
  refine lv_iconst (v := 2) hx hb dL_law_782 (by decide) ?_
  refine lv_iadd hx hb dL_law_783 ?_
  refine lv_topi (fun x3 ex3 => ?_)
  obtain rfl : x3 = nI ((9 * n) + 2) := by rw [ex3]; exact nI_add (9 * n) (2)
  refine va_sld hx hb hX hbl hbA hS (vp_in_nI (show (9 * n) + 2 < L by omega) (by omega)) dL_law_784 ?_
  refine lv_topi (fun x4 ex4 => ?_)
  refine lv_aload_n hx hb dL_law_785 rfl (lv_at hl 4 rfl) ?_
  refine lv_iload hx hb dL_law_786 (lv_at hl 0 rfl) ?_
  refine lv_iconst (v := 3) hx hb dL_law_788 (by decide) ?_
  refine lv_iadd hx hb dL_law_789 ?_
  refine lv_topi (fun x5 ex5 => ?_)
  obtain rfl : x5 = nI ((9 * n) + 3) := by rw [ex5]; exact nI_add (9 * n) (3)
  refine va_sld hx hb hX hbl hbA hS (vp_in_nI (show (9 * n) + 3 < L by omega) (by omega)) dL_law_790 ?_
  refine lv_topi (fun x6 ex6 => ?_)
  have hBs : zBs (dC, dI) cI cJ cB bn bf H := hBl.bs (z_Pl (z_Pr (z_Pr (z_Pr hP))))
  have hUs : zUs (dC, dI) cI cJ cB un wf H := hUl.us (z_Pl (z_Pr (z_Pr (z_Pr (z_Pr hP)))))
  refine vp_callSi (W.runV (As := [.int x2, .int x4, .int x6]) (rest := []) ⟨hx, hb, hml, hown, hts⟩ (kX6_changed l dC dI xh tb xb xu rh cI cJ cB cQ cV tn bn un bf wf hIy x2 x4 x6) (cwV 3 hts zgL_law_X6_changed_84 rfl rfl rfl (by decide +kernel) ⟨(show 6 + 1 ≤ 10 by omega), (show 8 + (8 + 11) + 145 ≤ 372 by omega)⟩) (zVX (ci := 5) (q0 := 0) (q := (RX6, TX6, 7)) hKx (z_Pl hP) hE hBs hUs rfl rfl rfl) rfl rfl hl.1 rfl (lv_room (Nat.le_of_ble_eq_true rfl)) dL_law_791 ⟨(show _ + 0 ≤ 601024 by omega), (show _ + 0 ≤ 7293034 by omega)⟩) (fun r7 hw => ?_)
  refine lv_pop hx hb dL_law_794 rfl ?_
  refine lv_aload_n hx hb dL_law_795 rfl (lv_at hl 2 rfl) ?_
  refine lv_aload_n hx hb dL_law_796 rfl (lv_at hl 4 rfl) ?_
  refine lv_iload hx hb dL_law_797 (lv_at hl 0 rfl) ?_
  refine lv_iconst (v := 1) hx hb dL_law_799 (by decide) ?_
  refine lv_iadd hx hb dL_law_800 ?_
  refine lv_topi (fun x8 ex8 => ?_)
  obtain rfl : x8 = nI ((9 * n) + 1) := by rw [ex8]; exact nI_add (9 * n) (1)
  refine va_sld hx hb hX hbl hbA hS (vp_in_nI (show (9 * n) + 1 < L by omega) (by omega)) dL_law_801 ?_
  refine lv_topi (fun x9 ex9 => ?_)
  refine lv_aload_n hx hb dL_law_802 rfl (lv_at hl 4 rfl) ?_
  refine lv_iload hx hb dL_law_803 (lv_at hl 0 rfl) ?_
  refine lv_iconst (v := 2) hx hb dL_law_805 (by decide) ?_
  refine lv_iadd hx hb dL_law_806 ?_
  refine lv_topi (fun x10 ex10 => ?_)
  obtain rfl : x10 = nI ((9 * n) + 2) := by rw [ex10]; exact nI_add (9 * n) (2)
  refine va_sld hx hb hX hbl hbA hS (vp_in_nI (show (9 * n) + 2 < L by omega) (by omega)) dL_law_807 ?_
  refine lv_topi (fun x11 ex11 => ?_)
  refine lv_aload_n hx hb dL_law_808 rfl (lv_at hl 4 rfl) ?_
  refine lv_iload hx hb dL_law_809 (lv_at hl 0 rfl) ?_
  refine lv_iconst (v := 3) hx hb dL_law_811 (by decide) ?_
  refine lv_iadd hx hb dL_law_812 ?_
  refine lv_topi (fun x12 ex12 => ?_)
  obtain rfl : x12 = nI ((9 * n) + 3) := by rw [ex12]; exact nI_add (9 * n) (3)
  refine va_sld hx hb hX hbl hbA hS (vp_in_nI (show (9 * n) + 3 < L by omega) (by omega)) dL_law_813 ?_
  refine lv_topi (fun x13 ex13 => ?_)
  have hPm := z_Pp z_pm hP
  have hDm := z_Dp z_pm hD
  obtain ⟨v0, a1, bs, cl, a5, a6, a7, fc, a9, mb, a11, a12, a13, a14, a15, a16, a17, a18, a19, a20, az, v22, v23, v24, v25, v26, bb, ct, a30, a31, a32, a33, a34, a35, a36, a37, pil, rwv, rl, v41, v42, v43, v44, v45, hIr, hO9, hC9, rfl⟩ := hM
  have hIr0 := hIr
  obtain ⟨ghtp, ghbs, ghus, ghcl, ghfc, ghmb, ghct, ghpil, ghrwv⟩ := hIr0
  have hFm := z_Fl hDm hS hA
  refine va_calli (va_runV (As := [.int x9, .int x11, .int x13]) (rest := []) ⟨hx, hb, hml, hown, hts⟩ (kX7_changed l dC dI h0 r cI cJ cZ v0 a1 tn bs cl a5 a6 a7 fc a9 mb a11 a12 a13 a14 a15 a16 a17 a18 a19 a20 az v22 v23 v24 v25 v26 bb ct un a30 a31 a32 a33 a34 a35 a36 a37 pil rwv rl v41 v42 v43 v44 v45 hIr x9 x11 x13 hO9 H.size) (cwV 3 hts zgL_law_X7_changed_87 rfl rfl rfl (by decide +kernel) ⟨(show 6 + 1 ≤ 10 by omega), (show 8 + (6 + 11) + 156 ≤ 372 by omega)⟩) (zVm (ci := 6) (q0 := 0) (q := (RX7, TX7, 46)) hKr (z_Pl hPm) (z_Dl hDm) hL (fun q h1 h2 => hS.2.1 q h1 h2) hFm rfl rfl rfl) rfl rfl hl.1 rfl (lv_room (Nat.le_of_ble_eq_true rfl)) dL_law_814 ⟨(show _ + 0 ≤ 601024 by omega), (show _ + 0 ≤ 7293034 by omega)⟩) hS (fun q _ h => hFm q h) hFm (fun r14 u8 t H2 locs ht2 hvm2 hw2 hB2 hz2 hk2 hS => ?_)
  obtain ⟨y0_th, y1_rl2, y2_pil2, y3_rwv2, y4_b0, y5_b1, y6_b2, y7_lk⟩ := u8
  obtain ⟨hP2, hK2, hD2⟩ := hB2
  rw [ht2] at hP2
  obtain ⟨hP, hD⟩ := z_Jn hPm hDm hk2 hFm hP2 hD2
  have hP := z_Pp z_pm.symm hP
  have hD := z_Dp z_pm.symm hD
  have hw2 : (∀ j, y2_pil2 j ≤ 15) ∧ (∀ j, y3_rwv2 j ≤ 15) := hw2
  obtain ⟨p0_, p1_⟩ := hw2
  refine lv_pop hx hb dL_law_817 rfl ?_
  have hG : zInv dC dI xh tb xb xu rh cI cJ cB cQ cV cZ h0 r ro (fun q : Nat => s.heap.size ≤ q) H2 := ⟨tn, bn, un, bf, wf, Rw, Ex, Bl, Ul, _, fo, hIy, hRc, hEx, hbz, hBl, hUl, ⟨y0_th, a1, bs, cl, a5, a6, a7, fc, a9, mb, a11, a12, a13, a14, a15, a16, a17, a18, a19, a20, az, v22, v23, v24, v25, v26, bb, ct, a30, a31, a32, a33, a34, a35, a36, a37, y2_pil2, y3_rwv2, y1_rl2, v41, y7_lk, y4_b0, y5_b1, y6_b2, ⟨(by omega), (by omega), (by omega), ghcl, ghfc, ghmb, ghct, p0_, p1_⟩, hO9, hC9, rfl⟩, hP, hD⟩
  refine lv_goto (tgt := 874) hx hb dL_law_818 (by decide) ?_
  refine W.widen (k := cells + 17) (n := slots + 1697) (by omega) (by omega) ?_
  exact kk _ _ _ hG hS (lv_sub hl [0, 1, 2, 3, 4] rfl)
theorem dL_law_821 : decode cL_law 821 = .ok (.aload_n 1, 1) := by decide +kernel
theorem dL_law_822 : decode cL_law 822 = .ok (.aload_n 0, 1) := by decide +kernel
theorem dL_law_823 : decode cL_law 823 = .ok (.iload 4, 2) := by decide +kernel
theorem dL_law_825 : decode cL_law 825 = .ok (.iconst 1, 1) := by decide +kernel
theorem dL_law_826 : decode cL_law 826 = .ok (.iadd, 1) := by decide +kernel
theorem dL_law_827 : decode cL_law 827 = .ok (.iaload, 1) := by decide +kernel
theorem dL_law_828 : decode cL_law 828 = .ok (.invokevirtual 88, 3) := by decide +kernel
theorem dL_law_831 : decode cL_law 831 = .ok (.pop, 1) := by decide +kernel
theorem dL_law_832 : decode cL_law 832 = .ok (.aload_n 2, 1) := by decide +kernel
theorem dL_law_833 : decode cL_law 833 = .ok (.aload_n 0, 1) := by decide +kernel
theorem dL_law_834 : decode cL_law 834 = .ok (.iload 4, 2) := by decide +kernel
theorem dL_law_836 : decode cL_law 836 = .ok (.iconst 1, 1) := by decide +kernel
theorem dL_law_837 : decode cL_law 837 = .ok (.iadd, 1) := by decide +kernel
theorem dL_law_838 : decode cL_law 838 = .ok (.iaload, 1) := by decide +kernel
theorem dL_law_839 : decode cL_law 839 = .ok (.invokevirtual 91, 3) := by decide +kernel
theorem dL_law_842 : decode cL_law 842 = .ok (.pop, 1) := by decide +kernel
theorem dL_law_843 : decode cL_law 843 = .ok (.goto 31, 3) := by decide +kernel
set_option maxHeartbeats 4000000 in
set_option maxRecDepth 100000 in
theorem zc_15 {p : Program} {l : Launch} {e : Env} {s : State} {m : MethodId} {below : List Frame} {meth : Method} {c : Code} {dC : Nat → ClassId} {dI : Nat → Nat → Nat} {b L : Nat} {xs : Nat → Int32} (C0 : lw_At p s m meth c b L xs) (hL9 : L ≤ 4608) (hE : zF s) (hL : zL (fun q : Nat => s.heap.size ≤ q) s s.heap) (hl9 : l.stackTraces = false) {sa sb : Nat} (hXs : zX sa sb s) (hZs : zZ (fun q : Nat => s.heap.size ≤ q) s s.heap) {xh tb xb xu rh : Nat} {cI cJ cB cQ cV cZ : ClassId} {h0 : Nat} {r : Nat → Nat} {ro : Nat} (hK : va_K (dC, dI) vwCl [(cI, .int), (cJ, .long), (cB, .byte), (cQ, .object RX0), (cV, .object RX5), (cZ, .boolean)] s) {n cells slots : Nat} (hn : 9 * n + 9 ≤ L) (hcc : cells + 17 ≤ 601024) (hss : slots + 1697 ≤ 7293034) {H : Heap} {locs : List Loc} (hG : zInv dC dI xh tb xb xu rh cI cJ cB cQ cV cZ h0 r ro (fun q : Nat => s.heap.size ≤ q) H) (hS : va_S (fun q : Nat => s.heap.size ≤ q) s.heap H locs) {ls : Array Slot} (hl : lv_has ls 7 [(4, .int (nI (9 * n))), (3, .ref ro), (2, .ref h0), (1, .ref xh), (0, .ref b)]) (kk : ∀ (H : Heap) (locs : List Loc) (ls : Array Slot), zInv dC dI xh tb xb xu rh cI cJ cB cQ cV cZ h0 r ro (fun q : Nat => s.heap.size ≤ q) H → va_S (fun q : Nat => s.heap.size ≤ q) s.heap H locs → lv_has ls 7 [(4, .int (nI (9 * n))), (3, .ref ro), (2, .ref h0), (1, .ref xh), (0, .ref b)] → W p l e room_1 s m #[Value.ref b] below meth c H locs (cells + 17) (slots + 1697) (lw_Z below #[Value.ref b] s) (F0 m 874 ls [])) : W p l e room_1 s m #[Value.ref b] below meth c H locs cells slots (lw_Z below #[Value.ref b] s) (F0 m 821 ls []) := by
  obtain ⟨hx, hb, hr, hml, hown, hts, hX, hbl, hlocks, hgv⟩ := id C0
  have hown : s.vm.findClass RL = some m.cls := hown
  have hA : ∀ q : Nat, s.heap.size ≤ q → (fun q : Nat => s.heap.size ≤ q) q := fun _ h => h
  have hbA : ¬ (fun q : Nat => s.heap.size ≤ q) b := Nat.not_le.mpr hbl
  obtain ⟨tn, bn, un, bf, wf, Rw, Ex, Bl, Ul, Mw, fo, hIy, hRc, hEx, hbz, hBl, hUl, hM, hP, hD⟩ := hG
  have hKx := hK.sub (tys' := [(cI, .int), (cJ, .long), (cB, .byte), (cQ, .object RX0), (cV, .object RX5)]) [0, 1, 2, 3, 4] rfl
  have hKr := hK.sub (tys' := [(cI, .int), (cJ, .long), (cZ, .boolean)]) [0, 1, 5] rfl
  have hIy0 := hIy
  obtain ⟨htn, hbn, hun⟩ := hIy0
  refine lv_aload_n hx hb dL_law_821 rfl (lv_at hl 3 rfl) ?_
  refine lv_aload_n hx hb dL_law_822 rfl (lv_at hl 4 rfl) ?_
  refine lv_iload hx hb dL_law_823 (lv_at hl 0 rfl) ?_
  refine lv_iconst (v := 1) hx hb dL_law_825 (by decide) ?_
  refine lv_iadd hx hb dL_law_826 ?_
  refine lv_topi (fun x1 ex1 => ?_)
  obtain rfl : x1 = nI ((9 * n) + 1) := by rw [ex1]; exact nI_add (9 * n) (1)
  refine va_sld hx hb hX hbl hbA hS (vp_in_nI (show (9 * n) + 1 < L by omega) (by omega)) dL_law_827 ?_
  refine lv_topi (fun x2 ex2 => ?_)
  have hBs : zBs (dC, dI) cI cJ cB bn bf H := hBl.bs (z_Pl (z_Pr (z_Pr (z_Pr hP))))
  have hUs : zUs (dC, dI) cI cJ cB un wf H := hUl.us (z_Pl (z_Pr (z_Pr (z_Pr (z_Pr hP)))))
  refine vp_callSi (W.runV (As := [.int x2]) (rest := []) ⟨hx, hb, hml, hown, hts⟩ (kX6_told l dC dI xh tb xb xu rh cI cJ cB cQ cV tn bn un bf wf hIy x2) (cwV 1 hts zgL_law_X6_told_88 rfl rfl rfl (by decide +kernel) ⟨(show 0 + 1 ≤ 10 by omega), (show 8 + (2 + 11) + 0 ≤ 372 by omega)⟩) (zVX (ci := 5) (q0 := 0) (q := (RX6, TX6, 7)) hKx (z_Pl hP) hE hBs hUs rfl rfl rfl) rfl rfl hl.1 rfl (lv_room (Nat.le_of_ble_eq_true rfl)) dL_law_828 ⟨(show _ + 0 ≤ 601024 by omega), (show _ + 0 ≤ 7293034 by omega)⟩) (fun r3 hw => ?_)
  refine lv_pop hx hb dL_law_831 rfl ?_
  refine lv_aload_n hx hb dL_law_832 rfl (lv_at hl 2 rfl) ?_
  refine lv_aload_n hx hb dL_law_833 rfl (lv_at hl 4 rfl) ?_
  refine lv_iload hx hb dL_law_834 (lv_at hl 0 rfl) ?_
  refine lv_iconst (v := 1) hx hb dL_law_836 (by decide) ?_
  refine lv_iadd hx hb dL_law_837 ?_
  refine lv_topi (fun x4 ex4 => ?_)
  obtain rfl : x4 = nI ((9 * n) + 1) := by rw [ex4]; exact nI_add (9 * n) (1)
  refine va_sld hx hb hX hbl hbA hS (vp_in_nI (show (9 * n) + 1 < L by omega) (by omega)) dL_law_838 ?_
  refine lv_topi (fun x5 ex5 => ?_)
  have hPm := z_Pp z_pm hP
  have hDm := z_Dp z_pm hD
  obtain ⟨v0, a1, bs, cl, a5, a6, a7, fc, a9, mb, a11, a12, a13, a14, a15, a16, a17, a18, a19, a20, az, v22, v23, v24, v25, v26, bb, ct, a30, a31, a32, a33, a34, a35, a36, a37, pil, rwv, rl, v41, v42, v43, v44, v45, hIr, hO9, hC9, rfl⟩ := hM
  have hIr0 := hIr
  obtain ⟨ghtp, ghbs, ghus, ghcl, ghfc, ghmb, ghct, ghpil, ghrwv⟩ := hIr0
  have hFm := z_Fl hDm hS hA
  refine va_calli (va_runV (As := [.int x5]) (rest := []) ⟨hx, hb, hml, hown, hts⟩ (kX7_told l dC dI h0 r cI cJ cZ v0 a1 tn bs cl a5 a6 a7 fc a9 mb a11 a12 a13 a14 a15 a16 a17 a18 a19 a20 az v22 v23 v24 v25 v26 bb ct un a30 a31 a32 a33 a34 a35 a36 a37 pil rwv rl v41 v42 v43 v44 v45 hIr x5  H.size) (cwV 1 hts zgL_law_X7_told_91 rfl rfl rfl (by decide +kernel) ⟨(show 0 + 1 ≤ 10 by omega), (show 8 + (2 + 11) + 0 ≤ 372 by omega)⟩) (zVm (ci := 6) (q0 := 0) (q := (RX7, TX7, 46)) hKr (z_Pl hPm) (z_Dl hDm) hL (fun q h1 h2 => hS.2.1 q h1 h2) hFm rfl rfl rfl) rfl rfl hl.1 rfl (lv_room (Nat.le_of_ble_eq_true rfl)) dL_law_839 ⟨(show _ + 0 ≤ 601024 by omega), (show _ + 0 ≤ 7293034 by omega)⟩) hS (fun q _ h => hFm q h) hFm (fun r6 y0_th t H2 locs ht2 hvm2 hw2 hB2 hz2 hk2 hS => ?_)
  obtain ⟨hP2, hK2, hD2⟩ := hB2
  rw [ht2] at hP2
  obtain ⟨hP, hD⟩ := z_Jn hPm hDm hk2 hFm hP2 hD2
  have hP := z_Pp z_pm.symm hP
  have hD := z_Dp z_pm.symm hD
  have hw2 : (True) := hw2
  have p0_ := hw2
  refine lv_pop hx hb dL_law_842 rfl ?_
  have hG : zInv dC dI xh tb xb xu rh cI cJ cB cQ cV cZ h0 r ro (fun q : Nat => s.heap.size ≤ q) H2 := ⟨tn, bn, un, bf, wf, Rw, Ex, Bl, Ul, _, fo, hIy, hRc, hEx, hbz, hBl, hUl, ⟨y0_th, a1, bs, cl, a5, a6, a7, fc, a9, mb, a11, a12, a13, a14, a15, a16, a17, a18, a19, a20, az, v22, v23, v24, v25, v26, bb, ct, a30, a31, a32, a33, a34, a35, a36, a37, pil, rwv, rl, v41, v42, v43, v44, v45, ⟨(by omega), (by omega), (by omega), ghcl, ghfc, ghmb, ghct, ghpil, ghrwv⟩, hO9, hC9, rfl⟩, hP, hD⟩
  refine lv_goto (tgt := 874) hx hb dL_law_843 (by decide) ?_
  refine W.widen (k := cells + 17) (n := slots + 1697) (by omega) (by omega) ?_
  exact kk _ _ _ hG hS (lv_sub hl [0, 1, 2, 3, 4] rfl)
