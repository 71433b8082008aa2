theorem dL_law_538 : decode cL_law 538 = .ok (.aload_n 1, 1) := by decide +kernel
theorem dL_law_539 : decode cL_law 539 = .ok (.aload_n 0, 1) := by decide +kernel
theorem dL_law_540 : decode cL_law 540 = .ok (.iload 4, 2) := by decide +kernel
theorem dL_law_542 : decode cL_law 542 = .ok (.iconst 1, 1) := by decide +kernel
theorem dL_law_543 : decode cL_law 543 = .ok (.iadd, 1) := by decide +kernel
theorem dL_law_544 : decode cL_law 544 = .ok (.iaload, 1) := by decide +kernel
theorem dL_law_545 : decode cL_law 545 = .ok (.aload_n 0, 1) := by decide +kernel
theorem dL_law_546 : decode cL_law 546 = .ok (.iload 4, 2) := by decide +kernel
theorem dL_law_548 : decode cL_law 548 = .ok (.iconst 2, 1) := by decide +kernel
theorem dL_law_549 : decode cL_law 549 = .ok (.iadd, 1) := by decide +kernel
theorem dL_law_550 : decode cL_law 550 = .ok (.iaload, 1) := by decide +kernel
theorem dL_law_551 : decode cL_law 551 = .ok (.invokevirtual 60, 3) := by decide +kernel
theorem dL_law_554 : decode cL_law 554 = .ok (.aload_n 2, 1) := by decide +kernel
theorem dL_law_555 : decode cL_law 555 = .ok (.aload_n 0, 1) := by decide +kernel
theorem dL_law_556 : decode cL_law 556 = .ok (.iload 4, 2) := by decide +kernel
theorem dL_law_558 : decode cL_law 558 = .ok (.iconst 1, 1) := by decide +kernel
theorem dL_law_559 : decode cL_law 559 = .ok (.iadd, 1) := by decide +kernel
theorem dL_law_560 : decode cL_law 560 = .ok (.iaload, 1) := by decide +kernel
theorem dL_law_561 : decode cL_law 561 = .ok (.aload_n 0, 1) := by decide +kernel
theorem dL_law_562 : decode cL_law 562 = .ok (.iload 4, 2) := by decide +kernel
theorem dL_law_564 : decode cL_law 564 = .ok (.iconst 2, 1) := by decide +kernel
theorem dL_law_565 : decode cL_law 565 = .ok (.iadd, 1) := by decide +kernel
theorem dL_law_566 : decode cL_law 566 = .ok (.iaload, 1) := by decide +kernel
theorem dL_law_567 : decode cL_law 567 = .ok (.invokevirtual 63, 3) := by decide +kernel
theorem dL_law_570 : decode cL_law 570 = .ok (.if_icmp .eq 332, 3) := by decide +kernel
set_option maxHeartbeats 4000000 in
set_option maxRecDepth 100000 in
theorem zc_8 {p : Program} {l : Launch} {e : Env} {s : State} {m : MethodId} {below : List Frame} {meth : Method} {c : Code} {dC : Nat → ClassId} {dI : Nat → Nat → Nat} {b : Nat} {xs : Nat → Int32} (C0 : lw_At p s m meth c b 9 xs)  {ax am ro : Nat} {ux um : Nat → Nat} {H : Heap} {locs : List Loc} (hK : va_K (dC, dI) vwCl [(ux 6, .byte), (ux 7, .object RX0), (ux 8, .object RX5), (um 46, .int), (um 47, .int), (um 48, .int), (um 49, .int), (um 50, .int), (um 51, .long), (um 52, .int), (um 53, .int), (um 54, .int), (um 55, .int)] s) (hP : va_P (dC, dI) vwCl [(ax, .inr (5, [.ref (ux 0), .int 0, .ref (ux 1), .int 0, .ref (ux 2), .int 0, .ref (ux 3)])), (ux 0, .inl (ux 6, 800, .inl (fun _ => 0))), (ux 1, .inl (ux 7, 5, .inr (.inr (.inr (.inr (fun _ => none)))))), (ux 2, .inl (ux 8, 40, .inr (.inr (.inr (.inr (fun _ => none)))))), (ux 3, .inr (1, [.ref (ux 4), .ref (ux 5), .int 0, .int 0, .int 0])), (ux 4, .inr (3, [.ref (ux 0), .int 0, .int 0, .int 0, .int 0, .long 0])), (am, .inr (6, zM 0 um)), (um 1, .inl (um 46, 800, .inl (fun _ => 0))), (um 4, .inl (um 47, 5, .inl (fun _ => 0))), (um 30, .inl (um 48, 40, .inl (fun _ => 0))), (um 31, .inl (um 49, 40, .inl (fun _ => 0))), (um 32, .inl (um 50, 40, .inl (fun _ => 0))), (um 33, .inl (um 51, 40, .inr (.inl (fun _ => 0)))), (um 34, .inl (um 52, 40, .inl (fun _ => 0))), (um 35, .inl (um 53, 40, .inl (fun _ => 0))), (um 36, .inl (um 54, 40, .inl (fun _ => 0))), (um 37, .inl (um 55, 40, .inl (fun _ => 0)))] H) (hD : va_D (fun q : Nat => s.heap.size ≤ q) [(ax, .inr (5, [.ref (ux 0), .int 0, .ref (ux 1), .int 0, .ref (ux 2), .int 0, .ref (ux 3)])), (ux 0, .inl (ux 6, 800, .inl (fun _ => 0))), (ux 1, .inl (ux 7, 5, .inr (.inr (.inr (.inr (fun _ => none)))))), (ux 2, .inl (ux 8, 40, .inr (.inr (.inr (.inr (fun _ => none)))))), (ux 3, .inr (1, [.ref (ux 4), .ref (ux 5), .int 0, .int 0, .int 0])), (ux 4, .inr (3, [.ref (ux 0), .int 0, .int 0, .int 0, .int 0, .long 0])), (am, .inr (6, zM 0 um)), (um 1, .inl (um 46, 800, .inl (fun _ => 0))), (um 4, .inl (um 47, 5, .inl (fun _ => 0))), (um 30, .inl (um 48, 40, .inl (fun _ => 0))), (um 31, .inl (um 49, 40, .inl (fun _ => 0))), (um 32, .inl (um 50, 40, .inl (fun _ => 0))), (um 33, .inl (um 51, 40, .inr (.inl (fun _ => 0)))), (um 34, .inl (um 52, 40, .inl (fun _ => 0))), (um 35, .inl (um 53, 40, .inl (fun _ => 0))), (um 36, .inl (um 54, 40, .inl (fun _ => 0))), (um 37, .inl (um 55, 40, .inl (fun _ => 0)))]) (hS : va_S (fun q : Nat => s.heap.size ≤ q) s.heap H locs) {ls : Array Slot} (hl : lv_has ls 7 [(4, .int 0), (3, .ref ro), (2, .ref am), (1, .ref ax), (0, .ref b)]) : W p l e room_1 s m #[Value.ref b] below meth c H locs 38 11351 (lw_Z below #[Value.ref b] s) (F0 m 538 ls []) := by
  have C1 := C0
  obtain ⟨hx, hb, hr, hml, hown, hts, hX, hbl, hlocks, hgv⟩ := C0
  have hown : s.vm.findClass RL = some m.cls := hown
  have hA : ∀ q : Nat, s.heap.size ≤ q → (fun q : Nat => s.heap.size ≤ q) q := fun _ h => h
  have hbA : ¬ (fun q : Nat => s.heap.size ≤ q) b := Nat.not_le.mpr hbl
  refine lv_aload_n hx hb dL_law_538 rfl (lv_at hl 3 rfl) ?_
  refine lv_aload_n hx hb dL_law_539 rfl (lv_at hl 4 rfl) ?_
  refine lv_iload hx hb dL_law_540 (lv_at hl 0 rfl) ?_
  refine lv_iconst (v := 1) hx hb dL_law_542 (by decide) ?_
  refine lv_iadd hx hb dL_law_543 ?_
  refine lv_topi (fun x1 ex1 => ?_)
  obtain rfl : x1 = 1 := by rw [ex1]; decide
  refine va_sld hx hb hX hbl hbA hS (by unfold vp_in; decide : vp_in 1 9) dL_law_544 ?_
  refine W.eq (g2 := F0 m 545 ls [.int (xs 1), .ref ax]) rfl ?_
  refine lv_aload_n hx hb dL_law_545 rfl (lv_at hl 4 rfl) ?_
  refine lv_iload hx hb dL_law_546 (lv_at hl 0 rfl) ?_
  refine lv_iconst (v := 2) hx hb dL_law_548 (by decide) ?_
  refine lv_iadd hx hb dL_law_549 ?_
  refine lv_topi (fun x2 ex2 => ?_)
  obtain rfl : x2 = 2 := by rw [ex2]; decide
  refine va_sld hx hb hX hbl hbA hS (by unfold vp_in; decide : vp_in 2 9) dL_law_550 ?_
  refine W.eq (g2 := F0 m 551 ls [.int (xs 2), .int (xs 1), .ref ax]) rfl ?_
  refine vp_callSi (W.runV (As := [.int (xs 1), .int (xs 2)]) (rest := []) ⟨hx, hb, hml, hown, hts⟩ (zX6_member l dC dI ax (ux 0) (ux 1) (ux 2) (ux 3) (xs 1) (xs 2)) (cwV 2 hts zgL_law_X6_member_60 rfl rfl rfl (by decide +kernel) ⟨(show 2 + 1 ≤ 10 by omega), (show 8 + (3 + 11) + 45 ≤ 372 by omega)⟩) (zVr (ci := 5) (q0 := 0) (q := (RX6, TX6, 7)) (hK.sub (tys' := []) [] rfl) (hP.sub (ws' := [(ax, .inr (5, [.ref (ux 0), .int 0, .ref (ux 1), .int 0, .ref (ux 2), .int 0, .ref (ux 3)]))]) [0] rfl) rfl rfl rfl) rfl rfl hl.1 rfl (lv_room (Nat.le_of_ble_eq_true rfl)) dL_law_551 ⟨(show 38 + 0 ≤ 600002 by omega), (show 11351 + 0 ≤ 7302232 by omega)⟩) (fun r3 hr3 => ?_)
  subst hr3
  refine lv_aload_n hx hb dL_law_554 rfl (lv_at hl 2 rfl) ?_
  refine lv_aload_n hx hb dL_law_555 rfl (lv_at hl 4 rfl) ?_
  refine lv_iload hx hb dL_law_556 (lv_at hl 0 rfl) ?_
  refine lv_iconst (v := 1) hx hb dL_law_558 (by decide) ?_
  refine lv_iadd hx hb dL_law_559 ?_
  refine lv_topi (fun x4 ex4 => ?_)
  obtain rfl : x4 = 1 := by rw [ex4]; decide
  refine va_sld hx hb hX hbl hbA hS (by unfold vp_in; decide : vp_in 1 9) dL_law_560 ?_
  refine W.eq (g2 := F0 m 561 ls [.int (xs 1), .ref am, .int (-2)]) rfl ?_
  refine lv_aload_n hx hb dL_law_561 rfl (lv_at hl 4 rfl) ?_
  refine lv_iload hx hb dL_law_562 (lv_at hl 0 rfl) ?_
  refine lv_iconst (v := 2) hx hb dL_law_564 (by decide) ?_
  refine lv_iadd hx hb dL_law_565 ?_
  refine lv_topi (fun x5 ex5 => ?_)
  obtain rfl : x5 = 2 := by rw [ex5]; decide
  refine va_sld hx hb hX hbl hbA hS (by unfold vp_in; decide : vp_in 2 9) dL_law_566 ?_
  refine W.eq (g2 := F0 m 567 ls [.int (xs 2), .int (xs 1), .ref am, .int (-2)]) rfl ?_
  have hPc := hP.sub (ws' := [(am, .inr (6, zM 0 um))]) [6] rfl
  have hDc := hD.sub (ws' := [(am, .inr (6, zM 0 um))]) [6] (by decide) rfl
  have hKc := hK.sub (tys' := []) [] rfl
  have hFc := va_free (wc := [(am, .inr (6, zM 0 um))]) hD hS hA [6] rfl
  refine va_calli (va_runV (As := [.int (xs 1), .int (xs 2)]) (rest := [.int (-2)]) ⟨hx, hb, hml, hown, hts⟩ (zX7_member l dC dI am um H.size (xs 1) (xs 2)) (cwV 2 hts zgL_law_X7_member_63 rfl rfl rfl (by decide +kernel) ⟨(show 2 + 1 ≤ 10 by omega), (show 8 + (4 + 11) + 46 ≤ 372 by omega)⟩) (zVw (ci := 6) (q0 := 0) (q := (RX7, TX7, 46)) hKc hPc hDc rfl rfl rfl) rfl rfl hl.1 rfl (lv_room (Nat.le_of_ble_eq_true rfl)) dL_law_567 ⟨(show 38 + 0 ≤ 600002 by omega), (show 11351 + 0 ≤ 7302232 by omega)⟩) hS (fun q _ h => hFc q h) hFc (fun r7 u6 t H1 locs ht hvm hw hB hz1 hk1 hS => ?_)
  obtain ⟨hP, hD⟩ := z_rest (wr := [(ax, .inr (5, [.ref (ux 0), .int 0, .ref (ux 1), .int 0, .ref (ux 2), .int 0, .ref (ux 3)])), (ux 0, .inl (ux 6, 800, .inl (fun _ => 0))), (ux 1, .inl (ux 7, 5, .inr (.inr (.inr (.inr (fun _ => none)))))), (ux 2, .inl (ux 8, 40, .inr (.inr (.inr (.inr (fun _ => none)))))), (ux 3, .inr (1, [.ref (ux 4), .ref (ux 5), .int 0, .int 0, .int 0])), (ux 4, .inr (3, [.ref (ux 0), .int 0, .int 0, .int 0, .int 0, .long 0])), (um 1, .inl (um 46, 800, .inl (fun _ => 0))), (um 4, .inl (um 47, 5, .inl (fun _ => 0))), (um 30, .inl (um 48, 40, .inl (fun _ => 0))), (um 31, .inl (um 49, 40, .inl (fun _ => 0))), (um 32, .inl (um 50, 40, .inl (fun _ => 0))), (um 33, .inl (um 51, 40, .inr (.inl (fun _ => 0)))), (um 34, .inl (um 52, 40, .inl (fun _ => 0))), (um 35, .inl (um 53, 40, .inl (fun _ => 0))), (um 36, .inl (um 54, 40, .inl (fun _ => 0))), (um 37, .inl (um 55, 40, .inl (fun _ => 0)))]) hP hD [6] [0, 1, 2, 3, 4, 5, 7, 8, 9, 10, 11, 12, 13, 14, 15, 16] rfl rfl (by decide) (by decide) hk1 hFc
  have hK := hK.sub (tys' := [(ux 6, .byte), (ux 7, .object RX0), (ux 8, .object RX5), (um 46, .int), (um 47, .int), (um 48, .int), (um 49, .int), (um 50, .int), (um 51, .long), (um 52, .int), (um 53, .int), (um 54, .int), (um 55, .int)]) [0, 1, 2, 3, 4, 5, 6, 7, 8, 9, 10, 11, 12] rfl
  generalize H1 = H at hP hS ⊢
  have hP : va_P (dC, dI) vwCl [(ax, .inr (5, [.ref (ux 0), .int 0, .ref (ux 1), .int 0, .ref (ux 2), .int 0, .ref (ux 3)])), (ux 0, .inl (ux 6, 800, .inl (fun _ => 0))), (ux 1, .inl (ux 7, 5, .inr (.inr (.inr (.inr (fun _ => none)))))), (ux 2, .inl (ux 8, 40, .inr (.inr (.inr (.inr (fun _ => none)))))), (ux 3, .inr (1, [.ref (ux 4), .ref (ux 5), .int 0, .int 0, .int 0])), (ux 4, .inr (3, [.ref (ux 0), .int 0, .int 0, .int 0, .int 0, .long 0])), (um 1, .inl (um 46, 800, .inl (fun _ => 0))), (um 4, .inl (um 47, 5, .inl (fun _ => 0))), (um 30, .inl (um 48, 40, .inl (fun _ => 0))), (um 31, .inl (um 49, 40, .inl (fun _ => 0))), (um 32, .inl (um 50, 40, .inl (fun _ => 0))), (um 33, .inl (um 51, 40, .inr (.inl (fun _ => 0)))), (um 34, .inl (um 52, 40, .inl (fun _ => 0))), (um 35, .inl (um 53, 40, .inl (fun _ => 0))), (um 36, .inl (um 54, 40, .inl (fun _ => 0))), (um 37, .inl (um 55, 40, .inl (fun _ => 0)))] H := hP
  have hD : va_D (fun q : Nat => s.heap.size ≤ q) [(ax, .inr (5, [.ref (ux 0), .int 0, .ref (ux 1), .int 0, .ref (ux 2), .int 0, .ref (ux 3)])), (ux 0, .inl (ux 6, 800, .inl (fun _ => 0))), (ux 1, .inl (ux 7, 5, .inr (.inr (.inr (.inr (fun _ => none)))))), (ux 2, .inl (ux 8, 40, .inr (.inr (.inr (.inr (fun _ => none)))))), (ux 3, .inr (1, [.ref (ux 4), .ref (ux 5), .int 0, .int 0, .int 0])), (ux 4, .inr (3, [.ref (ux 0), .int 0, .int 0, .int 0, .int 0, .long 0])), (um 1, .inl (um 46, 800, .inl (fun _ => 0))), (um 4, .inl (um 47, 5, .inl (fun _ => 0))), (um 30, .inl (um 48, 40, .inl (fun _ => 0))), (um 31, .inl (um 49, 40, .inl (fun _ => 0))), (um 32, .inl (um 50, 40, .inl (fun _ => 0))), (um 33, .inl (um 51, 40, .inr (.inl (fun _ => 0)))), (um 34, .inl (um 52, 40, .inl (fun _ => 0))), (um 35, .inl (um 53, 40, .inl (fun _ => 0))), (um 36, .inl (um 54, 40, .inl (fun _ => 0))), (um 37, .inl (um 55, 40, .inl (fun _ => 0)))] := hD
  have hK : va_K (dC, dI) vwCl [(ux 6, .byte), (ux 7, .object RX0), (ux 8, .object RX5), (um 46, .int), (um 47, .int), (um 48, .int), (um 49, .int), (um 50, .int), (um 51, .long), (um 52, .int), (um 53, .int), (um 54, .int), (um 55, .int)] s := hK
  obtain rfl : r7 = -2 := hw
  refine lv_icmp_eq (tgt := 902) hx hb dL_law_570 (by decide) (fun _ => ?_) (fun c9 => absurd (rfl) c9)
  exact zc_end C1 hS (lv_sub hl [0, 4] rfl) (by omega) (by omega)
theorem dL_law_575 : decode cL_law 575 = .ok (.aload_n 1, 1) := by decide +kernel
theorem dL_law_576 : decode cL_law 576 = .ok (.aload_n 0, 1) := by decide +kernel
theorem dL_law_577 : decode cL_law 577 = .ok (.iload 4, 2) := by decide +kernel
theorem dL_law_579 : decode cL_law 579 = .ok (.iconst 1, 1) := by decide +kernel
theorem dL_law_580 : decode cL_law 580 = .ok (.iadd, 1) := by decide +kernel
theorem dL_law_581 : decode cL_law 581 = .ok (.iaload, 1) := by decide +kernel
theorem dL_law_582 : decode cL_law 582 = .ok (.aload_n 0, 1) := by decide +kernel
theorem dL_law_583 : decode cL_law 583 = .ok (.iload 4, 2) := by decide +kernel
theorem dL_law_585 : decode cL_law 585 = .ok (.iconst 2, 1) := by decide +kernel
theorem dL_law_586 : decode cL_law 586 = .ok (.iadd, 1) := by decide +kernel
theorem dL_law_587 : decode cL_law 587 = .ok (.iaload, 1) := by decide +kernel
theorem dL_law_588 : decode cL_law 588 = .ok (.aload_n 0, 1) := by decide +kernel
theorem dL_law_589 : decode cL_law 589 = .ok (.iload 4, 2) := by decide +kernel
theorem dL_law_591 : decode cL_law 591 = .ok (.iconst 3, 1) := by decide +kernel
theorem dL_law_592 : decode cL_law 592 = .ok (.iadd, 1) := by decide +kernel
theorem dL_law_593 : decode cL_law 593 = .ok (.iaload, 1) := by decide +kernel
theorem dL_law_594 : decode cL_law 594 = .ok (.invokevirtual 64, 3) := by decide +kernel
theorem dL_law_597 : decode cL_law 597 = .ok (.aload_n 2, 1) := by decide +kernel
theorem dL_law_598 : decode cL_law 598 = .ok (.aload_n 0, 1) := by decide +kernel
theorem dL_law_599 : decode cL_law 599 = .ok (.iload 4, 2) := by decide +kernel
theorem dL_law_601 : decode cL_law 601 = .ok (.iconst 1, 1) := by decide +kernel
theorem dL_law_602 : decode cL_law 602 = .ok (.iadd, 1) := by decide +kernel
theorem dL_law_603 : decode cL_law 603 = .ok (.iaload, 1) := by decide +kernel
theorem dL_law_604 : decode cL_law 604 = .ok (.aload_n 0, 1) := by decide +kernel
theorem dL_law_605 : decode cL_law 605 = .ok (.iload 4, 2) := by decide +kernel
theorem dL_law_607 : decode cL_law 607 = .ok (.iconst 2, 1) := by decide +kernel
theorem dL_law_608 : decode cL_law 608 = .ok (.iadd, 1) := by decide +kernel
theorem dL_law_609 : decode cL_law 609 = .ok (.iaload, 1) := by decide +kernel
theorem dL_law_610 : decode cL_law 610 = .ok (.aload_n 0, 1) := by decide +kernel
theorem dL_law_611 : decode cL_law 611 = .ok (.iload 4, 2) := by decide +kernel
theorem dL_law_613 : decode cL_law 613 = .ok (.iconst 3, 1) := by decide +kernel
theorem dL_law_614 : decode cL_law 614 = .ok (.iadd, 1) := by decide +kernel
theorem dL_law_615 : decode cL_law 615 = .ok (.iaload, 1) := by decide +kernel
theorem dL_law_616 : decode cL_law 616 = .ok (.invokevirtual 67, 3) := by decide +kernel
theorem dL_law_619 : decode cL_law 619 = .ok (.if_icmp .eq 283, 3) := by decide +kernel
set_option maxHeartbeats 4000000 in
set_option maxRecDepth 100000 in
theorem zc_9 {p : Program} {l : Launch} {e : Env} {s : State} {m : MethodId} {below : List Frame} {meth : Method} {c : Code} {dC : Nat → ClassId} {dI : Nat → Nat → Nat} {b : Nat} {xs : Nat → Int32} (C0 : lw_At p s m meth c b 9 xs)  {ax am ro : Nat} {ux um : Nat → Nat} {H : Heap} {locs : List Loc} (hK : va_K (dC, dI) vwCl [(ux 6, .byte), (ux 7, .object RX0), (ux 8, .object RX5), (um 46, .int), (um 47, .int), (um 48, .int), (um 49, .int), (um 50, .int), (um 51, .long), (um 52, .int), (um 53, .int), (um 54, .int), (um 55, .int)] s) (hP : va_P (dC, dI) vwCl [(ax, .inr (5, [.ref (ux 0), .int 0, .ref (ux 1), .int 0, .ref (ux 2), .int 0, .ref (ux 3)])), (ux 0, .inl (ux 6, 800, .inl (fun _ => 0))), (ux 1, .inl (ux 7, 5, .inr (.inr (.inr (.inr (fun _ => none)))))), (ux 2, .inl (ux 8, 40, .inr (.inr (.inr (.inr (fun _ => none)))))), (ux 3, .inr (1, [.ref (ux 4), .ref (ux 5), .int 0, .int 0, .int 0])), (ux 4, .inr (3, [.ref (ux 0), .int 0, .int 0, .int 0, .int 0, .long 0])), (am, .inr (6, zM 0 um)), (um 1, .inl (um 46, 800, .inl (fun _ => 0))), (um 4, .inl (um 47, 5, .inl (fun _ => 0))), (um 30, .inl (um 48, 40, .inl (fun _ => 0))), (um 31, .inl (um 49, 40, .inl (fun _ => 0))), (um 32, .inl (um 50, 40, .inl (fun _ => 0))), (um 33, .inl (um 51, 40, .inr (.inl (fun _ => 0)))), (um 34, .inl (um 52, 40, .inl (fun _ => 0))), (um 35, .inl (um 53, 40, .inl (fun _ => 0))), (um 36, .inl (um 54, 40, .inl (fun _ => 0))), (um 37, .inl (um 55, 40, .inl (fun _ => 0)))] H) (hD : va_D (fun q : Nat => s.heap.size ≤ q) [(ax, .inr (5, [.ref (ux 0), .int 0, .ref (ux 1), .int 0, .ref (ux 2), .int 0, .ref (ux 3)])), (ux 0, .inl (ux 6, 800, .inl (fun _ => 0))), (ux 1, .inl (ux 7, 5, .inr (.inr (.inr (.inr (fun _ => none)))))), (ux 2, .inl (ux 8, 40, .inr (.inr (.inr (.inr (fun _ => none)))))), (ux 3, .inr (1, [.ref (ux 4), .ref (ux 5), .int 0, .int 0, .int 0])), (ux 4, .inr (3, [.ref (ux 0), .int 0, .int 0, .int 0, .int 0, .long 0])), (am, .inr (6, zM 0 um)), (um 1, .inl (um 46, 800, .inl (fun _ => 0))), (um 4, .inl (um 47, 5, .inl (fun _ => 0))), (um 30, .inl (um 48, 40, .inl (fun _ => 0))), (um 31, .inl (um 49, 40, .inl (fun _ => 0))), (um 32, .inl (um 50, 40, .inl (fun _ => 0))), (um 33, .inl (um 51, 40, .inr (.inl (fun _ => 0)))), (um 34, .inl (um 52, 40, .inl (fun _ => 0))), (um 35, .inl (um 53, 40, .inl (fun _ => 0))), (um 36, .inl (um 54, 40, .inl (fun _ => 0))), (um 37, .inl (um 55, 40, .inl (fun _ => 0)))]) (hS : va_S (fun q : Nat => s.heap.size ≤ q) s.heap H locs) {ls : Array Slot} (hl : lv_has ls 7 [(4, .int 0), (3, .ref ro), (2, .ref am), (1, .ref ax), (0, .ref b)]) : W p l e room_1 s m #[Value.ref b] below meth c H locs 38 11351 (lw_Z below #[Value.ref b] s) (F0 m 575 ls []) := by
  have C1 := C0
  obtain ⟨hx, hb, hr, hml, hown, hts, hX, hbl, hlocks, hgv⟩ := C0
  have hown : s.vm.findClass RL = some m.cls := hown
  have hA : ∀ q : Nat, s.heap.size ≤ q → (fun q : Nat => s.heap.size ≤ q) q := fun _ h => h
  have hbA : ¬ (fun q : Nat => s.heap.size ≤ q) b := Nat.not_le.mpr hbl
  refine lv_aload_n hx hb dL_law_575 rfl (lv_at hl 3 rfl) ?_
  refine lv_aload_n hx hb dL_law_576 rfl (lv_at hl 4 rfl) ?_
  refine lv_iload hx hb dL_law_577 (lv_at hl 0 rfl) ?_
  refine lv_iconst (v := 1) hx hb dL_law_579 (by decide) ?_
  refine lv_iadd hx hb dL_law_580 ?_
  refine lv_topi (fun x1 ex1 => ?_)
  obtain rfl : x1 = 1 := by rw [ex1]; decide
  refine va_sld hx hb hX hbl hbA hS (by unfold vp_in; decide : vp_in 1 9) dL_law_581 ?_
  refine W.eq (g2 := F0 m 582 ls [.int (xs 1), .ref ax]) rfl ?_
  refine lv_aload_n hx hb dL_law_582 rfl (lv_at hl 4 rfl) ?_
  refine lv_iload hx hb dL_law_583 (lv_at hl 0 rfl) ?_
  refine lv_iconst (v := 2) hx hb dL_law_585 (by decide) ?_
  refine lv_iadd hx hb dL_law_586 ?_
  refine lv_topi (fun x2 ex2 => ?_)
  obtain rfl : x2 = 2 := by rw [ex2]; decide
  refine va_sld hx hb hX hbl hbA hS (by unfold vp_in; decide : vp_in 2 9) dL_law_587 ?_
  refine W.eq (g2 := F0 m 588 ls [.int (xs 2), .int (xs 1), .ref ax]) rfl ?_
  refine lv_aload_n hx hb dL_law_588 rfl (lv_at hl 4 rfl) ?_
  refine lv_iload hx hb dL_law_589 (lv_at hl 0 rfl) ?_
  refine lv_iconst (v := 3) hx hb dL_law_591 (by decide) ?_
  refine lv_iadd hx hb dL_law_592 ?_
  refine lv_topi (fun x3 ex3 => ?_)
  obtain rfl : x3 = 3 := by rw [ex3]; decide
  refine va_sld hx hb hX hbl hbA hS (by unfold vp_in; decide : vp_in 3 9) dL_law_593 ?_
  refine W.eq (g2 := F0 m 594 ls [.int (xs 3), .int (xs 2), .int (xs 1), .ref ax]) rfl ?_
  refine vp_callSi (W.runV (As := [.int (xs 1), .int (xs 2), .int (xs 3)]) (rest := []) ⟨hx, hb, hml, hown, hts⟩ (zX6_done l dC dI ax (ux 0) (ux 1) (ux 2) (ux 3) (xs 1) (xs 2) (xs 3)) (cwV 3 hts zgL_law_X6_done_64 rfl rfl rfl (by decide +kernel) ⟨(show 2 + 1 ≤ 10 by omega), (show 8 + (4 + 11) + 47 ≤ 372 by omega)⟩) (zVr (ci := 5) (q0 := 0) (q := (RX6, TX6, 7)) (hK.sub (tys' := []) [] rfl) (hP.sub (ws' := [(ax, .inr (5, [.ref (ux 0), .int 0, .ref (ux 1), .int 0, .ref (ux 2), .int 0, .ref (ux 3)]))]) [0] rfl) rfl rfl rfl) rfl rfl hl.1 rfl (lv_room (Nat.le_of_ble_eq_true rfl)) dL_law_594 ⟨(show 38 + 0 ≤ 600002 by omega), (show 11351 + 0 ≤ 7302232 by omega)⟩) (fun r4 hr4 => ?_)
  subst hr4
  refine lv_aload_n hx hb dL_law_597 rfl (lv_at hl 2 rfl) ?_
  refine lv_aload_n hx hb dL_law_598 rfl (lv_at hl 4 rfl) ?_
  refine lv_iload hx hb dL_law_599 (lv_at hl 0 rfl) ?_
  refine lv_iconst (v := 1) hx hb dL_law_601 (by decide) ?_
  refine lv_iadd hx hb dL_law_602 ?_
  refine lv_topi (fun x5 ex5 => ?_)
  obtain rfl : x5 = 1 := by rw [ex5]; decide
  refine va_sld hx hb hX hbl hbA hS (by unfold vp_in; decide : vp_in 1 9) dL_law_603 ?_
  refine W.eq (g2 := F0 m 604 ls [.int (xs 1), .ref am, .int (-2)]) rfl ?_
  refine lv_aload_n hx hb dL_law_604 rfl (lv_at hl 4 rfl) ?_
  refine lv_iload hx hb dL_law_605 (lv_at hl 0 rfl) ?_
  refine lv_iconst (v := 2) hx hb dL_law_607 (by decide) ?_
  refine lv_iadd hx hb dL_law_608 ?_
  refine lv_topi (fun x6 ex6 => ?_)
  obtain rfl : x6 = 2 := by rw [ex6]; decide
  refine va_sld hx hb hX hbl hbA hS (by unfold vp_in; decide : vp_in 2 9) dL_law_609 ?_
  refine W.eq (g2 := F0 m 610 ls [.int (xs 2), .int (xs 1), .ref am, .int (-2)]) rfl ?_
  refine lv_aload_n hx hb dL_law_610 rfl (lv_at hl 4 rfl) ?_
  refine lv_iload hx hb dL_law_611 (lv_at hl 0 rfl) ?_
  refine lv_iconst (v := 3) hx hb dL_law_613 (by decide) ?_
  refine lv_iadd hx hb dL_law_614 ?_
  refine lv_topi (fun x7 ex7 => ?_)
  obtain rfl : x7 = 3 := by rw [ex7]; decide
  refine va_sld hx hb hX hbl hbA hS (by unfold vp_in; decide : vp_in 3 9) dL_law_615 ?_
  refine W.eq (g2 := F0 m 616 ls [.int (xs 3), .int (xs 2), .int (xs 1), .ref am, .int (-2)]) rfl ?_
  have hPc := hP.sub (ws' := [(am, .inr (6, zM 0 um))]) [6] rfl
  have hDc := hD.sub (ws' := [(am, .inr (6, zM 0 um))]) [6] (by decide) rfl
  have hKc := hK.sub (tys' := []) [] rfl
  have hFc := va_free (wc := [(am, .inr (6, zM 0 um))]) hD hS hA [6] rfl
  refine va_calli (va_runV (As := [.int (xs 1), .int (xs 2), .int (xs 3)]) (rest := [.int (-2)]) ⟨hx, hb, hml, hown, hts⟩ (zX7_done l dC dI am um H.size (xs 1) (xs 2) (xs 3)) (cwV 3 hts zgL_law_X7_done_67 rfl rfl rfl (by decide +kernel) ⟨(show 3 + 1 ≤ 10 by omega), (show 8 + (5 + 11) + 74 ≤ 372 by omega)⟩) (zVw (ci := 6) (q0 := 0) (q := (RX7, TX7, 46)) hKc hPc hDc rfl rfl rfl) rfl rfl hl.1 rfl (lv_room (Nat.le_of_ble_eq_true rfl)) dL_law_616 ⟨(show 38 + 0 ≤ 600002 by omega), (show 11351 + 0 ≤ 7302232 by omega)⟩) hS (fun q _ h => hFc q h) hFc (fun r9 u8 t H1 locs ht hvm hw hB hz1 hk1 hS => ?_)
  obtain ⟨hP, hD⟩ := z_rest (wr := [(ax, .inr (5, [.ref (ux 0), .int 0, .ref (ux 1), .int 0, .ref (ux 2), .int 0, .ref (ux 3)])), (ux 0, .inl (ux 6, 800, .inl (fun _ => 0))), (ux 1, .inl (ux 7, 5, .inr (.inr (.inr (.inr (fun _ => none)))))), (ux 2, .inl (ux 8, 40, .inr (.inr (.inr (.inr (fun _ => none)))))), (ux 3, .inr (1, [.ref (ux 4), .ref (ux 5), .int 0, .int 0, .int 0])), (ux 4, .inr (3, [.ref (ux 0), .int 0, .int 0, .int 0, .int 0, .long 0])), (um 1, .inl (um 46, 800, .inl (fun _ => 0))), (um 4, .inl (um 47, 5, .inl (fun _ => 0))), (um 30, .inl (um 48, 40, .inl (fun _ => 0))), (um 31, .inl (um 49, 40, .inl (fun _ => 0))), (um 32, .inl (um 50, 40, .inl (fun _ => 0))), (um 33, .inl (um 51, 40, .inr (.inl (fun _ => 0)))), (um 34, .inl (um 52, 40, .inl (fun _ => 0))), (um 35, .inl (um 53, 40, .inl (fun _ => 0))), (um 36, .inl (um 54, 40, .inl (fun _ => 0))), (um 37, .inl (um 55, 40, .inl (fun _ => 0)))]) hP hD [6] [0, 1, 2, 3, 4, 5, 7, 8, 9, 10, 11, 12, 13, 14, 15, 16] rfl rfl (by decide) (by decide) hk1 hFc
  have hK := hK.sub (tys' := [(ux 6, .byte), (ux 7, .object RX0), (ux 8, .object RX5), (um 46, .int), (um 47, .int), (um 48, .int), (um 49, .int), (um 50, .int), (um 51, .long), (um 52, .int), (um 53, .int), (um 54, .int), (um 55, .int)]) [0, 1, 2, 3, 4, 5, 6, 7, 8, 9, 10, 11, 12] rfl
  generalize H1 = H at hP hS ⊢
  have hP : va_P (dC, dI) vwCl [(ax, .inr (5, [.ref (ux 0), .int 0, .ref (ux 1), .int 0, .ref (ux 2), .int 0, .ref (ux 3)])), (ux 0, .inl (ux 6, 800, .inl (fun _ => 0))), (ux 1, .inl (ux 7, 5, .inr (.inr (.inr (.inr (fun _ => none)))))), (ux 2, .inl (ux 8, 40, .inr (.inr (.inr (.inr (fun _ => none)))))), (ux 3, .inr (1, [.ref (ux 4), .ref (ux 5), .int 0, .int 0, .int 0])), (ux 4, .inr (3, [.ref (ux 0), .int 0, .int 0, .int 0, .int 0, .long 0])), (um 1, .inl (um 46, 800, .inl (fun _ => 0))), (um 4, .inl (um 47, 5, .inl (fun _ => 0))), (um 30, .inl (um 48, 40, .inl (fun _ => 0))), (um 31, .inl (um 49, 40, .inl (fun _ => 0))), (um 32, .inl (um 50, 40, .inl (fun _ => 0))), (um 33, .inl (um 51, 40, .inr (.inl (fun _ => 0)))), (um 34, .inl (um 52, 40, .inl (fun _ => 0))), (um 35, .inl (um 53, 40, .inl (fun _ => 0))), (um 36, .inl (um 54, 40, .inl (fun _ => 0))), (um 37, .inl (um 55, 40, .inl (fun _ => 0)))] H := hP
  have hD : va_D (fun q : Nat => s.heap.size ≤ q) [(ax, .inr (5, [.ref (ux 0), .int 0, .ref (ux 1), .int 0, .ref (ux 2), .int 0, .ref (ux 3)])), (ux 0, .inl (ux 6, 800, .inl (fun _ => 0))), (ux 1, .inl (ux 7, 5, .inr (.inr (.inr (.inr (fun _ => none)))))), (ux 2, .inl (ux 8, 40, .inr (.inr (.inr (.inr (fun _ => none)))))), (ux 3, .inr (1, [.ref (ux 4), .ref (ux 5), .int 0, .int 0, .int 0])), (ux 4, .inr (3, [.ref (ux 0), .int 0, .int 0, .int 0, .int 0, .long 0])), (um 1, .inl (um 46, 800, .inl (fun _ => 0))), (um 4, .inl (um 47, 5, .inl (fun _ => 0))), (um 30, .inl (um 48, 40, .inl (fun _ => 0))), (um 31, .inl (um 49, 40, .inl (fun _ => 0))), (um 32, .inl (um 50, 40, .inl (fun _ => 0))), (um 33, .inl (um 51, 40, .inr (.inl (fun _ => 0)))), (um 34, .inl (um 52, 40, .inl (fun _ => 0))), (um 35, .inl (um 53, 40, .inl (fun _ => 0))), (um 36, .inl (um 54, 40, .inl (fun _ => 0))), (um 37, .inl (um 55, 40, .inl (fun _ => 0)))] := hD
  have hK : va_K (dC, dI) vwCl [(ux 6, .byte), (ux 7, .object RX0), (ux 8, .object RX5), (um 46, .int), (um 47, .int), (um 48, .int), (um 49, .int), (um 50, .int), (um 51, .long), (um 52, .int), (um 53, .int), (um 54, .int), (um 55, .int)] s := hK
  obtain rfl : r9 = -2 := hw
  refine lv_icmp_eq (tgt := 902) hx hb dL_law_619 (by decide) (fun _ => ?_) (fun c9 => absurd (rfl) c9)
  exact zc_end C1 hS (lv_sub hl [0, 4] rfl) (by omega) (by omega)
theorem dL_law_624 : decode cL_law 624 = .ok (.aload_n 1, 1) := by decide +kernel
theorem dL_law_625 : decode cL_law 625 = .ok (.aload_n 0, 1) := by decide +kernel
theorem dL_law_626 : decode cL_law 626 = .ok (.iload 4, 2) := by decide +kernel
theorem dL_law_628 : decode cL_law 628 = .ok (.iconst 1, 1) := by decide +kernel
theorem dL_law_629 : decode cL_law 629 = .ok (.iadd, 1) := by decide +kernel
theorem dL_law_630 : decode cL_law 630 = .ok (.iaload, 1) := by decide +kernel
theorem dL_law_631 : decode cL_law 631 = .ok (.aload_n 0, 1) := by decide +kernel
theorem dL_law_632 : decode cL_law 632 = .ok (.iload 4, 2) := by decide +kernel
theorem dL_law_634 : decode cL_law 634 = .ok (.iconst 2, 1) := by decide +kernel
theorem dL_law_635 : decode cL_law 635 = .ok (.iadd, 1) := by decide +kernel
theorem dL_law_636 : decode cL_law 636 = .ok (.iaload, 1) := by decide +kernel
theorem dL_law_637 : decode cL_law 637 = .ok (.aload_n 0, 1) := by decide +kernel
theorem dL_law_638 : decode cL_law 638 = .ok (.iload 4, 2) := by decide +kernel
theorem dL_law_640 : decode cL_law 640 = .ok (.iconst 3, 1) := by decide +kernel
theorem dL_law_641 : decode cL_law 641 = .ok (.iadd, 1) := by decide +kernel
theorem dL_law_642 : decode cL_law 642 = .ok (.iaload, 1) := by decide +kernel
theorem dL_law_643 : decode cL_law 643 = .ok (.invokevirtual 68, 3) := by decide +kernel
theorem dL_law_646 : decode cL_law 646 = .ok (.aload_n 2, 1) := by decide +kernel
theorem dL_law_647 : decode cL_law 647 = .ok (.aload_n 0, 1) := by decide +kernel
theorem dL_law_648 : decode cL_law 648 = .ok (.iload 4, 2) := by decide +kernel
theorem dL_law_650 : decode cL_law 650 = .ok (.iconst 1, 1) := by decide +kernel
theorem dL_law_651 : decode cL_law 651 = .ok (.iadd, 1) := by decide +kernel
theorem dL_law_652 : decode cL_law 652 = .ok (.iaload, 1) := by decide +kernel
theorem dL_law_653 : decode cL_law 653 = .ok (.aload_n 0, 1) := by decide +kernel
theorem dL_law_654 : decode cL_law 654 = .ok (.iload 4, 2) := by decide +kernel
theorem dL_law_656 : decode cL_law 656 = .ok (.iconst 2, 1) := by decide +kernel
theorem dL_law_657 : decode cL_law 657 = .ok (.iadd, 1) := by decide +kernel
theorem dL_law_658 : decode cL_law 658 = .ok (.iaload, 1) := by decide +kernel
theorem dL_law_659 : decode cL_law 659 = .ok (.aload_n 0, 1) := by decide +kernel
theorem dL_law_660 : decode cL_law 660 = .ok (.iload 4, 2) := by decide +kernel
theorem dL_law_662 : decode cL_law 662 = .ok (.iconst 3, 1) := by decide +kernel
theorem dL_law_663 : decode cL_law 663 = .ok (.iadd, 1) := by decide +kernel
theorem dL_law_664 : decode cL_law 664 = .ok (.iaload, 1) := by decide +kernel
theorem dL_law_665 : decode cL_law 665 = .ok (.invokevirtual 71, 3) := by decide +kernel
theorem dL_law_668 : decode cL_law 668 = .ok (.if_icmp .eq 234, 3) := by decide +kernel
set_option maxHeartbeats 4000000 in
set_option maxRecDepth 100000 in
theorem zc_10 {p : Program} {l : Launch} {e : Env} {s : State} {m : MethodId} {below : List Frame} {meth : Method} {c : Code} {dC : Nat → ClassId} {dI : Nat → Nat → Nat} {b : Nat} {xs : Nat → Int32} (C0 : lw_At p s m meth c b 9 xs)  {ax am ro : Nat} {ux um : Nat → Nat} {H : Heap} {locs : List Loc} (hK : va_K (dC, dI) vwCl [(ux 6, .byte), (ux 7, .object RX0), (ux 8, .object RX5), (um 46, .int), (um 47, .int), (um 48, .int), (um 49, .int), (um 50, .int), (um 51, .long), (um 52, .int), (um 53, .int), (um 54, .int), (um 55, .int)] s) (hP : va_P (dC, dI) vwCl [(ax, .inr (5, [.ref (ux 0), .int 0, .ref (ux 1), .int 0, .ref (ux 2), .int 0, .ref (ux 3)])), (ux 0, .inl (ux 6, 800, .inl (fun _ => 0))), (ux 1, .inl (ux 7, 5, .inr (.inr (.inr (.inr (fun _ => none)))))), (ux 2, .inl (ux 8, 40, .inr (.inr (.inr (.inr (fun _ => none)))))), (ux 3, .inr (1, [.ref (ux 4), .ref (ux 5), .int 0, .int 0, .int 0])), (ux 4, .inr (3, [.ref (ux 0), .int 0, .int 0, .int 0, .int 0, .long 0])), (am, .inr (6, zM 0 um)), (um 1, .inl (um 46, 800, .inl (fun _ => 0))), (um 4, .inl (um 47, 5, .inl (fun _ => 0))), (um 30, .inl (um 48, 40, .inl (fun _ => 0))), (um 31, .inl (um 49, 40, .inl (fun _ => 0))), (um 32, .inl (um 50, 40, .inl (fun _ => 0))), (um 33, .inl (um 51, 40, .inr (.inl (fun _ => 0)))), (um 34, .inl (um 52, 40, .inl (fun _ => 0))), (um 35, .inl (um 53, 40, .inl (fun _ => 0))), (um 36, .inl (um 54, 40, .inl (fun _ => 0))), (um 37, .inl (um 55, 40, .inl (fun _ => 0)))] H) (hD : va_D (fun q : Nat => s.heap.size ≤ q) [(ax, .inr (5, [.ref (ux 0), .int 0, .ref (ux 1), .int 0, .ref (ux 2), .int 0, .ref (ux 3)])), (ux 0, .inl (ux 6, 800, .inl (fun _ => 0))), (ux 1, .inl (ux 7, 5, .inr (.inr (.inr (.inr (fun _ => none)))))), (ux 2, .inl (ux 8, 40, .inr (.inr (.inr (.inr (fun _ => none)))))), (ux 3, .inr (1, [.ref (ux 4), .ref (ux 5), .int 0, .int 0, .int 0])), (ux 4, .inr (3, [.ref (ux 0), .int 0, .int 0, .int 0, .int 0, .long 0])), (am, .inr (6, zM 0 um)), (um 1, .inl (um 46, 800, .inl (fun _ => 0))), (um 4, .inl (um 47, 5, .inl (fun _ => 0))), (um 30, .inl (um 48, 40, .inl (fun _ => 0))), (um 31, .inl (um 49, 40, .inl (fun _ => 0))), (um 32, .inl (um 50, 40, .inl (fun _ => 0))), (um 33, .inl (um 51, 40, .inr (.inl (fun _ => 0)))), (um 34, .inl (um 52, 40, .inl (fun _ => 0))), (um 35, .inl (um 53, 40, .inl (fun _ => 0))), (um 36, .inl (um 54, 40, .inl (fun _ => 0))), (um 37, .inl (um 55, 40, .inl (fun _ => 0)))]) (hS : va_S (fun q : Nat => s.heap.size ≤ q) s.heap H locs) {ls : Array Slot} (hl : lv_has ls 7 [(4, .int 0), (3, .ref ro), (2, .ref am), (1, .ref ax), (0, .ref b)]) : W p l e room_1 s m #[Value.ref b] below meth c H locs 38 11351 (lw_Z below #[Value.ref b] s) (F0 m 624 ls []) := by
  have C1 := C0
  obtain ⟨hx, hb, hr, hml, hown, hts, hX, hbl, hlocks, hgv⟩ := C0
  have hown : s.vm.findClass RL = some m.cls := hown
  have hA : ∀ q : Nat, s.heap.size ≤ q → (fun q : Nat => s.heap.size ≤ q) q := fun _ h => h
  have hbA : ¬ (fun q : Nat => s.heap.size ≤ q) b := Nat.not_le.mpr hbl
  refine lv_aload_n hx hb dL_law_624 rfl (lv_at hl 3 rfl) ?_
  refine lv_aload_n hx hb dL_law_625 rfl (lv_at hl 4 rfl) ?_
  refine lv_iload hx hb dL_law_626 (lv_at hl 0 rfl) ?_
  refine lv_iconst (v := 1) hx hb dL_law_628 (by decide) ?_
  refine lv_iadd hx hb dL_law_629 ?_
  refine lv_topi (fun x1 ex1 => ?_)
  obtain rfl : x1 = 1 := by rw [ex1]; decide
  refine va_sld hx hb hX hbl hbA hS (by unfold vp_in; decide : vp_in 1 9) dL_law_630 ?_
  refine W.eq (g2 := F0 m 631 ls [.int (xs 1), .ref ax]) rfl ?_
  refine lv_aload_n hx hb dL_law_631 rfl (lv_at hl 4 rfl) ?_
  refine lv_iload hx hb dL_law_632 (lv_at hl 0 rfl) ?_
  refine lv_iconst (v := 2) hx hb dL_law_634 (by decide) ?_
  refine lv_iadd hx hb dL_law_635 ?_
  refine lv_topi (fun x2 ex2 => ?_)
  obtain rfl : x2 = 2 := by rw [ex2]; decide
  refine va_sld hx hb hX hbl hbA hS (by unfold vp_in; decide : vp_in 2 9) dL_law_636 ?_
  refine W.eq (g2 := F0 m 637 ls [.int (xs 2), .int (xs 1), .ref ax]) rfl ?_
  refine lv_aload_n hx hb dL_law_637 rfl (lv_at hl 4 rfl) ?_
  refine lv_iload hx hb dL_law_638 (lv_at hl 0 rfl) ?_
  refine lv_iconst (v := 3) hx hb dL_law_640 (by decide) ?_
  refine lv_iadd hx hb dL_law_641 ?_
  refine lv_topi (fun x3 ex3 => ?_)
  obtain rfl : x3 = 3 := by rw [ex3]; decide
  refine va_sld hx hb hX hbl hbA hS (by unfold vp_in; decide : vp_in 3 9) dL_law_642 ?_
  refine W.eq (g2 := F0 m 643 ls [.int (xs 3), .int (xs 2), .int (xs 1), .ref ax]) rfl ?_
  refine vp_callSi (W.runV (As := [.int (xs 1), .int (xs 2), .int (xs 3)]) (rest := []) ⟨hx, hb, hml, hown, hts⟩ (zX6_doneMember l dC dI ax (ux 0) (ux 1) (ux 2) (ux 3) (xs 1) (xs 2) (xs 3)) (cwV 3 hts zgL_law_X6_doneMember_68 rfl rfl rfl (by decide +kernel) ⟨(show 2 + 1 ≤ 10 by omega), (show 8 + (4 + 11) + 47 ≤ 372 by omega)⟩) (zVr (ci := 5) (q0 := 0) (q := (RX6, TX6, 7)) (hK.sub (tys' := []) [] rfl) (hP.sub (ws' := [(ax, .inr (5, [.ref (ux 0), .int 0, .ref (ux 1), .int 0, .ref (ux 2), .int 0, .ref (ux 3)]))]) [0] rfl) rfl rfl rfl) rfl rfl hl.1 rfl (lv_room (Nat.le_of_ble_eq_true rfl)) dL_law_643 ⟨(show 38 + 0 ≤ 600002 by omega), (show 11351 + 0 ≤ 7302232 by omega)⟩) (fun r4 hr4 => ?_)
  subst hr4
  refine lv_aload_n hx hb dL_law_646 rfl (lv_at hl 2 rfl) ?_
  refine lv_aload_n hx hb dL_law_647 rfl (lv_at hl 4 rfl) ?_
  refine lv_iload hx hb dL_law_648 (lv_at hl 0 rfl) ?_
  refine lv_iconst (v := 1) hx hb dL_law_650 (by decide) ?_
  refine lv_iadd hx hb dL_law_651 ?_
  refine lv_topi (fun x5 ex5 => ?_)
  obtain rfl : x5 = 1 := by rw [ex5]; decide
  refine va_sld hx hb hX hbl hbA hS (by unfold vp_in; decide : vp_in 1 9) dL_law_652 ?_
  refine W.eq (g2 := F0 m 653 ls [.int (xs 1), .ref am, .int (-2)]) rfl ?_
  refine lv_aload_n hx hb dL_law_653 rfl (lv_at hl 4 rfl) ?_
  refine lv_iload hx hb dL_law_654 (lv_at hl 0 rfl) ?_
  refine lv_iconst (v := 2) hx hb dL_law_656 (by decide) ?_
  refine lv_iadd hx hb dL_law_657 ?_
  refine lv_topi (fun x6 ex6 => ?_)
  obtain rfl : x6 = 2 := by rw [ex6]; decide
  refine va_sld hx hb hX hbl hbA hS (by unfold vp_in; decide : vp_in 2 9) dL_law_658 ?_
  refine W.eq (g2 := F0 m 659 ls [.int (xs 2), .int (xs 1), .ref am, .int (-2)]) rfl ?_
  refine lv_aload_n hx hb dL_law_659 rfl (lv_at hl 4 rfl) ?_
  refine lv_iload hx hb dL_law_660 (lv_at hl 0 rfl) ?_
  refine lv_iconst (v := 3) hx hb dL_law_662 (by decide) ?_
  refine lv_iadd hx hb dL_law_663 ?_
  refine lv_topi (fun x7 ex7 => ?_)
  obtain rfl : x7 = 3 := by rw [ex7]; decide
  refine va_sld hx hb hX hbl hbA hS (by unfold vp_in; decide : vp_in 3 9) dL_law_664 ?_
  refine W.eq (g2 := F0 m 665 ls [.int (xs 3), .int (xs 2), .int (xs 1), .ref am, .int (-2)]) rfl ?_
  have hPc := hP.sub (ws' := [(am, .inr (6, zM 0 um))]) [6] rfl
  have hDc := hD.sub (ws' := [(am, .inr (6, zM 0 um))]) [6] (by decide) rfl
  have hKc := hK.sub (tys' := []) [] rfl
  have hFc := va_free (wc := [(am, .inr (6, zM 0 um))]) hD hS hA [6] rfl
  refine va_calli (va_runV (As := [.int (xs 1), .int (xs 2), .int (xs 3)]) (rest := [.int (-2)]) ⟨hx, hb, hml, hown, hts⟩ (zX7_doneMember l dC dI am um H.size (xs 1) (xs 2) (xs 3)) (cwV 3 hts zgL_law_X7_doneMember_71 rfl rfl rfl (by decide +kernel) ⟨(show 3 + 1 ≤ 10 by omega), (show 8 + (5 + 11) + 74 ≤ 372 by omega)⟩) (zVw (ci := 6) (q0 := 0) (q := (RX7, TX7, 46)) hKc hPc hDc rfl rfl rfl) rfl rfl hl.1 rfl (lv_room (Nat.le_of_ble_eq_true rfl)) dL_law_665 ⟨(show 38 + 0 ≤ 600002 by omega), (show 11351 + 0 ≤ 7302232 by omega)⟩) hS (fun q _ h => hFc q h) hFc (fun r9 u8 t H1 locs ht hvm hw hB hz1 hk1 hS => ?_)
  obtain ⟨hP, hD⟩ := z_rest (wr := [(ax, .inr (5, [.ref (ux 0), .int 0, .ref (ux 1), .int 0, .ref (ux 2), .int 0, .ref (ux 3)])), (ux 0, .inl (ux 6, 800, .inl (fun _ => 0))), (ux 1, .inl (ux 7, 5, .inr (.inr (.inr (.inr (fun _ => none)))))), (ux 2, .inl (ux 8, 40, .inr (.inr (.inr (.inr (fun _ => none)))))), (ux 3, .inr (1, [.ref (ux 4), .ref (ux 5), .int 0, .int 0, .int 0])), (ux 4, .inr (3, [.ref (ux 0), .int 0, .int 0, .int 0, .int 0, .long 0])), (um 1, .inl (um 46, 800, .inl (fun _ => 0))), (um 4, .inl (um 47, 5, .inl (fun _ => 0))), (um 30, .inl (um 48, 40, .inl (fun _ => 0))), (um 31, .inl (um 49, 40, .inl (fun _ => 0))), (um 32, .inl (um 50, 40, .inl (fun _ => 0))), (um 33, .inl (um 51, 40, .inr (.inl (fun _ => 0)))), (um 34, .inl (um 52, 40, .inl (fun _ => 0))), (um 35, .inl (um 53, 40, .inl (fun _ => 0))), (um 36, .inl (um 54, 40, .inl (fun _ => 0))), (um 37, .inl (um 55, 40, .inl (fun _ => 0)))]) hP hD [6] [0, 1, 2, 3, 4, 5, 7, 8, 9, 10, 11, 12, 13, 14, 15, 16] rfl rfl (by decide) (by decide) hk1 hFc
  have hK := hK.sub (tys' := [(ux 6, .byte), (ux 7, .object RX0), (ux 8, .object RX5), (um 46, .int), (um 47, .int), (um 48, .int), (um 49, .int), (um 50, .int), (um 51, .long), (um 52, .int), (um 53, .int), (um 54, .int), (um 55, .int)]) [0, 1, 2, 3, 4, 5, 6, 7, 8, 9, 10, 11, 12] rfl
  generalize H1 = H at hP hS ⊢
  have hP : va_P (dC, dI) vwCl [(ax, .inr (5, [.ref (ux 0), .int 0, .ref (ux 1), .int 0, .ref (ux 2), .int 0, .ref (ux 3)])), (ux 0, .inl (ux 6, 800, .inl (fun _ => 0))), (ux 1, .inl (ux 7, 5, .inr (.inr (.inr (.inr (fun _ => none)))))), (ux 2, .inl (ux 8, 40, .inr (.inr (.inr (.inr (fun _ => none)))))), (ux 3, .inr (1, [.ref (ux 4), .ref (ux 5), .int 0, .int 0, .int 0])), (ux 4, .inr (3, [.ref (ux 0), .int 0, .int 0, .int 0, .int 0, .long 0])), (um 1, .inl (um 46, 800, .inl (fun _ => 0))), (um 4, .inl (um 47, 5, .inl (fun _ => 0))), (um 30, .inl (um 48, 40, .inl (fun _ => 0))), (um 31, .inl (um 49, 40, .inl (fun _ => 0))), (um 32, .inl (um 50, 40, .inl (fun _ => 0))), (um 33, .inl (um 51, 40, .inr (.inl (fun _ => 0)))), (um 34, .inl (um 52, 40, .inl (fun _ => 0))), (um 35, .inl (um 53, 40, .inl (fun _ => 0))), (um 36, .inl (um 54, 40, .inl (fun _ => 0))), (um 37, .inl (um 55, 40, .inl (fun _ => 0)))] H := hP
  have hD : va_D (fun q : Nat => s.heap.size ≤ q) [(ax, .inr (5, [.ref (ux 0), .int 0, .ref (ux 1), .int 0, .ref (ux 2), .int 0, .ref (ux 3)])), (ux 0, .inl (ux 6, 800, .inl (fun _ => 0))), (ux 1, .inl (ux 7, 5, .inr (.inr (.inr (.inr (fun _ => none)))))), (ux 2, .inl (ux 8, 40, .inr (.inr (.inr (.inr (fun _ => none)))))), (ux 3, .inr (1, [.ref (ux 4), .ref (ux 5), .int 0, .int 0, .int 0])), (ux 4, .inr (3, [.ref (ux 0), .int 0, .int 0, .int 0, .int 0, .long 0])), (um 1, .inl (um 46, 800, .inl (fun _ => 0))), (um 4, .inl (um 47, 5, .inl (fun _ => 0))), (um 30, .inl (um 48, 40, .inl (fun _ => 0))), (um 31, .inl (um 49, 40, .inl (fun _ => 0))), (um 32, .inl (um 50, 40, .inl (fun _ => 0))), (um 33, .inl (um 51, 40, .inr (.inl (fun _ => 0)))), (um 34, .inl (um 52, 40, .inl (fun _ => 0))), (um 35, .inl (um 53, 40, .inl (fun _ => 0))), (um 36, .inl (um 54, 40, .inl (fun _ => 0))), (um 37, .inl (um 55, 40, .inl (fun _ => 0)))] := hD
  have hK : va_K (dC, dI) vwCl [(ux 6, .byte), (ux 7, .object RX0), (ux 8, .object RX5), (um 46, .int), (um 47, .int), (um 48, .int), (um 49, .int), (um 50, .int), (um 51, .long), (um 52, .int), (um 53, .int), (um 54, .int), (um 55, .int)] s := hK
  obtain rfl : r9 = -2 := hw
  refine lv_icmp_eq (tgt := 902) hx hb dL_law_668 (by decide) (fun _ => ?_) (fun c9 => absurd (rfl) c9)
  exact zc_end C1 hS (lv_sub hl [0, 4] rfl) (by omega) (by omega)
theorem dL_law_673 : decode cL_law 673 = .ok (.aload_n 1, 1) := by decide +kernel
theorem dL_law_674 : decode cL_law 674 = .ok (.aload_n 0, 1) := by decide +kernel
theorem dL_law_675 : decode cL_law 675 = .ok (.iload 4, 2) := by decide +kernel
theorem dL_law_677 : decode cL_law 677 = .ok (.iconst 1, 1) := by decide +kernel
theorem dL_law_678 : decode cL_law 678 = .ok (.iadd, 1) := by decide +kernel
theorem dL_law_679 : decode cL_law 679 = .ok (.iaload, 1) := by decide +kernel
theorem dL_law_680 : decode cL_law 680 = .ok (.aload_n 0, 1) := by decide +kernel
theorem dL_law_681 : decode cL_law 681 = .ok (.iload 4, 2) := by decide +kernel
theorem dL_law_683 : decode cL_law 683 = .ok (.iconst 2, 1) := by decide +kernel
theorem dL_law_684 : decode cL_law 684 = .ok (.iadd, 1) := by decide +kernel
theorem dL_law_685 : decode cL_law 685 = .ok (.iaload, 1) := by decide +kernel
theorem dL_law_686 : decode cL_law 686 = .ok (.invokevirtual 72, 3) := by decide +kernel
theorem dL_law_689 : decode cL_law 689 = .ok (.aload_n 2, 1) := by decide +kernel
theorem dL_law_690 : decode cL_law 690 = .ok (.aload_n 0, 1) := by decide +kernel
theorem dL_law_691 : decode cL_law 691 = .ok (.iload 4, 2) := by decide +kernel
theorem dL_law_693 : decode cL_law 693 = .ok (.iconst 1, 1) := by decide +kernel
theorem dL_law_694 : decode cL_law 694 = .ok (.iadd, 1) := by decide +kernel
theorem dL_law_695 : decode cL_law 695 = .ok (.iaload, 1) := by decide +kernel
theorem dL_law_696 : decode cL_law 696 = .ok (.aload_n 0, 1) := by decide +kernel
theorem dL_law_697 : decode cL_law 697 = .ok (.iload 4, 2) := by decide +kernel
theorem dL_law_699 : decode cL_law 699 = .ok (.iconst 2, 1) := by decide +kernel
theorem dL_law_700 : decode cL_law 700 = .ok (.iadd, 1) := by decide +kernel
theorem dL_law_701 : decode cL_law 701 = .ok (.iaload, 1) := by decide +kernel
theorem dL_law_702 : decode cL_law 702 = .ok (.invokevirtual 75, 3) := by decide +kernel
theorem dL_law_705 : decode cL_law 705 = .ok (.if_icmp .eq 197, 3) := by decide +kernel
set_option maxHeartbeats 4000000 in
set_option maxRecDepth 100000 in
theorem zc_11 {p : Program} {l : Launch} {e : Env} {s : State} {m : MethodId} {below : List Frame} {meth : Method} {c : Code} {dC : Nat → ClassId} {dI : Nat → Nat → Nat} {b : Nat} {xs : Nat → Int32} (C0 : lw_At p s m meth c b 9 xs)  {ax am ro : Nat} {ux um : Nat → Nat} {H : Heap} {locs : List Loc} (hK : va_K (dC, dI) vwCl [(ux 6, .byte), (ux 7, .object RX0), (ux 8, .object RX5), (um 46, .int), (um 47, .int), (um 48, .int), (um 49, .int), (um 50, .int), (um 51, .long), (um 52, .int), (um 53, .int), (um 54, .int), (um 55, .int)] s) (hP : va_P (dC, dI) vwCl [(ax, .inr (5, [.ref (ux 0), .int 0, .ref (ux 1), .int 0, .ref (ux 2), .int 0, .ref (ux 3)])), (ux 0, .inl (ux 6, 800, .inl (fun _ => 0))), (ux 1, .inl (ux 7, 5, .inr (.inr (.inr (.inr (fun _ => none)))))), (ux 2, .inl (ux 8, 40, .inr (.inr (.inr (.inr (fun _ => none)))))), (ux 3, .inr (1, [.ref (ux 4), .ref (ux 5), .int 0, .int 0, .int 0])), (ux 4, .inr (3, [.ref (ux 0), .int 0, .int 0, .int 0, .int 0, .long 0])), (am, .inr (6, zM 0 um)), (um 1, .inl (um 46, 800, .inl (fun _ => 0))), (um 4, .inl (um 47, 5, .inl (fun _ => 0))), (um 30, .inl (um 48, 40, .inl (fun _ => 0))), (um 31, .inl (um 49, 40, .inl (fun _ => 0))), (um 32, .inl (um 50, 40, .inl (fun _ => 0))), (um 33, .inl (um 51, 40, .inr (.inl (fun _ => 0)))), (um 34, .inl (um 52, 40, .inl (fun _ => 0))), (um 35, .inl (um 53, 40, .inl (fun _ => 0))), (um 36, .inl (um 54, 40, .inl (fun _ => 0))), (um 37, .inl (um 55, 40, .inl (fun _ => 0)))] H) (hD : va_D (fun q : Nat => s.heap.size ≤ q) [(ax, .inr (5, [.ref (ux 0), .int 0, .ref (ux 1), .int 0, .ref (ux 2), .int 0, .ref (ux 3)])), (ux 0, .inl (ux 6, 800, .inl (fun _ => 0))), (ux 1, .inl (ux 7, 5, .inr (.inr (.inr (.inr (fun _ => none)))))), (ux 2, .inl (ux 8, 40, .inr (.inr (.inr (.inr (fun _ => none)))))), (ux 3, .inr (1, [.ref (ux 4), .ref (ux 5), .int 0, .int 0, .int 0])), (ux 4, .inr (3, [.ref (ux 0), .int 0, .int 0, .int 0, .int 0, .long 0])), (am, .inr (6, zM 0 um)), (um 1, .inl (um 46, 800, .inl (fun _ => 0))), (um 4, .inl (um 47, 5, .inl (fun _ => 0))), (um 30, .inl (um 48, 40, .inl (fun _ => 0))), (um 31, .inl (um 49, 40, .inl (fun _ => 0))), (um 32, .inl (um 50, 40, .inl (fun _ => 0))), (um 33, .inl (um 51, 40, .inr (.inl (fun _ => 0)))), (um 34, .inl (um 52, 40, .inl (fun _ => 0))), (um 35, .inl (um 53, 40, .inl (fun _ => 0))), (um 36, .inl (um 54, 40, .inl (fun _ => 0))), (um 37, .inl (um 55, 40, .inl (fun _ => 0)))]) (hS : va_S (fun q : Nat => s.heap.size ≤ q) s.heap H locs) {ls : Array Slot} (hl : lv_has ls 7 [(4, .int 0), (3, .ref ro), (2, .ref am), (1, .ref ax), (0, .ref b)]) : W p l e room_1 s m #[Value.ref b] below meth c H locs 38 11351 (lw_Z below #[Value.ref b] s) (F0 m 673 ls []) := by
  have C1 := C0
  obtain ⟨hx, hb, hr, hml, hown, hts, hX, hbl, hlocks, hgv⟩ := C0
  have hown : s.vm.findClass RL = some m.cls := hown
  have hA : ∀ q : Nat, s.heap.size ≤ q → (fun q : Nat => s.heap.size ≤ q) q := fun _ h => h
  have hbA : ¬ (fun q : Nat => s.heap.size ≤ q) b := Nat.not_le.mpr hbl
  refine lv_aload_n hx hb dL_law_673 rfl (lv_at hl 3 rfl) ?_
  refine lv_aload_n hx hb dL_law_674 rfl (lv_at hl 4 rfl) ?_
  refine lv_iload hx hb dL_law_675 (lv_at hl 0 rfl) ?_
  refine lv_iconst (v := 1) hx hb dL_law_677 (by decide) ?_
  refine lv_iadd hx hb dL_law_678 ?_
  refine lv_topi (fun x1 ex1 => ?_)
  obtain rfl : x1 = 1 := by rw [ex1]; decide
  refine va_sld hx hb hX hbl hbA hS (by unfold vp_in; decide : vp_in 1 9) dL_law_679 ?_
  refine W.eq (g2 := F0 m 680 ls [.int (xs 1), .ref ax]) rfl ?_
  refine lv_aload_n hx hb dL_law_680 rfl (lv_at hl 4 rfl) ?_
  refine lv_iload hx hb dL_law_681 (lv_at hl 0 rfl) ?_
  refine lv_iconst (v := 2) hx hb dL_law_683 (by decide) ?_
  refine lv_iadd hx hb dL_law_684 ?_
  refine lv_topi (fun x2 ex2 => ?_)
  obtain rfl : x2 = 2 := by rw [ex2]; decide
  refine va_sld hx hb hX hbl hbA hS (by unfold vp_in; decide : vp_in 2 9) dL_law_685 ?_
  refine W.eq (g2 := F0 m 686 ls [.int (xs 2), .int (xs 1), .ref ax]) rfl ?_
  refine vp_callSi (W.runV (As := [.int (xs 1), .int (xs 2)]) (rest := []) ⟨hx, hb, hml, hown, hts⟩ (zX6_compile l dC dI ax (ux 0) (ux 1) (ux 2) (ux 3) (xs 1) (xs 2)) (cwV 2 hts zgL_law_X6_compile_72 rfl rfl rfl (by decide +kernel) ⟨(show 1 + 1 ≤ 10 by omega), (show 8 + (6 + 11) + 21 ≤ 372 by omega)⟩) (zVr (ci := 5) (q0 := 0) (q := (RX6, TX6, 7)) (hK.sub (tys' := []) [] rfl) (hP.sub (ws' := [(ax, .inr (5, [.ref (ux 0), .int 0, .ref (ux 1), .int 0, .ref (ux 2), .int 0, .ref (ux 3)]))]) [0] rfl) rfl rfl rfl) rfl rfl hl.1 rfl (lv_room (Nat.le_of_ble_eq_true rfl)) dL_law_686 ⟨(show 38 + 0 ≤ 600002 by omega), (show 11351 + 0 ≤ 7302232 by omega)⟩) (fun r3 hr3 => ?_)
  subst hr3
  refine lv_aload_n hx hb dL_law_689 rfl (lv_at hl 2 rfl) ?_
  refine lv_aload_n hx hb dL_law_690 rfl (lv_at hl 4 rfl) ?_
  refine lv_iload hx hb dL_law_691 (lv_at hl 0 rfl) ?_
  refine lv_iconst (v := 1) hx hb dL_law_693 (by decide) ?_
  refine lv_iadd hx hb dL_law_694 ?_
  refine lv_topi (fun x4 ex4 => ?_)
  obtain rfl : x4 = 1 := by rw [ex4]; decide
  refine va_sld hx hb hX hbl hbA hS (by unfold vp_in; decide : vp_in 1 9) dL_law_695 ?_
  refine W.eq (g2 := F0 m 696 ls [.int (xs 1), .ref am, .int (-2)]) rfl ?_
  refine lv_aload_n hx hb dL_law_696 rfl (lv_at hl 4 rfl) ?_
  refine lv_iload hx hb dL_law_697 (lv_at hl 0 rfl) ?_
  refine lv_iconst (v := 2) hx hb dL_law_699 (by decide) ?_
  refine lv_iadd hx hb dL_law_700 ?_
  refine lv_topi (fun x5 ex5 => ?_)
  obtain rfl : x5 = 2 := by rw [ex5]; decide
  refine va_sld hx hb hX hbl hbA hS (by unfold vp_in; decide : vp_in 2 9) dL_law_701 ?_
  refine W.eq (g2 := F0 m 702 ls [.int (xs 2), .int (xs 1), .ref am, .int (-2)]) rfl ?_
  have hPc := hP.sub (ws' := [(am, .inr (6, zM 0 um))]) [6] rfl
  have hDc := hD.sub (ws' := [(am, .inr (6, zM 0 um))]) [6] (by decide) rfl
  have hKc := hK.sub (tys' := []) [] rfl
  have hFc := va_free (wc := [(am, .inr (6, zM 0 um))]) hD hS hA [6] rfl
  refine va_calli (va_runV (As := [.int (xs 1), .int (xs 2)]) (rest := [.int (-2)]) ⟨hx, hb, hml, hown, hts⟩ (zX7_compile l dC dI am um H.size (xs 1) (xs 2)) (cwV 2 hts zgL_law_X7_compile_75 rfl rfl rfl (by decide +kernel) ⟨(show 2 + 1 ≤ 10 by omega), (show 8 + (4 + 11) + 46 ≤ 372 by omega)⟩) (zVw (ci := 6) (q0 := 0) (q := (RX7, TX7, 46)) hKc hPc hDc rfl rfl rfl) rfl rfl hl.1 rfl (lv_room (Nat.le_of_ble_eq_true rfl)) dL_law_702 ⟨(show 38 + 0 ≤ 600002 by omega), (show 11351 + 0 ≤ 7302232 by omega)⟩) hS (fun q _ h => hFc q h) hFc (fun r7 u6 t H1 locs ht hvm hw hB hz1 hk1 hS => ?_)
  obtain ⟨hP, hD⟩ := z_rest (wr := [(ax, .inr (5, [.ref (ux 0), .int 0, .ref (ux 1), .int 0, .ref (ux 2), .int 0, .ref (ux 3)])), (ux 0, .inl (ux 6, 800, .inl (fun _ => 0))), (ux 1, .inl (ux 7, 5, .inr (.inr (.inr (.inr (fun _ => none)))))), (ux 2, .inl (ux 8, 40, .inr (.inr (.inr (.inr (fun _ => none)))))), (ux 3, .inr (1, [.ref (ux 4), .ref (ux 5), .int 0, .int 0, .int 0])), (ux 4, .inr (3, [.ref (ux 0), .int 0, .int 0, .int 0, .int 0, .long 0])), (um 1, .inl (um 46, 800, .inl (fun _ => 0))), (um 4, .inl (um 47, 5, .inl (fun _ => 0))), (um 30, .inl (um 48, 40, .inl (fun _ => 0))), (um 31, .inl (um 49, 40, .inl (fun _ => 0))), (um 32, .inl (um 50, 40, .inl (fun _ => 0))), (um 33, .inl (um 51, 40, .inr (.inl (fun _ => 0)))), (um 34, .inl (um 52, 40, .inl (fun _ => 0))), (um 35, .inl (um 53, 40, .inl (fun _ => 0))), (um 36, .inl (um 54, 40, .inl (fun _ => 0))), (um 37, .inl (um 55, 40, .inl (fun _ => 0)))]) hP hD [6] [0, 1, 2, 3, 4, 5, 7, 8, 9, 10, 11, 12, 13, 14, 15, 16] rfl rfl (by decide) (by decide) hk1 hFc
  have hK := hK.sub (tys' := [(ux 6, .byte), (ux 7, .object RX0), (ux 8, .object RX5), (um 46, .int), (um 47, .int), (um 48, .int), (um 49, .int), (um 50, .int), (um 51, .long), (um 52, .int), (um 53, .int), (um 54, .int), (um 55, .int)]) [0, 1, 2, 3, 4, 5, 6, 7, 8, 9, 10, 11, 12] rfl
  generalize H1 = H at hP hS ⊢
  have hP : va_P (dC, dI) vwCl [(ax, .inr (5, [.ref (ux 0), .int 0, .ref (ux 1), .int 0, .ref (ux 2), .int 0, .ref (ux 3)])), (ux 0, .inl (ux 6, 800, .inl (fun _ => 0))), (ux 1, .inl (ux 7, 5, .inr (.inr (.inr (.inr (fun _ => none)))))), (ux 2, .inl (ux 8, 40, .inr (.inr (.inr (.inr (fun _ => none)))))), (ux 3, .inr (1, [.ref (ux 4), .ref (ux 5), .int 0, .int 0, .int 0])), (ux 4, .inr (3, [.ref (ux 0), .int 0, .int 0, .int 0, .int 0, .long 0])), (um 1, .inl (um 46, 800, .inl (fun _ => 0))), (um 4, .inl (um 47, 5, .inl (fun _ => 0))), (um 30, .inl (um 48, 40, .inl (fun _ => 0))), (um 31, .inl (um 49, 40, .inl (fun _ => 0))), (um 32, .inl (um 50, 40, .inl (fun _ => 0))), (um 33, .inl (um 51, 40, .inr (.inl (fun _ => 0)))), (um 34, .inl (um 52, 40, .inl (fun _ => 0))), (um 35, .inl (um 53, 40, .inl (fun _ => 0))), (um 36, .inl (um 54, 40, .inl (fun _ => 0))), (um 37, .inl (um 55, 40, .inl (fun _ => 0)))] H := hP
  have hD : va_D (fun q : Nat => s.heap.size ≤ q) [(ax, .inr (5, [.ref (ux 0), .int 0, .ref (ux 1), .int 0, .ref (ux 2), .int 0, .ref (ux 3)])), (ux 0, .inl (ux 6, 800, .inl (fun _ => 0))), (ux 1, .inl (ux 7, 5, .inr (.inr (.inr (.inr (fun _ => none)))))), (ux 2, .inl (ux 8, 40, .inr (.inr (.inr (.inr (fun _ => none)))))), (ux 3, .inr (1, [.ref (ux 4), .ref (ux 5), .int 0, .int 0, .int 0])), (ux 4, .inr (3, [.ref (ux 0), .int 0, .int 0, .int 0, .int 0, .long 0])), (um 1, .inl (um 46, 800, .inl (fun _ => 0))), (um 4, .inl (um 47, 5, .inl (fun _ => 0))), (um 30, .inl (um 48, 40, .inl (fun _ => 0))), (um 31, .inl (um 49, 40, .inl (fun _ => 0))), (um 32, .inl (um 50, 40, .inl (fun _ => 0))), (um 33, .inl (um 51, 40, .inr (.inl (fun _ => 0)))), (um 34, .inl (um 52, 40, .inl (fun _ => 0))), (um 35, .inl (um 53, 40, .inl (fun _ => 0))), (um 36, .inl (um 54, 40, .inl (fun _ => 0))), (um 37, .inl (um 55, 40, .inl (fun _ => 0)))] := hD
  have hK : va_K (dC, dI) vwCl [(ux 6, .byte), (ux 7, .object RX0), (ux 8, .object RX5), (um 46, .int), (um 47, .int), (um 48, .int), (um 49, .int), (um 50, .int), (um 51, .long), (um 52, .int), (um 53, .int), (um 54, .int), (um 55, .int)] s := hK
  obtain rfl : r7 = -2 := hw
  refine lv_icmp_eq (tgt := 902) hx hb dL_law_705 (by decide) (fun _ => ?_) (fun c9 => absurd (rfl) c9)
  exact zc_end C1 hS (lv_sub hl [0, 4] rfl) (by omega) (by omega)
theorem dL_law_710 : decode cL_law 710 = .ok (.aload_n 1, 1) := by decide +kernel
theorem dL_law_711 : decode cL_law 711 = .ok (.aload_n 0, 1) := by decide +kernel
theorem dL_law_712 : decode cL_law 712 = .ok (.iload 4, 2) := by decide +kernel
theorem dL_law_714 : decode cL_law 714 = .ok (.iconst 1, 1) := by decide +kernel
theorem dL_law_715 : decode cL_law 715 = .ok (.iadd, 1) := by decide +kernel
theorem dL_law_716 : decode cL_law 716 = .ok (.iaload, 1) := by decide +kernel
theorem dL_law_717 : decode cL_law 717 = .ok (.invokevirtual 76, 3) := by decide +kernel
theorem dL_law_720 : decode cL_law 720 = .ok (.aload_n 2, 1) := by decide +kernel
theorem dL_law_721 : decode cL_law 721 = .ok (.aload_n 0, 1) := by decide +kernel
theorem dL_law_722 : decode cL_law 722 = .ok (.iload 4, 2) := by decide +kernel
theorem dL_law_724 : decode cL_law 724 = .ok (.iconst 1, 1) := by decide +kernel
theorem dL_law_725 : decode cL_law 725 = .ok (.iadd, 1) := by decide +kernel
theorem dL_law_726 : decode cL_law 726 = .ok (.iaload, 1) := by decide +kernel
theorem dL_law_727 : decode cL_law 727 = .ok (.invokevirtual 79, 3) := by decide +kernel
theorem dL_law_730 : decode cL_law 730 = .ok (.if_icmp .eq 172, 3) := by decide +kernel
set_option maxHeartbeats 4000000 in
set_option maxRecDepth 100000 in
theorem zc_12 {p : Program} {l : Launch} {e : Env} {s : State} {m : MethodId} {below : List Frame} {meth : Method} {c : Code} {dC : Nat → ClassId} {dI : Nat → Nat → Nat} {b : Nat} {xs : Nat → Int32} (C0 : lw_At p s m meth c b 9 xs)  {ax am ro : Nat} {ux um : Nat → Nat} {H : Heap} {locs : List Loc} (hK : va_K (dC, dI) vwCl [(ux 6, .byte), (ux 7, .object RX0), (ux 8, .object RX5), (um 46, .int), (um 47, .int), (um 48, .int), (um 49, .int), (um 50, .int), (um 51, .long), (um 52, .int), (um 53, .int), (um 54, .int), (um 55, .int)] s) (hP : va_P (dC, dI) vwCl [(ax, .inr (5, [.ref (ux 0), .int 0, .ref (ux 1), .int 0, .ref (ux 2), .int 0, .ref (ux 3)])), (ux 0, .inl (ux 6, 800, .inl (fun _ => 0))), (ux 1, .inl (ux 7, 5, .inr (.inr (.inr (.inr (fun _ => none)))))), (ux 2, .inl (ux 8, 40, .inr (.inr (.inr (.inr (fun _ => none)))))), (ux 3, .inr (1, [.ref (ux 4), .ref (ux 5), .int 0, .int 0, .int 0])), (ux 4, .inr (3, [.ref (ux 0), .int 0, .int 0, .int 0, .int 0, .long 0])), (am, .inr (6, zM 0 um)), (um 1, .inl (um 46, 800, .inl (fun _ => 0))), (um 4, .inl (um 47, 5, .inl (fun _ => 0))), (um 30, .inl (um 48, 40, .inl (fun _ => 0))), (um 31, .inl (um 49, 40, .inl (fun _ => 0))), (um 32, .inl (um 50, 40, .inl (fun _ => 0))), (um 33, .inl (um 51, 40, .inr (.inl (fun _ => 0)))), (um 34, .inl (um 52, 40, .inl (fun _ => 0))), (um 35, .inl (um 53, 40, .inl (fun _ => 0))), (um 36, .inl (um 54, 40, .inl (fun _ => 0))), (um 37, .inl (um 55, 40, .inl (fun _ => 0)))] H) (hD : va_D (fun q : Nat => s.heap.size ≤ q) [(ax, .inr (5, [.ref (ux 0), .int 0, .ref (ux 1), .int 0, .ref (ux 2), .int 0, .ref (ux 3)])), (ux 0, .inl (ux 6, 800, .inl (fun _ => 0))), (ux 1, .inl (ux 7, 5, .inr (.inr (.inr (.inr (fun _ => none)))))), (ux 2, .inl (ux 8, 40, .inr (.inr (.inr (.inr (fun _ => none)))))), (ux 3, .inr (1, [.ref (ux 4), .ref (ux 5), .int 0, .int 0, .int 0])), (ux 4, .inr (3, [.ref (ux 0), .int 0, .int 0, .int 0, .int 0, .long 0])), (am, .inr (6, zM 0 um)), (um 1, .inl (um 46, 800, .inl (fun _ => 0))), (um 4, .inl (um 47, 5, .inl (fun _ => 0))), (um 30, .inl (um 48, 40, .inl (fun _ => 0))), (um 31, .inl (um 49, 40, .inl (fun _ => 0))), (um 32, .inl (um 50, 40, .inl (fun _ => 0))), (um 33, .inl (um 51, 40, .inr (.inl (fun _ => 0)))), (um 34, .inl (um 52, 40, .inl (fun _ => 0))), (um 35, .inl (um 53, 40, .inl (fun _ => 0))), (um 36, .inl (um 54, 40, .inl (fun _ => 0))), (um 37, .inl (um 55, 40, .inl (fun _ => 0)))]) (hS : va_S (fun q : Nat => s.heap.size ≤ q) s.heap H locs) {ls : Array Slot} (hl : lv_has ls 7 [(4, .int 0), (3, .ref ro), (2, .ref am), (1, .ref ax), (0, .ref b)]) : W p l e room_1 s m #[Value.ref b] below meth c H locs 38 11351 (lw_Z below #[Value.ref b] s) (F0 m 710 ls []) := by
  have C1 := C0
  obtain ⟨hx, hb, hr, hml, hown, hts, hX, hbl, hlocks, hgv⟩ := C0
  have hown : s.vm.findClass RL = some m.cls := hown
  have hA : ∀ q : Nat, s.heap.size ≤ q → (fun q : Nat => s.heap.size ≤ q) q := fun _ h => h
  have hbA : ¬ (fun q : Nat => s.heap.size ≤ q) b := Nat.not_le.mpr hbl
  refine lv_aload_n hx hb dL_law_710 rfl (lv_at hl 3 rfl) ?_
  refine lv_aload_n hx hb dL_law_711 rfl (lv_at hl 4 rfl) ?_
  refine lv_iload hx hb dL_law_712 (lv_at hl 0 rfl) ?_
  refine lv_iconst (v := 1) hx hb dL_law_714 (by decide) ?_
  refine lv_iadd hx hb dL_law_715 ?_
  refine lv_topi (fun x1 ex1 => ?_)
  obtain rfl : x1 = 1 := by rw [ex1]; decide
  refine va_sld hx hb hX hbl hbA hS (by unfold vp_in; decide : vp_in 1 9) dL_law_716 ?_
  refine W.eq (g2 := F0 m 717 ls [.int (xs 1), .ref ax]) rfl ?_
  refine vp_callSi (W.runV (As := [.int (xs 1)]) (rest := []) ⟨hx, hb, hml, hown, hts⟩ (zX6_copied l dC dI ax (ux 0) (ux 1) (ux 2) (ux 3) (xs 1)) (cwV 1 hts zgL_law_X6_copied_76 rfl rfl rfl (by decide +kernel) ⟨(show 1 + 1 ≤ 10 by omega), (show 8 + (3 + 11) + 21 ≤ 372 by omega)⟩) (zVr (ci := 5) (q0 := 0) (q := (RX6, TX6, 7)) (hK.sub (tys' := []) [] rfl) (hP.sub (ws' := [(ax, .inr (5, [.ref (ux 0), .int 0, .ref (ux 1), .int 0, .ref (ux 2), .int 0, .ref (ux 3)]))]) [0] rfl) rfl rfl rfl) rfl rfl hl.1 rfl (lv_room (Nat.le_of_ble_eq_true rfl)) dL_law_717 ⟨(show 38 + 0 ≤ 600002 by omega), (show 11351 + 0 ≤ 7302232 by omega)⟩) (fun r2 hr2 => ?_)
  subst hr2
  refine lv_aload_n hx hb dL_law_720 rfl (lv_at hl 2 rfl) ?_
  refine lv_aload_n hx hb dL_law_721 rfl (lv_at hl 4 rfl) ?_
  refine lv_iload hx hb dL_law_722 (lv_at hl 0 rfl) ?_
  refine lv_iconst (v := 1) hx hb dL_law_724 (by decide) ?_
  refine lv_iadd hx hb dL_law_725 ?_
  refine lv_topi (fun x3 ex3 => ?_)
  obtain rfl : x3 = 1 := by rw [ex3]; decide
  refine va_sld hx hb hX hbl hbA hS (by unfold vp_in; decide : vp_in 1 9) dL_law_726 ?_
  refine W.eq (g2 := F0 m 727 ls [.int (xs 1), .ref am, .int (-2)]) rfl ?_
  have hPc := hP.sub (ws' := [(am, .inr (6, zM 0 um))]) [6] rfl
  have hDc := hD.sub (ws' := [(am, .inr (6, zM 0 um))]) [6] (by decide) rfl
  have hKc := hK.sub (tys' := []) [] rfl
  have hFc := va_free (wc := [(am, .inr (6, zM 0 um))]) hD hS hA [6] rfl
  refine va_calli (va_runV (As := [.int (xs 1)]) (rest := [.int (-2)]) ⟨hx, hb, hml, hown, hts⟩ (zX7_copied l dC dI am um H.size (xs 1)) (cwV 1 hts zgL_law_X7_copied_79 rfl rfl rfl (by decide +kernel) ⟨(show 2 + 1 ≤ 10 by omega), (show 8 + (2 + 11) + 46 ≤ 372 by omega)⟩) (zVw (ci := 6) (q0 := 0) (q := (RX7, TX7, 46)) hKc hPc hDc rfl rfl rfl) rfl rfl hl.1 rfl (lv_room (Nat.le_of_ble_eq_true rfl)) dL_law_727 ⟨(show 38 + 0 ≤ 600002 by omega), (show 11351 + 0 ≤ 7302232 by omega)⟩) hS (fun q _ h => hFc q h) hFc (fun r5 u4 t H1 locs ht hvm hw hB hz1 hk1 hS => ?_)
  obtain ⟨hP, hD⟩ := z_rest (wr := [(ax, .inr (5, [.ref (ux 0), .int 0, .ref (ux 1), .int 0, .ref (ux 2), .int 0, .ref (ux 3)])), (ux 0, .inl (ux 6, 800, .inl (fun _ => 0))), (ux 1, .inl (ux 7, 5, .inr (.inr (.inr (.inr (fun _ => none)))))), (ux 2, .inl (ux 8, 40, .inr (.inr (.inr (.inr (fun _ => none)))))), (ux 3, .inr (1, [.ref (ux 4), .ref (ux 5), .int 0, .int 0, .int 0])), (ux 4, .inr (3, [.ref (ux 0), .int 0, .int 0, .int 0, .int 0, .long 0])), (um 1, .inl (um 46, 800, .inl (fun _ => 0))), (um 4, .inl (um 47, 5, .inl (fun _ => 0))), (um 30, .inl (um 48, 40, .inl (fun _ => 0))), (um 31, .inl (um 49, 40, .inl (fun _ => 0))), (um 32, .inl (um 50, 40, .inl (fun _ => 0))), (um 33, .inl (um 51, 40, .inr (.inl (fun _ => 0)))), (um 34, .inl (um 52, 40, .inl (fun _ => 0))), (um 35, .inl (um 53, 40, .inl (fun _ => 0))), (um 36, .inl (um 54, 40, .inl (fun _ => 0))), (um 37, .inl (um 55, 40, .inl (fun _ => 0)))]) hP hD [6] [0, 1, 2, 3, 4, 5, 7, 8, 9, 10, 11, 12, 13, 14, 15, 16] rfl rfl (by decide) (by decide) hk1 hFc
  have hK := hK.sub (tys' := [(ux 6, .byte), (ux 7, .object RX0), (ux 8, .object RX5), (um 46, .int), (um 47, .int), (um 48, .int), (um 49, .int), (um 50, .int), (um 51, .long), (um 52, .int), (um 53, .int), (um 54, .int), (um 55, .int)]) [0, 1, 2, 3, 4, 5, 6, 7, 8, 9, 10, 11, 12] rfl
  generalize H1 = H at hP hS ⊢
  have hP : va_P (dC, dI) vwCl [(ax, .inr (5, [.ref (ux 0), .int 0, .ref (ux 1), .int 0, .ref (ux 2), .int 0, .ref (ux 3)])), (ux 0, .inl (ux 6, 800, .inl (fun _ => 0))), (ux 1, .inl (ux 7, 5, .inr (.inr (.inr (.inr (fun _ => none)))))), (ux 2, .inl (ux 8, 40, .inr (.inr (.inr (.inr (fun _ => none)))))), (ux 3, .inr (1, [.ref (ux 4), .ref (ux 5), .int 0, .int 0, .int 0])), (ux 4, .inr (3, [.ref (ux 0), .int 0, .int 0, .int 0, .int 0, .long 0])), (um 1, .inl (um 46, 800, .inl (fun _ => 0))), (um 4, .inl (um 47, 5, .inl (fun _ => 0))), (um 30, .inl (um 48, 40, .inl (fun _ => 0))), (um 31, .inl (um 49, 40, .inl (fun _ => 0))), (um 32, .inl (um 50, 40, .inl (fun _ => 0))), (um 33, .inl (um 51, 40, .inr (.inl (fun _ => 0)))), (um 34, .inl (um 52, 40, .inl (fun _ => 0))), (um 35, .inl (um 53, 40, .inl (fun _ => 0))), (um 36, .inl (um 54, 40, .inl (fun _ => 0))), (um 37, .inl (um 55, 40, .inl (fun _ => 0)))] H := hP
  have hD : va_D (fun q : Nat => s.heap.size ≤ q) [(ax, .inr (5, [.ref (ux 0), .int 0, .ref (ux 1), .int 0, .ref (ux 2), .int 0, .ref (ux 3)])), (ux 0, .inl (ux 6, 800, .inl (fun _ => 0))), (ux 1, .inl (ux 7, 5, .inr (.inr (.inr (.inr (fun _ => none)))))), (ux 2, .inl (ux 8, 40, .inr (.inr (.inr (.inr (fun _ => none)))))), (ux 3, .inr (1, [.ref (ux 4), .ref (ux 5), .int 0, .int 0, .int 0])), (ux 4, .inr (3, [.ref (ux 0), .int 0, .int 0, .int 0, .int 0, .long 0])), (um 1, .inl (um 46, 800, .inl (fun _ => 0))), (um 4, .inl (um 47, 5, .inl (fun _ => 0))), (um 30, .inl (um 48, 40, .inl (fun _ => 0))), (um 31, .inl (um 49, 40, .inl (fun _ => 0))), (um 32, .inl (um 50, 40, .inl (fun _ => 0))), (um 33, .inl (um 51, 40, .inr (.inl (fun _ => 0)))), (um 34, .inl (um 52, 40, .inl (fun _ => 0))), (um 35, .inl (um 53, 40, .inl (fun _ => 0))), (um 36, .inl (um 54, 40, .inl (fun _ => 0))), (um 37, .inl (um 55, 40, .inl (fun _ => 0)))] := hD
  have hK : va_K (dC, dI) vwCl [(ux 6, .byte), (ux 7, .object RX0), (ux 8, .object RX5), (um 46, .int), (um 47, .int), (um 48, .int), (um 49, .int), (um 50, .int), (um 51, .long), (um 52, .int), (um 53, .int), (um 54, .int), (um 55, .int)] s := hK
  obtain rfl : r5 = -2 := hw
  refine lv_icmp_eq (tgt := 902) hx hb dL_law_730 (by decide) (fun _ => ?_) (fun c9 => absurd (rfl) c9)
  exact zc_end C1 hS (lv_sub hl [0, 4] rfl) (by omega) (by omega)
theorem dL_law_735 : decode cL_law 735 = .ok (.aload_n 1, 1) := by decide +kernel
theorem dL_law_736 : decode cL_law 736 = .ok (.aload_n 0, 1) := by decide +kernel
theorem dL_law_737 : decode cL_law 737 = .ok (.iload 4, 2) := by decide +kernel
theorem dL_law_739 : decode cL_law 739 = .ok (.iconst 1, 1) := by decide +kernel
theorem dL_law_740 : decode cL_law 740 = .ok (.iadd, 1) := by decide +kernel
theorem dL_law_741 : decode cL_law 741 = .ok (.iaload, 1) := by decide +kernel
theorem dL_law_742 : decode cL_law 742 = .ok (.aload_n 0, 1) := by decide +kernel
theorem dL_law_743 : decode cL_law 743 = .ok (.iload 4, 2) := by decide +kernel
theorem dL_law_745 : decode cL_law 745 = .ok (.iconst 2, 1) := by decide +kernel
theorem dL_law_746 : decode cL_law 746 = .ok (.iadd, 1) := by decide +kernel
theorem dL_law_747 : decode cL_law 747 = .ok (.iaload, 1) := by decide +kernel
theorem dL_law_748 : decode cL_law 748 = .ok (.invokevirtual 80, 3) := by decide +kernel
theorem dL_law_751 : decode cL_law 751 = .ok (.aload_n 2, 1) := by decide +kernel
theorem dL_law_752 : decode cL_law 752 = .ok (.aload_n 0, 1) := by decide +kernel
theorem dL_law_753 : decode cL_law 753 = .ok (.iload 4, 2) := by decide +kernel
theorem dL_law_755 : decode cL_law 755 = .ok (.iconst 1, 1) := by decide +kernel
theorem dL_law_756 : decode cL_law 756 = .ok (.iadd, 1) := by decide +kernel
theorem dL_law_757 : decode cL_law 757 = .ok (.iaload, 1) := by decide +kernel
theorem dL_law_758 : decode cL_law 758 = .ok (.aload_n 0, 1) := by decide +kernel
theorem dL_law_759 : decode cL_law 759 = .ok (.iload 4, 2) := by decide +kernel
theorem dL_law_761 : decode cL_law 761 = .ok (.iconst 2, 1) := by decide +kernel
theorem dL_law_762 : decode cL_law 762 = .ok (.iadd, 1) := by decide +kernel
theorem dL_law_763 : decode cL_law 763 = .ok (.iaload, 1) := by decide +kernel
theorem dL_law_764 : decode cL_law 764 = .ok (.invokevirtual 83, 3) := by decide +kernel
theorem dL_law_767 : decode cL_law 767 = .ok (.if_icmp .eq 135, 3) := by decide +kernel
set_option maxHeartbeats 4000000 in
set_option maxRecDepth 100000 in
theorem zc_13 {p : Program} {l : Launch} {e : Env} {s : State} {m : MethodId} {below : List Frame} {meth : Method} {c : Code} {dC : Nat → ClassId} {dI : Nat → Nat → Nat} {b : Nat} {xs : Nat → Int32} (C0 : lw_At p s m meth c b 9 xs)  {ax am ro : Nat} {ux um : Nat → Nat} {H : Heap} {locs : List Loc} (hK : va_K (dC, dI) vwCl [(ux 6, .byte), (ux 7, .object RX0), (ux 8, .object RX5), (um 46, .int), (um 47, .int), (um 48, .int), (um 49, .int), (um 50, .int), (um 51, .long), (um 52, .int), (um 53, .int), (um 54, .int), (um 55, .int)] s) (hP : va_P (dC, dI) vwCl [(ax, .inr (5, [.ref (ux 0), .int 0, .ref (ux 1), .int 0, .ref (ux 2), .int 0, .ref (ux 3)])), (ux 0, .inl (ux 6, 800, .inl (fun _ => 0))), (ux 1, .inl (ux 7, 5, .inr (.inr (.inr (.inr (fun _ => none)))))), (ux 2, .inl (ux 8, 40, .inr (.inr (.inr (.inr (fun _ => none)))))), (ux 3, .inr (1, [.ref (ux 4), .ref (ux 5), .int 0, .int 0, .int 0])), (ux 4, .inr (3, [.ref (ux 0), .int 0, .int 0, .int 0, .int 0, .long 0])), (am, .inr (6, zM 0 um)), (um 1, .inl (um 46, 800, .inl (fun _ => 0))), (um 4, .inl (um 47, 5, .inl (fun _ => 0))), (um 30, .inl (um 48, 40, .inl (fun _ => 0))), (um 31, .inl (um 49, 40, .inl (fun _ => 0))), (um 32, .inl (um 50, 40, .inl (fun _ => 0))), (um 33, .inl (um 51, 40, .inr (.inl (fun _ => 0)))), (um 34, .inl (um 52, 40, .inl (fun _ => 0))), (um 35, .inl (um 53, 40, .inl (fun _ => 0))), (um 36, .inl (um 54, 40, .inl (fun _ => 0))), (um 37, .inl (um 55, 40, .inl (fun _ => 0)))] H) (hD : va_D (fun q : Nat => s.heap.size ≤ q) [(ax, .inr (5, [.ref (ux 0), .int 0, .ref (ux 1), .int 0, .ref (ux 2), .int 0, .ref (ux 3)])), (ux 0, .inl (ux 6, 800, .inl (fun _ => 0))), (ux 1, .inl (ux 7, 5, .inr (.inr (.inr (.inr (fun _ => none)))))), (ux 2, .inl (ux 8, 40, .inr (.inr (.inr (.inr (fun _ => none)))))), (ux 3, .inr (1, [.ref (ux 4), .ref (ux 5), .int 0, .int 0, .int 0])), (ux 4, .inr (3, [.ref (ux 0), .int 0, .int 0, .int 0, .int 0, .long 0])), (am, .inr (6, zM 0 um)), (um 1, .inl (um 46, 800, .inl (fun _ => 0))), (um 4, .inl (um 47, 5, .inl (fun _ => 0))), (um 30, .inl (um 48, 40, .inl (fun _ => 0))), (um 31, .inl (um 49, 40, .inl (fun _ => 0))), (um 32, .inl (um 50, 40, .inl (fun _ => 0))), (um 33, .inl (um 51, 40, .inr (.inl (fun _ => 0)))), (um 34, .inl (um 52, 40, .inl (fun _ => 0))), (um 35, .inl (um 53, 40, .inl (fun _ => 0))), (um 36, .inl (um 54, 40, .inl (fun _ => 0))), (um 37, .inl (um 55, 40, .inl (fun _ => 0)))]) (hS : va_S (fun q : Nat => s.heap.size ≤ q) s.heap H locs) {ls : Array Slot} (hl : lv_has ls 7 [(4, .int 0), (3, .ref ro), (2, .ref am), (1, .ref ax), (0, .ref b)]) : W p l e room_1 s m #[Value.ref b] below meth c H locs 38 11351 (lw_Z below #[Value.ref b] s) (F0 m 735 ls []) := by
  have C1 := C0
  obtain ⟨hx, hb, hr, hml, hown, hts, hX, hbl, hlocks, hgv⟩ := C0
  have hown : s.vm.findClass RL = some m.cls := hown
  have hA : ∀ q : Nat, s.heap.size ≤ q → (fun q : Nat => s.heap.size ≤ q) q := fun _ h => h
  have hbA : ¬ (fun q : Nat => s.heap.size ≤ q) b := Nat.not_le.mpr hbl
  refine lv_aload_n hx hb dL_law_735 rfl (lv_at hl 3 rfl) ?_
  refine lv_aload_n hx hb dL_law_736 rfl (lv_at hl 4 rfl) ?_
  refine lv_iload hx hb dL_law_737 (lv_at hl 0 rfl) ?_
  refine lv_iconst (v := 1) hx hb dL_law_739 (by decide) ?_
  refine lv_iadd hx hb dL_law_740 ?_
  refine lv_topi (fun x1 ex1 => ?_)
  obtain rfl : x1 = 1 := by rw [ex1]; decide
  refine va_sld hx hb hX hbl hbA hS (by unfold vp_in; decide : vp_in 1 9) dL_law_741 ?_
  refine W.eq (g2 := F0 m 742 ls [.int (xs 1), .ref ax]) rfl ?_
  refine lv_aload_n hx hb dL_law_742 rfl (lv_at hl 4 rfl) ?_
  refine lv_iload hx hb dL_law_743 (lv_at hl 0 rfl) ?_
  refine lv_iconst (v := 2) hx hb dL_law_745 (by decide) ?_
  refine lv_iadd hx hb dL_law_746 ?_
  refine lv_topi (fun x2 ex2 => ?_)
  obtain rfl : x2 = 2 := by rw [ex2]; decide
  refine va_sld hx hb hX hbl hbA hS (by unfold vp_in; decide : vp_in 2 9) dL_law_747 ?_
  refine W.eq (g2 := F0 m 748 ls [.int (xs 2), .int (xs 1), .ref ax]) rfl ?_
  refine vp_callSi (W.runV (As := [.int (xs 1), .int (xs 2)]) (rest := []) ⟨hx, hb, hml, hown, hts⟩ (zX6_stale l dC dI ax (ux 0) (ux 1) (ux 2) (ux 3) (xs 1) (xs 2)) (cwV 2 hts zgL_law_X6_stale_80 rfl rfl rfl (by decide +kernel) ⟨(show 1 + 1 ≤ 10 by omega), (show 8 + (6 + 11) + 21 ≤ 372 by omega)⟩) (zVr (ci := 5) (q0 := 0) (q := (RX6, TX6, 7)) (hK.sub (tys' := []) [] rfl) (hP.sub (ws' := [(ax, .inr (5, [.ref (ux 0), .int 0, .ref (ux 1), .int 0, .ref (ux 2), .int 0, .ref (ux 3)]))]) [0] rfl) rfl rfl rfl) rfl rfl hl.1 rfl (lv_room (Nat.le_of_ble_eq_true rfl)) dL_law_748 ⟨(show 38 + 0 ≤ 600002 by omega), (show 11351 + 0 ≤ 7302232 by omega)⟩) (fun r3 hr3 => ?_)
  subst hr3
  refine lv_aload_n hx hb dL_law_751 rfl (lv_at hl 2 rfl) ?_
  refine lv_aload_n hx hb dL_law_752 rfl (lv_at hl 4 rfl) ?_
  refine lv_iload hx hb dL_law_753 (lv_at hl 0 rfl) ?_
  refine lv_iconst (v := 1) hx hb dL_law_755 (by decide) ?_
  refine lv_iadd hx hb dL_law_756 ?_
  refine lv_topi (fun x4 ex4 => ?_)
  obtain rfl : x4 = 1 := by rw [ex4]; decide
  refine va_sld hx hb hX hbl hbA hS (by unfold vp_in; decide : vp_in 1 9) dL_law_757 ?_
  refine W.eq (g2 := F0 m 758 ls [.int (xs 1), .ref am, .int (-2)]) rfl ?_
  refine lv_aload_n hx hb dL_law_758 rfl (lv_at hl 4 rfl) ?_
  refine lv_iload hx hb dL_law_759 (lv_at hl 0 rfl) ?_
  refine lv_iconst (v := 2) hx hb dL_law_761 (by decide) ?_
  refine lv_iadd hx hb dL_law_762 ?_
  refine lv_topi (fun x5 ex5 => ?_)
  obtain rfl : x5 = 2 := by rw [ex5]; decide
  refine va_sld hx hb hX hbl hbA hS (by unfold vp_in; decide : vp_in 2 9) dL_law_763 ?_
  refine W.eq (g2 := F0 m 764 ls [.int (xs 2), .int (xs 1), .ref am, .int (-2)]) rfl ?_
  have hPc := hP.sub (ws' := [(am, .inr (6, zM 0 um))]) [6] rfl
  have hDc := hD.sub (ws' := [(am, .inr (6, zM 0 um))]) [6] (by decide) rfl
  have hKc := hK.sub (tys' := []) [] rfl
  have hFc := va_free (wc := [(am, .inr (6, zM 0 um))]) hD hS hA [6] rfl
  refine va_calli (va_runV (As := [.int (xs 1), .int (xs 2)]) (rest := [.int (-2)]) ⟨hx, hb, hml, hown, hts⟩ (zX7_stale l dC dI am um H.size (xs 1) (xs 2)) (cwV 2 hts zgL_law_X7_stale_83 rfl rfl rfl (by decide +kernel) ⟨(show 2 + 1 ≤ 10 by omega), (show 8 + (3 + 11) + 46 ≤ 372 by omega)⟩) (zVw (ci := 6) (q0 := 0) (q := (RX7, TX7, 46)) hKc hPc hDc rfl rfl rfl) rfl rfl hl.1 rfl (lv_room (Nat.le_of_ble_eq_true rfl)) dL_law_764 ⟨(show 38 + 0 ≤ 600002 by omega), (show 11351 + 0 ≤ 7302232 by omega)⟩) hS (fun q _ h => hFc q h) hFc (fun r7 u6 t H1 locs ht hvm hw hB hz1 hk1 hS => ?_)
  obtain ⟨hP, hD⟩ := z_rest (wr := [(ax, .inr (5, [.ref (ux 0), .int 0, .ref (ux 1), .int 0, .ref (ux 2), .int 0, .ref (ux 3)])), (ux 0, .inl (ux 6, 800, .inl (fun _ => 0))), (ux 1, .inl (ux 7, 5, .inr (.inr (.inr (.inr (fun _ => none)))))), (ux 2, .inl (ux 8, 40, .inr (.inr (.inr (.inr (fun _ => none)))))), (ux 3, .inr (1, [.ref (ux 4), .ref (ux 5), .int 0, .int 0, .int 0])), (ux 4, .inr (3, [.ref (ux 0), .int 0, .int 0, .int 0, .int 0, .long 0])), (um 1, .inl (um 46, 800, .inl (fun _ => 0))), (um 4, .inl (um 47, 5, .inl (fun _ => 0))), (um 30, .inl (um 48, 40, .inl (fun _ => 0))), (um 31, .inl (um 49, 40, .inl (fun _ => 0))), (um 32, .inl (um 50, 40, .inl (fun _ => 0))), (um 33, .inl (um 51, 40, .inr (.inl (fun _ => 0)))), (um 34, .inl (um 52, 40, .inl (fun _ => 0))), (um 35, .inl (um 53, 40, .inl (fun _ => 0))), (um 36, .inl (um 54, 40, .inl (fun _ => 0))), (um 37, .inl (um 55, 40, .inl (fun _ => 0)))]) hP hD [6] [0, 1, 2, 3, 4, 5, 7, 8, 9, 10, 11, 12, 13, 14, 15, 16] rfl rfl (by decide) (by decide) hk1 hFc
  have hK := hK.sub (tys' := [(ux 6, .byte), (ux 7, .object RX0), (ux 8, .object RX5), (um 46, .int), (um 47, .int), (um 48, .int), (um 49, .int), (um 50, .int), (um 51, .long), (um 52, .int), (um 53, .int), (um 54, .int), (um 55, .int)]) [0, 1, 2, 3, 4, 5, 6, 7, 8, 9, 10, 11, 12] rfl
  generalize H1 = H at hP hS ⊢
  have hP : va_P (dC, dI) vwCl [(ax, .inr (5, [.ref (ux 0), .int 0, .ref (ux 1), .int 0, .ref (ux 2), .int 0, .ref (ux 3)])), (ux 0, .inl (ux 6, 800, .inl (fun _ => 0))), (ux 1, .inl (ux 7, 5, .inr (.inr (.inr (.inr (fun _ => none)))))), (ux 2, .inl (ux 8, 40, .inr (.inr (.inr (.inr (fun _ => none)))))), (ux 3, .inr (1, [.ref (ux 4), .ref (ux 5), .int 0, .int 0, .int 0])), (ux 4, .inr (3, [.ref (ux 0), .int 0, .int 0, .int 0, .int 0, .long 0])), (um 1, .inl (um 46, 800, .inl (fun _ => 0))), (um 4, .inl (um 47, 5, .inl (fun _ => 0))), (um 30, .inl (um 48, 40, .inl (fun _ => 0))), (um 31, .inl (um 49, 40, .inl (fun _ => 0))), (um 32, .inl (um 50, 40, .inl (fun _ => 0))), (um 33, .inl (um 51, 40, .inr (.inl (fun _ => 0)))), (um 34, .inl (um 52, 40, .inl (fun _ => 0))), (um 35, .inl (um 53, 40, .inl (fun _ => 0))), (um 36, .inl (um 54, 40, .inl (fun _ => 0))), (um 37, .inl (um 55, 40, .inl (fun _ => 0)))] H := hP
  have hD : va_D (fun q : Nat => s.heap.size ≤ q) [(ax, .inr (5, [.ref (ux 0), .int 0, .ref (ux 1), .int 0, .ref (ux 2), .int 0, .ref (ux 3)])), (ux 0, .inl (ux 6, 800, .inl (fun _ => 0))), (ux 1, .inl (ux 7, 5, .inr (.inr (.inr (.inr (fun _ => none)))))), (ux 2, .inl (ux 8, 40, .inr (.inr (.inr (.inr (fun _ => none)))))), (ux 3, .inr (1, [.ref (ux 4), .ref (ux 5), .int 0, .int 0, .int 0])), (ux 4, .inr (3, [.ref (ux 0), .int 0, .int 0, .int 0, .int 0, .long 0])), (um 1, .inl (um 46, 800, .inl (fun _ => 0))), (um 4, .inl (um 47, 5, .inl (fun _ => 0))), (um 30, .inl (um 48, 40, .inl (fun _ => 0))), (um 31, .inl (um 49, 40, .inl (fun _ => 0))), (um 32, .inl (um 50, 40, .inl (fun _ => 0))), (um 33, .inl (um 51, 40, .inr (.inl (fun _ => 0)))), (um 34, .inl (um 52, 40, .inl (fun _ => 0))), (um 35, .inl (um 53, 40, .inl (fun _ => 0))), (um 36, .inl (um 54, 40, .inl (fun _ => 0))), (um 37, .inl (um 55, 40, .inl (fun _ => 0)))] := hD
  have hK : va_K (dC, dI) vwCl [(ux 6, .byte), (ux 7, .object RX0), (ux 8, .object RX5), (um 46, .int), (um 47, .int), (um 48, .int), (um 49, .int), (um 50, .int), (um 51, .long), (um 52, .int), (um 53, .int), (um 54, .int), (um 55, .int)] s := hK
  obtain rfl : r7 = -2 := hw
  refine lv_icmp_eq (tgt := 902) hx hb dL_law_767 (by decide) (fun _ => ?_) (fun c9 => absurd (rfl) c9)
  exact zc_end C1 hS (lv_sub hl [0, 4] rfl) (by omega) (by omega)
theorem dL_law_772 : decode cL_law 772 = .ok (.aload_n 1, 1) := by decide +kernel
theorem dL_law_773 : decode cL_law 773 = .ok (.aload_n 0, 1) := by decide +kernel
theorem dL_law_774 : decode cL_law 774 = .ok (.iload 4, 2) := by decide +kernel
theorem dL_law_776 : decode cL_law 776 = .ok (.iconst 1, 1) := by decide +kernel
theorem dL_law_777 : decode cL_law 777 = .ok (.iadd, 1) := by decide +kernel
theorem dL_law_778 : decode cL_law 778 = .ok (.iaload, 1) := by decide +kernel
theorem dL_law_779 : decode cL_law 779 = .ok (.aload_n 0, 1) := by decide +kernel
theorem dL_law_780 : decode cL_law 780 = .ok (.iload 4, 2) := by decide +kernel
theorem dL_law_782 : decode cL_law 782 = .ok (.iconst 2, 1) := by decide +kernel
theorem dL_law_783 : decode cL_law 783 = .ok (.iadd, 1) := by decide +kernel
theorem dL_law_784 : decode cL_law 784 = .ok (.iaload, 1) := by decide +kernel
theorem dL_law_785 : decode cL_law 785 = .ok (.aload_n 0, 1) := by decide +kernel
theorem dL_law_786 : decode cL_law 786 = .ok (.iload 4, 2) := by decide +kernel
theorem dL_law_788 : decode cL_law 788 = .ok (.iconst 3, 1) := by decide +kernel
theorem dL_law_789 : decode cL_law 789 = .ok (.iadd, 1) := by decide +kernel
theorem dL_law_790 : decode cL_law 790 = .ok (.iaload, 1) := by decide +kernel
theorem dL_law_791 : decode cL_law 791 = .ok (.invokevirtual 84, 3) := by decide +kernel
theorem dL_law_794 : decode cL_law 794 = .ok (.aload_n 2, 1) := by decide +kernel
theorem dL_law_795 : decode cL_law 795 = .ok (.aload_n 0, 1) := by decide +kernel
theorem dL_law_796 : decode cL_law 796 = .ok (.iload 4, 2) := by decide +kernel
theorem dL_law_798 : decode cL_law 798 = .ok (.iconst 1, 1) := by decide +kernel
theorem dL_law_799 : decode cL_law 799 = .ok (.iadd, 1) := by decide +kernel
theorem dL_law_800 : decode cL_law 800 = .ok (.iaload, 1) := by decide +kernel
theorem dL_law_801 : decode cL_law 801 = .ok (.aload_n 0, 1) := by decide +kernel
theorem dL_law_802 : decode cL_law 802 = .ok (.iload 4, 2) := by decide +kernel
theorem dL_law_804 : decode cL_law 804 = .ok (.iconst 2, 1) := by decide +kernel
theorem dL_law_805 : decode cL_law 805 = .ok (.iadd, 1) := by decide +kernel
theorem dL_law_806 : decode cL_law 806 = .ok (.iaload, 1) := by decide +kernel
theorem dL_law_807 : decode cL_law 807 = .ok (.aload_n 0, 1) := by decide +kernel
theorem dL_law_808 : decode cL_law 808 = .ok (.iload 4, 2) := by decide +kernel
theorem dL_law_810 : decode cL_law 810 = .ok (.iconst 3, 1) := by decide +kernel
theorem dL_law_811 : decode cL_law 811 = .ok (.iadd, 1) := by decide +kernel
theorem dL_law_812 : decode cL_law 812 = .ok (.iaload, 1) := by decide +kernel
theorem dL_law_813 : decode cL_law 813 = .ok (.invokevirtual 87, 3) := by decide +kernel
theorem dL_law_816 : decode cL_law 816 = .ok (.if_icmp .eq 86, 3) := by decide +kernel
set_option maxHeartbeats 4000000 in
set_option maxRecDepth 100000 in
theorem zc_14 {p : Program} {l : Launch} {e : Env} {s : State} {m : MethodId} {below : List Frame} {meth : Method} {c : Code} {dC : Nat → ClassId} {dI : Nat → Nat → Nat} {b : Nat} {xs : Nat → Int32} (C0 : lw_At p s m meth c b 9 xs)  {ax am ro : Nat} {ux um : Nat → Nat} {H : Heap} {locs : List Loc} (hK : va_K (dC, dI) vwCl [(ux 6, .byte), (ux 7, .object RX0), (ux 8, .object RX5), (um 46, .int), (um 47, .int), (um 48, .int), (um 49, .int), (um 50, .int), (um 51, .long), (um 52, .int), (um 53, .int), (um 54, .int), (um 55, .int)] s) (hP : va_P (dC, dI) vwCl [(ax, .inr (5, [.ref (ux 0), .int 0, .ref (ux 1), .int 0, .ref (ux 2), .int 0, .ref (ux 3)])), (ux 0, .inl (ux 6, 800, .inl (fun _ => 0))), (ux 1, .inl (ux 7, 5, .inr (.inr (.inr (.inr (fun _ => none)))))), (ux 2, .inl (ux 8, 40, .inr (.inr (.inr (.inr (fun _ => none)))))), (ux 3, .inr (1, [.ref (ux 4), .ref (ux 5), .int 0, .int 0, .int 0])), (ux 4, .inr (3, [.ref (ux 0), .int 0, .int 0, .int 0, .int 0, .long 0])), (am, .inr (6, zM 0 um)), (um 1, .inl (um 46, 800, .inl (fun _ => 0))), (um 4, .inl (um 47, 5, .inl (fun _ => 0))), (um 30, .inl (um 48, 40, .inl (fun _ => 0))), (um 31, .inl (um 49, 40, .inl (fun _ => 0))), (um 32, .inl (um 50, 40, .inl (fun _ => 0))), (um 33, .inl (um 51, 40, .inr (.inl (fun _ => 0)))), (um 34, .inl (um 52, 40, .inl (fun _ => 0))), (um 35, .inl (um 53, 40, .inl (fun _ => 0))), (um 36, .inl (um 54, 40, .inl (fun _ => 0))), (um 37, .inl (um 55, 40, .inl (fun _ => 0)))] H) (hD : va_D (fun q : Nat => s.heap.size ≤ q) [(ax, .inr (5, [.ref (ux 0), .int 0, .ref (ux 1), .int 0, .ref (ux 2), .int 0, .ref (ux 3)])), (ux 0, .inl (ux 6, 800, .inl (fun _ => 0))), (ux 1, .inl (ux 7, 5, .inr (.inr (.inr (.inr (fun _ => none)))))), (ux 2, .inl (ux 8, 40, .inr (.inr (.inr (.inr (fun _ => none)))))), (ux 3, .inr (1, [.ref (ux 4), .ref (ux 5), .int 0, .int 0, .int 0])), (ux 4, .inr (3, [.ref (ux 0), .int 0, .int 0, .int 0, .int 0, .long 0])), (am, .inr (6, zM 0 um)), (um 1, .inl (um 46, 800, .inl (fun _ => 0))), (um 4, .inl (um 47, 5, .inl (fun _ => 0))), (um 30, .inl (um 48, 40, .inl (fun _ => 0))), (um 31, .inl (um 49, 40, .inl (fun _ => 0))), (um 32, .inl (um 50, 40, .inl (fun _ => 0))), (um 33, .inl (um 51, 40, .inr (.inl (fun _ => 0)))), (um 34, .inl (um 52, 40, .inl (fun _ => 0))), (um 35, .inl (um 53, 40, .inl (fun _ => 0))), (um 36, .inl (um 54, 40, .inl (fun _ => 0))), (um 37, .inl (um 55, 40, .inl (fun _ => 0)))]) (hS : va_S (fun q : Nat => s.heap.size ≤ q) s.heap H locs) {ls : Array Slot} (hl : lv_has ls 7 [(4, .int 0), (3, .ref ro), (2, .ref am), (1, .ref ax), (0, .ref b)]) : W p l e room_1 s m #[Value.ref b] below meth c H locs 38 11351 (lw_Z below #[Value.ref b] s) (F0 m 772 ls []) := by
  have C1 := C0
  obtain ⟨hx, hb, hr, hml, hown, hts, hX, hbl, hlocks, hgv⟩ := C0
  have hown : s.vm.findClass RL = some m.cls := hown
  have hA : ∀ q : Nat, s.heap.size ≤ q → (fun q : Nat => s.heap.size ≤ q) q := fun _ h => h
  have hbA : ¬ (fun q : Nat => s.heap.size ≤ q) b := Nat.not_le.mpr hbl
  refine lv_aload_n hx hb dL_law_772 rfl (lv_at hl 3 rfl) ?_
  refine lv_aload_n hx hb dL_law_773 rfl (lv_at hl 4 rfl) ?_
  refine lv_iload hx hb dL_law_774 (lv_at hl 0 rfl) ?_
  refine lv_iconst (v := 1) hx hb dL_law_776 (by decide) ?_
  refine lv_iadd hx hb dL_law_777 ?_
  refine lv_topi (fun x1 ex1 => ?_)
  obtain rfl : x1 = 1 := by rw [ex1]; decide
  refine va_sld hx hb hX hbl hbA hS (by unfold vp_in; decide : vp_in 1 9) dL_law_778 ?_
  refine W.eq (g2 := F0 m 779 ls [.int (xs 1), .ref ax]) rfl ?_
  refine lv_aload_n hx hb dL_law_779 rfl (lv_at hl 4 rfl) ?_
  refine lv_iload hx hb dL_law_780 (lv_at hl 0 rfl) ?_
  refine lv_iconst (v := 2) hx hb dL_law_782 (by decide) ?_
  refine lv_iadd hx hb dL_law_783 ?_
  refine lv_topi (fun x2 ex2 => ?_)
  obtain rfl : x2 = 2 := by rw [ex2]; decide
  refine va_sld hx hb hX hbl hbA hS (by unfold vp_in; decide : vp_in 2 9) dL_law_784 ?_
  refine W.eq (g2 := F0 m 785 ls [.int (xs 2), .int (xs 1), .ref ax]) rfl ?_
  refine lv_aload_n hx hb dL_law_785 rfl (lv_at hl 4 rfl) ?_
  refine lv_iload hx hb dL_law_786 (lv_at hl 0 rfl) ?_
  refine lv_iconst (v := 3) hx hb dL_law_788 (by decide) ?_
  refine lv_iadd hx hb dL_law_789 ?_
  refine lv_topi (fun x3 ex3 => ?_)
  obtain rfl : x3 = 3 := by rw [ex3]; decide
  refine va_sld hx hb hX hbl hbA hS (by unfold vp_in; decide : vp_in 3 9) dL_law_790 ?_
  refine W.eq (g2 := F0 m 791 ls [.int (xs 3), .int (xs 2), .int (xs 1), .ref ax]) rfl ?_
  refine vp_callSi (W.runV (As := [.int (xs 1), .int (xs 2), .int (xs 3)]) (rest := []) ⟨hx, hb, hml, hown, hts⟩ (zX6_changed l dC dI ax (ux 0) (ux 1) (ux 2) (ux 3) (xs 1) (xs 2) (xs 3)) (cwV 3 hts zgL_law_X6_changed_84 rfl rfl rfl (by decide +kernel) ⟨(show 1 + 1 ≤ 10 by omega), (show 8 + (8 + 11) + 21 ≤ 372 by omega)⟩) (zVr (ci := 5) (q0 := 0) (q := (RX6, TX6, 7)) (hK.sub (tys' := []) [] rfl) (hP.sub (ws' := [(ax, .inr (5, [.ref (ux 0), .int 0, .ref (ux 1), .int 0, .ref (ux 2), .int 0, .ref (ux 3)]))]) [0] rfl) rfl rfl rfl) rfl rfl hl.1 rfl (lv_room (Nat.le_of_ble_eq_true rfl)) dL_law_791 ⟨(show 38 + 0 ≤ 600002 by omega), (show 11351 + 0 ≤ 7302232 by omega)⟩) (fun r4 hr4 => ?_)
  subst hr4
  refine lv_aload_n hx hb dL_law_794 rfl (lv_at hl 2 rfl) ?_
  refine lv_aload_n hx hb dL_law_795 rfl (lv_at hl 4 rfl) ?_
  refine lv_iload hx hb dL_law_796 (lv_at hl 0 rfl) ?_
  refine lv_iconst (v := 1) hx hb dL_law_798 (by decide) ?_
  refine lv_iadd hx hb dL_law_799 ?_
  refine lv_topi (fun x5 ex5 => ?_)
  obtain rfl : x5 = 1 := by rw [ex5]; decide
  refine va_sld hx hb hX hbl hbA hS (by unfold vp_in; decide : vp_in 1 9) dL_law_800 ?_
  refine W.eq (g2 := F0 m 801 ls [.int (xs 1), .ref am, .int (-2)]) rfl ?_
  refine lv_aload_n hx hb dL_law_801 rfl (lv_at hl 4 rfl) ?_
  refine lv_iload hx hb dL_law_802 (lv_at hl 0 rfl) ?_
  refine lv_iconst (v := 2) hx hb dL_law_804 (by decide) ?_
  refine lv_iadd hx hb dL_law_805 ?_
  refine lv_topi (fun x6 ex6 => ?_)
  obtain rfl : x6 = 2 := by rw [ex6]; decide
  refine va_sld hx hb hX hbl hbA hS (by unfold vp_in; decide : vp_in 2 9) dL_law_806 ?_
  refine W.eq (g2 := F0 m 807 ls [.int (xs 2), .int (xs 1), .ref am, .int (-2)]) rfl ?_
  refine lv_aload_n hx hb dL_law_807 rfl (lv_at hl 4 rfl) ?_
  refine lv_iload hx hb dL_law_808 (lv_at hl 0 rfl) ?_
  refine lv_iconst (v := 3) hx hb dL_law_810 (by decide) ?_
  refine lv_iadd hx hb dL_law_811 ?_
  refine lv_topi (fun x7 ex7 => ?_)
  obtain rfl : x7 = 3 := by rw [ex7]; decide
  refine va_sld hx hb hX hbl hbA hS (by unfold vp_in; decide : vp_in 3 9) dL_law_812 ?_
  refine W.eq (g2 := F0 m 813 ls [.int (xs 3), .int (xs 2), .int (xs 1), .ref am, .int (-2)]) rfl ?_
  have hPc := hP.sub (ws' := [(am, .inr (6, zM 0 um))]) [6] rfl
  have hDc := hD.sub (ws' := [(am, .inr (6, zM 0 um))]) [6] (by decide) rfl
  have hKc := hK.sub (tys' := []) [] rfl
  have hFc := va_free (wc := [(am, .inr (6, zM 0 um))]) hD hS hA [6] rfl
  refine va_calli (va_runV (As := [.int (xs 1), .int (xs 2), .int (xs 3)]) (rest := [.int (-2)]) ⟨hx, hb, hml, hown, hts⟩ (zX7_changed l dC dI am um H.size (xs 1) (xs 2) (xs 3)) (cwV 3 hts zgL_law_X7_changed_87 rfl rfl rfl (by decide +kernel) ⟨(show 2 + 1 ≤ 10 by omega), (show 8 + (6 + 11) + 46 ≤ 372 by omega)⟩) (zVw (ci := 6) (q0 := 0) (q := (RX7, TX7, 46)) hKc hPc hDc rfl rfl rfl) rfl rfl hl.1 rfl (lv_room (Nat.le_of_ble_eq_true rfl)) dL_law_813 ⟨(show 38 + 0 ≤ 600002 by omega), (show 11351 + 0 ≤ 7302232 by omega)⟩) hS (fun q _ h => hFc q h) hFc (fun r9 u8 t H1 locs ht hvm hw hB hz1 hk1 hS => ?_)
  obtain ⟨hP, hD⟩ := z_rest (wr := [(ax, .inr (5, [.ref (ux 0), .int 0, .ref (ux 1), .int 0, .ref (ux 2), .int 0, .ref (ux 3)])), (ux 0, .inl (ux 6, 800, .inl (fun _ => 0))), (ux 1, .inl (ux 7, 5, .inr (.inr (.inr (.inr (fun _ => none)))))), (ux 2, .inl (ux 8, 40, .inr (.inr (.inr (.inr (fun _ => none)))))), (ux 3, .inr (1, [.ref (ux 4), .ref (ux 5), .int 0, .int 0, .int 0])), (ux 4, .inr (3, [.ref (ux 0), .int 0, .int 0, .int 0, .int 0, .long 0])), (um 1, .inl (um 46, 800, .inl (fun _ => 0))), (um 4, .inl (um 47, 5, .inl (fun _ => 0))), (um 30, .inl (um 48, 40, .inl (fun _ => 0))), (um 31, .inl (um 49, 40, .inl (fun _ => 0))), (um 32, .inl (um 50, 40, .inl (fun _ => 0))), (um 33, .inl (um 51, 40, .inr (.inl (fun _ => 0)))), (um 34, .inl (um 52, 40, .inl (fun _ => 0))), (um 35, .inl (um 53, 40, .inl (fun _ => 0))), (um 36, .inl (um 54, 40, .inl (fun _ => 0))), (um 37, .inl (um 55, 40, .inl (fun _ => 0)))]) hP hD [6] [0, 1, 2, 3, 4, 5, 7, 8, 9, 10, 11, 12, 13, 14, 15, 16] rfl rfl (by decide) (by decide) hk1 hFc
  have hK := hK.sub (tys' := [(ux 6, .byte), (ux 7, .object RX0), (ux 8, .object RX5), (um 46, .int), (um 47, .int), (um 48, .int), (um 49, .int), (um 50, .int), (um 51, .long), (um 52, .int), (um 53, .int), (um 54, .int), (um 55, .int)]) [0, 1, 2, 3, 4, 5, 6, 7, 8, 9, 10, 11, 12] rfl
  generalize H1 = H at hP hS ⊢
  have hP : va_P (dC, dI) vwCl [(ax, .inr (5, [.ref (ux 0), .int 0, .ref (ux 1), .int 0, .ref (ux 2), .int 0, .ref (ux 3)])), (ux 0, .inl (ux 6, 800, .inl (fun _ => 0))), (ux 1, .inl (ux 7, 5, .inr (.inr (.inr (.inr (fun _ => none)))))), (ux 2, .inl (ux 8, 40, .inr (.inr (.inr (.inr (fun _ => none)))))), (ux 3, .inr (1, [.ref (ux 4), .ref (ux 5), .int 0, .int 0, .int 0])), (ux 4, .inr (3, [.ref (ux 0), .int 0, .int 0, .int 0, .int 0, .long 0])), (um 1, .inl (um 46, 800, .inl (fun _ => 0))), (um 4, .inl (um 47, 5, .inl (fun _ => 0))), (um 30, .inl (um 48, 40, .inl (fun _ => 0))), (um 31, .inl (um 49, 40, .inl (fun _ => 0))), (um 32, .inl (um 50, 40, .inl (fun _ => 0))), (um 33, .inl (um 51, 40, .inr (.inl (fun _ => 0)))), (um 34, .inl (um 52, 40, .inl (fun _ => 0))), (um 35, .inl (um 53, 40, .inl (fun _ => 0))), (um 36, .inl (um 54, 40, .inl (fun _ => 0))), (um 37, .inl (um 55, 40, .inl (fun _ => 0)))] H := hP
  have hD : va_D (fun q : Nat => s.heap.size ≤ q) [(ax, .inr (5, [.ref (ux 0), .int 0, .ref (ux 1), .int 0, .ref (ux 2), .int 0, .ref (ux 3)])), (ux 0, .inl (ux 6, 800, .inl (fun _ => 0))), (ux 1, .inl (ux 7, 5, .inr (.inr (.inr (.inr (fun _ => none)))))), (ux 2, .inl (ux 8, 40, .inr (.inr (.inr (.inr (fun _ => none)))))), (ux 3, .inr (1, [.ref (ux 4), .ref (ux 5), .int 0, .int 0, .int 0])), (ux 4, .inr (3, [.ref (ux 0), .int 0, .int 0, .int 0, .int 0, .long 0])), (um 1, .inl (um 46, 800, .inl (fun _ => 0))), (um 4, .inl (um 47, 5, .inl (fun _ => 0))), (um 30, .inl (um 48, 40, .inl (fun _ => 0))), (um 31, .inl (um 49, 40, .inl (fun _ => 0))), (um 32, .inl (um 50, 40, .inl (fun _ => 0))), (um 33, .inl (um 51, 40, .inr (.inl (fun _ => 0)))), (um 34, .inl (um 52, 40, .inl (fun _ => 0))), (um 35, .inl (um 53, 40, .inl (fun _ => 0))), (um 36, .inl (um 54, 40, .inl (fun _ => 0))), (um 37, .inl (um 55, 40, .inl (fun _ => 0)))] := hD
  have hK : va_K (dC, dI) vwCl [(ux 6, .byte), (ux 7, .object RX0), (ux 8, .object RX5), (um 46, .int), (um 47, .int), (um 48, .int), (um 49, .int), (um 50, .int), (um 51, .long), (um 52, .int), (um 53, .int), (um 54, .int), (um 55, .int)] s := hK
  obtain rfl : r9 = -2 := hw
  refine lv_icmp_eq (tgt := 902) hx hb dL_law_816 (by decide) (fun _ => ?_) (fun c9 => absurd (rfl) c9)
  exact zc_end C1 hS (lv_sub hl [0, 4] rfl) (by omega) (by omega)
