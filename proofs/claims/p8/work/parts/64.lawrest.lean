theorem dL_law_673 : decode cL_law 673 = .ok (.aload_n 1, 1) := by decide +kernel
theorem dL_law_674 : decode cL_law 674 = .ok (.aload_n 0, 1) := by decide +kernel
theorem dL_law_675 : decode cL_law 675 = .ok (.iload 4, 2) := by decide +kernel
theorem dL_law_677 : decode cL_law 677 = .ok (.iconst 1, 1) := by decide +kernel
theorem dL_law_678 : decode cL_law 678 = .ok (.iadd, 1) := by decide +kernel
theorem dL_law_679 : decode cL_law 679 = .ok (.iaload, 1) := by decide +kernel
theorem dL_law_680 : decode cL_law 680 = .ok (.aload_n 0, 1) := by decide +kernel
theorem dL_law_681 : decode cL_law 681 = .ok (.iload 4, 2) := by decide +kernel
theorem dL_law_683 : decode cL_law 683 = .ok (.iconst 2, 1) := by decide +kernel
theorem dL_law_684 : decode cL_law 684 = .ok (.iadd, 1) := by decide +kernel
theorem dL_law_685 : decode cL_law 685 = .ok (.iaload, 1) := by decide +kernel
theorem dL_law_686 : decode cL_law 686 = .ok (.invokevirtual 72, 3) := by decide +kernel
theorem dL_law_689 : decode cL_law 689 = .ok (.pop, 1) := by decide +kernel
theorem dL_law_690 : decode cL_law 690 = .ok (.aload_n 2, 1) := by decide +kernel
theorem dL_law_691 : decode cL_law 691 = .ok (.aload_n 0, 1) := by decide +kernel
theorem dL_law_692 : decode cL_law 692 = .ok (.iload 4, 2) := by decide +kernel
theorem dL_law_694 : decode cL_law 694 = .ok (.iconst 1, 1) := by decide +kernel
theorem dL_law_695 : decode cL_law 695 = .ok (.iadd, 1) := by decide +kernel
theorem dL_law_696 : decode cL_law 696 = .ok (.iaload, 1) := by decide +kernel
theorem dL_law_697 : decode cL_law 697 = .ok (.aload_n 0, 1) := by decide +kernel
theorem dL_law_698 : decode cL_law 698 = .ok (.iload 4, 2) := by decide +kernel
theorem dL_law_700 : decode cL_law 700 = .ok (.iconst 2, 1) := by decide +kernel
theorem dL_law_701 : decode cL_law 701 = .ok (.iadd, 1) := by decide +kernel
theorem dL_law_702 : decode cL_law 702 = .ok (.iaload, 1) := by decide +kernel
theorem dL_law_703 : decode cL_law 703 = .ok (.invokevirtual 75, 3) := by decide +kernel
theorem dL_law_706 : decode cL_law 706 = .ok (.pop, 1) := by decide +kernel
theorem dL_law_707 : decode cL_law 707 = .ok (.goto 167, 3) := by decide +kernel
set_option maxHeartbeats 4000000 in
set_option maxRecDepth 100000 in
theorem zc_11 {p : Program} {l : Launch} {e : Env} {s : State} {m : MethodId} {below : List Frame} {meth : Method} {c : Code} {dC : Nat → ClassId} {dI : Nat → Nat → Nat} {b L : Nat} {xs : Nat → Int32} (C0 : lw_At p s m meth c b L xs) (hL9 : L ≤ 4608) (hE : zF s) (hL : zL (fun q : Nat => s.heap.size ≤ q) s s.heap) (hl9 : l.stackTraces = false) {sa sb : Nat} (hXs : zX sa sb s) (hZs : zZ (fun q : Nat => s.heap.size ≤ q) s s.heap) {xh tb xb xu rh : Nat} {cI cJ cB cQ cV cZ : ClassId} {h0 : Nat} {r : Nat → Nat} {ro : Nat} (hK : va_K (dC, dI) vwCl [(cI, .int), (cJ, .long), (cB, .byte), (cQ, .object RX0), (cV, .object RX5), (cZ, .boolean)] s) {n cells slots : Nat} (hn : 9 * n + 9 ≤ L) (hcc : cells + 17 ≤ 601024) (hss : slots + 1697 ≤ 7293034) {H : Heap} {locs : List Loc} (hG : zInv dC dI xh tb xb xu rh cI cJ cB cQ cV cZ h0 r ro (fun q : Nat => s.heap.size ≤ q) H) (hS : va_S (fun q : Nat => s.heap.size ≤ q) s.heap H locs) {ls : Array Slot} (hl : lv_has ls 7 [(4, .int (nI (9 * n))), (3, .ref ro), (2, .ref h0), (1, .ref xh), (0, .ref b)]) (kk : ∀ (H : Heap) (locs : List Loc) (ls : Array Slot), zInv dC dI xh tb xb xu rh cI cJ cB cQ cV cZ h0 r ro (fun q : Nat => s.heap.size ≤ q) H → va_S (fun q : Nat => s.heap.size ≤ q) s.heap H locs → lv_has ls 7 [(4, .int (nI (9 * n))), (3, .ref ro), (2, .ref h0), (1, .ref xh), (0, .ref b)] → W p l e room_1 s m #[Value.ref b] below meth c H locs (cells + 17) (slots + 1697) (lw_Z below #[Value.ref b] s) (F0 m 874 ls [])) : W p l e room_1 s m #[Value.ref b] below meth c H locs cells slots (lw_Z below #[Value.ref b] s) (F0 m 673 ls []) := by
  obtain ⟨hx, hb, hr, hml, hown, hts, hX, hbl, hlocks, hgv⟩ := id C0
  have hown : s.vm.findClass RL = some m.cls := hown
  have hA : ∀ q : Nat, s.heap.size ≤ q → (fun q : Nat => s.heap.size ≤ q) q := fun _ h => h
  have hbA : ¬ (fun q : Nat => s.heap.size ≤ q) b := Nat.not_le.mpr hbl
  obtain ⟨tn, bn, un, bf, wf, Rw, Ex, Bl, Ul, Mw, fo, hIy, hRc, hEx, hbz, hBl, hUl, hM, hP, hD⟩ := hG
  have hKx := hK.sub (tys' := [(cI, .int), (cJ, .long), (cB, .byte), (cQ, .object RX0), (cV, .object RX5)]) [0, 1, 2, 3, 4] rfl
  have hKr := hK.sub (tys' := [(cI, .int), (cJ, .long), (cZ, .boolean)]) [0, 1, 5] rfl
  have hIy0 := hIy
  obtain ⟨htn, hbn, hun⟩ := hIy0
  refine lv_aload_n hx hb dL_law_673 rfl (lv_at hl 3 rfl) ?_
  refine lv_aload_n hx hb dL_law_674 rfl (lv_at hl 4 rfl) ?_
  refine lv_iload hx hb dL_law_675 (lv_at hl 0 rfl) ?_
  refine lv_iconst (v := 1) hx hb dL_law_677 (by decide) ?_
  refine lv_iadd hx hb dL_law_678 ?_
  refine lv_topi (fun x1 ex1 => ?_)
  obtain rfl : x1 = nI ((9 * n) + 1) := by rw [ex1]; exact nI_add (9 * n) (1)
  refine va_sld hx hb hX hbl hbA hS (vp_in_nI (show (9 * n) + 1 < L by omega) (by omega)) dL_law_679 ?_
  refine lv_topi (fun x2 ex2 => ?_)
  refine lv_aload_n hx hb dL_law_680 rfl (lv_at hl 4 rfl) ?_
  refine lv_iload hx hb dL_law_681 (lv_at hl 0 rfl) ?_
  refine lv_iconst (v := 2) hx hb dL_law_683 (by decide) ?_
  refine lv_iadd hx hb dL_law_684 ?_
  refine lv_topi (fun x3 ex3 => ?_)
  obtain rfl : x3 = nI ((9 * n) + 2) := by rw [ex3]; exact nI_add (9 * n) (2)
  refine va_sld hx hb hX hbl hbA hS (vp_in_nI (show (9 * n) + 2 < L by omega) (by omega)) dL_law_685 ?_
  refine lv_topi (fun x4 ex4 => ?_)
  have hBs : zBs (dC, dI) cI cJ cB bn bf H := hBl.bs (z_Pl (z_Pr (z_Pr (z_Pr hP))))
  have hUs : zUs (dC, dI) cI cJ cB un wf H := hUl.us (z_Pl (z_Pr (z_Pr (z_Pr (z_Pr hP)))))
  have hPx := z_Pp z_pU hP
  have hDx := z_Dp z_pU hD
  have hFc := z_Fl hDx hS hA
  refine va_calli (va_runV (As := [.int x2, .int x4]) (rest := []) ⟨hx, hb, hml, hown, hts⟩ (kX6_compile l dC dI xh tb xb xu rh cI cJ cB cQ cV tn bn un bf wf x2 x4 Ul hIy hUl H.size) (cwV 2 hts zgL_law_X6_compile_72 rfl rfl rfl (by decide +kernel) ⟨(show 5 + 1 ≤ 10 by omega), (show 8 + (6 + 11) + 121 ≤ 372 by omega)⟩) ⟨zfC, va_recv hKx (z_Pl hPx) (ci := 5) (q0 := 0) (q := (RX6, TX6, 7)) rfl rfl, fun U hU hW => ⟨rfl, by rw [hU], by rw [hU]; exact z_Pl hPx, va_K.moved hW.alike hKx, (z_Dl hDx).weaken (fun _ _ _ _ => trivial), zF.moved hW hE, by rw [hU]; exact hBs⟩⟩ rfl rfl hl.1 rfl (lv_room (Nat.le_of_ble_eq_true rfl)) dL_law_686 ⟨(show _ + 0 ≤ 601024 by omega), (show _ + 0 ≤ 7293034 by omega)⟩) hS (fun q _ h => hFc q h) hFc (fun r5 Ul2 t H1 locs ht hvm hw hB hz1 hk1 hS => ?_)
  obtain ⟨hP1, hK1, hD1⟩ := hB
  rw [ht] at hP1
  obtain ⟨hP, hD⟩ := z_Jn hPx hDx hk1 hFc hP1 hD1
  have hUl2 : zUl cI cJ cB un wf Ul2 := hw
  have hP : va_P (dC, dI) vwCl ((yW xh tb xb xu rh cI cJ cB cQ cV (nI tn) (nI bn) (nI un) bf wf) ++ (Rw ++ (Ex ++ (Bl.flatten ++ (Ul2.flatten ++ (Mw ++ [(ro, .inl (cJ, 1, .inr (.inl fo)))])))))) H1 := z_Pp z_pU.symm hP
  have hD : va_D (fun q : Nat => s.heap.size ≤ q) ((yW xh tb xb xu rh cI cJ cB cQ cV (nI tn) (nI bn) (nI un) bf wf) ++ (Rw ++ (Ex ++ (Bl.flatten ++ (Ul2.flatten ++ (Mw ++ [(ro, .inl (cJ, 1, .inr (.inl fo)))])))))) := z_Dp z_pU.symm hD
  refine lv_pop hx hb dL_law_689 rfl ?_
  refine lv_aload_n hx hb dL_law_690 rfl (lv_at hl 2 rfl) ?_
  refine lv_aload_n hx hb dL_law_691 rfl (lv_at hl 4 rfl) ?_
  refine lv_iload hx hb dL_law_692 (lv_at hl 0 rfl) ?_
  refine lv_iconst (v := 1) hx hb dL_law_694 (by decide) ?_
  refine lv_iadd hx hb dL_law_695 ?_
  refine lv_topi (fun x6 ex6 => ?_)
  obtain rfl : x6 = nI ((9 * n) + 1) := by rw [ex6]; exact nI_add (9 * n) (1)
  refine va_sld hx hb hX hbl hbA hS (vp_in_nI (show (9 * n) + 1 < L by omega) (by omega)) dL_law_696 ?_
  refine lv_topi (fun x7 ex7 => ?_)
  refine lv_aload_n hx hb dL_law_697 rfl (lv_at hl 4 rfl) ?_
  refine lv_iload hx hb dL_law_698 (lv_at hl 0 rfl) ?_
  refine lv_iconst (v := 2) hx hb dL_law_700 (by decide) ?_
  refine lv_iadd hx hb dL_law_701 ?_
  refine lv_topi (fun x8 ex8 => ?_)
  obtain rfl : x8 = nI ((9 * n) + 2) := by rw [ex8]; exact nI_add (9 * n) (2)
  refine va_sld hx hb hX hbl hbA hS (vp_in_nI (show (9 * n) + 2 < L by omega) (by omega)) dL_law_702 ?_
  refine lv_topi (fun x9 ex9 => ?_)
  have hPm := z_Pp z_pm hP
  have hDm := z_Dp z_pm hD
  obtain ⟨v0, a1, bs, cl, a5, a6, a7, fc, a9, mb, a11, a12, a13, a14, a15, a16, a17, a18, a19, a20, az, v22, v23, v24, v25, v26, bb, ct, a30, a31, a32, a33, a34, a35, a36, a37, pil, rwv, rl, v41, v42, v43, v44, v45, hIr, hO9, hC9, rfl⟩ := hM
  have hIr0 := hIr
  obtain ⟨ghtp, ghbs, ghus, ghcl, ghfc, ghmb, ghct, ghpil, ghrwv⟩ := hIr0
  have hFm := z_Fl hDm hS hA
  refine va_calli (va_runV (As := [.int x7, .int x9]) (rest := []) ⟨hx, hb, hml, hown, hts⟩ (kX7_compile l dC dI h0 r cI cJ cZ v0 a1 tn bs cl a5 a6 a7 fc a9 mb a11 a12 a13 a14 a15 a16 a17 a18 a19 a20 az v22 v23 v24 v25 v26 bb ct un a30 a31 a32 a33 a34 a35 a36 a37 pil rwv rl v41 v42 v43 v44 v45 hIr x7 x9 hO9 hC9 H1.size) (cwV 2 hts zgL_law_X7_compile_75 rfl rfl rfl (by decide +kernel) ⟨(show 5 + 1 ≤ 10 by omega), (show 8 + (4 + 11) + 130 ≤ 372 by omega)⟩) (zVm (ci := 6) (q0 := 0) (q := (RX7, TX7, 46)) hKr (z_Pl hPm) (z_Dl hDm) hL (fun q h1 h2 => hS.2.1 q h1 h2) hFm rfl rfl rfl) rfl rfl hl.1 rfl (lv_room (Nat.le_of_ble_eq_true rfl)) dL_law_703 ⟨(show _ + 0 ≤ 601024 by omega), (show _ + 0 ≤ 7293034 by omega)⟩) hS (fun q _ h => hFm q h) hFm (fun r10 u8 t H2 locs ht2 hvm2 hw2 hB2 hz2 hk2 hS => ?_)
  obtain ⟨y0_th, y1_rl2, y2_pil2, y3_rwv2, y4_b0, y5_b1, y6_b2, y7_lk, y8_cp2⟩ := u8
  obtain ⟨hP2, hK2, hD2⟩ := hB2
  rw [ht2] at hP2
  obtain ⟨hP, hD⟩ := z_Jn hPm hDm hk2 hFm hP2 hD2
  have hP := z_Pp z_pm.symm hP
  have hD := z_Dp z_pm.symm hD
  have hw2 : (∀ j, j < un → y8_cp2 j = -1 ∨ a30 j = 2) ∧ (∀ j, y2_pil2 j ≤ 15) ∧ (∀ j, y3_rwv2 j ≤ 15) := hw2
  obtain ⟨p0_, p1_, p2_⟩ := hw2
  refine lv_pop hx hb dL_law_706 rfl ?_
  have hG : zInv dC dI xh tb xb xu rh cI cJ cB cQ cV cZ h0 r ro (fun q : Nat => s.heap.size ≤ q) H2 := ⟨tn, bn, un, bf, wf, Rw, Ex, Bl, Ul2, _, fo, hIy, hRc, hEx, hbz, hBl, hUl2, ⟨y0_th, a1, bs, cl, a5, a6, a7, fc, a9, mb, a11, a12, a13, a14, a15, a16, a17, a18, a19, a20, az, v22, v23, v24, v25, v26, bb, ct, a30, a31, a32, a33, a34, a35, a36, y8_cp2, y2_pil2, y3_rwv2, y1_rl2, v41, y7_lk, y4_b0, y5_b1, y6_b2, ⟨(by omega), (by omega), (by omega), ghcl, ghfc, ghmb, ghct, p1_, p2_⟩, hO9, p0_, rfl⟩, hP, hD⟩
  refine lv_goto (tgt := 874) hx hb dL_law_707 (by decide) ?_
  refine W.widen (k := cells + 17) (n := slots + 1697) (by omega) (by omega) ?_
  exact kk _ _ _ hG hS (lv_sub hl [0, 1, 2, 3, 4] rfl)
theorem dL_law_846 : decode cL_law 846 = .ok (.aload_n 1, 1) := by decide +kernel
theorem dL_law_847 : decode cL_law 847 = .ok (.aload_n 0, 1) := by decide +kernel
theorem dL_law_848 : decode cL_law 848 = .ok (.iload 4, 2) := by decide +kernel
theorem dL_law_850 : decode cL_law 850 = .ok (.iconst 1, 1) := by decide +kernel
theorem dL_law_851 : decode cL_law 851 = .ok (.iadd, 1) := by decide +kernel
theorem dL_law_852 : decode cL_law 852 = .ok (.iaload, 1) := by decide +kernel
theorem dL_law_853 : decode cL_law 853 = .ok (.aload_n 3, 1) := by decide +kernel
theorem dL_law_854 : decode cL_law 854 = .ok (.invokestatic 92, 3) := by decide +kernel
theorem dL_law_857 : decode cL_law 857 = .ok (.istore 5, 2) := by decide +kernel
theorem dL_law_859 : decode cL_law 859 = .ok (.aload_n 2, 1) := by decide +kernel
theorem dL_law_860 : decode cL_law 860 = .ok (.aload_n 0, 1) := by decide +kernel
theorem dL_law_861 : decode cL_law 861 = .ok (.iload 4, 2) := by decide +kernel
theorem dL_law_863 : decode cL_law 863 = .ok (.iconst 1, 1) := by decide +kernel
theorem dL_law_864 : decode cL_law 864 = .ok (.iadd, 1) := by decide +kernel
theorem dL_law_865 : decode cL_law 865 = .ok (.iaload, 1) := by decide +kernel
theorem dL_law_866 : decode cL_law 866 = .ok (.invokevirtual 97, 3) := by decide +kernel
theorem dL_law_869 : decode cL_law 869 = .ok (.istore 6, 2) := by decide +kernel
theorem dL_law_871 : decode cL_law 871 = .ok (.goto 3, 3) := by decide +kernel
set_option maxHeartbeats 4000000 in
set_option maxRecDepth 100000 in
theorem zc_16 {p : Program} {l : Launch} {e : Env} {s : State} {m : MethodId} {below : List Frame} {meth : Method} {c : Code} {dC : Nat → ClassId} {dI : Nat → Nat → Nat} {b L : Nat} {xs : Nat → Int32} (C0 : lw_At p s m meth c b L xs) (hL9 : L ≤ 4608) (hE : zF s) (hL : zL (fun q : Nat => s.heap.size ≤ q) s s.heap) (hl9 : l.stackTraces = false) {sa sb : Nat} (hXs : zX sa sb s) (hZs : zZ (fun q : Nat => s.heap.size ≤ q) s s.heap) {xh tb xb xu rh : Nat} {cI cJ cB cQ cV cZ : ClassId} {h0 : Nat} {r : Nat → Nat} {ro : Nat} (hK : va_K (dC, dI) vwCl [(cI, .int), (cJ, .long), (cB, .byte), (cQ, .object RX0), (cV, .object RX5), (cZ, .boolean)] s) {n cells slots : Nat} (hn : 9 * n + 9 ≤ L) (hcc : cells + 17 ≤ 601024) (hss : slots + 1697 ≤ 7293034) {H : Heap} {locs : List Loc} (hG : zInv dC dI xh tb xb xu rh cI cJ cB cQ cV cZ h0 r ro (fun q : Nat => s.heap.size ≤ q) H) (hS : va_S (fun q : Nat => s.heap.size ≤ q) s.heap H locs) {ls : Array Slot} (hl : lv_has ls 7 [(4, .int (nI (9 * n))), (3, .ref ro), (2, .ref h0), (1, .ref xh), (0, .ref b)]) (kk : ∀ (H : Heap) (locs : List Loc) (ls : Array Slot), zInv dC dI xh tb xb xu rh cI cJ cB cQ cV cZ h0 r ro (fun q : Nat => s.heap.size ≤ q) H → va_S (fun q : Nat => s.heap.size ≤ q) s.heap H locs → lv_has ls 7 [(4, .int (nI (9 * n))), (3, .ref ro), (2, .ref h0), (1, .ref xh), (0, .ref b)] → W p l e room_1 s m #[Value.ref b] below meth c H locs (cells + 17) (slots + 1697) (lw_Z below #[Value.ref b] s) (F0 m 874 ls [])) : W p l e room_1 s m #[Value.ref b] below meth c H locs cells slots (lw_Z below #[Value.ref b] s) (F0 m 846 ls []) := by
  obtain ⟨hx, hb, hr, hml, hown, hts, hX, hbl, hlocks, hgv⟩ := id C0
  have hown : s.vm.findClass RL = some m.cls := hown
  have hA : ∀ q : Nat, s.heap.size ≤ q → (fun q : Nat => s.heap.size ≤ q) q := fun _ h => h
  have hbA : ¬ (fun q : Nat => s.heap.size ≤ q) b := Nat.not_le.mpr hbl
  obtain ⟨tn, bn, un, bf, wf, Rw, Ex, Bl, Ul, Mw, fo, hIy, hRc, hEx, hbz, hBl, hUl, hM, hP, hD⟩ := hG
  have hKx := hK.sub (tys' := [(cI, .int), (cJ, .long), (cB, .byte), (cQ, .object RX0), (cV, .object RX5)]) [0, 1, 2, 3, 4] rfl
  have hKr := hK.sub (tys' := [(cI, .int), (cJ, .long), (cZ, .boolean)]) [0, 1, 5] rfl
  have hIy0 := hIy
  obtain ⟨htn, hbn, hun⟩ := hIy0
  refine lv_aload_n hx hb dL_law_846 rfl (lv_at hl 3 rfl) ?_
  refine lv_aload_n hx hb dL_law_847 rfl (lv_at hl 4 rfl) ?_
  refine lv_iload hx hb dL_law_848 (lv_at hl 0 rfl) ?_
  refine lv_iconst (v := 1) hx hb dL_law_850 (by decide) ?_
  refine lv_iadd hx hb dL_law_851 ?_
  refine lv_topi (fun x1 ex1 => ?_)
  obtain rfl : x1 = nI ((9 * n) + 1) := by rw [ex1]; exact nI_add (9 * n) (1)
  refine va_sld hx hb hX hbl hbA hS (vp_in_nI (show (9 * n) + 1 < L by omega) (by omega)) dL_law_852 ?_
  refine lv_topi (fun x2 ex2 => ?_)
  refine lv_aload_n hx hb dL_law_853 rfl (lv_at hl 1 rfl) ?_
  have hBs : zBs (dC, dI) cI cJ cB bn bf H := hBl.bs (z_Pl (z_Pr (z_Pr (z_Pr hP))))
  have hUs : zUs (dC, dI) cI cJ cB un wf H := hUl.us (z_Pl (z_Pr (z_Pr (z_Pr (z_Pr hP)))))
  have hPo := z_Pp z_pO hP
  have hDo := z_Dp z_pO hD
  have hFo := z_Fl hDo hS hA
  refine va_calli (vx_runSW (hh := [(0, 9, 12, 13), (0, 9, 15, 15)]) (As := [.ref xh, .int x2, .ref ro]) (rest := []) ⟨hx, hb, hml, hown, hts⟩ (kL_share l hl9 dC dI xh tb xb xu rh cI cJ cB cQ cV tn bn un bf wf x2 ro fo hIy H.size sa sb) (vx_cwSW 3 hts zgL_law_L_share_92 rfl rfl rfl (by decide +kernel) ⟨(show 7 + 1 ≤ 10 by omega), (show 8 + (4 + 11) + 145 ≤ 372 by omega)⟩) (zSs hKx (z_Pl hP) hE hBs hUs hXs hZs (fun q h1 h2 => hS.2.1 q h1 h2) hFo (z_Pl hPo) (z_Dl hDo)) rfl rfl hl.1 rfl (lv_room (Nat.le_of_ble_eq_true rfl)) dL_law_854 ⟨(show _ + 1 ≤ 601024 by omega), (show _ + 6 ≤ 7293034 by omega)⟩) hS (fun q _ h => hFo q h) hFo (fun r1 fo2 t H1 locs ht hvm hw hB hz1 hk1 hS => ?_)
  obtain ⟨hP1, hK1, hD1⟩ := hB
  rw [ht] at hP1
  obtain ⟨hP, hD⟩ := z_Jn hPo hDo hk1 hFo hP1 hD1
  have hP := z_Pp z_pO.symm hP
  have hD := z_Dp z_pO.symm hD
  refine lv_istore (lv' := [(5, .int r1), (4, .int (nI (9 * n))), (3, .ref ro), (2, .ref h0), (1, .ref xh), (0, .ref b)]) hx hb dL_law_857 hl (by decide) rfl (fun ls hl => ?_)
  refine lv_aload_n hx hb dL_law_859 rfl (lv_at hl 3 rfl) ?_
  refine lv_aload_n hx hb dL_law_860 rfl (lv_at hl 5 rfl) ?_
  refine lv_iload hx hb dL_law_861 (lv_at hl 1 rfl) ?_
  refine lv_iconst (v := 1) hx hb dL_law_863 (by decide) ?_
  refine lv_iadd hx hb dL_law_864 ?_
  refine lv_topi (fun x3 ex3 => ?_)
  obtain rfl : x3 = nI ((9 * n) + 1) := by rw [ex3]; exact nI_add (9 * n) (1)
  refine va_sld hx hb hX hbl hbA hS (vp_in_nI (show (9 * n) + 1 < L by omega) (by omega)) dL_law_865 ?_
  refine lv_topi (fun x4 ex4 => ?_)
  have hPm := z_Pp z_pm hP
  have hDm := z_Dp z_pm hD
  obtain ⟨v0, a1, bs, cl, a5, a6, a7, fc, a9, mb, a11, a12, a13, a14, a15, a16, a17, a18, a19, a20, az, v22, v23, v24, v25, v26, bb, ct, a30, a31, a32, a33, a34, a35, a36, a37, pil, rwv, rl, v41, v42, v43, v44, v45, hIr, hO9, hC9, rfl⟩ := hM
  have hIr0 := hIr
  obtain ⟨ghtp, ghbs, ghus, ghcl, ghfc, ghmb, ghct, ghpil, ghrwv⟩ := hIr0
  have hFm := z_Fl hDm hS hA
  refine va_calli (va_runV (As := [.int x4]) (rest := []) ⟨hx, hb, hml, hown, hts⟩ (kX7_share l dC dI h0 r cI cJ cZ v0 a1 tn bs cl a5 a6 a7 fc a9 mb a11 a12 a13 a14 a15 a16 a17 a18 a19 a20 az v22 v23 v24 v25 v26 bb ct un a30 a31 a32 a33 a34 a35 a36 a37 pil rwv rl v41 v42 v43 v44 v45 hIr x4 hO9 H1.size) (cwV 1 hts zgL_law_X7_share_97 rfl rfl rfl (by decide +kernel) ⟨(show 5 + 1 ≤ 10 by omega), (show 8 + (5 + 11) + 130 ≤ 372 by omega)⟩) (zVm (ci := 6) (q0 := 0) (q := (RX7, TX7, 46)) hKr (z_Pl hPm) (z_Dl hDm) hL (fun q h1 h2 => hS.2.1 q h1 h2) hFm rfl rfl rfl) rfl rfl hl.1 rfl (lv_room (Nat.le_of_ble_eq_true rfl)) dL_law_866 ⟨(show _ + 0 ≤ 601024 by omega), (show _ + 0 ≤ 7293034 by omega)⟩) hS (fun q _ h => hFm q h) hFm (fun r5 u8 t H2 locs ht2 hvm2 hw2 hB2 hz2 hk2 hS => ?_)
  obtain ⟨y0_th, y1_rl2, y2_pil2, y3_rwv2, y4_b0, y5_b1, y6_b2, y7_lk⟩ := u8
  obtain ⟨hP2, hK2, hD2⟩ := hB2
  rw [ht2] at hP2
  obtain ⟨hP, hD⟩ := z_Jn hPm hDm hk2 hFm hP2 hD2
  have hP := z_Pp z_pm.symm hP
  have hD := z_Dp z_pm.symm hD
  have hw2 : (∀ j, y2_pil2 j ≤ 15) ∧ (∀ j, y3_rwv2 j ≤ 15) := hw2
  obtain ⟨p0_, p1_⟩ := hw2
  have hG : zInv dC dI xh tb xb xu rh cI cJ cB cQ cV cZ h0 r ro (fun q : Nat => s.heap.size ≤ q) H2 := ⟨tn, bn, un, bf, wf, Rw, Ex, Bl, Ul, _, fo2, hIy, hRc, hEx, hbz, hBl, hUl, ⟨y0_th, a1, bs, cl, a5, a6, a7, fc, a9, mb, a11, a12, a13, a14, a15, a16, a17, a18, a19, a20, az, v22, v23, v24, v25, v26, bb, ct, a30, a31, a32, a33, a34, a35, a36, a37, y2_pil2, y3_rwv2, y1_rl2, v41, y7_lk, y4_b0, y5_b1, y6_b2, ⟨(by omega), (by omega), (by omega), ghcl, ghfc, ghmb, ghct, p0_, p1_⟩, hO9, hC9, rfl⟩, hP, hD⟩
  refine lv_istore (lv' := [(6, .int r5), (5, .int r1), (4, .int (nI (9 * n))), (3, .ref ro), (2, .ref h0), (1, .ref xh), (0, .ref b)]) hx hb dL_law_869 hl (by decide) rfl (fun ls hl => ?_)
  refine lv_goto (tgt := 874) hx hb dL_law_871 (by decide) ?_
  refine W.widen (k := cells + 17) (n := slots + 1697) (by omega) (by omega) ?_
  exact kk _ _ _ hG hS (lv_sub hl [2, 3, 4, 5, 6] rfl)
