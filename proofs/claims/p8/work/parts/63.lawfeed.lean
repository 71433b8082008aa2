theorem dL_law_124 : decode cL_law 124 = .ok (.aload_n 1, 1) := by decide +kernel
theorem dL_law_125 : decode cL_law 125 = .ok (.aload_n 0, 1) := by decide +kernel
theorem dL_law_126 : decode cL_law 126 = .ok (.iload 4, 2) := by decide +kernel
theorem dL_law_128 : decode cL_law 128 = .ok (.iconst 1, 1) := by decide +kernel
theorem dL_law_129 : decode cL_law 129 = .ok (.iadd, 1) := by decide +kernel
theorem dL_law_130 : decode cL_law 130 = .ok (.iaload, 1) := by decide +kernel
theorem dL_law_131 : decode cL_law 131 = .ok (.i2l, 1) := by decide +kernel
theorem dL_law_132 : decode cL_law 132 = .ok (.bipush 32, 2) := by decide +kernel
theorem dL_law_134 : decode cL_law 134 = .ok (.lshl, 1) := by decide +kernel
theorem dL_law_135 : decode cL_law 135 = .ok (.aload_n 0, 1) := by decide +kernel
theorem dL_law_136 : decode cL_law 136 = .ok (.iload 4, 2) := by decide +kernel
theorem dL_law_138 : decode cL_law 138 = .ok (.iconst 2, 1) := by decide +kernel
theorem dL_law_139 : decode cL_law 139 = .ok (.iadd, 1) := by decide +kernel
theorem dL_law_140 : decode cL_law 140 = .ok (.iaload, 1) := by decide +kernel
theorem dL_law_141 : decode cL_law 141 = .ok (.i2l, 1) := by decide +kernel
theorem dL_law_142 : decode cL_law 142 = .ok (.ldc2_w 21, 3) := by decide +kernel
theorem dL_law_145 : decode cL_law 145 = .ok (.land, 1) := by decide +kernel
theorem dL_law_146 : decode cL_law 146 = .ok (.lor, 1) := by decide +kernel
theorem dL_law_147 : decode cL_law 147 = .ok (.aload_n 0, 1) := by decide +kernel
theorem dL_law_148 : decode cL_law 148 = .ok (.iload 4, 2) := by decide +kernel
theorem dL_law_150 : decode cL_law 150 = .ok (.iconst 3, 1) := by decide +kernel
theorem dL_law_151 : decode cL_law 151 = .ok (.iadd, 1) := by decide +kernel
theorem dL_law_152 : decode cL_law 152 = .ok (.iaload, 1) := by decide +kernel
theorem dL_law_153 : decode cL_law 153 = .ok (.invokevirtual 23, 3) := by decide +kernel
theorem dL_law_156 : decode cL_law 156 = .ok (.pop, 1) := by decide +kernel
theorem dL_law_157 : decode cL_law 157 = .ok (.aload_n 2, 1) := by decide +kernel
theorem dL_law_158 : decode cL_law 158 = .ok (.aload_n 0, 1) := by decide +kernel
theorem dL_law_159 : decode cL_law 159 = .ok (.iload 4, 2) := by decide +kernel
theorem dL_law_161 : decode cL_law 161 = .ok (.iconst 1, 1) := by decide +kernel
theorem dL_law_162 : decode cL_law 162 = .ok (.iadd, 1) := by decide +kernel
theorem dL_law_163 : decode cL_law 163 = .ok (.iaload, 1) := by decide +kernel
theorem dL_law_164 : decode cL_law 164 = .ok (.i2l, 1) := by decide +kernel
theorem dL_law_165 : decode cL_law 165 = .ok (.bipush 32, 2) := by decide +kernel
theorem dL_law_167 : decode cL_law 167 = .ok (.lshl, 1) := by decide +kernel
theorem dL_law_168 : decode cL_law 168 = .ok (.aload_n 0, 1) := by decide +kernel
theorem dL_law_169 : decode cL_law 169 = .ok (.iload 4, 2) := by decide +kernel
theorem dL_law_171 : decode cL_law 171 = .ok (.iconst 2, 1) := by decide +kernel
theorem dL_law_172 : decode cL_law 172 = .ok (.iadd, 1) := by decide +kernel
theorem dL_law_173 : decode cL_law 173 = .ok (.iaload, 1) := by decide +kernel
theorem dL_law_174 : decode cL_law 174 = .ok (.i2l, 1) := by decide +kernel
theorem dL_law_175 : decode cL_law 175 = .ok (.ldc2_w 21, 3) := by decide +kernel
theorem dL_law_178 : decode cL_law 178 = .ok (.land, 1) := by decide +kernel
theorem dL_law_179 : decode cL_law 179 = .ok (.lor, 1) := by decide +kernel
theorem dL_law_180 : decode cL_law 180 = .ok (.aload_n 0, 1) := by decide +kernel
theorem dL_law_181 : decode cL_law 181 = .ok (.iload 4, 2) := by decide +kernel
theorem dL_law_183 : decode cL_law 183 = .ok (.iconst 3, 1) := by decide +kernel
theorem dL_law_184 : decode cL_law 184 = .ok (.iadd, 1) := by decide +kernel
theorem dL_law_185 : decode cL_law 185 = .ok (.iaload, 1) := by decide +kernel
theorem dL_law_186 : decode cL_law 186 = .ok (.invokevirtual 27, 3) := by decide +kernel
theorem dL_law_189 : decode cL_law 189 = .ok (.pop, 1) := by decide +kernel
theorem dL_law_190 : decode cL_law 190 = .ok (.goto 684, 3) := by decide +kernel
set_option maxHeartbeats 4000000 in
set_option maxRecDepth 100000 in
theorem zc_0 {p : Program} {l : Launch} {e : Env} {s : State} {m : MethodId} {below : List Frame} {meth : Method} {c : Code} {dC : Nat → ClassId} {dI : Nat → Nat → Nat} {b L : Nat} {xs : Nat → Int32} (C0 : lw_At p s m meth c b L xs) (hL9 : L ≤ 4608) (hE : zF s) (hL : zL (fun q : Nat => s.heap.size ≤ q) s s.heap) (hl9 : l.stackTraces = false) {sa sb : Nat} (hXs : zX sa sb s) (hZs : zZ (fun q : Nat => s.heap.size ≤ q) s s.heap) {xh tb xb xu rh : Nat} {cI cJ cB cQ cV cZ : ClassId} {h0 : Nat} {r : Nat → Nat} {ro : Nat} (hK : va_K (dC, dI) vwCl [(cI, .int), (cJ, .long), (cB, .byte), (cQ, .object RX0), (cV, .object RX5), (cZ, .boolean)] s) {n cells slots : Nat} (hn : 9 * n + 9 ≤ L) (hcc : cells + 17 ≤ 601024) (hss : slots + 1697 ≤ 7293034) {H : Heap} {locs : List Loc} (hG : zInv dC dI xh tb xb xu rh cI cJ cB cQ cV cZ h0 r ro (fun q : Nat => s.heap.size ≤ q) H) (hS : va_S (fun q : Nat => s.heap.size ≤ q) s.heap H locs) {ls : Array Slot} (hl : lv_has ls 7 [(4, .int (nI (9 * n))), (3, .ref ro), (2, .ref h0), (1, .ref xh), (0, .ref b)]) (kk : ∀ (H : Heap) (locs : List Loc) (ls : Array Slot), zInv dC dI xh tb xb xu rh cI cJ cB cQ cV cZ h0 r ro (fun q : Nat => s.heap.size ≤ q) H → va_S (fun q : Nat => s.heap.size ≤ q) s.heap H locs → lv_has ls 7 [(4, .int (nI (9 * n))), (3, .ref ro), (2, .ref h0), (1, .ref xh), (0, .ref b)] → W p l e room_1 s m #[Value.ref b] below meth c H locs (cells + 17) (slots + 1697) (lw_Z below #[Value.ref b] s) (F0 m 874 ls [])) : W p l e room_1 s m #[Value.ref b] below meth c H locs cells slots (lw_Z below #[Value.ref b] s) (F0 m 124 ls []) := by
  obtain ⟨hx, hb, hr, hml, hown, hts, hX, hbl, hlocks, hgv⟩ := id C0
  have hown : s.vm.findClass RL = some m.cls := hown
  have hA : ∀ q : Nat, s.heap.size ≤ q → (fun q : Nat => s.heap.size ≤ q) q := fun _ h => h
  have hbA : ¬ (fun q : Nat => s.heap.size ≤ q) b := Nat.not_le.mpr hbl
  obtain ⟨tn, bn, un, bf, wf, Rw, Ex, Bl, Ul, Mw, fo, hIy, hRc, hEx, hbz, hBl, hUl, hM, hP, hD⟩ := hG
  have hKx := hK.sub (tys' := [(cI, .int), (cJ, .long), (cB, .byte), (cQ, .object RX0), (cV, .object RX5)]) [0, 1, 2, 3, 4] rfl
  have hKr := hK.sub (tys' := [(cI, .int), (cJ, .long), (cZ, .boolean)]) [0, 1, 5] rfl
  have hIy0 := hIy
  obtain ⟨htn, hbn, hun⟩ := hIy0
  refine lv_aload_n hx hb dL_law_124 rfl (lv_at hl 3 rfl) ?_
  refine lv_aload_n hx hb dL_law_125 rfl (lv_at hl 4 rfl) ?_
  refine lv_iload hx hb dL_law_126 (lv_at hl 0 rfl) ?_
  refine lv_iconst (v := 1) hx hb dL_law_128 (by decide) ?_
  refine lv_iadd hx hb dL_law_129 ?_
  refine lv_topi (fun x1 ex1 => ?_)
  obtain rfl : x1 = nI ((9 * n) + 1) := by rw [ex1]; exact nI_add (9 * n) (1)
  refine va_sld hx hb hX hbl hbA hS (vp_in_nI (show (9 * n) + 1 < L by omega) (by omega)) dL_law_130 ?_
  refine lv_topi (fun x2 ex2 => ?_)
  refine lv_i2l hx hb dL_law_131 rfl ?_
  refine lv_topl (fun x3 ex3 => ?_)
  refine lv_bipush (v := 32) hx hb dL_law_132 (by decide) ?_
  refine lv_lshl hx hb dL_law_134 rfl ?_
  refine lv_topl (fun x4 ex4 => ?_)
  refine lv_aload_n hx hb dL_law_135 rfl (lv_at hl 4 rfl) ?_
  refine lv_iload hx hb dL_law_136 (lv_at hl 0 rfl) ?_
  refine lv_iconst (v := 2) hx hb dL_law_138 (by decide) ?_
  refine lv_iadd hx hb dL_law_139 ?_
  refine lv_topi (fun x5 ex5 => ?_)
  obtain rfl : x5 = nI ((9 * n) + 2) := by rw [ex5]; exact nI_add (9 * n) (2)
  refine va_sld hx hb hX hbl hbA hS (vp_in_nI (show (9 * n) + 2 < L by omega) (by omega)) dL_law_140 ?_
  refine lv_topi (fun x6 ex6 => ?_)
  refine lv_i2l hx hb dL_law_141 rfl ?_
  refine lv_topl (fun x7 ex7 => ?_)
  refine lv_ldc2 (v := 4294967295) hx hb hown (hts (.constantLong RL 21 (4294967295)) (by decide +kernel)) dL_law_142 ?_
  refine lv_land hx hb dL_law_145 ?_
  refine lv_topl (fun x8 ex8 => ?_)
  refine lv_lor hx hb dL_law_146 ?_
  refine lv_topl (fun x9 ex9 => ?_)
  refine lv_aload_n hx hb dL_law_147 rfl (lv_at hl 4 rfl) ?_
  refine lv_iload hx hb dL_law_148 (lv_at hl 0 rfl) ?_
  refine lv_iconst (v := 3) hx hb dL_law_150 (by decide) ?_
  refine lv_iadd hx hb dL_law_151 ?_
  refine lv_topi (fun x10 ex10 => ?_)
  obtain rfl : x10 = nI ((9 * n) + 3) := by rw [ex10]; exact nI_add (9 * n) (3)
  refine va_sld hx hb hX hbl hbA hS (vp_in_nI (show (9 * n) + 3 < L by omega) (by omega)) dL_law_152 ?_
  refine lv_topi (fun x11 ex11 => ?_)
  obtain ⟨th, sh, rm, ry, rf, tl, ta, ts, so, tv, tpA, sw, st, sf, sq, hIq, rfl⟩ := hRc
  obtain ⟨htl, hta⟩ := hIq
  have hPx : va_P (dC, dI) vwCl ((xW xh tb xb xu rh th sh cI cJ cB cQ cV (nI tn) (nI bn) (nI un) bf wf rm ry rf (nI tl) (nI ta) ts so tv tpA sw st sf sq) ++ (Ex ++ (Bl.flatten ++ (Ul.flatten ++ (Mw ++ [(ro, .inl (cJ, 1, .inr (.inl fo)))]))))) H := hP
  have hDx : va_D (fun q : Nat => s.heap.size ≤ q) ((xW xh tb xb xu rh th sh cI cJ cB cQ cV (nI tn) (nI bn) (nI un) bf wf rm ry rf (nI tl) (nI ta) ts so tv tpA sw st sf sq) ++ (Ex ++ (Bl.flatten ++ (Ul.flatten ++ (Mw ++ [(ro, .inl (cJ, 1, .inr (.inl fo)))]))))) := hD
  have hFc := z_Fl hDx hS hA
  refine va_calli (va_runV (As := [.long x9, .int x11]) (rest := []) ⟨hx, hb, hml, hown, hts⟩ (kX6_feed l dC dI xh tb xb xu rh th sh cI cJ cB cQ cV tn bn un bf wf rm ry rf tl ta ts so tv tpA sw st sf sq ⟨by omega, by omega, by omega, by omega, by omega⟩ x9 x11 H.size) (cwV 2 hts zgL_law_X6_feed_23 rfl rfl rfl (by decide +kernel) ⟨(show 0 + 1 ≤ 10 by omega), (show 8 + (5 + 11) + 0 ≤ 372 by omega)⟩) (zVk (ci := 5) (q0 := 0) (q := (RX6, TX6, 7)) hKx (z_Pl hPx) (z_Dl hDx) hE rfl rfl rfl) rfl rfl hl.1 rfl (lv_room (Nat.le_of_ble_eq_true rfl)) dL_law_153 ⟨(show _ + 0 ≤ 601024 by omega), (show _ + 0 ≤ 7293034 by omega)⟩) hS (fun q _ h => hFc q h) hFc (fun r12 u9 t H1 locs ht hvm hw hB hz1 hk1 hS => ?_)
  obtain ⟨tn2, tp2⟩ := u9
  obtain ⟨hP1, hK1, hD1⟩ := hB
  rw [ht] at hP1
  obtain ⟨hP, hD⟩ := z_Jn hPx hDx hk1 hFc hP1 hD1
  obtain ⟨hw1, hf9⟩ := hw
  have hw1 : tn2 ≤ 800 := hw1
  have hP : va_P (dC, dI) vwCl ((yW xh tb xb xu rh cI cJ cB cQ cV (nI tn2) (nI bn) (nI un) bf wf) ++ ((rdW rh th tb sh cI cJ cB rm ry rf (nI tl) (nI ta) ts so tv tp2 sw st sf sq) ++ (Ex ++ (Bl.flatten ++ (Ul.flatten ++ (Mw ++ [(ro, .inl (cJ, 1, .inr (.inl fo)))])))))) H1 := hP
  have hD : va_D (fun q : Nat => s.heap.size ≤ q) ((yW xh tb xb xu rh cI cJ cB cQ cV (nI tn2) (nI bn) (nI un) bf wf) ++ ((rdW rh th tb sh cI cJ cB rm ry rf (nI tl) (nI ta) ts so tv tp2 sw st sf sq) ++ (Ex ++ (Bl.flatten ++ (Ul.flatten ++ (Mw ++ [(ro, .inl (cJ, 1, .inr (.inl fo)))])))))) := hD
  refine lv_pop hx hb dL_law_156 rfl ?_
  refine lv_aload_n hx hb dL_law_157 rfl (lv_at hl 2 rfl) ?_
  refine lv_aload_n hx hb dL_law_158 rfl (lv_at hl 4 rfl) ?_
  refine lv_iload hx hb dL_law_159 (lv_at hl 0 rfl) ?_
  refine lv_iconst (v := 1) hx hb dL_law_161 (by decide) ?_
  refine lv_iadd hx hb dL_law_162 ?_
  refine lv_topi (fun x13 ex13 => ?_)
  obtain rfl : x13 = nI ((9 * n) + 1) := by rw [ex13]; exact nI_add (9 * n) (1)
  refine va_sld hx hb hX hbl hbA hS (vp_in_nI (show (9 * n) + 1 < L by omega) (by omega)) dL_law_163 ?_
  refine lv_topi (fun x14 ex14 => ?_)
  refine lv_i2l hx hb dL_law_164 rfl ?_
  refine lv_topl (fun x15 ex15 => ?_)
  refine lv_bipush (v := 32) hx hb dL_law_165 (by decide) ?_
  refine lv_lshl hx hb dL_law_167 rfl ?_
  refine lv_topl (fun x16 ex16 => ?_)
  refine lv_aload_n hx hb dL_law_168 rfl (lv_at hl 4 rfl) ?_
  refine lv_iload hx hb dL_law_169 (lv_at hl 0 rfl) ?_
  refine lv_iconst (v := 2) hx hb dL_law_171 (by decide) ?_
  refine lv_iadd hx hb dL_law_172 ?_
  refine lv_topi (fun x17 ex17 => ?_)
  obtain rfl : x17 = nI ((9 * n) + 2) := by rw [ex17]; exact nI_add (9 * n) (2)
  refine va_sld hx hb hX hbl hbA hS (vp_in_nI (show (9 * n) + 2 < L by omega) (by omega)) dL_law_173 ?_
  refine lv_topi (fun x18 ex18 => ?_)
  refine lv_i2l hx hb dL_law_174 rfl ?_
  refine lv_topl (fun x19 ex19 => ?_)
  refine lv_ldc2 (v := 4294967295) hx hb hown (hts (.constantLong RL 21 (4294967295)) (by decide +kernel)) dL_law_175 ?_
  refine lv_land hx hb dL_law_178 ?_
  refine lv_topl (fun x20 ex20 => ?_)
  refine lv_lor hx hb dL_law_179 ?_
  refine lv_topl (fun x21 ex21 => ?_)
  refine lv_aload_n hx hb dL_law_180 rfl (lv_at hl 4 rfl) ?_
  refine lv_iload hx hb dL_law_181 (lv_at hl 0 rfl) ?_
  refine lv_iconst (v := 3) hx hb dL_law_183 (by decide) ?_
  refine lv_iadd hx hb dL_law_184 ?_
  refine lv_topi (fun x22 ex22 => ?_)
  obtain rfl : x22 = nI ((9 * n) + 3) := by rw [ex22]; exact nI_add (9 * n) (3)
  refine va_sld hx hb hX hbl hbA hS (vp_in_nI (show (9 * n) + 3 < L by omega) (by omega)) dL_law_185 ?_
  refine lv_topi (fun x23 ex23 => ?_)
  have hPm := z_Pp z_pm hP
  have hDm := z_Dp z_pm hD
  obtain ⟨v0, a1, bs, cl, a5, a6, a7, fc, a9, mb, a11, a12, a13, a14, a15, a16, a17, a18, a19, a20, az, v22, v23, v24, v25, v26, bb, ct, a30, a31, a32, a33, a34, a35, a36, a37, pil, rwv, rl, v41, v42, v43, v44, v45, hIr, hO9, hC9, rfl⟩ := hM
  have hIr0 := hIr
  obtain ⟨ghtp, ghbs, ghus, ghcl, ghfc, ghmb, ghct, ghpil, ghrwv⟩ := hIr0
  have hFm := z_Fl hDm hS hA
  refine va_calli (va_runV (As := [.long x21, .int x23]) (rest := []) ⟨hx, hb, hml, hown, hts⟩ (kX7_feed l dC dI h0 r cI cJ cZ v0 a1 tn bs cl a5 a6 a7 fc a9 mb a11 a12 a13 a14 a15 a16 a17 a18 a19 a20 az v22 v23 v24 v25 v26 bb ct un a30 a31 a32 a33 a34 a35 a36 a37 pil rwv rl v41 v42 v43 v44 v45 hIr x21 x23  H1.size) (cwV 2 hts zgL_law_X7_feed_27 rfl rfl rfl (by decide +kernel) ⟨(show 1 + 1 ≤ 10 by omega), (show 8 + (5 + 11) + 25 ≤ 372 by omega)⟩) (zVm (ci := 6) (q0 := 0) (q := (RX7, TX7, 46)) hKr (z_Pl hPm) (z_Dl hDm) hL (fun q h1 h2 => hS.2.1 q h1 h2) hFm rfl rfl rfl) rfl rfl hl.1 rfl (lv_room (Nat.le_of_ble_eq_true rfl)) dL_law_186 ⟨(show _ + 0 ≤ 601024 by omega), (show _ + 0 ≤ 7293034 by omega)⟩) hS (fun q _ h => hFm q h) hFm (fun r24 u8 t H2 locs ht2 hvm2 hw2 hB2 hz2 hk2 hS => ?_)
  obtain ⟨y0_th, y1_tp2, y2_t2⟩ := u8
  obtain ⟨hP2, hK2, hD2⟩ := hB2
  rw [ht2] at hP2
  obtain ⟨hP, hD⟩ := z_Jn hPm hDm hk2 hFm hP2 hD2
  have hP := z_Pp z_pm.symm hP
  have hD := z_Dp z_pm.symm hD
  have hw2 : (y1_tp2 ≤ 800) ∧ (((¬ ∃ nn, 1 ≤ nn ∧ nn ≤ 8 ∧ x23 = nI nn) ∧ r24 = -3 ∧ y1_tp2 = tn) ∨ ∃ nn, 1 ≤ nn ∧ nn ≤ 8 ∧ x23 = nI nn ∧ ((800 < tn + nn ∧ r24 = -5 ∧ y1_tp2 = tn) ∨ (tn + nn ≤ 800 ∧ r24 = nI (tn + nn) ∧ y1_tp2 = tn + nn))) := hw2
  obtain ⟨p0_, p1_⟩ := hw2
  have hf9 : zFd tn x11 r12 tn2 := hf9
  have hxx : x23 = x11 := ex23.trans ex11.symm
  have hf8 : zFd tn x23 r24 y1_tp2 := p1_
  rw [hxx] at hf8
  obtain ⟨hz1, hz2⟩ := zFd.uniq hf9 hf8
  subst hz2
  refine lv_pop hx hb dL_law_189 rfl ?_
  have hG : zInv dC dI xh tb xb xu rh cI cJ cB cQ cV cZ h0 r ro (fun q : Nat => s.heap.size ≤ q) H2 := ⟨tn2, bn, un, bf, wf, _, Ex, Bl, Ul, _, fo, ⟨by omega, by omega, by omega⟩, ⟨th, sh, rm, ry, rf, tl, ta, ts, so, tv, tp2, sw, st, sf, sq, ⟨by omega, by omega⟩, rfl⟩, hEx, hbz, hBl, hUl, ⟨y0_th, y2_t2, bs, cl, a5, a6, a7, fc, a9, mb, a11, a12, a13, a14, a15, a16, a17, a18, a19, a20, az, v22, v23, v24, v25, v26, bb, ct, a30, a31, a32, a33, a34, a35, a36, a37, pil, rwv, rl, v41, v42, v43, v44, v45, ⟨(by omega), (by omega), (by omega), ghcl, ghfc, ghmb, ghct, ghpil, ghrwv⟩, hO9, hC9, rfl⟩, hP, hD⟩
  refine lv_goto (tgt := 874) hx hb dL_law_190 (by decide) ?_
  refine W.widen (k := cells + 17) (n := slots + 1697) (by omega) (by omega) ?_
  exact kk _ _ _ hG hS (lv_sub hl [0, 1, 2, 3, 4] rfl)
theorem dL_law_193 : decode cL_law 193 = .ok (.aload_n 1, 1) := by decide +kernel
theorem dL_law_194 : decode cL_law 194 = .ok (.invokevirtual 28, 3) := by decide +kernel
theorem dL_law_197 : decode cL_law 197 = .ok (.pop, 1) := by decide +kernel
theorem dL_law_198 : decode cL_law 198 = .ok (.aload_n 2, 1) := by decide +kernel
theorem dL_law_199 : decode cL_law 199 = .ok (.invokevirtual 32, 3) := by decide +kernel
theorem dL_law_202 : decode cL_law 202 = .ok (.pop, 1) := by decide +kernel
theorem dL_law_203 : decode cL_law 203 = .ok (.goto 671, 3) := by decide +kernel
set_option maxHeartbeats 4000000 in
set_option maxRecDepth 100000 in
theorem zc_1 {p : Program} {l : Launch} {e : Env} {s : State} {m : MethodId} {below : List Frame} {meth : Method} {c : Code} {dC : Nat → ClassId} {dI : Nat → Nat → Nat} {b L : Nat} {xs : Nat → Int32} (C0 : lw_At p s m meth c b L xs) (hL9 : L ≤ 4608) (hE : zF s) (hL : zL (fun q : Nat => s.heap.size ≤ q) s s.heap) (hl9 : l.stackTraces = false) {sa sb : Nat} (hXs : zX sa sb s) (hZs : zZ (fun q : Nat => s.heap.size ≤ q) s s.heap) {xh tb xb xu rh : Nat} {cI cJ cB cQ cV cZ : ClassId} {h0 : Nat} {r : Nat → Nat} {ro : Nat} (hK : va_K (dC, dI) vwCl [(cI, .int), (cJ, .long), (cB, .byte), (cQ, .object RX0), (cV, .object RX5), (cZ, .boolean)] s) {n cells slots : Nat} (hn : 9 * n + 9 ≤ L) (hcc : cells + 17 ≤ 601024) (hss : slots + 1697 ≤ 7293034) {H : Heap} {locs : List Loc} (hG : zInv dC dI xh tb xb xu rh cI cJ cB cQ cV cZ h0 r ro (fun q : Nat => s.heap.size ≤ q) H) (hS : va_S (fun q : Nat => s.heap.size ≤ q) s.heap H locs) {ls : Array Slot} (hl : lv_has ls 7 [(4, .int (nI (9 * n))), (3, .ref ro), (2, .ref h0), (1, .ref xh), (0, .ref b)]) (kk : ∀ (H : Heap) (locs : List Loc) (ls : Array Slot), zInv dC dI xh tb xb xu rh cI cJ cB cQ cV cZ h0 r ro (fun q : Nat => s.heap.size ≤ q) H → va_S (fun q : Nat => s.heap.size ≤ q) s.heap H locs → lv_has ls 7 [(4, .int (nI (9 * n))), (3, .ref ro), (2, .ref h0), (1, .ref xh), (0, .ref b)] → W p l e room_1 s m #[Value.ref b] below meth c H locs (cells + 17) (slots + 1697) (lw_Z below #[Value.ref b] s) (F0 m 874 ls [])) : W p l e room_1 s m #[Value.ref b] below meth c H locs cells slots (lw_Z below #[Value.ref b] s) (F0 m 193 ls []) := by
  obtain ⟨hx, hb, hr, hml, hown, hts, hX, hbl, hlocks, hgv⟩ := id C0
  have hown : s.vm.findClass RL = some m.cls := hown
  have hA : ∀ q : Nat, s.heap.size ≤ q → (fun q : Nat => s.heap.size ≤ q) q := fun _ h => h
  have hbA : ¬ (fun q : Nat => s.heap.size ≤ q) b := Nat.not_le.mpr hbl
  obtain ⟨tn, bn, un, bf, wf, Rw, Ex, Bl, Ul, Mw, fo, hIy, hRc, hEx, hbz, hBl, hUl, hM, hP, hD⟩ := hG
  have hKx := hK.sub (tys' := [(cI, .int), (cJ, .long), (cB, .byte), (cQ, .object RX0), (cV, .object RX5)]) [0, 1, 2, 3, 4] rfl
  have hKr := hK.sub (tys' := [(cI, .int), (cJ, .long), (cZ, .boolean)]) [0, 1, 5] rfl
  have hIy0 := hIy
  obtain ⟨htn, hbn, hun⟩ := hIy0
  refine lv_aload_n hx hb dL_law_193 rfl (lv_at hl 3 rfl) ?_
  have hPx : va_P (dC, dI) vwCl (((yW xh tb xb xu rh cI cJ cB cQ cV (nI tn) (nI bn) (nI un) bf wf) ++ (Rw ++ Ex)) ++ (Bl.flatten ++ (Ul.flatten ++ (Mw ++ [(ro, .inl (cJ, 1, .inr (.inl fo)))])))) H := by rw [List.append_assoc, List.append_assoc]; exact hP
  have hDx : va_D (fun q : Nat => s.heap.size ≤ q) (((yW xh tb xb xu rh cI cJ cB cQ cV (nI tn) (nI bn) (nI un) bf wf) ++ (Rw ++ Ex)) ++ (Bl.flatten ++ (Ul.flatten ++ (Mw ++ [(ro, .inl (cJ, 1, .inr (.inl fo)))])))) := by rw [List.append_assoc, List.append_assoc]; exact hD
  have hFc := z_Fl hDx hS hA
  refine va_calli (va_runV (As := []) (rest := []) ⟨hx, hb, hml, hown, hts⟩ (kX6_build l dC dI xh tb xb xu rh cI cJ cB cQ cV tn bn un bf wf Rw Ex hIy hRc hEx H.size) (cwV 0 hts zgL_law_X6_build_28 rfl rfl rfl (by decide +kernel) ⟨(show 6 + 1 ≤ 10 by omega), (show 8 + (3 + 11) + 131 ≤ 372 by omega)⟩) ⟨zfE, va_recv hKx (z_Pl hPx) (ci := 5) (q0 := 0) (q := (RX6, TX6, 7)) rfl rfl, fun U hU hW => ⟨rfl, by rw [hU], by rw [hU]; exact z_Pl hPx, va_K.moved hW.alike hKx, (z_Dl hDx).weaken (fun _ _ _ _ => trivial), zF.moved hW hE⟩⟩ rfl rfl hl.1 rfl (lv_room (Nat.le_of_ble_eq_true rfl)) dL_law_194 ⟨(show _ + 17 ≤ 601024 by omega), (show _ + 1697 ≤ 7293034 by omega)⟩) hS (fun q _ h => hFc q h) hFc (fun r1 u9 t H1 locs ht hvm hw hB hz1 hk1 hS => ?_)
  obtain ⟨bn2, bf2, Rw2, Ex2⟩ := u9
  obtain ⟨hP1, hK1, hD1⟩ := hB
  rw [ht] at hP1
  obtain ⟨hP, hD⟩ := z_Jn hPx hDx hk1 hFc hP1 hD1
  obtain ⟨hb5, hbf2, hRc2, hcase⟩ := hw
  have hb5 : bn2 ≤ 5 := hb5
  have hbf2 : ∀ j, j ≠ bn → bf2 j = bf j := hbf2
  have hRc2 : zRc cI cJ cB rh tb Rw2 := hRc2
  have hcase : (bn2 = bn ∧ zEx cI cJ cB bf2 bn Ex2) ∨ (bn2 = bn + 1 ∧ ∃ bh : Nat, bf2 bn = some bh ∧ zBc cI cJ cB bh Ex2) := hcase
  have hP : va_P (dC, dI) vwCl (((yW xh tb xb xu rh cI cJ cB cQ cV (nI 0) (nI bn2) (nI un) bf2 wf) ++ (Rw2 ++ Ex2)) ++ (Bl.flatten ++ (Ul.flatten ++ (Mw ++ [(ro, .inl (cJ, 1, .inr (.inl fo)))])))) H1 := hP
  have hD : va_D (fun q : Nat => s.heap.size ≤ q) (((yW xh tb xb xu rh cI cJ cB cQ cV (nI 0) (nI bn2) (nI un) bf2 wf) ++ (Rw2 ++ Ex2)) ++ (Bl.flatten ++ (Ul.flatten ++ (Mw ++ [(ro, .inl (cJ, 1, .inr (.inl fo)))])))) := hD
  have hP9 := hP
  have hD9 := hD
  obtain ⟨Ex3, Bl3, hEx3, hbz3, hBl3, hP, hD⟩ : ∃ (Ex3 : va_W) (Bl3 : List va_W), zEx cI cJ cB bf2 bn2 Ex3 ∧ (∀ j, bn2 < j → bf2 j = none) ∧ zBl cI cJ cB bn2 bf2 Bl3 ∧ va_P (dC, dI) vwCl ((yW xh tb xb xu rh cI cJ cB cQ cV (nI 0) (nI bn2) (nI un) bf2 wf) ++ (Rw2 ++ (Ex3 ++ (Bl3.flatten ++ (Ul.flatten ++ (Mw ++ [(ro, .inl (cJ, 1, .inr (.inl fo)))])))))) H1 ∧ va_D (fun q : Nat => s.heap.size ≤ q) ((yW xh tb xb xu rh cI cJ cB cQ cV (nI 0) (nI bn2) (nI un) bf2 wf) ++ (Rw2 ++ (Ex3 ++ (Bl3.flatten ++ (Ul.flatten ++ (Mw ++ [(ro, .inl (cJ, 1, .inr (.inl fo)))])))))) := by
    rcases hcase with ⟨rfl, h7⟩ | ⟨rfl, bh, h7, h8⟩
    · exact ⟨Ex2, Bl, h7, fun j hj => (hbf2 j (by omega)).trans (hbz j hj), hBl.same hbf2, by rw [List.append_assoc, List.append_assoc] at hP9; exact hP9, by rw [List.append_assoc, List.append_assoc] at hD9; exact hD9⟩
    · exact ⟨[], Bl ++ [Ex2], Or.inl ⟨rfl, (hbf2 (bn + 1) (by omega)).trans (hbz (bn + 1) (by omega))⟩, fun j hj => (hbf2 j (by omega)).trans (hbz j (by omega)), hBl.push hbf2 h7 h8, by rw [z_f1]; exact z_Pp z_pB hP9, by rw [z_f1]; exact z_Dp z_pB hD9⟩
  refine lv_pop hx hb dL_law_197 rfl ?_
  refine lv_aload_n hx hb dL_law_198 rfl (lv_at hl 2 rfl) ?_
  have hPm := z_Pp z_pm hP
  have hDm := z_Dp z_pm hD
  obtain ⟨v0, a1, bs, cl, a5, a6, a7, fc, a9, mb, a11, a12, a13, a14, a15, a16, a17, a18, a19, a20, az, v22, v23, v24, v25, v26, bb, ct, a30, a31, a32, a33, a34, a35, a36, a37, pil, rwv, rl, v41, v42, v43, v44, v45, hIr, hO9, hC9, rfl⟩ := hM
  have hIr0 := hIr
  obtain ⟨ghtp, ghbs, ghus, ghcl, ghfc, ghmb, ghct, ghpil, ghrwv⟩ := hIr0
  have hFm := z_Fl hDm hS hA
  refine va_calli (va_runV (As := []) (rest := []) ⟨hx, hb, hml, hown, hts⟩ (kX7_build l dC dI h0 r cI cJ cZ v0 a1 tn bs cl a5 a6 a7 fc a9 mb a11 a12 a13 a14 a15 a16 a17 a18 a19 a20 az v22 v23 v24 v25 v26 bb ct un a30 a31 a32 a33 a34 a35 a36 a37 pil rwv rl v41 v42 v43 v44 v45 hIr  hO9 H1.size) (cwV 0 hts zgL_law_X7_build_32 rfl rfl rfl (by decide +kernel) ⟨(show 6 + 1 ≤ 10 by omega), (show 8 + (2 + 11) + 140 ≤ 372 by omega)⟩) (zVm (ci := 6) (q0 := 0) (q := (RX7, TX7, 46)) hKr (z_Pl hPm) (z_Dl hDm) hL (fun q h1 h2 => hS.2.1 q h1 h2) hFm rfl rfl rfl) rfl rfl hl.1 rfl (lv_room (Nat.le_of_ble_eq_true rfl)) dL_law_199 ⟨(show _ + 0 ≤ 601024 by omega), (show _ + 0 ≤ 7293034 by omega)⟩) hS (fun q _ h => hFm q h) hFm (fun r2 u8 t H2 locs ht2 hvm2 hw2 hB2 hz2 hk2 hS => ?_)
  obtain ⟨y0_tp2, y1_bs2, y2_th, y3_bq, y4_cl2, y5_i2, y6_tk, y7_ta, y8_vl, y9_fo, y10_fp, y11_d1, y12_d2, y13_d3, y14_fc2, y15_d4, y16_b7, y17_b8, y18_b1, y19_b2, y20_b3, y21_b4, y22_b5, y23_b6, y24_mb2, y25_ct2, y26_e2, y27_o2⟩ := u8
  obtain ⟨hP2, hK2, hD2⟩ := hB2
  rw [ht2] at hP2
  obtain ⟨hP, hD⟩ := z_Jn hPm hDm hk2 hFm hP2 hD2
  have hP := z_Pp z_pm.symm hP
  have hD := z_Dp z_pm.symm hD
  have hw2 : (y0_tp2 = 0) ∧ (y1_bs2 ≤ 5) ∧ (∀ bd, bd < y1_bs2 → zOK y4_cl2 y11_d1 y13_d3 y14_fc2 y15_d4 y26_e2 bd) ∧ (∀ j, y4_cl2 j ≤ 16) ∧ (∀ j, j ≠ bs → y4_cl2 j = cl j) ∧ (∀ j, j < 16 * bs → y11_d1 j = a5 j) ∧ (∀ j, j < 16 * bs → y13_d3 j = a7 j) ∧ (∀ j, y14_fc2 j ≤ 3) ∧ (∀ j, j < 16 * bs → y14_fc2 j = fc j) ∧ (∀ j, j < 48 * bs → y15_d4 j = a9 j) ∧ (∀ j, y24_mb2 j ≤ 12) ∧ (∀ j, y25_ct2 j ≤ 65535) ∧ (∀ j, j < 16 * bs → y26_e2 j = a11 j) := hw2
  obtain ⟨p0_, p1_, p2_, p3_, p4_, p5_, p6_, p7_, p8_, p9_, p10_, p11_, p12_⟩ := hw2
  refine lv_pop hx hb dL_law_202 rfl ?_
  obtain rfl : y0_tp2 = 0 := p0_
  have hG : zInv dC dI xh tb xb xu rh cI cJ cB cQ cV cZ h0 r ro (fun q : Nat => s.heap.size ≤ q) H2 := ⟨0, bn2, un, bf2, wf, Rw2, Ex3, Bl3, Ul, _, fo, ⟨by omega, by omega, by omega⟩, hRc2, hEx3, hbz3, hBl3, hUl, ⟨y2_th, a1, y1_bs2, y4_cl2, y11_d1, y12_d2, y13_d3, y14_fc2, y15_d4, y24_mb2, y26_e2, y27_o2, y16_b7, y17_b8, y20_b3, y18_b1, y19_b2, y21_b4, y22_b5, y23_b6, y5_i2, y6_tk, y7_ta, y8_vl, y9_fo, y10_fp, y3_bq, y25_ct2, a30, a31, a32, a33, a34, a35, a36, a37, pil, rwv, rl, v41, v42, v43, v44, v45, ⟨(by omega), p1_, (by omega), p3_, p7_, p10_, p11_, ghpil, ghrwv⟩, p2_, hC9, rfl⟩, hP, hD⟩
  refine lv_goto (tgt := 874) hx hb dL_law_203 (by decide) ?_
  refine W.widen (k := cells + 17) (n := slots + 1697) (by omega) (by omega) ?_
  exact kk _ _ _ hG hS (lv_sub hl [0, 1, 2, 3, 4] rfl)
theorem dL_law_366 : decode cL_law 366 = .ok (.aload_n 1, 1) := by decide +kernel
theorem dL_law_367 : decode cL_law 367 = .ok (.aload_n 0, 1) := by decide +kernel
theorem dL_law_368 : decode cL_law 368 = .ok (.iload 4, 2) := by decide +kernel
theorem dL_law_370 : decode cL_law 370 = .ok (.iconst 1, 1) := by decide +kernel
theorem dL_law_371 : decode cL_law 371 = .ok (.iadd, 1) := by decide +kernel
theorem dL_law_372 : decode cL_law 372 = .ok (.iaload, 1) := by decide +kernel
theorem dL_law_373 : decode cL_law 373 = .ok (.aload_n 0, 1) := by decide +kernel
theorem dL_law_374 : decode cL_law 374 = .ok (.iload 4, 2) := by decide +kernel
theorem dL_law_376 : decode cL_law 376 = .ok (.iconst 2, 1) := by decide +kernel
theorem dL_law_377 : decode cL_law 377 = .ok (.iadd, 1) := by decide +kernel
theorem dL_law_378 : decode cL_law 378 = .ok (.iaload, 1) := by decide +kernel
theorem dL_law_379 : decode cL_law 379 = .ok (.aload_n 0, 1) := by decide +kernel
theorem dL_law_380 : decode cL_law 380 = .ok (.iload 4, 2) := by decide +kernel
theorem dL_law_382 : decode cL_law 382 = .ok (.iconst 3, 1) := by decide +kernel
theorem dL_law_383 : decode cL_law 383 = .ok (.iadd, 1) := by decide +kernel
theorem dL_law_384 : decode cL_law 384 = .ok (.iaload, 1) := by decide +kernel
theorem dL_law_385 : decode cL_law 385 = .ok (.aload_n 0, 1) := by decide +kernel
theorem dL_law_386 : decode cL_law 386 = .ok (.iload 4, 2) := by decide +kernel
theorem dL_law_388 : decode cL_law 388 = .ok (.iconst 4, 1) := by decide +kernel
theorem dL_law_389 : decode cL_law 389 = .ok (.iadd, 1) := by decide +kernel
theorem dL_law_390 : decode cL_law 390 = .ok (.iaload, 1) := by decide +kernel
theorem dL_law_391 : decode cL_law 391 = .ok (.i2l, 1) := by decide +kernel
theorem dL_law_392 : decode cL_law 392 = .ok (.bipush 32, 2) := by decide +kernel
theorem dL_law_394 : decode cL_law 394 = .ok (.lshl, 1) := by decide +kernel
theorem dL_law_395 : decode cL_law 395 = .ok (.aload_n 0, 1) := by decide +kernel
theorem dL_law_396 : decode cL_law 396 = .ok (.iload 4, 2) := by decide +kernel
theorem dL_law_398 : decode cL_law 398 = .ok (.iconst 5, 1) := by decide +kernel
theorem dL_law_399 : decode cL_law 399 = .ok (.iadd, 1) := by decide +kernel
theorem dL_law_400 : decode cL_law 400 = .ok (.iaload, 1) := by decide +kernel
theorem dL_law_401 : decode cL_law 401 = .ok (.i2l, 1) := by decide +kernel
theorem dL_law_402 : decode cL_law 402 = .ok (.ldc2_w 21, 3) := by decide +kernel
theorem dL_law_405 : decode cL_law 405 = .ok (.land, 1) := by decide +kernel
theorem dL_law_406 : decode cL_law 406 = .ok (.lor, 1) := by decide +kernel
theorem dL_law_407 : decode cL_law 407 = .ok (.aload_n 0, 1) := by decide +kernel
theorem dL_law_408 : decode cL_law 408 = .ok (.iload 4, 2) := by decide +kernel
theorem dL_law_410 : decode cL_law 410 = .ok (.bipush 6, 2) := by decide +kernel
theorem dL_law_412 : decode cL_law 412 = .ok (.iadd, 1) := by decide +kernel
theorem dL_law_413 : decode cL_law 413 = .ok (.iaload, 1) := by decide +kernel
theorem dL_law_414 : decode cL_law 414 = .ok (.aload_n 0, 1) := by decide +kernel
theorem dL_law_415 : decode cL_law 415 = .ok (.iload 4, 2) := by decide +kernel
theorem dL_law_417 : decode cL_law 417 = .ok (.bipush 7, 2) := by decide +kernel
theorem dL_law_419 : decode cL_law 419 = .ok (.iadd, 1) := by decide +kernel
theorem dL_law_420 : decode cL_law 420 = .ok (.iaload, 1) := by decide +kernel
theorem dL_law_421 : decode cL_law 421 = .ok (.aload_n 0, 1) := by decide +kernel
theorem dL_law_422 : decode cL_law 422 = .ok (.iload 4, 2) := by decide +kernel
theorem dL_law_424 : decode cL_law 424 = .ok (.bipush 8, 2) := by decide +kernel
theorem dL_law_426 : decode cL_law 426 = .ok (.iadd, 1) := by decide +kernel
theorem dL_law_427 : decode cL_law 427 = .ok (.iaload, 1) := by decide +kernel
theorem dL_law_428 : decode cL_law 428 = .ok (.invokevirtual 51, 3) := by decide +kernel
theorem dL_law_431 : decode cL_law 431 = .ok (.aload_n 2, 1) := by decide +kernel
theorem dL_law_432 : decode cL_law 432 = .ok (.aload_n 0, 1) := by decide +kernel
theorem dL_law_433 : decode cL_law 433 = .ok (.iload 4, 2) := by decide +kernel
theorem dL_law_435 : decode cL_law 435 = .ok (.iconst 1, 1) := by decide +kernel
theorem dL_law_436 : decode cL_law 436 = .ok (.iadd, 1) := by decide +kernel
theorem dL_law_437 : decode cL_law 437 = .ok (.iaload, 1) := by decide +kernel
theorem dL_law_438 : decode cL_law 438 = .ok (.aload_n 0, 1) := by decide +kernel
theorem dL_law_439 : decode cL_law 439 = .ok (.iload 4, 2) := by decide +kernel
theorem dL_law_441 : decode cL_law 441 = .ok (.iconst 2, 1) := by decide +kernel
theorem dL_law_442 : decode cL_law 442 = .ok (.iadd, 1) := by decide +kernel
theorem dL_law_443 : decode cL_law 443 = .ok (.iaload, 1) := by decide +kernel
theorem dL_law_444 : decode cL_law 444 = .ok (.aload_n 0, 1) := by decide +kernel
theorem dL_law_445 : decode cL_law 445 = .ok (.iload 4, 2) := by decide +kernel
theorem dL_law_447 : decode cL_law 447 = .ok (.iconst 3, 1) := by decide +kernel
theorem dL_law_448 : decode cL_law 448 = .ok (.iadd, 1) := by decide +kernel
theorem dL_law_449 : decode cL_law 449 = .ok (.iaload, 1) := by decide +kernel
theorem dL_law_450 : decode cL_law 450 = .ok (.aload_n 0, 1) := by decide +kernel
theorem dL_law_451 : decode cL_law 451 = .ok (.iload 4, 2) := by decide +kernel
theorem dL_law_453 : decode cL_law 453 = .ok (.iconst 4, 1) := by decide +kernel
theorem dL_law_454 : decode cL_law 454 = .ok (.iadd, 1) := by decide +kernel
theorem dL_law_455 : decode cL_law 455 = .ok (.iaload, 1) := by decide +kernel
theorem dL_law_456 : decode cL_law 456 = .ok (.i2l, 1) := by decide +kernel
theorem dL_law_457 : decode cL_law 457 = .ok (.bipush 32, 2) := by decide +kernel
theorem dL_law_459 : decode cL_law 459 = .ok (.lshl, 1) := by decide +kernel
theorem dL_law_460 : decode cL_law 460 = .ok (.aload_n 0, 1) := by decide +kernel
theorem dL_law_461 : decode cL_law 461 = .ok (.iload 4, 2) := by decide +kernel
theorem dL_law_463 : decode cL_law 463 = .ok (.iconst 5, 1) := by decide +kernel
theorem dL_law_464 : decode cL_law 464 = .ok (.iadd, 1) := by decide +kernel
theorem dL_law_465 : decode cL_law 465 = .ok (.iaload, 1) := by decide +kernel
theorem dL_law_466 : decode cL_law 466 = .ok (.i2l, 1) := by decide +kernel
theorem dL_law_467 : decode cL_law 467 = .ok (.ldc2_w 21, 3) := by decide +kernel
theorem dL_law_470 : decode cL_law 470 = .ok (.land, 1) := by decide +kernel
theorem dL_law_471 : decode cL_law 471 = .ok (.lor, 1) := by decide +kernel
theorem dL_law_472 : decode cL_law 472 = .ok (.aload_n 0, 1) := by decide +kernel
theorem dL_law_473 : decode cL_law 473 = .ok (.iload 4, 2) := by decide +kernel
theorem dL_law_475 : decode cL_law 475 = .ok (.bipush 6, 2) := by decide +kernel
theorem dL_law_477 : decode cL_law 477 = .ok (.iadd, 1) := by decide +kernel
theorem dL_law_478 : decode cL_law 478 = .ok (.iaload, 1) := by decide +kernel
theorem dL_law_479 : decode cL_law 479 = .ok (.aload_n 0, 1) := by decide +kernel
theorem dL_law_480 : decode cL_law 480 = .ok (.iload 4, 2) := by decide +kernel
theorem dL_law_482 : decode cL_law 482 = .ok (.bipush 7, 2) := by decide +kernel
theorem dL_law_484 : decode cL_law 484 = .ok (.iadd, 1) := by decide +kernel
theorem dL_law_485 : decode cL_law 485 = .ok (.iaload, 1) := by decide +kernel
theorem dL_law_486 : decode cL_law 486 = .ok (.aload_n 0, 1) := by decide +kernel
theorem dL_law_487 : decode cL_law 487 = .ok (.iload 4, 2) := by decide +kernel
theorem dL_law_489 : decode cL_law 489 = .ok (.bipush 8, 2) := by decide +kernel
theorem dL_law_491 : decode cL_law 491 = .ok (.iadd, 1) := by decide +kernel
theorem dL_law_492 : decode cL_law 492 = .ok (.iaload, 1) := by decide +kernel
theorem dL_law_493 : decode cL_law 493 = .ok (.invokevirtual 55, 3) := by decide +kernel
theorem dL_law_496 : decode cL_law 496 = .ok (.if_icmp .eq 378, 3) := by decide +kernel
set_option maxHeartbeats 4000000 in
set_option maxRecDepth 100000 in
theorem zc_6 {p : Program} {l : Launch} {e : Env} {s : State} {m : MethodId} {below : List Frame} {meth : Method} {c : Code} {dC : Nat → ClassId} {dI : Nat → Nat → Nat} {b L : Nat} {xs : Nat → Int32} (C0 : lw_At p s m meth c b L xs) (hL9 : L ≤ 4608) (hE : zF s) (hL : zL (fun q : Nat => s.heap.size ≤ q) s s.heap) (hl9 : l.stackTraces = false) {sa sb : Nat} (hXs : zX sa sb s) (hZs : zZ (fun q : Nat => s.heap.size ≤ q) s s.heap) {xh tb xb xu rh : Nat} {cI cJ cB cQ cV cZ : ClassId} {h0 : Nat} {r : Nat → Nat} {ro : Nat} (hK : va_K (dC, dI) vwCl [(cI, .int), (cJ, .long), (cB, .byte), (cQ, .object RX0), (cV, .object RX5), (cZ, .boolean)] s) {n cells slots : Nat} (hn : 9 * n + 9 ≤ L) (hcc : cells + 17 ≤ 601024) (hss : slots + 1697 ≤ 7293034) {H : Heap} {locs : List Loc} (hG : zInv dC dI xh tb xb xu rh cI cJ cB cQ cV cZ h0 r ro (fun q : Nat => s.heap.size ≤ q) H) (hS : va_S (fun q : Nat => s.heap.size ≤ q) s.heap H locs) {ls : Array Slot} (hl : lv_has ls 7 [(4, .int (nI (9 * n))), (3, .ref ro), (2, .ref h0), (1, .ref xh), (0, .ref b)]) (kk : ∀ (H : Heap) (locs : List Loc) (ls : Array Slot), zInv dC dI xh tb xb xu rh cI cJ cB cQ cV cZ h0 r ro (fun q : Nat => s.heap.size ≤ q) H → va_S (fun q : Nat => s.heap.size ≤ q) s.heap H locs → lv_has ls 7 [(4, .int (nI (9 * n))), (3, .ref ro), (2, .ref h0), (1, .ref xh), (0, .ref b)] → W p l e room_1 s m #[Value.ref b] below meth c H locs (cells + 17) (slots + 1697) (lw_Z below #[Value.ref b] s) (F0 m 874 ls [])) : W p l e room_1 s m #[Value.ref b] below meth c H locs cells slots (lw_Z below #[Value.ref b] s) (F0 m 366 ls []) := by
  obtain ⟨hx, hb, hr, hml, hown, hts, hX, hbl, hlocks, hgv⟩ := id C0
  have hown : s.vm.findClass RL = some m.cls := hown
  have hA : ∀ q : Nat, s.heap.size ≤ q → (fun q : Nat => s.heap.size ≤ q) q := fun _ h => h
  have hbA : ¬ (fun q : Nat => s.heap.size ≤ q) b := Nat.not_le.mpr hbl
  obtain ⟨tn, bn, un, bf, wf, Rw, Ex, Bl, Ul, Mw, fo, hIy, hRc, hEx, hbz, hBl, hUl, hM, hP, hD⟩ := hG
  have hKx := hK.sub (tys' := [(cI, .int), (cJ, .long), (cB, .byte), (cQ, .object RX0), (cV, .object RX5)]) [0, 1, 2, 3, 4] rfl
  have hKr := hK.sub (tys' := [(cI, .int), (cJ, .long), (cZ, .boolean)]) [0, 1, 5] rfl
  have hIy0 := hIy
  obtain ⟨htn, hbn, hun⟩ := hIy0
  refine lv_aload_n hx hb dL_law_366 rfl (lv_at hl 3 rfl) ?_
  refine lv_aload_n hx hb dL_law_367 rfl (lv_at hl 4 rfl) ?_
  refine lv_iload hx hb dL_law_368 (lv_at hl 0 rfl) ?_
  refine lv_iconst (v := 1) hx hb dL_law_370 (by decide) ?_
  refine lv_iadd hx hb dL_law_371 ?_
  refine lv_topi (fun x1 ex1 => ?_)
  obtain rfl : x1 = nI ((9 * n) + 1) := by rw [ex1]; exact nI_add (9 * n) (1)
  refine va_sld hx hb hX hbl hbA hS (vp_in_nI (show (9 * n) + 1 < L by omega) (by omega)) dL_law_372 ?_
  refine lv_topi (fun x2 ex2 => ?_)
  refine lv_aload_n hx hb dL_law_373 rfl (lv_at hl 4 rfl) ?_
  refine lv_iload hx hb dL_law_374 (lv_at hl 0 rfl) ?_
  refine lv_iconst (v := 2) hx hb dL_law_376 (by decide) ?_
  refine lv_iadd hx hb dL_law_377 ?_
  refine lv_topi (fun x3 ex3 => ?_)
  obtain rfl : x3 = nI ((9 * n) + 2) := by rw [ex3]; exact nI_add (9 * n) (2)
  refine va_sld hx hb hX hbl hbA hS (vp_in_nI (show (9 * n) + 2 < L by omega) (by omega)) dL_law_378 ?_
  refine lv_topi (fun x4 ex4 => ?_)
  refine lv_aload_n hx hb dL_law_379 rfl (lv_at hl 4 rfl) ?_
  refine lv_iload hx hb dL_law_380 (lv_at hl 0 rfl) ?_
  refine lv_iconst (v := 3) hx hb dL_law_382 (by decide) ?_
  refine lv_iadd hx hb dL_law_383 ?_
  refine lv_topi (fun x5 ex5 => ?_)
  obtain rfl : x5 = nI ((9 * n) + 3) := by rw [ex5]; exact nI_add (9 * n) (3)
  refine va_sld hx hb hX hbl hbA hS (vp_in_nI (show (9 * n) + 3 < L by omega) (by omega)) dL_law_384 ?_
  refine lv_topi (fun x6 ex6 => ?_)
  refine lv_aload_n hx hb dL_law_385 rfl (lv_at hl 4 rfl) ?_
  refine lv_iload hx hb dL_law_386 (lv_at hl 0 rfl) ?_
  refine lv_iconst (v := 4) hx hb dL_law_388 (by decide) ?_
  refine lv_iadd hx hb dL_law_389 ?_
  refine lv_topi (fun x7 ex7 => ?_)
  obtain rfl : x7 = nI ((9 * n) + 4) := by rw [ex7]; exact nI_add (9 * n) (4)
  refine va_sld hx hb hX hbl hbA hS (vp_in_nI (show (9 * n) + 4 < L by omega) (by omega)) dL_law_390 ?_
  refine lv_topi (fun x8 ex8 => ?_)
  refine lv_i2l hx hb dL_law_391 rfl ?_
  refine lv_topl (fun x9 ex9 => ?_)
  refine lv_bipush (v := 32) hx hb dL_law_392 (by decide) ?_
  refine lv_lshl hx hb dL_law_394 rfl ?_
  refine lv_topl (fun x10 ex10 => ?_)
  refine lv_aload_n hx hb dL_law_395 rfl (lv_at hl 4 rfl) ?_
  refine lv_iload hx hb dL_law_396 (lv_at hl 0 rfl) ?_
  refine lv_iconst (v := 5) hx hb dL_law_398 (by decide) ?_
  refine lv_iadd hx hb dL_law_399 ?_
  refine lv_topi (fun x11 ex11 => ?_)
  obtain rfl : x11 = nI ((9 * n) + 5) := by rw [ex11]; exact nI_add (9 * n) (5)
  refine va_sld hx hb hX hbl hbA hS (vp_in_nI (show (9 * n) + 5 < L by omega) (by omega)) dL_law_400 ?_
  refine lv_topi (fun x12 ex12 => ?_)
  refine lv_i2l hx hb dL_law_401 rfl ?_
  refine lv_topl (fun x13 ex13 => ?_)
  refine lv_ldc2 (v := 4294967295) hx hb hown (hts (.constantLong RL 21 (4294967295)) (by decide +kernel)) dL_law_402 ?_
  refine lv_land hx hb dL_law_405 ?_
  refine lv_topl (fun x14 ex14 => ?_)
  refine lv_lor hx hb dL_law_406 ?_
  refine lv_topl (fun x15 ex15 => ?_)
  refine lv_aload_n hx hb dL_law_407 rfl (lv_at hl 4 rfl) ?_
  refine lv_iload hx hb dL_law_408 (lv_at hl 0 rfl) ?_
  refine lv_bipush (v := 6) hx hb dL_law_410 (by decide) ?_
  refine lv_iadd hx hb dL_law_412 ?_
  refine lv_topi (fun x16 ex16 => ?_)
  obtain rfl : x16 = nI ((9 * n) + 6) := by rw [ex16]; exact nI_add (9 * n) (6)
  refine va_sld hx hb hX hbl hbA hS (vp_in_nI (show (9 * n) + 6 < L by omega) (by omega)) dL_law_413 ?_
  refine lv_topi (fun x17 ex17 => ?_)
  refine lv_aload_n hx hb dL_law_414 rfl (lv_at hl 4 rfl) ?_
  refine lv_iload hx hb dL_law_415 (lv_at hl 0 rfl) ?_
  refine lv_bipush (v := 7) hx hb dL_law_417 (by decide) ?_
  refine lv_iadd hx hb dL_law_419 ?_
  refine lv_topi (fun x18 ex18 => ?_)
  obtain rfl : x18 = nI ((9 * n) + 7) := by rw [ex18]; exact nI_add (9 * n) (7)
  refine va_sld hx hb hX hbl hbA hS (vp_in_nI (show (9 * n) + 7 < L by omega) (by omega)) dL_law_420 ?_
  refine lv_topi (fun x19 ex19 => ?_)
  refine lv_aload_n hx hb dL_law_421 rfl (lv_at hl 4 rfl) ?_
  refine lv_iload hx hb dL_law_422 (lv_at hl 0 rfl) ?_
  refine lv_bipush (v := 8) hx hb dL_law_424 (by decide) ?_
  refine lv_iadd hx hb dL_law_426 ?_
  refine lv_topi (fun x20 ex20 => ?_)
  obtain rfl : x20 = nI ((9 * n) + 8) := by rw [ex20]; exact nI_add (9 * n) (8)
  refine va_sld hx hb hX hbl hbA hS (vp_in_nI (show (9 * n) + 8 < L by omega) (by omega)) dL_law_427 ?_
  refine lv_topi (fun x21 ex21 => ?_)
  have hPx := hP
  have hDx := hD
  have hFc := z_Fl hDx hS hA
  refine va_calli (va_runV (As := [.int x2, .int x4, .int x6, .long x15, .int x17, .int x19, .int x21]) (rest := []) ⟨hx, hb, hml, hown, hts⟩ (kX6_use l dC dI xh tb xb xu rh cI cJ cB cQ cV tn bn un bf wf x2 x4 x6 x15 x17 x19 x21 hIy H.size) (cwV 7 hts zgL_law_X6_use_51 rfl rfl rfl (by decide +kernel) ⟨(show 3 + 1 ≤ 10 by omega), (show 8 + (10 + 11) + 55 ≤ 372 by omega)⟩) (zVk (ci := 5) (q0 := 0) (q := (RX6, TX6, 7)) hKx (z_Pl hPx) (z_Dl hDx) hE rfl rfl rfl) rfl rfl hl.1 rfl (lv_room (Nat.le_of_ble_eq_true rfl)) dL_law_428 ⟨(show _ + 2 ≤ 601024 by omega), (show _ + 9 ≤ 7293034 by omega)⟩) hS (fun q _ h => hFc q h) hFc (fun r22 u9 t H1 locs ht hvm hw hB hz1 hk1 hS => ?_)
  obtain ⟨un2, wf2, wx⟩ := u9
  obtain ⟨hP1, hK1, hD1⟩ := hB
  rw [ht] at hP1
  obtain ⟨hP, hD⟩ := z_Jn hPx hDx hk1 hFc hP1 hD1
  obtain ⟨hu1, hu2, hcase⟩ := hw
  have hu2 : un2 ≤ 40 := hu2
  have hcase : (un2 = un ∧ wf2 = wf ∧ wx = []) ∨ (un2 = un + 1 ∧ ∃ uh : Nat, wf2 = va_up wf un (some uh) ∧ zUc cI cJ cB uh wx) := hcase
  have hP : va_P (dC, dI) vwCl (((yW xh tb xb xu rh cI cJ cB cQ cV (nI tn) (nI bn) (nI un2) bf wf2) ++ wx) ++ (Rw ++ (Ex ++ (Bl.flatten ++ (Ul.flatten ++ (Mw ++ [(ro, .inl (cJ, 1, .inr (.inl fo)))])))))) H1 := hP
  have hD : va_D (fun q : Nat => s.heap.size ≤ q) (((yW xh tb xb xu rh cI cJ cB cQ cV (nI tn) (nI bn) (nI un2) bf wf2) ++ wx) ++ (Rw ++ (Ex ++ (Bl.flatten ++ (Ul.flatten ++ (Mw ++ [(ro, .inl (cJ, 1, .inr (.inl fo)))])))))) := hD
  have hP9 := hP
  have hD9 := hD
  obtain ⟨Ul3, hUl3, hP, hD⟩ : ∃ Ul3 : List va_W, zUl cI cJ cB un2 wf2 Ul3 ∧ va_P (dC, dI) vwCl ((yW xh tb xb xu rh cI cJ cB cQ cV (nI tn) (nI bn) (nI un2) bf wf2) ++ (Rw ++ (Ex ++ (Bl.flatten ++ (Ul3.flatten ++ (Mw ++ [(ro, .inl (cJ, 1, .inr (.inl fo)))])))))) H1 ∧ va_D (fun q : Nat => s.heap.size ≤ q) ((yW xh tb xb xu rh cI cJ cB cQ cV (nI tn) (nI bn) (nI un2) bf wf2) ++ (Rw ++ (Ex ++ (Bl.flatten ++ (Ul3.flatten ++ (Mw ++ [(ro, .inl (cJ, 1, .inr (.inl fo)))])))))) := by
    rcases hcase with ⟨rfl, rfl, rfl⟩ | ⟨rfl, uh, rfl, h8⟩
    · exact ⟨Ul, hUl, by rw [List.append_nil] at hP9; exact hP9, by rw [List.append_nil] at hD9; exact hD9⟩
    · exact ⟨Ul ++ [wx], hUl.push h8, by rw [z_f1]; exact z_Pp z_pW hP9, by rw [z_f1]; exact z_Dp z_pW hD9⟩
  refine lv_aload_n hx hb dL_law_431 rfl (lv_at hl 2 rfl) ?_
  refine lv_aload_n hx hb dL_law_432 rfl (lv_at hl 4 rfl) ?_
  refine lv_iload hx hb dL_law_433 (lv_at hl 0 rfl) ?_
  refine lv_iconst (v := 1) hx hb dL_law_435 (by decide) ?_
  refine lv_iadd hx hb dL_law_436 ?_
  refine lv_topi (fun x23 ex23 => ?_)
  obtain rfl : x23 = nI ((9 * n) + 1) := by rw [ex23]; exact nI_add (9 * n) (1)
  refine va_sld hx hb hX hbl hbA hS (vp_in_nI (show (9 * n) + 1 < L by omega) (by omega)) dL_law_437 ?_
  refine lv_topi (fun x24 ex24 => ?_)
  refine lv_aload_n hx hb dL_law_438 rfl (lv_at hl 4 rfl) ?_
  refine lv_iload hx hb dL_law_439 (lv_at hl 0 rfl) ?_
  refine lv_iconst (v := 2) hx hb dL_law_441 (by decide) ?_
  refine lv_iadd hx hb dL_law_442 ?_
  refine lv_topi (fun x25 ex25 => ?_)
  obtain rfl : x25 = nI ((9 * n) + 2) := by rw [ex25]; exact nI_add (9 * n) (2)
  refine va_sld hx hb hX hbl hbA hS (vp_in_nI (show (9 * n) + 2 < L by omega) (by omega)) dL_law_443 ?_
  refine lv_topi (fun x26 ex26 => ?_)
  refine lv_aload_n hx hb dL_law_444 rfl (lv_at hl 4 rfl) ?_
  refine lv_iload hx hb dL_law_445 (lv_at hl 0 rfl) ?_
  refine lv_iconst (v := 3) hx hb dL_law_447 (by decide) ?_
  refine lv_iadd hx hb dL_law_448 ?_
  refine lv_topi (fun x27 ex27 => ?_)
  obtain rfl : x27 = nI ((9 * n) + 3) := by rw [ex27]; exact nI_add (9 * n) (3)
  refine va_sld hx hb hX hbl hbA hS (vp_in_nI (show (9 * n) + 3 < L by omega) (by omega)) dL_law_449 ?_
  refine lv_topi (fun x28 ex28 => ?_)
  refine lv_aload_n hx hb dL_law_450 rfl (lv_at hl 4 rfl) ?_
  refine lv_iload hx hb dL_law_451 (lv_at hl 0 rfl) ?_
  refine lv_iconst (v := 4) hx hb dL_law_453 (by decide) ?_
  refine lv_iadd hx hb dL_law_454 ?_
  refine lv_topi (fun x29 ex29 => ?_)
  obtain rfl : x29 = nI ((9 * n) + 4) := by rw [ex29]; exact nI_add (9 * n) (4)
  refine va_sld hx hb hX hbl hbA hS (vp_in_nI (show (9 * n) + 4 < L by omega) (by omega)) dL_law_455 ?_
  refine lv_topi (fun x30 ex30 => ?_)
  refine lv_i2l hx hb dL_law_456 rfl ?_
  refine lv_topl (fun x31 ex31 => ?_)
  refine lv_bipush (v := 32) hx hb dL_law_457 (by decide) ?_
  refine lv_lshl hx hb dL_law_459 rfl ?_
  refine lv_topl (fun x32 ex32 => ?_)
  refine lv_aload_n hx hb dL_law_460 rfl (lv_at hl 4 rfl) ?_
  refine lv_iload hx hb dL_law_461 (lv_at hl 0 rfl) ?_
  refine lv_iconst (v := 5) hx hb dL_law_463 (by decide) ?_
  refine lv_iadd hx hb dL_law_464 ?_
  refine lv_topi (fun x33 ex33 => ?_)
  obtain rfl : x33 = nI ((9 * n) + 5) := by rw [ex33]; exact nI_add (9 * n) (5)
  refine va_sld hx hb hX hbl hbA hS (vp_in_nI (show (9 * n) + 5 < L by omega) (by omega)) dL_law_465 ?_
  refine lv_topi (fun x34 ex34 => ?_)
  refine lv_i2l hx hb dL_law_466 rfl ?_
  refine lv_topl (fun x35 ex35 => ?_)
  refine lv_ldc2 (v := 4294967295) hx hb hown (hts (.constantLong RL 21 (4294967295)) (by decide +kernel)) dL_law_467 ?_
  refine lv_land hx hb dL_law_470 ?_
  refine lv_topl (fun x36 ex36 => ?_)
  refine lv_lor hx hb dL_law_471 ?_
  refine lv_topl (fun x37 ex37 => ?_)
  refine lv_aload_n hx hb dL_law_472 rfl (lv_at hl 4 rfl) ?_
  refine lv_iload hx hb dL_law_473 (lv_at hl 0 rfl) ?_
  refine lv_bipush (v := 6) hx hb dL_law_475 (by decide) ?_
  refine lv_iadd hx hb dL_law_477 ?_
  refine lv_topi (fun x38 ex38 => ?_)
  obtain rfl : x38 = nI ((9 * n) + 6) := by rw [ex38]; exact nI_add (9 * n) (6)
  refine va_sld hx hb hX hbl hbA hS (vp_in_nI (show (9 * n) + 6 < L by omega) (by omega)) dL_law_478 ?_
  refine lv_topi (fun x39 ex39 => ?_)
  refine lv_aload_n hx hb dL_law_479 rfl (lv_at hl 4 rfl) ?_
  refine lv_iload hx hb dL_law_480 (lv_at hl 0 rfl) ?_
  refine lv_bipush (v := 7) hx hb dL_law_482 (by decide) ?_
  refine lv_iadd hx hb dL_law_484 ?_
  refine lv_topi (fun x40 ex40 => ?_)
  obtain rfl : x40 = nI ((9 * n) + 7) := by rw [ex40]; exact nI_add (9 * n) (7)
  refine va_sld hx hb hX hbl hbA hS (vp_in_nI (show (9 * n) + 7 < L by omega) (by omega)) dL_law_485 ?_
  refine lv_topi (fun x41 ex41 => ?_)
  refine lv_aload_n hx hb dL_law_486 rfl (lv_at hl 4 rfl) ?_
  refine lv_iload hx hb dL_law_487 (lv_at hl 0 rfl) ?_
  refine lv_bipush (v := 8) hx hb dL_law_489 (by decide) ?_
  refine lv_iadd hx hb dL_law_491 ?_
  refine lv_topi (fun x42 ex42 => ?_)
  obtain rfl : x42 = nI ((9 * n) + 8) := by rw [ex42]; exact nI_add (9 * n) (8)
  refine va_sld hx hb hX hbl hbA hS (vp_in_nI (show (9 * n) + 8 < L by omega) (by omega)) dL_law_492 ?_
  refine lv_topi (fun x43 ex43 => ?_)
  have hPm := z_Pp z_pm hP
  have hDm := z_Dp z_pm hD
  obtain ⟨v0, a1, bs, cl, a5, a6, a7, fc, a9, mb, a11, a12, a13, a14, a15, a16, a17, a18, a19, a20, az, v22, v23, v24, v25, v26, bb, ct, a30, a31, a32, a33, a34, a35, a36, a37, pil, rwv, rl, v41, v42, v43, v44, v45, hIr, hO9, hC9, rfl⟩ := hM
  have hIr0 := hIr
  obtain ⟨ghtp, ghbs, ghus, ghcl, ghfc, ghmb, ghct, ghpil, ghrwv⟩ := hIr0
  have hFm := z_Fl hDm hS hA
  refine va_calli (va_runV (As := [.int x24, .int x26, .int x28, .long x37, .int x39, .int x41, .int x43]) (rest := [.int r22]) ⟨hx, hb, hml, hown, hts⟩ (kX7_use l dC dI h0 r cI cJ cZ v0 a1 tn bs cl a5 a6 a7 fc a9 mb a11 a12 a13 a14 a15 a16 a17 a18 a19 a20 az v22 v23 v24 v25 v26 bb ct un a30 a31 a32 a33 a34 a35 a36 a37 pil rwv rl v41 v42 v43 v44 v45 hIr x24 x26 x28 x37 x39 x41 x43 hC9 H1.size) (cwV 7 hts zgL_law_X7_use_55 rfl rfl rfl (by decide +kernel) ⟨(show 1 + 1 ≤ 10 by omega), (show 8 + (10 + 11) + 25 ≤ 372 by omega)⟩) (zVm (ci := 6) (q0 := 0) (q := (RX7, TX7, 46)) hKr (z_Pl hPm) (z_Dl hDm) hL (fun q h1 h2 => hS.2.1 q h1 h2) hFm rfl rfl rfl) rfl rfl hl.1 rfl (lv_room (Nat.le_of_ble_eq_true rfl)) dL_law_493 ⟨(show _ + 0 ≤ 601024 by omega), (show _ + 0 ≤ 7293034 by omega)⟩) hS (fun q _ h => hFm q h) hFm (fun r44 u8 t H2 locs ht2 hvm2 hw2 hB2 hz2 hk2 hS => ?_)
  obtain ⟨y0_th, y1_us2, y2_u1, y3_u2, y4_u3, y5_u4, y6_u5, y7_u6, y8_u7, y9_u8⟩ := u8
  obtain ⟨hP2, hK2, hD2⟩ := hB2
  rw [ht2] at hP2
  obtain ⟨hP, hD⟩ := z_Jn hPm hDm hk2 hFm hP2 hD2
  have hP := z_Pp z_pm.symm hP
  have hD := z_Dp z_pm.symm hD
  have hw2 : (y1_us2 ≤ 40) ∧ (((¬ ((∃ k, 0 ≤ k ∧ k ≤ 9 ∧ x24 = nI k) ∧ ∃ k, 0 ≤ k ∧ k ≤ 2 ∧ x39 = nI k)) ∧ r44 = -3 ∧ y1_us2 = un) ∨ (((∃ k, 0 ≤ k ∧ k ≤ 9 ∧ x24 = nI k) ∧ ∃ k, 0 ≤ k ∧ k ≤ 2 ∧ x39 = nI k) ∧ ((un = 40 ∧ r44 = -5 ∧ y1_us2 = un) ∨ (un < 40 ∧ r44 = nI un ∧ y1_us2 = un + 1)))) ∧ (∀ j, j < y1_us2 → y9_u8 j = -1 ∨ y2_u1 j = 2) := hw2
  obtain ⟨p0_, p1_, p2_⟩ := hw2
  have hu1 : zUd un x2 x17 r22 un2 := hu1
  have hx1 : x24 = x2 := ex24.trans ex2.symm
  have hx2 : x39 = x17 := ex39.trans ex17.symm
  have hu8 : zUd un x24 x39 r44 y1_us2 := p1_
  rw [hx1, hx2] at hu8
  obtain ⟨hz1, hz2⟩ := zUd.uniq hu1 hu8
  subst hz2
  refine lv_icmp_eq (tgt := 874) hx hb dL_law_496 (by decide) (fun _ => ?_) (fun c9 => absurd (hz1) c9)
  have hG : zInv dC dI xh tb xb xu rh cI cJ cB cQ cV cZ h0 r ro (fun q : Nat => s.heap.size ≤ q) H2 := ⟨tn, bn, un2, bf, wf2, Rw, Ex, Bl, Ul3, _, fo, ⟨by omega, by omega, by omega⟩, hRc, hEx, hbz, hBl, hUl3, ⟨y0_th, a1, bs, cl, a5, a6, a7, fc, a9, mb, a11, a12, a13, a14, a15, a16, a17, a18, a19, a20, az, v22, v23, v24, v25, v26, bb, ct, y2_u1, y3_u2, y4_u3, y5_u4, y6_u5, y7_u6, y8_u7, y9_u8, pil, rwv, rl, v41, v42, v43, v44, v45, ⟨(by omega), (by omega), (by omega), ghcl, ghfc, ghmb, ghct, ghpil, ghrwv⟩, hO9, p2_, rfl⟩, hP, hD⟩
  refine W.widen (k := cells + 17) (n := slots + 1697) (by omega) (by omega) ?_
  exact kk _ _ _ hG hS (lv_sub hl [0, 1, 2, 3, 4] rfl)
