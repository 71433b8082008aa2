theorem dL_law_206 : decode cL_law 206 = .ok (.aload_n 1, 1) := by decide +kernel
theorem dL_law_207 : decode cL_law 207 = .ok (.aload_n 0, 1) := by decide +kernel
theorem dL_law_208 : decode cL_law 208 = .ok (.iload 4, 2) := by decide +kernel
theorem dL_law_210 : decode cL_law 210 = .ok (.iconst 1, 1) := by decide +kernel
theorem dL_law_211 : decode cL_law 211 = .ok (.iadd, 1) := by decide +kernel
theorem dL_law_212 : decode cL_law 212 = .ok (.iaload, 1) := by decide +kernel
theorem dL_law_213 : decode cL_law 213 = .ok (.aload_n 0, 1) := by decide +kernel
theorem dL_law_214 : decode cL_law 214 = .ok (.iload 4, 2) := by decide +kernel
theorem dL_law_216 : decode cL_law 216 = .ok (.iconst 2, 1) := by decide +kernel
theorem dL_law_217 : decode cL_law 217 = .ok (.iadd, 1) := by decide +kernel
theorem dL_law_218 : decode cL_law 218 = .ok (.iaload, 1) := by decide +kernel
theorem dL_law_219 : decode cL_law 219 = .ok (.invokevirtual 33, 3) := by decide +kernel
theorem dL_law_222 : decode cL_law 222 = .ok (.pop, 1) := by decide +kernel
theorem dL_law_223 : decode cL_law 223 = .ok (.aload_n 2, 1) := by decide +kernel
theorem dL_law_224 : decode cL_law 224 = .ok (.aload_n 0, 1) := by decide +kernel
theorem dL_law_225 : decode cL_law 225 = .ok (.iload 4, 2) := by decide +kernel
theorem dL_law_227 : decode cL_law 227 = .ok (.iconst 1, 1) := by decide +kernel
theorem dL_law_228 : decode cL_law 228 = .ok (.iadd, 1) := by decide +kernel
theorem dL_law_229 : decode cL_law 229 = .ok (.iaload, 1) := by decide +kernel
theorem dL_law_230 : decode cL_law 230 = .ok (.aload_n 0, 1) := by decide +kernel
theorem dL_law_231 : decode cL_law 231 = .ok (.iload 4, 2) := by decide +kernel
theorem dL_law_233 : decode cL_law 233 = .ok (.iconst 2, 1) := by decide +kernel
theorem dL_law_234 : decode cL_law 234 = .ok (.iadd, 1) := by decide +kernel
theorem dL_law_235 : decode cL_law 235 = .ok (.iaload, 1) := by decide +kernel
theorem dL_law_236 : decode cL_law 236 = .ok (.invokevirtual 37, 3) := by decide +kernel
theorem dL_law_239 : decode cL_law 239 = .ok (.pop, 1) := by decide +kernel
theorem dL_law_240 : decode cL_law 240 = .ok (.goto 634, 3) := by decide +kernel
set_option maxHeartbeats 4000000 in
set_option maxRecDepth 100000 in
theorem zc_2 {p : Program} {l : Launch} {e : Env} {s : State} {m : MethodId} {below : List Frame} {meth : Method} {c : Code} {dC : Nat → ClassId} {dI : Nat → Nat → Nat} {b L : Nat} {xs : Nat → Int32} (C0 : lw_At p s m meth c b L xs) (hL9 : L ≤ 4608) (hE : zF s) (hL : zL (fun q : Nat => s.heap.size ≤ q) s s.heap) (hl9 : l.stackTraces = false) {sa sb : Nat} (hXs : zX sa sb s) (hZs : zZ (fun q : Nat => s.heap.size ≤ q) s s.heap) {xh tb xb xu rh : Nat} {cI cJ cB cQ cV cZ : ClassId} {h0 : Nat} {r : Nat → Nat} {ro : Nat} (hK : va_K (dC, dI) vwCl [(cI, .int), (cJ, .long), (cB, .byte), (cQ, .object RX0), (cV, .object RX5), (cZ, .boolean)] s) {n cells slots : Nat} (hn : 9 * n + 9 ≤ L) (hcc : cells + 17 ≤ 601024) (hss : slots + 1697 ≤ 7293034) {H : Heap} {locs : List Loc} (hG : zInv dC dI xh tb xb xu rh cI cJ cB cQ cV cZ h0 r ro (fun q : Nat => s.heap.size ≤ q) H) (hS : va_S (fun q : Nat => s.heap.size ≤ q) s.heap H locs) {ls : Array Slot} (hl : lv_has ls 7 [(4, .int (nI (9 * n))), (3, .ref ro), (2, .ref h0), (1, .ref xh), (0, .ref b)]) (kk : ∀ (H : Heap) (locs : List Loc) (ls : Array Slot), zInv dC dI xh tb xb xu rh cI cJ cB cQ cV cZ h0 r ro (fun q : Nat => s.heap.size ≤ q) H → va_S (fun q : Nat => s.heap.size ≤ q) s.heap H locs → lv_has ls 7 [(4, .int (nI (9 * n))), (3, .ref ro), (2, .ref h0), (1, .ref xh), (0, .ref b)] → W p l e room_1 s m #[Value.ref b] below meth c H locs (cells + 17) (slots + 1697) (lw_Z below #[Value.ref b] s) (F0 m 874 ls [])) : W p l e room_1 s m #[Value.ref b] below meth c H locs cells slots (lw_Z below #[Value.ref b] s) (F0 m 206 ls []) := by
  obtain ⟨hx, hb, hr, hml, hown, hts, hX, hbl, hlocks, hgv⟩ := id C0
  have hown : s.vm.findClass RL = some m.cls := hown
  have hA : ∀ q : Nat, s.heap.size ≤ q → (fun q : Nat => s.heap.size ≤ q) q := fun _ h => h
  have hbA : ¬ (fun q : Nat => s.heap.size ≤ q) b := Nat.not_le.mpr hbl
  obtain ⟨tn, bn, un, bf, wf, Rw, Ex, Bl, Ul, Mw, fo, hIy, hRc, hEx, hbz, hBl, hUl, hM, hP, hD⟩ := hG
  have hKx := hK.sub (tys' := [(cI, .int), (cJ, .long), (cB, .byte), (cQ, .object RX0), (cV, .object RX5)]) [0, 1, 2, 3, 4] rfl
  have hKr := hK.sub (tys' := [(cI, .int), (cJ, .long), (cZ, .boolean)]) [0, 1, 5] rfl
  have hIy0 := hIy
  obtain ⟨htn, hbn, hun⟩ := hIy0
  refine lv_aload_n hx hb dL_law_206 rfl (lv_at hl 3 rfl) ?_
  refine lv_aload_n hx hb dL_law_207 rfl (lv_at hl 4 rfl) ?_
  refine lv_iload hx hb dL_law_208 (lv_at hl 0 rfl) ?_
  refine lv_iconst (v := 1) hx hb dL_law_210 (by decide) ?_
  refine lv_iadd hx hb dL_law_211 ?_
  refine lv_topi (fun x1 ex1 => ?_)
  obtain rfl : x1 = nI ((9 * n) + 1) := by rw [ex1]; exact nI_add (9 * n) (1)
  refine va_sld hx hb hX hbl hbA hS (vp_in_nI (show (9 * n) + 1 < L by omega) (by omega)) dL_law_212 ?_
  refine lv_topi (fun x2 ex2 => ?_)
  refine lv_aload_n hx hb dL_law_213 rfl (lv_at hl 4 rfl) ?_
  refine lv_iload hx hb dL_law_214 (lv_at hl 0 rfl) ?_
  refine lv_iconst (v := 2) hx hb dL_law_216 (by decide) ?_
  refine lv_iadd hx hb dL_law_217 ?_
  refine lv_topi (fun x3 ex3 => ?_)
  obtain rfl : x3 = nI ((9 * n) + 2) := by rw [ex3]; exact nI_add (9 * n) (2)
  refine va_sld hx hb hX hbl hbA hS (vp_in_nI (show (9 * n) + 2 < L by omega) (by omega)) dL_law_218 ?_
  refine lv_topi (fun x4 ex4 => ?_)
  have hBs : zBs (dC, dI) cI cJ cB bn bf H := hBl.bs (z_Pl (z_Pr (z_Pr (z_Pr hP))))
  have hUs : zUs (dC, dI) cI cJ cB un wf H := hUl.us (z_Pl (z_Pr (z_Pr (z_Pr (z_Pr hP)))))
  refine vp_callSi (W.runV (As := [.int x2, .int x4]) (rest := []) ⟨hx, hb, hml, hown, hts⟩ (kX6_defined l dC dI xh tb xb xu rh cI cJ cB cQ cV tn bn un bf wf hIy x2 x4) (cwV 2 hts zgL_law_X6_defined_33 rfl rfl rfl (by decide +kernel) ⟨(show 1 + 1 ≤ 10 by omega), (show 8 + (5 + 11) + 22 ≤ 372 by omega)⟩) (zVX (ci := 5) (q0 := 0) (q := (RX6, TX6, 7)) hKx (z_Pl hP) hE hBs hUs rfl rfl rfl) rfl rfl hl.1 rfl (lv_room (Nat.le_of_ble_eq_true rfl)) dL_law_219 ⟨(show _ + 0 ≤ 601024 by omega), (show _ + 0 ≤ 7293034 by omega)⟩) (fun r5 hw => ?_)
  refine lv_pop hx hb dL_law_222 rfl ?_
  refine lv_aload_n hx hb dL_law_223 rfl (lv_at hl 2 rfl) ?_
  refine lv_aload_n hx hb dL_law_224 rfl (lv_at hl 4 rfl) ?_
  refine lv_iload hx hb dL_law_225 (lv_at hl 0 rfl) ?_
  refine lv_iconst (v := 1) hx hb dL_law_227 (by decide) ?_
  refine lv_iadd hx hb dL_law_228 ?_
  refine lv_topi (fun x6 ex6 => ?_)
  obtain rfl : x6 = nI ((9 * n) + 1) := by rw [ex6]; exact nI_add (9 * n) (1)
  refine va_sld hx hb hX hbl hbA hS (vp_in_nI (show (9 * n) + 1 < L by omega) (by omega)) dL_law_229 ?_
  refine lv_topi (fun x7 ex7 => ?_)
  refine lv_aload_n hx hb dL_law_230 rfl (lv_at hl 4 rfl) ?_
  refine lv_iload hx hb dL_law_231 (lv_at hl 0 rfl) ?_
  refine lv_iconst (v := 2) hx hb dL_law_233 (by decide) ?_
  refine lv_iadd hx hb dL_law_234 ?_
  refine lv_topi (fun x8 ex8 => ?_)
  obtain rfl : x8 = nI ((9 * n) + 2) := by rw [ex8]; exact nI_add (9 * n) (2)
  refine va_sld hx hb hX hbl hbA hS (vp_in_nI (show (9 * n) + 2 < L by omega) (by omega)) dL_law_235 ?_
  refine lv_topi (fun x9 ex9 => ?_)
  have hPm := z_Pp z_pm hP
  have hDm := z_Dp z_pm hD
  obtain ⟨v0, a1, bs, cl, a5, a6, a7, fc, a9, mb, a11, a12, a13, a14, a15, a16, a17, a18, a19, a20, az, v22, v23, v24, v25, v26, bb, ct, a30, a31, a32, a33, a34, a35, a36, a37, pil, rwv, rl, v41, v42, v43, v44, v45, hIr, hO9, hC9, rfl⟩ := hM
  have hIr0 := hIr
  obtain ⟨ghtp, ghbs, ghus, ghcl, ghfc, ghmb, ghct, ghpil, ghrwv⟩ := hIr0
  have hFm := z_Fl hDm hS hA
  refine va_calli (va_runV (As := [.int x7, .int x9]) (rest := []) ⟨hx, hb, hml, hown, hts⟩ (kX7_defined l dC dI h0 r cI cJ cZ v0 a1 tn bs cl a5 a6 a7 fc a9 mb a11 a12 a13 a14 a15 a16 a17 a18 a19 a20 az v22 v23 v24 v25 v26 bb ct un a30 a31 a32 a33 a34 a35 a36 a37 pil rwv rl v41 v42 v43 v44 v45 hIr x7 x9  H.size) (cwV 2 hts zgL_law_X7_defined_37 rfl rfl rfl (by decide +kernel) ⟨(show 2 + 1 ≤ 10 by omega), (show 8 + (4 + 11) + 46 ≤ 372 by omega)⟩) (zVm (ci := 6) (q0 := 0) (q := (RX7, TX7, 46)) hKr (z_Pl hPm) (z_Dl hDm) hL (fun q h1 h2 => hS.2.1 q h1 h2) hFm rfl rfl rfl) rfl rfl hl.1 rfl (lv_room (Nat.le_of_ble_eq_true rfl)) dL_law_236 ⟨(show _ + 0 ≤ 601024 by omega), (show _ + 0 ≤ 7293034 by omega)⟩) hS (fun q _ h => hFm q h) hFm (fun r10 y0_th t H2 locs ht2 hvm2 hw2 hB2 hz2 hk2 hS => ?_)
  obtain ⟨hP2, hK2, hD2⟩ := hB2
  rw [ht2] at hP2
  obtain ⟨hP, hD⟩ := z_Jn hPm hDm hk2 hFm hP2 hD2
  have hP := z_Pp z_pm.symm hP
  have hD := z_Dp z_pm.symm hD
  have hw2 : (True) := hw2
  have p0_ := hw2
  refine lv_pop hx hb dL_law_239 rfl ?_
  have hG : zInv dC dI xh tb xb xu rh cI cJ cB cQ cV cZ h0 r ro (fun q : Nat => s.heap.size ≤ q) H2 := ⟨tn, bn, un, bf, wf, Rw, Ex, Bl, Ul, _, fo, hIy, hRc, hEx, hbz, hBl, hUl, ⟨y0_th, a1, bs, cl, a5, a6, a7, fc, a9, mb, a11, a12, a13, a14, a15, a16, a17, a18, a19, a20, az, v22, v23, v24, v25, v26, bb, ct, a30, a31, a32, a33, a34, a35, a36, a37, pil, rwv, rl, v41, v42, v43, v44, v45, ⟨(by omega), (by omega), (by omega), ghcl, ghfc, ghmb, ghct, ghpil, ghrwv⟩, hO9, hC9, rfl⟩, hP, hD⟩
  refine lv_goto (tgt := 874) hx hb dL_law_240 (by decide) ?_
  refine W.widen (k := cells + 17) (n := slots + 1697) (by omega) (by omega) ?_
  exact kk _ _ _ hG hS (lv_sub hl [0, 1, 2, 3, 4] rfl)
theorem dL_law_243 : decode cL_law 243 = .ok (.aload_n 1, 1) := by decide +kernel
theorem dL_law_244 : decode cL_law 244 = .ok (.aload_n 0, 1) := by decide +kernel
theorem dL_law_245 : decode cL_law 245 = .ok (.iload 4, 2) := by decide +kernel
theorem dL_law_247 : decode cL_law 247 = .ok (.iconst 1, 1) := by decide +kernel
theorem dL_law_248 : decode cL_law 248 = .ok (.iadd, 1) := by decide +kernel
theorem dL_law_249 : decode cL_law 249 = .ok (.iaload, 1) := by decide +kernel
theorem dL_law_250 : decode cL_law 250 = .ok (.aload_n 0, 1) := by decide +kernel
theorem dL_law_251 : decode cL_law 251 = .ok (.iload 4, 2) := by decide +kernel
theorem dL_law_253 : decode cL_law 253 = .ok (.iconst 2, 1) := by decide +kernel
theorem dL_law_254 : decode cL_law 254 = .ok (.iadd, 1) := by decide +kernel
theorem dL_law_255 : decode cL_law 255 = .ok (.iaload, 1) := by decide +kernel
theorem dL_law_256 : decode cL_law 256 = .ok (.invokevirtual 38, 3) := by decide +kernel
theorem dL_law_259 : decode cL_law 259 = .ok (.pop, 1) := by decide +kernel
theorem dL_law_260 : decode cL_law 260 = .ok (.aload_n 2, 1) := by decide +kernel
theorem dL_law_261 : decode cL_law 261 = .ok (.aload_n 0, 1) := by decide +kernel
theorem dL_law_262 : decode cL_law 262 = .ok (.iload 4, 2) := by decide +kernel
theorem dL_law_264 : decode cL_law 264 = .ok (.iconst 1, 1) := by decide +kernel
theorem dL_law_265 : decode cL_law 265 = .ok (.iadd, 1) := by decide +kernel
theorem dL_law_266 : decode cL_law 266 = .ok (.iaload, 1) := by decide +kernel
theorem dL_law_267 : decode cL_law 267 = .ok (.aload_n 0, 1) := by decide +kernel
theorem dL_law_268 : decode cL_law 268 = .ok (.iload 4, 2) := by decide +kernel
theorem dL_law_270 : decode cL_law 270 = .ok (.iconst 2, 1) := by decide +kernel
theorem dL_law_271 : decode cL_law 271 = .ok (.iadd, 1) := by decide +kernel
theorem dL_law_272 : decode cL_law 272 = .ok (.iaload, 1) := by decide +kernel
theorem dL_law_273 : decode cL_law 273 = .ok (.invokevirtual 41, 3) := by decide +kernel
theorem dL_law_276 : decode cL_law 276 = .ok (.pop, 1) := by decide +kernel
theorem dL_law_277 : decode cL_law 277 = .ok (.goto 597, 3) := by decide +kernel
set_option maxHeartbeats 4000000 in
set_option maxRecDepth 100000 in
theorem zc_3 {p : Program} {l : Launch} {e : Env} {s : State} {m : MethodId} {below : List Frame} {meth : Method} {c : Code} {dC : Nat → ClassId} {dI : Nat → Nat → Nat} {b L : Nat} {xs : Nat → Int32} (C0 : lw_At p s m meth c b L xs) (hL9 : L ≤ 4608) (hE : zF s) (hL : zL (fun q : Nat => s.heap.size ≤ q) s s.heap) (hl9 : l.stackTraces = false) {sa sb : Nat} (hXs : zX sa sb s) (hZs : zZ (fun q : Nat => s.heap.size ≤ q) s s.heap) {xh tb xb xu rh : Nat} {cI cJ cB cQ cV cZ : ClassId} {h0 : Nat} {r : Nat → Nat} {ro : Nat} (hK : va_K (dC, dI) vwCl [(cI, .int), (cJ, .long), (cB, .byte), (cQ, .object RX0), (cV, .object RX5), (cZ, .boolean)] s) {n cells slots : Nat} (hn : 9 * n + 9 ≤ L) (hcc : cells + 17 ≤ 601024) (hss : slots + 1697 ≤ 7293034) {H : Heap} {locs : List Loc} (hG : zInv dC dI xh tb xb xu rh cI cJ cB cQ cV cZ h0 r ro (fun q : Nat => s.heap.size ≤ q) H) (hS : va_S (fun q : Nat => s.heap.size ≤ q) s.heap H locs) {ls : Array Slot} (hl : lv_has ls 7 [(4, .int (nI (9 * n))), (3, .ref ro), (2, .ref h0), (1, .ref xh), (0, .ref b)]) (kk : ∀ (H : Heap) (locs : List Loc) (ls : Array Slot), zInv dC dI xh tb xb xu rh cI cJ cB cQ cV cZ h0 r ro (fun q : Nat => s.heap.size ≤ q) H → va_S (fun q : Nat => s.heap.size ≤ q) s.heap H locs → lv_has ls 7 [(4, .int (nI (9 * n))), (3, .ref ro), (2, .ref h0), (1, .ref xh), (0, .ref b)] → W p l e room_1 s m #[Value.ref b] below meth c H locs (cells + 17) (slots + 1697) (lw_Z below #[Value.ref b] s) (F0 m 874 ls [])) : W p l e room_1 s m #[Value.ref b] below meth c H locs cells slots (lw_Z below #[Value.ref b] s) (F0 m 243 ls []) := by
  obtain ⟨hx, hb, hr, hml, hown, hts, hX, hbl, hlocks, hgv⟩ := id C0
  have hown : s.vm.findClass RL = some m.cls := hown
  have hA : ∀ q : Nat, s.heap.size ≤ q → (fun q : Nat => s.heap.size ≤ q) q := fun _ h => h
  have hbA : ¬ (fun q : Nat => s.heap.size ≤ q) b := Nat.not_le.mpr hbl
  obtain ⟨tn, bn, un, bf, wf, Rw, Ex, Bl, Ul, Mw, fo, hIy, hRc, hEx, hbz, hBl, hUl, hM, hP, hD⟩ := hG
  have hKx := hK.sub (tys' := [(cI, .int), (cJ, .long), (cB, .byte), (cQ, .object RX0), (cV, .object RX5)]) [0, 1, 2, 3, 4] rfl
  have hKr := hK.sub (tys' := [(cI, .int), (cJ, .long), (cZ, .boolean)]) [0, 1, 5] rfl
  have hIy0 := hIy
  obtain ⟨htn, hbn, hun⟩ := hIy0
  refine lv_aload_n hx hb dL_law_243 rfl (lv_at hl 3 rfl) ?_
  refine lv_aload_n hx hb dL_law_244 rfl (lv_at hl 4 rfl) ?_
  refine lv_iload hx hb dL_law_245 (lv_at hl 0 rfl) ?_
  refine lv_iconst (v := 1) hx hb dL_law_247 (by decide) ?_
  refine lv_iadd hx hb dL_law_248 ?_
  refine lv_topi (fun x1 ex1 => ?_)
  obtain rfl : x1 = nI ((9 * n) + 1) := by rw [ex1]; exact nI_add (9 * n) (1)
  refine va_sld hx hb hX hbl hbA hS (vp_in_nI (show (9 * n) + 1 < L by omega) (by omega)) dL_law_249 ?_
  refine lv_topi (fun x2 ex2 => ?_)
  refine lv_aload_n hx hb dL_law_250 rfl (lv_at hl 4 rfl) ?_
  refine lv_iload hx hb dL_law_251 (lv_at hl 0 rfl) ?_
  refine lv_iconst (v := 2) hx hb dL_law_253 (by decide) ?_
  refine lv_iadd hx hb dL_law_254 ?_
  refine lv_topi (fun x3 ex3 => ?_)
  obtain rfl : x3 = nI ((9 * n) + 2) := by rw [ex3]; exact nI_add (9 * n) (2)
  refine va_sld hx hb hX hbl hbA hS (vp_in_nI (show (9 * n) + 2 < L by omega) (by omega)) dL_law_255 ?_
  refine lv_topi (fun x4 ex4 => ?_)
  have hBs : zBs (dC, dI) cI cJ cB bn bf H := hBl.bs (z_Pl (z_Pr (z_Pr (z_Pr hP))))
  have hUs : zUs (dC, dI) cI cJ cB un wf H := hUl.us (z_Pl (z_Pr (z_Pr (z_Pr (z_Pr hP)))))
  refine vp_callSi (W.runV (As := [.int x2, .int x4]) (rest := []) ⟨hx, hb, hml, hown, hts⟩ (kX6_count l dC dI xh tb xb xu rh cI cJ cB cQ cV tn bn un bf wf hIy x2 x4) (cwV 2 hts zgL_law_X6_count_38 rfl rfl rfl (by decide +kernel) ⟨(show 1 + 1 ≤ 10 by omega), (show 8 + (4 + 11) + 25 ≤ 372 by omega)⟩) (zVX (ci := 5) (q0 := 0) (q := (RX6, TX6, 7)) hKx (z_Pl hP) hE hBs hUs rfl rfl rfl) rfl rfl hl.1 rfl (lv_room (Nat.le_of_ble_eq_true rfl)) dL_law_256 ⟨(show _ + 0 ≤ 601024 by omega), (show _ + 0 ≤ 7293034 by omega)⟩) (fun r5 hw => ?_)
  refine lv_pop hx hb dL_law_259 rfl ?_
  refine lv_aload_n hx hb dL_law_260 rfl (lv_at hl 2 rfl) ?_
  refine lv_aload_n hx hb dL_law_261 rfl (lv_at hl 4 rfl) ?_
  refine lv_iload hx hb dL_law_262 (lv_at hl 0 rfl) ?_
  refine lv_iconst (v := 1) hx hb dL_law_264 (by decide) ?_
  refine lv_iadd hx hb dL_law_265 ?_
  refine lv_topi (fun x6 ex6 => ?_)
  obtain rfl : x6 = nI ((9 * n) + 1) := by rw [ex6]; exact nI_add (9 * n) (1)
  refine va_sld hx hb hX hbl hbA hS (vp_in_nI (show (9 * n) + 1 < L by omega) (by omega)) dL_law_266 ?_
  refine lv_topi (fun x7 ex7 => ?_)
  refine lv_aload_n hx hb dL_law_267 rfl (lv_at hl 4 rfl) ?_
  refine lv_iload hx hb dL_law_268 (lv_at hl 0 rfl) ?_
  refine lv_iconst (v := 2) hx hb dL_law_270 (by decide) ?_
  refine lv_iadd hx hb dL_law_271 ?_
  refine lv_topi (fun x8 ex8 => ?_)
  obtain rfl : x8 = nI ((9 * n) + 2) := by rw [ex8]; exact nI_add (9 * n) (2)
  refine va_sld hx hb hX hbl hbA hS (vp_in_nI (show (9 * n) + 2 < L by omega) (by omega)) dL_law_272 ?_
  refine lv_topi (fun x9 ex9 => ?_)
  have hPm := z_Pp z_pm hP
  have hDm := z_Dp z_pm hD
  obtain ⟨v0, a1, bs, cl, a5, a6, a7, fc, a9, mb, a11, a12, a13, a14, a15, a16, a17, a18, a19, a20, az, v22, v23, v24, v25, v26, bb, ct, a30, a31, a32, a33, a34, a35, a36, a37, pil, rwv, rl, v41, v42, v43, v44, v45, hIr, hO9, hC9, rfl⟩ := hM
  have hIr0 := hIr
  obtain ⟨ghtp, ghbs, ghus, ghcl, ghfc, ghmb, ghct, ghpil, ghrwv⟩ := hIr0
  have hFm := z_Fl hDm hS hA
  refine va_calli (va_runV (As := [.int x7, .int x9]) (rest := []) ⟨hx, hb, hml, hown, hts⟩ (kX7_count l dC dI h0 r cI cJ cZ v0 a1 tn bs cl a5 a6 a7 fc a9 mb a11 a12 a13 a14 a15 a16 a17 a18 a19 a20 az v22 v23 v24 v25 v26 bb ct un a30 a31 a32 a33 a34 a35 a36 a37 pil rwv rl v41 v42 v43 v44 v45 hIr x7 x9  H.size) (cwV 2 hts zgL_law_X7_count_41 rfl rfl rfl (by decide +kernel) ⟨(show 2 + 1 ≤ 10 by omega), (show 8 + (6 + 11) + 46 ≤ 372 by omega)⟩) (zVm (ci := 6) (q0 := 0) (q := (RX7, TX7, 46)) hKr (z_Pl hPm) (z_Dl hDm) hL (fun q h1 h2 => hS.2.1 q h1 h2) hFm rfl rfl rfl) rfl rfl hl.1 rfl (lv_room (Nat.le_of_ble_eq_true rfl)) dL_law_273 ⟨(show _ + 0 ≤ 601024 by omega), (show _ + 0 ≤ 7293034 by omega)⟩) hS (fun q _ h => hFm q h) hFm (fun r10 y0_th t H2 locs ht2 hvm2 hw2 hB2 hz2 hk2 hS => ?_)
  obtain ⟨hP2, hK2, hD2⟩ := hB2
  rw [ht2] at hP2
  obtain ⟨hP, hD⟩ := z_Jn hPm hDm hk2 hFm hP2 hD2
  have hP := z_Pp z_pm.symm hP
  have hD := z_Dp z_pm.symm hD
  have hw2 : (True) := hw2
  have p0_ := hw2
  refine lv_pop hx hb dL_law_276 rfl ?_
  have hG : zInv dC dI xh tb xb xu rh cI cJ cB cQ cV cZ h0 r ro (fun q : Nat => s.heap.size ≤ q) H2 := ⟨tn, bn, un, bf, wf, Rw, Ex, Bl, Ul, _, fo, hIy, hRc, hEx, hbz, hBl, hUl, ⟨y0_th, a1, bs, cl, a5, a6, a7, fc, a9, mb, a11, a12, a13, a14, a15, a16, a17, a18, a19, a20, az, v22, v23, v24, v25, v26, bb, ct, a30, a31, a32, a33, a34, a35, a36, a37, pil, rwv, rl, v41, v42, v43, v44, v45, ⟨(by omega), (by omega), (by omega), ghcl, ghfc, ghmb, ghct, ghpil, ghrwv⟩, hO9, hC9, rfl⟩, hP, hD⟩
  refine lv_goto (tgt := 874) hx hb dL_law_277 (by decide) ?_
  refine W.widen (k := cells + 17) (n := slots + 1697) (by omega) (by omega) ?_
  exact kk _ _ _ hG hS (lv_sub hl [0, 1, 2, 3, 4] rfl)
theorem dL_law_280 : decode cL_law 280 = .ok (.aload_n 1, 1) := by decide +kernel
theorem dL_law_281 : decode cL_law 281 = .ok (.aload_n 0, 1) := by decide +kernel
theorem dL_law_282 : decode cL_law 282 = .ok (.iload 4, 2) := by decide +kernel
theorem dL_law_284 : decode cL_law 284 = .ok (.iconst 1, 1) := by decide +kernel
theorem dL_law_285 : decode cL_law 285 = .ok (.iadd, 1) := by decide +kernel
theorem dL_law_286 : decode cL_law 286 = .ok (.iaload, 1) := by decide +kernel
theorem dL_law_287 : decode cL_law 287 = .ok (.aload_n 0, 1) := by decide +kernel
theorem dL_law_288 : decode cL_law 288 = .ok (.iload 4, 2) := by decide +kernel
theorem dL_law_290 : decode cL_law 290 = .ok (.iconst 2, 1) := by decide +kernel
theorem dL_law_291 : decode cL_law 291 = .ok (.iadd, 1) := by decide +kernel
theorem dL_law_292 : decode cL_law 292 = .ok (.iaload, 1) := by decide +kernel
theorem dL_law_293 : decode cL_law 293 = .ok (.invokevirtual 42, 3) := by decide +kernel
theorem dL_law_296 : decode cL_law 296 = .ok (.pop, 1) := by decide +kernel
theorem dL_law_297 : decode cL_law 297 = .ok (.aload_n 2, 1) := by decide +kernel
theorem dL_law_298 : decode cL_law 298 = .ok (.aload_n 0, 1) := by decide +kernel
theorem dL_law_299 : decode cL_law 299 = .ok (.iload 4, 2) := by decide +kernel
theorem dL_law_301 : decode cL_law 301 = .ok (.iconst 1, 1) := by decide +kernel
theorem dL_law_302 : decode cL_law 302 = .ok (.iadd, 1) := by decide +kernel
theorem dL_law_303 : decode cL_law 303 = .ok (.iaload, 1) := by decide +kernel
theorem dL_law_304 : decode cL_law 304 = .ok (.aload_n 0, 1) := by decide +kernel
theorem dL_law_305 : decode cL_law 305 = .ok (.iload 4, 2) := by decide +kernel
theorem dL_law_307 : decode cL_law 307 = .ok (.iconst 2, 1) := by decide +kernel
theorem dL_law_308 : decode cL_law 308 = .ok (.iadd, 1) := by decide +kernel
theorem dL_law_309 : decode cL_law 309 = .ok (.iaload, 1) := by decide +kernel
theorem dL_law_310 : decode cL_law 310 = .ok (.invokevirtual 45, 3) := by decide +kernel
theorem dL_law_313 : decode cL_law 313 = .ok (.pop, 1) := by decide +kernel
theorem dL_law_314 : decode cL_law 314 = .ok (.goto 560, 3) := by decide +kernel
set_option maxHeartbeats 4000000 in
set_option maxRecDepth 100000 in
theorem zc_4 {p : Program} {l : Launch} {e : Env} {s : State} {m : MethodId} {below : List Frame} {meth : Method} {c : Code} {dC : Nat → ClassId} {dI : Nat → Nat → Nat} {b L : Nat} {xs : Nat → Int32} (C0 : lw_At p s m meth c b L xs) (hL9 : L ≤ 4608) (hE : zF s) (hL : zL (fun q : Nat => s.heap.size ≤ q) s s.heap) (hl9 : l.stackTraces = false) {sa sb : Nat} (hXs : zX sa sb s) (hZs : zZ (fun q : Nat => s.heap.size ≤ q) s s.heap) {xh tb xb xu rh : Nat} {cI cJ cB cQ cV cZ : ClassId} {h0 : Nat} {r : Nat → Nat} {ro : Nat} (hK : va_K (dC, dI) vwCl [(cI, .int), (cJ, .long), (cB, .byte), (cQ, .object RX0), (cV, .object RX5), (cZ, .boolean)] s) {n cells slots : Nat} (hn : 9 * n + 9 ≤ L) (hcc : cells + 17 ≤ 601024) (hss : slots + 1697 ≤ 7293034) {H : Heap} {locs : List Loc} (hG : zInv dC dI xh tb xb xu rh cI cJ cB cQ cV cZ h0 r ro (fun q : Nat => s.heap.size ≤ q) H) (hS : va_S (fun q : Nat => s.heap.size ≤ q) s.heap H locs) {ls : Array Slot} (hl : lv_has ls 7 [(4, .int (nI (9 * n))), (3, .ref ro), (2, .ref h0), (1, .ref xh), (0, .ref b)]) (kk : ∀ (H : Heap) (locs : List Loc) (ls : Array Slot), zInv dC dI xh tb xb xu rh cI cJ cB cQ cV cZ h0 r ro (fun q : Nat => s.heap.size ≤ q) H → va_S (fun q : Nat => s.heap.size ≤ q) s.heap H locs → lv_has ls 7 [(4, .int (nI (9 * n))), (3, .ref ro), (2, .ref h0), (1, .ref xh), (0, .ref b)] → W p l e room_1 s m #[Value.ref b] below meth c H locs (cells + 17) (slots + 1697) (lw_Z below #[Value.ref b] s) (F0 m 874 ls [])) : W p l e room_1 s m #[Value.ref b] below meth c H locs cells slots (lw_Z below #[Value.ref b] s) (F0 m 280 ls []) := by
  obtain ⟨hx, hb, hr, hml, hown, hts, hX, hbl, hlocks, hgv⟩ := id C0
  have hown : s.vm.findClass RL = some m.cls := hown
  have hA : ∀ q : Nat, s.heap.size ≤ q → (fun q : Nat => s.heap.size ≤ q) q := fun _ h => h
  have hbA : ¬ (fun q : Nat => s.heap.size ≤ q) b := Nat.not_le.mpr hbl
  obtain ⟨tn, bn, un, bf, wf, Rw, Ex, Bl, Ul, Mw, fo, hIy, hRc, hEx, hbz, hBl, hUl, hM, hP, hD⟩ := hG
  have hKx := hK.sub (tys' := [(cI, .int), (cJ, .long), (cB, .byte), (cQ, .object RX0), (cV, .object RX5)]) [0, 1, 2, 3, 4] rfl
  have hKr := hK.sub (tys' := [(cI, .int), (cJ, .long), (cZ, .boolean)]) [0, 1, 5] rfl
  have hIy0 := hIy
  obtain ⟨htn, hbn, hun⟩ := hIy0
  refine lv_aload_n hx hb dL_law_280 rfl (lv_at hl 3 rfl) ?_
  refine lv_aload_n hx hb dL_law_281 rfl (lv_at hl 4 rfl) ?_
  refine lv_iload hx hb dL_law_282 (lv_at hl 0 rfl) ?_
  refine lv_iconst (v := 1) hx hb dL_law_284 (by decide) ?_
  refine lv_iadd hx hb dL_law_285 ?_
  refine lv_topi (fun x1 ex1 => ?_)
  obtain rfl : x1 = nI ((9 * n) + 1) := by rw [ex1]; exact nI_add (9 * n) (1)
  refine va_sld hx hb hX hbl hbA hS (vp_in_nI (show (9 * n) + 1 < L by omega) (by omega)) dL_law_286 ?_
  refine lv_topi (fun x2 ex2 => ?_)
  refine lv_aload_n hx hb dL_law_287 rfl (lv_at hl 4 rfl) ?_
  refine lv_iload hx hb dL_law_288 (lv_at hl 0 rfl) ?_
  refine lv_iconst (v := 2) hx hb dL_law_290 (by decide) ?_
  refine lv_iadd hx hb dL_law_291 ?_
  refine lv_topi (fun x3 ex3 => ?_)
  obtain rfl : x3 = nI ((9 * n) + 2) := by rw [ex3]; exact nI_add (9 * n) (2)
  refine va_sld hx hb hX hbl hbA hS (vp_in_nI (show (9 * n) + 2 < L by omega) (by omega)) dL_law_292 ?_
  refine lv_topi (fun x4 ex4 => ?_)
  have hBs : zBs (dC, dI) cI cJ cB bn bf H := hBl.bs (z_Pl (z_Pr (z_Pr (z_Pr hP))))
  have hUs : zUs (dC, dI) cI cJ cB un wf H := hUl.us (z_Pl (z_Pr (z_Pr (z_Pr (z_Pr hP)))))
  refine vp_callSi (W.runV (As := [.int x2, .int x4]) (rest := []) ⟨hx, hb, hml, hown, hts⟩ (kX6_name l dC dI xh tb xb xu rh cI cJ cB cQ cV tn bn un bf wf hIy x2 x4) (cwV 2 hts zgL_law_X6_name_42 rfl rfl rfl (by decide +kernel) ⟨(show 1 + 1 ≤ 10 by omega), (show 8 + (4 + 11) + 21 ≤ 372 by omega)⟩) (zVX (ci := 5) (q0 := 0) (q := (RX6, TX6, 7)) hKx (z_Pl hP) hE hBs hUs rfl rfl rfl) rfl rfl hl.1 rfl (lv_room (Nat.le_of_ble_eq_true rfl)) dL_law_293 ⟨(show _ + 0 ≤ 601024 by omega), (show _ + 0 ≤ 7293034 by omega)⟩) (fun r5 hw => ?_)
  refine lv_pop hx hb dL_law_296 rfl ?_
  refine lv_aload_n hx hb dL_law_297 rfl (lv_at hl 2 rfl) ?_
  refine lv_aload_n hx hb dL_law_298 rfl (lv_at hl 4 rfl) ?_
  refine lv_iload hx hb dL_law_299 (lv_at hl 0 rfl) ?_
  refine lv_iconst (v := 1) hx hb dL_law_301 (by decide) ?_
  refine lv_iadd hx hb dL_law_302 ?_
  refine lv_topi (fun x6 ex6 => ?_)
  obtain rfl : x6 = nI ((9 * n) + 1) := by rw [ex6]; exact nI_add (9 * n) (1)
  refine va_sld hx hb hX hbl hbA hS (vp_in_nI (show (9 * n) + 1 < L by omega) (by omega)) dL_law_303 ?_
  refine lv_topi (fun x7 ex7 => ?_)
  refine lv_aload_n hx hb dL_law_304 rfl (lv_at hl 4 rfl) ?_
  refine lv_iload hx hb dL_law_305 (lv_at hl 0 rfl) ?_
  refine lv_iconst (v := 2) hx hb dL_law_307 (by decide) ?_
  refine lv_iadd hx hb dL_law_308 ?_
  refine lv_topi (fun x8 ex8 => ?_)
  obtain rfl : x8 = nI ((9 * n) + 2) := by rw [ex8]; exact nI_add (9 * n) (2)
  refine va_sld hx hb hX hbl hbA hS (vp_in_nI (show (9 * n) + 2 < L by omega) (by omega)) dL_law_309 ?_
  refine lv_topi (fun x9 ex9 => ?_)
  have hPm := z_Pp z_pm hP
  have hDm := z_Dp z_pm hD
  obtain ⟨v0, a1, bs, cl, a5, a6, a7, fc, a9, mb, a11, a12, a13, a14, a15, a16, a17, a18, a19, a20, az, v22, v23, v24, v25, v26, bb, ct, a30, a31, a32, a33, a34, a35, a36, a37, pil, rwv, rl, v41, v42, v43, v44, v45, hIr, hO9, hC9, rfl⟩ := hM
  have hIr0 := hIr
  obtain ⟨ghtp, ghbs, ghus, ghcl, ghfc, ghmb, ghct, ghpil, ghrwv⟩ := hIr0
  have hFm := z_Fl hDm hS hA
  refine va_calli (va_runV (As := [.int x7, .int x9]) (rest := []) ⟨hx, hb, hml, hown, hts⟩ (kX7_name l dC dI h0 r cI cJ cZ v0 a1 tn bs cl a5 a6 a7 fc a9 mb a11 a12 a13 a14 a15 a16 a17 a18 a19 a20 az v22 v23 v24 v25 v26 bb ct un a30 a31 a32 a33 a34 a35 a36 a37 pil rwv rl v41 v42 v43 v44 v45 hIr x7 x9  H.size) (cwV 2 hts zgL_law_X7_name_45 rfl rfl rfl (by decide +kernel) ⟨(show 2 + 1 ≤ 10 by omega), (show 8 + (3 + 11) + 46 ≤ 372 by omega)⟩) (zVm (ci := 6) (q0 := 0) (q := (RX7, TX7, 46)) hKr (z_Pl hPm) (z_Dl hDm) hL (fun q h1 h2 => hS.2.1 q h1 h2) hFm rfl rfl rfl) rfl rfl hl.1 rfl (lv_room (Nat.le_of_ble_eq_true rfl)) dL_law_310 ⟨(show _ + 0 ≤ 601024 by omega), (show _ + 0 ≤ 7293034 by omega)⟩) hS (fun q _ h => hFm q h) hFm (fun r10 y0_th t H2 locs ht2 hvm2 hw2 hB2 hz2 hk2 hS => ?_)
  obtain ⟨hP2, hK2, hD2⟩ := hB2
  rw [ht2] at hP2
  obtain ⟨hP, hD⟩ := z_Jn hPm hDm hk2 hFm hP2 hD2
  have hP := z_Pp z_pm.symm hP
  have hD := z_Dp z_pm.symm hD
  have hw2 : (True) := hw2
  have p0_ := hw2
  refine lv_pop hx hb dL_law_313 rfl ?_
  have hG : zInv dC dI xh tb xb xu rh cI cJ cB cQ cV cZ h0 r ro (fun q : Nat => s.heap.size ≤ q) H2 := ⟨tn, bn, un, bf, wf, Rw, Ex, Bl, Ul, _, fo, hIy, hRc, hEx, hbz, hBl, hUl, ⟨y0_th, a1, bs, cl, a5, a6, a7, fc, a9, mb, a11, a12, a13, a14, a15, a16, a17, a18, a19, a20, az, v22, v23, v24, v25, v26, bb, ct, a30, a31, a32, a33, a34, a35, a36, a37, pil, rwv, rl, v41, v42, v43, v44, v45, ⟨(by omega), (by omega), (by omega), ghcl, ghfc, ghmb, ghct, ghpil, ghrwv⟩, hO9, hC9, rfl⟩, hP, hD⟩
  refine lv_goto (tgt := 874) hx hb dL_law_314 (by decide) ?_
  refine W.widen (k := cells + 17) (n := slots + 1697) (by omega) (by omega) ?_
  exact kk _ _ _ hG hS (lv_sub hl [0, 1, 2, 3, 4] rfl)
theorem dL_law_317 : decode cL_law 317 = .ok (.aload_n 1, 1) := by decide +kernel
theorem dL_law_318 : decode cL_law 318 = .ok (.aload_n 0, 1) := by decide +kernel
theorem dL_law_319 : decode cL_law 319 = .ok (.iload 4, 2) := by decide +kernel
theorem dL_law_321 : decode cL_law 321 = .ok (.iconst 1, 1) := by decide +kernel
theorem dL_law_322 : decode cL_law 322 = .ok (.iadd, 1) := by decide +kernel
theorem dL_law_323 : decode cL_law 323 = .ok (.iaload, 1) := by decide +kernel
theorem dL_law_324 : decode cL_law 324 = .ok (.aload_n 0, 1) := by decide +kernel
theorem dL_law_325 : decode cL_law 325 = .ok (.iload 4, 2) := by decide +kernel
theorem dL_law_327 : decode cL_law 327 = .ok (.iconst 2, 1) := by decide +kernel
theorem dL_law_328 : decode cL_law 328 = .ok (.iadd, 1) := by decide +kernel
theorem dL_law_329 : decode cL_law 329 = .ok (.iaload, 1) := by decide +kernel
theorem dL_law_330 : decode cL_law 330 = .ok (.aload_n 0, 1) := by decide +kernel
theorem dL_law_331 : decode cL_law 331 = .ok (.iload 4, 2) := by decide +kernel
theorem dL_law_333 : decode cL_law 333 = .ok (.iconst 3, 1) := by decide +kernel
theorem dL_law_334 : decode cL_law 334 = .ok (.iadd, 1) := by decide +kernel
theorem dL_law_335 : decode cL_law 335 = .ok (.iaload, 1) := by decide +kernel
theorem dL_law_336 : decode cL_law 336 = .ok (.invokevirtual 46, 3) := by decide +kernel
theorem dL_law_339 : decode cL_law 339 = .ok (.pop, 1) := by decide +kernel
theorem dL_law_340 : decode cL_law 340 = .ok (.aload_n 2, 1) := by decide +kernel
theorem dL_law_341 : decode cL_law 341 = .ok (.aload_n 0, 1) := by decide +kernel
theorem dL_law_342 : decode cL_law 342 = .ok (.iload 4, 2) := by decide +kernel
theorem dL_law_344 : decode cL_law 344 = .ok (.iconst 1, 1) := by decide +kernel
theorem dL_law_345 : decode cL_law 345 = .ok (.iadd, 1) := by decide +kernel
theorem dL_law_346 : decode cL_law 346 = .ok (.iaload, 1) := by decide +kernel
theorem dL_law_347 : decode cL_law 347 = .ok (.aload_n 0, 1) := by decide +kernel
theorem dL_law_348 : decode cL_law 348 = .ok (.iload 4, 2) := by decide +kernel
theorem dL_law_350 : decode cL_law 350 = .ok (.iconst 2, 1) := by decide +kernel
theorem dL_law_351 : decode cL_law 351 = .ok (.iadd, 1) := by decide +kernel
theorem dL_law_352 : decode cL_law 352 = .ok (.iaload, 1) := by decide +kernel
theorem dL_law_353 : decode cL_law 353 = .ok (.aload_n 0, 1) := by decide +kernel
theorem dL_law_354 : decode cL_law 354 = .ok (.iload 4, 2) := by decide +kernel
theorem dL_law_356 : decode cL_law 356 = .ok (.iconst 3, 1) := by decide +kernel
theorem dL_law_357 : decode cL_law 357 = .ok (.iadd, 1) := by decide +kernel
theorem dL_law_358 : decode cL_law 358 = .ok (.iaload, 1) := by decide +kernel
theorem dL_law_359 : decode cL_law 359 = .ok (.invokevirtual 50, 3) := by decide +kernel
theorem dL_law_362 : decode cL_law 362 = .ok (.pop, 1) := by decide +kernel
theorem dL_law_363 : decode cL_law 363 = .ok (.goto 511, 3) := by decide +kernel
set_option maxHeartbeats 4000000 in
set_option maxRecDepth 100000 in
theorem zc_5 {p : Program} {l : Launch} {e : Env} {s : State} {m : MethodId} {below : List Frame} {meth : Method} {c : Code} {dC : Nat → ClassId} {dI : Nat → Nat → Nat} {b L : Nat} {xs : Nat → Int32} (C0 : lw_At p s m meth c b L xs) (hL9 : L ≤ 4608) (hE : zF s) (hL : zL (fun q : Nat => s.heap.size ≤ q) s s.heap) (hl9 : l.stackTraces = false) {sa sb : Nat} (hXs : zX sa sb s) (hZs : zZ (fun q : Nat => s.heap.size ≤ q) s s.heap) {xh tb xb xu rh : Nat} {cI cJ cB cQ cV cZ : ClassId} {h0 : Nat} {r : Nat → Nat} {ro : Nat} (hK : va_K (dC, dI) vwCl [(cI, .int), (cJ, .long), (cB, .byte), (cQ, .object RX0), (cV, .object RX5), (cZ, .boolean)] s) {n cells slots : Nat} (hn : 9 * n + 9 ≤ L) (hcc : cells + 17 ≤ 601024) (hss : slots + 1697 ≤ 7293034) {H : Heap} {locs : List Loc} (hG : zInv dC dI xh tb xb xu rh cI cJ cB cQ cV cZ h0 r ro (fun q : Nat => s.heap.size ≤ q) H) (hS : va_S (fun q : Nat => s.heap.size ≤ q) s.heap H locs) {ls : Array Slot} (hl : lv_has ls 7 [(4, .int (nI (9 * n))), (3, .ref ro), (2, .ref h0), (1, .ref xh), (0, .ref b)]) (kk : ∀ (H : Heap) (locs : List Loc) (ls : Array Slot), zInv dC dI xh tb xb xu rh cI cJ cB cQ cV cZ h0 r ro (fun q : Nat => s.heap.size ≤ q) H → va_S (fun q : Nat => s.heap.size ≤ q) s.heap H locs → lv_has ls 7 [(4, .int (nI (9 * n))), (3, .ref ro), (2, .ref h0), (1, .ref xh), (0, .ref b)] → W p l e room_1 s m #[Value.ref b] below meth c H locs (cells + 17) (slots + 1697) (lw_Z below #[Value.ref b] s) (F0 m 874 ls [])) : W p l e room_1 s m #[Value.ref b] below meth c H locs cells slots (lw_Z below #[Value.ref b] s) (F0 m 317 ls []) := by
  obtain ⟨hx, hb, hr, hml, hown, hts, hX, hbl, hlocks, hgv⟩ := id C0
  have hown : s.vm.findClass RL = some m.cls := hown
  have hA : ∀ q : Nat, s.heap.size ≤ q → (fun q : Nat => s.heap.size ≤ q) q := fun _ h => h
  have hbA : ¬ (fun q : Nat => s.heap.size ≤ q) b := Nat.not_le.mpr hbl
  obtain ⟨tn, bn, un, bf, wf, Rw, Ex, Bl, Ul, Mw, fo, hIy, hRc, hEx, hbz, hBl, hUl, hM, hP, hD⟩ := hG
  have hKx := hK.sub (tys' := [(cI, .int), (cJ, .long), (cB, .byte), (cQ, .object RX0), (cV, .object RX5)]) [0, 1, 2, 3, 4] rfl
  have hKr := hK.sub (tys' := [(cI, .int), (cJ, .long), (cZ, .boolean)]) [0, 1, 5] rfl
  have hIy0 := hIy
  obtain ⟨htn, hbn, hun⟩ := hIy0
  refine lv_aload_n hx hb dL_law_317 rfl (lv_at hl 3 rfl) ?_
  refine lv_aload_n hx hb dL_law_318 rfl (lv_at hl 4 rfl) ?_
  refine lv_iload hx hb dL_law_319 (lv_at hl 0 rfl) ?_
  refine lv_iconst (v := 1) hx hb dL_law_321 (by decide) ?_
  refine lv_iadd hx hb dL_law_322 ?_
  refine lv_topi (fun x1 ex1 => ?_)
  obtain rfl : x1 = nI ((9 * n) + 1) := by rw [ex1]; exact nI_add (9 * n) (1)
  refine va_sld hx hb hX hbl hbA hS (vp_in_nI (show (9 * n) + 1 < L by omega) (by omega)) dL_law_323 ?_
  refine lv_topi (fun x2 ex2 => ?_)
  refine lv_aload_n hx hb dL_law_324 rfl (lv_at hl 4 rfl) ?_
  refine lv_iload hx hb dL_law_325 (lv_at hl 0 rfl) ?_
  refine lv_iconst (v := 2) hx hb dL_law_327 (by decide) ?_
  refine lv_iadd hx hb dL_law_328 ?_
  refine lv_topi (fun x3 ex3 => ?_)
  obtain rfl : x3 = nI ((9 * n) + 2) := by rw [ex3]; exact nI_add (9 * n) (2)
  refine va_sld hx hb hX hbl hbA hS (vp_in_nI (show (9 * n) + 2 < L by omega) (by omega)) dL_law_329 ?_
  refine lv_topi (fun x4 ex4 => ?_)
  refine lv_aload_n hx hb dL_law_330 rfl (lv_at hl 4 rfl) ?_
  refine lv_iload hx hb dL_law_331 (lv_at hl 0 rfl) ?_
  refine lv_iconst (v := 3) hx hb dL_law_333 (by decide) ?_
  refine lv_iadd hx hb dL_law_334 ?_
  refine lv_topi (fun x5 ex5 => ?_)
  obtain rfl : x5 = nI ((9 * n) + 3) := by rw [ex5]; exact nI_add (9 * n) (3)
  refine va_sld hx hb hX hbl hbA hS (vp_in_nI (show (9 * n) + 3 < L by omega) (by omega)) dL_law_335 ?_
  refine lv_topi (fun x6 ex6 => ?_)
  have hBs : zBs (dC, dI) cI cJ cB bn bf H := hBl.bs (z_Pl (z_Pr (z_Pr (z_Pr hP))))
  have hUs : zUs (dC, dI) cI cJ cB un wf H := hUl.us (z_Pl (z_Pr (z_Pr (z_Pr (z_Pr hP)))))
  refine vp_callSi (W.runV (As := [.int x2, .int x4, .int x6]) (rest := []) ⟨hx, hb, hml, hown, hts⟩ (kX6_is l dC dI xh tb xb xu rh cI cJ cB cQ cV tn bn un bf wf hIy x2 x4 x6) (cwV 3 hts zgL_law_X6_is_46 rfl rfl rfl (by decide +kernel) ⟨(show 1 + 1 ≤ 10 by omega), (show 8 + (7 + 11) + 22 ≤ 372 by omega)⟩) (zVX (ci := 5) (q0 := 0) (q := (RX6, TX6, 7)) hKx (z_Pl hP) hE hBs hUs rfl rfl rfl) rfl rfl hl.1 rfl (lv_room (Nat.le_of_ble_eq_true rfl)) dL_law_336 ⟨(show _ + 0 ≤ 601024 by omega), (show _ + 0 ≤ 7293034 by omega)⟩) (fun r7 hw => ?_)
  refine lv_pop hx hb dL_law_339 rfl ?_
  refine lv_aload_n hx hb dL_law_340 rfl (lv_at hl 2 rfl) ?_
  refine lv_aload_n hx hb dL_law_341 rfl (lv_at hl 4 rfl) ?_
  refine lv_iload hx hb dL_law_342 (lv_at hl 0 rfl) ?_
  refine lv_iconst (v := 1) hx hb dL_law_344 (by decide) ?_
  refine lv_iadd hx hb dL_law_345 ?_
  refine lv_topi (fun x8 ex8 => ?_)
  obtain rfl : x8 = nI ((9 * n) + 1) := by rw [ex8]; exact nI_add (9 * n) (1)
  refine va_sld hx hb hX hbl hbA hS (vp_in_nI (show (9 * n) + 1 < L by omega) (by omega)) dL_law_346 ?_
  refine lv_topi (fun x9 ex9 => ?_)
  refine lv_aload_n hx hb dL_law_347 rfl (lv_at hl 4 rfl) ?_
  refine lv_iload hx hb dL_law_348 (lv_at hl 0 rfl) ?_
  refine lv_iconst (v := 2) hx hb dL_law_350 (by decide) ?_
  refine lv_iadd hx hb dL_law_351 ?_
  refine lv_topi (fun x10 ex10 => ?_)
  obtain rfl : x10 = nI ((9 * n) + 2) := by rw [ex10]; exact nI_add (9 * n) (2)
  refine va_sld hx hb hX hbl hbA hS (vp_in_nI (show (9 * n) + 2 < L by omega) (by omega)) dL_law_352 ?_
  refine lv_topi (fun x11 ex11 => ?_)
  refine lv_aload_n hx hb dL_law_353 rfl (lv_at hl 4 rfl) ?_
  refine lv_iload hx hb dL_law_354 (lv_at hl 0 rfl) ?_
  refine lv_iconst (v := 3) hx hb dL_law_356 (by decide) ?_
  refine lv_iadd hx hb dL_law_357 ?_
  refine lv_topi (fun x12 ex12 => ?_)
  obtain rfl : x12 = nI ((9 * n) + 3) := by rw [ex12]; exact nI_add (9 * n) (3)
  refine va_sld hx hb hX hbl hbA hS (vp_in_nI (show (9 * n) + 3 < L by omega) (by omega)) dL_law_358 ?_
  refine lv_topi (fun x13 ex13 => ?_)
  have hPm := z_Pp z_pm hP
  have hDm := z_Dp z_pm hD
  obtain ⟨v0, a1, bs, cl, a5, a6, a7, fc, a9, mb, a11, a12, a13, a14, a15, a16, a17, a18, a19, a20, az, v22, v23, v24, v25, v26, bb, ct, a30, a31, a32, a33, a34, a35, a36, a37, pil, rwv, rl, v41, v42, v43, v44, v45, hIr, hO9, hC9, rfl⟩ := hM
  have hIr0 := hIr
  obtain ⟨ghtp, ghbs, ghus, ghcl, ghfc, ghmb, ghct, ghpil, ghrwv⟩ := hIr0
  have hFm := z_Fl hDm hS hA
  refine va_calli (va_runV (As := [.int x9, .int x11, .int x13]) (rest := []) ⟨hx, hb, hml, hown, hts⟩ (kX7_is l dC dI h0 r cI cJ cZ v0 a1 tn bs cl a5 a6 a7 fc a9 mb a11 a12 a13 a14 a15 a16 a17 a18 a19 a20 az v22 v23 v24 v25 v26 bb ct un a30 a31 a32 a33 a34 a35 a36 a37 pil rwv rl v41 v42 v43 v44 v45 hIr x9 x11 x13 hO9 H.size) (cwV 3 hts zgL_law_X7_is_50 rfl rfl rfl (by decide +kernel) ⟨(show 2 + 1 ≤ 10 by omega), (show 8 + (5 + 11) + 46 ≤ 372 by omega)⟩) (zVm (ci := 6) (q0 := 0) (q := (RX7, TX7, 46)) hKr (z_Pl hPm) (z_Dl hDm) hL (fun q h1 h2 => hS.2.1 q h1 h2) hFm rfl rfl rfl) rfl rfl hl.1 rfl (lv_room (Nat.le_of_ble_eq_true rfl)) dL_law_359 ⟨(show _ + 0 ≤ 601024 by omega), (show _ + 0 ≤ 7293034 by omega)⟩) hS (fun q _ h => hFm q h) hFm (fun r14 y0_th t H2 locs ht2 hvm2 hw2 hB2 hz2 hk2 hS => ?_)
  obtain ⟨hP2, hK2, hD2⟩ := hB2
  rw [ht2] at hP2
  obtain ⟨hP, hD⟩ := z_Jn hPm hDm hk2 hFm hP2 hD2
  have hP := z_Pp z_pm.symm hP
  have hD := z_Dp z_pm.symm hD
  have hw2 : (True) := hw2
  have p0_ := hw2
  refine lv_pop hx hb dL_law_362 rfl ?_
  have hG : zInv dC dI xh tb xb xu rh cI cJ cB cQ cV cZ h0 r ro (fun q : Nat => s.heap.size ≤ q) H2 := ⟨tn, bn, un, bf, wf, Rw, Ex, Bl, Ul, _, fo, hIy, hRc, hEx, hbz, hBl, hUl, ⟨y0_th, a1, bs, cl, a5, a6, a7, fc, a9, mb, a11, a12, a13, a14, a15, a16, a17, a18, a19, a20, az, v22, v23, v24, v25, v26, bb, ct, a30, a31, a32, a33, a34, a35, a36, a37, pil, rwv, rl, v41, v42, v43, v44, v45, ⟨(by omega), (by omega), (by omega), ghcl, ghfc, ghmb, ghct, ghpil, ghrwv⟩, hO9, hC9, rfl⟩, hP, hD⟩
  refine lv_goto (tgt := 874) hx hb dL_law_363 (by decide) ?_
  refine W.widen (k := cells + 17) (n := slots + 1697) (by omega) (by omega) ?_
  exact kk _ _ _ hG hS (lv_sub hl [0, 1, 2, 3, 4] rfl)
theorem dL_law_501 : decode cL_law 501 = .ok (.aload_n 1, 1) := by decide +kernel
theorem dL_law_502 : decode cL_law 502 = .ok (.aload_n 0, 1) := by decide +kernel
theorem dL_law_503 : decode cL_law 503 = .ok (.iload 4, 2) := by decide +kernel
theorem dL_law_505 : decode cL_law 505 = .ok (.iconst 1, 1) := by decide +kernel
theorem dL_law_506 : decode cL_law 506 = .ok (.iadd, 1) := by decide +kernel
theorem dL_law_507 : decode cL_law 507 = .ok (.iaload, 1) := by decide +kernel
theorem dL_law_508 : decode cL_law 508 = .ok (.aload_n 0, 1) := by decide +kernel
theorem dL_law_509 : decode cL_law 509 = .ok (.iload 4, 2) := by decide +kernel
theorem dL_law_511 : decode cL_law 511 = .ok (.iconst 2, 1) := by decide +kernel
theorem dL_law_512 : decode cL_law 512 = .ok (.iadd, 1) := by decide +kernel
theorem dL_law_513 : decode cL_law 513 = .ok (.iaload, 1) := by decide +kernel
theorem dL_law_514 : decode cL_law 514 = .ok (.invokevirtual 56, 3) := by decide +kernel
theorem dL_law_517 : decode cL_law 517 = .ok (.pop, 1) := by decide +kernel
theorem dL_law_518 : decode cL_law 518 = .ok (.aload_n 2, 1) := by decide +kernel
theorem dL_law_519 : decode cL_law 519 = .ok (.aload_n 0, 1) := by decide +kernel
theorem dL_law_520 : decode cL_law 520 = .ok (.iload 4, 2) := by decide +kernel
theorem dL_law_522 : decode cL_law 522 = .ok (.iconst 1, 1) := by decide +kernel
theorem dL_law_523 : decode cL_law 523 = .ok (.iadd, 1) := by decide +kernel
theorem dL_law_524 : decode cL_law 524 = .ok (.iaload, 1) := by decide +kernel
theorem dL_law_525 : decode cL_law 525 = .ok (.aload_n 0, 1) := by decide +kernel
theorem dL_law_526 : decode cL_law 526 = .ok (.iload 4, 2) := by decide +kernel
theorem dL_law_528 : decode cL_law 528 = .ok (.iconst 2, 1) := by decide +kernel
theorem dL_law_529 : decode cL_law 529 = .ok (.iadd, 1) := by decide +kernel
theorem dL_law_530 : decode cL_law 530 = .ok (.iaload, 1) := by decide +kernel
theorem dL_law_531 : decode cL_law 531 = .ok (.invokevirtual 59, 3) := by decide +kernel
theorem dL_law_534 : decode cL_law 534 = .ok (.pop, 1) := by decide +kernel
theorem dL_law_535 : decode cL_law 535 = .ok (.goto 339, 3) := by decide +kernel
set_option maxHeartbeats 4000000 in
set_option maxRecDepth 100000 in
theorem zc_7 {p : Program} {l : Launch} {e : Env} {s : State} {m : MethodId} {below : List Frame} {meth : Method} {c : Code} {dC : Nat → ClassId} {dI : Nat → Nat → Nat} {b L : Nat} {xs : Nat → Int32} (C0 : lw_At p s m meth c b L xs) (hL9 : L ≤ 4608) (hE : zF s) (hL : zL (fun q : Nat => s.heap.size ≤ q) s s.heap) (hl9 : l.stackTraces = false) {sa sb : Nat} (hXs : zX sa sb s) (hZs : zZ (fun q : Nat => s.heap.size ≤ q) s s.heap) {xh tb xb xu rh : Nat} {cI cJ cB cQ cV cZ : ClassId} {h0 : Nat} {r : Nat → Nat} {ro : Nat} (hK : va_K (dC, dI) vwCl [(cI, .int), (cJ, .long), (cB, .byte), (cQ, .object RX0), (cV, .object RX5), (cZ, .boolean)] s) {n cells slots : Nat} (hn : 9 * n + 9 ≤ L) (hcc : cells + 17 ≤ 601024) (hss : slots + 1697 ≤ 7293034) {H : Heap} {locs : List Loc} (hG : zInv dC dI xh tb xb xu rh cI cJ cB cQ cV cZ h0 r ro (fun q : Nat => s.heap.size ≤ q) H) (hS : va_S (fun q : Nat => s.heap.size ≤ q) s.heap H locs) {ls : Array Slot} (hl : lv_has ls 7 [(4, .int (nI (9 * n))), (3, .ref ro), (2, .ref h0), (1, .ref xh), (0, .ref b)]) (kk : ∀ (H : Heap) (locs : List Loc) (ls : Array Slot), zInv dC dI xh tb xb xu rh cI cJ cB cQ cV cZ h0 r ro (fun q : Nat => s.heap.size ≤ q) H → va_S (fun q : Nat => s.heap.size ≤ q) s.heap H locs → lv_has ls 7 [(4, .int (nI (9 * n))), (3, .ref ro), (2, .ref h0), (1, .ref xh), (0, .ref b)] → W p l e room_1 s m #[Value.ref b] below meth c H locs (cells + 17) (slots + 1697) (lw_Z below #[Value.ref b] s) (F0 m 874 ls [])) : W p l e room_1 s m #[Value.ref b] below meth c H locs cells slots (lw_Z below #[Value.ref b] s) (F0 m 501 ls []) := by
  obtain ⟨hx, hb, hr, hml, hown, hts, hX, hbl, hlocks, hgv⟩ := id C0
  have hown : s.vm.findClass RL = some m.cls := hown
  have hA : ∀ q : Nat, s.heap.size ≤ q → (fun q : Nat => s.heap.size ≤ q) q := fun _ h => h
  have hbA : ¬ (fun q : Nat => s.heap.size ≤ q) b := Nat.not_le.mpr hbl
  obtain ⟨tn, bn, un, bf, wf, Rw, Ex, Bl, Ul, Mw, fo, hIy, hRc, hEx, hbz, hBl, hUl, hM, hP, hD⟩ := hG
  have hKx := hK.sub (tys' := [(cI, .int), (cJ, .long), (cB, .byte), (cQ, .object RX0), (cV, .object RX5)]) [0, 1, 2, 3, 4] rfl
  have hKr := hK.sub (tys' := [(cI, .int), (cJ, .long), (cZ, .boolean)]) [0, 1, 5] rfl
  have hIy0 := hIy
  obtain ⟨htn, hbn, hun⟩ := hIy0
  refine lv_aload_n hx hb dL_law_501 rfl (lv_at hl 3 rfl) ?_
  refine lv_aload_n hx hb dL_law_502 rfl (lv_at hl 4 rfl) ?_
  refine lv_iload hx hb dL_law_503 (lv_at hl 0 rfl) ?_
  refine lv_iconst (v := 1) hx hb dL_law_505 (by decide) ?_
  refine lv_iadd hx hb dL_law_506 ?_
  refine lv_topi (fun x1 ex1 => ?_)
  obtain rfl : x1 = nI ((9 * n) + 1) := by rw [ex1]; exact nI_add (9 * n) (1)
  refine va_sld hx hb hX hbl hbA hS (vp_in_nI (show (9 * n) + 1 < L by omega) (by omega)) dL_law_507 ?_
  refine lv_topi (fun x2 ex2 => ?_)
  refine lv_aload_n hx hb dL_law_508 rfl (lv_at hl 4 rfl) ?_
  refine lv_iload hx hb dL_law_509 (lv_at hl 0 rfl) ?_
  refine lv_iconst (v := 2) hx hb dL_law_511 (by decide) ?_
  refine lv_iadd hx hb dL_law_512 ?_
  refine lv_topi (fun x3 ex3 => ?_)
  obtain rfl : x3 = nI ((9 * n) + 2) := by rw [ex3]; exact nI_add (9 * n) (2)
  refine va_sld hx hb hX hbl hbA hS (vp_in_nI (show (9 * n) + 2 < L by omega) (by omega)) dL_law_513 ?_
  refine lv_topi (fun x4 ex4 => ?_)
  have hBs : zBs (dC, dI) cI cJ cB bn bf H := hBl.bs (z_Pl (z_Pr (z_Pr (z_Pr hP))))
  have hUs : zUs (dC, dI) cI cJ cB un wf H := hUl.us (z_Pl (z_Pr (z_Pr (z_Pr (z_Pr hP)))))
  refine vp_callSi (W.runV (As := [.int x2, .int x4]) (rest := []) ⟨hx, hb, hml, hown, hts⟩ (kX6_link l dC dI xh tb xb xu rh cI cJ cB cQ cV tn bn un bf wf hIy x2 x4) (cwV 2 hts zgL_law_X6_link_56 rfl rfl rfl (by decide +kernel) ⟨(show 6 + 1 ≤ 10 by omega), (show 8 + (3 + 11) + 145 ≤ 372 by omega)⟩) (zVX (ci := 5) (q0 := 0) (q := (RX6, TX6, 7)) hKx (z_Pl hP) hE hBs hUs rfl rfl rfl) rfl rfl hl.1 rfl (lv_room (Nat.le_of_ble_eq_true rfl)) dL_law_514 ⟨(show _ + 0 ≤ 601024 by omega), (show _ + 0 ≤ 7293034 by omega)⟩) (fun r5 hw => ?_)
  refine lv_pop hx hb dL_law_517 rfl ?_
  refine lv_aload_n hx hb dL_law_518 rfl (lv_at hl 2 rfl) ?_
  refine lv_aload_n hx hb dL_law_519 rfl (lv_at hl 4 rfl) ?_
  refine lv_iload hx hb dL_law_520 (lv_at hl 0 rfl) ?_
  refine lv_iconst (v := 1) hx hb dL_law_522 (by decide) ?_
  refine lv_iadd hx hb dL_law_523 ?_
  refine lv_topi (fun x6 ex6 => ?_)
  obtain rfl : x6 = nI ((9 * n) + 1) := by rw [ex6]; exact nI_add (9 * n) (1)
  refine va_sld hx hb hX hbl hbA hS (vp_in_nI (show (9 * n) + 1 < L by omega) (by omega)) dL_law_524 ?_
  refine lv_topi (fun x7 ex7 => ?_)
  refine lv_aload_n hx hb dL_law_525 rfl (lv_at hl 4 rfl) ?_
  refine lv_iload hx hb dL_law_526 (lv_at hl 0 rfl) ?_
  refine lv_iconst (v := 2) hx hb dL_law_528 (by decide) ?_
  refine lv_iadd hx hb dL_law_529 ?_
  refine lv_topi (fun x8 ex8 => ?_)
  obtain rfl : x8 = nI ((9 * n) + 2) := by rw [ex8]; exact nI_add (9 * n) (2)
  refine va_sld hx hb hX hbl hbA hS (vp_in_nI (show (9 * n) + 2 < L by omega) (by omega)) dL_law_530 ?_
  refine lv_topi (fun x9 ex9 => ?_)
  have hPm := z_Pp z_pm hP
  have hDm := z_Dp z_pm hD
  obtain ⟨v0, a1, bs, cl, a5, a6, a7, fc, a9, mb, a11, a12, a13, a14, a15, a16, a17, a18, a19, a20, az, v22, v23, v24, v25, v26, bb, ct, a30, a31, a32, a33, a34, a35, a36, a37, pil, rwv, rl, v41, v42, v43, v44, v45, hIr, hO9, hC9, rfl⟩ := hM
  have hIr0 := hIr
  obtain ⟨ghtp, ghbs, ghus, ghcl, ghfc, ghmb, ghct, ghpil, ghrwv⟩ := hIr0
  have hFm := z_Fl hDm hS hA
  refine va_calli (va_runV (As := [.int x7, .int x9]) (rest := []) ⟨hx, hb, hml, hown, hts⟩ (kX7_link l dC dI h0 r cI cJ cZ v0 a1 tn bs cl a5 a6 a7 fc a9 mb a11 a12 a13 a14 a15 a16 a17 a18 a19 a20 az v22 v23 v24 v25 v26 bb ct un a30 a31 a32 a33 a34 a35 a36 a37 pil rwv rl v41 v42 v43 v44 v45 hIr x7 x9 hO9 H.size) (cwV 2 hts zgL_law_X7_link_59 rfl rfl rfl (by decide +kernel) ⟨(show 5 + 1 ≤ 10 by omega), (show 8 + (4 + 11) + 130 ≤ 372 by omega)⟩) (zVm (ci := 6) (q0 := 0) (q := (RX7, TX7, 46)) hKr (z_Pl hPm) (z_Dl hDm) hL (fun q h1 h2 => hS.2.1 q h1 h2) hFm rfl rfl rfl) rfl rfl hl.1 rfl (lv_room (Nat.le_of_ble_eq_true rfl)) dL_law_531 ⟨(show _ + 0 ≤ 601024 by omega), (show _ + 0 ≤ 7293034 by omega)⟩) hS (fun q _ h => hFm q h) hFm (fun r10 u8 t H2 locs ht2 hvm2 hw2 hB2 hz2 hk2 hS => ?_)
  obtain ⟨y0_th, y1_rl2, y2_pil2, y3_rwv2, y4_b0, y5_b1, y6_b2, y7_lk⟩ := u8
  obtain ⟨hP2, hK2, hD2⟩ := hB2
  rw [ht2] at hP2
  obtain ⟨hP, hD⟩ := z_Jn hPm hDm hk2 hFm hP2 hD2
  have hP := z_Pp z_pm.symm hP
  have hD := z_Dp z_pm.symm hD
  have hw2 : (∀ j, y2_pil2 j ≤ 15) ∧ (∀ j, y3_rwv2 j ≤ 15) := hw2
  obtain ⟨p0_, p1_⟩ := hw2
  refine lv_pop hx hb dL_law_534 rfl ?_
  have hG : zInv dC dI xh tb xb xu rh cI cJ cB cQ cV cZ h0 r ro (fun q : Nat => s.heap.size ≤ q) H2 := ⟨tn, bn, un, bf, wf, Rw, Ex, Bl, Ul, _, fo, hIy, hRc, hEx, hbz, hBl, hUl, ⟨y0_th, a1, bs, cl, a5, a6, a7, fc, a9, mb, a11, a12, a13, a14, a15, a16, a17, a18, a19, a20, az, v22, v23, v24, v25, v26, bb, ct, a30, a31, a32, a33, a34, a35, a36, a37, y2_pil2, y3_rwv2, y1_rl2, v41, y7_lk, y4_b0, y5_b1, y6_b2, ⟨(by omega), (by omega), (by omega), ghcl, ghfc, ghmb, ghct, p0_, p1_⟩, hO9, hC9, rfl⟩, hP, hD⟩
  refine lv_goto (tgt := 874) hx hb dL_law_535 (by decide) ?_
  refine W.widen (k := cells + 17) (n := slots + 1697) (by omega) (by omega) ?_
  exact kk _ _ _ hG hS (lv_sub hl [0, 1, 2, 3, 4] rfl)
