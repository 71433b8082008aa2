theorem dL_law_206 : decode cL_law 206 = .ok (.aload_n 1, 1) := by decide +kernel
theorem dL_law_207 : decode cL_law 207 = .ok (.aload_n 0, 1) := by decide +kernel
theorem dL_law_208 : decode cL_law 208 = .ok (.iload 4, 2) := by decide +kernel
theorem dL_law_210 : decode cL_law 210 = .ok (.iconst 1, 1) := by decide +kernel
theorem dL_law_211 : decode cL_law 211 = .ok (.iadd, 1) := by decide +kernel
theorem dL_law_212 : decode cL_law 212 = .ok (.iaload, 1) := by decide +kernel
theorem dL_law_213 : decode cL_law 213 = .ok (.aload_n 0, 1) := by decide +kernel
theorem dL_law_214 : decode cL_law 214 = .ok (.iload 4, 2) := by decide +kernel
theorem dL_law_216 : decode cL_law 216 = .ok (.iconst 2, 1) := by decide +kernel
theorem dL_law_217 : decode cL_law 217 = .ok (.iadd, 1) := by decide +kernel
theorem dL_law_218 : decode cL_law 218 = .ok (.iaload, 1) := by decide +kernel
theorem dL_law_219 : decode cL_law 219 = .ok (.invokevirtual 33, 3) := by decide +kernel
theorem dL_law_222 : decode cL_law 222 = .ok (.aload_n 2, 1) := by decide +kernel
theorem dL_law_223 : decode cL_law 223 = .ok (.aload_n 0, 1) := by decide +kernel
theorem dL_law_224 : decode cL_law 224 = .ok (.iload 4, 2) := by decide +kernel
theorem dL_law_226 : decode cL_law 226 = .ok (.iconst 1, 1) := by decide +kernel
theorem dL_law_227 : decode cL_law 227 = .ok (.iadd, 1) := by decide +kernel
theorem dL_law_228 : decode cL_law 228 = .ok (.iaload, 1) := by decide +kernel
theorem dL_law_229 : decode cL_law 229 = .ok (.aload_n 0, 1) := by decide +kernel
theorem dL_law_230 : decode cL_law 230 = .ok (.iload 4, 2) := by decide +kernel
theorem dL_law_232 : decode cL_law 232 = .ok (.iconst 2, 1) := by decide +kernel
theorem dL_law_233 : decode cL_law 233 = .ok (.iadd, 1) := by decide +kernel
theorem dL_law_234 : decode cL_law 234 = .ok (.iaload, 1) := by decide +kernel
theorem dL_law_235 : decode cL_law 235 = .ok (.invokevirtual 37, 3) := by decide +kernel
theorem dL_law_238 : decode cL_law 238 = .ok (.if_icmp .eq 664, 3) := by decide +kernel
set_option maxHeartbeats 4000000 in
set_option maxRecDepth 100000 in
theorem zc_2 {p : Program} {l : Launch} {e : Env} {s : State} {m : MethodId} {below : List Frame} {meth : Method} {c : Code} {dC : Nat → ClassId} {dI : Nat → Nat → Nat} {b : Nat} {xs : Nat → Int32} (C0 : lw_At p s m meth c b 9 xs)  {ax am ro : Nat} {ux um : Nat → Nat} {H : Heap} {locs : List Loc} (hK : va_K (dC, dI) vwCl [(ux 6, .byte), (ux 7, .object RX0), (ux 8, .object RX5), (um 46, .int), (um 47, .int), (um 48, .int), (um 49, .int), (um 50, .int), (um 51, .long), (um 52, .int), (um 53, .int), (um 54, .int), (um 55, .int)] s) (hP : va_P (dC, dI) vwCl [(ax, .inr (5, [.ref (ux 0), .int 0, .ref (ux 1), .int 0, .ref (ux 2), .int 0, .ref (ux 3)])), (ux 0, .inl (ux 6, 800, .inl (fun _ => 0))), (ux 1, .inl (ux 7, 5, .inr (.inr (.inr (.inr (fun _ => none)))))), (ux 2, .inl (ux 8, 40, .inr (.inr (.inr (.inr (fun _ => none)))))), (ux 3, .inr (1, [.ref (ux 4), .ref (ux 5), .int 0, .int 0, .int 0])), (ux 4, .inr (3, [.ref (ux 0), .int 0, .int 0, .int 0, .int 0, .long 0])), (am, .inr (6, zM 0 um)), (um 1, .inl (um 46, 800, .inl (fun _ => 0))), (um 4, .inl (um 47, 5, .inl (fun _ => 0))), (um 30, .inl (um 48, 40, .inl (fun _ => 0))), (um 31, .inl (um 49, 40, .inl (fun _ => 0))), (um 32, .inl (um 50, 40, .inl (fun _ => 0))), (um 33, .inl (um 51, 40, .inr (.inl (fun _ => 0)))), (um 34, .inl (um 52, 40, .inl (fun _ => 0))), (um 35, .inl (um 53, 40, .inl (fun _ => 0))), (um 36, .inl (um 54, 40, .inl (fun _ => 0))), (um 37, .inl (um 55, 40, .inl (fun _ => 0)))] H) (hD : va_D (fun q : Nat => s.heap.size ≤ q) [(ax, .inr (5, [.ref (ux 0), .int 0, .ref (ux 1), .int 0, .ref (ux 2), .int 0, .ref (ux 3)])), (ux 0, .inl (ux 6, 800, .inl (fun _ => 0))), (ux 1, .inl (ux 7, 5, .inr (.inr (.inr (.inr (fun _ => none)))))), (ux 2, .inl (ux 8, 40, .inr (.inr (.inr (.inr (fun _ => none)))))), (ux 3, .inr (1, [.ref (ux 4), .ref (ux 5), .int 0, .int 0, .int 0])), (ux 4, .inr (3, [.ref (ux 0), .int 0, .int 0, .int 0, .int 0, .long 0])), (am, .inr (6, zM 0 um)), (um 1, .inl (um 46, 800, .inl (fun _ => 0))), (um 4, .inl (um 47, 5, .inl (fun _ => 0))), (um 30, .inl (um 48, 40, .inl (fun _ => 0))), (um 31, .inl (um 49, 40, .inl (fun _ => 0))), (um 32, .inl (um 50, 40, .inl (fun _ => 0))), (um 33, .inl (um 51, 40, .inr (.inl (fun _ => 0)))), (um 34, .inl (um 52, 40, .inl (fun _ => 0))), (um 35, .inl (um 53, 40, .inl (fun _ => 0))), (um 36, .inl (um 54, 40, .inl (fun _ => 0))), (um 37, .inl (um 55, 40, .inl (fun _ => 0)))]) (hS : va_S (fun q : Nat => s.heap.size ≤ q) s.heap H locs) {ls : Array Slot} (hl : lv_has ls 7 [(4, .int 0), (3, .ref ro), (2, .ref am), (1, .ref ax), (0, .ref b)]) : W p l e room_1 s m #[Value.ref b] below meth c H locs 38 11351 (lw_Z below #[Value.ref b] s) (F0 m 206 ls []) := by
  have C1 := C0
  obtain ⟨hx, hb, hr, hml, hown, hts, hX, hbl, hlocks, hgv⟩ := C0
  have hown : s.vm.findClass RL = some m.cls := hown
  have hA : ∀ q : Nat, s.heap.size ≤ q → (fun q : Nat => s.heap.size ≤ q) q := fun _ h => h
  have hbA : ¬ (fun q : Nat => s.heap.size ≤ q) b := Nat.not_le.mpr hbl
  refine lv_aload_n hx hb dL_law_206 rfl (lv_at hl 3 rfl) ?_
  refine lv_aload_n hx hb dL_law_207 rfl (lv_at hl 4 rfl) ?_
  refine lv_iload hx hb dL_law_208 (lv_at hl 0 rfl) ?_
  refine lv_iconst (v := 1) hx hb dL_law_210 (by decide) ?_
  refine lv_iadd hx hb dL_law_211 ?_
  refine lv_topi (fun x1 ex1 => ?_)
  obtain rfl : x1 = 1 := by rw [ex1]; decide
  refine va_sld hx hb hX hbl hbA hS (by unfold vp_in; decide : vp_in 1 9) dL_law_212 ?_
  refine W.eq (g2 := F0 m 213 ls [.int (xs 1), .ref ax]) rfl ?_
  refine lv_aload_n hx hb dL_law_213 rfl (lv_at hl 4 rfl) ?_
  refine lv_iload hx hb dL_law_214 (lv_at hl 0 rfl) ?_
  refine lv_iconst (v := 2) hx hb dL_law_216 (by decide) ?_
  refine lv_iadd hx hb dL_law_217 ?_
  refine lv_topi (fun x2 ex2 => ?_)
  obtain rfl : x2 = 2 := by rw [ex2]; decide
  refine va_sld hx hb hX hbl hbA hS (by unfold vp_in; decide : vp_in 2 9) dL_law_218 ?_
  refine W.eq (g2 := F0 m 219 ls [.int (xs 2), .int (xs 1), .ref ax]) rfl ?_
  refine vp_callSi (W.runV (As := [.int (xs 1), .int (xs 2)]) (rest := []) ⟨hx, hb, hml, hown, hts⟩ (zX6_defined l dC dI ax (ux 0) (ux 1) (ux 2) (ux 3) (xs 1) (xs 2)) (cwV 2 hts zgL_law_X6_defined_33 rfl rfl rfl (by decide +kernel) ⟨(show 1 + 1 ≤ 10 by omega), (show 8 + (5 + 11) + 21 ≤ 372 by omega)⟩) (zVr (ci := 5) (q0 := 0) (q := (RX6, TX6, 7)) (hK.sub (tys' := []) [] rfl) (hP.sub (ws' := [(ax, .inr (5, [.ref (ux 0), .int 0, .ref (ux 1), .int 0, .ref (ux 2), .int 0, .ref (ux 3)]))]) [0] rfl) rfl rfl rfl) rfl rfl hl.1 rfl (lv_room (Nat.le_of_ble_eq_true rfl)) dL_law_219 ⟨(show 38 + 0 ≤ 600002 by omega), (show 11351 + 0 ≤ 7302232 by omega)⟩) (fun r3 hr3 => ?_)
  subst hr3
  refine lv_aload_n hx hb dL_law_222 rfl (lv_at hl 2 rfl) ?_
  refine lv_aload_n hx hb dL_law_223 rfl (lv_at hl 4 rfl) ?_
  refine lv_iload hx hb dL_law_224 (lv_at hl 0 rfl) ?_
  refine lv_iconst (v := 1) hx hb dL_law_226 (by decide) ?_
  refine lv_iadd hx hb dL_law_227 ?_
  refine lv_topi (fun x4 ex4 => ?_)
  obtain rfl : x4 = 1 := by rw [ex4]; decide
  refine va_sld hx hb hX hbl hbA hS (by unfold vp_in; decide : vp_in 1 9) dL_law_228 ?_
  refine W.eq (g2 := F0 m 229 ls [.int (xs 1), .ref am, .int (-2)]) rfl ?_
  refine lv_aload_n hx hb dL_law_229 rfl (lv_at hl 4 rfl) ?_
  refine lv_iload hx hb dL_law_230 (lv_at hl 0 rfl) ?_
  refine lv_iconst (v := 2) hx hb dL_law_232 (by decide) ?_
  refine lv_iadd hx hb dL_law_233 ?_
  refine lv_topi (fun x5 ex5 => ?_)
  obtain rfl : x5 = 2 := by rw [ex5]; decide
  refine va_sld hx hb hX hbl hbA hS (by unfold vp_in; decide : vp_in 2 9) dL_law_234 ?_
  refine W.eq (g2 := F0 m 235 ls [.int (xs 2), .int (xs 1), .ref am, .int (-2)]) rfl ?_
  have hPc := hP.sub (ws' := [(am, .inr (6, zM 0 um))]) [6] rfl
  have hDc := hD.sub (ws' := [(am, .inr (6, zM 0 um))]) [6] (by decide) rfl
  have hKc := hK.sub (tys' := []) [] rfl
  have hFc := va_free (wc := [(am, .inr (6, zM 0 um))]) hD hS hA [6] rfl
  refine va_calli (va_runV (As := [.int (xs 1), .int (xs 2)]) (rest := [.int (-2)]) ⟨hx, hb, hml, hown, hts⟩ (zX7_defined l dC dI am um H.size (xs 1) (xs 2)) (cwV 2 hts zgL_law_X7_defined_37 rfl rfl rfl (by decide +kernel) ⟨(show 2 + 1 ≤ 10 by omega), (show 8 + (4 + 11) + 46 ≤ 372 by omega)⟩) (zVw (ci := 6) (q0 := 0) (q := (RX7, TX7, 46)) hKc hPc hDc rfl rfl rfl) rfl rfl hl.1 rfl (lv_room (Nat.le_of_ble_eq_true rfl)) dL_law_235 ⟨(show 38 + 0 ≤ 600002 by omega), (show 11351 + 0 ≤ 7302232 by omega)⟩) hS (fun q _ h => hFc q h) hFc (fun r7 u6 t H1 locs ht hvm hw hB hz1 hk1 hS => ?_)
  obtain ⟨hP, hD⟩ := z_rest (wr := [(ax, .inr (5, [.ref (ux 0), .int 0, .ref (ux 1), .int 0, .ref (ux 2), .int 0, .ref (ux 3)])), (ux 0, .inl (ux 6, 800, .inl (fun _ => 0))), (ux 1, .inl (ux 7, 5, .inr (.inr (.inr (.inr (fun _ => none)))))), (ux 2, .inl (ux 8, 40, .inr (.inr (.inr (.inr (fun _ => none)))))), (ux 3, .inr (1, [.ref (ux 4), .ref (ux 5), .int 0, .int 0, .int 0])), (ux 4, .inr (3, [.ref (ux 0), .int 0, .int 0, .int 0, .int 0, .long 0])), (um 1, .inl (um 46, 800, .inl (fun _ => 0))), (um 4, .inl (um 47, 5, .inl (fun _ => 0))), (um 30, .inl (um 48, 40, .inl (fun _ => 0))), (um 31, .inl (um 49, 40, .inl (fun _ => 0))), (um 32, .inl (um 50, 40, .inl (fun _ => 0))), (um 33, .inl (um 51, 40, .inr (.inl (fun _ => 0)))), (um 34, .inl (um 52, 40, .inl (fun _ => 0))), (um 35, .inl (um 53, 40, .inl (fun _ => 0))), (um 36, .inl (um 54, 40, .inl (fun _ => 0))), (um 37, .inl (um 55, 40, .inl (fun _ => 0)))]) hP hD [6] [0, 1, 2, 3, 4, 5, 7, 8, 9, 10, 11, 12, 13, 14, 15, 16] rfl rfl (by decide) (by decide) hk1 hFc
  have hK := hK.sub (tys' := [(ux 6, .byte), (ux 7, .object RX0), (ux 8, .object RX5), (um 46, .int), (um 47, .int), (um 48, .int), (um 49, .int), (um 50, .int), (um 51, .long), (um 52, .int), (um 53, .int), (um 54, .int), (um 55, .int)]) [0, 1, 2, 3, 4, 5, 6, 7, 8, 9, 10, 11, 12] rfl
  generalize H1 = H at hP hS ⊢
  have hP : va_P (dC, dI) vwCl [(ax, .inr (5, [.ref (ux 0), .int 0, .ref (ux 1), .int 0, .ref (ux 2), .int 0, .ref (ux 3)])), (ux 0, .inl (ux 6, 800, .inl (fun _ => 0))), (ux 1, .inl (ux 7, 5, .inr (.inr (.inr (.inr (fun _ => none)))))), (ux 2, .inl (ux 8, 40, .inr (.inr (.inr (.inr (fun _ => none)))))), (ux 3, .inr (1, [.ref (ux 4), .ref (ux 5), .int 0, .int 0, .int 0])), (ux 4, .inr (3, [.ref (ux 0), .int 0, .int 0, .int 0, .int 0, .long 0])), (um 1, .inl (um 46, 800, .inl (fun _ => 0))), (um 4, .inl (um 47, 5, .inl (fun _ => 0))), (um 30, .inl (um 48, 40, .inl (fun _ => 0))), (um 31, .inl (um 49, 40, .inl (fun _ => 0))), (um 32, .inl (um 50, 40, .inl (fun _ => 0))), (um 33, .inl (um 51, 40, .inr (.inl (fun _ => 0)))), (um 34, .inl (um 52, 40, .inl (fun _ => 0))), (um 35, .inl (um 53, 40, .inl (fun _ => 0))), (um 36, .inl (um 54, 40, .inl (fun _ => 0))), (um 37, .inl (um 55, 40, .inl (fun _ => 0)))] H := hP
  have hD : va_D (fun q : Nat => s.heap.size ≤ q) [(ax, .inr (5, [.ref (ux 0), .int 0, .ref (ux 1), .int 0, .ref (ux 2), .int 0, .ref (ux 3)])), (ux 0, .inl (ux 6, 800, .inl (fun _ => 0))), (ux 1, .inl (ux 7, 5, .inr (.inr (.inr (.inr (fun _ => none)))))), (ux 2, .inl (ux 8, 40, .inr (.inr (.inr (.inr (fun _ => none)))))), (ux 3, .inr (1, [.ref (ux 4), .ref (ux 5), .int 0, .int 0, .int 0])), (ux 4, .inr (3, [.ref (ux 0), .int 0, .int 0, .int 0, .int 0, .long 0])), (um 1, .inl (um 46, 800, .inl (fun _ => 0))), (um 4, .inl (um 47, 5, .inl (fun _ => 0))), (um 30, .inl (um 48, 40, .inl (fun _ => 0))), (um 31, .inl (um 49, 40, .inl (fun _ => 0))), (um 32, .inl (um 50, 40, .inl (fun _ => 0))), (um 33, .inl (um 51, 40, .inr (.inl (fun _ => 0)))), (um 34, .inl (um 52, 40, .inl (fun _ => 0))), (um 35, .inl (um 53, 40, .inl (fun _ => 0))), (um 36, .inl (um 54, 40, .inl (fun _ => 0))), (um 37, .inl (um 55, 40, .inl (fun _ => 0)))] := hD
  have hK : va_K (dC, dI) vwCl [(ux 6, .byte), (ux 7, .object RX0), (ux 8, .object RX5), (um 46, .int), (um 47, .int), (um 48, .int), (um 49, .int), (um 50, .int), (um 51, .long), (um 52, .int), (um 53, .int), (um 54, .int), (um 55, .int)] s := hK
  obtain rfl : r7 = -2 := hw
  refine lv_icmp_eq (tgt := 902) hx hb dL_law_238 (by decide) (fun _ => ?_) (fun c9 => absurd (rfl) c9)
  exact zc_end C1 hS (lv_sub hl [0, 4] rfl) (by omega) (by omega)
theorem dL_law_243 : decode cL_law 243 = .ok (.aload_n 1, 1) := by decide +kernel
theorem dL_law_244 : decode cL_law 244 = .ok (.aload_n 0, 1) := by decide +kernel
theorem dL_law_245 : decode cL_law 245 = .ok (.iload 4, 2) := by decide +kernel
theorem dL_law_247 : decode cL_law 247 = .ok (.iconst 1, 1) := by decide +kernel
theorem dL_law_248 : decode cL_law 248 = .ok (.iadd, 1) := by decide +kernel
theorem dL_law_249 : decode cL_law 249 = .ok (.iaload, 1) := by decide +kernel
theorem dL_law_250 : decode cL_law 250 = .ok (.aload_n 0, 1) := by decide +kernel
theorem dL_law_251 : decode cL_law 251 = .ok (.iload 4, 2) := by decide +kernel
theorem dL_law_253 : decode cL_law 253 = .ok (.iconst 2, 1) := by decide +kernel
theorem dL_law_254 : decode cL_law 254 = .ok (.iadd, 1) := by decide +kernel
theorem dL_law_255 : decode cL_law 255 = .ok (.iaload, 1) := by decide +kernel
theorem dL_law_256 : decode cL_law 256 = .ok (.invokevirtual 38, 3) := by decide +kernel
theorem dL_law_259 : decode cL_law 259 = .ok (.aload_n 2, 1) := by decide +kernel
theorem dL_law_260 : decode cL_law 260 = .ok (.aload_n 0, 1) := by decide +kernel
theorem dL_law_261 : decode cL_law 261 = .ok (.iload 4, 2) := by decide +kernel
theorem dL_law_263 : decode cL_law 263 = .ok (.iconst 1, 1) := by decide +kernel
theorem dL_law_264 : decode cL_law 264 = .ok (.iadd, 1) := by decide +kernel
theorem dL_law_265 : decode cL_law 265 = .ok (.iaload, 1) := by decide +kernel
theorem dL_law_266 : decode cL_law 266 = .ok (.aload_n 0, 1) := by decide +kernel
theorem dL_law_267 : decode cL_law 267 = .ok (.iload 4, 2) := by decide +kernel
theorem dL_law_269 : decode cL_law 269 = .ok (.iconst 2, 1) := by decide +kernel
theorem dL_law_270 : decode cL_law 270 = .ok (.iadd, 1) := by decide +kernel
theorem dL_law_271 : decode cL_law 271 = .ok (.iaload, 1) := by decide +kernel
theorem dL_law_272 : decode cL_law 272 = .ok (.invokevirtual 41, 3) := by decide +kernel
theorem dL_law_275 : decode cL_law 275 = .ok (.if_icmp .eq 627, 3) := by decide +kernel
set_option maxHeartbeats 4000000 in
set_option maxRecDepth 100000 in
theorem zc_3 {p : Program} {l : Launch} {e : Env} {s : State} {m : MethodId} {below : List Frame} {meth : Method} {c : Code} {dC : Nat → ClassId} {dI : Nat → Nat → Nat} {b : Nat} {xs : Nat → Int32} (C0 : lw_At p s m meth c b 9 xs)  {ax am ro : Nat} {ux um : Nat → Nat} {H : Heap} {locs : List Loc} (hK : va_K (dC, dI) vwCl [(ux 6, .byte), (ux 7, .object RX0), (ux 8, .object RX5), (um 46, .int), (um 47, .int), (um 48, .int), (um 49, .int), (um 50, .int), (um 51, .long), (um 52, .int), (um 53, .int), (um 54, .int), (um 55, .int)] s) (hP : va_P (dC, dI) vwCl [(ax, .inr (5, [.ref (ux 0), .int 0, .ref (ux 1), .int 0, .ref (ux 2), .int 0, .ref (ux 3)])), (ux 0, .inl (ux 6, 800, .inl (fun _ => 0))), (ux 1, .inl (ux 7, 5, .inr (.inr (.inr (.inr (fun _ => none)))))), (ux 2, .inl (ux 8, 40, .inr (.inr (.inr (.inr (fun _ => none)))))), (ux 3, .inr (1, [.ref (ux 4), .ref (ux 5), .int 0, .int 0, .int 0])), (ux 4, .inr (3, [.ref (ux 0), .int 0, .int 0, .int 0, .int 0, .long 0])), (am, .inr (6, zM 0 um)), (um 1, .inl (um 46, 800, .inl (fun _ => 0))), (um 4, .inl (um 47, 5, .inl (fun _ => 0))), (um 30, .inl (um 48, 40, .inl (fun _ => 0))), (um 31, .inl (um 49, 40, .inl (fun _ => 0))), (um 32, .inl (um 50, 40, .inl (fun _ => 0))), (um 33, .inl (um 51, 40, .inr (.inl (fun _ => 0)))), (um 34, .inl (um 52, 40, .inl (fun _ => 0))), (um 35, .inl (um 53, 40, .inl (fun _ => 0))), (um 36, .inl (um 54, 40, .inl (fun _ => 0))), (um 37, .inl (um 55, 40, .inl (fun _ => 0)))] H) (hD : va_D (fun q : Nat => s.heap.size ≤ q) [(ax, .inr (5, [.ref (ux 0), .int 0, .ref (ux 1), .int 0, .ref (ux 2), .int 0, .ref (ux 3)])), (ux 0, .inl (ux 6, 800, .inl (fun _ => 0))), (ux 1, .inl (ux 7, 5, .inr (.inr (.inr (.inr (fun _ => none)))))), (ux 2, .inl (ux 8, 40, .inr (.inr (.inr (.inr (fun _ => none)))))), (ux 3, .inr (1, [.ref (ux 4), .ref (ux 5), .int 0, .int 0, .int 0])), (ux 4, .inr (3, [.ref (ux 0), .int 0, .int 0, .int 0, .int 0, .long 0])), (am, .inr (6, zM 0 um)), (um 1, .inl (um 46, 800, .inl (fun _ => 0))), (um 4, .inl (um 47, 5, .inl (fun _ => 0))), (um 30, .inl (um 48, 40, .inl (fun _ => 0))), (um 31, .inl (um 49, 40, .inl (fun _ => 0))), (um 32, .inl (um 50, 40, .inl (fun _ => 0))), (um 33, .inl (um 51, 40, .inr (.inl (fun _ => 0)))), (um 34, .inl (um 52, 40, .inl (fun _ => 0))), (um 35, .inl (um 53, 40, .inl (fun _ => 0))), (um 36, .inl (um 54, 40, .inl (fun _ => 0))), (um 37, .inl (um 55, 40, .inl (fun _ => 0)))]) (hS : va_S (fun q : Nat => s.heap.size ≤ q) s.heap H locs) {ls : Array Slot} (hl : lv_has ls 7 [(4, .int 0), (3, .ref ro), (2, .ref am), (1, .ref ax), (0, .ref b)]) : W p l e room_1 s m #[Value.ref b] below meth c H locs 38 11351 (lw_Z below #[Value.ref b] s) (F0 m 243 ls []) := by
  have C1 := C0
  obtain ⟨hx, hb, hr, hml, hown, hts, hX, hbl, hlocks, hgv⟩ := C0
  have hown : s.vm.findClass RL = some m.cls := hown
  have hA : ∀ q : Nat, s.heap.size ≤ q → (fun q : Nat => s.heap.size ≤ q) q := fun _ h => h
  have hbA : ¬ (fun q : Nat => s.heap.size ≤ q) b := Nat.not_le.mpr hbl
  refine lv_aload_n hx hb dL_law_243 rfl (lv_at hl 3 rfl) ?_
  refine lv_aload_n hx hb dL_law_244 rfl (lv_at hl 4 rfl) ?_
  refine lv_iload hx hb dL_law_245 (lv_at hl 0 rfl) ?_
  refine lv_iconst (v := 1) hx hb dL_law_247 (by decide) ?_
  refine lv_iadd hx hb dL_law_248 ?_
  refine lv_topi (fun x1 ex1 => ?_)
  obtain rfl : x1 = 1 := by rw [ex1]; decide
  refine va_sld hx hb hX hbl hbA hS (by unfold vp_in; decide : vp_in 1 9) dL_law_249 ?_
  refine W.eq (g2 := F0 m 250 ls [.int (xs 1), .ref ax]) rfl ?_
  refine lv_aload_n hx hb dL_law_250 rfl (lv_at hl 4 rfl) ?_
  refine lv_iload hx hb dL_law_251 (lv_at hl 0 rfl) ?_
  refine lv_iconst (v := 2) hx hb dL_law_253 (by decide) ?_
  refine lv_iadd hx hb dL_law_254 ?_
  refine lv_topi (fun x2 ex2 => ?_)
  obtain rfl : x2 = 2 := by rw [ex2]; decide
  refine va_sld hx hb hX hbl hbA hS (by unfold vp_in; decide : vp_in 2 9) dL_law_255 ?_
  refine W.eq (g2 := F0 m 256 ls [.int (xs 2), .int (xs 1), .ref ax]) rfl ?_
  refine vp_callSi (W.runV (As := [.int (xs 1), .int (xs 2)]) (rest := []) ⟨hx, hb, hml, hown, hts⟩ (zX6_count l dC dI ax (ux 0) (ux 1) (ux 2) (ux 3) (xs 1) (xs 2)) (cwV 2 hts zgL_law_X6_count_38 rfl rfl rfl (by decide +kernel) ⟨(show 1 + 1 ≤ 10 by omega), (show 8 + (4 + 11) + 21 ≤ 372 by omega)⟩) (zVr (ci := 5) (q0 := 0) (q := (RX6, TX6, 7)) (hK.sub (tys' := []) [] rfl) (hP.sub (ws' := [(ax, .inr (5, [.ref (ux 0), .int 0, .ref (ux 1), .int 0, .ref (ux 2), .int 0, .ref (ux 3)]))]) [0] rfl) rfl rfl rfl) rfl rfl hl.1 rfl (lv_room (Nat.le_of_ble_eq_true rfl)) dL_law_256 ⟨(show 38 + 0 ≤ 600002 by omega), (show 11351 + 0 ≤ 7302232 by omega)⟩) (fun r3 hr3 => ?_)
  subst hr3
  refine lv_aload_n hx hb dL_law_259 rfl (lv_at hl 2 rfl) ?_
  refine lv_aload_n hx hb dL_law_260 rfl (lv_at hl 4 rfl) ?_
  refine lv_iload hx hb dL_law_261 (lv_at hl 0 rfl) ?_
  refine lv_iconst (v := 1) hx hb dL_law_263 (by decide) ?_
  refine lv_iadd hx hb dL_law_264 ?_
  refine lv_topi (fun x4 ex4 => ?_)
  obtain rfl : x4 = 1 := by rw [ex4]; decide
  refine va_sld hx hb hX hbl hbA hS (by unfold vp_in; decide : vp_in 1 9) dL_law_265 ?_
  refine W.eq (g2 := F0 m 266 ls [.int (xs 1), .ref am, .int (-2)]) rfl ?_
  refine lv_aload_n hx hb dL_law_266 rfl (lv_at hl 4 rfl) ?_
  refine lv_iload hx hb dL_law_267 (lv_at hl 0 rfl) ?_
  refine lv_iconst (v := 2) hx hb dL_law_269 (by decide) ?_
  refine lv_iadd hx hb dL_law_270 ?_
  refine lv_topi (fun x5 ex5 => ?_)
  obtain rfl : x5 = 2 := by rw [ex5]; decide
  refine va_sld hx hb hX hbl hbA hS (by unfold vp_in; decide : vp_in 2 9) dL_law_271 ?_
  refine W.eq (g2 := F0 m 272 ls [.int (xs 2), .int (xs 1), .ref am, .int (-2)]) rfl ?_
  have hPc := hP.sub (ws' := [(am, .inr (6, zM 0 um))]) [6] rfl
  have hDc := hD.sub (ws' := [(am, .inr (6, zM 0 um))]) [6] (by decide) rfl
  have hKc := hK.sub (tys' := []) [] rfl
  have hFc := va_free (wc := [(am, .inr (6, zM 0 um))]) hD hS hA [6] rfl
  refine va_calli (va_runV (As := [.int (xs 1), .int (xs 2)]) (rest := [.int (-2)]) ⟨hx, hb, hml, hown, hts⟩ (zX7_count l dC dI am um H.size (xs 1) (xs 2)) (cwV 2 hts zgL_law_X7_count_41 rfl rfl rfl (by decide +kernel) ⟨(show 2 + 1 ≤ 10 by omega), (show 8 + (6 + 11) + 46 ≤ 372 by omega)⟩) (zVw (ci := 6) (q0 := 0) (q := (RX7, TX7, 46)) hKc hPc hDc rfl rfl rfl) rfl rfl hl.1 rfl (lv_room (Nat.le_of_ble_eq_true rfl)) dL_law_272 ⟨(show 38 + 0 ≤ 600002 by omega), (show 11351 + 0 ≤ 7302232 by omega)⟩) hS (fun q _ h => hFc q h) hFc (fun r7 u6 t H1 locs ht hvm hw hB hz1 hk1 hS => ?_)
  obtain ⟨hP, hD⟩ := z_rest (wr := [(ax, .inr (5, [.ref (ux 0), .int 0, .ref (ux 1), .int 0, .ref (ux 2), .int 0, .ref (ux 3)])), (ux 0, .inl (ux 6, 800, .inl (fun _ => 0))), (ux 1, .inl (ux 7, 5, .inr (.inr (.inr (.inr (fun _ => none)))))), (ux 2, .inl (ux 8, 40, .inr (.inr (.inr (.inr (fun _ => none)))))), (ux 3, .inr (1, [.ref (ux 4), .ref (ux 5), .int 0, .int 0, .int 0])), (ux 4, .inr (3, [.ref (ux 0), .int 0, .int 0, .int 0, .int 0, .long 0])), (um 1, .inl (um 46, 800, .inl (fun _ => 0))), (um 4, .inl (um 47, 5, .inl (fun _ => 0))), (um 30, .inl (um 48, 40, .inl (fun _ => 0))), (um 31, .inl (um 49, 40, .inl (fun _ => 0))), (um 32, .inl (um 50, 40, .inl (fun _ => 0))), (um 33, .inl (um 51, 40, .inr (.inl (fun _ => 0)))), (um 34, .inl (um 52, 40, .inl (fun _ => 0))), (um 35, .inl (um 53, 40, .inl (fun _ => 0))), (um 36, .inl (um 54, 40, .inl (fun _ => 0))), (um 37, .inl (um 55, 40, .inl (fun _ => 0)))]) hP hD [6] [0, 1, 2, 3, 4, 5, 7, 8, 9, 10, 11, 12, 13, 14, 15, 16] rfl rfl (by decide) (by decide) hk1 hFc
  have hK := hK.sub (tys' := [(ux 6, .byte), (ux 7, .object RX0), (ux 8, .object RX5), (um 46, .int), (um 47, .int), (um 48, .int), (um 49, .int), (um 50, .int), (um 51, .long), (um 52, .int), (um 53, .int), (um 54, .int), (um 55, .int)]) [0, 1, 2, 3, 4, 5, 6, 7, 8, 9, 10, 11, 12] rfl
  generalize H1 = H at hP hS ⊢
  have hP : va_P (dC, dI) vwCl [(ax, .inr (5, [.ref (ux 0), .int 0, .ref (ux 1), .int 0, .ref (ux 2), .int 0, .ref (ux 3)])), (ux 0, .inl (ux 6, 800, .inl (fun _ => 0))), (ux 1, .inl (ux 7, 5, .inr (.inr (.inr (.inr (fun _ => none)))))), (ux 2, .inl (ux 8, 40, .inr (.inr (.inr (.inr (fun _ => none)))))), (ux 3, .inr (1, [.ref (ux 4), .ref (ux 5), .int 0, .int 0, .int 0])), (ux 4, .inr (3, [.ref (ux 0), .int 0, .int 0, .int 0, .int 0, .long 0])), (um 1, .inl (um 46, 800, .inl (fun _ => 0))), (um 4, .inl (um 47, 5, .inl (fun _ => 0))), (um 30, .inl (um 48, 40, .inl (fun _ => 0))), (um 31, .inl (um 49, 40, .inl (fun _ => 0))), (um 32, .inl (um 50, 40, .inl (fun _ => 0))), (um 33, .inl (um 51, 40, .inr (.inl (fun _ => 0)))), (um 34, .inl (um 52, 40, .inl (fun _ => 0))), (um 35, .inl (um 53, 40, .inl (fun _ => 0))), (um 36, .inl (um 54, 40, .inl (fun _ => 0))), (um 37, .inl (um 55, 40, .inl (fun _ => 0)))] H := hP
  have hD : va_D (fun q : Nat => s.heap.size ≤ q) [(ax, .inr (5, [.ref (ux 0), .int 0, .ref (ux 1), .int 0, .ref (ux 2), .int 0, .ref (ux 3)])), (ux 0, .inl (ux 6, 800, .inl (fun _ => 0))), (ux 1, .inl (ux 7, 5, .inr (.inr (.inr (.inr (fun _ => none)))))), (ux 2, .inl (ux 8, 40, .inr (.inr (.inr (.inr (fun _ => none)))))), (ux 3, .inr (1, [.ref (ux 4), .ref (ux 5), .int 0, .int 0, .int 0])), (ux 4, .inr (3, [.ref (ux 0), .int 0, .int 0, .int 0, .int 0, .long 0])), (um 1, .inl (um 46, 800, .inl (fun _ => 0))), (um 4, .inl (um 47, 5, .inl (fun _ => 0))), (um 30, .inl (um 48, 40, .inl (fun _ => 0))), (um 31, .inl (um 49, 40, .inl (fun _ => 0))), (um 32, .inl (um 50, 40, .inl (fun _ => 0))), (um 33, .inl (um 51, 40, .inr (.inl (fun _ => 0)))), (um 34, .inl (um 52, 40, .inl (fun _ => 0))), (um 35, .inl (um 53, 40, .inl (fun _ => 0))), (um 36, .inl (um 54, 40, .inl (fun _ => 0))), (um 37, .inl (um 55, 40, .inl (fun _ => 0)))] := hD
  have hK : va_K (dC, dI) vwCl [(ux 6, .byte), (ux 7, .object RX0), (ux 8, .object RX5), (um 46, .int), (um 47, .int), (um 48, .int), (um 49, .int), (um 50, .int), (um 51, .long), (um 52, .int), (um 53, .int), (um 54, .int), (um 55, .int)] s := hK
  obtain rfl : r7 = -2 := hw
  refine lv_icmp_eq (tgt := 902) hx hb dL_law_275 (by decide) (fun _ => ?_) (fun c9 => absurd (rfl) c9)
  exact zc_end C1 hS (lv_sub hl [0, 4] rfl) (by omega) (by omega)
theorem dL_law_280 : decode cL_law 280 = .ok (.aload_n 1, 1) := by decide +kernel
theorem dL_law_281 : decode cL_law 281 = .ok (.aload_n 0, 1) := by decide +kernel
theorem dL_law_282 : decode cL_law 282 = .ok (.iload 4, 2) := by decide +kernel
theorem dL_law_284 : decode cL_law 284 = .ok (.iconst 1, 1) := by decide +kernel
theorem dL_law_285 : decode cL_law 285 = .ok (.iadd, 1) := by decide +kernel
theorem dL_law_286 : decode cL_law 286 = .ok (.iaload, 1) := by decide +kernel
theorem dL_law_287 : decode cL_law 287 = .ok (.aload_n 0, 1) := by decide +kernel
theorem dL_law_288 : decode cL_law 288 = .ok (.iload 4, 2) := by decide +kernel
theorem dL_law_290 : decode cL_law 290 = .ok (.iconst 2, 1) := by decide +kernel
theorem dL_law_291 : decode cL_law 291 = .ok (.iadd, 1) := by decide +kernel
theorem dL_law_292 : decode cL_law 292 = .ok (.iaload, 1) := by decide +kernel
theorem dL_law_293 : decode cL_law 293 = .ok (.invokevirtual 42, 3) := by decide +kernel
theorem dL_law_296 : decode cL_law 296 = .ok (.aload_n 2, 1) := by decide +kernel
theorem dL_law_297 : decode cL_law 297 = .ok (.aload_n 0, 1) := by decide +kernel
theorem dL_law_298 : decode cL_law 298 = .ok (.iload 4, 2) := by decide +kernel
theorem dL_law_300 : decode cL_law 300 = .ok (.iconst 1, 1) := by decide +kernel
theorem dL_law_301 : decode cL_law 301 = .ok (.iadd, 1) := by decide +kernel
theorem dL_law_302 : decode cL_law 302 = .ok (.iaload, 1) := by decide +kernel
theorem dL_law_303 : decode cL_law 303 = .ok (.aload_n 0, 1) := by decide +kernel
theorem dL_law_304 : decode cL_law 304 = .ok (.iload 4, 2) := by decide +kernel
theorem dL_law_306 : decode cL_law 306 = .ok (.iconst 2, 1) := by decide +kernel
theorem dL_law_307 : decode cL_law 307 = .ok (.iadd, 1) := by decide +kernel
theorem dL_law_308 : decode cL_law 308 = .ok (.iaload, 1) := by decide +kernel
theorem dL_law_309 : decode cL_law 309 = .ok (.invokevirtual 45, 3) := by decide +kernel
theorem dL_law_312 : decode cL_law 312 = .ok (.if_icmp .eq 590, 3) := by decide +kernel
set_option maxHeartbeats 4000000 in
set_option maxRecDepth 100000 in
theorem zc_4 {p : Program} {l : Launch} {e : Env} {s : State} {m : MethodId} {below : List Frame} {meth : Method} {c : Code} {dC : Nat → ClassId} {dI : Nat → Nat → Nat} {b : Nat} {xs : Nat → Int32} (C0 : lw_At p s m meth c b 9 xs)  {ax am ro : Nat} {ux um : Nat → Nat} {H : Heap} {locs : List Loc} (hK : va_K (dC, dI) vwCl [(ux 6, .byte), (ux 7, .object RX0), (ux 8, .object RX5), (um 46, .int), (um 47, .int), (um 48, .int), (um 49, .int), (um 50, .int), (um 51, .long), (um 52, .int), (um 53, .int), (um 54, .int), (um 55, .int)] s) (hP : va_P (dC, dI) vwCl [(ax, .inr (5, [.ref (ux 0), .int 0, .ref (ux 1), .int 0, .ref (ux 2), .int 0, .ref (ux 3)])), (ux 0, .inl (ux 6, 800, .inl (fun _ => 0))), (ux 1, .inl (ux 7, 5, .inr (.inr (.inr (.inr (fun _ => none)))))), (ux 2, .inl (ux 8, 40, .inr (.inr (.inr (.inr (fun _ => none)))))), (ux 3, .inr (1, [.ref (ux 4), .ref (ux 5), .int 0, .int 0, .int 0])), (ux 4, .inr (3, [.ref (ux 0), .int 0, .int 0, .int 0, .int 0, .long 0])), (am, .inr (6, zM 0 um)), (um 1, .inl (um 46, 800, .inl (fun _ => 0))), (um 4, .inl (um 47, 5, .inl (fun _ => 0))), (um 30, .inl (um 48, 40, .inl (fun _ => 0))), (um 31, .inl (um 49, 40, .inl (fun _ => 0))), (um 32, .inl (um 50, 40, .inl (fun _ => 0))), (um 33, .inl (um 51, 40, .inr (.inl (fun _ => 0)))), (um 34, .inl (um 52, 40, .inl (fun _ => 0))), (um 35, .inl (um 53, 40, .inl (fun _ => 0))), (um 36, .inl (um 54, 40, .inl (fun _ => 0))), (um 37, .inl (um 55, 40, .inl (fun _ => 0)))] H) (hD : va_D (fun q : Nat => s.heap.size ≤ q) [(ax, .inr (5, [.ref (ux 0), .int 0, .ref (ux 1), .int 0, .ref (ux 2), .int 0, .ref (ux 3)])), (ux 0, .inl (ux 6, 800, .inl (fun _ => 0))), (ux 1, .inl (ux 7, 5, .inr (.inr (.inr (.inr (fun _ => none)))))), (ux 2, .inl (ux 8, 40, .inr (.inr (.inr (.inr (fun _ => none)))))), (ux 3, .inr (1, [.ref (ux 4), .ref (ux 5), .int 0, .int 0, .int 0])), (ux 4, .inr (3, [.ref (ux 0), .int 0, .int 0, .int 0, .int 0, .long 0])), (am, .inr (6, zM 0 um)), (um 1, .inl (um 46, 800, .inl (fun _ => 0))), (um 4, .inl (um 47, 5, .inl (fun _ => 0))), (um 30, .inl (um 48, 40, .inl (fun _ => 0))), (um 31, .inl (um 49, 40, .inl (fun _ => 0))), (um 32, .inl (um 50, 40, .inl (fun _ => 0))), (um 33, .inl (um 51, 40, .inr (.inl (fun _ => 0)))), (um 34, .inl (um 52, 40, .inl (fun _ => 0))), (um 35, .inl (um 53, 40, .inl (fun _ => 0))), (um 36, .inl (um 54, 40, .inl (fun _ => 0))), (um 37, .inl (um 55, 40, .inl (fun _ => 0)))]) (hS : va_S (fun q : Nat => s.heap.size ≤ q) s.heap H locs) {ls : Array Slot} (hl : lv_has ls 7 [(4, .int 0), (3, .ref ro), (2, .ref am), (1, .ref ax), (0, .ref b)]) : W p l e room_1 s m #[Value.ref b] below meth c H locs 38 11351 (lw_Z below #[Value.ref b] s) (F0 m 280 ls []) := by
  have C1 := C0
  obtain ⟨hx, hb, hr, hml, hown, hts, hX, hbl, hlocks, hgv⟩ := C0
  have hown : s.vm.findClass RL = some m.cls := hown
  have hA : ∀ q : Nat, s.heap.size ≤ q → (fun q : Nat => s.heap.size ≤ q) q := fun _ h => h
  have hbA : ¬ (fun q : Nat => s.heap.size ≤ q) b := Nat.not_le.mpr hbl
  refine lv_aload_n hx hb dL_law_280 rfl (lv_at hl 3 rfl) ?_
  refine lv_aload_n hx hb dL_law_281 rfl (lv_at hl 4 rfl) ?_
  refine lv_iload hx hb dL_law_282 (lv_at hl 0 rfl) ?_
  refine lv_iconst (v := 1) hx hb dL_law_284 (by decide) ?_
  refine lv_iadd hx hb dL_law_285 ?_
  refine lv_topi (fun x1 ex1 => ?_)
  obtain rfl : x1 = 1 := by rw [ex1]; decide
  refine va_sld hx hb hX hbl hbA hS (by unfold vp_in; decide : vp_in 1 9) dL_law_286 ?_
  refine W.eq (g2 := F0 m 287 ls [.int (xs 1), .ref ax]) rfl ?_
  refine lv_aload_n hx hb dL_law_287 rfl (lv_at hl 4 rfl) ?_
  refine lv_iload hx hb dL_law_288 (lv_at hl 0 rfl) ?_
  refine lv_iconst (v := 2) hx hb dL_law_290 (by decide) ?_
  refine lv_iadd hx hb dL_law_291 ?_
  refine lv_topi (fun x2 ex2 => ?_)
  obtain rfl : x2 = 2 := by rw [ex2]; decide
  refine va_sld hx hb hX hbl hbA hS (by unfold vp_in; decide : vp_in 2 9) dL_law_292 ?_
  refine W.eq (g2 := F0 m 293 ls [.int (xs 2), .int (xs 1), .ref ax]) rfl ?_
  refine vp_callSi (W.runV (As := [.int (xs 1), .int (xs 2)]) (rest := []) ⟨hx, hb, hml, hown, hts⟩ (zX6_name l dC dI ax (ux 0) (ux 1) (ux 2) (ux 3) (xs 1) (xs 2)) (cwV 2 hts zgL_law_X6_name_42 rfl rfl rfl (by decide +kernel) ⟨(show 1 + 1 ≤ 10 by omega), (show 8 + (4 + 11) + 21 ≤ 372 by omega)⟩) (zVr (ci := 5) (q0 := 0) (q := (RX6, TX6, 7)) (hK.sub (tys' := []) [] rfl) (hP.sub (ws' := [(ax, .inr (5, [.ref (ux 0), .int 0, .ref (ux 1), .int 0, .ref (ux 2), .int 0, .ref (ux 3)]))]) [0] rfl) rfl rfl rfl) rfl rfl hl.1 rfl (lv_room (Nat.le_of_ble_eq_true rfl)) dL_law_293 ⟨(show 38 + 0 ≤ 600002 by omega), (show 11351 + 0 ≤ 7302232 by omega)⟩) (fun r3 hr3 => ?_)
  subst hr3
  refine lv_aload_n hx hb dL_law_296 rfl (lv_at hl 2 rfl) ?_
  refine lv_aload_n hx hb dL_law_297 rfl (lv_at hl 4 rfl) ?_
  refine lv_iload hx hb dL_law_298 (lv_at hl 0 rfl) ?_
  refine lv_iconst (v := 1) hx hb dL_law_300 (by decide) ?_
  refine lv_iadd hx hb dL_law_301 ?_
  refine lv_topi (fun x4 ex4 => ?_)
  obtain rfl : x4 = 1 := by rw [ex4]; decide
  refine va_sld hx hb hX hbl hbA hS (by unfold vp_in; decide : vp_in 1 9) dL_law_302 ?_
  refine W.eq (g2 := F0 m 303 ls [.int (xs 1), .ref am, .int (-2)]) rfl ?_
  refine lv_aload_n hx hb dL_law_303 rfl (lv_at hl 4 rfl) ?_
  refine lv_iload hx hb dL_law_304 (lv_at hl 0 rfl) ?_
  refine lv_iconst (v := 2) hx hb dL_law_306 (by decide) ?_
  refine lv_iadd hx hb dL_law_307 ?_
  refine lv_topi (fun x5 ex5 => ?_)
  obtain rfl : x5 = 2 := by rw [ex5]; decide
  refine va_sld hx hb hX hbl hbA hS (by unfold vp_in; decide : vp_in 2 9) dL_law_308 ?_
  refine W.eq (g2 := F0 m 309 ls [.int (xs 2), .int (xs 1), .ref am, .int (-2)]) rfl ?_
  have hPc := hP.sub (ws' := [(am, .inr (6, zM 0 um))]) [6] rfl
  have hDc := hD.sub (ws' := [(am, .inr (6, zM 0 um))]) [6] (by decide) rfl
  have hKc := hK.sub (tys' := []) [] rfl
  have hFc := va_free (wc := [(am, .inr (6, zM 0 um))]) hD hS hA [6] rfl
  refine va_calli (va_runV (As := [.int (xs 1), .int (xs 2)]) (rest := [.int (-2)]) ⟨hx, hb, hml, hown, hts⟩ (zX7_name l dC dI am um H.size (xs 1) (xs 2)) (cwV 2 hts zgL_law_X7_name_45 rfl rfl rfl (by decide +kernel) ⟨(show 2 + 1 ≤ 10 by omega), (show 8 + (3 + 11) + 46 ≤ 372 by omega)⟩) (zVw (ci := 6) (q0 := 0) (q := (RX7, TX7, 46)) hKc hPc hDc rfl rfl rfl) rfl rfl hl.1 rfl (lv_room (Nat.le_of_ble_eq_true rfl)) dL_law_309 ⟨(show 38 + 0 ≤ 600002 by omega), (show 11351 + 0 ≤ 7302232 by omega)⟩) hS (fun q _ h => hFc q h) hFc (fun r7 u6 t H1 locs ht hvm hw hB hz1 hk1 hS => ?_)
  obtain ⟨hP, hD⟩ := z_rest (wr := [(ax, .inr (5, [.ref (ux 0), .int 0, .ref (ux 1), .int 0, .ref (ux 2), .int 0, .ref (ux 3)])), (ux 0, .inl (ux 6, 800, .inl (fun _ => 0))), (ux 1, .inl (ux 7, 5, .inr (.inr (.inr (.inr (fun _ => none)))))), (ux 2, .inl (ux 8, 40, .inr (.inr (.inr (.inr (fun _ => none)))))), (ux 3, .inr (1, [.ref (ux 4), .ref (ux 5), .int 0, .int 0, .int 0])), (ux 4, .inr (3, [.ref (ux 0), .int 0, .int 0, .int 0, .int 0, .long 0])), (um 1, .inl (um 46, 800, .inl (fun _ => 0))), (um 4, .inl (um 47, 5, .inl (fun _ => 0))), (um 30, .inl (um 48, 40, .inl (fun _ => 0))), (um 31, .inl (um 49, 40, .inl (fun _ => 0))), (um 32, .inl (um 50, 40, .inl (fun _ => 0))), (um 33, .inl (um 51, 40, .inr (.inl (fun _ => 0)))), (um 34, .inl (um 52, 40, .inl (fun _ => 0))), (um 35, .inl (um 53, 40, .inl (fun _ => 0))), (um 36, .inl (um 54, 40, .inl (fun _ => 0))), (um 37, .inl (um 55, 40, .inl (fun _ => 0)))]) hP hD [6] [0, 1, 2, 3, 4, 5, 7, 8, 9, 10, 11, 12, 13, 14, 15, 16] rfl rfl (by decide) (by decide) hk1 hFc
  have hK := hK.sub (tys' := [(ux 6, .byte), (ux 7, .object RX0), (ux 8, .object RX5), (um 46, .int), (um 47, .int), (um 48, .int), (um 49, .int), (um 50, .int), (um 51, .long), (um 52, .int), (um 53, .int), (um 54, .int), (um 55, .int)]) [0, 1, 2, 3, 4, 5, 6, 7, 8, 9, 10, 11, 12] rfl
  generalize H1 = H at hP hS ⊢
  have hP : va_P (dC, dI) vwCl [(ax, .inr (5, [.ref (ux 0), .int 0, .ref (ux 1), .int 0, .ref (ux 2), .int 0, .ref (ux 3)])), (ux 0, .inl (ux 6, 800, .inl (fun _ => 0))), (ux 1, .inl (ux 7, 5, .inr (.inr (.inr (.inr (fun _ => none)))))), (ux 2, .inl (ux 8, 40, .inr (.inr (.inr (.inr (fun _ => none)))))), (ux 3, .inr (1, [.ref (ux 4), .ref (ux 5), .int 0, .int 0, .int 0])), (ux 4, .inr (3, [.ref (ux 0), .int 0, .int 0, .int 0, .int 0, .long 0])), (um 1, .inl (um 46, 800, .inl (fun _ => 0))), (um 4, .inl (um 47, 5, .inl (fun _ => 0))), (um 30, .inl (um 48, 40, .inl (fun _ => 0))), (um 31, .inl (um 49, 40, .inl (fun _ => 0))), (um 32, .inl (um 50, 40, .inl (fun _ => 0))), (um 33, .inl (um 51, 40, .inr (.inl (fun _ => 0)))), (um 34, .inl (um 52, 40, .inl (fun _ => 0))), (um 35, .inl (um 53, 40, .inl (fun _ => 0))), (um 36, .inl (um 54, 40, .inl (fun _ => 0))), (um 37, .inl (um 55, 40, .inl (fun _ => 0)))] H := hP
  have hD : va_D (fun q : Nat => s.heap.size ≤ q) [(ax, .inr (5, [.ref (ux 0), .int 0, .ref (ux 1), .int 0, .ref (ux 2), .int 0, .ref (ux 3)])), (ux 0, .inl (ux 6, 800, .inl (fun _ => 0))), (ux 1, .inl (ux 7, 5, .inr (.inr (.inr (.inr (fun _ => none)))))), (ux 2, .inl (ux 8, 40, .inr (.inr (.inr (.inr (fun _ => none)))))), (ux 3, .inr (1, [.ref (ux 4), .ref (ux 5), .int 0, .int 0, .int 0])), (ux 4, .inr (3, [.ref (ux 0), .int 0, .int 0, .int 0, .int 0, .long 0])), (um 1, .inl (um 46, 800, .inl (fun _ => 0))), (um 4, .inl (um 47, 5, .inl (fun _ => 0))), (um 30, .inl (um 48, 40, .inl (fun _ => 0))), (um 31, .inl (um 49, 40, .inl (fun _ => 0))), (um 32, .inl (um 50, 40, .inl (fun _ => 0))), (um 33, .inl (um 51, 40, .inr (.inl (fun _ => 0)))), (um 34, .inl (um 52, 40, .inl (fun _ => 0))), (um 35, .inl (um 53, 40, .inl (fun _ => 0))), (um 36, .inl (um 54, 40, .inl (fun _ => 0))), (um 37, .inl (um 55, 40, .inl (fun _ => 0)))] := hD
  have hK : va_K (dC, dI) vwCl [(ux 6, .byte), (ux 7, .object RX0), (ux 8, .object RX5), (um 46, .int), (um 47, .int), (um 48, .int), (um 49, .int), (um 50, .int), (um 51, .long), (um 52, .int), (um 53, .int), (um 54, .int), (um 55, .int)] s := hK
  obtain rfl : r7 = -2 := hw
  refine lv_icmp_eq (tgt := 902) hx hb dL_law_312 (by decide) (fun _ => ?_) (fun c9 => absurd (rfl) c9)
  exact zc_end C1 hS (lv_sub hl [0, 4] rfl) (by omega) (by omega)
theorem dL_law_317 : decode cL_law 317 = .ok (.aload_n 1, 1) := by decide +kernel
theorem dL_law_318 : decode cL_law 318 = .ok (.aload_n 0, 1) := by decide +kernel
theorem dL_law_319 : decode cL_law 319 = .ok (.iload 4, 2) := by decide +kernel
theorem dL_law_321 : decode cL_law 321 = .ok (.iconst 1, 1) := by decide +kernel
theorem dL_law_322 : decode cL_law 322 = .ok (.iadd, 1) := by decide +kernel
theorem dL_law_323 : decode cL_law 323 = .ok (.iaload, 1) := by decide +kernel
theorem dL_law_324 : decode cL_law 324 = .ok (.aload_n 0, 1) := by decide +kernel
theorem dL_law_325 : decode cL_law 325 = .ok (.iload 4, 2) := by decide +kernel
theorem dL_law_327 : decode cL_law 327 = .ok (.iconst 2, 1) := by decide +kernel
theorem dL_law_328 : decode cL_law 328 = .ok (.iadd, 1) := by decide +kernel
theorem dL_law_329 : decode cL_law 329 = .ok (.iaload, 1) := by decide +kernel
theorem dL_law_330 : decode cL_law 330 = .ok (.aload_n 0, 1) := by decide +kernel
theorem dL_law_331 : decode cL_law 331 = .ok (.iload 4, 2) := by decide +kernel
theorem dL_law_333 : decode cL_law 333 = .ok (.iconst 3, 1) := by decide +kernel
theorem dL_law_334 : decode cL_law 334 = .ok (.iadd, 1) := by decide +kernel
theorem dL_law_335 : decode cL_law 335 = .ok (.iaload, 1) := by decide +kernel
theorem dL_law_336 : decode cL_law 336 = .ok (.invokevirtual 46, 3) := by decide +kernel
theorem dL_law_339 : decode cL_law 339 = .ok (.aload_n 2, 1) := by decide +kernel
theorem dL_law_340 : decode cL_law 340 = .ok (.aload_n 0, 1) := by decide +kernel
theorem dL_law_341 : decode cL_law 341 = .ok (.iload 4, 2) := by decide +kernel
theorem dL_law_343 : decode cL_law 343 = .ok (.iconst 1, 1) := by decide +kernel
theorem dL_law_344 : decode cL_law 344 = .ok (.iadd, 1) := by decide +kernel
theorem dL_law_345 : decode cL_law 345 = .ok (.iaload, 1) := by decide +kernel
theorem dL_law_346 : decode cL_law 346 = .ok (.aload_n 0, 1) := by decide +kernel
theorem dL_law_347 : decode cL_law 347 = .ok (.iload 4, 2) := by decide +kernel
theorem dL_law_349 : decode cL_law 349 = .ok (.iconst 2, 1) := by decide +kernel
theorem dL_law_350 : decode cL_law 350 = .ok (.iadd, 1) := by decide +kernel
theorem dL_law_351 : decode cL_law 351 = .ok (.iaload, 1) := by decide +kernel
theorem dL_law_352 : decode cL_law 352 = .ok (.aload_n 0, 1) := by decide +kernel
theorem dL_law_353 : decode cL_law 353 = .ok (.iload 4, 2) := by decide +kernel
theorem dL_law_355 : decode cL_law 355 = .ok (.iconst 3, 1) := by decide +kernel
theorem dL_law_356 : decode cL_law 356 = .ok (.iadd, 1) := by decide +kernel
theorem dL_law_357 : decode cL_law 357 = .ok (.iaload, 1) := by decide +kernel
theorem dL_law_358 : decode cL_law 358 = .ok (.invokevirtual 50, 3) := by decide +kernel
theorem dL_law_361 : decode cL_law 361 = .ok (.if_icmp .eq 541, 3) := by decide +kernel
set_option maxHeartbeats 4000000 in
set_option maxRecDepth 100000 in
theorem zc_5 {p : Program} {l : Launch} {e : Env} {s : State} {m : MethodId} {below : List Frame} {meth : Method} {c : Code} {dC : Nat → ClassId} {dI : Nat → Nat → Nat} {b : Nat} {xs : Nat → Int32} (C0 : lw_At p s m meth c b 9 xs)  {ax am ro : Nat} {ux um : Nat → Nat} {H : Heap} {locs : List Loc} (hK : va_K (dC, dI) vwCl [(ux 6, .byte), (ux 7, .object RX0), (ux 8, .object RX5), (um 46, .int), (um 47, .int), (um 48, .int), (um 49, .int), (um 50, .int), (um 51, .long), (um 52, .int), (um 53, .int), (um 54, .int), (um 55, .int)] s) (hP : va_P (dC, dI) vwCl [(ax, .inr (5, [.ref (ux 0), .int 0, .ref (ux 1), .int 0, .ref (ux 2), .int 0, .ref (ux 3)])), (ux 0, .inl (ux 6, 800, .inl (fun _ => 0))), (ux 1, .inl (ux 7, 5, .inr (.inr (.inr (.inr (fun _ => none)))))), (ux 2, .inl (ux 8, 40, .inr (.inr (.inr (.inr (fun _ => none)))))), (ux 3, .inr (1, [.ref (ux 4), .ref (ux 5), .int 0, .int 0, .int 0])), (ux 4, .inr (3, [.ref (ux 0), .int 0, .int 0, .int 0, .int 0, .long 0])), (am, .inr (6, zM 0 um)), (um 1, .inl (um 46, 800, .inl (fun _ => 0))), (um 4, .inl (um 47, 5, .inl (fun _ => 0))), (um 30, .inl (um 48, 40, .inl (fun _ => 0))), (um 31, .inl (um 49, 40, .inl (fun _ => 0))), (um 32, .inl (um 50, 40, .inl (fun _ => 0))), (um 33, .inl (um 51, 40, .inr (.inl (fun _ => 0)))), (um 34, .inl (um 52, 40, .inl (fun _ => 0))), (um 35, .inl (um 53, 40, .inl (fun _ => 0))), (um 36, .inl (um 54, 40, .inl (fun _ => 0))), (um 37, .inl (um 55, 40, .inl (fun _ => 0)))] H) (hD : va_D (fun q : Nat => s.heap.size ≤ q) [(ax, .inr (5, [.ref (ux 0), .int 0, .ref (ux 1), .int 0, .ref (ux 2), .int 0, .ref (ux 3)])), (ux 0, .inl (ux 6, 800, .inl (fun _ => 0))), (ux 1, .inl (ux 7, 5, .inr (.inr (.inr (.inr (fun _ => none)))))), (ux 2, .inl (ux 8, 40, .inr (.inr (.inr (.inr (fun _ => none)))))), (ux 3, .inr (1, [.ref (ux 4), .ref (ux 5), .int 0, .int 0, .int 0])), (ux 4, .inr (3, [.ref (ux 0), .int 0, .int 0, .int 0, .int 0, .long 0])), (am, .inr (6, zM 0 um)), (um 1, .inl (um 46, 800, .inl (fun _ => 0))), (um 4, .inl (um 47, 5, .inl (fun _ => 0))), (um 30, .inl (um 48, 40, .inl (fun _ => 0))), (um 31, .inl (um 49, 40, .inl (fun _ => 0))), (um 32, .inl (um 50, 40, .inl (fun _ => 0))), (um 33, .inl (um 51, 40, .inr (.inl (fun _ => 0)))), (um 34, .inl (um 52, 40, .inl (fun _ => 0))), (um 35, .inl (um 53, 40, .inl (fun _ => 0))), (um 36, .inl (um 54, 40, .inl (fun _ => 0))), (um 37, .inl (um 55, 40, .inl (fun _ => 0)))]) (hS : va_S (fun q : Nat => s.heap.size ≤ q) s.heap H locs) {ls : Array Slot} (hl : lv_has ls 7 [(4, .int 0), (3, .ref ro), (2, .ref am), (1, .ref ax), (0, .ref b)]) : W p l e room_1 s m #[Value.ref b] below meth c H locs 38 11351 (lw_Z below #[Value.ref b] s) (F0 m 317 ls []) := by
  have C1 := C0
  obtain ⟨hx, hb, hr, hml, hown, hts, hX, hbl, hlocks, hgv⟩ := C0
  have hown : s.vm.findClass RL = some m.cls := hown
  have hA : ∀ q : Nat, s.heap.size ≤ q → (fun q : Nat => s.heap.size ≤ q) q := fun _ h => h
  have hbA : ¬ (fun q : Nat => s.heap.size ≤ q) b := Nat.not_le.mpr hbl
  refine lv_aload_n hx hb dL_law_317 rfl (lv_at hl 3 rfl) ?_
  refine lv_aload_n hx hb dL_law_318 rfl (lv_at hl 4 rfl) ?_
  refine lv_iload hx hb dL_law_319 (lv_at hl 0 rfl) ?_
  refine lv_iconst (v := 1) hx hb dL_law_321 (by decide) ?_
  refine lv_iadd hx hb dL_law_322 ?_
  refine lv_topi (fun x1 ex1 => ?_)
  obtain rfl : x1 = 1 := by rw [ex1]; decide
  refine va_sld hx hb hX hbl hbA hS (by unfold vp_in; decide : vp_in 1 9) dL_law_323 ?_
  refine W.eq (g2 := F0 m 324 ls [.int (xs 1), .ref ax]) rfl ?_
  refine lv_aload_n hx hb dL_law_324 rfl (lv_at hl 4 rfl) ?_
  refine lv_iload hx hb dL_law_325 (lv_at hl 0 rfl) ?_
  refine lv_iconst (v := 2) hx hb dL_law_327 (by decide) ?_
  refine lv_iadd hx hb dL_law_328 ?_
  refine lv_topi (fun x2 ex2 => ?_)
  obtain rfl : x2 = 2 := by rw [ex2]; decide
  refine va_sld hx hb hX hbl hbA hS (by unfold vp_in; decide : vp_in 2 9) dL_law_329 ?_
  refine W.eq (g2 := F0 m 330 ls [.int (xs 2), .int (xs 1), .ref ax]) rfl ?_
  refine lv_aload_n hx hb dL_law_330 rfl (lv_at hl 4 rfl) ?_
  refine lv_iload hx hb dL_law_331 (lv_at hl 0 rfl) ?_
  refine lv_iconst (v := 3) hx hb dL_law_333 (by decide) ?_
  refine lv_iadd hx hb dL_law_334 ?_
  refine lv_topi (fun x3 ex3 => ?_)
  obtain rfl : x3 = 3 := by rw [ex3]; decide
  refine va_sld hx hb hX hbl hbA hS (by unfold vp_in; decide : vp_in 3 9) dL_law_335 ?_
  refine W.eq (g2 := F0 m 336 ls [.int (xs 3), .int (xs 2), .int (xs 1), .ref ax]) rfl ?_
  refine vp_callSi (W.runV (As := [.int (xs 1), .int (xs 2), .int (xs 3)]) (rest := []) ⟨hx, hb, hml, hown, hts⟩ (zX6_is l dC dI ax (ux 0) (ux 1) (ux 2) (ux 3) (xs 1) (xs 2) (xs 3)) (cwV 3 hts zgL_law_X6_is_46 rfl rfl rfl (by decide +kernel) ⟨(show 1 + 1 ≤ 10 by omega), (show 8 + (7 + 11) + 21 ≤ 372 by omega)⟩) (zVr (ci := 5) (q0 := 0) (q := (RX6, TX6, 7)) (hK.sub (tys' := []) [] rfl) (hP.sub (ws' := [(ax, .inr (5, [.ref (ux 0), .int 0, .ref (ux 1), .int 0, .ref (ux 2), .int 0, .ref (ux 3)]))]) [0] rfl) rfl rfl rfl) rfl rfl hl.1 rfl (lv_room (Nat.le_of_ble_eq_true rfl)) dL_law_336 ⟨(show 38 + 0 ≤ 600002 by omega), (show 11351 + 0 ≤ 7302232 by omega)⟩) (fun r4 hr4 => ?_)
  subst hr4
  refine lv_aload_n hx hb dL_law_339 rfl (lv_at hl 2 rfl) ?_
  refine lv_aload_n hx hb dL_law_340 rfl (lv_at hl 4 rfl) ?_
  refine lv_iload hx hb dL_law_341 (lv_at hl 0 rfl) ?_
  refine lv_iconst (v := 1) hx hb dL_law_343 (by decide) ?_
  refine lv_iadd hx hb dL_law_344 ?_
  refine lv_topi (fun x5 ex5 => ?_)
  obtain rfl : x5 = 1 := by rw [ex5]; decide
  refine va_sld hx hb hX hbl hbA hS (by unfold vp_in; decide : vp_in 1 9) dL_law_345 ?_
  refine W.eq (g2 := F0 m 346 ls [.int (xs 1), .ref am, .int (-2)]) rfl ?_
  refine lv_aload_n hx hb dL_law_346 rfl (lv_at hl 4 rfl) ?_
  refine lv_iload hx hb dL_law_347 (lv_at hl 0 rfl) ?_
  refine lv_iconst (v := 2) hx hb dL_law_349 (by decide) ?_
  refine lv_iadd hx hb dL_law_350 ?_
  refine lv_topi (fun x6 ex6 => ?_)
  obtain rfl : x6 = 2 := by rw [ex6]; decide
  refine va_sld hx hb hX hbl hbA hS (by unfold vp_in; decide : vp_in 2 9) dL_law_351 ?_
  refine W.eq (g2 := F0 m 352 ls [.int (xs 2), .int (xs 1), .ref am, .int (-2)]) rfl ?_
  refine lv_aload_n hx hb dL_law_352 rfl (lv_at hl 4 rfl) ?_
  refine lv_iload hx hb dL_law_353 (lv_at hl 0 rfl) ?_
  refine lv_iconst (v := 3) hx hb dL_law_355 (by decide) ?_
  refine lv_iadd hx hb dL_law_356 ?_
  refine lv_topi (fun x7 ex7 => ?_)
  obtain rfl : x7 = 3 := by rw [ex7]; decide
  refine va_sld hx hb hX hbl hbA hS (by unfold vp_in; decide : vp_in 3 9) dL_law_357 ?_
  refine W.eq (g2 := F0 m 358 ls [.int (xs 3), .int (xs 2), .int (xs 1), .ref am, .int (-2)]) rfl ?_
  have hPc := hP.sub (ws' := [(am, .inr (6, zM 0 um))]) [6] rfl
  have hDc := hD.sub (ws' := [(am, .inr (6, zM 0 um))]) [6] (by decide) rfl
  have hKc := hK.sub (tys' := []) [] rfl
  have hFc := va_free (wc := [(am, .inr (6, zM 0 um))]) hD hS hA [6] rfl
  refine va_calli (va_runV (As := [.int (xs 1), .int (xs 2), .int (xs 3)]) (rest := [.int (-2)]) ⟨hx, hb, hml, hown, hts⟩ (zX7_is l dC dI am um H.size (xs 1) (xs 2) (xs 3)) (cwV 3 hts zgL_law_X7_is_50 rfl rfl rfl (by decide +kernel) ⟨(show 2 + 1 ≤ 10 by omega), (show 8 + (5 + 11) + 46 ≤ 372 by omega)⟩) (zVw (ci := 6) (q0 := 0) (q := (RX7, TX7, 46)) hKc hPc hDc rfl rfl rfl) rfl rfl hl.1 rfl (lv_room (Nat.le_of_ble_eq_true rfl)) dL_law_358 ⟨(show 38 + 0 ≤ 600002 by omega), (show 11351 + 0 ≤ 7302232 by omega)⟩) hS (fun q _ h => hFc q h) hFc (fun r9 u8 t H1 locs ht hvm hw hB hz1 hk1 hS => ?_)
  obtain ⟨hP, hD⟩ := z_rest (wr := [(ax, .inr (5, [.ref (ux 0), .int 0, .ref (ux 1), .int 0, .ref (ux 2), .int 0, .ref (ux 3)])), (ux 0, .inl (ux 6, 800, .inl (fun _ => 0))), (ux 1, .inl (ux 7, 5, .inr (.inr (.inr (.inr (fun _ => none)))))), (ux 2, .inl (ux 8, 40, .inr (.inr (.inr (.inr (fun _ => none)))))), (ux 3, .inr (1, [.ref (ux 4), .ref (ux 5), .int 0, .int 0, .int 0])), (ux 4, .inr (3, [.ref (ux 0), .int 0, .int 0, .int 0, .int 0, .long 0])), (um 1, .inl (um 46, 800, .inl (fun _ => 0))), (um 4, .inl (um 47, 5, .inl (fun _ => 0))), (um 30, .inl (um 48, 40, .inl (fun _ => 0))), (um 31, .inl (um 49, 40, .inl (fun _ => 0))), (um 32, .inl (um 50, 40, .inl (fun _ => 0))), (um 33, .inl (um 51, 40, .inr (.inl (fun _ => 0)))), (um 34, .inl (um 52, 40, .inl (fun _ => 0))), (um 35, .inl (um 53, 40, .inl (fun _ => 0))), (um 36, .inl (um 54, 40, .inl (fun _ => 0))), (um 37, .inl (um 55, 40, .inl (fun _ => 0)))]) hP hD [6] [0, 1, 2, 3, 4, 5, 7, 8, 9, 10, 11, 12, 13, 14, 15, 16] rfl rfl (by decide) (by decide) hk1 hFc
  have hK := hK.sub (tys' := [(ux 6, .byte), (ux 7, .object RX0), (ux 8, .object RX5), (um 46, .int), (um 47, .int), (um 48, .int), (um 49, .int), (um 50, .int), (um 51, .long), (um 52, .int), (um 53, .int), (um 54, .int), (um 55, .int)]) [0, 1, 2, 3, 4, 5, 6, 7, 8, 9, 10, 11, 12] rfl
  generalize H1 = H at hP hS ⊢
  have hP : va_P (dC, dI) vwCl [(ax, .inr (5, [.ref (ux 0), .int 0, .ref (ux 1), .int 0, .ref (ux 2), .int 0, .ref (ux 3)])), (ux 0, .inl (ux 6, 800, .inl (fun _ => 0))), (ux 1, .inl (ux 7, 5, .inr (.inr (.inr (.inr (fun _ => none)))))), (ux 2, .inl (ux 8, 40, .inr (.inr (.inr (.inr (fun _ => none)))))), (ux 3, .inr (1, [.ref (ux 4), .ref (ux 5), .int 0, .int 0, .int 0])), (ux 4, .inr (3, [.ref (ux 0), .int 0, .int 0, .int 0, .int 0, .long 0])), (um 1, .inl (um 46, 800, .inl (fun _ => 0))), (um 4, .inl (um 47, 5, .inl (fun _ => 0))), (um 30, .inl (um 48, 40, .inl (fun _ => 0))), (um 31, .inl (um 49, 40, .inl (fun _ => 0))), (um 32, .inl (um 50, 40, .inl (fun _ => 0))), (um 33, .inl (um 51, 40, .inr (.inl (fun _ => 0)))), (um 34, .inl (um 52, 40, .inl (fun _ => 0))), (um 35, .inl (um 53, 40, .inl (fun _ => 0))), (um 36, .inl (um 54, 40, .inl (fun _ => 0))), (um 37, .inl (um 55, 40, .inl (fun _ => 0)))] H := hP
  have hD : va_D (fun q : Nat => s.heap.size ≤ q) [(ax, .inr (5, [.ref (ux 0), .int 0, .ref (ux 1), .int 0, .ref (ux 2), .int 0, .ref (ux 3)])), (ux 0, .inl (ux 6, 800, .inl (fun _ => 0))), (ux 1, .inl (ux 7, 5, .inr (.inr (.inr (.inr (fun _ => none)))))), (ux 2, .inl (ux 8, 40, .inr (.inr (.inr (.inr (fun _ => none)))))), (ux 3, .inr (1, [.ref (ux 4), .ref (ux 5), .int 0, .int 0, .int 0])), (ux 4, .inr (3, [.ref (ux 0), .int 0, .int 0, .int 0, .int 0, .long 0])), (um 1, .inl (um 46, 800, .inl (fun _ => 0))), (um 4, .inl (um 47, 5, .inl (fun _ => 0))), (um 30, .inl (um 48, 40, .inl (fun _ => 0))), (um 31, .inl (um 49, 40, .inl (fun _ => 0))), (um 32, .inl (um 50, 40, .inl (fun _ => 0))), (um 33, .inl (um 51, 40, .inr (.inl (fun _ => 0)))), (um 34, .inl (um 52, 40, .inl (fun _ => 0))), (um 35, .inl (um 53, 40, .inl (fun _ => 0))), (um 36, .inl (um 54, 40, .inl (fun _ => 0))), (um 37, .inl (um 55, 40, .inl (fun _ => 0)))] := hD
  have hK : va_K (dC, dI) vwCl [(ux 6, .byte), (ux 7, .object RX0), (ux 8, .object RX5), (um 46, .int), (um 47, .int), (um 48, .int), (um 49, .int), (um 50, .int), (um 51, .long), (um 52, .int), (um 53, .int), (um 54, .int), (um 55, .int)] s := hK
  obtain rfl : r9 = -2 := hw
  refine lv_icmp_eq (tgt := 902) hx hb dL_law_361 (by decide) (fun _ => ?_) (fun c9 => absurd (rfl) c9)
  exact zc_end C1 hS (lv_sub hl [0, 4] rfl) (by omega) (by omega)
theorem dL_law_501 : decode cL_law 501 = .ok (.aload_n 1, 1) := by decide +kernel
theorem dL_law_502 : decode cL_law 502 = .ok (.aload_n 0, 1) := by decide +kernel
theorem dL_law_503 : decode cL_law 503 = .ok (.iload 4, 2) := by decide +kernel
theorem dL_law_505 : decode cL_law 505 = .ok (.iconst 1, 1) := by decide +kernel
theorem dL_law_506 : decode cL_law 506 = .ok (.iadd, 1) := by decide +kernel
theorem dL_law_507 : decode cL_law 507 = .ok (.iaload, 1) := by decide +kernel
theorem dL_law_508 : decode cL_law 508 = .ok (.aload_n 0, 1) := by decide +kernel
theorem dL_law_509 : decode cL_law 509 = .ok (.iload 4, 2) := by decide +kernel
theorem dL_law_511 : decode cL_law 511 = .ok (.iconst 2, 1) := by decide +kernel
theorem dL_law_512 : decode cL_law 512 = .ok (.iadd, 1) := by decide +kernel
theorem dL_law_513 : decode cL_law 513 = .ok (.iaload, 1) := by decide +kernel
theorem dL_law_514 : decode cL_law 514 = .ok (.invokevirtual 56, 3) := by decide +kernel
theorem dL_law_517 : decode cL_law 517 = .ok (.aload_n 2, 1) := by decide +kernel
theorem dL_law_518 : decode cL_law 518 = .ok (.aload_n 0, 1) := by decide +kernel
theorem dL_law_519 : decode cL_law 519 = .ok (.iload 4, 2) := by decide +kernel
theorem dL_law_521 : decode cL_law 521 = .ok (.iconst 1, 1) := by decide +kernel
theorem dL_law_522 : decode cL_law 522 = .ok (.iadd, 1) := by decide +kernel
theorem dL_law_523 : decode cL_law 523 = .ok (.iaload, 1) := by decide +kernel
theorem dL_law_524 : decode cL_law 524 = .ok (.aload_n 0, 1) := by decide +kernel
theorem dL_law_525 : decode cL_law 525 = .ok (.iload 4, 2) := by decide +kernel
theorem dL_law_527 : decode cL_law 527 = .ok (.iconst 2, 1) := by decide +kernel
theorem dL_law_528 : decode cL_law 528 = .ok (.iadd, 1) := by decide +kernel
theorem dL_law_529 : decode cL_law 529 = .ok (.iaload, 1) := by decide +kernel
theorem dL_law_530 : decode cL_law 530 = .ok (.invokevirtual 59, 3) := by decide +kernel
theorem dL_law_533 : decode cL_law 533 = .ok (.if_icmp .eq 369, 3) := by decide +kernel
set_option maxHeartbeats 4000000 in
set_option maxRecDepth 100000 in
theorem zc_7 {p : Program} {l : Launch} {e : Env} {s : State} {m : MethodId} {below : List Frame} {meth : Method} {c : Code} {dC : Nat → ClassId} {dI : Nat → Nat → Nat} {b : Nat} {xs : Nat → Int32} (C0 : lw_At p s m meth c b 9 xs)  {ax am ro : Nat} {ux um : Nat → Nat} {H : Heap} {locs : List Loc} (hK : va_K (dC, dI) vwCl [(ux 6, .byte), (ux 7, .object RX0), (ux 8, .object RX5), (um 46, .int), (um 47, .int), (um 48, .int), (um 49, .int), (um 50, .int), (um 51, .long), (um 52, .int), (um 53, .int), (um 54, .int), (um 55, .int)] s) (hP : va_P (dC, dI) vwCl [(ax, .inr (5, [.ref (ux 0), .int 0, .ref (ux 1), .int 0, .ref (ux 2), .int 0, .ref (ux 3)])), (ux 0, .inl (ux 6, 800, .inl (fun _ => 0))), (ux 1, .inl (ux 7, 5, .inr (.inr (.inr (.inr (fun _ => none)))))), (ux 2, .inl (ux 8, 40, .inr (.inr (.inr (.inr (fun _ => none)))))), (ux 3, .inr (1, [.ref (ux 4), .ref (ux 5), .int 0, .int 0, .int 0])), (ux 4, .inr (3, [.ref (ux 0), .int 0, .int 0, .int 0, .int 0, .long 0])), (am, .inr (6, zM 0 um)), (um 1, .inl (um 46, 800, .inl (fun _ => 0))), (um 4, .inl (um 47, 5, .inl (fun _ => 0))), (um 30, .inl (um 48, 40, .inl (fun _ => 0))), (um 31, .inl (um 49, 40, .inl (fun _ => 0))), (um 32, .inl (um 50, 40, .inl (fun _ => 0))), (um 33, .inl (um 51, 40, .inr (.inl (fun _ => 0)))), (um 34, .inl (um 52, 40, .inl (fun _ => 0))), (um 35, .inl (um 53, 40, .inl (fun _ => 0))), (um 36, .inl (um 54, 40, .inl (fun _ => 0))), (um 37, .inl (um 55, 40, .inl (fun _ => 0)))] H) (hD : va_D (fun q : Nat => s.heap.size ≤ q) [(ax, .inr (5, [.ref (ux 0), .int 0, .ref (ux 1), .int 0, .ref (ux 2), .int 0, .ref (ux 3)])), (ux 0, .inl (ux 6, 800, .inl (fun _ => 0))), (ux 1, .inl (ux 7, 5, .inr (.inr (.inr (.inr (fun _ => none)))))), (ux 2, .inl (ux 8, 40, .inr (.inr (.inr (.inr (fun _ => none)))))), (ux 3, .inr (1, [.ref (ux 4), .ref (ux 5), .int 0, .int 0, .int 0])), (ux 4, .inr (3, [.ref (ux 0), .int 0, .int 0, .int 0, .int 0, .long 0])), (am, .inr (6, zM 0 um)), (um 1, .inl (um 46, 800, .inl (fun _ => 0))), (um 4, .inl (um 47, 5, .inl (fun _ => 0))), (um 30, .inl (um 48, 40, .inl (fun _ => 0))), (um 31, .inl (um 49, 40, .inl (fun _ => 0))), (um 32, .inl (um 50, 40, .inl (fun _ => 0))), (um 33, .inl (um 51, 40, .inr (.inl (fun _ => 0)))), (um 34, .inl (um 52, 40, .inl (fun _ => 0))), (um 35, .inl (um 53, 40, .inl (fun _ => 0))), (um 36, .inl (um 54, 40, .inl (fun _ => 0))), (um 37, .inl (um 55, 40, .inl (fun _ => 0)))]) (hS : va_S (fun q : Nat => s.heap.size ≤ q) s.heap H locs) {ls : Array Slot} (hl : lv_has ls 7 [(4, .int 0), (3, .ref ro), (2, .ref am), (1, .ref ax), (0, .ref b)]) : W p l e room_1 s m #[Value.ref b] below meth c H locs 38 11351 (lw_Z below #[Value.ref b] s) (F0 m 501 ls []) := by
  have C1 := C0
  obtain ⟨hx, hb, hr, hml, hown, hts, hX, hbl, hlocks, hgv⟩ := C0
  have hown : s.vm.findClass RL = some m.cls := hown
  have hA : ∀ q : Nat, s.heap.size ≤ q → (fun q : Nat => s.heap.size ≤ q) q := fun _ h => h
  have hbA : ¬ (fun q : Nat => s.heap.size ≤ q) b := Nat.not_le.mpr hbl
  refine lv_aload_n hx hb dL_law_501 rfl (lv_at hl 3 rfl) ?_
  refine lv_aload_n hx hb dL_law_502 rfl (lv_at hl 4 rfl) ?_
  refine lv_iload hx hb dL_law_503 (lv_at hl 0 rfl) ?_
  refine lv_iconst (v := 1) hx hb dL_law_505 (by decide) ?_
  refine lv_iadd hx hb dL_law_506 ?_
  refine lv_topi (fun x1 ex1 => ?_)
  obtain rfl : x1 = 1 := by rw [ex1]; decide
  refine va_sld hx hb hX hbl hbA hS (by unfold vp_in; decide : vp_in 1 9) dL_law_507 ?_
  refine W.eq (g2 := F0 m 508 ls [.int (xs 1), .ref ax]) rfl ?_
  refine lv_aload_n hx hb dL_law_508 rfl (lv_at hl 4 rfl) ?_
  refine lv_iload hx hb dL_law_509 (lv_at hl 0 rfl) ?_
  refine lv_iconst (v := 2) hx hb dL_law_511 (by decide) ?_
  refine lv_iadd hx hb dL_law_512 ?_
  refine lv_topi (fun x2 ex2 => ?_)
  obtain rfl : x2 = 2 := by rw [ex2]; decide
  refine va_sld hx hb hX hbl hbA hS (by unfold vp_in; decide : vp_in 2 9) dL_law_513 ?_
  refine W.eq (g2 := F0 m 514 ls [.int (xs 2), .int (xs 1), .ref ax]) rfl ?_
  refine vp_callSi (W.runV (As := [.int (xs 1), .int (xs 2)]) (rest := []) ⟨hx, hb, hml, hown, hts⟩ (zX6_link l dC dI ax (ux 0) (ux 1) (ux 2) (ux 3) (xs 1) (xs 2)) (cwV 2 hts zgL_law_X6_link_56 rfl rfl rfl (by decide +kernel) ⟨(show 2 + 1 ≤ 10 by omega), (show 8 + (3 + 11) + 45 ≤ 372 by omega)⟩) (zVr (ci := 5) (q0 := 0) (q := (RX6, TX6, 7)) (hK.sub (tys' := []) [] rfl) (hP.sub (ws' := [(ax, .inr (5, [.ref (ux 0), .int 0, .ref (ux 1), .int 0, .ref (ux 2), .int 0, .ref (ux 3)]))]) [0] rfl) rfl rfl rfl) rfl rfl hl.1 rfl (lv_room (Nat.le_of_ble_eq_true rfl)) dL_law_514 ⟨(show 38 + 0 ≤ 600002 by omega), (show 11351 + 0 ≤ 7302232 by omega)⟩) (fun r3 hr3 => ?_)
  subst hr3
  refine lv_aload_n hx hb dL_law_517 rfl (lv_at hl 2 rfl) ?_
  refine lv_aload_n hx hb dL_law_518 rfl (lv_at hl 4 rfl) ?_
  refine lv_iload hx hb dL_law_519 (lv_at hl 0 rfl) ?_
  refine lv_iconst (v := 1) hx hb dL_law_521 (by decide) ?_
  refine lv_iadd hx hb dL_law_522 ?_
  refine lv_topi (fun x4 ex4 => ?_)
  obtain rfl : x4 = 1 := by rw [ex4]; decide
  refine va_sld hx hb hX hbl hbA hS (by unfold vp_in; decide : vp_in 1 9) dL_law_523 ?_
  refine W.eq (g2 := F0 m 524 ls [.int (xs 1), .ref am, .int (-2)]) rfl ?_
  refine lv_aload_n hx hb dL_law_524 rfl (lv_at hl 4 rfl) ?_
  refine lv_iload hx hb dL_law_525 (lv_at hl 0 rfl) ?_
  refine lv_iconst (v := 2) hx hb dL_law_527 (by decide) ?_
  refine lv_iadd hx hb dL_law_528 ?_
  refine lv_topi (fun x5 ex5 => ?_)
  obtain rfl : x5 = 2 := by rw [ex5]; decide
  refine va_sld hx hb hX hbl hbA hS (by unfold vp_in; decide : vp_in 2 9) dL_law_529 ?_
  refine W.eq (g2 := F0 m 530 ls [.int (xs 2), .int (xs 1), .ref am, .int (-2)]) rfl ?_
  have hPc := hP.sub (ws' := [(am, .inr (6, zM 0 um))]) [6] rfl
  have hDc := hD.sub (ws' := [(am, .inr (6, zM 0 um))]) [6] (by decide) rfl
  have hKc := hK.sub (tys' := []) [] rfl
  have hFc := va_free (wc := [(am, .inr (6, zM 0 um))]) hD hS hA [6] rfl
  refine va_calli (va_runV (As := [.int (xs 1), .int (xs 2)]) (rest := [.int (-2)]) ⟨hx, hb, hml, hown, hts⟩ (zX7_link l dC dI am um H.size (xs 1) (xs 2)) (cwV 2 hts zgL_law_X7_link_59 rfl rfl rfl (by decide +kernel) ⟨(show 2 + 1 ≤ 10 by omega), (show 8 + (4 + 11) + 46 ≤ 372 by omega)⟩) (zVw (ci := 6) (q0 := 0) (q := (RX7, TX7, 46)) hKc hPc hDc rfl rfl rfl) rfl rfl hl.1 rfl (lv_room (Nat.le_of_ble_eq_true rfl)) dL_law_530 ⟨(show 38 + 0 ≤ 600002 by omega), (show 11351 + 0 ≤ 7302232 by omega)⟩) hS (fun q _ h => hFc q h) hFc (fun r7 u6 t H1 locs ht hvm hw hB hz1 hk1 hS => ?_)
  obtain ⟨hP, hD⟩ := z_rest (wr := [(ax, .inr (5, [.ref (ux 0), .int 0, .ref (ux 1), .int 0, .ref (ux 2), .int 0, .ref (ux 3)])), (ux 0, .inl (ux 6, 800, .inl (fun _ => 0))), (ux 1, .inl (ux 7, 5, .inr (.inr (.inr (.inr (fun _ => none)))))), (ux 2, .inl (ux 8, 40, .inr (.inr (.inr (.inr (fun _ => none)))))), (ux 3, .inr (1, [.ref (ux 4), .ref (ux 5), .int 0, .int 0, .int 0])), (ux 4, .inr (3, [.ref (ux 0), .int 0, .int 0, .int 0, .int 0, .long 0])), (um 1, .inl (um 46, 800, .inl (fun _ => 0))), (um 4, .inl (um 47, 5, .inl (fun _ => 0))), (um 30, .inl (um 48, 40, .inl (fun _ => 0))), (um 31, .inl (um 49, 40, .inl (fun _ => 0))), (um 32, .inl (um 50, 40, .inl (fun _ => 0))), (um 33, .inl (um 51, 40, .inr (.inl (fun _ => 0)))), (um 34, .inl (um 52, 40, .inl (fun _ => 0))), (um 35, .inl (um 53, 40, .inl (fun _ => 0))), (um 36, .inl (um 54, 40, .inl (fun _ => 0))), (um 37, .inl (um 55, 40, .inl (fun _ => 0)))]) hP hD [6] [0, 1, 2, 3, 4, 5, 7, 8, 9, 10, 11, 12, 13, 14, 15, 16] rfl rfl (by decide) (by decide) hk1 hFc
  have hK := hK.sub (tys' := [(ux 6, .byte), (ux 7, .object RX0), (ux 8, .object RX5), (um 46, .int), (um 47, .int), (um 48, .int), (um 49, .int), (um 50, .int), (um 51, .long), (um 52, .int), (um 53, .int), (um 54, .int), (um 55, .int)]) [0, 1, 2, 3, 4, 5, 6, 7, 8, 9, 10, 11, 12] rfl
  generalize H1 = H at hP hS ⊢
  have hP : va_P (dC, dI) vwCl [(ax, .inr (5, [.ref (ux 0), .int 0, .ref (ux 1), .int 0, .ref (ux 2), .int 0, .ref (ux 3)])), (ux 0, .inl (ux 6, 800, .inl (fun _ => 0))), (ux 1, .inl (ux 7, 5, .inr (.inr (.inr (.inr (fun _ => none)))))), (ux 2, .inl (ux 8, 40, .inr (.inr (.inr (.inr (fun _ => none)))))), (ux 3, .inr (1, [.ref (ux 4), .ref (ux 5), .int 0, .int 0, .int 0])), (ux 4, .inr (3, [.ref (ux 0), .int 0, .int 0, .int 0, .int 0, .long 0])), (um 1, .inl (um 46, 800, .inl (fun _ => 0))), (um 4, .inl (um 47, 5, .inl (fun _ => 0))), (um 30, .inl (um 48, 40, .inl (fun _ => 0))), (um 31, .inl (um 49, 40, .inl (fun _ => 0))), (um 32, .inl (um 50, 40, .inl (fun _ => 0))), (um 33, .inl (um 51, 40, .inr (.inl (fun _ => 0)))), (um 34, .inl (um 52, 40, .inl (fun _ => 0))), (um 35, .inl (um 53, 40, .inl (fun _ => 0))), (um 36, .inl (um 54, 40, .inl (fun _ => 0))), (um 37, .inl (um 55, 40, .inl (fun _ => 0)))] H := hP
  have hD : va_D (fun q : Nat => s.heap.size ≤ q) [(ax, .inr (5, [.ref (ux 0), .int 0, .ref (ux 1), .int 0, .ref (ux 2), .int 0, .ref (ux 3)])), (ux 0, .inl (ux 6, 800, .inl (fun _ => 0))), (ux 1, .inl (ux 7, 5, .inr (.inr (.inr (.inr (fun _ => none)))))), (ux 2, .inl (ux 8, 40, .inr (.inr (.inr (.inr (fun _ => none)))))), (ux 3, .inr (1, [.ref (ux 4), .ref (ux 5), .int 0, .int 0, .int 0])), (ux 4, .inr (3, [.ref (ux 0), .int 0, .int 0, .int 0, .int 0, .long 0])), (um 1, .inl (um 46, 800, .inl (fun _ => 0))), (um 4, .inl (um 47, 5, .inl (fun _ => 0))), (um 30, .inl (um 48, 40, .inl (fun _ => 0))), (um 31, .inl (um 49, 40, .inl (fun _ => 0))), (um 32, .inl (um 50, 40, .inl (fun _ => 0))), (um 33, .inl (um 51, 40, .inr (.inl (fun _ => 0)))), (um 34, .inl (um 52, 40, .inl (fun _ => 0))), (um 35, .inl (um 53, 40, .inl (fun _ => 0))), (um 36, .inl (um 54, 40, .inl (fun _ => 0))), (um 37, .inl (um 55, 40, .inl (fun _ => 0)))] := hD
  have hK : va_K (dC, dI) vwCl [(ux 6, .byte), (ux 7, .object RX0), (ux 8, .object RX5), (um 46, .int), (um 47, .int), (um 48, .int), (um 49, .int), (um 50, .int), (um 51, .long), (um 52, .int), (um 53, .int), (um 54, .int), (um 55, .int)] s := hK
  obtain rfl : r7 = -2 := hw
  refine lv_icmp_eq (tgt := 902) hx hb dL_law_533 (by decide) (fun _ => ?_) (fun c9 => absurd (rfl) c9)
  exact zc_end C1 hS (lv_sub hl [0, 4] rfl) (by omega) (by omega)
