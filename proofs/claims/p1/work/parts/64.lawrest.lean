theorem dL_law_821 : decode cL_law 821 = .ok (.aload_n 1, 1) := by decide +kernel
theorem dL_law_822 : decode cL_law 822 = .ok (.aload_n 0, 1) := by decide +kernel
theorem dL_law_823 : decode cL_law 823 = .ok (.iload 4, 2) := by decide +kernel
theorem dL_law_825 : decode cL_law 825 = .ok (.iconst 1, 1) := by decide +kernel
theorem dL_law_826 : decode cL_law 826 = .ok (.iadd, 1) := by decide +kernel
theorem dL_law_827 : decode cL_law 827 = .ok (.iaload, 1) := by decide +kernel
theorem dL_law_828 : decode cL_law 828 = .ok (.invokevirtual 88, 3) := by decide +kernel
theorem dL_law_831 : decode cL_law 831 = .ok (.aload_n 2, 1) := by decide +kernel
theorem dL_law_832 : decode cL_law 832 = .ok (.aload_n 0, 1) := by decide +kernel
theorem dL_law_833 : decode cL_law 833 = .ok (.iload 4, 2) := by decide +kernel
theorem dL_law_835 : decode cL_law 835 = .ok (.iconst 1, 1) := by decide +kernel
theorem dL_law_836 : decode cL_law 836 = .ok (.iadd, 1) := by decide +kernel
theorem dL_law_837 : decode cL_law 837 = .ok (.iaload, 1) := by decide +kernel
theorem dL_law_838 : decode cL_law 838 = .ok (.invokevirtual 91, 3) := by decide +kernel
theorem dL_law_841 : decode cL_law 841 = .ok (.if_icmp .eq 61, 3) := by decide +kernel
set_option maxHeartbeats 4000000 in
set_option maxRecDepth 100000 in
theorem zc_15 {p : Program} {l : Launch} {e : Env} {s : State} {m : MethodId} {below : List Frame} {meth : Method} {c : Code} {dC : Nat → ClassId} {dI : Nat → Nat → Nat} {b : Nat} {xs : Nat → Int32} (C0 : lw_At p s m meth c b 9 xs)  {ax am ro : Nat} {ux um : Nat → Nat} {H : Heap} {locs : List Loc} (hK : va_K (dC, dI) vwCl [(ux 6, .byte), (ux 7, .object RX0), (ux 8, .object RX5), (um 46, .int), (um 47, .int), (um 48, .int), (um 49, .int), (um 50, .int), (um 51, .long), (um 52, .int), (um 53, .int), (um 54, .int), (um 55, .int)] s) (hP : va_P (dC, dI) vwCl [(ax, .inr (5, [.ref (ux 0), .int 0, .ref (ux 1), .int 0, .ref (ux 2), .int 0, .ref (ux 3)])), (ux 0, .inl (ux 6, 800, .inl (fun _ => 0))), (ux 1, .inl (ux 7, 5, .inr (.inr (.inr (.inr (fun _ => none)))))), (ux 2, .inl (ux 8, 40, .inr (.inr (.inr (.inr (fun _ => none)))))), (ux 3, .inr (1, [.ref (ux 4), .ref (ux 5), .int 0, .int 0, .int 0])), (ux 4, .inr (3, [.ref (ux 0), .int 0, .int 0, .int 0, .int 0, .long 0])), (am, .inr (6, zM 0 um)), (um 1, .inl (um 46, 800, .inl (fun _ => 0))), (um 4, .inl (um 47, 5, .inl (fun _ => 0))), (um 30, .inl (um 48, 40, .inl (fun _ => 0))), (um 31, .inl (um 49, 40, .inl (fun _ => 0))), (um 32, .inl (um 50, 40, .inl (fun _ => 0))), (um 33, .inl (um 51, 40, .inr (.inl (fun _ => 0)))), (um 34, .inl (um 52, 40, .inl (fun _ => 0))), (um 35, .inl (um 53, 40, .inl (fun _ => 0))), (um 36, .inl (um 54, 40, .inl (fun _ => 0))), (um 37, .inl (um 55, 40, .inl (fun _ => 0)))] H) (hD : va_D (fun q : Nat => s.heap.size ≤ q) [(ax, .inr (5, [.ref (ux 0), .int 0, .ref (ux 1), .int 0, .ref (ux 2), .int 0, .ref (ux 3)])), (ux 0, .inl (ux 6, 800, .inl (fun _ => 0))), (ux 1, .inl (ux 7, 5, .inr (.inr (.inr (.inr (fun _ => none)))))), (ux 2, .inl (ux 8, 40, .inr (.inr (.inr (.inr (fun _ => none)))))), (ux 3, .inr (1, [.ref (ux 4), .ref (ux 5), .int 0, .int 0, .int 0])), (ux 4, .inr (3, [.ref (ux 0), .int 0, .int 0, .int 0, .int 0, .long 0])), (am, .inr (6, zM 0 um)), (um 1, .inl (um 46, 800, .inl (fun _ => 0))), (um 4, .inl (um 47, 5, .inl (fun _ => 0))), (um 30, .inl (um 48, 40, .inl (fun _ => 0))), (um 31, .inl (um 49, 40, .inl (fun _ => 0))), (um 32, .inl (um 50, 40, .inl (fun _ => 0))), (um 33, .inl (um 51, 40, .inr (.inl (fun _ => 0)))), (um 34, .inl (um 52, 40, .inl (fun _ => 0))), (um 35, .inl (um 53, 40, .inl (fun _ => 0))), (um 36, .inl (um 54, 40, .inl (fun _ => 0))), (um 37, .inl (um 55, 40, .inl (fun _ => 0)))]) (hS : va_S (fun q : Nat => s.heap.size ≤ q) s.heap H locs) {ls : Array Slot} (hl : lv_has ls 7 [(4, .int 0), (3, .ref ro), (2, .ref am), (1, .ref ax), (0, .ref b)]) : W p l e room_1 s m #[Value.ref b] below meth c H locs 38 11351 (lw_Z below #[Value.ref b] s) (F0 m 821 ls []) := by
  have C1 := C0
  obtain ⟨hx, hb, hr, hml, hown, hts, hX, hbl, hlocks, hgv⟩ := C0
  have hown : s.vm.findClass RL = some m.cls := hown
  have hA : ∀ q : Nat, s.heap.size ≤ q → (fun q : Nat => s.heap.size ≤ q) q := fun _ h => h
  have hbA : ¬ (fun q : Nat => s.heap.size ≤ q) b := Nat.not_le.mpr hbl
  refine lv_aload_n hx hb dL_law_821 rfl (lv_at hl 3 rfl) ?_
  refine lv_aload_n hx hb dL_law_822 rfl (lv_at hl 4 rfl) ?_
  refine lv_iload hx hb dL_law_823 (lv_at hl 0 rfl) ?_
  refine lv_iconst (v := 1) hx hb dL_law_825 (by decide) ?_
  refine lv_iadd hx hb dL_law_826 ?_
  refine lv_topi (fun x1 ex1 => ?_)
  obtain rfl : x1 = 1 := by rw [ex1]; decide
  refine va_sld hx hb hX hbl hbA hS (by unfold vp_in; decide : vp_in 1 9) dL_law_827 ?_
  refine W.eq (g2 := F0 m 828 ls [.int (xs 1), .ref ax]) rfl ?_
  refine vp_callSi (W.runV (As := [.int (xs 1)]) (rest := []) ⟨hx, hb, hml, hown, hts⟩ (zX6_told l dC dI ax (ux 0) (ux 1) (ux 2) (ux 3) (xs 1)) (cwV 1 hts zgL_law_X6_told_88 rfl rfl rfl (by decide +kernel) ⟨(show 0 + 1 ≤ 10 by omega), (show 8 + (2 + 11) + 0 ≤ 372 by omega)⟩) (zVr (ci := 5) (q0 := 0) (q := (RX6, TX6, 7)) (hK.sub (tys' := []) [] rfl) (hP.sub (ws' := [(ax, .inr (5, [.ref (ux 0), .int 0, .ref (ux 1), .int 0, .ref (ux 2), .int 0, .ref (ux 3)]))]) [0] rfl) rfl rfl rfl) rfl rfl hl.1 rfl (lv_room (Nat.le_of_ble_eq_true rfl)) dL_law_828 ⟨(show 38 + 0 ≤ 600002 by omega), (show 11351 + 0 ≤ 7302232 by omega)⟩) (fun r2 hr2 => ?_)
  have hr2 : r2 = if xs 1 = 0 then 0 else if xs 1 = 1 then 0 else if xs 1 = 2 then 0 else -3 := hr2
  refine lv_aload_n hx hb dL_law_831 rfl (lv_at hl 2 rfl) ?_
  refine lv_aload_n hx hb dL_law_832 rfl (lv_at hl 4 rfl) ?_
  refine lv_iload hx hb dL_law_833 (lv_at hl 0 rfl) ?_
  refine lv_iconst (v := 1) hx hb dL_law_835 (by decide) ?_
  refine lv_iadd hx hb dL_law_836 ?_
  refine lv_topi (fun x3 ex3 => ?_)
  obtain rfl : x3 = 1 := by rw [ex3]; decide
  refine va_sld hx hb hX hbl hbA hS (by unfold vp_in; decide : vp_in 1 9) dL_law_837 ?_
  refine W.eq (g2 := F0 m 838 ls [.int (xs 1), .ref am, .int r2]) rfl ?_
  have hPc := hP.sub (ws' := [(am, .inr (6, zM 0 um))]) [6] rfl
  have hDc := hD.sub (ws' := [(am, .inr (6, zM 0 um))]) [6] (by decide) rfl
  have hKc := hK.sub (tys' := []) [] rfl
  have hFc := va_free (wc := [(am, .inr (6, zM 0 um))]) hD hS hA [6] rfl
  refine va_calli (va_runV (As := [.int (xs 1)]) (rest := [.int r2]) ⟨hx, hb, hml, hown, hts⟩ (zX7_told l dC dI am um H.size (xs 1)) (cwV 1 hts zgL_law_X7_told_91 rfl rfl rfl (by decide +kernel) ⟨(show 0 + 1 ≤ 10 by omega), (show 8 + (2 + 11) + 0 ≤ 372 by omega)⟩) (zVw (ci := 6) (q0 := 0) (q := (RX7, TX7, 46)) hKc hPc hDc rfl rfl rfl) rfl rfl hl.1 rfl (lv_room (Nat.le_of_ble_eq_true rfl)) dL_law_838 ⟨(show 38 + 0 ≤ 600002 by omega), (show 11351 + 0 ≤ 7302232 by omega)⟩) hS (fun q _ h => hFc q h) hFc (fun r5 u4 t H1 locs ht hvm hw hB hz1 hk1 hS => ?_)
  obtain ⟨hP, hD⟩ := z_rest (wr := [(ax, .inr (5, [.ref (ux 0), .int 0, .ref (ux 1), .int 0, .ref (ux 2), .int 0, .ref (ux 3)])), (ux 0, .inl (ux 6, 800, .inl (fun _ => 0))), (ux 1, .inl (ux 7, 5, .inr (.inr (.inr (.inr (fun _ => none)))))), (ux 2, .inl (ux 8, 40, .inr (.inr (.inr (.inr (fun _ => none)))))), (ux 3, .inr (1, [.ref (ux 4), .ref (ux 5), .int 0, .int 0, .int 0])), (ux 4, .inr (3, [.ref (ux 0), .int 0, .int 0, .int 0, .int 0, .long 0])), (um 1, .inl (um 46, 800, .inl (fun _ => 0))), (um 4, .inl (um 47, 5, .inl (fun _ => 0))), (um 30, .inl (um 48, 40, .inl (fun _ => 0))), (um 31, .inl (um 49, 40, .inl (fun _ => 0))), (um 32, .inl (um 50, 40, .inl (fun _ => 0))), (um 33, .inl (um 51, 40, .inr (.inl (fun _ => 0)))), (um 34, .inl (um 52, 40, .inl (fun _ => 0))), (um 35, .inl (um 53, 40, .inl (fun _ => 0))), (um 36, .inl (um 54, 40, .inl (fun _ => 0))), (um 37, .inl (um 55, 40, .inl (fun _ => 0)))]) hP hD [6] [0, 1, 2, 3, 4, 5, 7, 8, 9, 10, 11, 12, 13, 14, 15, 16] rfl rfl (by decide) (by decide) hk1 hFc
  have hK := hK.sub (tys' := [(ux 6, .byte), (ux 7, .object RX0), (ux 8, .object RX5), (um 46, .int), (um 47, .int), (um 48, .int), (um 49, .int), (um 50, .int), (um 51, .long), (um 52, .int), (um 53, .int), (um 54, .int), (um 55, .int)]) [0, 1, 2, 3, 4, 5, 6, 7, 8, 9, 10, 11, 12] rfl
  generalize H1 = H at hP hS ⊢
  have hP : va_P (dC, dI) vwCl [(ax, .inr (5, [.ref (ux 0), .int 0, .ref (ux 1), .int 0, .ref (ux 2), .int 0, .ref (ux 3)])), (ux 0, .inl (ux 6, 800, .inl (fun _ => 0))), (ux 1, .inl (ux 7, 5, .inr (.inr (.inr (.inr (fun _ => none)))))), (ux 2, .inl (ux 8, 40, .inr (.inr (.inr (.inr (fun _ => none)))))), (ux 3, .inr (1, [.ref (ux 4), .ref (ux 5), .int 0, .int 0, .int 0])), (ux 4, .inr (3, [.ref (ux 0), .int 0, .int 0, .int 0, .int 0, .long 0])), (um 1, .inl (um 46, 800, .inl (fun _ => 0))), (um 4, .inl (um 47, 5, .inl (fun _ => 0))), (um 30, .inl (um 48, 40, .inl (fun _ => 0))), (um 31, .inl (um 49, 40, .inl (fun _ => 0))), (um 32, .inl (um 50, 40, .inl (fun _ => 0))), (um 33, .inl (um 51, 40, .inr (.inl (fun _ => 0)))), (um 34, .inl (um 52, 40, .inl (fun _ => 0))), (um 35, .inl (um 53, 40, .inl (fun _ => 0))), (um 36, .inl (um 54, 40, .inl (fun _ => 0))), (um 37, .inl (um 55, 40, .inl (fun _ => 0)))] H := hP
  have hD : va_D (fun q : Nat => s.heap.size ≤ q) [(ax, .inr (5, [.ref (ux 0), .int 0, .ref (ux 1), .int 0, .ref (ux 2), .int 0, .ref (ux 3)])), (ux 0, .inl (ux 6, 800, .inl (fun _ => 0))), (ux 1, .inl (ux 7, 5, .inr (.inr (.inr (.inr (fun _ => none)))))), (ux 2, .inl (ux 8, 40, .inr (.inr (.inr (.inr (fun _ => none)))))), (ux 3, .inr (1, [.ref (ux 4), .ref (ux 5), .int 0, .int 0, .int 0])), (ux 4, .inr (3, [.ref (ux 0), .int 0, .int 0, .int 0, .int 0, .long 0])), (um 1, .inl (um 46, 800, .inl (fun _ => 0))), (um 4, .inl (um 47, 5, .inl (fun _ => 0))), (um 30, .inl (um 48, 40, .inl (fun _ => 0))), (um 31, .inl (um 49, 40, .inl (fun _ => 0))), (um 32, .inl (um 50, 40, .inl (fun _ => 0))), (um 33, .inl (um 51, 40, .inr (.inl (fun _ => 0)))), (um 34, .inl (um 52, 40, .inl (fun _ => 0))), (um 35, .inl (um 53, 40, .inl (fun _ => 0))), (um 36, .inl (um 54, 40, .inl (fun _ => 0))), (um 37, .inl (um 55, 40, .inl (fun _ => 0)))] := hD
  have hK : va_K (dC, dI) vwCl [(ux 6, .byte), (ux 7, .object RX0), (ux 8, .object RX5), (um 46, .int), (um 47, .int), (um 48, .int), (um 49, .int), (um 50, .int), (um 51, .long), (um 52, .int), (um 53, .int), (um 54, .int), (um 55, .int)] s := hK
  have hr5 : r5 = if xs 1 = 0 then 0 else if xs 1 = 1 then 0 else if xs 1 = 2 then 0 else -3 := hw
  refine lv_icmp_eq (tgt := 902) hx hb dL_law_841 (by decide) (fun _ => ?_) (fun c9 => absurd (by rw [hr2, hr5]) c9)
  exact zc_end C1 hS (lv_sub hl [0, 4] rfl) (by omega) (by omega)
theorem dL_law_124 : decode cL_law 124 = .ok (.aload_n 1, 1) := by decide +kernel
theorem dL_law_125 : decode cL_law 125 = .ok (.aload_n 0, 1) := by decide +kernel
theorem dL_law_126 : decode cL_law 126 = .ok (.iload 4, 2) := by decide +kernel
theorem dL_law_128 : decode cL_law 128 = .ok (.iconst 1, 1) := by decide +kernel
theorem dL_law_129 : decode cL_law 129 = .ok (.iadd, 1) := by decide +kernel
theorem dL_law_130 : decode cL_law 130 = .ok (.iaload, 1) := by decide +kernel
theorem dL_law_131 : decode cL_law 131 = .ok (.i2l, 1) := by decide +kernel
theorem dL_law_132 : decode cL_law 132 = .ok (.bipush 32, 2) := by decide +kernel
theorem dL_law_134 : decode cL_law 134 = .ok (.lshl, 1) := by decide +kernel
theorem dL_law_135 : decode cL_law 135 = .ok (.aload_n 0, 1) := by decide +kernel
theorem dL_law_136 : decode cL_law 136 = .ok (.iload 4, 2) := by decide +kernel
theorem dL_law_138 : decode cL_law 138 = .ok (.iconst 2, 1) := by decide +kernel
theorem dL_law_139 : decode cL_law 139 = .ok (.iadd, 1) := by decide +kernel
theorem dL_law_140 : decode cL_law 140 = .ok (.iaload, 1) := by decide +kernel
theorem dL_law_141 : decode cL_law 141 = .ok (.i2l, 1) := by decide +kernel
theorem dL_law_142 : decode cL_law 142 = .ok (.ldc2_w 21, 3) := by decide +kernel
theorem dL_law_145 : decode cL_law 145 = .ok (.land, 1) := by decide +kernel
theorem dL_law_146 : decode cL_law 146 = .ok (.lor, 1) := by decide +kernel
theorem dL_law_147 : decode cL_law 147 = .ok (.aload_n 0, 1) := by decide +kernel
theorem dL_law_148 : decode cL_law 148 = .ok (.iload 4, 2) := by decide +kernel
theorem dL_law_150 : decode cL_law 150 = .ok (.iconst 3, 1) := by decide +kernel
theorem dL_law_151 : decode cL_law 151 = .ok (.iadd, 1) := by decide +kernel
theorem dL_law_152 : decode cL_law 152 = .ok (.iaload, 1) := by decide +kernel
theorem dL_law_153 : decode cL_law 153 = .ok (.invokevirtual 23, 3) := by decide +kernel
theorem dL_law_156 : decode cL_law 156 = .ok (.aload_n 2, 1) := by decide +kernel
theorem dL_law_157 : decode cL_law 157 = .ok (.aload_n 0, 1) := by decide +kernel
theorem dL_law_158 : decode cL_law 158 = .ok (.iload 4, 2) := by decide +kernel
theorem dL_law_160 : decode cL_law 160 = .ok (.iconst 1, 1) := by decide +kernel
theorem dL_law_161 : decode cL_law 161 = .ok (.iadd, 1) := by decide +kernel
theorem dL_law_162 : decode cL_law 162 = .ok (.iaload, 1) := by decide +kernel
theorem dL_law_163 : decode cL_law 163 = .ok (.i2l, 1) := by decide +kernel
theorem dL_law_164 : decode cL_law 164 = .ok (.bipush 32, 2) := by decide +kernel
theorem dL_law_166 : decode cL_law 166 = .ok (.lshl, 1) := by decide +kernel
theorem dL_law_167 : decode cL_law 167 = .ok (.aload_n 0, 1) := by decide +kernel
theorem dL_law_168 : decode cL_law 168 = .ok (.iload 4, 2) := by decide +kernel
theorem dL_law_170 : decode cL_law 170 = .ok (.iconst 2, 1) := by decide +kernel
theorem dL_law_171 : decode cL_law 171 = .ok (.iadd, 1) := by decide +kernel
theorem dL_law_172 : decode cL_law 172 = .ok (.iaload, 1) := by decide +kernel
theorem dL_law_173 : decode cL_law 173 = .ok (.i2l, 1) := by decide +kernel
theorem dL_law_174 : decode cL_law 174 = .ok (.ldc2_w 21, 3) := by decide +kernel
theorem dL_law_177 : decode cL_law 177 = .ok (.land, 1) := by decide +kernel
theorem dL_law_178 : decode cL_law 178 = .ok (.lor, 1) := by decide +kernel
theorem dL_law_179 : decode cL_law 179 = .ok (.aload_n 0, 1) := by decide +kernel
theorem dL_law_180 : decode cL_law 180 = .ok (.iload 4, 2) := by decide +kernel
theorem dL_law_182 : decode cL_law 182 = .ok (.iconst 3, 1) := by decide +kernel
theorem dL_law_183 : decode cL_law 183 = .ok (.iadd, 1) := by decide +kernel
theorem dL_law_184 : decode cL_law 184 = .ok (.iaload, 1) := by decide +kernel
theorem dL_law_185 : decode cL_law 185 = .ok (.invokevirtual 27, 3) := by decide +kernel
theorem dL_law_188 : decode cL_law 188 = .ok (.if_icmp .eq 714, 3) := by decide +kernel
set_option maxHeartbeats 4000000 in
set_option maxRecDepth 100000 in
theorem zc_0 {p : Program} {l : Launch} {e : Env} {s : State} {m : MethodId} {below : List Frame} {meth : Method} {c : Code} {dC : Nat → ClassId} {dI : Nat → Nat → Nat} {b : Nat} {xs : Nat → Int32} (C0 : lw_At p s m meth c b 9 xs)  {ax am ro : Nat} {ux um : Nat → Nat} {H : Heap} {locs : List Loc} (hK : va_K (dC, dI) vwCl [(ux 6, .byte), (ux 7, .object RX0), (ux 8, .object RX5), (um 46, .int), (um 47, .int), (um 48, .int), (um 49, .int), (um 50, .int), (um 51, .long), (um 52, .int), (um 53, .int), (um 54, .int), (um 55, .int)] s) (hP : va_P (dC, dI) vwCl [(ax, .inr (5, [.ref (ux 0), .int 0, .ref (ux 1), .int 0, .ref (ux 2), .int 0, .ref (ux 3)])), (ux 0, .inl (ux 6, 800, .inl (fun _ => 0))), (ux 1, .inl (ux 7, 5, .inr (.inr (.inr (.inr (fun _ => none)))))), (ux 2, .inl (ux 8, 40, .inr (.inr (.inr (.inr (fun _ => none)))))), (ux 3, .inr (1, [.ref (ux 4), .ref (ux 5), .int 0, .int 0, .int 0])), (ux 4, .inr (3, [.ref (ux 0), .int 0, .int 0, .int 0, .int 0, .long 0])), (am, .inr (6, zM 0 um)), (um 1, .inl (um 46, 800, .inl (fun _ => 0))), (um 4, .inl (um 47, 5, .inl (fun _ => 0))), (um 30, .inl (um 48, 40, .inl (fun _ => 0))), (um 31, .inl (um 49, 40, .inl (fun _ => 0))), (um 32, .inl (um 50, 40, .inl (fun _ => 0))), (um 33, .inl (um 51, 40, .inr (.inl (fun _ => 0)))), (um 34, .inl (um 52, 40, .inl (fun _ => 0))), (um 35, .inl (um 53, 40, .inl (fun _ => 0))), (um 36, .inl (um 54, 40, .inl (fun _ => 0))), (um 37, .inl (um 55, 40, .inl (fun _ => 0)))] H) (hD : va_D (fun q : Nat => s.heap.size ≤ q) [(ax, .inr (5, [.ref (ux 0), .int 0, .ref (ux 1), .int 0, .ref (ux 2), .int 0, .ref (ux 3)])), (ux 0, .inl (ux 6, 800, .inl (fun _ => 0))), (ux 1, .inl (ux 7, 5, .inr (.inr (.inr (.inr (fun _ => none)))))), (ux 2, .inl (ux 8, 40, .inr (.inr (.inr (.inr (fun _ => none)))))), (ux 3, .inr (1, [.ref (ux 4), .ref (ux 5), .int 0, .int 0, .int 0])), (ux 4, .inr (3, [.ref (ux 0), .int 0, .int 0, .int 0, .int 0, .long 0])), (am, .inr (6, zM 0 um)), (um 1, .inl (um 46, 800, .inl (fun _ => 0))), (um 4, .inl (um 47, 5, .inl (fun _ => 0))), (um 30, .inl (um 48, 40, .inl (fun _ => 0))), (um 31, .inl (um 49, 40, .inl (fun _ => 0))), (um 32, .inl (um 50, 40, .inl (fun _ => 0))), (um 33, .inl (um 51, 40, .inr (.inl (fun _ => 0)))), (um 34, .inl (um 52, 40, .inl (fun _ => 0))), (um 35, .inl (um 53, 40, .inl (fun _ => 0))), (um 36, .inl (um 54, 40, .inl (fun _ => 0))), (um 37, .inl (um 55, 40, .inl (fun _ => 0)))]) (hS : va_S (fun q : Nat => s.heap.size ≤ q) s.heap H locs) {ls : Array Slot} (hl : lv_has ls 7 [(4, .int 0), (3, .ref ro), (2, .ref am), (1, .ref ax), (0, .ref b)]) : W p l e room_1 s m #[Value.ref b] below meth c H locs 38 11351 (lw_Z below #[Value.ref b] s) (F0 m 124 ls []) := by
  have C1 := C0
  obtain ⟨hx, hb, hr, hml, hown, hts, hX, hbl, hlocks, hgv⟩ := C0
  have hown : s.vm.findClass RL = some m.cls := hown
  have hA : ∀ q : Nat, s.heap.size ≤ q → (fun q : Nat => s.heap.size ≤ q) q := fun _ h => h
  have hbA : ¬ (fun q : Nat => s.heap.size ≤ q) b := Nat.not_le.mpr hbl
  refine lv_aload_n hx hb dL_law_124 rfl (lv_at hl 3 rfl) ?_
  refine lv_aload_n hx hb dL_law_125 rfl (lv_at hl 4 rfl) ?_
  refine lv_iload hx hb dL_law_126 (lv_at hl 0 rfl) ?_
  refine lv_iconst (v := 1) hx hb dL_law_128 (by decide) ?_
  refine lv_iadd hx hb dL_law_129 ?_
  refine lv_topi (fun x1 ex1 => ?_)
  obtain rfl : x1 = 1 := by rw [ex1]; decide
  refine va_sld hx hb hX hbl hbA hS (by unfold vp_in; decide : vp_in 1 9) dL_law_130 ?_
  refine W.eq (g2 := F0 m 131 ls [.int (xs 1), .ref ax]) rfl ?_
  refine lv_i2l hx hb dL_law_131 rfl ?_
  refine lv_topl (fun x2 ex2 => ?_)
  refine lv_bipush (v := 32) hx hb dL_law_132 (by decide) ?_
  refine lv_lshl hx hb dL_law_134 rfl ?_
  refine lv_topl (fun x3 ex3 => ?_)
  refine lv_aload_n hx hb dL_law_135 rfl (lv_at hl 4 rfl) ?_
  refine lv_iload hx hb dL_law_136 (lv_at hl 0 rfl) ?_
  refine lv_iconst (v := 2) hx hb dL_law_138 (by decide) ?_
  refine lv_iadd hx hb dL_law_139 ?_
  refine lv_topi (fun x4 ex4 => ?_)
  obtain rfl : x4 = 2 := by rw [ex4]; decide
  refine va_sld hx hb hX hbl hbA hS (by unfold vp_in; decide : vp_in 2 9) dL_law_140 ?_
  refine W.eq (g2 := F0 m 141 ls [.int (xs 2), .long x3, .ref ax]) rfl ?_
  refine lv_i2l hx hb dL_law_141 rfl ?_
  refine lv_topl (fun x5 ex5 => ?_)
  refine lv_ldc2 (v := 4294967295) hx hb hown (hts (.constantLong RL 21 (4294967295)) (by decide +kernel)) dL_law_142 ?_
  refine lv_land hx hb dL_law_145 ?_
  refine lv_topl (fun x6 ex6 => ?_)
  refine lv_lor hx hb dL_law_146 ?_
  refine lv_topl (fun x7 ex7 => ?_)
  refine lv_aload_n hx hb dL_law_147 rfl (lv_at hl 4 rfl) ?_
  refine lv_iload hx hb dL_law_148 (lv_at hl 0 rfl) ?_
  refine lv_iconst (v := 3) hx hb dL_law_150 (by decide) ?_
  refine lv_iadd hx hb dL_law_151 ?_
  refine lv_topi (fun x8 ex8 => ?_)
  obtain rfl : x8 = 3 := by rw [ex8]; decide
  refine va_sld hx hb hX hbl hbA hS (by unfold vp_in; decide : vp_in 3 9) dL_law_152 ?_
  refine W.eq (g2 := F0 m 153 ls [.int (xs 3), .long x7, .ref ax]) rfl ?_
  have hPc := hP.sub (ws' := [(ax, .inr (5, [.ref (ux 0), .int 0, .ref (ux 1), .int 0, .ref (ux 2), .int 0, .ref (ux 3)])), (ux 0, .inl (ux 6, 800, .inl (fun _ => 0)))]) [0, 1] rfl
  have hDc := hD.sub (ws' := [(ax, .inr (5, [.ref (ux 0), .int 0, .ref (ux 1), .int 0, .ref (ux 2), .int 0, .ref (ux 3)])), (ux 0, .inl (ux 6, 800, .inl (fun _ => 0)))]) [0, 1] (by decide) rfl
  have hKc := hK.sub (tys' := [(ux 6, .byte)]) [0] rfl
  have hFc := va_free (wc := [(ax, .inr (5, [.ref (ux 0), .int 0, .ref (ux 1), .int 0, .ref (ux 2), .int 0, .ref (ux 3)])), (ux 0, .inl (ux 6, 800, .inl (fun _ => 0)))]) hD hS hA [0, 1] rfl
  refine va_calli (va_runV (As := [.long x7, .int (xs 3)]) (rest := []) ⟨hx, hb, hml, hown, hts⟩ (zX6_feed l dC dI ax (ux 0) (ux 1) (ux 2) (ux 3) (ux 6) x7 (xs 3) H.size) (cwV 2 hts zgL_law_X6_feed_23 rfl rfl rfl (by decide +kernel) ⟨(show 0 + 1 ≤ 10 by omega), (show 8 + (5 + 11) + 0 ≤ 372 by omega)⟩) (zVw (ci := 5) (q0 := 0) (q := (RX6, TX6, 7)) hKc hPc hDc rfl rfl rfl) rfl rfl hl.1 rfl (lv_room (Nat.le_of_ble_eq_true rfl)) dL_law_153 ⟨(show 38 + 0 ≤ 600002 by omega), (show 11351 + 0 ≤ 7302232 by omega)⟩) hS (fun q _ h => hFc q h) hFc (fun r10 u9 t H1 locs ht hvm hw hB hz1 hk1 hS => ?_)
  obtain ⟨hP, hD⟩ := z_rest (wr := [(ux 1, .inl (ux 7, 5, .inr (.inr (.inr (.inr (fun _ => none)))))), (ux 2, .inl (ux 8, 40, .inr (.inr (.inr (.inr (fun _ => none)))))), (ux 3, .inr (1, [.ref (ux 4), .ref (ux 5), .int 0, .int 0, .int 0])), (ux 4, .inr (3, [.ref (ux 0), .int 0, .int 0, .int 0, .int 0, .long 0])), (am, .inr (6, zM 0 um)), (um 1, .inl (um 46, 800, .inl (fun _ => 0))), (um 4, .inl (um 47, 5, .inl (fun _ => 0))), (um 30, .inl (um 48, 40, .inl (fun _ => 0))), (um 31, .inl (um 49, 40, .inl (fun _ => 0))), (um 32, .inl (um 50, 40, .inl (fun _ => 0))), (um 33, .inl (um 51, 40, .inr (.inl (fun _ => 0)))), (um 34, .inl (um 52, 40, .inl (fun _ => 0))), (um 35, .inl (um 53, 40, .inl (fun _ => 0))), (um 36, .inl (um 54, 40, .inl (fun _ => 0))), (um 37, .inl (um 55, 40, .inl (fun _ => 0)))]) hP hD [0, 1] [2, 3, 4, 5, 6, 7, 8, 9, 10, 11, 12, 13, 14, 15, 16] rfl rfl (by decide) (by decide) hk1 hFc
  have hK := hK.sub (tys' := [(ux 7, .object RX0), (ux 8, .object RX5), (um 46, .int), (um 47, .int), (um 48, .int), (um 49, .int), (um 50, .int), (um 51, .long), (um 52, .int), (um 53, .int), (um 54, .int), (um 55, .int)]) [1, 2, 3, 4, 5, 6, 7, 8, 9, 10, 11, 12] rfl
  generalize H1 = H at hP hS ⊢
  have hP : va_P (dC, dI) vwCl [(ux 1, .inl (ux 7, 5, .inr (.inr (.inr (.inr (fun _ => none)))))), (ux 2, .inl (ux 8, 40, .inr (.inr (.inr (.inr (fun _ => none)))))), (ux 3, .inr (1, [.ref (ux 4), .ref (ux 5), .int 0, .int 0, .int 0])), (ux 4, .inr (3, [.ref (ux 0), .int 0, .int 0, .int 0, .int 0, .long 0])), (am, .inr (6, zM 0 um)), (um 1, .inl (um 46, 800, .inl (fun _ => 0))), (um 4, .inl (um 47, 5, .inl (fun _ => 0))), (um 30, .inl (um 48, 40, .inl (fun _ => 0))), (um 31, .inl (um 49, 40, .inl (fun _ => 0))), (um 32, .inl (um 50, 40, .inl (fun _ => 0))), (um 33, .inl (um 51, 40, .inr (.inl (fun _ => 0)))), (um 34, .inl (um 52, 40, .inl (fun _ => 0))), (um 35, .inl (um 53, 40, .inl (fun _ => 0))), (um 36, .inl (um 54, 40, .inl (fun _ => 0))), (um 37, .inl (um 55, 40, .inl (fun _ => 0)))] H := hP
  have hD : va_D (fun q : Nat => s.heap.size ≤ q) [(ux 1, .inl (ux 7, 5, .inr (.inr (.inr (.inr (fun _ => none)))))), (ux 2, .inl (ux 8, 40, .inr (.inr (.inr (.inr (fun _ => none)))))), (ux 3, .inr (1, [.ref (ux 4), .ref (ux 5), .int 0, .int 0, .int 0])), (ux 4, .inr (3, [.ref (ux 0), .int 0, .int 0, .int 0, .int 0, .long 0])), (am, .inr (6, zM 0 um)), (um 1, .inl (um 46, 800, .inl (fun _ => 0))), (um 4, .inl (um 47, 5, .inl (fun _ => 0))), (um 30, .inl (um 48, 40, .inl (fun _ => 0))), (um 31, .inl (um 49, 40, .inl (fun _ => 0))), (um 32, .inl (um 50, 40, .inl (fun _ => 0))), (um 33, .inl (um 51, 40, .inr (.inl (fun _ => 0)))), (um 34, .inl (um 52, 40, .inl (fun _ => 0))), (um 35, .inl (um 53, 40, .inl (fun _ => 0))), (um 36, .inl (um 54, 40, .inl (fun _ => 0))), (um 37, .inl (um 55, 40, .inl (fun _ => 0)))] := hD
  have hK : va_K (dC, dI) vwCl [(ux 7, .object RX0), (ux 8, .object RX5), (um 46, .int), (um 47, .int), (um 48, .int), (um 49, .int), (um 50, .int), (um 51, .long), (um 52, .int), (um 53, .int), (um 54, .int), (um 55, .int)] s := hK
  have hr10 : r10 = if (xs 3 < 1 ∨ 8 < xs 3) then -3 else xs 3 := hw
  refine lv_aload_n hx hb dL_law_156 rfl (lv_at hl 2 rfl) ?_
  refine lv_aload_n hx hb dL_law_157 rfl (lv_at hl 4 rfl) ?_
  refine lv_iload hx hb dL_law_158 (lv_at hl 0 rfl) ?_
  refine lv_iconst (v := 1) hx hb dL_law_160 (by decide) ?_
  refine lv_iadd hx hb dL_law_161 ?_
  refine lv_topi (fun x11 ex11 => ?_)
  obtain rfl : x11 = 1 := by rw [ex11]; decide
  refine va_sld hx hb hX hbl hbA hS (by unfold vp_in; decide : vp_in 1 9) dL_law_162 ?_
  refine W.eq (g2 := F0 m 163 ls [.int (xs 1), .ref am, .int r10]) rfl ?_
  refine lv_i2l hx hb dL_law_163 rfl ?_
  refine lv_topl (fun x12 ex12 => ?_)
  refine lv_bipush (v := 32) hx hb dL_law_164 (by decide) ?_
  refine lv_lshl hx hb dL_law_166 rfl ?_
  refine lv_topl (fun x13 ex13 => ?_)
  refine lv_aload_n hx hb dL_law_167 rfl (lv_at hl 4 rfl) ?_
  refine lv_iload hx hb dL_law_168 (lv_at hl 0 rfl) ?_
  refine lv_iconst (v := 2) hx hb dL_law_170 (by decide) ?_
  refine lv_iadd hx hb dL_law_171 ?_
  refine lv_topi (fun x14 ex14 => ?_)
  obtain rfl : x14 = 2 := by rw [ex14]; decide
  refine va_sld hx hb hX hbl hbA hS (by unfold vp_in; decide : vp_in 2 9) dL_law_172 ?_
  refine W.eq (g2 := F0 m 173 ls [.int (xs 2), .long x13, .ref am, .int r10]) rfl ?_
  refine lv_i2l hx hb dL_law_173 rfl ?_
  refine lv_topl (fun x15 ex15 => ?_)
  refine lv_ldc2 (v := 4294967295) hx hb hown (hts (.constantLong RL 21 (4294967295)) (by decide +kernel)) dL_law_174 ?_
  refine lv_land hx hb dL_law_177 ?_
  refine lv_topl (fun x16 ex16 => ?_)
  refine lv_lor hx hb dL_law_178 ?_
  refine lv_topl (fun x17 ex17 => ?_)
  refine lv_aload_n hx hb dL_law_179 rfl (lv_at hl 4 rfl) ?_
  refine lv_iload hx hb dL_law_180 (lv_at hl 0 rfl) ?_
  refine lv_iconst (v := 3) hx hb dL_law_182 (by decide) ?_
  refine lv_iadd hx hb dL_law_183 ?_
  refine lv_topi (fun x18 ex18 => ?_)
  obtain rfl : x18 = 3 := by rw [ex18]; decide
  refine va_sld hx hb hX hbl hbA hS (by unfold vp_in; decide : vp_in 3 9) dL_law_184 ?_
  refine W.eq (g2 := F0 m 185 ls [.int (xs 3), .long x17, .ref am, .int r10]) rfl ?_
  have hPc := hP.sub (ws' := [(am, .inr (6, zM 0 um)), (um 1, .inl (um 46, 800, .inl (fun _ => 0)))]) [4, 5] rfl
  have hDc := hD.sub (ws' := [(am, .inr (6, zM 0 um)), (um 1, .inl (um 46, 800, .inl (fun _ => 0)))]) [4, 5] (by decide) rfl
  have hKc := hK.sub (tys' := [(um 46, .int)]) [2] rfl
  have hFc := va_free (wc := [(am, .inr (6, zM 0 um)), (um 1, .inl (um 46, 800, .inl (fun _ => 0)))]) hD hS hA [4, 5] rfl
  refine va_calli (va_runV (As := [.long x17, .int (xs 3)]) (rest := [.int r10]) ⟨hx, hb, hml, hown, hts⟩ (zX7_feed l dC dI am um (um 46) x17 (xs 3) H.size) (cwV 2 hts zgL_law_X7_feed_27 rfl rfl rfl (by decide +kernel) ⟨(show 1 + 1 ≤ 10 by omega), (show 8 + (5 + 11) + 25 ≤ 372 by omega)⟩) (zVw (ci := 6) (q0 := 0) (q := (RX7, TX7, 46)) hKc hPc hDc rfl rfl rfl) rfl rfl hl.1 rfl (lv_room (Nat.le_of_ble_eq_true rfl)) dL_law_185 ⟨(show 38 + 0 ≤ 600002 by omega), (show 11351 + 0 ≤ 7302232 by omega)⟩) hS (fun q _ h => hFc q h) hFc (fun r20 u19 t H1 locs ht hvm hw hB hz1 hk1 hS => ?_)
  obtain ⟨hP, hD⟩ := z_rest (wr := [(ux 1, .inl (ux 7, 5, .inr (.inr (.inr (.inr (fun _ => none)))))), (ux 2, .inl (ux 8, 40, .inr (.inr (.inr (.inr (fun _ => none)))))), (ux 3, .inr (1, [.ref (ux 4), .ref (ux 5), .int 0, .int 0, .int 0])), (ux 4, .inr (3, [.ref (ux 0), .int 0, .int 0, .int 0, .int 0, .long 0])), (um 4, .inl (um 47, 5, .inl (fun _ => 0))), (um 30, .inl (um 48, 40, .inl (fun _ => 0))), (um 31, .inl (um 49, 40, .inl (fun _ => 0))), (um 32, .inl (um 50, 40, .inl (fun _ => 0))), (um 33, .inl (um 51, 40, .inr (.inl (fun _ => 0)))), (um 34, .inl (um 52, 40, .inl (fun _ => 0))), (um 35, .inl (um 53, 40, .inl (fun _ => 0))), (um 36, .inl (um 54, 40, .inl (fun _ => 0))), (um 37, .inl (um 55, 40, .inl (fun _ => 0)))]) hP hD [4, 5] [0, 1, 2, 3, 6, 7, 8, 9, 10, 11, 12, 13, 14] rfl rfl (by decide) (by decide) hk1 hFc
  have hK := hK.sub (tys' := [(ux 7, .object RX0), (ux 8, .object RX5), (um 47, .int), (um 48, .int), (um 49, .int), (um 50, .int), (um 51, .long), (um 52, .int), (um 53, .int), (um 54, .int), (um 55, .int)]) [0, 1, 3, 4, 5, 6, 7, 8, 9, 10, 11] rfl
  generalize H1 = H at hP hS ⊢
  have hP : va_P (dC, dI) vwCl [(ux 1, .inl (ux 7, 5, .inr (.inr (.inr (.inr (fun _ => none)))))), (ux 2, .inl (ux 8, 40, .inr (.inr (.inr (.inr (fun _ => none)))))), (ux 3, .inr (1, [.ref (ux 4), .ref (ux 5), .int 0, .int 0, .int 0])), (ux 4, .inr (3, [.ref (ux 0), .int 0, .int 0, .int 0, .int 0, .long 0])), (um 4, .inl (um 47, 5, .inl (fun _ => 0))), (um 30, .inl (um 48, 40, .inl (fun _ => 0))), (um 31, .inl (um 49, 40, .inl (fun _ => 0))), (um 32, .inl (um 50, 40, .inl (fun _ => 0))), (um 33, .inl (um 51, 40, .inr (.inl (fun _ => 0)))), (um 34, .inl (um 52, 40, .inl (fun _ => 0))), (um 35, .inl (um 53, 40, .inl (fun _ => 0))), (um 36, .inl (um 54, 40, .inl (fun _ => 0))), (um 37, .inl (um 55, 40, .inl (fun _ => 0)))] H := hP
  have hD : va_D (fun q : Nat => s.heap.size ≤ q) [(ux 1, .inl (ux 7, 5, .inr (.inr (.inr (.inr (fun _ => none)))))), (ux 2, .inl (ux 8, 40, .inr (.inr (.inr (.inr (fun _ => none)))))), (ux 3, .inr (1, [.ref (ux 4), .ref (ux 5), .int 0, .int 0, .int 0])), (ux 4, .inr (3, [.ref (ux 0), .int 0, .int 0, .int 0, .int 0, .long 0])), (um 4, .inl (um 47, 5, .inl (fun _ => 0))), (um 30, .inl (um 48, 40, .inl (fun _ => 0))), (um 31, .inl (um 49, 40, .inl (fun _ => 0))), (um 32, .inl (um 50, 40, .inl (fun _ => 0))), (um 33, .inl (um 51, 40, .inr (.inl (fun _ => 0)))), (um 34, .inl (um 52, 40, .inl (fun _ => 0))), (um 35, .inl (um 53, 40, .inl (fun _ => 0))), (um 36, .inl (um 54, 40, .inl (fun _ => 0))), (um 37, .inl (um 55, 40, .inl (fun _ => 0)))] := hD
  have hK : va_K (dC, dI) vwCl [(ux 7, .object RX0), (ux 8, .object RX5), (um 47, .int), (um 48, .int), (um 49, .int), (um 50, .int), (um 51, .long), (um 52, .int), (um 53, .int), (um 54, .int), (um 55, .int)] s := hK
  have hr20 : r20 = if (xs 3 < 1 ∨ 8 < xs 3) then -3 else xs 3 := hw
  refine lv_icmp_eq (tgt := 902) hx hb dL_law_188 (by decide) (fun _ => ?_) (fun c9 => absurd (by rw [hr10, hr20]) c9)
  exact zc_end C1 hS (lv_sub hl [0, 4] rfl) (by omega) (by omega)
theorem dL_law_193 : decode cL_law 193 = .ok (.aload_n 1, 1) := by decide +kernel
theorem dL_law_194 : decode cL_law 194 = .ok (.invokevirtual 28, 3) := by decide +kernel
theorem dL_law_197 : decode cL_law 197 = .ok (.aload_n 2, 1) := by decide +kernel
theorem dL_law_198 : decode cL_law 198 = .ok (.invokevirtual 32, 3) := by decide +kernel
theorem dL_law_201 : decode cL_law 201 = .ok (.if_icmp .eq 701, 3) := by decide +kernel
set_option maxHeartbeats 4000000 in
set_option maxRecDepth 100000 in
theorem zc_1 {p : Program} {l : Launch} {e : Env} {s : State} {m : MethodId} {below : List Frame} {meth : Method} {c : Code} {dC : Nat → ClassId} {dI : Nat → Nat → Nat} {b : Nat} {xs : Nat → Int32} (C0 : lw_At p s m meth c b 9 xs) (hE : zE s) {ax am ro : Nat} {ux um : Nat → Nat} {H : Heap} {locs : List Loc} (hK : va_K (dC, dI) vwCl [(ux 6, .byte), (ux 7, .object RX0), (ux 8, .object RX5), (um 46, .int), (um 47, .int), (um 48, .int), (um 49, .int), (um 50, .int), (um 51, .long), (um 52, .int), (um 53, .int), (um 54, .int), (um 55, .int)] s) (hP : va_P (dC, dI) vwCl [(ax, .inr (5, [.ref (ux 0), .int 0, .ref (ux 1), .int 0, .ref (ux 2), .int 0, .ref (ux 3)])), (ux 0, .inl (ux 6, 800, .inl (fun _ => 0))), (ux 1, .inl (ux 7, 5, .inr (.inr (.inr (.inr (fun _ => none)))))), (ux 2, .inl (ux 8, 40, .inr (.inr (.inr (.inr (fun _ => none)))))), (ux 3, .inr (1, [.ref (ux 4), .ref (ux 5), .int 0, .int 0, .int 0])), (ux 4, .inr (3, [.ref (ux 0), .int 0, .int 0, .int 0, .int 0, .long 0])), (am, .inr (6, zM 0 um)), (um 1, .inl (um 46, 800, .inl (fun _ => 0))), (um 4, .inl (um 47, 5, .inl (fun _ => 0))), (um 30, .inl (um 48, 40, .inl (fun _ => 0))), (um 31, .inl (um 49, 40, .inl (fun _ => 0))), (um 32, .inl (um 50, 40, .inl (fun _ => 0))), (um 33, .inl (um 51, 40, .inr (.inl (fun _ => 0)))), (um 34, .inl (um 52, 40, .inl (fun _ => 0))), (um 35, .inl (um 53, 40, .inl (fun _ => 0))), (um 36, .inl (um 54, 40, .inl (fun _ => 0))), (um 37, .inl (um 55, 40, .inl (fun _ => 0)))] H) (hD : va_D (fun q : Nat => s.heap.size ≤ q) [(ax, .inr (5, [.ref (ux 0), .int 0, .ref (ux 1), .int 0, .ref (ux 2), .int 0, .ref (ux 3)])), (ux 0, .inl (ux 6, 800, .inl (fun _ => 0))), (ux 1, .inl (ux 7, 5, .inr (.inr (.inr (.inr (fun _ => none)))))), (ux 2, .inl (ux 8, 40, .inr (.inr (.inr (.inr (fun _ => none)))))), (ux 3, .inr (1, [.ref (ux 4), .ref (ux 5), .int 0, .int 0, .int 0])), (ux 4, .inr (3, [.ref (ux 0), .int 0, .int 0, .int 0, .int 0, .long 0])), (am, .inr (6, zM 0 um)), (um 1, .inl (um 46, 800, .inl (fun _ => 0))), (um 4, .inl (um 47, 5, .inl (fun _ => 0))), (um 30, .inl (um 48, 40, .inl (fun _ => 0))), (um 31, .inl (um 49, 40, .inl (fun _ => 0))), (um 32, .inl (um 50, 40, .inl (fun _ => 0))), (um 33, .inl (um 51, 40, .inr (.inl (fun _ => 0)))), (um 34, .inl (um 52, 40, .inl (fun _ => 0))), (um 35, .inl (um 53, 40, .inl (fun _ => 0))), (um 36, .inl (um 54, 40, .inl (fun _ => 0))), (um 37, .inl (um 55, 40, .inl (fun _ => 0)))]) (hS : va_S (fun q : Nat => s.heap.size ≤ q) s.heap H locs) {ls : Array Slot} (hl : lv_has ls 7 [(4, .int 0), (3, .ref ro), (2, .ref am), (1, .ref ax), (0, .ref b)]) : W p l e room_1 s m #[Value.ref b] below meth c H locs 38 11351 (lw_Z below #[Value.ref b] s) (F0 m 193 ls []) := by
  have C1 := C0
  obtain ⟨hx, hb, hr, hml, hown, hts, hX, hbl, hlocks, hgv⟩ := C0
  have hown : s.vm.findClass RL = some m.cls := hown
  have hA : ∀ q : Nat, s.heap.size ≤ q → (fun q : Nat => s.heap.size ≤ q) q := fun _ h => h
  have hbA : ¬ (fun q : Nat => s.heap.size ≤ q) b := Nat.not_le.mpr hbl
  refine lv_aload_n hx hb dL_law_193 rfl (lv_at hl 3 rfl) ?_
  have hPc := hP.sub (ws' := [(ax, .inr (5, [.ref (ux 0), .int 0, .ref (ux 1), .int 0, .ref (ux 2), .int 0, .ref (ux 3)])), (ux 1, .inl (ux 7, 5, .inr (.inr (.inr (.inr (fun _ => none)))))), (ux 3, .inr (1, [.ref (ux 4), .ref (ux 5), .int 0, .int 0, .int 0])), (ux 4, .inr (3, [.ref (ux 0), .int 0, .int 0, .int 0, .int 0, .long 0])), (ux 0, .inl (ux 6, 800, .inl (fun _ => 0)))]) [0, 2, 4, 5, 1] rfl
  have hDc := hD.sub (ws' := [(ax, .inr (5, [.ref (ux 0), .int 0, .ref (ux 1), .int 0, .ref (ux 2), .int 0, .ref (ux 3)])), (ux 1, .inl (ux 7, 5, .inr (.inr (.inr (.inr (fun _ => none)))))), (ux 3, .inr (1, [.ref (ux 4), .ref (ux 5), .int 0, .int 0, .int 0])), (ux 4, .inr (3, [.ref (ux 0), .int 0, .int 0, .int 0, .int 0, .long 0])), (ux 0, .inl (ux 6, 800, .inl (fun _ => 0)))]) [0, 2, 4, 5, 1] (by decide) rfl
  have hKc := hK.sub (tys' := [(ux 7, .object RX0), (ux 6, .byte)]) [1, 0] rfl
  have hFc := va_free (wc := [(ax, .inr (5, [.ref (ux 0), .int 0, .ref (ux 1), .int 0, .ref (ux 2), .int 0, .ref (ux 3)])), (ux 1, .inl (ux 7, 5, .inr (.inr (.inr (.inr (fun _ => none)))))), (ux 3, .inr (1, [.ref (ux 4), .ref (ux 5), .int 0, .int 0, .int 0])), (ux 4, .inr (3, [.ref (ux 0), .int 0, .int 0, .int 0, .int 0, .long 0])), (ux 0, .inl (ux 6, 800, .inl (fun _ => 0)))]) hD hS hA [0, 2, 4, 5, 1] rfl
  refine va_calli (va_runV (As := []) (rest := []) ⟨hx, hb, hml, hown, hts⟩ (zX6_build l dC dI ax (ux 0) (ux 1) (ux 2) (ux 3) (ux 4) (ux 5) (ux 7) (ux 6) (fun _ => 0) H.size) (cwV 0 hts zgL_law_X6_build_28 rfl rfl rfl (by decide +kernel) ⟨(show 4 + 1 ≤ 10 by omega), (show 8 + (3 + 11) + 86 ≤ 372 by omega)⟩) (zVe (ci := 5) (q0 := 0) (q := (RX6, TX6, 7)) hKc hPc hDc hE rfl rfl rfl) rfl rfl hl.1 rfl (lv_room (Nat.le_of_ble_eq_true rfl)) dL_law_194 ⟨(show 38 + 17 ≤ 600002 by omega), (show 11351 + 1697 ≤ 7302232 by omega)⟩) hS (fun q _ h => hFc q h) hFc (fun r2 u1 t H1 locs ht hvm hw hB hz1 hk1 hS => ?_)
  obtain ⟨hP, hD⟩ := z_rest (wr := [(ux 2, .inl (ux 8, 40, .inr (.inr (.inr (.inr (fun _ => none)))))), (am, .inr (6, zM 0 um)), (um 1, .inl (um 46, 800, .inl (fun _ => 0))), (um 4, .inl (um 47, 5, .inl (fun _ => 0))), (um 30, .inl (um 48, 40, .inl (fun _ => 0))), (um 31, .inl (um 49, 40, .inl (fun _ => 0))), (um 32, .inl (um 50, 40, .inl (fun _ => 0))), (um 33, .inl (um 51, 40, .inr (.inl (fun _ => 0)))), (um 34, .inl (um 52, 40, .inl (fun _ => 0))), (um 35, .inl (um 53, 40, .inl (fun _ => 0))), (um 36, .inl (um 54, 40, .inl (fun _ => 0))), (um 37, .inl (um 55, 40, .inl (fun _ => 0)))]) hP hD [0, 2, 4, 5, 1] [3, 6, 7, 8, 9, 10, 11, 12, 13, 14, 15, 16] rfl rfl (by decide) (by decide) hk1 hFc
  have hK := hK.sub (tys' := [(ux 8, .object RX5), (um 46, .int), (um 47, .int), (um 48, .int), (um 49, .int), (um 50, .int), (um 51, .long), (um 52, .int), (um 53, .int), (um 54, .int), (um 55, .int)]) [2, 3, 4, 5, 6, 7, 8, 9, 10, 11, 12] rfl
  generalize H1 = H at hP hS ⊢
  have hP : va_P (dC, dI) vwCl [(ux 2, .inl (ux 8, 40, .inr (.inr (.inr (.inr (fun _ => none)))))), (am, .inr (6, zM 0 um)), (um 1, .inl (um 46, 800, .inl (fun _ => 0))), (um 4, .inl (um 47, 5, .inl (fun _ => 0))), (um 30, .inl (um 48, 40, .inl (fun _ => 0))), (um 31, .inl (um 49, 40, .inl (fun _ => 0))), (um 32, .inl (um 50, 40, .inl (fun _ => 0))), (um 33, .inl (um 51, 40, .inr (.inl (fun _ => 0)))), (um 34, .inl (um 52, 40, .inl (fun _ => 0))), (um 35, .inl (um 53, 40, .inl (fun _ => 0))), (um 36, .inl (um 54, 40, .inl (fun _ => 0))), (um 37, .inl (um 55, 40, .inl (fun _ => 0)))] H := hP
  have hD : va_D (fun q : Nat => s.heap.size ≤ q) [(ux 2, .inl (ux 8, 40, .inr (.inr (.inr (.inr (fun _ => none)))))), (am, .inr (6, zM 0 um)), (um 1, .inl (um 46, 800, .inl (fun _ => 0))), (um 4, .inl (um 47, 5, .inl (fun _ => 0))), (um 30, .inl (um 48, 40, .inl (fun _ => 0))), (um 31, .inl (um 49, 40, .inl (fun _ => 0))), (um 32, .inl (um 50, 40, .inl (fun _ => 0))), (um 33, .inl (um 51, 40, .inr (.inl (fun _ => 0)))), (um 34, .inl (um 52, 40, .inl (fun _ => 0))), (um 35, .inl (um 53, 40, .inl (fun _ => 0))), (um 36, .inl (um 54, 40, .inl (fun _ => 0))), (um 37, .inl (um 55, 40, .inl (fun _ => 0)))] := hD
  have hK : va_K (dC, dI) vwCl [(ux 8, .object RX5), (um 46, .int), (um 47, .int), (um 48, .int), (um 49, .int), (um 50, .int), (um 51, .long), (um 52, .int), (um 53, .int), (um 54, .int), (um 55, .int)] s := hK
  refine W.widen (k := 55) (n := 13048) (by omega) (by omega) ?_
  obtain rfl : r2 = 0 := hw
  refine lv_aload_n hx hb dL_law_197 rfl (lv_at hl 2 rfl) ?_
  have hPc := hP.sub (ws' := [(am, .inr (6, zM 0 um)), (um 4, .inl (um 47, 5, .inl (fun _ => 0)))]) [1, 3] rfl
  have hDc := hD.sub (ws' := [(am, .inr (6, zM 0 um)), (um 4, .inl (um 47, 5, .inl (fun _ => 0)))]) [1, 3] (by decide) rfl
  have hKc := hK.sub (tys' := [(um 47, .int)]) [2] rfl
  have hFc := va_free (wc := [(am, .inr (6, zM 0 um)), (um 4, .inl (um 47, 5, .inl (fun _ => 0)))]) hD hS hA [1, 3] rfl
  refine va_calli (va_runV (As := []) (rest := [.int 0]) ⟨hx, hb, hml, hown, hts⟩ (zX7_build l dC dI am um (um 47) H.size) (cwV 0 hts zgL_law_X7_build_32 rfl rfl rfl (by decide +kernel) ⟨(show 1 + 1 ≤ 10 by omega), (show 8 + (2 + 11) + 25 ≤ 372 by omega)⟩) (zVw (ci := 6) (q0 := 0) (q := (RX7, TX7, 46)) hKc hPc hDc rfl rfl rfl) rfl rfl hl.1 rfl (lv_room (Nat.le_of_ble_eq_true rfl)) dL_law_198 ⟨(show 55 + 0 ≤ 600002 by omega), (show 13048 + 0 ≤ 7302232 by omega)⟩) hS (fun q _ h => hFc q h) hFc (fun r4 u3 t H1 locs ht hvm hw hB hz1 hk1 hS => ?_)
  obtain ⟨hP, hD⟩ := z_rest (wr := [(ux 2, .inl (ux 8, 40, .inr (.inr (.inr (.inr (fun _ => none)))))), (um 1, .inl (um 46, 800, .inl (fun _ => 0))), (um 30, .inl (um 48, 40, .inl (fun _ => 0))), (um 31, .inl (um 49, 40, .inl (fun _ => 0))), (um 32, .inl (um 50, 40, .inl (fun _ => 0))), (um 33, .inl (um 51, 40, .inr (.inl (fun _ => 0)))), (um 34, .inl (um 52, 40, .inl (fun _ => 0))), (um 35, .inl (um 53, 40, .inl (fun _ => 0))), (um 36, .inl (um 54, 40, .inl (fun _ => 0))), (um 37, .inl (um 55, 40, .inl (fun _ => 0)))]) hP hD [1, 3] [0, 2, 4, 5, 6, 7, 8, 9, 10, 11] rfl rfl (by decide) (by decide) hk1 hFc
  have hK := hK.sub (tys' := [(ux 8, .object RX5), (um 46, .int), (um 48, .int), (um 49, .int), (um 50, .int), (um 51, .long), (um 52, .int), (um 53, .int), (um 54, .int), (um 55, .int)]) [0, 1, 3, 4, 5, 6, 7, 8, 9, 10] rfl
  generalize H1 = H at hP hS ⊢
  have hP : va_P (dC, dI) vwCl [(ux 2, .inl (ux 8, 40, .inr (.inr (.inr (.inr (fun _ => none)))))), (um 1, .inl (um 46, 800, .inl (fun _ => 0))), (um 30, .inl (um 48, 40, .inl (fun _ => 0))), (um 31, .inl (um 49, 40, .inl (fun _ => 0))), (um 32, .inl (um 50, 40, .inl (fun _ => 0))), (um 33, .inl (um 51, 40, .inr (.inl (fun _ => 0)))), (um 34, .inl (um 52, 40, .inl (fun _ => 0))), (um 35, .inl (um 53, 40, .inl (fun _ => 0))), (um 36, .inl (um 54, 40, .inl (fun _ => 0))), (um 37, .inl (um 55, 40, .inl (fun _ => 0)))] H := hP
  have hD : va_D (fun q : Nat => s.heap.size ≤ q) [(ux 2, .inl (ux 8, 40, .inr (.inr (.inr (.inr (fun _ => none)))))), (um 1, .inl (um 46, 800, .inl (fun _ => 0))), (um 30, .inl (um 48, 40, .inl (fun _ => 0))), (um 31, .inl (um 49, 40, .inl (fun _ => 0))), (um 32, .inl (um 50, 40, .inl (fun _ => 0))), (um 33, .inl (um 51, 40, .inr (.inl (fun _ => 0)))), (um 34, .inl (um 52, 40, .inl (fun _ => 0))), (um 35, .inl (um 53, 40, .inl (fun _ => 0))), (um 36, .inl (um 54, 40, .inl (fun _ => 0))), (um 37, .inl (um 55, 40, .inl (fun _ => 0)))] := hD
  have hK : va_K (dC, dI) vwCl [(ux 8, .object RX5), (um 46, .int), (um 48, .int), (um 49, .int), (um 50, .int), (um 51, .long), (um 52, .int), (um 53, .int), (um 54, .int), (um 55, .int)] s := hK
  obtain rfl : r4 = 0 := hw
  refine lv_icmp_eq (tgt := 902) hx hb dL_law_201 (by decide) (fun _ => ?_) (fun c9 => absurd (rfl) c9)
  exact zc_end C1 hS (lv_sub hl [0, 4] rfl) (by omega) (by omega)
theorem dL_law_366 : decode cL_law 366 = .ok (.aload_n 1, 1) := by decide +kernel
theorem dL_law_367 : decode cL_law 367 = .ok (.aload_n 0, 1) := by decide +kernel
theorem dL_law_368 : decode cL_law 368 = .ok (.iload 4, 2) := by decide +kernel
theorem dL_law_370 : decode cL_law 370 = .ok (.iconst 1, 1) := by decide +kernel
theorem dL_law_371 : decode cL_law 371 = .ok (.iadd, 1) := by decide +kernel
theorem dL_law_372 : decode cL_law 372 = .ok (.iaload, 1) := by decide +kernel
theorem dL_law_373 : decode cL_law 373 = .ok (.aload_n 0, 1) := by decide +kernel
theorem dL_law_374 : decode cL_law 374 = .ok (.iload 4, 2) := by decide +kernel
theorem dL_law_376 : decode cL_law 376 = .ok (.iconst 2, 1) := by decide +kernel
theorem dL_law_377 : decode cL_law 377 = .ok (.iadd, 1) := by decide +kernel
theorem dL_law_378 : decode cL_law 378 = .ok (.iaload, 1) := by decide +kernel
theorem dL_law_379 : decode cL_law 379 = .ok (.aload_n 0, 1) := by decide +kernel
theorem dL_law_380 : decode cL_law 380 = .ok (.iload 4, 2) := by decide +kernel
theorem dL_law_382 : decode cL_law 382 = .ok (.iconst 3, 1) := by decide +kernel
theorem dL_law_383 : decode cL_law 383 = .ok (.iadd, 1) := by decide +kernel
theorem dL_law_384 : decode cL_law 384 = .ok (.iaload, 1) := by decide +kernel
theorem dL_law_385 : decode cL_law 385 = .ok (.aload_n 0, 1) := by decide +kernel
theorem dL_law_386 : decode cL_law 386 = .ok (.iload 4, 2) := by decide +kernel
theorem dL_law_388 : decode cL_law 388 = .ok (.iconst 4, 1) := by decide +kernel
theorem dL_law_389 : decode cL_law 389 = .ok (.iadd, 1) := by decide +kernel
theorem dL_law_390 : decode cL_law 390 = .ok (.iaload, 1) := by decide +kernel
theorem dL_law_391 : decode cL_law 391 = .ok (.i2l, 1) := by decide +kernel
theorem dL_law_392 : decode cL_law 392 = .ok (.bipush 32, 2) := by decide +kernel
theorem dL_law_394 : decode cL_law 394 = .ok (.lshl, 1) := by decide +kernel
theorem dL_law_395 : decode cL_law 395 = .ok (.aload_n 0, 1) := by decide +kernel
theorem dL_law_396 : decode cL_law 396 = .ok (.iload 4, 2) := by decide +kernel
theorem dL_law_398 : decode cL_law 398 = .ok (.iconst 5, 1) := by decide +kernel
theorem dL_law_399 : decode cL_law 399 = .ok (.iadd, 1) := by decide +kernel
theorem dL_law_400 : decode cL_law 400 = .ok (.iaload, 1) := by decide +kernel
theorem dL_law_401 : decode cL_law 401 = .ok (.i2l, 1) := by decide +kernel
theorem dL_law_402 : decode cL_law 402 = .ok (.ldc2_w 21, 3) := by decide +kernel
theorem dL_law_405 : decode cL_law 405 = .ok (.land, 1) := by decide +kernel
theorem dL_law_406 : decode cL_law 406 = .ok (.lor, 1) := by decide +kernel
theorem dL_law_407 : decode cL_law 407 = .ok (.aload_n 0, 1) := by decide +kernel
theorem dL_law_408 : decode cL_law 408 = .ok (.iload 4, 2) := by decide +kernel
theorem dL_law_410 : decode cL_law 410 = .ok (.bipush 6, 2) := by decide +kernel
theorem dL_law_412 : decode cL_law 412 = .ok (.iadd, 1) := by decide +kernel
theorem dL_law_413 : decode cL_law 413 = .ok (.iaload, 1) := by decide +kernel
theorem dL_law_414 : decode cL_law 414 = .ok (.aload_n 0, 1) := by decide +kernel
theorem dL_law_415 : decode cL_law 415 = .ok (.iload 4, 2) := by decide +kernel
theorem dL_law_417 : decode cL_law 417 = .ok (.bipush 7, 2) := by decide +kernel
theorem dL_law_419 : decode cL_law 419 = .ok (.iadd, 1) := by decide +kernel
theorem dL_law_420 : decode cL_law 420 = .ok (.iaload, 1) := by decide +kernel
theorem dL_law_421 : decode cL_law 421 = .ok (.aload_n 0, 1) := by decide +kernel
theorem dL_law_422 : decode cL_law 422 = .ok (.iload 4, 2) := by decide +kernel
theorem dL_law_424 : decode cL_law 424 = .ok (.bipush 8, 2) := by decide +kernel
theorem dL_law_426 : decode cL_law 426 = .ok (.iadd, 1) := by decide +kernel
theorem dL_law_427 : decode cL_law 427 = .ok (.iaload, 1) := by decide +kernel
theorem dL_law_428 : decode cL_law 428 = .ok (.invokevirtual 51, 3) := by decide +kernel
theorem dL_law_431 : decode cL_law 431 = .ok (.aload_n 2, 1) := by decide +kernel
theorem dL_law_432 : decode cL_law 432 = .ok (.aload_n 0, 1) := by decide +kernel
theorem dL_law_433 : decode cL_law 433 = .ok (.iload 4, 2) := by decide +kernel
theorem dL_law_435 : decode cL_law 435 = .ok (.iconst 1, 1) := by decide +kernel
theorem dL_law_436 : decode cL_law 436 = .ok (.iadd, 1) := by decide +kernel
theorem dL_law_437 : decode cL_law 437 = .ok (.iaload, 1) := by decide +kernel
theorem dL_law_438 : decode cL_law 438 = .ok (.aload_n 0, 1) := by decide +kernel
theorem dL_law_439 : decode cL_law 439 = .ok (.iload 4, 2) := by decide +kernel
theorem dL_law_441 : decode cL_law 441 = .ok (.iconst 2, 1) := by decide +kernel
theorem dL_law_442 : decode cL_law 442 = .ok (.iadd, 1) := by decide +kernel
theorem dL_law_443 : decode cL_law 443 = .ok (.iaload, 1) := by decide +kernel
theorem dL_law_444 : decode cL_law 444 = .ok (.aload_n 0, 1) := by decide +kernel
theorem dL_law_445 : decode cL_law 445 = .ok (.iload 4, 2) := by decide +kernel
theorem dL_law_447 : decode cL_law 447 = .ok (.iconst 3, 1) := by decide +kernel
theorem dL_law_448 : decode cL_law 448 = .ok (.iadd, 1) := by decide +kernel
theorem dL_law_449 : decode cL_law 449 = .ok (.iaload, 1) := by decide +kernel
theorem dL_law_450 : decode cL_law 450 = .ok (.aload_n 0, 1) := by decide +kernel
theorem dL_law_451 : decode cL_law 451 = .ok (.iload 4, 2) := by decide +kernel
theorem dL_law_453 : decode cL_law 453 = .ok (.iconst 4, 1) := by decide +kernel
theorem dL_law_454 : decode cL_law 454 = .ok (.iadd, 1) := by decide +kernel
theorem dL_law_455 : decode cL_law 455 = .ok (.iaload, 1) := by decide +kernel
theorem dL_law_456 : decode cL_law 456 = .ok (.i2l, 1) := by decide +kernel
theorem dL_law_457 : decode cL_law 457 = .ok (.bipush 32, 2) := by decide +kernel
theorem dL_law_459 : decode cL_law 459 = .ok (.lshl, 1) := by decide +kernel
theorem dL_law_460 : decode cL_law 460 = .ok (.aload_n 0, 1) := by decide +kernel
theorem dL_law_461 : decode cL_law 461 = .ok (.iload 4, 2) := by decide +kernel
theorem dL_law_463 : decode cL_law 463 = .ok (.iconst 5, 1) := by decide +kernel
theorem dL_law_464 : decode cL_law 464 = .ok (.iadd, 1) := by decide +kernel
theorem dL_law_465 : decode cL_law 465 = .ok (.iaload, 1) := by decide +kernel
theorem dL_law_466 : decode cL_law 466 = .ok (.i2l, 1) := by decide +kernel
theorem dL_law_467 : decode cL_law 467 = .ok (.ldc2_w 21, 3) := by decide +kernel
theorem dL_law_470 : decode cL_law 470 = .ok (.land, 1) := by decide +kernel
theorem dL_law_471 : decode cL_law 471 = .ok (.lor, 1) := by decide +kernel
theorem dL_law_472 : decode cL_law 472 = .ok (.aload_n 0, 1) := by decide +kernel
theorem dL_law_473 : decode cL_law 473 = .ok (.iload 4, 2) := by decide +kernel
theorem dL_law_475 : decode cL_law 475 = .ok (.bipush 6, 2) := by decide +kernel
theorem dL_law_477 : decode cL_law 477 = .ok (.iadd, 1) := by decide +kernel
theorem dL_law_478 : decode cL_law 478 = .ok (.iaload, 1) := by decide +kernel
theorem dL_law_479 : decode cL_law 479 = .ok (.aload_n 0, 1) := by decide +kernel
theorem dL_law_480 : decode cL_law 480 = .ok (.iload 4, 2) := by decide +kernel
theorem dL_law_482 : decode cL_law 482 = .ok (.bipush 7, 2) := by decide +kernel
theorem dL_law_484 : decode cL_law 484 = .ok (.iadd, 1) := by decide +kernel
theorem dL_law_485 : decode cL_law 485 = .ok (.iaload, 1) := by decide +kernel
theorem dL_law_486 : decode cL_law 486 = .ok (.aload_n 0, 1) := by decide +kernel
theorem dL_law_487 : decode cL_law 487 = .ok (.iload 4, 2) := by decide +kernel
theorem dL_law_489 : decode cL_law 489 = .ok (.bipush 8, 2) := by decide +kernel
theorem dL_law_491 : decode cL_law 491 = .ok (.iadd, 1) := by decide +kernel
theorem dL_law_492 : decode cL_law 492 = .ok (.iaload, 1) := by decide +kernel
theorem dL_law_493 : decode cL_law 493 = .ok (.invokevirtual 55, 3) := by decide +kernel
theorem dL_law_496 : decode cL_law 496 = .ok (.if_icmp .eq 406, 3) := by decide +kernel
set_option maxHeartbeats 4000000 in
set_option maxRecDepth 100000 in
theorem zc_6 {p : Program} {l : Launch} {e : Env} {s : State} {m : MethodId} {below : List Frame} {meth : Method} {c : Code} {dC : Nat → ClassId} {dI : Nat → Nat → Nat} {b : Nat} {xs : Nat → Int32} (C0 : lw_At p s m meth c b 9 xs) (hE : zE s) {ax am ro : Nat} {ux um : Nat → Nat} {H : Heap} {locs : List Loc} (hK : va_K (dC, dI) vwCl [(ux 6, .byte), (ux 7, .object RX0), (ux 8, .object RX5), (um 46, .int), (um 47, .int), (um 48, .int), (um 49, .int), (um 50, .int), (um 51, .long), (um 52, .int), (um 53, .int), (um 54, .int), (um 55, .int)] s) (hP : va_P (dC, dI) vwCl [(ax, .inr (5, [.ref (ux 0), .int 0, .ref (ux 1), .int 0, .ref (ux 2), .int 0, .ref (ux 3)])), (ux 0, .inl (ux 6, 800, .inl (fun _ => 0))), (ux 1, .inl (ux 7, 5, .inr (.inr (.inr (.inr (fun _ => none)))))), (ux 2, .inl (ux 8, 40, .inr (.inr (.inr (.inr (fun _ => none)))))), (ux 3, .inr (1, [.ref (ux 4), .ref (ux 5), .int 0, .int 0, .int 0])), (ux 4, .inr (3, [.ref (ux 0), .int 0, .int 0, .int 0, .int 0, .long 0])), (am, .inr (6, zM 0 um)), (um 1, .inl (um 46, 800, .inl (fun _ => 0))), (um 4, .inl (um 47, 5, .inl (fun _ => 0))), (um 30, .inl (um 48, 40, .inl (fun _ => 0))), (um 31, .inl (um 49, 40, .inl (fun _ => 0))), (um 32, .inl (um 50, 40, .inl (fun _ => 0))), (um 33, .inl (um 51, 40, .inr (.inl (fun _ => 0)))), (um 34, .inl (um 52, 40, .inl (fun _ => 0))), (um 35, .inl (um 53, 40, .inl (fun _ => 0))), (um 36, .inl (um 54, 40, .inl (fun _ => 0))), (um 37, .inl (um 55, 40, .inl (fun _ => 0)))] H) (hD : va_D (fun q : Nat => s.heap.size ≤ q) [(ax, .inr (5, [.ref (ux 0), .int 0, .ref (ux 1), .int 0, .ref (ux 2), .int 0, .ref (ux 3)])), (ux 0, .inl (ux 6, 800, .inl (fun _ => 0))), (ux 1, .inl (ux 7, 5, .inr (.inr (.inr (.inr (fun _ => none)))))), (ux 2, .inl (ux 8, 40, .inr (.inr (.inr (.inr (fun _ => none)))))), (ux 3, .inr (1, [.ref (ux 4), .ref (ux 5), .int 0, .int 0, .int 0])), (ux 4, .inr (3, [.ref (ux 0), .int 0, .int 0, .int 0, .int 0, .long 0])), (am, .inr (6, zM 0 um)), (um 1, .inl (um 46, 800, .inl (fun _ => 0))), (um 4, .inl (um 47, 5, .inl (fun _ => 0))), (um 30, .inl (um 48, 40, .inl (fun _ => 0))), (um 31, .inl (um 49, 40, .inl (fun _ => 0))), (um 32, .inl (um 50, 40, .inl (fun _ => 0))), (um 33, .inl (um 51, 40, .inr (.inl (fun _ => 0)))), (um 34, .inl (um 52, 40, .inl (fun _ => 0))), (um 35, .inl (um 53, 40, .inl (fun _ => 0))), (um 36, .inl (um 54, 40, .inl (fun _ => 0))), (um 37, .inl (um 55, 40, .inl (fun _ => 0)))]) (hS : va_S (fun q : Nat => s.heap.size ≤ q) s.heap H locs) {ls : Array Slot} (hl : lv_has ls 7 [(4, .int 0), (3, .ref ro), (2, .ref am), (1, .ref ax), (0, .ref b)]) : W p l e room_1 s m #[Value.ref b] below meth c H locs 38 11351 (lw_Z below #[Value.ref b] s) (F0 m 366 ls []) := by
  have C1 := C0
  obtain ⟨hx, hb, hr, hml, hown, hts, hX, hbl, hlocks, hgv⟩ := C0
  have hown : s.vm.findClass RL = some m.cls := hown
  have hA : ∀ q : Nat, s.heap.size ≤ q → (fun q : Nat => s.heap.size ≤ q) q := fun _ h => h
  have hbA : ¬ (fun q : Nat => s.heap.size ≤ q) b := Nat.not_le.mpr hbl
  refine lv_aload_n hx hb dL_law_366 rfl (lv_at hl 3 rfl) ?_
  refine lv_aload_n hx hb dL_law_367 rfl (lv_at hl 4 rfl) ?_
  refine lv_iload hx hb dL_law_368 (lv_at hl 0 rfl) ?_
  refine lv_iconst (v := 1) hx hb dL_law_370 (by decide) ?_
  refine lv_iadd hx hb dL_law_371 ?_
  refine lv_topi (fun x1 ex1 => ?_)
  obtain rfl : x1 = 1 := by rw [ex1]; decide
  refine va_sld hx hb hX hbl hbA hS (by unfold vp_in; decide : vp_in 1 9) dL_law_372 ?_
  refine W.eq (g2 := F0 m 373 ls [.int (xs 1), .ref ax]) rfl ?_
  refine lv_aload_n hx hb dL_law_373 rfl (lv_at hl 4 rfl) ?_
  refine lv_iload hx hb dL_law_374 (lv_at hl 0 rfl) ?_
  refine lv_iconst (v := 2) hx hb dL_law_376 (by decide) ?_
  refine lv_iadd hx hb dL_law_377 ?_
  refine lv_topi (fun x2 ex2 => ?_)
  obtain rfl : x2 = 2 := by rw [ex2]; decide
  refine va_sld hx hb hX hbl hbA hS (by unfold vp_in; decide : vp_in 2 9) dL_law_378 ?_
  refine W.eq (g2 := F0 m 379 ls [.int (xs 2), .int (xs 1), .ref ax]) rfl ?_
  refine lv_aload_n hx hb dL_law_379 rfl (lv_at hl 4 rfl) ?_
  refine lv_iload hx hb dL_law_380 (lv_at hl 0 rfl) ?_
  refine lv_iconst (v := 3) hx hb dL_law_382 (by decide) ?_
  refine lv_iadd hx hb dL_law_383 ?_
  refine lv_topi (fun x3 ex3 => ?_)
  obtain rfl : x3 = 3 := by rw [ex3]; decide
  refine va_sld hx hb hX hbl hbA hS (by unfold vp_in; decide : vp_in 3 9) dL_law_384 ?_
  refine W.eq (g2 := F0 m 385 ls [.int (xs 3), .int (xs 2), .int (xs 1), .ref ax]) rfl ?_
  refine lv_aload_n hx hb dL_law_385 rfl (lv_at hl 4 rfl) ?_
  refine lv_iload hx hb dL_law_386 (lv_at hl 0 rfl) ?_
  refine lv_iconst (v := 4) hx hb dL_law_388 (by decide) ?_
  refine lv_iadd hx hb dL_law_389 ?_
  refine lv_topi (fun x4 ex4 => ?_)
  obtain rfl : x4 = 4 := by rw [ex4]; decide
  refine va_sld hx hb hX hbl hbA hS (by unfold vp_in; decide : vp_in 4 9) dL_law_390 ?_
  refine W.eq (g2 := F0 m 391 ls [.int (xs 4), .int (xs 3), .int (xs 2), .int (xs 1), .ref ax]) rfl ?_
  refine lv_i2l hx hb dL_law_391 rfl ?_
  refine lv_topl (fun x5 ex5 => ?_)
  refine lv_bipush (v := 32) hx hb dL_law_392 (by decide) ?_
  refine lv_lshl hx hb dL_law_394 rfl ?_
  refine lv_topl (fun x6 ex6 => ?_)
  refine lv_aload_n hx hb dL_law_395 rfl (lv_at hl 4 rfl) ?_
  refine lv_iload hx hb dL_law_396 (lv_at hl 0 rfl) ?_
  refine lv_iconst (v := 5) hx hb dL_law_398 (by decide) ?_
  refine lv_iadd hx hb dL_law_399 ?_
  refine lv_topi (fun x7 ex7 => ?_)
  obtain rfl : x7 = 5 := by rw [ex7]; decide
  refine va_sld hx hb hX hbl hbA hS (by unfold vp_in; decide : vp_in 5 9) dL_law_400 ?_
  refine W.eq (g2 := F0 m 401 ls [.int (xs 5), .long x6, .int (xs 3), .int (xs 2), .int (xs 1), .ref ax]) rfl ?_
  refine lv_i2l hx hb dL_law_401 rfl ?_
  refine lv_topl (fun x8 ex8 => ?_)
  refine lv_ldc2 (v := 4294967295) hx hb hown (hts (.constantLong RL 21 (4294967295)) (by decide +kernel)) dL_law_402 ?_
  refine lv_land hx hb dL_law_405 ?_
  refine lv_topl (fun x9 ex9 => ?_)
  refine lv_lor hx hb dL_law_406 ?_
  refine lv_topl (fun x10 ex10 => ?_)
  refine lv_aload_n hx hb dL_law_407 rfl (lv_at hl 4 rfl) ?_
  refine lv_iload hx hb dL_law_408 (lv_at hl 0 rfl) ?_
  refine lv_bipush (v := 6) hx hb dL_law_410 (by decide) ?_
  refine lv_iadd hx hb dL_law_412 ?_
  refine lv_topi (fun x11 ex11 => ?_)
  obtain rfl : x11 = 6 := by rw [ex11]; decide
  refine va_sld hx hb hX hbl hbA hS (by unfold vp_in; decide : vp_in 6 9) dL_law_413 ?_
  refine W.eq (g2 := F0 m 414 ls [.int (xs 6), .long x10, .int (xs 3), .int (xs 2), .int (xs 1), .ref ax]) rfl ?_
  refine lv_aload_n hx hb dL_law_414 rfl (lv_at hl 4 rfl) ?_
  refine lv_iload hx hb dL_law_415 (lv_at hl 0 rfl) ?_
  refine lv_bipush (v := 7) hx hb dL_law_417 (by decide) ?_
  refine lv_iadd hx hb dL_law_419 ?_
  refine lv_topi (fun x12 ex12 => ?_)
  obtain rfl : x12 = 7 := by rw [ex12]; decide
  refine va_sld hx hb hX hbl hbA hS (by unfold vp_in; decide : vp_in 7 9) dL_law_420 ?_
  refine W.eq (g2 := F0 m 421 ls [.int (xs 7), .int (xs 6), .long x10, .int (xs 3), .int (xs 2), .int (xs 1), .ref ax]) rfl ?_
  refine lv_aload_n hx hb dL_law_421 rfl (lv_at hl 4 rfl) ?_
  refine lv_iload hx hb dL_law_422 (lv_at hl 0 rfl) ?_
  refine lv_bipush (v := 8) hx hb dL_law_424 (by decide) ?_
  refine lv_iadd hx hb dL_law_426 ?_
  refine lv_topi (fun x13 ex13 => ?_)
  obtain rfl : x13 = 8 := by rw [ex13]; decide
  refine va_sld hx hb hX hbl hbA hS (by unfold vp_in; decide : vp_in 8 9) dL_law_427 ?_
  refine W.eq (g2 := F0 m 428 ls [.int (xs 8), .int (xs 7), .int (xs 6), .long x10, .int (xs 3), .int (xs 2), .int (xs 1), .ref ax]) rfl ?_
  have hPc := hP.sub (ws' := [(ax, .inr (5, [.ref (ux 0), .int 0, .ref (ux 1), .int 0, .ref (ux 2), .int 0, .ref (ux 3)])), (ux 2, .inl (ux 8, 40, .inr (.inr (.inr (.inr (fun _ => none))))))]) [0, 3] rfl
  have hDc := hD.sub (ws' := [(ax, .inr (5, [.ref (ux 0), .int 0, .ref (ux 1), .int 0, .ref (ux 2), .int 0, .ref (ux 3)])), (ux 2, .inl (ux 8, 40, .inr (.inr (.inr (.inr (fun _ => none))))))]) [0, 3] (by decide) rfl
  have hKc := hK.sub (tys' := [(ux 8, .object RX5)]) [2] rfl
  have hFc := va_free (wc := [(ax, .inr (5, [.ref (ux 0), .int 0, .ref (ux 1), .int 0, .ref (ux 2), .int 0, .ref (ux 3)])), (ux 2, .inl (ux 8, 40, .inr (.inr (.inr (.inr (fun _ => none))))))]) hD hS hA [0, 3] rfl
  refine va_calli (va_runV (As := [.int (xs 1), .int (xs 2), .int (xs 3), .long x10, .int (xs 6), .int (xs 7), .int (xs 8)]) (rest := []) ⟨hx, hb, hml, hown, hts⟩ (zX6_use l dC dI ax (ux 0) (ux 1) (ux 2) (ux 3) (ux 8) (xs 1) (xs 2) (xs 3) x10 (xs 6) (xs 7) (xs 8) H.size) (cwV 7 hts zgL_law_X6_use_51 rfl rfl rfl (by decide +kernel) ⟨(show 3 + 1 ≤ 10 by omega), (show 8 + (10 + 11) + 55 ≤ 372 by omega)⟩) (zVe (ci := 5) (q0 := 0) (q := (RX6, TX6, 7)) hKc hPc hDc hE rfl rfl rfl) rfl rfl hl.1 rfl (lv_room (Nat.le_of_ble_eq_true rfl)) dL_law_428 ⟨(show 38 + 2 ≤ 600002 by omega), (show 11351 + 9 ≤ 7302232 by omega)⟩) hS (fun q _ h => hFc q h) hFc (fun r15 u14 t H1 locs ht hvm hw hB hz1 hk1 hS => ?_)
  obtain ⟨hP, hD⟩ := z_rest (wr := [(ux 0, .inl (ux 6, 800, .inl (fun _ => 0))), (ux 1, .inl (ux 7, 5, .inr (.inr (.inr (.inr (fun _ => none)))))), (ux 3, .inr (1, [.ref (ux 4), .ref (ux 5), .int 0, .int 0, .int 0])), (ux 4, .inr (3, [.ref (ux 0), .int 0, .int 0, .int 0, .int 0, .long 0])), (am, .inr (6, zM 0 um)), (um 1, .inl (um 46, 800, .inl (fun _ => 0))), (um 4, .inl (um 47, 5, .inl (fun _ => 0))), (um 30, .inl (um 48, 40, .inl (fun _ => 0))), (um 31, .inl (um 49, 40, .inl (fun _ => 0))), (um 32, .inl (um 50, 40, .inl (fun _ => 0))), (um 33, .inl (um 51, 40, .inr (.inl (fun _ => 0)))), (um 34, .inl (um 52, 40, .inl (fun _ => 0))), (um 35, .inl (um 53, 40, .inl (fun _ => 0))), (um 36, .inl (um 54, 40, .inl (fun _ => 0))), (um 37, .inl (um 55, 40, .inl (fun _ => 0)))]) hP hD [0, 3] [1, 2, 4, 5, 6, 7, 8, 9, 10, 11, 12, 13, 14, 15, 16] rfl rfl (by decide) (by decide) hk1 hFc
  have hK := hK.sub (tys' := [(ux 6, .byte), (ux 7, .object RX0), (um 46, .int), (um 47, .int), (um 48, .int), (um 49, .int), (um 50, .int), (um 51, .long), (um 52, .int), (um 53, .int), (um 54, .int), (um 55, .int)]) [0, 1, 3, 4, 5, 6, 7, 8, 9, 10, 11, 12] rfl
  generalize H1 = H at hP hS ⊢
  have hP : va_P (dC, dI) vwCl [(ux 0, .inl (ux 6, 800, .inl (fun _ => 0))), (ux 1, .inl (ux 7, 5, .inr (.inr (.inr (.inr (fun _ => none)))))), (ux 3, .inr (1, [.ref (ux 4), .ref (ux 5), .int 0, .int 0, .int 0])), (ux 4, .inr (3, [.ref (ux 0), .int 0, .int 0, .int 0, .int 0, .long 0])), (am, .inr (6, zM 0 um)), (um 1, .inl (um 46, 800, .inl (fun _ => 0))), (um 4, .inl (um 47, 5, .inl (fun _ => 0))), (um 30, .inl (um 48, 40, .inl (fun _ => 0))), (um 31, .inl (um 49, 40, .inl (fun _ => 0))), (um 32, .inl (um 50, 40, .inl (fun _ => 0))), (um 33, .inl (um 51, 40, .inr (.inl (fun _ => 0)))), (um 34, .inl (um 52, 40, .inl (fun _ => 0))), (um 35, .inl (um 53, 40, .inl (fun _ => 0))), (um 36, .inl (um 54, 40, .inl (fun _ => 0))), (um 37, .inl (um 55, 40, .inl (fun _ => 0)))] H := hP
  have hD : va_D (fun q : Nat => s.heap.size ≤ q) [(ux 0, .inl (ux 6, 800, .inl (fun _ => 0))), (ux 1, .inl (ux 7, 5, .inr (.inr (.inr (.inr (fun _ => none)))))), (ux 3, .inr (1, [.ref (ux 4), .ref (ux 5), .int 0, .int 0, .int 0])), (ux 4, .inr (3, [.ref (ux 0), .int 0, .int 0, .int 0, .int 0, .long 0])), (am, .inr (6, zM 0 um)), (um 1, .inl (um 46, 800, .inl (fun _ => 0))), (um 4, .inl (um 47, 5, .inl (fun _ => 0))), (um 30, .inl (um 48, 40, .inl (fun _ => 0))), (um 31, .inl (um 49, 40, .inl (fun _ => 0))), (um 32, .inl (um 50, 40, .inl (fun _ => 0))), (um 33, .inl (um 51, 40, .inr (.inl (fun _ => 0)))), (um 34, .inl (um 52, 40, .inl (fun _ => 0))), (um 35, .inl (um 53, 40, .inl (fun _ => 0))), (um 36, .inl (um 54, 40, .inl (fun _ => 0))), (um 37, .inl (um 55, 40, .inl (fun _ => 0)))] := hD
  have hK : va_K (dC, dI) vwCl [(ux 6, .byte), (ux 7, .object RX0), (um 46, .int), (um 47, .int), (um 48, .int), (um 49, .int), (um 50, .int), (um 51, .long), (um 52, .int), (um 53, .int), (um 54, .int), (um 55, .int)] s := hK
  refine W.widen (k := 40) (n := 11360) (by omega) (by omega) ?_
  have hr15 : r15 = if (xs 1 < 0 ∨ 9 < xs 1 ∨ xs 6 < 0 ∨ 2 < xs 6) then -3 else 0 := hw
  refine lv_aload_n hx hb dL_law_431 rfl (lv_at hl 2 rfl) ?_
  refine lv_aload_n hx hb dL_law_432 rfl (lv_at hl 4 rfl) ?_
  refine lv_iload hx hb dL_law_433 (lv_at hl 0 rfl) ?_
  refine lv_iconst (v := 1) hx hb dL_law_435 (by decide) ?_
  refine lv_iadd hx hb dL_law_436 ?_
  refine lv_topi (fun x16 ex16 => ?_)
  obtain rfl : x16 = 1 := by rw [ex16]; decide
  refine va_sld hx hb hX hbl hbA hS (by unfold vp_in; decide : vp_in 1 9) dL_law_437 ?_
  refine W.eq (g2 := F0 m 438 ls [.int (xs 1), .ref am, .int r15]) rfl ?_
  refine lv_aload_n hx hb dL_law_438 rfl (lv_at hl 4 rfl) ?_
  refine lv_iload hx hb dL_law_439 (lv_at hl 0 rfl) ?_
  refine lv_iconst (v := 2) hx hb dL_law_441 (by decide) ?_
  refine lv_iadd hx hb dL_law_442 ?_
  refine lv_topi (fun x17 ex17 => ?_)
  obtain rfl : x17 = 2 := by rw [ex17]; decide
  refine va_sld hx hb hX hbl hbA hS (by unfold vp_in; decide : vp_in 2 9) dL_law_443 ?_
  refine W.eq (g2 := F0 m 444 ls [.int (xs 2), .int (xs 1), .ref am, .int r15]) rfl ?_
  refine lv_aload_n hx hb dL_law_444 rfl (lv_at hl 4 rfl) ?_
  refine lv_iload hx hb dL_law_445 (lv_at hl 0 rfl) ?_
  refine lv_iconst (v := 3) hx hb dL_law_447 (by decide) ?_
  refine lv_iadd hx hb dL_law_448 ?_
  refine lv_topi (fun x18 ex18 => ?_)
  obtain rfl : x18 = 3 := by rw [ex18]; decide
  refine va_sld hx hb hX hbl hbA hS (by unfold vp_in; decide : vp_in 3 9) dL_law_449 ?_
  refine W.eq (g2 := F0 m 450 ls [.int (xs 3), .int (xs 2), .int (xs 1), .ref am, .int r15]) rfl ?_
  refine lv_aload_n hx hb dL_law_450 rfl (lv_at hl 4 rfl) ?_
  refine lv_iload hx hb dL_law_451 (lv_at hl 0 rfl) ?_
  refine lv_iconst (v := 4) hx hb dL_law_453 (by decide) ?_
  refine lv_iadd hx hb dL_law_454 ?_
  refine lv_topi (fun x19 ex19 => ?_)
  obtain rfl : x19 = 4 := by rw [ex19]; decide
  refine va_sld hx hb hX hbl hbA hS (by unfold vp_in; decide : vp_in 4 9) dL_law_455 ?_
  refine W.eq (g2 := F0 m 456 ls [.int (xs 4), .int (xs 3), .int (xs 2), .int (xs 1), .ref am, .int r15]) rfl ?_
  refine lv_i2l hx hb dL_law_456 rfl ?_
  refine lv_topl (fun x20 ex20 => ?_)
  refine lv_bipush (v := 32) hx hb dL_law_457 (by decide) ?_
  refine lv_lshl hx hb dL_law_459 rfl ?_
  refine lv_topl (fun x21 ex21 => ?_)
  refine lv_aload_n hx hb dL_law_460 rfl (lv_at hl 4 rfl) ?_
  refine lv_iload hx hb dL_law_461 (lv_at hl 0 rfl) ?_
  refine lv_iconst (v := 5) hx hb dL_law_463 (by decide) ?_
  refine lv_iadd hx hb dL_law_464 ?_
  refine lv_topi (fun x22 ex22 => ?_)
  obtain rfl : x22 = 5 := by rw [ex22]; decide
  refine va_sld hx hb hX hbl hbA hS (by unfold vp_in; decide : vp_in 5 9) dL_law_465 ?_
  refine W.eq (g2 := F0 m 466 ls [.int (xs 5), .long x21, .int (xs 3), .int (xs 2), .int (xs 1), .ref am, .int r15]) rfl ?_
  refine lv_i2l hx hb dL_law_466 rfl ?_
  refine lv_topl (fun x23 ex23 => ?_)
  refine lv_ldc2 (v := 4294967295) hx hb hown (hts (.constantLong RL 21 (4294967295)) (by decide +kernel)) dL_law_467 ?_
  refine lv_land hx hb dL_law_470 ?_
  refine lv_topl (fun x24 ex24 => ?_)
  refine lv_lor hx hb dL_law_471 ?_
  refine lv_topl (fun x25 ex25 => ?_)
  refine lv_aload_n hx hb dL_law_472 rfl (lv_at hl 4 rfl) ?_
  refine lv_iload hx hb dL_law_473 (lv_at hl 0 rfl) ?_
  refine lv_bipush (v := 6) hx hb dL_law_475 (by decide) ?_
  refine lv_iadd hx hb dL_law_477 ?_
  refine lv_topi (fun x26 ex26 => ?_)
  obtain rfl : x26 = 6 := by rw [ex26]; decide
  refine va_sld hx hb hX hbl hbA hS (by unfold vp_in; decide : vp_in 6 9) dL_law_478 ?_
  refine W.eq (g2 := F0 m 479 ls [.int (xs 6), .long x25, .int (xs 3), .int (xs 2), .int (xs 1), .ref am, .int r15]) rfl ?_
  refine lv_aload_n hx hb dL_law_479 rfl (lv_at hl 4 rfl) ?_
  refine lv_iload hx hb dL_law_480 (lv_at hl 0 rfl) ?_
  refine lv_bipush (v := 7) hx hb dL_law_482 (by decide) ?_
  refine lv_iadd hx hb dL_law_484 ?_
  refine lv_topi (fun x27 ex27 => ?_)
  obtain rfl : x27 = 7 := by rw [ex27]; decide
  refine va_sld hx hb hX hbl hbA hS (by unfold vp_in; decide : vp_in 7 9) dL_law_485 ?_
  refine W.eq (g2 := F0 m 486 ls [.int (xs 7), .int (xs 6), .long x25, .int (xs 3), .int (xs 2), .int (xs 1), .ref am, .int r15]) rfl ?_
  refine lv_aload_n hx hb dL_law_486 rfl (lv_at hl 4 rfl) ?_
  refine lv_iload hx hb dL_law_487 (lv_at hl 0 rfl) ?_
  refine lv_bipush (v := 8) hx hb dL_law_489 (by decide) ?_
  refine lv_iadd hx hb dL_law_491 ?_
  refine lv_topi (fun x28 ex28 => ?_)
  obtain rfl : x28 = 8 := by rw [ex28]; decide
  refine va_sld hx hb hX hbl hbA hS (by unfold vp_in; decide : vp_in 8 9) dL_law_492 ?_
  refine W.eq (g2 := F0 m 493 ls [.int (xs 8), .int (xs 7), .int (xs 6), .long x25, .int (xs 3), .int (xs 2), .int (xs 1), .ref am, .int r15]) rfl ?_
  have hPc := hP.sub (ws' := [(am, .inr (6, zM 0 um)), (um 30, .inl (um 48, 40, .inl (fun _ => 0))), (um 31, .inl (um 49, 40, .inl (fun _ => 0))), (um 32, .inl (um 50, 40, .inl (fun _ => 0))), (um 33, .inl (um 51, 40, .inr (.inl (fun _ => 0)))), (um 34, .inl (um 52, 40, .inl (fun _ => 0))), (um 35, .inl (um 53, 40, .inl (fun _ => 0))), (um 36, .inl (um 54, 40, .inl (fun _ => 0))), (um 37, .inl (um 55, 40, .inl (fun _ => 0)))]) [4, 7, 8, 9, 10, 11, 12, 13, 14] rfl
  have hDc := hD.sub (ws' := [(am, .inr (6, zM 0 um)), (um 30, .inl (um 48, 40, .inl (fun _ => 0))), (um 31, .inl (um 49, 40, .inl (fun _ => 0))), (um 32, .inl (um 50, 40, .inl (fun _ => 0))), (um 33, .inl (um 51, 40, .inr (.inl (fun _ => 0)))), (um 34, .inl (um 52, 40, .inl (fun _ => 0))), (um 35, .inl (um 53, 40, .inl (fun _ => 0))), (um 36, .inl (um 54, 40, .inl (fun _ => 0))), (um 37, .inl (um 55, 40, .inl (fun _ => 0)))]) [4, 7, 8, 9, 10, 11, 12, 13, 14] (by decide) rfl
  have hKc := hK.sub (tys' := [(um 48, .int), (um 49, .int), (um 50, .int), (um 51, .long), (um 52, .int), (um 53, .int), (um 54, .int), (um 55, .int)]) [4, 5, 6, 7, 8, 9, 10, 11] rfl
  have hFc := va_free (wc := [(am, .inr (6, zM 0 um)), (um 30, .inl (um 48, 40, .inl (fun _ => 0))), (um 31, .inl (um 49, 40, .inl (fun _ => 0))), (um 32, .inl (um 50, 40, .inl (fun _ => 0))), (um 33, .inl (um 51, 40, .inr (.inl (fun _ => 0)))), (um 34, .inl (um 52, 40, .inl (fun _ => 0))), (um 35, .inl (um 53, 40, .inl (fun _ => 0))), (um 36, .inl (um 54, 40, .inl (fun _ => 0))), (um 37, .inl (um 55, 40, .inl (fun _ => 0)))]) hD hS hA [4, 7, 8, 9, 10, 11, 12, 13, 14] rfl
  refine va_calli (va_runV (As := [.int (xs 1), .int (xs 2), .int (xs 3), .long x25, .int (xs 6), .int (xs 7), .int (xs 8)]) (rest := [.int r15]) ⟨hx, hb, hml, hown, hts⟩ (zX7_use l dC dI am um (um 48) (um 49) (um 50) (um 51) (um 52) (um 53) (um 54) (um 55) (xs 1) (xs 2) (xs 3) x25 (xs 6) (xs 7) (xs 8) H.size) (cwV 7 hts zgL_law_X7_use_55 rfl rfl rfl (by decide +kernel) ⟨(show 1 + 1 ≤ 10 by omega), (show 8 + (10 + 11) + 25 ≤ 372 by omega)⟩) (zVw (ci := 6) (q0 := 0) (q := (RX7, TX7, 46)) hKc hPc hDc rfl rfl rfl) rfl rfl hl.1 rfl (lv_room (Nat.le_of_ble_eq_true rfl)) dL_law_493 ⟨(show 40 + 0 ≤ 600002 by omega), (show 11360 + 0 ≤ 7302232 by omega)⟩) hS (fun q _ h => hFc q h) hFc (fun r30 u29 t H1 locs ht hvm hw hB hz1 hk1 hS => ?_)
  obtain ⟨hP, hD⟩ := z_rest (wr := [(ux 0, .inl (ux 6, 800, .inl (fun _ => 0))), (ux 1, .inl (ux 7, 5, .inr (.inr (.inr (.inr (fun _ => none)))))), (ux 3, .inr (1, [.ref (ux 4), .ref (ux 5), .int 0, .int 0, .int 0])), (ux 4, .inr (3, [.ref (ux 0), .int 0, .int 0, .int 0, .int 0, .long 0])), (um 1, .inl (um 46, 800, .inl (fun _ => 0))), (um 4, .inl (um 47, 5, .inl (fun _ => 0)))]) hP hD [4, 7, 8, 9, 10, 11, 12, 13, 14] [0, 1, 2, 3, 5, 6] rfl rfl (by decide) (by decide) hk1 hFc
  have hK := hK.sub (tys' := [(ux 6, .byte), (ux 7, .object RX0), (um 46, .int), (um 47, .int)]) [0, 1, 2, 3] rfl
  generalize H1 = H at hP hS ⊢
  have hP : va_P (dC, dI) vwCl [(ux 0, .inl (ux 6, 800, .inl (fun _ => 0))), (ux 1, .inl (ux 7, 5, .inr (.inr (.inr (.inr (fun _ => none)))))), (ux 3, .inr (1, [.ref (ux 4), .ref (ux 5), .int 0, .int 0, .int 0])), (ux 4, .inr (3, [.ref (ux 0), .int 0, .int 0, .int 0, .int 0, .long 0])), (um 1, .inl (um 46, 800, .inl (fun _ => 0))), (um 4, .inl (um 47, 5, .inl (fun _ => 0)))] H := hP
  have hD : va_D (fun q : Nat => s.heap.size ≤ q) [(ux 0, .inl (ux 6, 800, .inl (fun _ => 0))), (ux 1, .inl (ux 7, 5, .inr (.inr (.inr (.inr (fun _ => none)))))), (ux 3, .inr (1, [.ref (ux 4), .ref (ux 5), .int 0, .int 0, .int 0])), (ux 4, .inr (3, [.ref (ux 0), .int 0, .int 0, .int 0, .int 0, .long 0])), (um 1, .inl (um 46, 800, .inl (fun _ => 0))), (um 4, .inl (um 47, 5, .inl (fun _ => 0)))] := hD
  have hK : va_K (dC, dI) vwCl [(ux 6, .byte), (ux 7, .object RX0), (um 46, .int), (um 47, .int)] s := hK
  have hr30 : r30 = if (xs 1 < 0 ∨ 9 < xs 1 ∨ xs 6 < 0 ∨ 2 < xs 6) then -3 else 0 := hw
  refine lv_icmp_eq (tgt := 902) hx hb dL_law_496 (by decide) (fun _ => ?_) (fun c9 => absurd (by rw [hr15, hr30]) c9)
  exact zc_end C1 hS (lv_sub hl [0, 4] rfl) (by omega) (by omega)
theorem dL_law_846 : decode cL_law 846 = .ok (.aload_n 1, 1) := by decide +kernel
theorem dL_law_847 : decode cL_law 847 = .ok (.aload_n 0, 1) := by decide +kernel
theorem dL_law_848 : decode cL_law 848 = .ok (.iload 4, 2) := by decide +kernel
theorem dL_law_850 : decode cL_law 850 = .ok (.iconst 1, 1) := by decide +kernel
theorem dL_law_851 : decode cL_law 851 = .ok (.iadd, 1) := by decide +kernel
theorem dL_law_852 : decode cL_law 852 = .ok (.iaload, 1) := by decide +kernel
theorem dL_law_853 : decode cL_law 853 = .ok (.aload_n 3, 1) := by decide +kernel
theorem dL_law_854 : decode cL_law 854 = .ok (.invokestatic 92, 3) := by decide +kernel
theorem dL_law_857 : decode cL_law 857 = .ok (.istore 5, 2) := by decide +kernel
theorem dL_law_859 : decode cL_law 859 = .ok (.aload_n 2, 1) := by decide +kernel
theorem dL_law_860 : decode cL_law 860 = .ok (.aload_n 0, 1) := by decide +kernel
theorem dL_law_861 : decode cL_law 861 = .ok (.iload 4, 2) := by decide +kernel
theorem dL_law_863 : decode cL_law 863 = .ok (.iconst 1, 1) := by decide +kernel
theorem dL_law_864 : decode cL_law 864 = .ok (.iadd, 1) := by decide +kernel
theorem dL_law_865 : decode cL_law 865 = .ok (.iaload, 1) := by decide +kernel
theorem dL_law_866 : decode cL_law 866 = .ok (.invokevirtual 97, 3) := by decide +kernel
theorem dL_law_869 : decode cL_law 869 = .ok (.istore 6, 2) := by decide +kernel
theorem dL_law_871 : decode cL_law 871 = .ok (.aload_n 2, 1) := by decide +kernel
theorem dL_law_872 : decode cL_law 872 = .ok (.invokevirtual 98, 3) := by decide +kernel
theorem dL_law_875 : decode cL_law 875 = .ok (.iload 5, 2) := by decide +kernel
theorem dL_law_877 : decode cL_law 877 = .ok (.if_icmp .eq 5, 3) := by decide +kernel
theorem dL_law_882 : decode cL_law 882 = .ok (.iload 5, 2) := by decide +kernel
theorem dL_law_884 : decode cL_law 884 = .ok (.ifCond .ne 15, 3) := by decide +kernel
theorem dL_law_899 : decode cL_law 899 = .ok (.goto 3, 3) := by decide +kernel
set_option maxHeartbeats 4000000 in
set_option maxRecDepth 100000 in
theorem zc_16 {p : Program} {l : Launch} {e : Env} {s : State} {m : MethodId} {below : List Frame} {meth : Method} {c : Code} {dC : Nat → ClassId} {dI : Nat → Nat → Nat} {b : Nat} {xs : Nat → Int32} (C0 : lw_At p s m meth c b 9 xs) (hl9 : l.stackTraces = false) {sa : Nat} (hXs : zX sa s) (hZs : zZ (fun q : Nat => s.heap.size ≤ q) s s.heap) {ax am ro : Nat} {ux um : Nat → Nat} {H : Heap} {locs : List Loc} (hK : va_K (dC, dI) vwCl [(ux 6, .byte), (ux 7, .object RX0), (ux 8, .object RX5), (um 46, .int), (um 47, .int), (um 48, .int), (um 49, .int), (um 50, .int), (um 51, .long), (um 52, .int), (um 53, .int), (um 54, .int), (um 55, .int)] s) (hP : va_P (dC, dI) vwCl [(ax, .inr (5, [.ref (ux 0), .int 0, .ref (ux 1), .int 0, .ref (ux 2), .int 0, .ref (ux 3)])), (ux 0, .inl (ux 6, 800, .inl (fun _ => 0))), (ux 1, .inl (ux 7, 5, .inr (.inr (.inr (.inr (fun _ => none)))))), (ux 2, .inl (ux 8, 40, .inr (.inr (.inr (.inr (fun _ => none)))))), (ux 3, .inr (1, [.ref (ux 4), .ref (ux 5), .int 0, .int 0, .int 0])), (ux 4, .inr (3, [.ref (ux 0), .int 0, .int 0, .int 0, .int 0, .long 0])), (am, .inr (6, zM 0 um)), (um 1, .inl (um 46, 800, .inl (fun _ => 0))), (um 4, .inl (um 47, 5, .inl (fun _ => 0))), (um 30, .inl (um 48, 40, .inl (fun _ => 0))), (um 31, .inl (um 49, 40, .inl (fun _ => 0))), (um 32, .inl (um 50, 40, .inl (fun _ => 0))), (um 33, .inl (um 51, 40, .inr (.inl (fun _ => 0)))), (um 34, .inl (um 52, 40, .inl (fun _ => 0))), (um 35, .inl (um 53, 40, .inl (fun _ => 0))), (um 36, .inl (um 54, 40, .inl (fun _ => 0))), (um 37, .inl (um 55, 40, .inl (fun _ => 0)))] H) (hD : va_D (fun q : Nat => s.heap.size ≤ q) [(ax, .inr (5, [.ref (ux 0), .int 0, .ref (ux 1), .int 0, .ref (ux 2), .int 0, .ref (ux 3)])), (ux 0, .inl (ux 6, 800, .inl (fun _ => 0))), (ux 1, .inl (ux 7, 5, .inr (.inr (.inr (.inr (fun _ => none)))))), (ux 2, .inl (ux 8, 40, .inr (.inr (.inr (.inr (fun _ => none)))))), (ux 3, .inr (1, [.ref (ux 4), .ref (ux 5), .int 0, .int 0, .int 0])), (ux 4, .inr (3, [.ref (ux 0), .int 0, .int 0, .int 0, .int 0, .long 0])), (am, .inr (6, zM 0 um)), (um 1, .inl (um 46, 800, .inl (fun _ => 0))), (um 4, .inl (um 47, 5, .inl (fun _ => 0))), (um 30, .inl (um 48, 40, .inl (fun _ => 0))), (um 31, .inl (um 49, 40, .inl (fun _ => 0))), (um 32, .inl (um 50, 40, .inl (fun _ => 0))), (um 33, .inl (um 51, 40, .inr (.inl (fun _ => 0)))), (um 34, .inl (um 52, 40, .inl (fun _ => 0))), (um 35, .inl (um 53, 40, .inl (fun _ => 0))), (um 36, .inl (um 54, 40, .inl (fun _ => 0))), (um 37, .inl (um 55, 40, .inl (fun _ => 0)))]) (hS : va_S (fun q : Nat => s.heap.size ≤ q) s.heap H locs) {ls : Array Slot} (hl : lv_has ls 7 [(4, .int 0), (3, .ref ro), (2, .ref am), (1, .ref ax), (0, .ref b)]) : W p l e room_1 s m #[Value.ref b] below meth c H locs 38 11351 (lw_Z below #[Value.ref b] s) (F0 m 846 ls []) := by
  have C1 := C0
  obtain ⟨hx, hb, hr, hml, hown, hts, hX, hbl, hlocks, hgv⟩ := C0
  have hown : s.vm.findClass RL = some m.cls := hown
  have hA : ∀ q : Nat, s.heap.size ≤ q → (fun q : Nat => s.heap.size ≤ q) q := fun _ h => h
  have hbA : ¬ (fun q : Nat => s.heap.size ≤ q) b := Nat.not_le.mpr hbl
  refine lv_aload_n hx hb dL_law_846 rfl (lv_at hl 3 rfl) ?_
  refine lv_aload_n hx hb dL_law_847 rfl (lv_at hl 4 rfl) ?_
  refine lv_iload hx hb dL_law_848 (lv_at hl 0 rfl) ?_
  refine lv_iconst (v := 1) hx hb dL_law_850 (by decide) ?_
  refine lv_iadd hx hb dL_law_851 ?_
  refine lv_topi (fun x1 ex1 => ?_)
  obtain rfl : x1 = 1 := by rw [ex1]; decide
  refine va_sld hx hb hX hbl hbA hS (by unfold vp_in; decide : vp_in 1 9) dL_law_852 ?_
  refine W.eq (g2 := F0 m 853 ls [.int (xs 1), .ref ax]) rfl ?_
  refine lv_aload_n hx hb dL_law_853 rfl (lv_at hl 1 rfl) ?_
  have hPc := hP.sub (ws' := [(ax, .inr (5, [.ref (ux 0), .int 0, .ref (ux 1), .int 0, .ref (ux 2), .int 0, .ref (ux 3)]))]) [0] rfl
  have hDc := hD.sub (ws' := [(ax, .inr (5, [.ref (ux 0), .int 0, .ref (ux 1), .int 0, .ref (ux 2), .int 0, .ref (ux 3)]))]) [0] (by decide) rfl
  have hKc := hK.sub (tys' := []) [] rfl
  have hFc := va_free (wc := [(ax, .inr (5, [.ref (ux 0), .int 0, .ref (ux 1), .int 0, .ref (ux 2), .int 0, .ref (ux 3)]))]) hD hS hA [0] rfl
  refine va_calli (vx_runSW (hh := [(0, 9, 12, 13), (0, 9, 15, 15)]) (As := [.ref ax, .int (xs 1), .ref ro]) (rest := []) ⟨hx, hb, hml, hown, hts⟩ (zL_share l hl9 dC dI ax (ux 0) (ux 1) (ux 2) (ux 3) ro (xs 1) H.size sa) (vx_cwSW 3 hts zgL_law_L_share_92 rfl rfl rfl (by decide +kernel) ⟨(show 7 + 1 ≤ 10 by omega), (show 8 + (4 + 11) + 106 ≤ 372 by omega)⟩) (zSx hKc hPc hDc hXs hZs (fun q h1 h2 => hS.2.1 q h1 h2) hFc) rfl rfl hl.1 rfl (lv_room (Nat.le_of_ble_eq_true rfl)) dL_law_854 ⟨(show 38 + 1 ≤ 600002 by omega), (show 11351 + 6 ≤ 7302232 by omega)⟩) hS (fun q _ h => hFc q h) hFc (fun r1 u1 t H1 locs ht hvm hw hB hz1 hk1 hS => ?_)
  obtain ⟨hP, hD⟩ := z_rest (wr := [(ux 0, .inl (ux 6, 800, .inl (fun _ => 0))), (ux 1, .inl (ux 7, 5, .inr (.inr (.inr (.inr (fun _ => none)))))), (ux 2, .inl (ux 8, 40, .inr (.inr (.inr (.inr (fun _ => none)))))), (ux 3, .inr (1, [.ref (ux 4), .ref (ux 5), .int 0, .int 0, .int 0])), (ux 4, .inr (3, [.ref (ux 0), .int 0, .int 0, .int 0, .int 0, .long 0])), (am, .inr (6, zM 0 um)), (um 1, .inl (um 46, 800, .inl (fun _ => 0))), (um 4, .inl (um 47, 5, .inl (fun _ => 0))), (um 30, .inl (um 48, 40, .inl (fun _ => 0))), (um 31, .inl (um 49, 40, .inl (fun _ => 0))), (um 32, .inl (um 50, 40, .inl (fun _ => 0))), (um 33, .inl (um 51, 40, .inr (.inl (fun _ => 0)))), (um 34, .inl (um 52, 40, .inl (fun _ => 0))), (um 35, .inl (um 53, 40, .inl (fun _ => 0))), (um 36, .inl (um 54, 40, .inl (fun _ => 0))), (um 37, .inl (um 55, 40, .inl (fun _ => 0)))]) hP hD [0] [1, 2, 3, 4, 5, 6, 7, 8, 9, 10, 11, 12, 13, 14, 15, 16] rfl rfl (by decide) (by decide) hk1 hFc
  generalize H1 = H at hP hS ⊢
  have hP : va_P (dC, dI) vwCl [(ux 0, .inl (ux 6, 800, .inl (fun _ => 0))), (ux 1, .inl (ux 7, 5, .inr (.inr (.inr (.inr (fun _ => none)))))), (ux 2, .inl (ux 8, 40, .inr (.inr (.inr (.inr (fun _ => none)))))), (ux 3, .inr (1, [.ref (ux 4), .ref (ux 5), .int 0, .int 0, .int 0])), (ux 4, .inr (3, [.ref (ux 0), .int 0, .int 0, .int 0, .int 0, .long 0])), (am, .inr (6, zM 0 um)), (um 1, .inl (um 46, 800, .inl (fun _ => 0))), (um 4, .inl (um 47, 5, .inl (fun _ => 0))), (um 30, .inl (um 48, 40, .inl (fun _ => 0))), (um 31, .inl (um 49, 40, .inl (fun _ => 0))), (um 32, .inl (um 50, 40, .inl (fun _ => 0))), (um 33, .inl (um 51, 40, .inr (.inl (fun _ => 0)))), (um 34, .inl (um 52, 40, .inl (fun _ => 0))), (um 35, .inl (um 53, 40, .inl (fun _ => 0))), (um 36, .inl (um 54, 40, .inl (fun _ => 0))), (um 37, .inl (um 55, 40, .inl (fun _ => 0)))] H := hP
  have hD : va_D (fun q : Nat => s.heap.size ≤ q) [(ux 0, .inl (ux 6, 800, .inl (fun _ => 0))), (ux 1, .inl (ux 7, 5, .inr (.inr (.inr (.inr (fun _ => none)))))), (ux 2, .inl (ux 8, 40, .inr (.inr (.inr (.inr (fun _ => none)))))), (ux 3, .inr (1, [.ref (ux 4), .ref (ux 5), .int 0, .int 0, .int 0])), (ux 4, .inr (3, [.ref (ux 0), .int 0, .int 0, .int 0, .int 0, .long 0])), (am, .inr (6, zM 0 um)), (um 1, .inl (um 46, 800, .inl (fun _ => 0))), (um 4, .inl (um 47, 5, .inl (fun _ => 0))), (um 30, .inl (um 48, 40, .inl (fun _ => 0))), (um 31, .inl (um 49, 40, .inl (fun _ => 0))), (um 32, .inl (um 50, 40, .inl (fun _ => 0))), (um 33, .inl (um 51, 40, .inr (.inl (fun _ => 0)))), (um 34, .inl (um 52, 40, .inl (fun _ => 0))), (um 35, .inl (um 53, 40, .inl (fun _ => 0))), (um 36, .inl (um 54, 40, .inl (fun _ => 0))), (um 37, .inl (um 55, 40, .inl (fun _ => 0)))] := hD
  refine W.widen (k := 39) (n := 11357) (by omega) (by omega) ?_
  obtain rfl : r1 = 1 := hw
  refine lv_istore (lv' := [(5, .int 1), (4, .int 0), (3, .ref ro), (2, .ref am), (1, .ref ax), (0, .ref b)]) hx hb dL_law_857 hl (by decide) rfl (fun ls hl => ?_)
  refine lv_aload_n hx hb dL_law_859 rfl (lv_at hl 3 rfl) ?_
  refine lv_aload_n hx hb dL_law_860 rfl (lv_at hl 5 rfl) ?_
  refine lv_iload hx hb dL_law_861 (lv_at hl 1 rfl) ?_
  refine lv_iconst (v := 1) hx hb dL_law_863 (by decide) ?_
  refine lv_iadd hx hb dL_law_864 ?_
  refine lv_topi (fun x2 ex2 => ?_)
  obtain rfl : x2 = 1 := by rw [ex2]; decide
  refine va_sld hx hb hX hbl hbA hS (by unfold vp_in; decide : vp_in 1 9) dL_law_865 ?_
  refine W.eq (g2 := F0 m 866 ls [.int (xs 1), .ref am]) rfl ?_
  have hPc := hP.sub (ws' := [(am, .inr (6, zM 0 um))]) [5] rfl
  have hDc := hD.sub (ws' := [(am, .inr (6, zM 0 um))]) [5] (by decide) rfl
  have hKc := hK.sub (tys' := []) [] rfl
  have hFc := va_free (wc := [(am, .inr (6, zM 0 um))]) hD hS hA [5] rfl
  refine va_calli (va_runV (As := [.int (xs 1)]) (rest := []) ⟨hx, hb, hml, hown, hts⟩ (zX7_share l dC dI am um H.size (xs 1)) (cwV 1 hts zgL_law_X7_share_97 rfl rfl rfl (by decide +kernel) ⟨(show 2 + 1 ≤ 10 by omega), (show 8 + (5 + 11) + 46 ≤ 372 by omega)⟩) (zVw (ci := 6) (q0 := 0) (q := (RX7, TX7, 46)) hKc hPc hDc rfl rfl rfl) rfl rfl hl.1 rfl (lv_room (Nat.le_of_ble_eq_true rfl)) dL_law_866 ⟨(show 39 + 0 ≤ 600002 by omega), (show 11357 + 0 ≤ 7302232 by omega)⟩) hS (fun q _ h => hFc q h) hFc (fun r4 u3 t H1 locs ht hvm hw hB hz1 hk1 hS => ?_)
  obtain ⟨hP1, hK1, hD1⟩ := hB
  rw [ht] at hP1
  have hK1 := va_K.moved hvm.symm hK1
  obtain ⟨hP, hD⟩ := va_join (wr := [(ux 0, .inl (ux 6, 800, .inl (fun _ => 0))), (ux 1, .inl (ux 7, 5, .inr (.inr (.inr (.inr (fun _ => none)))))), (ux 2, .inl (ux 8, 40, .inr (.inr (.inr (.inr (fun _ => none)))))), (ux 3, .inr (1, [.ref (ux 4), .ref (ux 5), .int 0, .int 0, .int 0])), (ux 4, .inr (3, [.ref (ux 0), .int 0, .int 0, .int 0, .int 0, .long 0])), (um 1, .inl (um 46, 800, .inl (fun _ => 0))), (um 4, .inl (um 47, 5, .inl (fun _ => 0))), (um 30, .inl (um 48, 40, .inl (fun _ => 0))), (um 31, .inl (um 49, 40, .inl (fun _ => 0))), (um 32, .inl (um 50, 40, .inl (fun _ => 0))), (um 33, .inl (um 51, 40, .inr (.inl (fun _ => 0)))), (um 34, .inl (um 52, 40, .inl (fun _ => 0))), (um 35, .inl (um 53, 40, .inl (fun _ => 0))), (um 36, .inl (um 54, 40, .inl (fun _ => 0))), (um 37, .inl (um 55, 40, .inl (fun _ => 0)))]) (w1 := [(am, .inr (6, zM 1 um))]) hP hD [5] [0, 1, 2, 3, 4, 6, 7, 8, 9, 10, 11, 12, 13, 14, 15] rfl rfl (by decide) (by decide) hk1 hFc hP1 hD1
  have hK := (hK.sub (tys' := [(ux 6, .byte), (ux 7, .object RX0), (ux 8, .object RX5), (um 46, .int), (um 47, .int), (um 48, .int), (um 49, .int), (um 50, .int), (um 51, .long), (um 52, .int), (um 53, .int), (um 54, .int), (um 55, .int)]) [0, 1, 2, 3, 4, 5, 6, 7, 8, 9, 10, 11, 12] rfl).app hK1
  generalize H1 = H at hP hS ⊢
  have hP : va_P (dC, dI) vwCl [(ux 0, .inl (ux 6, 800, .inl (fun _ => 0))), (ux 1, .inl (ux 7, 5, .inr (.inr (.inr (.inr (fun _ => none)))))), (ux 2, .inl (ux 8, 40, .inr (.inr (.inr (.inr (fun _ => none)))))), (ux 3, .inr (1, [.ref (ux 4), .ref (ux 5), .int 0, .int 0, .int 0])), (ux 4, .inr (3, [.ref (ux 0), .int 0, .int 0, .int 0, .int 0, .long 0])), (um 1, .inl (um 46, 800, .inl (fun _ => 0))), (um 4, .inl (um 47, 5, .inl (fun _ => 0))), (um 30, .inl (um 48, 40, .inl (fun _ => 0))), (um 31, .inl (um 49, 40, .inl (fun _ => 0))), (um 32, .inl (um 50, 40, .inl (fun _ => 0))), (um 33, .inl (um 51, 40, .inr (.inl (fun _ => 0)))), (um 34, .inl (um 52, 40, .inl (fun _ => 0))), (um 35, .inl (um 53, 40, .inl (fun _ => 0))), (um 36, .inl (um 54, 40, .inl (fun _ => 0))), (um 37, .inl (um 55, 40, .inl (fun _ => 0))), (am, .inr (6, zM 1 um))] H := hP
  have hD : va_D (fun q : Nat => s.heap.size ≤ q) [(ux 0, .inl (ux 6, 800, .inl (fun _ => 0))), (ux 1, .inl (ux 7, 5, .inr (.inr (.inr (.inr (fun _ => none)))))), (ux 2, .inl (ux 8, 40, .inr (.inr (.inr (.inr (fun _ => none)))))), (ux 3, .inr (1, [.ref (ux 4), .ref (ux 5), .int 0, .int 0, .int 0])), (ux 4, .inr (3, [.ref (ux 0), .int 0, .int 0, .int 0, .int 0, .long 0])), (um 1, .inl (um 46, 800, .inl (fun _ => 0))), (um 4, .inl (um 47, 5, .inl (fun _ => 0))), (um 30, .inl (um 48, 40, .inl (fun _ => 0))), (um 31, .inl (um 49, 40, .inl (fun _ => 0))), (um 32, .inl (um 50, 40, .inl (fun _ => 0))), (um 33, .inl (um 51, 40, .inr (.inl (fun _ => 0)))), (um 34, .inl (um 52, 40, .inl (fun _ => 0))), (um 35, .inl (um 53, 40, .inl (fun _ => 0))), (um 36, .inl (um 54, 40, .inl (fun _ => 0))), (um 37, .inl (um 55, 40, .inl (fun _ => 0))), (am, .inr (6, zM 1 um))] := hD
  have hK : va_K (dC, dI) vwCl [(ux 6, .byte), (ux 7, .object RX0), (ux 8, .object RX5), (um 46, .int), (um 47, .int), (um 48, .int), (um 49, .int), (um 50, .int), (um 51, .long), (um 52, .int), (um 53, .int), (um 54, .int), (um 55, .int)] s := hK
  obtain rfl : r4 = 0 := hw
  refine lv_istore (lv' := [(6, .int 0), (5, .int 1), (4, .int 0), (3, .ref ro), (2, .ref am), (1, .ref ax), (0, .ref b)]) hx hb dL_law_869 hl (by decide) rfl (fun ls hl => ?_)
  refine lv_aload_n hx hb dL_law_871 rfl (lv_at hl 4 rfl) ?_
  refine vp_callSi (W.runV (As := []) (rest := []) ⟨hx, hb, hml, hown, hts⟩ (zX7_thrown l dC dI am um 1) (cwV 0 hts zgL_law_X7_thrown_98 rfl rfl rfl (by decide +kernel) ⟨(show 0 + 1 ≤ 10 by omega), (show 8 + (1 + 11) + 0 ≤ 372 by omega)⟩) (zVr (ci := 6) (q0 := 0) (q := (RX7, TX7, 46)) (hK.sub (tys' := []) [] rfl) (hP.sub (ws' := [(am, .inr (6, zM 1 um))]) [15] rfl) rfl rfl rfl) rfl rfl hl.1 rfl (lv_room (Nat.le_of_ble_eq_true rfl)) dL_law_872 ⟨(show 39 + 0 ≤ 600002 by omega), (show 11357 + 0 ≤ 7302232 by omega)⟩) (fun r5 hr5 => ?_)
  subst hr5
  refine lv_iload hx hb dL_law_875 (lv_at hl 1 rfl) ?_
  refine lv_icmp_eq (tgt := 882) hx hb dL_law_877 (by decide) (fun _ => ?_) (fun c9 => absurd (rfl) c9)
  refine lv_iload hx hb dL_law_882 (lv_at hl 1 rfl) ?_
  refine lv_if_ne (tgt := 899) hx hb dL_law_884 (by decide) (fun _ => ?_) (fun c9 => absurd c9 (by decide))
  refine lv_goto (tgt := 902) hx hb dL_law_899 (by decide) ?_
  exact zc_end C1 hS (lv_sub hl [2, 6] rfl) (by omega) (by omega)
