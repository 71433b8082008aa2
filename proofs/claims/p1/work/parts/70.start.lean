theorem dL_law_0 : decode cL_law 0 = .ok (.new 8, 3) := by decide +kernel
theorem dL_law_3 : decode cL_law 3 = .ok (.dup, 1) := by decide +kernel
theorem dL_law_4 : decode cL_law 4 = .ok (.invokespecial 17, 3) := by decide +kernel
theorem dL_law_7 : decode cL_law 7 = .ok (.astore_n 1, 1) := by decide +kernel
theorem dL_law_8 : decode cL_law 8 = .ok (.new 18, 3) := by decide +kernel
theorem dL_law_11 : decode cL_law 11 = .ok (.dup, 1) := by decide +kernel
theorem dL_law_12 : decode cL_law 12 = .ok (.invokespecial 20, 3) := by decide +kernel
theorem dL_law_15 : decode cL_law 15 = .ok (.astore_n 2, 1) := by decide +kernel
theorem dL_law_16 : decode cL_law 16 = .ok (.iconst 1, 1) := by decide +kernel
theorem dL_law_17 : decode cL_law 17 = .ok (.newarray .long, 2) := by decide +kernel
theorem dL_law_19 : decode cL_law 19 = .ok (.astore_n 3, 1) := by decide +kernel
theorem dL_law_20 : decode cL_law 20 = .ok (.iconst 0, 1) := by decide +kernel
theorem dL_law_21 : decode cL_law 21 = .ok (.istore 4, 2) := by decide +kernel
theorem dL_law_33 : decode cL_law 33 = .ok (.aload_n 0, 1) := by decide +kernel
theorem dL_law_34 : decode cL_law 34 = .ok (.iload 4, 2) := by decide +kernel
theorem dL_law_36 : decode cL_law 36 = .ok (.iaload, 1) := by decide +kernel
theorem dL_law_37 : decode cL_law 37 = .ok (.bipush 31, 2) := by decide +kernel
theorem dL_law_39 : decode cL_law 39 = .ok (.iand, 1) := by decide +kernel
theorem dL_law_40 : decode cL_law 40 = .ok (.tableswitch 862 0 16 #[84, 153, 166, 203, 240, 277, 326, 461, 498, 535, 584, 633, 670, 695, 732, 781, 806], 84) := by decide +kernel
set_option maxHeartbeats 4000000 in
set_option maxRecDepth 100000 in
/-- THE LAW, from its entry, in launches without stack traces -/
theorem whole_start {p : Program} {e : Env} {s : State} {m : MethodId} {below : List Frame} {meth : Method} {c : Code} (l : Launch) (hl9 : l.stackTraces = false) {b L : Nat} {xs : Nat → Int32} (hL : L ≤ 9) (C0 : lw_At p s m meth c b L xs) : W p l e room_1 s m #[Value.ref b] below meth c s.heap [] 0 0 (lw_Z below #[Value.ref b] s) (entryFrame m ([Value.ref b] : List Value).toArray 7) := by
  obtain ⟨hx, hb, hr, hml, hown, hts, hX, hbl, hlocks, hgv⟩ := id C0
  have hown : s.vm.findClass RL = some m.cls := hown
  have hA : ∀ q : Nat, s.heap.size ≤ q → (fun q : Nat => s.heap.size ≤ q) q := fun _ h => h
  have hbA : ¬ (fun q : Nat => s.heap.size ≤ q) b := Nat.not_le.mpr hbl
  obtain ⟨c0, iS0, hKn0⟩ := u_known (C := RX0) (T := TX0) (N := 17) (n := 17) hts zin_X0 (hts (.instantiable RX0 17) (by decide +kernel))
  obtain ⟨c1, iS1, hKn1⟩ := u_known (C := RX2) (T := TX2) (N := 5) (n := 5) hts zin_X2 (hts (.instantiable RX2 5) (by decide +kernel))
  obtain ⟨c2, iS2, hKn2⟩ := u_known (C := RX3) (T := TX3) (N := 4) (n := 4) hts zin_X3 (hts (.instantiable RX3 4) (by decide +kernel))
  obtain ⟨c3, iS3, hKn3⟩ := u_known (C := RX4) (T := TX4) (N := 6) (n := 6) hts zin_X4 (hts (.instantiable RX4 6) (by decide +kernel))
  obtain ⟨c4, iS4, hKn4⟩ := u_known (C := RX5) (T := TX5) (N := 5) (n := 5) hts zin_X5 (hts (.instantiable RX5 5) (by decide +kernel))
  obtain ⟨c5, iS5, hKn5⟩ := u_known (C := RX6) (T := TX6) (N := 7) (n := 7) hts zin_X6 (hts (.instantiable RX6 7) (by decide +kernel))
  obtain ⟨c6, iS6, hKn6⟩ := u_known (C := RX7) (T := TX7) (N := 46) (n := 46) hts zin_X7 (hts (.instantiable RX7 46) (by decide +kernel))
  obtain ⟨dC, dI, hKc⟩ : ∃ (dC : Nat → ClassId) (dI : Nat → Nat → Nat), ∀ (k : Nat) (q : vw_C), vwCl[k]? = some q → u_Kn s q.1 q.2.1 q.2.2 (dC k) (dI k) := by
    refine ⟨fun k => ([c0, c1, c2, c3, c4, c5, c6] : List Nat).getD k 0, fun k => ([iS0, iS1, iS2, iS3, iS4, iS5, iS6] : List (Nat → Nat)).getD k (fun _ => 0), ?_⟩
    intro k q hq
    match k, hq with
    | 0, hq => cases hq; exact hKn0
    | 1, hq => cases hq; exact hKn1
    | 2, hq => cases hq; exact hKn2
    | 3, hq => cases hq; exact hKn3
    | 4, hq => cases hq; exact hKn4
    | 5, hq => cases hq; exact hKn5
    | 6, hq => cases hq; exact hKn6
    | k + 7, hq => simp [vwCl] at hq
  have hE : zE s := ⟨va_AO.of (hts (.arrayOver (.object RX0)) (by decide +kernel)), va_AO.of (hts (.arrayOver (.object RX5)) (by decide +kernel)), va_Nw.of rfl (hts (.methodLinkNest RX2 22 yX3_init "LinkModels") (by decide +kernel)), va_Nw.of rfl (hts (.methodLinkNest RX6 156 yX0_init "LinkModels") (by decide +kernel)), va_Nw.of rfl (hts (.methodLinkNest RX5 23 yX3_init "LinkModels") (by decide +kernel))⟩
  have hsr := hts (.stringRef RX6 146 "no such build") (by decide +kernel)
  obtain ⟨-, -, -, sa, -, -, -, -, -, hev⟩ := Cond.stringRef_spec hKn5.2.1 hsr
  have hXs : zX sa s := ⟨vk_R.of hsr hev, va_Nw.of rfl (hts (.declares (Bundle.initS "java/lang/RuntimeException")) (by decide +kernel)), va_Nw.of rfl (hts (.declares (Bundle.initS "java/lang/Exception")) (by decide +kernel)), va_Nw.of rfl (hts (.declares (Bundle.initS Bundle.tN)) (by decide +kernel)), va_Nw.of rfl (hts (.castable "java/lang/IllegalArgumentException" "java/lang/IllegalArgumentException") (by decide +kernel))⟩
  have hfl := flat_of_before _ hgv
  have hZs : zZ (fun q : Nat => s.heap.size ≤ q) s s.heap := ⟨vx_Zqof (hts (.laysStatic Bundle.tN "UNASSIGNED_STACK" Bundle.steD) (by decide +kernel)) (hts (.initialized Bundle.tN) (by decide +kernel)) (hfl (.isRef (.static Bundle.tN "UNASSIGNED_STACK" Bundle.steD)) (by decide +kernel)) (fun a h => Nat.not_le.mpr h), vx_Zqof (hts (.laysStatic Bundle.tN "SUPPRESSED_SENTINEL" Bundle.listD) (by decide +kernel)) (hts (.initialized Bundle.tN) (by decide +kernel)) (hfl (.isRef (.static Bundle.tN "SUPPRESSED_SENTINEL" Bundle.listD)) (by decide +kernel)) (fun a h => Nat.not_le.mpr h)⟩
  have hiX6 := zin_X6
  have hiX7 := zin_X7
  have hS : va_S (fun q : Nat => s.heap.size ≤ q) s.heap s.heap [] := va_S.rf
  have hK : va_K (dC, dI) vwCl [] s := ⟨hKc, fun k q h => by simp at h⟩
  have hP : va_P (dC, dI) vwCl [] s.heap := fun k q h => by simp at h
  have hD : va_D (fun q : Nat => s.heap.size ≤ q) [] := ⟨fun i j p q h => by simp at h, fun k q h => by simp at h⟩
  have hl := lv_entry ([.ref b]) (n := 7) (Nat.le_of_ble_eq_true rfl)
  rw [lg_entry_eq]
  generalize (lg_sl ([.ref b]) ++ List.replicate (7 - (lg_sl ([.ref b])).length) Slot.unset).toArray = ls at hl ⊢
  have hl : lv_has ls 7 [(0, .ref b)] := hl
  refine va_new (ci := 5) (fs := [.null, .int 0, .null, .int 0, .null, .int 0, .null]) (C := RX6) (T := TX6) (N := 7) hx hb hts hiX6 tyX6 tyX6_ok hown (hts (.classLink RL 8 RX6) (by decide +kernel)) (hts (.instantiable RX6 7) (by decide +kernel)) (hts (.initialized RX6) (by decide +kernel)) hK hP hD hS hA rfl (by decide +kernel) (show 0 + 1 ≤ 600002 by omega) (show 0 + 7 ≤ 7302232 by omega) dL_law_0 (fun q1 H hP hD hS => ?_)
  have hP : va_P (dC, dI) vwCl [(q1, .inr (5, [.null, .int 0, .null, .int 0, .null, .int 0, .null]))] H := hP
  have hD : va_D (fun q : Nat => s.heap.size ≤ q) [(q1, .inr (5, [.null, .int 0, .null, .int 0, .null, .int 0, .null]))] := hD
  refine W.widen (k := 1) (n := 7) (by omega) (by omega) ?_
  refine lv_dup hx hb dL_law_3 rfl ?_
  have hPc := hP.sub (ws' := [(q1, .inr (5, [.null, .int 0, .null, .int 0, .null, .int 0, .null]))]) [0] rfl
  have hDc := hD.sub (ws' := [(q1, .inr (5, [.null, .int 0, .null, .int 0, .null, .int 0, .null]))]) [0] (by decide) rfl
  have hKc := hK.sub (tys' := []) [] rfl
  have hFc := va_free (wc := [(q1, .inr (5, [.null, .int 0, .null, .int 0, .null, .int 0, .null]))]) hD hS hA [0] rfl
  refine va_callv (va_runI (As := []) (rest := [.ref q1]) ⟨hx, hb, hml, hown, hts⟩ (zX6_init l dC dI q1 H.size) (cwI 0 hts zgL_law_X6_init_17 rfl rfl rfl (hts (.initialized RX6) (by decide +kernel)) (hts (.methodLink RL 17 yX6_init) (by decide +kernel)) (hts (.instanceMethod yX6_init) (by decide +kernel)) rfl (by decide +kernel) ⟨(show 3 + 1 ≤ 10 by omega), (show 8 + (1 + 11) + 54 ≤ 372 by omega)⟩) (zSe hKc hPc hDc hE) rfl rfl hl.1 rfl (lv_room (Nat.le_of_ble_eq_true rfl)) dL_law_4 ⟨(show 1 + 6 ≤ 600002 by omega), (show 7 + 860 ≤ 7302232 by omega)⟩) hS (fun q _ h => hFc q h) hFc (fun u2 t H1 locs ht hvm hw hB hz1 hk1 hS => ?_)
  obtain ⟨hP1, hK1, hD1⟩ := hB
  rw [ht] at hP1
  have hK1 := va_K.moved hvm.symm hK1
  obtain ⟨hP, hD⟩ := va_join (wr := []) (w1 := [(q1, .inr (5, [.ref (u2 0), .int 0, .ref (u2 1), .int 0, .ref (u2 2), .int 0, .ref (u2 3)])), (u2 0, .inl (u2 6, 800, .inl (fun _ => 0))), (u2 1, .inl (u2 7, 5, .inr (.inr (.inr (.inr (fun _ => none)))))), (u2 2, .inl (u2 8, 40, .inr (.inr (.inr (.inr (fun _ => none)))))), (u2 3, .inr (1, [.ref (u2 4), .ref (u2 5), .int 0, .int 0, .int 0])), (u2 4, .inr (3, [.ref (u2 0), .int 0, .int 0, .int 0, .int 0, .long 0]))]) hP hD [0] [] rfl rfl (by decide) (by decide) hk1 hFc hP1 hD1
  have hK := (hK.sub (tys' := []) [] rfl).app hK1
  generalize H1 = H at hP hS ⊢
  have hP : va_P (dC, dI) vwCl [(q1, .inr (5, [.ref (u2 0), .int 0, .ref (u2 1), .int 0, .ref (u2 2), .int 0, .ref (u2 3)])), (u2 0, .inl (u2 6, 800, .inl (fun _ => 0))), (u2 1, .inl (u2 7, 5, .inr (.inr (.inr (.inr (fun _ => none)))))), (u2 2, .inl (u2 8, 40, .inr (.inr (.inr (.inr (fun _ => none)))))), (u2 3, .inr (1, [.ref (u2 4), .ref (u2 5), .int 0, .int 0, .int 0])), (u2 4, .inr (3, [.ref (u2 0), .int 0, .int 0, .int 0, .int 0, .long 0]))] H := hP
  have hD : va_D (fun q : Nat => s.heap.size ≤ q) [(q1, .inr (5, [.ref (u2 0), .int 0, .ref (u2 1), .int 0, .ref (u2 2), .int 0, .ref (u2 3)])), (u2 0, .inl (u2 6, 800, .inl (fun _ => 0))), (u2 1, .inl (u2 7, 5, .inr (.inr (.inr (.inr (fun _ => none)))))), (u2 2, .inl (u2 8, 40, .inr (.inr (.inr (.inr (fun _ => none)))))), (u2 3, .inr (1, [.ref (u2 4), .ref (u2 5), .int 0, .int 0, .int 0])), (u2 4, .inr (3, [.ref (u2 0), .int 0, .int 0, .int 0, .int 0, .long 0]))] := hD
  have hK : va_K (dC, dI) vwCl [(u2 6, .byte), (u2 7, .object RX0), (u2 8, .object RX5)] s := hK
  refine W.widen (k := 7) (n := 867) (by omega) (by omega) ?_
  refine lv_astore_n (lv' := [(1, .ref q1), (0, .ref b)]) hx hb dL_law_7 rfl hl (by decide) rfl (fun ls hl => ?_)
  refine va_new (ci := 6) (fs := [.int 0, .null, .int 0, .int 0, .null, .null, .null, .null, .null, .null, .null, .null, .null, .null, .null, .null, .null, .null, .null, .null, .null, .int 0, .int 0, .int 0, .long 0, .int 0, .int 0, .int 0, .null, .int 0, .null, .null, .null, .null, .null, .null, .null, .null, .null, .null, .int 0, .int 0, .int 0, .int 0, .int 0, .int 0]) (C := RX7) (T := TX7) (N := 46) hx hb hts hiX7 tyX7 tyX7_ok hown (hts (.classLink RL 18 RX7) (by decide +kernel)) (hts (.instantiable RX7 46) (by decide +kernel)) (hts (.initialized RX7) (by decide +kernel)) hK hP hD hS hA rfl (by decide +kernel) (show 7 + 1 ≤ 600002 by omega) (show 867 + 46 ≤ 7302232 by omega) dL_law_8 (fun q4 H hP hD hS => ?_)
  have hP : va_P (dC, dI) vwCl [(q1, .inr (5, [.ref (u2 0), .int 0, .ref (u2 1), .int 0, .ref (u2 2), .int 0, .ref (u2 3)])), (u2 0, .inl (u2 6, 800, .inl (fun _ => 0))), (u2 1, .inl (u2 7, 5, .inr (.inr (.inr (.inr (fun _ => none)))))), (u2 2, .inl (u2 8, 40, .inr (.inr (.inr (.inr (fun _ => none)))))), (u2 3, .inr (1, [.ref (u2 4), .ref (u2 5), .int 0, .int 0, .int 0])), (u2 4, .inr (3, [.ref (u2 0), .int 0, .int 0, .int 0, .int 0, .long 0])), (q4, .inr (6, [.int 0, .null, .int 0, .int 0, .null, .null, .null, .null, .null, .null, .null, .null, .null, .null, .null, .null, .null, .null, .null, .null, .null, .int 0, .int 0, .int 0, .long 0, .int 0, .int 0, .int 0, .null, .int 0, .null, .null, .null, .null, .null, .null, .null, .null, .null, .null, .int 0, .int 0, .int 0, .int 0, .int 0, .int 0]))] H := hP
  have hD : va_D (fun q : Nat => s.heap.size ≤ q) [(q1, .inr (5, [.ref (u2 0), .int 0, .ref (u2 1), .int 0, .ref (u2 2), .int 0, .ref (u2 3)])), (u2 0, .inl (u2 6, 800, .inl (fun _ => 0))), (u2 1, .inl (u2 7, 5, .inr (.inr (.inr (.inr (fun _ => none)))))), (u2 2, .inl (u2 8, 40, .inr (.inr (.inr (.inr (fun _ => none)))))), (u2 3, .inr (1, [.ref (u2 4), .ref (u2 5), .int 0, .int 0, .int 0])), (u2 4, .inr (3, [.ref (u2 0), .int 0, .int 0, .int 0, .int 0, .long 0])), (q4, .inr (6, [.int 0, .null, .int 0, .int 0, .null, .null, .null, .null, .null, .null, .null, .null, .null, .null, .null, .null, .null, .null, .null, .null, .null, .int 0, .int 0, .int 0, .long 0, .int 0, .int 0, .int 0, .null, .int 0, .null, .null, .null, .null, .null, .null, .null, .null, .null, .null, .int 0, .int 0, .int 0, .int 0, .int 0, .int 0]))] := hD
  refine W.widen (k := 8) (n := 913) (by omega) (by omega) ?_
  refine lv_dup hx hb dL_law_11 rfl ?_
  have hPc := hP.sub (ws' := [(q4, .inr (6, [.int 0, .null, .int 0, .int 0, .null, .null, .null, .null, .null, .null, .null, .null, .null, .null, .null, .null, .null, .null, .null, .null, .null, .int 0, .int 0, .int 0, .long 0, .int 0, .int 0, .int 0, .null, .int 0, .null, .null, .null, .null, .null, .null, .null, .null, .null, .null, .int 0, .int 0, .int 0, .int 0, .int 0, .int 0]))]) [6] rfl
  have hDc := hD.sub (ws' := [(q4, .inr (6, [.int 0, .null, .int 0, .int 0, .null, .null, .null, .null, .null, .null, .null, .null, .null, .null, .null, .null, .null, .null, .null, .null, .null, .int 0, .int 0, .int 0, .long 0, .int 0, .int 0, .int 0, .null, .int 0, .null, .null, .null, .null, .null, .null, .null, .null, .null, .null, .int 0, .int 0, .int 0, .int 0, .int 0, .int 0]))]) [6] (by decide) rfl
  have hKc := hK.sub (tys' := []) [] rfl
  have hFc := va_free (wc := [(q4, .inr (6, [.int 0, .null, .int 0, .int 0, .null, .null, .null, .null, .null, .null, .null, .null, .null, .null, .null, .null, .null, .null, .null, .null, .null, .int 0, .int 0, .int 0, .long 0, .int 0, .int 0, .int 0, .null, .int 0, .null, .null, .null, .null, .null, .null, .null, .null, .null, .null, .int 0, .int 0, .int 0, .int 0, .int 0, .int 0]))]) hD hS hA [6] rfl
  refine va_callv (va_runI (As := []) (rest := [.ref q4]) ⟨hx, hb, hml, hown, hts⟩ (zX7_init l dC dI q4 H.size) (cwI 0 hts zgL_law_X7_init_20 rfl rfl rfl (hts (.initialized RX7) (by decide +kernel)) (hts (.methodLink RL 20 yX7_init) (by decide +kernel)) (hts (.instanceMethod yX7_init) (by decide +kernel)) rfl (by decide +kernel) ⟨(show 1 + 1 ≤ 10 by omega), (show 8 + (1 + 11) + 12 ≤ 372 by omega)⟩) (zSw hKc hPc hDc) rfl rfl hl.1 rfl (lv_room (Nat.le_of_ble_eq_true rfl)) dL_law_12 ⟨(show 8 + 29 ≤ 600002 by omega), (show 913 + 10437 ≤ 7302232 by omega)⟩) hS (fun q _ h => hFc q h) hFc (fun u5 t H1 locs ht hvm hw hB hz1 hk1 hS => ?_)
  obtain ⟨hP1, hK1, hD1⟩ := hB
  rw [ht] at hP1
  have hK1 := va_K.moved hvm.symm hK1
  obtain ⟨hP, hD⟩ := va_join (wr := [(q1, .inr (5, [.ref (u2 0), .int 0, .ref (u2 1), .int 0, .ref (u2 2), .int 0, .ref (u2 3)])), (u2 0, .inl (u2 6, 800, .inl (fun _ => 0))), (u2 1, .inl (u2 7, 5, .inr (.inr (.inr (.inr (fun _ => none)))))), (u2 2, .inl (u2 8, 40, .inr (.inr (.inr (.inr (fun _ => none)))))), (u2 3, .inr (1, [.ref (u2 4), .ref (u2 5), .int 0, .int 0, .int 0])), (u2 4, .inr (3, [.ref (u2 0), .int 0, .int 0, .int 0, .int 0, .long 0]))]) (w1 := [(q4, .inr (6, zM 0 u5)), (u5 1, .inl (u5 46, 800, .inl (fun _ => 0))), (u5 4, .inl (u5 47, 5, .inl (fun _ => 0))), (u5 30, .inl (u5 48, 40, .inl (fun _ => 0))), (u5 31, .inl (u5 49, 40, .inl (fun _ => 0))), (u5 32, .inl (u5 50, 40, .inl (fun _ => 0))), (u5 33, .inl (u5 51, 40, .inr (.inl (fun _ => 0)))), (u5 34, .inl (u5 52, 40, .inl (fun _ => 0))), (u5 35, .inl (u5 53, 40, .inl (fun _ => 0))), (u5 36, .inl (u5 54, 40, .inl (fun _ => 0))), (u5 37, .inl (u5 55, 40, .inl (fun _ => 0)))]) hP hD [6] [0, 1, 2, 3, 4, 5] rfl rfl (by decide) (by decide) hk1 hFc hP1 hD1
  have hK := (hK.sub (tys' := [(u2 6, .byte), (u2 7, .object RX0), (u2 8, .object RX5)]) [0, 1, 2] rfl).app hK1
  generalize H1 = H at hP hS ⊢
  have hP : va_P (dC, dI) vwCl [(q1, .inr (5, [.ref (u2 0), .int 0, .ref (u2 1), .int 0, .ref (u2 2), .int 0, .ref (u2 3)])), (u2 0, .inl (u2 6, 800, .inl (fun _ => 0))), (u2 1, .inl (u2 7, 5, .inr (.inr (.inr (.inr (fun _ => none)))))), (u2 2, .inl (u2 8, 40, .inr (.inr (.inr (.inr (fun _ => none)))))), (u2 3, .inr (1, [.ref (u2 4), .ref (u2 5), .int 0, .int 0, .int 0])), (u2 4, .inr (3, [.ref (u2 0), .int 0, .int 0, .int 0, .int 0, .long 0])), (q4, .inr (6, zM 0 u5)), (u5 1, .inl (u5 46, 800, .inl (fun _ => 0))), (u5 4, .inl (u5 47, 5, .inl (fun _ => 0))), (u5 30, .inl (u5 48, 40, .inl (fun _ => 0))), (u5 31, .inl (u5 49, 40, .inl (fun _ => 0))), (u5 32, .inl (u5 50, 40, .inl (fun _ => 0))), (u5 33, .inl (u5 51, 40, .inr (.inl (fun _ => 0)))), (u5 34, .inl (u5 52, 40, .inl (fun _ => 0))), (u5 35, .inl (u5 53, 40, .inl (fun _ => 0))), (u5 36, .inl (u5 54, 40, .inl (fun _ => 0))), (u5 37, .inl (u5 55, 40, .inl (fun _ => 0)))] H := hP
  have hD : va_D (fun q : Nat => s.heap.size ≤ q) [(q1, .inr (5, [.ref (u2 0), .int 0, .ref (u2 1), .int 0, .ref (u2 2), .int 0, .ref (u2 3)])), (u2 0, .inl (u2 6, 800, .inl (fun _ => 0))), (u2 1, .inl (u2 7, 5, .inr (.inr (.inr (.inr (fun _ => none)))))), (u2 2, .inl (u2 8, 40, .inr (.inr (.inr (.inr (fun _ => none)))))), (u2 3, .inr (1, [.ref (u2 4), .ref (u2 5), .int 0, .int 0, .int 0])), (u2 4, .inr (3, [.ref (u2 0), .int 0, .int 0, .int 0, .int 0, .long 0])), (q4, .inr (6, zM 0 u5)), (u5 1, .inl (u5 46, 800, .inl (fun _ => 0))), (u5 4, .inl (u5 47, 5, .inl (fun _ => 0))), (u5 30, .inl (u5 48, 40, .inl (fun _ => 0))), (u5 31, .inl (u5 49, 40, .inl (fun _ => 0))), (u5 32, .inl (u5 50, 40, .inl (fun _ => 0))), (u5 33, .inl (u5 51, 40, .inr (.inl (fun _ => 0)))), (u5 34, .inl (u5 52, 40, .inl (fun _ => 0))), (u5 35, .inl (u5 53, 40, .inl (fun _ => 0))), (u5 36, .inl (u5 54, 40, .inl (fun _ => 0))), (u5 37, .inl (u5 55, 40, .inl (fun _ => 0)))] := hD
  have hK : va_K (dC, dI) vwCl [(u2 6, .byte), (u2 7, .object RX0), (u2 8, .object RX5), (u5 46, .int), (u5 47, .int), (u5 48, .int), (u5 49, .int), (u5 50, .int), (u5 51, .long), (u5 52, .int), (u5 53, .int), (u5 54, .int), (u5 55, .int)] s := hK
  refine W.widen (k := 37) (n := 11350) (by omega) (by omega) ?_
  refine lv_astore_n (lv' := [(2, .ref q4), (1, .ref q1), (0, .ref b)]) hx hb dL_law_15 rfl hl (by decide) rfl (fun ls hl => ?_)
  refine lv_iconst (v := 1) hx hb dL_law_16 (by decide) ?_
  refine va_newa (atype := .long) (a0 := (1, .inr (.inl (fun _ => 0)))) (N' := 1) hx hb (hts (.arrayClass .long) (by decide +kernel)) (ty := .long) rfl hK hP hD hS hA (z_al 1) (by decide) (by decide) (by decide) (show 37 + 1 ≤ 600002 by omega) (show 11350 + 1 ≤ 7302232 by omega) dL_law_17 (fun q7 cq7 H hK hP hD hS => ?_)
  have hP : va_P (dC, dI) vwCl [(q1, .inr (5, [.ref (u2 0), .int 0, .ref (u2 1), .int 0, .ref (u2 2), .int 0, .ref (u2 3)])), (u2 0, .inl (u2 6, 800, .inl (fun _ => 0))), (u2 1, .inl (u2 7, 5, .inr (.inr (.inr (.inr (fun _ => none)))))), (u2 2, .inl (u2 8, 40, .inr (.inr (.inr (.inr (fun _ => none)))))), (u2 3, .inr (1, [.ref (u2 4), .ref (u2 5), .int 0, .int 0, .int 0])), (u2 4, .inr (3, [.ref (u2 0), .int 0, .int 0, .int 0, .int 0, .long 0])), (q4, .inr (6, zM 0 u5)), (u5 1, .inl (u5 46, 800, .inl (fun _ => 0))), (u5 4, .inl (u5 47, 5, .inl (fun _ => 0))), (u5 30, .inl (u5 48, 40, .inl (fun _ => 0))), (u5 31, .inl (u5 49, 40, .inl (fun _ => 0))), (u5 32, .inl (u5 50, 40, .inl (fun _ => 0))), (u5 33, .inl (u5 51, 40, .inr (.inl (fun _ => 0)))), (u5 34, .inl (u5 52, 40, .inl (fun _ => 0))), (u5 35, .inl (u5 53, 40, .inl (fun _ => 0))), (u5 36, .inl (u5 54, 40, .inl (fun _ => 0))), (u5 37, .inl (u5 55, 40, .inl (fun _ => 0))), (q7, .inl (cq7, 1, .inr (.inl (fun _ => 0))))] H := hP
  have hD : va_D (fun q : Nat => s.heap.size ≤ q) [(q1, .inr (5, [.ref (u2 0), .int 0, .ref (u2 1), .int 0, .ref (u2 2), .int 0, .ref (u2 3)])), (u2 0, .inl (u2 6, 800, .inl (fun _ => 0))), (u2 1, .inl (u2 7, 5, .inr (.inr (.inr (.inr (fun _ => none)))))), (u2 2, .inl (u2 8, 40, .inr (.inr (.inr (.inr (fun _ => none)))))), (u2 3, .inr (1, [.ref (u2 4), .ref (u2 5), .int 0, .int 0, .int 0])), (u2 4, .inr (3, [.ref (u2 0), .int 0, .int 0, .int 0, .int 0, .long 0])), (q4, .inr (6, zM 0 u5)), (u5 1, .inl (u5 46, 800, .inl (fun _ => 0))), (u5 4, .inl (u5 47, 5, .inl (fun _ => 0))), (u5 30, .inl (u5 48, 40, .inl (fun _ => 0))), (u5 31, .inl (u5 49, 40, .inl (fun _ => 0))), (u5 32, .inl (u5 50, 40, .inl (fun _ => 0))), (u5 33, .inl (u5 51, 40, .inr (.inl (fun _ => 0)))), (u5 34, .inl (u5 52, 40, .inl (fun _ => 0))), (u5 35, .inl (u5 53, 40, .inl (fun _ => 0))), (u5 36, .inl (u5 54, 40, .inl (fun _ => 0))), (u5 37, .inl (u5 55, 40, .inl (fun _ => 0))), (q7, .inl (cq7, 1, .inr (.inl (fun _ => 0))))] := hD
  have hK : va_K (dC, dI) vwCl [(u2 6, .byte), (u2 7, .object RX0), (u2 8, .object RX5), (u5 46, .int), (u5 47, .int), (u5 48, .int), (u5 49, .int), (u5 50, .int), (u5 51, .long), (u5 52, .int), (u5 53, .int), (u5 54, .int), (u5 55, .int), (cq7, .long)] s := hK
  refine W.widen (k := 38) (n := 11351) (by omega) (by omega) ?_
  refine lv_astore_n (lv' := [(3, .ref q7), (2, .ref q4), (1, .ref q1), (0, .ref b)]) hx hb dL_law_19 rfl hl (by decide) rfl (fun ls hl => ?_)
  have hP := hP.sub (ws' := [(q1, .inr (5, [.ref (u2 0), .int 0, .ref (u2 1), .int 0, .ref (u2 2), .int 0, .ref (u2 3)])), (u2 0, .inl (u2 6, 800, .inl (fun _ => 0))), (u2 1, .inl (u2 7, 5, .inr (.inr (.inr (.inr (fun _ => none)))))), (u2 2, .inl (u2 8, 40, .inr (.inr (.inr (.inr (fun _ => none)))))), (u2 3, .inr (1, [.ref (u2 4), .ref (u2 5), .int 0, .int 0, .int 0])), (u2 4, .inr (3, [.ref (u2 0), .int 0, .int 0, .int 0, .int 0, .long 0])), (q4, .inr (6, zM 0 u5)), (u5 1, .inl (u5 46, 800, .inl (fun _ => 0))), (u5 4, .inl (u5 47, 5, .inl (fun _ => 0))), (u5 30, .inl (u5 48, 40, .inl (fun _ => 0))), (u5 31, .inl (u5 49, 40, .inl (fun _ => 0))), (u5 32, .inl (u5 50, 40, .inl (fun _ => 0))), (u5 33, .inl (u5 51, 40, .inr (.inl (fun _ => 0)))), (u5 34, .inl (u5 52, 40, .inl (fun _ => 0))), (u5 35, .inl (u5 53, 40, .inl (fun _ => 0))), (u5 36, .inl (u5 54, 40, .inl (fun _ => 0))), (u5 37, .inl (u5 55, 40, .inl (fun _ => 0)))]) [0, 1, 2, 3, 4, 5, 6, 7, 8, 9, 10, 11, 12, 13, 14, 15, 16] rfl
  have hD := hD.sub (ws' := [(q1, .inr (5, [.ref (u2 0), .int 0, .ref (u2 1), .int 0, .ref (u2 2), .int 0, .ref (u2 3)])), (u2 0, .inl (u2 6, 800, .inl (fun _ => 0))), (u2 1, .inl (u2 7, 5, .inr (.inr (.inr (.inr (fun _ => none)))))), (u2 2, .inl (u2 8, 40, .inr (.inr (.inr (.inr (fun _ => none)))))), (u2 3, .inr (1, [.ref (u2 4), .ref (u2 5), .int 0, .int 0, .int 0])), (u2 4, .inr (3, [.ref (u2 0), .int 0, .int 0, .int 0, .int 0, .long 0])), (q4, .inr (6, zM 0 u5)), (u5 1, .inl (u5 46, 800, .inl (fun _ => 0))), (u5 4, .inl (u5 47, 5, .inl (fun _ => 0))), (u5 30, .inl (u5 48, 40, .inl (fun _ => 0))), (u5 31, .inl (u5 49, 40, .inl (fun _ => 0))), (u5 32, .inl (u5 50, 40, .inl (fun _ => 0))), (u5 33, .inl (u5 51, 40, .inr (.inl (fun _ => 0)))), (u5 34, .inl (u5 52, 40, .inl (fun _ => 0))), (u5 35, .inl (u5 53, 40, .inl (fun _ => 0))), (u5 36, .inl (u5 54, 40, .inl (fun _ => 0))), (u5 37, .inl (u5 55, 40, .inl (fun _ => 0)))]) [0, 1, 2, 3, 4, 5, 6, 7, 8, 9, 10, 11, 12, 13, 14, 15, 16] (by decide) rfl
  have hK := hK.sub (tys' := [(u2 6, .byte), (u2 7, .object RX0), (u2 8, .object RX5), (u5 46, .int), (u5 47, .int), (u5 48, .int), (u5 49, .int), (u5 50, .int), (u5 51, .long), (u5 52, .int), (u5 53, .int), (u5 54, .int), (u5 55, .int)]) [0, 1, 2, 3, 4, 5, 6, 7, 8, 9, 10, 11, 12] rfl
  refine lv_iconst (v := 0) hx hb dL_law_20 (by decide) ?_
  refine lv_istore (lv' := [(4, .int 0), (3, .ref q7), (2, .ref q4), (1, .ref q1), (0, .ref b)]) hx hb dL_law_21 hl (by decide) rfl (fun ls hl => ?_)
  rcases Nat.lt_or_ge L 9 with h9 | h9
  · refine lv_iload hx hb dL_law_23 (lv_at hl 0 rfl) ?_
    refine lv_aload_n hx hb dL_law_25 rfl (lv_at hl 4 rfl) ?_
    refine va_slen hx hb hX hbl hbA hS dL_law_26 ?_
    refine lv_bipush (v := 9) hx hb dL_law_27 (by decide) ?_
    refine lv_isub hx hb dL_law_29 ?_
    refine lv_topi (fun x8 ex8 => ?_)
    refine lv_icmp_gt (tgt := 908) hx hb dL_law_30 (by decide) (fun _ => ?_) (fun c9 => absurd (by rw [ex8]; exact pk_sneg (by decide) h9) c9)
    refine lv_iconst (v := 1) hx hb dL_law_908 (by decide) ?_
    refine va_forget (fun q hq => hS.2.2 q hq) ?_
    refine W.widen (k := 600002) (n := 7302232) (by omega) (by omega) ?_
    exact lw_ret hx hb hr hlocks dL_law_909
  · obtain rfl : L = 9 := Nat.le_antisymm hL h9
    refine lv_iload hx hb dL_law_23 (lv_at hl 0 rfl) ?_
    refine lv_aload_n hx hb dL_law_25 rfl (lv_at hl 4 rfl) ?_
    refine va_slen hx hb hX hbl hbA hS dL_law_26 ?_
    refine lv_bipush (v := 9) hx hb dL_law_27 (by decide) ?_
    refine lv_isub hx hb dL_law_29 ?_
    refine lv_topi (fun x9 ex9 => ?_)
    refine lv_icmp_gt (tgt := 908) hx hb dL_law_30 (by decide) (fun c9 => absurd c9 (by rw [ex9]; decide)) (fun _ => ?_)
    refine lv_aload_n hx hb dL_law_33 rfl (lv_at hl 4 rfl) ?_
    refine lv_iload hx hb dL_law_34 (lv_at hl 0 rfl) ?_
    refine va_sld hx hb hX hbl hbA hS (by unfold vp_in; decide : vp_in 0 9) dL_law_36 ?_
    refine W.eq (g2 := F0 m 37 ls [.int (xs 0)]) rfl ?_
    refine lv_bipush (v := 31) hx hb dL_law_37 (by decide) ?_
    refine lv_iand hx hb dL_law_39 ?_
    refine lv_topi (fun x10 ex10 => ?_)
    obtain ⟨j, hj, ej⟩ := pk_andE (xs 0) (m := 31) 5 (by decide)
    obtain rfl : x10 = nI j := by rw [ex10]; exact ej
    by_cases t0 : j = 0
    · subst t0
      refine lv_tableIn (off := 84) (tgt := 124) hx hb dL_law_40 (by decide) (by decide) (by decide) (by decide) ?_
      exact zc_0 C0 hK hP hD hS (lv_sub hl [0, 1, 2, 3, 4] rfl)
    by_cases t1 : j = 1
    · subst t1
      refine lv_tableIn (off := 153) (tgt := 193) hx hb dL_law_40 (by decide) (by decide) (by decide) (by decide) ?_
      exact zc_1 C0 hE hK hP hD hS (lv_sub hl [0, 1, 2, 3, 4] rfl)
    by_cases t2 : j = 2
    · subst t2
      refine lv_tableIn (off := 166) (tgt := 206) hx hb dL_law_40 (by decide) (by decide) (by decide) (by decide) ?_
      exact zc_2 C0 hK hP hD hS (lv_sub hl [0, 1, 2, 3, 4] rfl)
    by_cases t3 : j = 3
    · subst t3
      refine lv_tableIn (off := 203) (tgt := 243) hx hb dL_law_40 (by decide) (by decide) (by decide) (by decide) ?_
      exact zc_3 C0 hK hP hD hS (lv_sub hl [0, 1, 2, 3, 4] rfl)
    by_cases t4 : j = 4
    · subst t4
      refine lv_tableIn (off := 240) (tgt := 280) hx hb dL_law_40 (by decide) (by decide) (by decide) (by decide) ?_
      exact zc_4 C0 hK hP hD hS (lv_sub hl [0, 1, 2, 3, 4] rfl)
    by_cases t5 : j = 5
    · subst t5
      refine lv_tableIn (off := 277) (tgt := 317) hx hb dL_law_40 (by decide) (by decide) (by decide) (by decide) ?_
      exact zc_5 C0 hK hP hD hS (lv_sub hl [0, 1, 2, 3, 4] rfl)
    by_cases t6 : j = 6
    · subst t6
      refine lv_tableIn (off := 326) (tgt := 366) hx hb dL_law_40 (by decide) (by decide) (by decide) (by decide) ?_
      exact zc_6 C0 hE hK hP hD hS (lv_sub hl [0, 1, 2, 3, 4] rfl)
    by_cases t7 : j = 7
    · subst t7
      refine lv_tableIn (off := 461) (tgt := 501) hx hb dL_law_40 (by decide) (by decide) (by decide) (by decide) ?_
      exact zc_7 C0 hK hP hD hS (lv_sub hl [0, 1, 2, 3, 4] rfl)
    by_cases t8 : j = 8
    · subst t8
      refine lv_tableIn (off := 498) (tgt := 538) hx hb dL_law_40 (by decide) (by decide) (by decide) (by decide) ?_
      exact zc_8 C0 hK hP hD hS (lv_sub hl [0, 1, 2, 3, 4] rfl)
    by_cases t9 : j = 9
    · subst t9
      refine lv_tableIn (off := 535) (tgt := 575) hx hb dL_law_40 (by decide) (by decide) (by decide) (by decide) ?_
      exact zc_9 C0 hK hP hD hS (lv_sub hl [0, 1, 2, 3, 4] rfl)
    by_cases t10 : j = 10
    · subst t10
      refine lv_tableIn (off := 584) (tgt := 624) hx hb dL_law_40 (by decide) (by decide) (by decide) (by decide) ?_
      exact zc_10 C0 hK hP hD hS (lv_sub hl [0, 1, 2, 3, 4] rfl)
    by_cases t11 : j = 11
    · subst t11
      refine lv_tableIn (off := 633) (tgt := 673) hx hb dL_law_40 (by decide) (by decide) (by decide) (by decide) ?_
      exact zc_11 C0 hK hP hD hS (lv_sub hl [0, 1, 2, 3, 4] rfl)
    by_cases t12 : j = 12
    · subst t12
      refine lv_tableIn (off := 670) (tgt := 710) hx hb dL_law_40 (by decide) (by decide) (by decide) (by decide) ?_
      exact zc_12 C0 hK hP hD hS (lv_sub hl [0, 1, 2, 3, 4] rfl)
    by_cases t13 : j = 13
    · subst t13
      refine lv_tableIn (off := 695) (tgt := 735) hx hb dL_law_40 (by decide) (by decide) (by decide) (by decide) ?_
      exact zc_13 C0 hK hP hD hS (lv_sub hl [0, 1, 2, 3, 4] rfl)
    by_cases t14 : j = 14
    · subst t14
      refine lv_tableIn (off := 732) (tgt := 772) hx hb dL_law_40 (by decide) (by decide) (by decide) (by decide) ?_
      exact zc_14 C0 hK hP hD hS (lv_sub hl [0, 1, 2, 3, 4] rfl)
    by_cases t15 : j = 15
    · subst t15
      refine lv_tableIn (off := 781) (tgt := 821) hx hb dL_law_40 (by decide) (by decide) (by decide) (by decide) ?_
      exact zc_15 C0 hK hP hD hS (lv_sub hl [0, 1, 2, 3, 4] rfl)
    by_cases t16 : j = 16
    · subst t16
      refine lv_tableIn (off := 806) (tgt := 846) hx hb dL_law_40 (by decide) (by decide) (by decide) (by decide) ?_
      exact zc_16 C0 hl9 hXs hZs hK hP hD hS (lv_sub hl [0, 1, 2, 3, 4] rfl)
    refine lv_tableOut (tgt := 902) hx hb dL_law_40 (Or.inr (by rw [nI_toInt (by omega)]; omega)) (by decide) ?_
    exact zc_end C0 hS (lv_sub hl [0, 4] rfl) (by omega) (by omega)
