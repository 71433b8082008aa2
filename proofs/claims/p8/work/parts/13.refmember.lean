theorem dX7_isThere_0 : decode cX7_isThere 0 = .ok (.bipush 12, 2) := by decide +kernel
theorem dX7_isThere_2 : decode cX7_isThere 2 = .ok (.iload_n 1, 1) := by decide +kernel
theorem dX7_isThere_3 : decode cX7_isThere 3 = .ok (.imul, 1) := by decide +kernel
theorem dX7_isThere_4 : decode cX7_isThere 4 = .ok (.istore_n 3, 1) := by decide +kernel
theorem dX7_isThere_5 : decode cX7_isThere 5 = .ok (.iload_n 3, 1) := by decide +kernel
theorem dX7_isThere_6 : decode cX7_isThere 6 = .ok (.iload_n 2, 1) := by decide +kernel
theorem dX7_isThere_7 : decode cX7_isThere 7 = .ok (.if_icmp .ge 128, 3) := by decide +kernel
theorem dX7_isThere_10 : decode cX7_isThere 10 = .ok (.aload_n 0, 1) := by decide +kernel
theorem dX7_isThere_11 : decode cX7_isThere 11 = .ok (.getfield 61, 3) := by decide +kernel
theorem dX7_isThere_14 : decode cX7_isThere 14 = .ok (.iload_n 3, 1) := by decide +kernel
theorem dX7_isThere_15 : decode cX7_isThere 15 = .ok (.iaload, 1) := by decide +kernel
theorem dX7_isThere_16 : decode cX7_isThere 16 = .ok (.aload_n 0, 1) := by decide +kernel
theorem dX7_isThere_17 : decode cX7_isThere 17 = .ok (.getfield 61, 3) := by decide +kernel
theorem dX7_isThere_20 : decode cX7_isThere 20 = .ok (.iload_n 2, 1) := by decide +kernel
theorem dX7_isThere_21 : decode cX7_isThere 21 = .ok (.iaload, 1) := by decide +kernel
theorem dX7_isThere_22 : decode cX7_isThere 22 = .ok (.if_icmp .ne 57, 3) := by decide +kernel
theorem dX7_isThere_25 : decode cX7_isThere 25 = .ok (.aload_n 0, 1) := by decide +kernel
theorem dX7_isThere_26 : decode cX7_isThere 26 = .ok (.getfield 61, 3) := by decide +kernel
theorem dX7_isThere_29 : decode cX7_isThere 29 = .ok (.iload_n 2, 1) := by decide +kernel
theorem dX7_isThere_30 : decode cX7_isThere 30 = .ok (.iaload, 1) := by decide +kernel
theorem dX7_isThere_31 : decode cX7_isThere 31 = .ok (.iconst 1, 1) := by decide +kernel
theorem dX7_isThere_32 : decode cX7_isThere 32 = .ok (.if_icmp .lt 18, 3) := by decide +kernel
theorem dX7_isThere_35 : decode cX7_isThere 35 = .ok (.aload_n 0, 1) := by decide +kernel
theorem dX7_isThere_36 : decode cX7_isThere 36 = .ok (.getfield 64, 3) := by decide +kernel
theorem dX7_isThere_39 : decode cX7_isThere 39 = .ok (.iload_n 3, 1) := by decide +kernel
theorem dX7_isThere_40 : decode cX7_isThere 40 = .ok (.iaload, 1) := by decide +kernel
theorem dX7_isThere_41 : decode cX7_isThere 41 = .ok (.aload_n 0, 1) := by decide +kernel
theorem dX7_isThere_42 : decode cX7_isThere 42 = .ok (.getfield 64, 3) := by decide +kernel
theorem dX7_isThere_45 : decode cX7_isThere 45 = .ok (.iload_n 2, 1) := by decide +kernel
theorem dX7_isThere_46 : decode cX7_isThere 46 = .ok (.iaload, 1) := by decide +kernel
theorem dX7_isThere_47 : decode cX7_isThere 47 = .ok (.if_icmp .ne 32, 3) := by decide +kernel
theorem dX7_isThere_50 : decode cX7_isThere 50 = .ok (.aload_n 0, 1) := by decide +kernel
theorem dX7_isThere_51 : decode cX7_isThere 51 = .ok (.getfield 61, 3) := by decide +kernel
theorem dX7_isThere_54 : decode cX7_isThere 54 = .ok (.iload_n 2, 1) := by decide +kernel
theorem dX7_isThere_55 : decode cX7_isThere 55 = .ok (.iaload, 1) := by decide +kernel
theorem dX7_isThere_56 : decode cX7_isThere 56 = .ok (.iconst 2, 1) := by decide +kernel
theorem dX7_isThere_57 : decode cX7_isThere 57 = .ok (.if_icmp .lt 18, 3) := by decide +kernel
theorem dX7_isThere_60 : decode cX7_isThere 60 = .ok (.aload_n 0, 1) := by decide +kernel
theorem dX7_isThere_61 : decode cX7_isThere 61 = .ok (.getfield 67, 3) := by decide +kernel
theorem dX7_isThere_64 : decode cX7_isThere 64 = .ok (.iload_n 3, 1) := by decide +kernel
theorem dX7_isThere_65 : decode cX7_isThere 65 = .ok (.iaload, 1) := by decide +kernel
theorem dX7_isThere_66 : decode cX7_isThere 66 = .ok (.aload_n 0, 1) := by decide +kernel
theorem dX7_isThere_67 : decode cX7_isThere 67 = .ok (.getfield 67, 3) := by decide +kernel
theorem dX7_isThere_70 : decode cX7_isThere 70 = .ok (.iload_n 2, 1) := by decide +kernel
theorem dX7_isThere_71 : decode cX7_isThere 71 = .ok (.iaload, 1) := by decide +kernel
theorem dX7_isThere_72 : decode cX7_isThere 72 = .ok (.if_icmp .ne 7, 3) := by decide +kernel
theorem dX7_isThere_75 : decode cX7_isThere 75 = .ok (.iconst 1, 1) := by decide +kernel
theorem dX7_isThere_76 : decode cX7_isThere 76 = .ok (.goto 4, 3) := by decide +kernel
theorem dX7_isThere_79 : decode cX7_isThere 79 = .ok (.iconst 0, 1) := by decide +kernel
theorem dX7_isThere_80 : decode cX7_isThere 80 = .ok (.istore 4, 2) := by decide +kernel
theorem dX7_isThere_82 : decode cX7_isThere 82 = .ok (.aload_n 0, 1) := by decide +kernel
theorem dX7_isThere_83 : decode cX7_isThere 83 = .ok (.getfield 51, 3) := by decide +kernel
theorem dX7_isThere_86 : decode cX7_isThere 86 = .ok (.iload_n 3, 1) := by decide +kernel
theorem dX7_isThere_87 : decode cX7_isThere 87 = .ok (.baload, 1) := by decide +kernel
theorem dX7_isThere_88 : decode cX7_isThere 88 = .ok (.aload_n 0, 1) := by decide +kernel
theorem dX7_isThere_89 : decode cX7_isThere 89 = .ok (.getfield 51, 3) := by decide +kernel
theorem dX7_isThere_92 : decode cX7_isThere 92 = .ok (.iload_n 2, 1) := by decide +kernel
theorem dX7_isThere_93 : decode cX7_isThere 93 = .ok (.baload, 1) := by decide +kernel
theorem dX7_isThere_94 : decode cX7_isThere 94 = .ok (.if_icmp .ne 35, 3) := by decide +kernel
theorem dX7_isThere_97 : decode cX7_isThere 97 = .ok (.aload_n 0, 1) := by decide +kernel
theorem dX7_isThere_98 : decode cX7_isThere 98 = .ok (.getfield 44, 3) := by decide +kernel
theorem dX7_isThere_101 : decode cX7_isThere 101 = .ok (.iload_n 3, 1) := by decide +kernel
theorem dX7_isThere_102 : decode cX7_isThere 102 = .ok (.laload, 1) := by decide +kernel
theorem dX7_isThere_103 : decode cX7_isThere 103 = .ok (.aload_n 0, 1) := by decide +kernel
theorem dX7_isThere_104 : decode cX7_isThere 104 = .ok (.getfield 44, 3) := by decide +kernel
theorem dX7_isThere_107 : decode cX7_isThere 107 = .ok (.iload_n 2, 1) := by decide +kernel
theorem dX7_isThere_108 : decode cX7_isThere 108 = .ok (.laload, 1) := by decide +kernel
theorem dX7_isThere_109 : decode cX7_isThere 109 = .ok (.lcmp, 1) := by decide +kernel
theorem dX7_isThere_110 : decode cX7_isThere 110 = .ok (.ifCond .ne 19, 3) := by decide +kernel
theorem dX7_isThere_113 : decode cX7_isThere 113 = .ok (.aload_n 0, 1) := by decide +kernel
theorem dX7_isThere_114 : decode cX7_isThere 114 = .ok (.getfield 51, 3) := by decide +kernel
theorem dX7_isThere_117 : decode cX7_isThere 117 = .ok (.iload_n 2, 1) := by decide +kernel
theorem dX7_isThere_118 : decode cX7_isThere 118 = .ok (.baload, 1) := by decide +kernel
theorem dX7_isThere_119 : decode cX7_isThere 119 = .ok (.ifCond .eq 8, 3) := by decide +kernel
theorem dX7_isThere_122 : decode cX7_isThere 122 = .ok (.iload 4, 2) := by decide +kernel
theorem dX7_isThere_124 : decode cX7_isThere 124 = .ok (.ifCond .eq 5, 3) := by decide +kernel
theorem dX7_isThere_127 : decode cX7_isThere 127 = .ok (.iconst 1, 1) := by decide +kernel
theorem dX7_isThere_128 : decode cX7_isThere 128 = .ok (.ireturn, 1) := by decide +kernel
theorem dX7_isThere_129 : decode cX7_isThere 129 = .ok (.iinc 3 1, 3) := by decide +kernel
theorem dX7_isThere_132 : decode cX7_isThere 132 = .ok (.goto (-127), 3) := by decide +kernel
theorem dX7_isThere_135 : decode cX7_isThere 135 = .ok (.iconst 0, 1) := by decide +kernel
theorem dX7_isThere_136 : decode cX7_isThere 136 = .ok (.ireturn, 1) := by decide +kernel
def zwX7_isThere : List Cond := .code yX7_isThere cX7_isThere 5 (some .boolean) :: ([.fieldLink RX7 51 "LinkModelsModel" "isMethod" "[Z", .fieldLink RX7 44 "LinkModelsModel" "word" "[J", .fieldLink RX7 61 "LinkModelsModel" "many" "[I", .fieldLink RX7 67 "LinkModelsModel" "second" "[I", .fieldLink RX7 64 "LinkModelsModel" "first" "[I"] ++ wsX70)
set_option maxHeartbeats 4000000 in
set_option maxRecDepth 100000 in
theorem kX7_isThere (l : Launch) (dC : Nat → ClassId) (dI : Nat → Nat → Nat) (h0 : Nat) (r : Nat → Nat) (cI : ClassId) (cJ : ClassId) (cZ : ClassId) (v0 : Int32) (a1 : Nat → Int32) (tp : Nat) (bs : Nat) (cl : Nat → Nat) (a5 : Nat → Int32) (a6 : Nat → Int32) (a7 : Nat → Int32) (fc : Nat → Nat) (a9 : Nat → Int32) (mb : Nat → Nat) (a11 : Nat → Int32) (a12 : Nat → Int32) (a13 : Nat → Int64) (a14 : Nat → Int32) (a15 : Nat → Int32) (a16 : Nat → Int32) (a17 : Nat → Int32) (a18 : Nat → Int32) (a19 : Nat → Int32) (a20 : Nat → Int32) (az : Nat) (v22 : Int32) (v23 : Int32) (v24 : Int64) (v25 : Int32) (v26 : Int32) (bb : Nat) (ct : Nat → Nat) (us : Nat) (a30 : Nat → Int32) (a31 : Nat → Int32) (a32 : Nat → Int32) (a33 : Nat → Int64) (a34 : Nat → Int32) (a35 : Nat → Int32) (a36 : Nat → Int32) (a37 : Nat → Int32) (pil : Nat → Nat) (rwv : Nat → Nat) (rl : Nat) (v41 : Int32) (v42 : Int32) (v43 : Int32) (v44 : Int32) (v45 : Int32) (hI : rWI tp bs cl fc mb az bb ct us pil rwv rl) (ci : Nat) (mi : Nat) (hp0 : ci < 80) (hp1 : mi < 960) (sz : Nat) : Met l yX7_isThere zwX7_isThere ({ frames := 0, cells := 0, slots := 0, locals := 0 }) (zPm dC dI [.ref h0, .int (nI ci), .int (nI mi)] sz (rW h0 r cI cJ cZ v0 a1 (nI tp) (nI bs) (fun j => nI (cl j)) a5 a6 a7 (fun j => nI (fc j)) a9 (fun j => nI (mb j)) a11 a12 a13 a14 a15 a16 a17 a18 a19 a20 (nI az) v22 v23 v24 v25 v26 (nI bb) (fun j => nI (ct j)) (nI us) a30 a31 a32 a33 a34 a35 a36 a37 (fun j => nI (pil j)) (fun j => nI (rwv j)) (nI rl) v41 v42 v43 v44 v45) [(cI, .int), (cJ, .long), (cZ, .boolean)]) (vp_Si (fun r => (r = 0 ∨ r = 1))) 0 0 (fun _ => False) := by
  refine Met.ofW (cc := cX7_isThere) (maxL := 5) (ret := (some .boolean)) (by decide) rfl ?_
  intro p e s m args below meth c s₁ B hml hv
  obtain ⟨rfl, hsz, hP, hK, hD0, hL0⟩ := hv
  have hx := B.exec
  have hb := B.bytes
  have hr := B.returns
  have hts := atoms_spec (ws := zwX7_isThere) B.pre
  have hown : s.vm.findClass RX7 = some m.cls := findClass_of_methodNamed B.named
  have hiX7 : ∀ w ∈ wsX70, w ∈ zwX7_isThere := (fun _ h => List.mem_cons_of_mem _ (List.mem_append_right _ h))
  obtain ⟨htp, hbs, hus, hcl, hfc, hmb, hct, hpil, hrwv⟩ := hI
  subst hsz
  have hD := hD0.self (sz := s.heap.size)
  generalize hAe : va_A (rW h0 r cI cJ cZ v0 a1 (nI tp) (nI bs) (fun j => nI (cl j)) a5 a6 a7 (fun j => nI (fc j)) a9 (fun j => nI (mb j)) a11 a12 a13 a14 a15 a16 a17 a18 a19 a20 (nI az) v22 v23 v24 v25 v26 (nI bb) (fun j => nI (ct j)) (nI us) a30 a31 a32 a33 a34 a35 a36 a37 (fun j => nI (pil j)) (fun j => nI (rwv j)) (nI rl) v41 v42 v43 v44 v45) s.heap.size = A at hD hL0
  have hA : ∀ q : Nat, s.heap.size ≤ q → A q := fun q h => by rw [← hAe]; exact Or.inr h
  have hS : va_S A s.heap s.heap [] := va_S.rf
  have hL := hL0
  have hl := lv_entry ([.ref h0, .int (nI ci), .int (nI mi)]) (n := 5) (Nat.le_of_ble_eq_true rfl)
  rw [lg_entry_eq]
  generalize (lg_sl ([.ref h0, .int (nI ci), .int (nI mi)]) ++ List.replicate (5 - (lg_sl ([.ref h0, .int (nI ci), .int (nI mi)])).length) Slot.unset).toArray = ls at hl ⊢
  have hl : lv_has ls 5 [(0, .ref h0), (1, .int (nI ci)), (2, .int (nI mi))] := hl
  have J5 : ∀ (z5 : Nat) (kx : Nat) (ls : Array Slot), mi - kx < z5 → (kx < 1000) → lv_has ls 5 [(0, .ref h0), (1, .int (nI ci)), (2, .int (nI mi)), (3, .int (nI kx))] → W p l e (headSpec zwX7_isThere { frames := 0, cells := 0, slots := 0, locals := 0 }).room s m (([.ref h0, .int (nI ci), .int (nI mi)] : List Value).toArray) below meth c s.heap [] 0 0 (MQ below (vp_Si (fun r => (r = 0 ∨ r = 1))) (([.ref h0, .int (nI ci), .int (nI mi)] : List Value).toArray) s 0 0 (fun _ => False)) (F0 m 5 ls []) := by
    intro z5
    induction z5 with
    | zero => intro kx ls h9; exact absurd h9 (Nat.not_lt_zero _)
    | succ z5 ih5 =>
      intro kx ls hm5 i5_0 hl
      have J80 : ∀ (ty : Int32) (ls : Array Slot), (kx < mi) → lv_has ls 5 [(0, .ref h0), (1, .int (nI ci)), (2, .int (nI mi)), (3, .int (nI kx))] → W p l e (headSpec zwX7_isThere { frames := 0, cells := 0, slots := 0, locals := 0 }).room s m (([.ref h0, .int (nI ci), .int (nI mi)] : List Value).toArray) below meth c s.heap [] 0 0 (MQ below (vp_Si (fun r => (r = 0 ∨ r = 1))) (([.ref h0, .int (nI ci), .int (nI mi)] : List Value).toArray) s 0 0 (fun _ => False)) (F0 m 80 ls [.int ty]) := by
        intro ty ls i80_0 hl
        refine lv_istore (lv' := [(4, .int ty), (0, .ref h0), (1, .int (nI ci)), (2, .int (nI mi)), (3, .int (nI kx))]) hx hb dX7_isThere_80 hl (by decide) rfl (fun ls hl => ?_)
        refine lv_aload_n hx hb dX7_isThere_82 rfl (lv_at hl 1 rfl) ?_
        refine va_get (D := (dC, dI)) (ci := 6) (v := .ref (r 15)) (C := RX7) (T := TX7) (N := 46) hx hb hts hiX7 hown hK hP 0 rfl rfl 15 (by decide) (hts (.fieldLink RX7 51 "LinkModelsModel" "isMethod" "[Z") (by decide +kernel)) (fun _ h9 => h9) rfl dX7_isThere_83 ?_
        refine lv_iload_n hx hb dX7_isThere_86 rfl (lv_at hl 4 rfl) ?_
        refine va_zald hx hb hK hP 13 2 rfl rfl (vp_in_nI (show kx < 960 by omega) (by decide)) dX7_isThere_87 ?_
        refine lv_topi (fun x1 ex1 => ?_)
        obtain rfl : x1 = a15 kx := by rw [ex1, nI_clamp (show kx < 2 ^ 31 by omega)]
        refine lv_aload_n hx hb dX7_isThere_88 rfl (lv_at hl 1 rfl) ?_
        refine va_get (D := (dC, dI)) (ci := 6) (v := .ref (r 15)) (C := RX7) (T := TX7) (N := 46) hx hb hts hiX7 hown hK hP 0 rfl rfl 15 (by decide) (hts (.fieldLink RX7 51 "LinkModelsModel" "isMethod" "[Z") (by decide +kernel)) (fun _ h9 => h9) rfl dX7_isThere_89 ?_
        refine lv_iload_n hx hb dX7_isThere_92 rfl (lv_at hl 3 rfl) ?_
        refine va_zald hx hb hK hP 13 2 rfl rfl (vp_in_nI (show mi < 960 by omega) (by decide)) dX7_isThere_93 ?_
        refine lv_topi (fun x2 ex2 => ?_)
        obtain rfl : x2 = a15 mi := by rw [ex2, nI_clamp (show mi < 2 ^ 31 by omega)]
        refine lv_icmp_ne (tgt := 129) hx hb dX7_isThere_94 (by decide) (fun cp94 => ?_) (fun cp94 => ?_)
        · obtain ⟨x3, ex3⟩ : ∃ y : Int32, y = (nI kx) + 1 := ⟨_, rfl⟩
          refine lv_iinc (v := x3) (lv' := [(3, .int x3), (4, .int ty), (0, .ref h0), (1, .int (nI ci)), (2, .int (nI mi))]) hx hb dX7_isThere_129 hl (k := 4) rfl (by rw [ex3]; rfl) (by decide) rfl (fun ls hl => ?_)
          obtain rfl : x3 = nI (kx + 1) := by rw [ex3]; exact nI_add (kx) 1
          refine lv_goto (tgt := 5) hx hb dX7_isThere_132 (by decide) ?_
          exact ih5 (kx + 1) ls (by omega) (by first | omega | assumption | trivial) (lv_sub hl [2, 3, 4, 0] rfl)
        · refine lv_aload_n hx hb dX7_isThere_97 rfl (lv_at hl 1 rfl) ?_
          refine va_get (D := (dC, dI)) (ci := 6) (v := .ref (r 13)) (C := RX7) (T := TX7) (N := 46) hx hb hts hiX7 hown hK hP 0 rfl rfl 13 (by decide) (hts (.fieldLink RX7 44 "LinkModelsModel" "word" "[J") (by decide +kernel)) (fun _ h9 => h9) rfl dX7_isThere_98 ?_
          refine lv_iload_n hx hb dX7_isThere_101 rfl (lv_at hl 4 rfl) ?_
          refine va_lald hx hb hK hP 11 1 rfl rfl (vp_in_nI (show kx < 960 by omega) (by decide)) dX7_isThere_102 ?_
          refine lv_topl (fun x4 ex4 => ?_)
          refine lv_aload_n hx hb dX7_isThere_103 rfl (lv_at hl 1 rfl) ?_
          refine va_get (D := (dC, dI)) (ci := 6) (v := .ref (r 13)) (C := RX7) (T := TX7) (N := 46) hx hb hts hiX7 hown hK hP 0 rfl rfl 13 (by decide) (hts (.fieldLink RX7 44 "LinkModelsModel" "word" "[J") (by decide +kernel)) (fun _ h9 => h9) rfl dX7_isThere_104 ?_
          refine lv_iload_n hx hb dX7_isThere_107 rfl (lv_at hl 3 rfl) ?_
          refine va_lald hx hb hK hP 11 1 rfl rfl (vp_in_nI (show mi < 960 by omega) (by decide)) dX7_isThere_108 ?_
          refine lv_topl (fun x5 ex5 => ?_)
          refine W.lcmp hx hb dX7_isThere_109 ?_
          refine lv_if_ne (tgt := 129) hx hb dX7_isThere_110 (by decide) (fun cp110 => ?_) (fun cp110 => ?_)
          · obtain ⟨x6, ex6⟩ : ∃ y : Int32, y = (nI kx) + 1 := ⟨_, rfl⟩
            refine lv_iinc (v := x6) (lv' := [(3, .int x6), (4, .int ty), (0, .ref h0), (1, .int (nI ci)), (2, .int (nI mi))]) hx hb dX7_isThere_129 hl (k := 4) rfl (by rw [ex6]; rfl) (by decide) rfl (fun ls hl => ?_)
            obtain rfl : x6 = nI (kx + 1) := by rw [ex6]; exact nI_add (kx) 1
            refine lv_goto (tgt := 5) hx hb dX7_isThere_132 (by decide) ?_
            exact ih5 (kx + 1) ls (by omega) (by first | omega | assumption | trivial) (lv_sub hl [2, 3, 4, 0] rfl)
          · refine lv_aload_n hx hb dX7_isThere_113 rfl (lv_at hl 1 rfl) ?_
            refine va_get (D := (dC, dI)) (ci := 6) (v := .ref (r 15)) (C := RX7) (T := TX7) (N := 46) hx hb hts hiX7 hown hK hP 0 rfl rfl 15 (by decide) (hts (.fieldLink RX7 51 "LinkModelsModel" "isMethod" "[Z") (by decide +kernel)) (fun _ h9 => h9) rfl dX7_isThere_114 ?_
            refine lv_iload_n hx hb dX7_isThere_117 rfl (lv_at hl 3 rfl) ?_
            refine va_zald hx hb hK hP 13 2 rfl rfl (vp_in_nI (show mi < 960 by omega) (by decide)) dX7_isThere_118 ?_
            refine lv_topi (fun x7 ex7 => ?_)
            obtain rfl : x7 = a15 mi := by rw [ex7, nI_clamp (show mi < 2 ^ 31 by omega)]
            refine lv_if_eq (tgt := 127) hx hb dX7_isThere_119 (by decide) (fun cp119 => ?_) (fun cp119 => ?_)
            · refine lv_iconst (v := 1) hx hb dX7_isThere_127 (by decide) ?_
              exact W.zret (v := (1 : Int32)) hx hb hr rfl (fun t ht hW => ⟨(1 : Int32), rfl, (Or.inr rfl), ht⟩) (fun _ h => by cases h) dX7_isThere_128
            · refine lv_iload hx hb dX7_isThere_122 (lv_at hl 0 rfl) ?_
              refine lv_if_eq (tgt := 129) hx hb dX7_isThere_124 (by decide) (fun cp124 => ?_) (fun cp124 => ?_)
              · obtain ⟨x8, ex8⟩ : ∃ y : Int32, y = (nI kx) + 1 := ⟨_, rfl⟩
                refine lv_iinc (v := x8) (lv' := [(3, .int x8), (4, .int ty), (0, .ref h0), (1, .int (nI ci)), (2, .int (nI mi))]) hx hb dX7_isThere_129 hl (k := 4) rfl (by rw [ex8]; rfl) (by decide) rfl (fun ls hl => ?_)
                obtain rfl : x8 = nI (kx + 1) := by rw [ex8]; exact nI_add (kx) 1
                refine lv_goto (tgt := 5) hx hb dX7_isThere_132 (by decide) ?_
                exact ih5 (kx + 1) ls (by omega) (by first | omega | assumption | trivial) (lv_sub hl [2, 3, 4, 0] rfl)
              · refine lv_iconst (v := 1) hx hb dX7_isThere_127 (by decide) ?_
                exact W.zret (v := (1 : Int32)) hx hb hr rfl (fun t ht hW => ⟨(1 : Int32), rfl, (Or.inr rfl), ht⟩) (fun _ h => by cases h) dX7_isThere_128
      refine lv_iload_n hx hb dX7_isThere_5 rfl (lv_at hl 3 rfl) ?_
      refine lv_iload_n hx hb dX7_isThere_6 rfl (lv_at hl 2 rfl) ?_
      refine lv_icmp_ge (tgt := 135) hx hb dX7_isThere_7 (by decide) (fun cp7 => ?_) (fun cp7 => ?_)
      · have qcp7 : mi ≤ kx := (nI_leI (a := mi) (b := kx) (by omega) (by omega)).mp cp7
        refine lv_iconst (v := 0) hx hb dX7_isThere_135 (by decide) ?_
        exact W.zret (v := (0 : Int32)) hx hb hr rfl (fun t ht hW => ⟨(0 : Int32), rfl, (Or.inl rfl), ht⟩) (fun _ h => by cases h) dX7_isThere_136
      · have qcp7 : ¬ mi ≤ kx := fun h9 => cp7 ((nI_leI (a := mi) (b := kx) (by omega) (by omega)).mpr h9)
        refine lv_aload_n hx hb dX7_isThere_10 rfl (lv_at hl 0 rfl) ?_
        refine va_get (D := (dC, dI)) (ci := 6) (v := .ref (r 18)) (C := RX7) (T := TX7) (N := 46) hx hb hts hiX7 hown hK hP 0 rfl rfl 18 (by decide) (hts (.fieldLink RX7 61 "LinkModelsModel" "many" "[I") (by decide +kernel)) (fun _ h9 => h9) rfl dX7_isThere_11 ?_
        refine lv_iload_n hx hb dX7_isThere_14 rfl (lv_at hl 3 rfl) ?_
        refine va_iald hx hb hK hP 16 0 rfl rfl (vp_in_nI (show kx < 960 by omega) (by decide)) dX7_isThere_15 ?_
        refine lv_topi (fun x9 ex9 => ?_)
        obtain rfl : x9 = a18 kx := by rw [ex9, nI_clamp (show kx < 2 ^ 31 by omega)]
        refine lv_aload_n hx hb dX7_isThere_16 rfl (lv_at hl 0 rfl) ?_
        refine va_get (D := (dC, dI)) (ci := 6) (v := .ref (r 18)) (C := RX7) (T := TX7) (N := 46) hx hb hts hiX7 hown hK hP 0 rfl rfl 18 (by decide) (hts (.fieldLink RX7 61 "LinkModelsModel" "many" "[I") (by decide +kernel)) (fun _ h9 => h9) rfl dX7_isThere_17 ?_
        refine lv_iload_n hx hb dX7_isThere_20 rfl (lv_at hl 2 rfl) ?_
        refine va_iald hx hb hK hP 16 0 rfl rfl (vp_in_nI (show mi < 960 by omega) (by decide)) dX7_isThere_21 ?_
        refine lv_topi (fun x10 ex10 => ?_)
        obtain rfl : x10 = a18 mi := by rw [ex10, nI_clamp (show mi < 2 ^ 31 by omega)]
        refine lv_icmp_ne (tgt := 79) hx hb dX7_isThere_22 (by decide) (fun cp22 => ?_) (fun cp22 => ?_)
        · refine lv_iconst (v := 0) hx hb dX7_isThere_79 (by decide) ?_
          exact J80 (0 : Int32) ls  (by first | omega | assumption | trivial) (lv_sub hl [0, 1, 2, 3] rfl)
        · refine lv_aload_n hx hb dX7_isThere_25 rfl (lv_at hl 0 rfl) ?_
          refine va_get (D := (dC, dI)) (ci := 6) (v := .ref (r 18)) (C := RX7) (T := TX7) (N := 46) hx hb hts hiX7 hown hK hP 0 rfl rfl 18 (by decide) (hts (.fieldLink RX7 61 "LinkModelsModel" "many" "[I") (by decide +kernel)) (fun _ h9 => h9) rfl dX7_isThere_26 ?_
          refine lv_iload_n hx hb dX7_isThere_29 rfl (lv_at hl 2 rfl) ?_
          refine va_iald hx hb hK hP 16 0 rfl rfl (vp_in_nI (show mi < 960 by omega) (by decide)) dX7_isThere_30 ?_
          refine lv_topi (fun x11 ex11 => ?_)
          obtain rfl : x11 = a18 mi := by rw [ex11, nI_clamp (show mi < 2 ^ 31 by omega)]
          refine lv_iconst (v := 1) hx hb dX7_isThere_31 (by decide) ?_
          refine lv_icmp_lt (tgt := 50) hx hb dX7_isThere_32 (by decide) (fun cp32 => ?_) (fun cp32 => ?_)
          · refine lv_aload_n hx hb dX7_isThere_50 rfl (lv_at hl 0 rfl) ?_
            refine va_get (D := (dC, dI)) (ci := 6) (v := .ref (r 18)) (C := RX7) (T := TX7) (N := 46) hx hb hts hiX7 hown hK hP 0 rfl rfl 18 (by decide) (hts (.fieldLink RX7 61 "LinkModelsModel" "many" "[I") (by decide +kernel)) (fun _ h9 => h9) rfl dX7_isThere_51 ?_
            refine lv_iload_n hx hb dX7_isThere_54 rfl (lv_at hl 2 rfl) ?_
            refine va_iald hx hb hK hP 16 0 rfl rfl (vp_in_nI (show mi < 960 by omega) (by decide)) dX7_isThere_55 ?_
            refine lv_topi (fun x12 ex12 => ?_)
            obtain rfl : x12 = a18 mi := by rw [ex12, nI_clamp (show mi < 2 ^ 31 by omega)]
            refine lv_iconst (v := 2) hx hb dX7_isThere_56 (by decide) ?_
            refine lv_icmp_lt (tgt := 75) hx hb dX7_isThere_57 (by decide) (fun cp57 => ?_) (fun cp57 => ?_)
            · refine lv_iconst (v := 1) hx hb dX7_isThere_75 (by decide) ?_
              refine lv_goto (tgt := 80) hx hb dX7_isThere_76 (by decide) ?_
              exact J80 (1 : Int32) ls  (by first | omega | assumption | trivial) (lv_sub hl [0, 1, 2, 3] rfl)
            · refine lv_aload_n hx hb dX7_isThere_60 rfl (lv_at hl 0 rfl) ?_
              refine va_get (D := (dC, dI)) (ci := 6) (v := .ref (r 20)) (C := RX7) (T := TX7) (N := 46) hx hb hts hiX7 hown hK hP 0 rfl rfl 20 (by decide) (hts (.fieldLink RX7 67 "LinkModelsModel" "second" "[I") (by decide +kernel)) (fun _ h9 => h9) rfl dX7_isThere_61 ?_
              refine lv_iload_n hx hb dX7_isThere_64 rfl (lv_at hl 3 rfl) ?_
              refine va_iald hx hb hK hP 18 0 rfl rfl (vp_in_nI (show kx < 960 by omega) (by decide)) dX7_isThere_65 ?_
              refine lv_topi (fun x13 ex13 => ?_)
              obtain rfl : x13 = a20 kx := by rw [ex13, nI_clamp (show kx < 2 ^ 31 by omega)]
              refine lv_aload_n hx hb dX7_isThere_66 rfl (lv_at hl 0 rfl) ?_
              refine va_get (D := (dC, dI)) (ci := 6) (v := .ref (r 20)) (C := RX7) (T := TX7) (N := 46) hx hb hts hiX7 hown hK hP 0 rfl rfl 20 (by decide) (hts (.fieldLink RX7 67 "LinkModelsModel" "second" "[I") (by decide +kernel)) (fun _ h9 => h9) rfl dX7_isThere_67 ?_
              refine lv_iload_n hx hb dX7_isThere_70 rfl (lv_at hl 2 rfl) ?_
              refine va_iald hx hb hK hP 18 0 rfl rfl (vp_in_nI (show mi < 960 by omega) (by decide)) dX7_isThere_71 ?_
              refine lv_topi (fun x14 ex14 => ?_)
              obtain rfl : x14 = a20 mi := by rw [ex14, nI_clamp (show mi < 2 ^ 31 by omega)]
              refine lv_icmp_ne (tgt := 79) hx hb dX7_isThere_72 (by decide) (fun cp72 => ?_) (fun cp72 => ?_)
              · refine lv_iconst (v := 0) hx hb dX7_isThere_79 (by decide) ?_
                exact J80 (0 : Int32) ls  (by first | omega | assumption | trivial) (lv_sub hl [0, 1, 2, 3] rfl)
              · refine lv_iconst (v := 1) hx hb dX7_isThere_75 (by decide) ?_
                refine lv_goto (tgt := 80) hx hb dX7_isThere_76 (by decide) ?_
                exact J80 (1 : Int32) ls  (by first | omega | assumption | trivial) (lv_sub hl [0, 1, 2, 3] rfl)
          · refine lv_aload_n hx hb dX7_isThere_35 rfl (lv_at hl 0 rfl) ?_
            refine va_get (D := (dC, dI)) (ci := 6) (v := .ref (r 19)) (C := RX7) (T := TX7) (N := 46) hx hb hts hiX7 hown hK hP 0 rfl rfl 19 (by decide) (hts (.fieldLink RX7 64 "LinkModelsModel" "first" "[I") (by decide +kernel)) (fun _ h9 => h9) rfl dX7_isThere_36 ?_
            refine lv_iload_n hx hb dX7_isThere_39 rfl (lv_at hl 3 rfl) ?_
            refine va_iald hx hb hK hP 17 0 rfl rfl (vp_in_nI (show kx < 960 by omega) (by decide)) dX7_isThere_40 ?_
            refine lv_topi (fun x15 ex15 => ?_)
            obtain rfl : x15 = a19 kx := by rw [ex15, nI_clamp (show kx < 2 ^ 31 by omega)]
            refine lv_aload_n hx hb dX7_isThere_41 rfl (lv_at hl 0 rfl) ?_
            refine va_get (D := (dC, dI)) (ci := 6) (v := .ref (r 19)) (C := RX7) (T := TX7) (N := 46) hx hb hts hiX7 hown hK hP 0 rfl rfl 19 (by decide) (hts (.fieldLink RX7 64 "LinkModelsModel" "first" "[I") (by decide +kernel)) (fun _ h9 => h9) rfl dX7_isThere_42 ?_
            refine lv_iload_n hx hb dX7_isThere_45 rfl (lv_at hl 2 rfl) ?_
            refine va_iald hx hb hK hP 17 0 rfl rfl (vp_in_nI (show mi < 960 by omega) (by decide)) dX7_isThere_46 ?_
            refine lv_topi (fun x16 ex16 => ?_)
            obtain rfl : x16 = a19 mi := by rw [ex16, nI_clamp (show mi < 2 ^ 31 by omega)]
            refine lv_icmp_ne (tgt := 79) hx hb dX7_isThere_47 (by decide) (fun cp47 => ?_) (fun cp47 => ?_)
            · refine lv_iconst (v := 0) hx hb dX7_isThere_79 (by decide) ?_
              exact J80 (0 : Int32) ls  (by first | omega | assumption | trivial) (lv_sub hl [0, 1, 2, 3] rfl)
            · refine lv_aload_n hx hb dX7_isThere_50 rfl (lv_at hl 0 rfl) ?_
              refine va_get (D := (dC, dI)) (ci := 6) (v := .ref (r 18)) (C := RX7) (T := TX7) (N := 46) hx hb hts hiX7 hown hK hP 0 rfl rfl 18 (by decide) (hts (.fieldLink RX7 61 "LinkModelsModel" "many" "[I") (by decide +kernel)) (fun _ h9 => h9) rfl dX7_isThere_51 ?_
              refine lv_iload_n hx hb dX7_isThere_54 rfl (lv_at hl 2 rfl) ?_
              refine va_iald hx hb hK hP 16 0 rfl rfl (vp_in_nI (show mi < 960 by omega) (by decide)) dX7_isThere_55 ?_
              refine lv_topi (fun x17 ex17 => ?_)
              obtain rfl : x17 = a18 mi := by rw [ex17, nI_clamp (show mi < 2 ^ 31 by omega)]
              refine lv_iconst (v := 2) hx hb dX7_isThere_56 (by decide) ?_
              refine lv_icmp_lt (tgt := 75) hx hb dX7_isThere_57 (by decide) (fun cp57 => ?_) (fun cp57 => ?_)
              · refine lv_iconst (v := 1) hx hb dX7_isThere_75 (by decide) ?_
                refine lv_goto (tgt := 80) hx hb dX7_isThere_76 (by decide) ?_
                exact J80 (1 : Int32) ls  (by first | omega | assumption | trivial) (lv_sub hl [0, 1, 2, 3] rfl)
              · refine lv_aload_n hx hb dX7_isThere_60 rfl (lv_at hl 0 rfl) ?_
                refine va_get (D := (dC, dI)) (ci := 6) (v := .ref (r 20)) (C := RX7) (T := TX7) (N := 46) hx hb hts hiX7 hown hK hP 0 rfl rfl 20 (by decide) (hts (.fieldLink RX7 67 "LinkModelsModel" "second" "[I") (by decide +kernel)) (fun _ h9 => h9) rfl dX7_isThere_61 ?_
                refine lv_iload_n hx hb dX7_isThere_64 rfl (lv_at hl 3 rfl) ?_
                refine va_iald hx hb hK hP 18 0 rfl rfl (vp_in_nI (show kx < 960 by omega) (by decide)) dX7_isThere_65 ?_
                refine lv_topi (fun x18 ex18 => ?_)
                obtain rfl : x18 = a20 kx := by rw [ex18, nI_clamp (show kx < 2 ^ 31 by omega)]
                refine lv_aload_n hx hb dX7_isThere_66 rfl (lv_at hl 0 rfl) ?_
                refine va_get (D := (dC, dI)) (ci := 6) (v := .ref (r 20)) (C := RX7) (T := TX7) (N := 46) hx hb hts hiX7 hown hK hP 0 rfl rfl 20 (by decide) (hts (.fieldLink RX7 67 "LinkModelsModel" "second" "[I") (by decide +kernel)) (fun _ h9 => h9) rfl dX7_isThere_67 ?_
                refine lv_iload_n hx hb dX7_isThere_70 rfl (lv_at hl 2 rfl) ?_
                refine va_iald hx hb hK hP 18 0 rfl rfl (vp_in_nI (show mi < 960 by omega) (by decide)) dX7_isThere_71 ?_
                refine lv_topi (fun x19 ex19 => ?_)
                obtain rfl : x19 = a20 mi := by rw [ex19, nI_clamp (show mi < 2 ^ 31 by omega)]
                refine lv_icmp_ne (tgt := 79) hx hb dX7_isThere_72 (by decide) (fun cp72 => ?_) (fun cp72 => ?_)
                · refine lv_iconst (v := 0) hx hb dX7_isThere_79 (by decide) ?_
                  exact J80 (0 : Int32) ls  (by first | omega | assumption | trivial) (lv_sub hl [0, 1, 2, 3] rfl)
                · refine lv_iconst (v := 1) hx hb dX7_isThere_75 (by decide) ?_
                  refine lv_goto (tgt := 80) hx hb dX7_isThere_76 (by decide) ?_
                  exact J80 (1 : Int32) ls  (by first | omega | assumption | trivial) (lv_sub hl [0, 1, 2, 3] rfl)
  refine lv_bipush (v := 12) hx hb dX7_isThere_0 (by decide) ?_
  refine lv_iload_n hx hb dX7_isThere_2 rfl (lv_at hl 1 rfl) ?_
  refine lv_imul hx hb dX7_isThere_3 ?_
  refine lv_topi (fun x20 ex20 => ?_)
  obtain rfl : x20 = nI (12 * ci) := by rw [ex20]; exact pk_mul (12) (ci)
  refine lv_istore_n (lv' := [(3, .int (nI (12 * ci))), (0, .ref h0), (1, .int (nI ci)), (2, .int (nI mi))]) hx hb dX7_isThere_4 rfl hl (by decide) rfl (fun ls hl => ?_)
  exact J5 _ (12 * ci) ls (Nat.lt_succ_self _) (by first | omega | assumption | trivial) (lv_sub hl [1, 2, 3, 0] rfl)
theorem dX7_field_0 : decode cX7_field 0 = .ok (.aload_n 0, 1) := by decide +kernel
theorem dX7_field_1 : decode cX7_field 1 = .ok (.getfield 136, 3) := by decide +kernel
theorem dX7_field_4 : decode cX7_field 4 = .ok (.bipush 59, 2) := by decide +kernel
theorem dX7_field_6 : decode cX7_field 6 = .ok (.if_icmp .eq 12, 3) := by decide +kernel
theorem dX7_field_9 : decode cX7_field 9 = .ok (.aload_n 0, 1) := by decide +kernel
theorem dX7_field_10 : decode cX7_field 10 = .ok (.getfield 136, 3) := by decide +kernel
theorem dX7_field_13 : decode cX7_field 13 = .ok (.bipush 61, 2) := by decide +kernel
theorem dX7_field_15 : decode cX7_field 15 = .ok (.if_icmp .ne 20, 3) := by decide +kernel
theorem dX7_field_18 : decode cX7_field 18 = .ok (.iload_n 3, 1) := by decide +kernel
theorem dX7_field_19 : decode cX7_field 19 = .ok (.iconst 2, 1) := by decide +kernel
theorem dX7_field_20 : decode cX7_field 20 = .ok (.if_icmp .eq 15, 3) := by decide +kernel
theorem dX7_field_23 : decode cX7_field 23 = .ok (.aload_n 0, 1) := by decide +kernel
theorem dX7_field_24 : decode cX7_field 24 = .ok (.getfield 48, 3) := by decide +kernel
theorem dX7_field_27 : decode cX7_field 27 = .ok (.iload_n 2, 1) := by decide +kernel
theorem dX7_field_28 : decode cX7_field 28 = .ok (.iaload, 1) := by decide +kernel
theorem dX7_field_29 : decode cX7_field 29 = .ok (.bipush 8, 2) := by decide +kernel
theorem dX7_field_31 : decode cX7_field 31 = .ok (.iand, 1) := by decide +kernel
theorem dX7_field_32 : decode cX7_field 32 = .ok (.ifCond .eq 9, 3) := by decide +kernel
theorem dX7_field_35 : decode cX7_field 35 = .ok (.aload_n 0, 1) := by decide +kernel
theorem dX7_field_36 : decode cX7_field 36 = .ok (.iconst 1, 1) := by decide +kernel
theorem dX7_field_37 : decode cX7_field 37 = .ok (.invokevirtual 192, 3) := by decide +kernel
theorem dX7_field_40 : decode cX7_field 40 = .ok (.ireturn, 1) := by decide +kernel
theorem dX7_field_41 : decode cX7_field 41 = .ok (.aload_n 0, 1) := by decide +kernel
theorem dX7_field_42 : decode cX7_field 42 = .ok (.iload_n 1, 1) := by decide +kernel
theorem dX7_field_43 : decode cX7_field 43 = .ok (.iload_n 2, 1) := by decide +kernel
theorem dX7_field_44 : decode cX7_field 44 = .ok (.invokevirtual 229, 3) := by decide +kernel
theorem dX7_field_47 : decode cX7_field 47 = .ok (.ifCond .eq 9, 3) := by decide +kernel
theorem dX7_field_50 : decode cX7_field 50 = .ok (.aload_n 0, 1) := by decide +kernel
theorem dX7_field_51 : decode cX7_field 51 = .ok (.iconst 3, 1) := by decide +kernel
theorem dX7_field_52 : decode cX7_field 52 = .ok (.invokevirtual 192, 3) := by decide +kernel
theorem dX7_field_55 : decode cX7_field 55 = .ok (.ireturn, 1) := by decide +kernel
theorem dX7_field_56 : decode cX7_field 56 = .ok (.aload_n 0, 1) := by decide +kernel
theorem dX7_field_57 : decode cX7_field 57 = .ok (.getfield 136, 3) := by decide +kernel
theorem dX7_field_60 : decode cX7_field 60 = .ok (.bipush 61, 2) := by decide +kernel
theorem dX7_field_62 : decode cX7_field 62 = .ok (.if_icmp .ne 66, 3) := by decide +kernel
theorem dX7_field_65 : decode cX7_field 65 = .ok (.iload_n 3, 1) := by decide +kernel
theorem dX7_field_66 : decode cX7_field 66 = .ok (.ifCond .ne 15, 3) := by decide +kernel
theorem dX7_field_69 : decode cX7_field 69 = .ok (.aload_n 0, 1) := by decide +kernel
theorem dX7_field_70 : decode cX7_field 70 = .ok (.getfield 48, 3) := by decide +kernel
theorem dX7_field_73 : decode cX7_field 73 = .ok (.iload_n 2, 1) := by decide +kernel
theorem dX7_field_74 : decode cX7_field 74 = .ok (.iaload, 1) := by decide +kernel
theorem dX7_field_75 : decode cX7_field 75 = .ok (.iconst 5, 1) := by decide +kernel
theorem dX7_field_76 : decode cX7_field 76 = .ok (.iand, 1) := by decide +kernel
theorem dX7_field_77 : decode cX7_field 77 = .ok (.iconst 5, 1) := by decide +kernel
theorem dX7_field_78 : decode cX7_field 78 = .ok (.if_icmp .eq 9, 3) := by decide +kernel
theorem dX7_field_81 : decode cX7_field 81 = .ok (.aload_n 0, 1) := by decide +kernel
theorem dX7_field_82 : decode cX7_field 82 = .ok (.iconst 4, 1) := by decide +kernel
theorem dX7_field_83 : decode cX7_field 83 = .ok (.invokevirtual 192, 3) := by decide +kernel
theorem dX7_field_86 : decode cX7_field 86 = .ok (.ireturn, 1) := by decide +kernel
theorem dX7_field_87 : decode cX7_field 87 = .ok (.aload_n 0, 1) := by decide +kernel
theorem dX7_field_88 : decode cX7_field 88 = .ok (.invokevirtual 195, 3) := by decide +kernel
theorem dX7_field_91 : decode cX7_field 91 = .ok (.aload_n 0, 1) := by decide +kernel
theorem dX7_field_92 : decode cX7_field 92 = .ok (.getfield 136, 3) := by decide +kernel
theorem dX7_field_95 : decode cX7_field 95 = .ok (.bipush 57, 2) := by decide +kernel
theorem dX7_field_97 : decode cX7_field 97 = .ok (.if_icmp .eq 9, 3) := by decide +kernel
theorem dX7_field_100 : decode cX7_field 100 = .ok (.aload_n 0, 1) := by decide +kernel
theorem dX7_field_101 : decode cX7_field 101 = .ok (.iconst 1, 1) := by decide +kernel
theorem dX7_field_102 : decode cX7_field 102 = .ok (.invokevirtual 192, 3) := by decide +kernel
theorem dX7_field_105 : decode cX7_field 105 = .ok (.ireturn, 1) := by decide +kernel
theorem dX7_field_106 : decode cX7_field 106 = .ok (.aload_n 0, 1) := by decide +kernel
theorem dX7_field_107 : decode cX7_field 107 = .ok (.getfield 55, 3) := by decide +kernel
theorem dX7_field_110 : decode cX7_field 110 = .ok (.iload_n 2, 1) := by decide +kernel
theorem dX7_field_111 : decode cX7_field 111 = .ok (.iconst 1, 1) := by decide +kernel
theorem dX7_field_112 : decode cX7_field 112 = .ok (.bastore, 1) := by decide +kernel
theorem dX7_field_113 : decode cX7_field 113 = .ok (.aload_n 0, 1) := by decide +kernel
theorem dX7_field_114 : decode cX7_field 114 = .ok (.getfield 58, 3) := by decide +kernel
theorem dX7_field_117 : decode cX7_field 117 = .ok (.iload_n 2, 1) := by decide +kernel
theorem dX7_field_118 : decode cX7_field 118 = .ok (.aload_n 0, 1) := by decide +kernel
theorem dX7_field_119 : decode cX7_field 119 = .ok (.getfield 132, 3) := by decide +kernel
theorem dX7_field_122 : decode cX7_field 122 = .ok (.l2i, 1) := by decide +kernel
theorem dX7_field_123 : decode cX7_field 123 = .ok (.iastore, 1) := by decide +kernel
theorem dX7_field_124 : decode cX7_field 124 = .ok (.aload_n 0, 1) := by decide +kernel
theorem dX7_field_125 : decode cX7_field 125 = .ok (.invokevirtual 195, 3) := by decide +kernel
theorem dX7_field_128 : decode cX7_field 128 = .ok (.iconst 1, 1) := by decide +kernel
theorem dX7_field_129 : decode cX7_field 129 = .ok (.ireturn, 1) := by decide +kernel
def zwX7_field : List Cond := .code yX7_field cX7_field 4 (some .boolean) :: ([.fieldLink RX7 48 "LinkModelsModel" "marks" "[I", .fieldLink RX7 136 "LinkModelsModel" "token" "I", .fieldLink RX7 55 "LinkModelsModel" "isConstant" "[Z", .fieldLink RX7 58 "LinkModelsModel" "number" "[I", .fieldLink RX7 132 "LinkModelsModel" "value" "J", .methodLink RX7 192 yX7_fails, .instanceMethod yX7_fails, .selects RX7 yX7_fails yX7_fails, .initialized RX7, .code yX7_fails cX7_fails 2 (some .boolean), .fieldLink RX7 155 "LinkModelsModel" "fault" "I", .fieldLink RX7 129 "LinkModelsModel" "tokenAt" "I", .fieldLink RX7 158 "LinkModelsModel" "faultAt" "I", .methodLink RX7 229 yX7_isThere, .instanceMethod yX7_isThere, .selects RX7 yX7_isThere yX7_isThere, .code yX7_isThere cX7_isThere 5 (some .boolean), .fieldLink RX7 51 "LinkModelsModel" "isMethod" "[Z", .fieldLink RX7 44 "LinkModelsModel" "word" "[J", .fieldLink RX7 61 "LinkModelsModel" "many" "[I", .fieldLink RX7 67 "LinkModelsModel" "second" "[I", .fieldLink RX7 64 "LinkModelsModel" "first" "[I", .methodLink RX7 195 yX7_next, .instanceMethod yX7_next, .selects RX7 yX7_next yX7_next, .code yX7_next cX7_next 2 none, .fieldLink RX7 126 "LinkModelsModel" "at" "I", .fieldLink RX7 109 "LinkModelsModel" "taped" "I", .constantLong RX7 153 (10), .constantLong RX7 118 (48), .fieldLink RX7 13 "LinkModelsModel" "tape" "[I", .methodLink RX7 139 yX7_here, .instanceMethod yX7_here, .selects RX7 yX7_here yX7_here, .code yX7_here cX7_here 1 (some .int), .methodLink RX7 143 yX7_isBig, .static yX7_isBig, .code yX7_isBig cX7_isBig 1 (some .boolean), .constantLong RX7 114 (65), .constantLong RX7 116 (90), .methodLink RX7 105 yX7_in, .static yX7_in, .code yX7_in cX7_in 6 (some .boolean), .methodLink RX7 147 yX7_isDigit, .static yX7_isDigit, .code yX7_isDigit cX7_isDigit 1 (some .boolean), .constantLong RX7 120 (57), .methodLink RX7 150 yX7_isSmall, .static yX7_isSmall, .code yX7_isSmall cX7_isSmall 1 (some .boolean), .constantLong RX7 122 (97), .constantLong RX7 124 (122)] ++ wsX70)
theorem zgX7_field_X7_fails_192 : GoodIn zwX7_field (wsV RX7 192 RX7 yX7_fails zwX7_fails) := goodIn_app (goodIn_of _ (by decide +kernel)) (goodIn_ca (goodIn_of _ (by decide +kernel)) (zgt zg7))
theorem zgX7_field_X7_isThere_229 : GoodIn zwX7_field (wsV RX7 229 RX7 yX7_isThere zwX7_isThere) := goodIn_app (goodIn_of _ (by decide +kernel)) (goodIn_ca (goodIn_of _ (by decide +kernel)) (zgt zg7))
theorem zgX7_field_X7_next_195 : GoodIn zwX7_field (wsV RX7 195 RX7 yX7_next zwX7_next) := goodIn_app (goodIn_of _ (by decide +kernel)) (goodIn_ca (goodIn_of _ (by decide +kernel)) (zgt zg7))
set_option maxHeartbeats 4000000 in
set_option maxRecDepth 100000 in
theorem kX7_field (l : Launch) (dC : Nat → ClassId) (dI : Nat → Nat → Nat) (h0 : Nat) (r : Nat → Nat) (cI : ClassId) (cJ : ClassId) (cZ : ClassId) (v0 : Int32) (a1 : Nat → Int32) (tp : Nat) (bs : Nat) (cl : Nat → Nat) (a5 : Nat → Int32) (a6 : Nat → Int32) (a7 : Nat → Int32) (fc : Nat → Nat) (a9 : Nat → Int32) (mb : Nat → Nat) (a11 : Nat → Int32) (a12 : Nat → Int32) (a13 : Nat → Int64) (a14 : Nat → Int32) (a15 : Nat → Int32) (a16 : Nat → Int32) (a17 : Nat → Int32) (a18 : Nat → Int32) (a19 : Nat → Int32) (a20 : Nat → Int32) (az : Nat) (v22 : Int32) (v23 : Int32) (v24 : Int64) (v25 : Int32) (v26 : Int32) (bb : Nat) (ct : Nat → Nat) (us : Nat) (a30 : Nat → Int32) (a31 : Nat → Int32) (a32 : Nat → Int32) (a33 : Nat → Int64) (a34 : Nat → Int32) (a35 : Nat → Int32) (a36 : Nat → Int32) (a37 : Nat → Int32) (pil : Nat → Nat) (rwv : Nat → Nat) (rl : Nat) (v41 : Int32) (v42 : Int32) (v43 : Int32) (v44 : Int32) (v45 : Int32) (hI : rWI tp bs cl fc mb az bb ct us pil rwv rl) (ci : Nat) (mi : Nat) (ty : Int32) (hp0 : ci < 80) (hp1 : mi < 960) (hp2 : az ≤ tp) (sz : Nat) : Met l yX7_field zwX7_field ({ frames := 3, cells := 0, slots := 0, locals := 66 }) (zPm dC dI [.ref h0, .int (nI ci), .int (nI mi), .int ty] sz (rW h0 r cI cJ cZ v0 a1 (nI tp) (nI bs) (fun j => nI (cl j)) a5 a6 a7 (fun j => nI (fc j)) a9 (fun j => nI (mb j)) a11 a12 a13 a14 a15 a16 a17 a18 a19 a20 (nI az) v22 v23 v24 v25 v26 (nI bb) (fun j => nI (ct j)) (nI us) a30 a31 a32 a33 a34 a35 a36 a37 (fun j => nI (pil j)) (fun j => nI (rwv j)) (nI rl) v41 v42 v43 v44 v45) [(cI, .int), (cJ, .long), (cZ, .boolean)]) (va_Qi (fun (r : Int32) (u : Nat × Int32 × Int32 × Int64 × Int32 × Int32 × (Nat → Int32) × (Nat → Int32)) => (r = 0 ∨ r = 1) ∧ (az ≤ (u.1)) ∧ ((u.1) ≤ tp)) (fun u t => zB dC dI (va_A (rW h0 r cI cJ cZ v0 a1 (nI tp) (nI bs) (fun j => nI (cl j)) a5 a6 a7 (fun j => nI (fc j)) a9 (fun j => nI (mb j)) a11 a12 a13 a14 a15 a16 a17 a18 a19 a20 (nI az) v22 v23 v24 v25 v26 (nI bb) (fun j => nI (ct j)) (nI us) a30 a31 a32 a33 a34 a35 a36 a37 (fun j => nI (pil j)) (fun j => nI (rwv j)) (nI rl) v41 v42 v43 v44 v45) sz) (rW h0 r cI cJ cZ v0 a1 (nI tp) (nI bs) (fun j => nI (cl j)) a5 a6 a7 (fun j => nI (fc j)) a9 (fun j => nI (mb j)) a11 a12 a13 a14 a15 (u.2.2.2.2.2.2.1) (u.2.2.2.2.2.2.2) a18 a19 a20 (nI (u.1)) (u.2.1) (u.2.2.1) (u.2.2.2.1) (u.2.2.2.2.1) (u.2.2.2.2.2.1) (nI bb) (fun j => nI (ct j)) (nI us) a30 a31 a32 a33 a34 a35 a36 a37 (fun j => nI (pil j)) (fun j => nI (rwv j)) (nI rl) v41 v42 v43 v44 v45) [(cI, .int), (cJ, .long), (cZ, .boolean)] t) (va_A (rW h0 r cI cJ cZ v0 a1 (nI tp) (nI bs) (fun j => nI (cl j)) a5 a6 a7 (fun j => nI (fc j)) a9 (fun j => nI (mb j)) a11 a12 a13 a14 a15 a16 a17 a18 a19 a20 (nI az) v22 v23 v24 v25 v26 (nI bb) (fun j => nI (ct j)) (nI us) a30 a31 a32 a33 a34 a35 a36 a37 (fun j => nI (pil j)) (fun j => nI (rwv j)) (nI rl) v41 v42 v43 v44 v45) sz)) 0 0 (va_A (rW h0 r cI cJ cZ v0 a1 (nI tp) (nI bs) (fun j => nI (cl j)) a5 a6 a7 (fun j => nI (fc j)) a9 (fun j => nI (mb j)) a11 a12 a13 a14 a15 a16 a17 a18 a19 a20 (nI az) v22 v23 v24 v25 v26 (nI bb) (fun j => nI (ct j)) (nI us) a30 a31 a32 a33 a34 a35 a36 a37 (fun j => nI (pil j)) (fun j => nI (rwv j)) (nI rl) v41 v42 v43 v44 v45) sz) := by
  refine Met.ofW (cc := cX7_field) (maxL := 4) (ret := (some .boolean)) (by decide) rfl ?_
  intro p e s m args below meth c s₁ B hml hv
  obtain ⟨rfl, hsz, hP, hK, hD0, hL0⟩ := hv
  have hx := B.exec
  have hb := B.bytes
  have hr := B.returns
  have hts := atoms_spec (ws := zwX7_field) B.pre
  have hown : s.vm.findClass RX7 = some m.cls := findClass_of_methodNamed B.named
  have hiX7 : ∀ w ∈ wsX70, w ∈ zwX7_field := (fun _ h => List.mem_cons_of_mem _ (List.mem_append_right _ h))
  obtain ⟨htp, hbs, hus, hcl, hfc, hmb, hct, hpil, hrwv⟩ := hI
  subst hsz
  have hD := hD0.self (sz := s.heap.size)
  generalize hAe : va_A (rW h0 r cI cJ cZ v0 a1 (nI tp) (nI bs) (fun j => nI (cl j)) a5 a6 a7 (fun j => nI (fc j)) a9 (fun j => nI (mb j)) a11 a12 a13 a14 a15 a16 a17 a18 a19 a20 (nI az) v22 v23 v24 v25 v26 (nI bb) (fun j => nI (ct j)) (nI us) a30 a31 a32 a33 a34 a35 a36 a37 (fun j => nI (pil j)) (fun j => nI (rwv j)) (nI rl) v41 v42 v43 v44 v45) s.heap.size = A at hD hL0 ⊢
  have hA : ∀ q : Nat, s.heap.size ≤ q → A q := fun q h => by rw [← hAe]; exact Or.inr h
  have hS : va_S A s.heap s.heap [] := va_S.rf
  have hL := hL0
  have hl := lv_entry ([.ref h0, .int (nI ci), .int (nI mi), .int ty]) (n := 4) (Nat.le_of_ble_eq_true rfl)
  rw [lg_entry_eq]
  generalize (lg_sl ([.ref h0, .int (nI ci), .int (nI mi), .int ty]) ++ List.replicate (4 - (lg_sl ([.ref h0, .int (nI ci), .int (nI mi), .int ty])).length) Slot.unset).toArray = ls at hl ⊢
  have hl : lv_has ls 4 [(0, .ref h0), (1, .int (nI ci)), (2, .int (nI mi)), (3, .int ty)] := hl
  have J18 : ∀  (H : Heap) (locs : List Loc) (ls : Array Slot), va_P (dC, dI) vwCl (rW h0 r cI cJ cZ v0 a1 (nI tp) (nI bs) (fun j => nI (cl j)) a5 a6 a7 (fun j => nI (fc j)) a9 (fun j => nI (mb j)) a11 a12 a13 a14 a15 a16 a17 a18 a19 a20 (nI az) v22 v23 v24 v25 v26 (nI bb) (fun j => nI (ct j)) (nI us) a30 a31 a32 a33 a34 a35 a36 a37 (fun j => nI (pil j)) (fun j => nI (rwv j)) (nI rl) v41 v42 v43 v44 v45) H → va_D A (rW h0 r cI cJ cZ v0 a1 (nI tp) (nI bs) (fun j => nI (cl j)) a5 a6 a7 (fun j => nI (fc j)) a9 (fun j => nI (mb j)) a11 a12 a13 a14 a15 a16 a17 a18 a19 a20 (nI az) v22 v23 v24 v25 v26 (nI bb) (fun j => nI (ct j)) (nI us) a30 a31 a32 a33 a34 a35 a36 a37 (fun j => nI (pil j)) (fun j => nI (rwv j)) (nI rl) v41 v42 v43 v44 v45) → va_S A s.heap H locs → lv_has ls 4 [(0, .ref h0), (1, .int (nI ci)), (2, .int (nI mi)), (3, .int ty)] → W p l e (headSpec zwX7_field { frames := 3, cells := 0, slots := 0, locals := 66 }).room s m (([.ref h0, .int (nI ci), .int (nI mi), .int ty] : List Value).toArray) below meth c H locs 0 0 (MQ below (va_Qi (fun (r : Int32) (u : Nat × Int32 × Int32 × Int64 × Int32 × Int32 × (Nat → Int32) × (Nat → Int32)) => (r = 0 ∨ r = 1) ∧ (az ≤ (u.1)) ∧ ((u.1) ≤ tp)) (fun u t => zB dC dI (A) (rW h0 r cI cJ cZ v0 a1 (nI tp) (nI bs) (fun j => nI (cl j)) a5 a6 a7 (fun j => nI (fc j)) a9 (fun j => nI (mb j)) a11 a12 a13 a14 a15 (u.2.2.2.2.2.2.1) (u.2.2.2.2.2.2.2) a18 a19 a20 (nI (u.1)) (u.2.1) (u.2.2.1) (u.2.2.2.1) (u.2.2.2.2.1) (u.2.2.2.2.2.1) (nI bb) (fun j => nI (ct j)) (nI us) a30 a31 a32 a33 a34 a35 a36 a37 (fun j => nI (pil j)) (fun j => nI (rwv j)) (nI rl) v41 v42 v43 v44 v45) [(cI, .int), (cJ, .long), (cZ, .boolean)] t) (A)) (([.ref h0, .int (nI ci), .int (nI mi), .int ty] : List Value).toArray) s 0 0 A) (F0 m 18 ls []) := by
    intro  H locs ls  hP hD hS hl
    refine lv_iload_n hx hb dX7_field_18 rfl (lv_at hl 3 rfl) ?_
    refine lv_iconst (v := 2) hx hb dX7_field_19 (by decide) ?_
    refine lv_icmp_eq (tgt := 35) hx hb dX7_field_20 (by decide) (fun cp20 => ?_) (fun cp20 => ?_)
    · refine lv_aload_n hx hb dX7_field_35 rfl (lv_at hl 0 rfl) ?_
      refine lv_iconst (v := 1) hx hb dX7_field_36 (by decide) ?_
      have hFc := z_freeW hD hS hA
      refine va_calli (va_runV (As := [.int 1]) (rest := []) ⟨hx, hb, hml, hown, hts⟩ (kX7_fails l dC dI h0 r cI cJ cZ v0 a1 tp bs cl a5 a6 a7 fc a9 mb a11 a12 a13 a14 a15 a16 a17 a18 a19 a20 az v22 v23 v24 v25 v26 bb ct us a30 a31 a32 a33 a34 a35 a36 a37 pil rwv rl v41 v42 v43 v44 v45 ⟨by omega, by omega, by omega, hcl, hfc, hmb, hct, hpil, hrwv⟩ (1 : Int32) H.size) (cwV 1 hts zgX7_field_X7_fails_192 rfl rfl rfl (by decide +kernel) ⟨(show 0 + 1 ≤ 3 by omega), (show 8 + (2 + 11) + 0 ≤ 66 by omega)⟩) (zVm (ci := 6) (q0 := 0) (q := (RX7, TX7, 46)) hK hP hD hL hS.2.1 hFc rfl rfl rfl) rfl rfl hl.1 rfl (lv_room (Nat.le_of_ble_eq_true rfl)) dX7_field_37 ⟨(show 0 + 0 ≤ 0 by omega), (show 0 + 0 ≤ 0 by omega)⟩) hS (fun q _ h => hFc q h) hFc (fun r1 u4 t H1 locs ht hvm hw hB hz1 hk1 hS => ?_)
      obtain ⟨o2, o3⟩ := u4
      obtain ⟨hP, hK9, hD⟩ := hB
      rw [ht] at hP
      have hD := hD.weaken (fun k q _ h => hFc q.1 h)
      generalize H1 = H at hP hS
      have hP : va_P (dC, dI) vwCl (rW h0 r cI cJ cZ v0 a1 (nI tp) (nI bs) (fun j => nI (cl j)) a5 a6 a7 (fun j => nI (fc j)) a9 (fun j => nI (mb j)) a11 a12 a13 a14 a15 a16 a17 a18 a19 a20 (nI az) v22 v23 v24 o2 o3 (nI bb) (fun j => nI (ct j)) (nI us) a30 a31 a32 a33 a34 a35 a36 a37 (fun j => nI (pil j)) (fun j => nI (rwv j)) (nI rl) v41 v42 v43 v44 v45) H := hP
      have hD : va_D A (rW h0 r cI cJ cZ v0 a1 (nI tp) (nI bs) (fun j => nI (cl j)) a5 a6 a7 (fun j => nI (fc j)) a9 (fun j => nI (mb j)) a11 a12 a13 a14 a15 a16 a17 a18 a19 a20 (nI az) v22 v23 v24 o2 o3 (nI bb) (fun j => nI (ct j)) (nI us) a30 a31 a32 a33 a34 a35 a36 a37 (fun j => nI (pil j)) (fun j => nI (rwv j)) (nI rl) v41 v42 v43 v44 v45) := hD
      have hw : (r1 = 0 ∨ r1 = 1) ∧ (r1 = 0) := hw
      obtain ⟨w0r1, w1r1⟩ := hw
      subst w1r1
      have hP9 : va_P (dC, dI) vwCl (rW h0 r cI cJ cZ v0 a1 (nI tp) (nI bs) (fun j => nI (cl j)) a5 a6 a7 (fun j => nI (fc j)) a9 (fun j => nI (mb j)) a11 a12 a13 a14 a15 a16 a17 a18 a19 a20 (nI az) v22 v23 v24 o2 o3 (nI bb) (fun j => nI (ct j)) (nI us) a30 a31 a32 a33 a34 a35 a36 a37 (fun j => nI (pil j)) (fun j => nI (rwv j)) (nI rl) v41 v42 v43 v44 v45) H := hP
      have hD9 : va_D A (rW h0 r cI cJ cZ v0 a1 (nI tp) (nI bs) (fun j => nI (cl j)) a5 a6 a7 (fun j => nI (fc j)) a9 (fun j => nI (mb j)) a11 a12 a13 a14 a15 a16 a17 a18 a19 a20 (nI az) v22 v23 v24 o2 o3 (nI bb) (fun j => nI (ct j)) (nI us) a30 a31 a32 a33 a34 a35 a36 a37 (fun j => nI (pil j)) (fun j => nI (rwv j)) (nI rl) v41 v42 v43 v44 v45) := hD
      exact W.zret (v := (0 : Int32)) hx hb hr rfl (fun t ht hW => ⟨⟨(0 : Int32), (az, v22, v23, v24, o2, o3, a16, a17), rfl, ⟨(Or.inl rfl), (by first | omega | assumption | trivial), (by first | omega | assumption | trivial)⟩, by rw [ht]; exact hP9, va_K.moved hW.alike hK, hD9⟩, hS.F ht⟩) hS.2.2 dX7_field_40
    · refine lv_aload_n hx hb dX7_field_23 rfl (lv_at hl 0 rfl) ?_
      refine va_get (D := (dC, dI)) (ci := 6) (v := .ref (r 14)) (C := RX7) (T := TX7) (N := 46) hx hb hts hiX7 hown hK hP 0 rfl rfl 14 (by decide) (hts (.fieldLink RX7 48 "LinkModelsModel" "marks" "[I") (by decide +kernel)) (fun _ h9 => h9) rfl dX7_field_24 ?_
      refine lv_iload_n hx hb dX7_field_27 rfl (lv_at hl 2 rfl) ?_
      refine va_iald hx hb hK hP 12 0 rfl rfl (vp_in_nI (show mi < 960 by omega) (by decide)) dX7_field_28 ?_
      refine lv_topi (fun x5 ex5 => ?_)
      obtain rfl : x5 = a14 mi := by rw [ex5, nI_clamp (show mi < 2 ^ 31 by omega)]
      refine lv_bipush (v := 8) hx hb dX7_field_29 (by decide) ?_
      refine lv_iand hx hb dX7_field_31 ?_
      refine lv_topi (fun x6 ex6 => ?_)
      refine lv_if_eq (tgt := 41) hx hb dX7_field_32 (by decide) (fun cp32 => ?_) (fun cp32 => ?_)
      · refine lv_aload_n hx hb dX7_field_41 rfl (lv_at hl 0 rfl) ?_
        refine lv_iload_n hx hb dX7_field_42 rfl (lv_at hl 1 rfl) ?_
        refine lv_iload_n hx hb dX7_field_43 rfl (lv_at hl 2 rfl) ?_
        have hFc := z_freeW hD hS hA
        refine vp_callSi (W.runV (As := [.int (nI ci), .int (nI mi)]) (rest := []) ⟨hx, hb, hml, hown, hts⟩ (kX7_isThere l dC dI h0 r cI cJ cZ v0 a1 tp bs cl a5 a6 a7 fc a9 mb a11 a12 a13 a14 a15 a16 a17 a18 a19 a20 az v22 v23 v24 v25 v26 bb ct us a30 a31 a32 a33 a34 a35 a36 a37 pil rwv rl v41 v42 v43 v44 v45 ⟨by omega, by omega, by omega, hcl, hfc, hmb, hct, hpil, hrwv⟩ ci mi (by first | omega | assumption | trivial) (by first | omega | assumption | trivial) H.size) (cwV 2 hts zgX7_field_X7_isThere_229 rfl rfl rfl (by decide +kernel) ⟨(show 0 + 1 ≤ 3 by omega), (show 8 + (5 + 11) + 0 ≤ 66 by omega)⟩) (zVm (ci := 6) (q0 := 0) (q := (RX7, TX7, 46)) hK hP hD hL hS.2.1 hFc rfl rfl rfl) rfl rfl hl.1 rfl (lv_room (Nat.le_of_ble_eq_true rfl)) dX7_field_44 ⟨(show 0 + 0 ≤ 0 by omega), (show 0 + 0 ≤ 0 by omega)⟩) (fun r7 hw => ?_)
        have hw : (r7 = 0 ∨ r7 = 1) := hw
        have w0r7 := hw
        refine lv_if_eq (tgt := 56) hx hb dX7_field_47 (by decide) (fun cp47 => ?_) (fun cp47 => ?_)
        · refine lv_aload_n hx hb dX7_field_56 rfl (lv_at hl 0 rfl) ?_
          refine va_get (D := (dC, dI)) (ci := 6) (v := .int v22) (C := RX7) (T := TX7) (N := 46) hx hb hts hiX7 hown hK hP 0 rfl rfl 22 (by decide) (hts (.fieldLink RX7 136 "LinkModelsModel" "token" "I") (by decide +kernel)) (fun _ h9 => h9) rfl dX7_field_57 ?_
          refine lv_bipush (v := 61) hx hb dX7_field_60 (by decide) ?_
          refine lv_icmp_ne (tgt := 128) hx hb dX7_field_62 (by decide) (fun cp62 => ?_) (fun cp62 => ?_)
          · refine lv_iconst (v := 1) hx hb dX7_field_128 (by decide) ?_
            have hP9 : va_P (dC, dI) vwCl (rW h0 r cI cJ cZ v0 a1 (nI tp) (nI bs) (fun j => nI (cl j)) a5 a6 a7 (fun j => nI (fc j)) a9 (fun j => nI (mb j)) a11 a12 a13 a14 a15 a16 a17 a18 a19 a20 (nI az) v22 v23 v24 v25 v26 (nI bb) (fun j => nI (ct j)) (nI us) a30 a31 a32 a33 a34 a35 a36 a37 (fun j => nI (pil j)) (fun j => nI (rwv j)) (nI rl) v41 v42 v43 v44 v45) H := hP
            have hD9 : va_D A (rW h0 r cI cJ cZ v0 a1 (nI tp) (nI bs) (fun j => nI (cl j)) a5 a6 a7 (fun j => nI (fc j)) a9 (fun j => nI (mb j)) a11 a12 a13 a14 a15 a16 a17 a18 a19 a20 (nI az) v22 v23 v24 v25 v26 (nI bb) (fun j => nI (ct j)) (nI us) a30 a31 a32 a33 a34 a35 a36 a37 (fun j => nI (pil j)) (fun j => nI (rwv j)) (nI rl) v41 v42 v43 v44 v45) := hD
            exact W.zret (v := (1 : Int32)) hx hb hr rfl (fun t ht hW => ⟨⟨(1 : Int32), (az, v22, v23, v24, v25, v26, a16, a17), rfl, ⟨(Or.inr rfl), (by first | omega | assumption | trivial), (by first | omega | assumption | trivial)⟩, by rw [ht]; exact hP9, va_K.moved hW.alike hK, hD9⟩, hS.F ht⟩) hS.2.2 dX7_field_129
          · refine lv_iload_n hx hb dX7_field_65 rfl (lv_at hl 3 rfl) ?_
            refine lv_if_ne (tgt := 81) hx hb dX7_field_66 (by decide) (fun cp66 => ?_) (fun cp66 => ?_)
            · refine lv_aload_n hx hb dX7_field_81 rfl (lv_at hl 0 rfl) ?_
              refine lv_iconst (v := 4) hx hb dX7_field_82 (by decide) ?_
              have hFc := z_freeW hD hS hA
              refine va_calli (va_runV (As := [.int 4]) (rest := []) ⟨hx, hb, hml, hown, hts⟩ (kX7_fails l dC dI h0 r cI cJ cZ v0 a1 tp bs cl a5 a6 a7 fc a9 mb a11 a12 a13 a14 a15 a16 a17 a18 a19 a20 az v22 v23 v24 v25 v26 bb ct us a30 a31 a32 a33 a34 a35 a36 a37 pil rwv rl v41 v42 v43 v44 v45 ⟨by omega, by omega, by omega, hcl, hfc, hmb, hct, hpil, hrwv⟩ (4 : Int32) H.size) (cwV 1 hts zgX7_field_X7_fails_192 rfl rfl rfl (by decide +kernel) ⟨(show 0 + 1 ≤ 3 by omega), (show 8 + (2 + 11) + 0 ≤ 66 by omega)⟩) (zVm (ci := 6) (q0 := 0) (q := (RX7, TX7, 46)) hK hP hD hL hS.2.1 hFc rfl rfl rfl) rfl rfl hl.1 rfl (lv_room (Nat.le_of_ble_eq_true rfl)) dX7_field_83 ⟨(show 0 + 0 ≤ 0 by omega), (show 0 + 0 ≤ 0 by omega)⟩) hS (fun q _ h => hFc q h) hFc (fun r8 u11 t H1 locs ht hvm hw hB hz1 hk1 hS => ?_)
              obtain ⟨o9, o10⟩ := u11
              obtain ⟨hP, hK9, hD⟩ := hB
              rw [ht] at hP
              have hD := hD.weaken (fun k q _ h => hFc q.1 h)
              generalize H1 = H at hP hS
              have hP : va_P (dC, dI) vwCl (rW h0 r cI cJ cZ v0 a1 (nI tp) (nI bs) (fun j => nI (cl j)) a5 a6 a7 (fun j => nI (fc j)) a9 (fun j => nI (mb j)) a11 a12 a13 a14 a15 a16 a17 a18 a19 a20 (nI az) v22 v23 v24 o9 o10 (nI bb) (fun j => nI (ct j)) (nI us) a30 a31 a32 a33 a34 a35 a36 a37 (fun j => nI (pil j)) (fun j => nI (rwv j)) (nI rl) v41 v42 v43 v44 v45) H := hP
              have hD : va_D A (rW h0 r cI cJ cZ v0 a1 (nI tp) (nI bs) (fun j => nI (cl j)) a5 a6 a7 (fun j => nI (fc j)) a9 (fun j => nI (mb j)) a11 a12 a13 a14 a15 a16 a17 a18 a19 a20 (nI az) v22 v23 v24 o9 o10 (nI bb) (fun j => nI (ct j)) (nI us) a30 a31 a32 a33 a34 a35 a36 a37 (fun j => nI (pil j)) (fun j => nI (rwv j)) (nI rl) v41 v42 v43 v44 v45) := hD
              have hw : (r8 = 0 ∨ r8 = 1) ∧ (r8 = 0) := hw
              obtain ⟨w0r8, w1r8⟩ := hw
              subst w1r8
              have hP9 : va_P (dC, dI) vwCl (rW h0 r cI cJ cZ v0 a1 (nI tp) (nI bs) (fun j => nI (cl j)) a5 a6 a7 (fun j => nI (fc j)) a9 (fun j => nI (mb j)) a11 a12 a13 a14 a15 a16 a17 a18 a19 a20 (nI az) v22 v23 v24 o9 o10 (nI bb) (fun j => nI (ct j)) (nI us) a30 a31 a32 a33 a34 a35 a36 a37 (fun j => nI (pil j)) (fun j => nI (rwv j)) (nI rl) v41 v42 v43 v44 v45) H := hP
              have hD9 : va_D A (rW h0 r cI cJ cZ v0 a1 (nI tp) (nI bs) (fun j => nI (cl j)) a5 a6 a7 (fun j => nI (fc j)) a9 (fun j => nI (mb j)) a11 a12 a13 a14 a15 a16 a17 a18 a19 a20 (nI az) v22 v23 v24 o9 o10 (nI bb) (fun j => nI (ct j)) (nI us) a30 a31 a32 a33 a34 a35 a36 a37 (fun j => nI (pil j)) (fun j => nI (rwv j)) (nI rl) v41 v42 v43 v44 v45) := hD
              exact W.zret (v := (0 : Int32)) hx hb hr rfl (fun t ht hW => ⟨⟨(0 : Int32), (az, v22, v23, v24, o9, o10, a16, a17), rfl, ⟨(Or.inl rfl), (by first | omega | assumption | trivial), (by first | omega | assumption | trivial)⟩, by rw [ht]; exact hP9, va_K.moved hW.alike hK, hD9⟩, hS.F ht⟩) hS.2.2 dX7_field_86
            · refine lv_aload_n hx hb dX7_field_69 rfl (lv_at hl 0 rfl) ?_
              refine va_get (D := (dC, dI)) (ci := 6) (v := .ref (r 14)) (C := RX7) (T := TX7) (N := 46) hx hb hts hiX7 hown hK hP 0 rfl rfl 14 (by decide) (hts (.fieldLink RX7 48 "LinkModelsModel" "marks" "[I") (by decide +kernel)) (fun _ h9 => h9) rfl dX7_field_70 ?_
              refine lv_iload_n hx hb dX7_field_73 rfl (lv_at hl 2 rfl) ?_
              refine va_iald hx hb hK hP 12 0 rfl rfl (vp_in_nI (show mi < 960 by omega) (by decide)) dX7_field_74 ?_
              refine lv_topi (fun x12 ex12 => ?_)
              obtain rfl : x12 = a14 mi := by rw [ex12, nI_clamp (show mi < 2 ^ 31 by omega)]
              refine lv_iconst (v := 5) hx hb dX7_field_75 (by decide) ?_
              refine lv_iand hx hb dX7_field_76 ?_
              refine lv_topi (fun x13 ex13 => ?_)
              refine lv_iconst (v := 5) hx hb dX7_field_77 (by decide) ?_
              refine lv_icmp_eq (tgt := 87) hx hb dX7_field_78 (by decide) (fun cp78 => ?_) (fun cp78 => ?_)
              · refine lv_aload_n hx hb dX7_field_87 rfl (lv_at hl 0 rfl) ?_
                have hFc := z_freeW hD hS hA
                refine va_callv (va_runV (As := []) (rest := []) ⟨hx, hb, hml, hown, hts⟩ (kX7_next l dC dI h0 r cI cJ cZ v0 a1 tp bs cl a5 a6 a7 fc a9 mb a11 a12 a13 a14 a15 a16 a17 a18 a19 a20 az v22 v23 v24 v25 v26 bb ct us a30 a31 a32 a33 a34 a35 a36 a37 pil rwv rl v41 v42 v43 v44 v45 ⟨by omega, by omega, by omega, hcl, hfc, hmb, hct, hpil, hrwv⟩ (by first | omega | assumption | trivial) H.size) (cwV 0 hts zgX7_field_X7_next_195 rfl rfl rfl (by decide +kernel) ⟨(show 2 + 1 ≤ 3 by omega), (show 8 + (2 + 11) + 45 ≤ 66 by omega)⟩) (zVm (ci := 6) (q0 := 0) (q := (RX7, TX7, 46)) hK hP hD hL hS.2.1 hFc rfl rfl rfl) rfl rfl hl.1 rfl (lv_room (Nat.le_of_ble_eq_true rfl)) dX7_field_88 ⟨(show 0 + 0 ≤ 0 by omega), (show 0 + 0 ≤ 0 by omega)⟩) hS (fun q _ h => hFc q h) hFc (fun u19 t H1 locs ht hvm hw hB hz1 hk1 hS => ?_)
                obtain ⟨o15, o16, o17, o18⟩ := u19
                obtain ⟨hP, hK9, hD⟩ := hB
                rw [ht] at hP
                have hD := hD.weaken (fun k q _ h => hFc q.1 h)
                generalize H1 = H at hP hS
                have hP : va_P (dC, dI) vwCl (rW h0 r cI cJ cZ v0 a1 (nI tp) (nI bs) (fun j => nI (cl j)) a5 a6 a7 (fun j => nI (fc j)) a9 (fun j => nI (mb j)) a11 a12 a13 a14 a15 a16 a17 a18 a19 a20 (nI o15) o16 o17 o18 v25 v26 (nI bb) (fun j => nI (ct j)) (nI us) a30 a31 a32 a33 a34 a35 a36 a37 (fun j => nI (pil j)) (fun j => nI (rwv j)) (nI rl) v41 v42 v43 v44 v45) H := hP
                have hD : va_D A (rW h0 r cI cJ cZ v0 a1 (nI tp) (nI bs) (fun j => nI (cl j)) a5 a6 a7 (fun j => nI (fc j)) a9 (fun j => nI (mb j)) a11 a12 a13 a14 a15 a16 a17 a18 a19 a20 (nI o15) o16 o17 o18 v25 v26 (nI bb) (fun j => nI (ct j)) (nI us) a30 a31 a32 a33 a34 a35 a36 a37 (fun j => nI (pil j)) (fun j => nI (rwv j)) (nI rl) v41 v42 v43 v44 v45) := hD
                have hw : (az ≤ o15) ∧ (o15 ≤ tp) ∧ (¬ o16 = 0 → az < o15) := hw
                obtain ⟨w0r14, w1r14, w2r14⟩ := hw
                refine lv_aload_n hx hb dX7_field_91 rfl (lv_at hl 0 rfl) ?_
                refine va_get (D := (dC, dI)) (ci := 6) (v := .int o16) (C := RX7) (T := TX7) (N := 46) hx hb hts hiX7 hown hK hP 0 rfl rfl 22 (by decide) (hts (.fieldLink RX7 136 "LinkModelsModel" "token" "I") (by decide +kernel)) (fun _ h9 => h9) rfl dX7_field_92 ?_
                refine lv_bipush (v := 57) hx hb dX7_field_95 (by decide) ?_
                refine lv_icmp_eq (tgt := 106) hx hb dX7_field_97 (by decide) (fun cp97 => ?_) (fun cp97 => ?_)
                · have zcp97 := w2r14 (by rw [cp97]; decide)
                  refine lv_aload_n hx hb dX7_field_106 rfl (lv_at hl 0 rfl) ?_
                  refine va_get (D := (dC, dI)) (ci := 6) (v := .ref (r 16)) (C := RX7) (T := TX7) (N := 46) hx hb hts hiX7 hown hK hP 0 rfl rfl 16 (by decide) (hts (.fieldLink RX7 55 "LinkModelsModel" "isConstant" "[Z") (by decide +kernel)) (fun _ h9 => h9) rfl dX7_field_107 ?_
                  refine lv_iload_n hx hb dX7_field_110 rfl (lv_at hl 2 rfl) ?_
                  refine lv_iconst (v := 1) hx hb dX7_field_111 (by decide) ?_
                  refine va_zast hx hb hK hP hD hS 14 2 rfl rfl (vp_in_nI (show mi < 960 by omega) (by decide)) dX7_field_112 (fun H locs hP hD hS => ?_)
                  obtain ⟨f20, hP, hD⟩ : ∃ g : Nat → Int32, va_P (dC, dI) vwCl (rW h0 r cI cJ cZ v0 a1 (nI tp) (nI bs) (fun j => nI (cl j)) a5 a6 a7 (fun j => nI (fc j)) a9 (fun j => nI (mb j)) a11 a12 a13 a14 a15 g a17 a18 a19 a20 (nI o15) o16 o17 o18 v25 v26 (nI bb) (fun j => nI (ct j)) (nI us) a30 a31 a32 a33 a34 a35 a36 a37 (fun j => nI (pil j)) (fun j => nI (rwv j)) (nI rl) v41 v42 v43 v44 v45) H ∧ va_D A (rW h0 r cI cJ cZ v0 a1 (nI tp) (nI bs) (fun j => nI (cl j)) a5 a6 a7 (fun j => nI (fc j)) a9 (fun j => nI (mb j)) a11 a12 a13 a14 a15 g a17 a18 a19 a20 (nI o15) o16 o17 o18 v25 v26 (nI bb) (fun j => nI (ct j)) (nI us) a30 a31 a32 a33 a34 a35 a36 a37 (fun j => nI (pil j)) (fun j => nI (rwv j)) (nI rl) v41 v42 v43 v44 v45) := ⟨_, hP, hD⟩
                  refine lv_aload_n hx hb dX7_field_113 rfl (lv_at hl 0 rfl) ?_
                  refine va_get (D := (dC, dI)) (ci := 6) (v := .ref (r 17)) (C := RX7) (T := TX7) (N := 46) hx hb hts hiX7 hown hK hP 0 rfl rfl 17 (by decide) (hts (.fieldLink RX7 58 "LinkModelsModel" "number" "[I") (by decide +kernel)) (fun _ h9 => h9) rfl dX7_field_114 ?_
                  refine lv_iload_n hx hb dX7_field_117 rfl (lv_at hl 2 rfl) ?_
                  refine lv_aload_n hx hb dX7_field_118 rfl (lv_at hl 0 rfl) ?_
                  refine va_get (D := (dC, dI)) (ci := 6) (v := .long o18) (C := RX7) (T := TX7) (N := 46) hx hb hts hiX7 hown hK hP 0 rfl rfl 24 (by decide) (hts (.fieldLink RX7 132 "LinkModelsModel" "value" "J") (by decide +kernel)) (fun _ h9 => h9) rfl dX7_field_119 ?_
                  refine lv_l2i hx hb dX7_field_122 rfl ?_
                  refine lv_topi (fun x21 ex21 => ?_)
                  refine va_iast hx hb hK hP hD hS 15 0 rfl rfl (vp_in_nI (show mi < 960 by omega) (by decide)) dX7_field_123 (fun H locs hP hD hS => ?_)
                  obtain ⟨f22, hP, hD⟩ : ∃ g : Nat → Int32, va_P (dC, dI) vwCl (rW h0 r cI cJ cZ v0 a1 (nI tp) (nI bs) (fun j => nI (cl j)) a5 a6 a7 (fun j => nI (fc j)) a9 (fun j => nI (mb j)) a11 a12 a13 a14 a15 f20 g a18 a19 a20 (nI o15) o16 o17 o18 v25 v26 (nI bb) (fun j => nI (ct j)) (nI us) a30 a31 a32 a33 a34 a35 a36 a37 (fun j => nI (pil j)) (fun j => nI (rwv j)) (nI rl) v41 v42 v43 v44 v45) H ∧ va_D A (rW h0 r cI cJ cZ v0 a1 (nI tp) (nI bs) (fun j => nI (cl j)) a5 a6 a7 (fun j => nI (fc j)) a9 (fun j => nI (mb j)) a11 a12 a13 a14 a15 f20 g a18 a19 a20 (nI o15) o16 o17 o18 v25 v26 (nI bb) (fun j => nI (ct j)) (nI us) a30 a31 a32 a33 a34 a35 a36 a37 (fun j => nI (pil j)) (fun j => nI (rwv j)) (nI rl) v41 v42 v43 v44 v45) := ⟨_, hP, hD⟩
                  refine lv_aload_n hx hb dX7_field_124 rfl (lv_at hl 0 rfl) ?_
                  have hFc := z_freeW hD hS hA
                  refine va_callv (va_runV (As := []) (rest := []) ⟨hx, hb, hml, hown, hts⟩ (kX7_next l dC dI h0 r cI cJ cZ v0 a1 tp bs cl a5 a6 a7 fc a9 mb a11 a12 a13 a14 a15 f20 f22 a18 a19 a20 o15 o16 o17 o18 v25 v26 bb ct us a30 a31 a32 a33 a34 a35 a36 a37 pil rwv rl v41 v42 v43 v44 v45 ⟨by omega, by omega, by omega, hcl, hfc, hmb, hct, hpil, hrwv⟩ (by first | omega | assumption | trivial) H.size) (cwV 0 hts zgX7_field_X7_next_195 rfl rfl rfl (by decide +kernel) ⟨(show 2 + 1 ≤ 3 by omega), (show 8 + (2 + 11) + 45 ≤ 66 by omega)⟩) (zVm (ci := 6) (q0 := 0) (q := (RX7, TX7, 46)) hK hP hD hL hS.2.1 hFc rfl rfl rfl) rfl rfl hl.1 rfl (lv_room (Nat.le_of_ble_eq_true rfl)) dX7_field_125 ⟨(show 0 + 0 ≤ 0 by omega), (show 0 + 0 ≤ 0 by omega)⟩) hS (fun q _ h => hFc q h) hFc (fun u28 t H1 locs ht hvm hw hB hz1 hk1 hS => ?_)
                  obtain ⟨o24, o25, o26, o27⟩ := u28
                  obtain ⟨hP, hK9, hD⟩ := hB
                  rw [ht] at hP
                  have hD := hD.weaken (fun k q _ h => hFc q.1 h)
                  generalize H1 = H at hP hS
                  have hP : va_P (dC, dI) vwCl (rW h0 r cI cJ cZ v0 a1 (nI tp) (nI bs) (fun j => nI (cl j)) a5 a6 a7 (fun j => nI (fc j)) a9 (fun j => nI (mb j)) a11 a12 a13 a14 a15 f20 f22 a18 a19 a20 (nI o24) o25 o26 o27 v25 v26 (nI bb) (fun j => nI (ct j)) (nI us) a30 a31 a32 a33 a34 a35 a36 a37 (fun j => nI (pil j)) (fun j => nI (rwv j)) (nI rl) v41 v42 v43 v44 v45) H := hP
                  have hD : va_D A (rW h0 r cI cJ cZ v0 a1 (nI tp) (nI bs) (fun j => nI (cl j)) a5 a6 a7 (fun j => nI (fc j)) a9 (fun j => nI (mb j)) a11 a12 a13 a14 a15 f20 f22 a18 a19 a20 (nI o24) o25 o26 o27 v25 v26 (nI bb) (fun j => nI (ct j)) (nI us) a30 a31 a32 a33 a34 a35 a36 a37 (fun j => nI (pil j)) (fun j => nI (rwv j)) (nI rl) v41 v42 v43 v44 v45) := hD
                  have hw : (o15 ≤ o24) ∧ (o24 ≤ tp) ∧ (¬ o25 = 0 → o15 < o24) := hw
                  obtain ⟨w0r23, w1r23, w2r23⟩ := hw
                  refine lv_iconst (v := 1) hx hb dX7_field_128 (by decide) ?_
                  have hP9 : va_P (dC, dI) vwCl (rW h0 r cI cJ cZ v0 a1 (nI tp) (nI bs) (fun j => nI (cl j)) a5 a6 a7 (fun j => nI (fc j)) a9 (fun j => nI (mb j)) a11 a12 a13 a14 a15 f20 f22 a18 a19 a20 (nI o24) o25 o26 o27 v25 v26 (nI bb) (fun j => nI (ct j)) (nI us) a30 a31 a32 a33 a34 a35 a36 a37 (fun j => nI (pil j)) (fun j => nI (rwv j)) (nI rl) v41 v42 v43 v44 v45) H := hP
                  have hD9 : va_D A (rW h0 r cI cJ cZ v0 a1 (nI tp) (nI bs) (fun j => nI (cl j)) a5 a6 a7 (fun j => nI (fc j)) a9 (fun j => nI (mb j)) a11 a12 a13 a14 a15 f20 f22 a18 a19 a20 (nI o24) o25 o26 o27 v25 v26 (nI bb) (fun j => nI (ct j)) (nI us) a30 a31 a32 a33 a34 a35 a36 a37 (fun j => nI (pil j)) (fun j => nI (rwv j)) (nI rl) v41 v42 v43 v44 v45) := hD
                  exact W.zret (v := (1 : Int32)) hx hb hr rfl (fun t ht hW => ⟨⟨(1 : Int32), (o24, o25, o26, o27, v25, v26, f20, f22), rfl, ⟨(Or.inr rfl), (by first | omega | assumption | trivial), (by first | omega | assumption | trivial)⟩, by rw [ht]; exact hP9, va_K.moved hW.alike hK, hD9⟩, hS.F ht⟩) hS.2.2 dX7_field_129
                · refine lv_aload_n hx hb dX7_field_100 rfl (lv_at hl 0 rfl) ?_
                  refine lv_iconst (v := 1) hx hb dX7_field_101 (by decide) ?_
                  have hFc := z_freeW hD hS hA
                  refine va_calli (va_runV (As := [.int 1]) (rest := []) ⟨hx, hb, hml, hown, hts⟩ (kX7_fails l dC dI h0 r cI cJ cZ v0 a1 tp bs cl a5 a6 a7 fc a9 mb a11 a12 a13 a14 a15 a16 a17 a18 a19 a20 o15 o16 o17 o18 v25 v26 bb ct us a30 a31 a32 a33 a34 a35 a36 a37 pil rwv rl v41 v42 v43 v44 v45 ⟨by omega, by omega, by omega, hcl, hfc, hmb, hct, hpil, hrwv⟩ (1 : Int32) H.size) (cwV 1 hts zgX7_field_X7_fails_192 rfl rfl rfl (by decide +kernel) ⟨(show 0 + 1 ≤ 3 by omega), (show 8 + (2 + 11) + 0 ≤ 66 by omega)⟩) (zVm (ci := 6) (q0 := 0) (q := (RX7, TX7, 46)) hK hP hD hL hS.2.1 hFc rfl rfl rfl) rfl rfl hl.1 rfl (lv_room (Nat.le_of_ble_eq_true rfl)) dX7_field_102 ⟨(show 0 + 0 ≤ 0 by omega), (show 0 + 0 ≤ 0 by omega)⟩) hS (fun q _ h => hFc q h) hFc (fun r29 u32 t H1 locs ht hvm hw hB hz1 hk1 hS => ?_)
                  obtain ⟨o30, o31⟩ := u32
                  obtain ⟨hP, hK9, hD⟩ := hB
                  rw [ht] at hP
                  have hD := hD.weaken (fun k q _ h => hFc q.1 h)
                  generalize H1 = H at hP hS
                  have hP : va_P (dC, dI) vwCl (rW h0 r cI cJ cZ v0 a1 (nI tp) (nI bs) (fun j => nI (cl j)) a5 a6 a7 (fun j => nI (fc j)) a9 (fun j => nI (mb j)) a11 a12 a13 a14 a15 a16 a17 a18 a19 a20 (nI o15) o16 o17 o18 o30 o31 (nI bb) (fun j => nI (ct j)) (nI us) a30 a31 a32 a33 a34 a35 a36 a37 (fun j => nI (pil j)) (fun j => nI (rwv j)) (nI rl) v41 v42 v43 v44 v45) H := hP
                  have hD : va_D A (rW h0 r cI cJ cZ v0 a1 (nI tp) (nI bs) (fun j => nI (cl j)) a5 a6 a7 (fun j => nI (fc j)) a9 (fun j => nI (mb j)) a11 a12 a13 a14 a15 a16 a17 a18 a19 a20 (nI o15) o16 o17 o18 o30 o31 (nI bb) (fun j => nI (ct j)) (nI us) a30 a31 a32 a33 a34 a35 a36 a37 (fun j => nI (pil j)) (fun j => nI (rwv j)) (nI rl) v41 v42 v43 v44 v45) := hD
                  have hw : (r29 = 0 ∨ r29 = 1) ∧ (r29 = 0) := hw
                  obtain ⟨w0r29, w1r29⟩ := hw
                  subst w1r29
                  have hP9 : va_P (dC, dI) vwCl (rW h0 r cI cJ cZ v0 a1 (nI tp) (nI bs) (fun j => nI (cl j)) a5 a6 a7 (fun j => nI (fc j)) a9 (fun j => nI (mb j)) a11 a12 a13 a14 a15 a16 a17 a18 a19 a20 (nI o15) o16 o17 o18 o30 o31 (nI bb) (fun j => nI (ct j)) (nI us) a30 a31 a32 a33 a34 a35 a36 a37 (fun j => nI (pil j)) (fun j => nI (rwv j)) (nI rl) v41 v42 v43 v44 v45) H := hP
                  have hD9 : va_D A (rW h0 r cI cJ cZ v0 a1 (nI tp) (nI bs) (fun j => nI (cl j)) a5 a6 a7 (fun j => nI (fc j)) a9 (fun j => nI (mb j)) a11 a12 a13 a14 a15 a16 a17 a18 a19 a20 (nI o15) o16 o17 o18 o30 o31 (nI bb) (fun j => nI (ct j)) (nI us) a30 a31 a32 a33 a34 a35 a36 a37 (fun j => nI (pil j)) (fun j => nI (rwv j)) (nI rl) v41 v42 v43 v44 v45) := hD
                  exact W.zret (v := (0 : Int32)) hx hb hr rfl (fun t ht hW => ⟨⟨(0 : Int32), (o15, o16, o17, o18, o30, o31, a16, a17), rfl, ⟨(Or.inl rfl), (by first | omega | assumption | trivial), (by first | omega | assumption | trivial)⟩, by rw [ht]; exact hP9, va_K.moved hW.alike hK, hD9⟩, hS.F ht⟩) hS.2.2 dX7_field_105
              · refine lv_aload_n hx hb dX7_field_81 rfl (lv_at hl 0 rfl) ?_
                refine lv_iconst (v := 4) hx hb dX7_field_82 (by decide) ?_
                have hFc := z_freeW hD hS hA
                refine va_calli (va_runV (As := [.int 4]) (rest := []) ⟨hx, hb, hml, hown, hts⟩ (kX7_fails l dC dI h0 r cI cJ cZ v0 a1 tp bs cl a5 a6 a7 fc a9 mb a11 a12 a13 a14 a15 a16 a17 a18 a19 a20 az v22 v23 v24 v25 v26 bb ct us a30 a31 a32 a33 a34 a35 a36 a37 pil rwv rl v41 v42 v43 v44 v45 ⟨by omega, by omega, by omega, hcl, hfc, hmb, hct, hpil, hrwv⟩ (4 : Int32) H.size) (cwV 1 hts zgX7_field_X7_fails_192 rfl rfl rfl (by decide +kernel) ⟨(show 0 + 1 ≤ 3 by omega), (show 8 + (2 + 11) + 0 ≤ 66 by omega)⟩) (zVm (ci := 6) (q0 := 0) (q := (RX7, TX7, 46)) hK hP hD hL hS.2.1 hFc rfl rfl rfl) rfl rfl hl.1 rfl (lv_room (Nat.le_of_ble_eq_true rfl)) dX7_field_83 ⟨(show 0 + 0 ≤ 0 by omega), (show 0 + 0 ≤ 0 by omega)⟩) hS (fun q _ h => hFc q h) hFc (fun r33 u36 t H1 locs ht hvm hw hB hz1 hk1 hS => ?_)
                obtain ⟨o34, o35⟩ := u36
                obtain ⟨hP, hK9, hD⟩ := hB
                rw [ht] at hP
                have hD := hD.weaken (fun k q _ h => hFc q.1 h)
                generalize H1 = H at hP hS
                have hP : va_P (dC, dI) vwCl (rW h0 r cI cJ cZ v0 a1 (nI tp) (nI bs) (fun j => nI (cl j)) a5 a6 a7 (fun j => nI (fc j)) a9 (fun j => nI (mb j)) a11 a12 a13 a14 a15 a16 a17 a18 a19 a20 (nI az) v22 v23 v24 o34 o35 (nI bb) (fun j => nI (ct j)) (nI us) a30 a31 a32 a33 a34 a35 a36 a37 (fun j => nI (pil j)) (fun j => nI (rwv j)) (nI rl) v41 v42 v43 v44 v45) H := hP
                have hD : va_D A (rW h0 r cI cJ cZ v0 a1 (nI tp) (nI bs) (fun j => nI (cl j)) a5 a6 a7 (fun j => nI (fc j)) a9 (fun j => nI (mb j)) a11 a12 a13 a14 a15 a16 a17 a18 a19 a20 (nI az) v22 v23 v24 o34 o35 (nI bb) (fun j => nI (ct j)) (nI us) a30 a31 a32 a33 a34 a35 a36 a37 (fun j => nI (pil j)) (fun j => nI (rwv j)) (nI rl) v41 v42 v43 v44 v45) := hD
                have hw : (r33 = 0 ∨ r33 = 1) ∧ (r33 = 0) := hw
                obtain ⟨w0r33, w1r33⟩ := hw
                subst w1r33
                have hP9 : va_P (dC, dI) vwCl (rW h0 r cI cJ cZ v0 a1 (nI tp) (nI bs) (fun j => nI (cl j)) a5 a6 a7 (fun j => nI (fc j)) a9 (fun j => nI (mb j)) a11 a12 a13 a14 a15 a16 a17 a18 a19 a20 (nI az) v22 v23 v24 o34 o35 (nI bb) (fun j => nI (ct j)) (nI us) a30 a31 a32 a33 a34 a35 a36 a37 (fun j => nI (pil j)) (fun j => nI (rwv j)) (nI rl) v41 v42 v43 v44 v45) H := hP
                have hD9 : va_D A (rW h0 r cI cJ cZ v0 a1 (nI tp) (nI bs) (fun j => nI (cl j)) a5 a6 a7 (fun j => nI (fc j)) a9 (fun j => nI (mb j)) a11 a12 a13 a14 a15 a16 a17 a18 a19 a20 (nI az) v22 v23 v24 o34 o35 (nI bb) (fun j => nI (ct j)) (nI us) a30 a31 a32 a33 a34 a35 a36 a37 (fun j => nI (pil j)) (fun j => nI (rwv j)) (nI rl) v41 v42 v43 v44 v45) := hD
                exact W.zret (v := (0 : Int32)) hx hb hr rfl (fun t ht hW => ⟨⟨(0 : Int32), (az, v22, v23, v24, o34, o35, a16, a17), rfl, ⟨(Or.inl rfl), (by first | omega | assumption | trivial), (by first | omega | assumption | trivial)⟩, by rw [ht]; exact hP9, va_K.moved hW.alike hK, hD9⟩, hS.F ht⟩) hS.2.2 dX7_field_86
        · refine lv_aload_n hx hb dX7_field_50 rfl (lv_at hl 0 rfl) ?_
          refine lv_iconst (v := 3) hx hb dX7_field_51 (by decide) ?_
          have hFc := z_freeW hD hS hA
          refine va_calli (va_runV (As := [.int 3]) (rest := []) ⟨hx, hb, hml, hown, hts⟩ (kX7_fails l dC dI h0 r cI cJ cZ v0 a1 tp bs cl a5 a6 a7 fc a9 mb a11 a12 a13 a14 a15 a16 a17 a18 a19 a20 az v22 v23 v24 v25 v26 bb ct us a30 a31 a32 a33 a34 a35 a36 a37 pil rwv rl v41 v42 v43 v44 v45 ⟨by omega, by omega, by omega, hcl, hfc, hmb, hct, hpil, hrwv⟩ (3 : Int32) H.size) (cwV 1 hts zgX7_field_X7_fails_192 rfl rfl rfl (by decide +kernel) ⟨(show 0 + 1 ≤ 3 by omega), (show 8 + (2 + 11) + 0 ≤ 66 by omega)⟩) (zVm (ci := 6) (q0 := 0) (q := (RX7, TX7, 46)) hK hP hD hL hS.2.1 hFc rfl rfl rfl) rfl rfl hl.1 rfl (lv_room (Nat.le_of_ble_eq_true rfl)) dX7_field_52 ⟨(show 0 + 0 ≤ 0 by omega), (show 0 + 0 ≤ 0 by omega)⟩) hS (fun q _ h => hFc q h) hFc (fun r37 u40 t H1 locs ht hvm hw hB hz1 hk1 hS => ?_)
          obtain ⟨o38, o39⟩ := u40
          obtain ⟨hP, hK9, hD⟩ := hB
          rw [ht] at hP
          have hD := hD.weaken (fun k q _ h => hFc q.1 h)
          generalize H1 = H at hP hS
          have hP : va_P (dC, dI) vwCl (rW h0 r cI cJ cZ v0 a1 (nI tp) (nI bs) (fun j => nI (cl j)) a5 a6 a7 (fun j => nI (fc j)) a9 (fun j => nI (mb j)) a11 a12 a13 a14 a15 a16 a17 a18 a19 a20 (nI az) v22 v23 v24 o38 o39 (nI bb) (fun j => nI (ct j)) (nI us) a30 a31 a32 a33 a34 a35 a36 a37 (fun j => nI (pil j)) (fun j => nI (rwv j)) (nI rl) v41 v42 v43 v44 v45) H := hP
          have hD : va_D A (rW h0 r cI cJ cZ v0 a1 (nI tp) (nI bs) (fun j => nI (cl j)) a5 a6 a7 (fun j => nI (fc j)) a9 (fun j => nI (mb j)) a11 a12 a13 a14 a15 a16 a17 a18 a19 a20 (nI az) v22 v23 v24 o38 o39 (nI bb) (fun j => nI (ct j)) (nI us) a30 a31 a32 a33 a34 a35 a36 a37 (fun j => nI (pil j)) (fun j => nI (rwv j)) (nI rl) v41 v42 v43 v44 v45) := hD
          have hw : (r37 = 0 ∨ r37 = 1) ∧ (r37 = 0) := hw
          obtain ⟨w0r37, w1r37⟩ := hw
          subst w1r37
          have hP9 : va_P (dC, dI) vwCl (rW h0 r cI cJ cZ v0 a1 (nI tp) (nI bs) (fun j => nI (cl j)) a5 a6 a7 (fun j => nI (fc j)) a9 (fun j => nI (mb j)) a11 a12 a13 a14 a15 a16 a17 a18 a19 a20 (nI az) v22 v23 v24 o38 o39 (nI bb) (fun j => nI (ct j)) (nI us) a30 a31 a32 a33 a34 a35 a36 a37 (fun j => nI (pil j)) (fun j => nI (rwv j)) (nI rl) v41 v42 v43 v44 v45) H := hP
          have hD9 : va_D A (rW h0 r cI cJ cZ v0 a1 (nI tp) (nI bs) (fun j => nI (cl j)) a5 a6 a7 (fun j => nI (fc j)) a9 (fun j => nI (mb j)) a11 a12 a13 a14 a15 a16 a17 a18 a19 a20 (nI az) v22 v23 v24 o38 o39 (nI bb) (fun j => nI (ct j)) (nI us) a30 a31 a32 a33 a34 a35 a36 a37 (fun j => nI (pil j)) (fun j => nI (rwv j)) (nI rl) v41 v42 v43 v44 v45) := hD
          exact W.zret (v := (0 : Int32)) hx hb hr rfl (fun t ht hW => ⟨⟨(0 : Int32), (az, v22, v23, v24, o38, o39, a16, a17), rfl, ⟨(Or.inl rfl), (by first | omega | assumption | trivial), (by first | omega | assumption | trivial)⟩, by rw [ht]; exact hP9, va_K.moved hW.alike hK, hD9⟩, hS.F ht⟩) hS.2.2 dX7_field_55
      · refine lv_aload_n hx hb dX7_field_35 rfl (lv_at hl 0 rfl) ?_
        refine lv_iconst (v := 1) hx hb dX7_field_36 (by decide) ?_
        have hFc := z_freeW hD hS hA
        refine va_calli (va_runV (As := [.int 1]) (rest := []) ⟨hx, hb, hml, hown, hts⟩ (kX7_fails l dC dI h0 r cI cJ cZ v0 a1 tp bs cl a5 a6 a7 fc a9 mb a11 a12 a13 a14 a15 a16 a17 a18 a19 a20 az v22 v23 v24 v25 v26 bb ct us a30 a31 a32 a33 a34 a35 a36 a37 pil rwv rl v41 v42 v43 v44 v45 ⟨by omega, by omega, by omega, hcl, hfc, hmb, hct, hpil, hrwv⟩ (1 : Int32) H.size) (cwV 1 hts zgX7_field_X7_fails_192 rfl rfl rfl (by decide +kernel) ⟨(show 0 + 1 ≤ 3 by omega), (show 8 + (2 + 11) + 0 ≤ 66 by omega)⟩) (zVm (ci := 6) (q0 := 0) (q := (RX7, TX7, 46)) hK hP hD hL hS.2.1 hFc rfl rfl rfl) rfl rfl hl.1 rfl (lv_room (Nat.le_of_ble_eq_true rfl)) dX7_field_37 ⟨(show 0 + 0 ≤ 0 by omega), (show 0 + 0 ≤ 0 by omega)⟩) hS (fun q _ h => hFc q h) hFc (fun r41 u44 t H1 locs ht hvm hw hB hz1 hk1 hS => ?_)
        obtain ⟨o42, o43⟩ := u44
        obtain ⟨hP, hK9, hD⟩ := hB
        rw [ht] at hP
        have hD := hD.weaken (fun k q _ h => hFc q.1 h)
        generalize H1 = H at hP hS
        have hP : va_P (dC, dI) vwCl (rW h0 r cI cJ cZ v0 a1 (nI tp) (nI bs) (fun j => nI (cl j)) a5 a6 a7 (fun j => nI (fc j)) a9 (fun j => nI (mb j)) a11 a12 a13 a14 a15 a16 a17 a18 a19 a20 (nI az) v22 v23 v24 o42 o43 (nI bb) (fun j => nI (ct j)) (nI us) a30 a31 a32 a33 a34 a35 a36 a37 (fun j => nI (pil j)) (fun j => nI (rwv j)) (nI rl) v41 v42 v43 v44 v45) H := hP
        have hD : va_D A (rW h0 r cI cJ cZ v0 a1 (nI tp) (nI bs) (fun j => nI (cl j)) a5 a6 a7 (fun j => nI (fc j)) a9 (fun j => nI (mb j)) a11 a12 a13 a14 a15 a16 a17 a18 a19 a20 (nI az) v22 v23 v24 o42 o43 (nI bb) (fun j => nI (ct j)) (nI us) a30 a31 a32 a33 a34 a35 a36 a37 (fun j => nI (pil j)) (fun j => nI (rwv j)) (nI rl) v41 v42 v43 v44 v45) := hD
        have hw : (r41 = 0 ∨ r41 = 1) ∧ (r41 = 0) := hw
        obtain ⟨w0r41, w1r41⟩ := hw
        subst w1r41
        have hP9 : va_P (dC, dI) vwCl (rW h0 r cI cJ cZ v0 a1 (nI tp) (nI bs) (fun j => nI (cl j)) a5 a6 a7 (fun j => nI (fc j)) a9 (fun j => nI (mb j)) a11 a12 a13 a14 a15 a16 a17 a18 a19 a20 (nI az) v22 v23 v24 o42 o43 (nI bb) (fun j => nI (ct j)) (nI us) a30 a31 a32 a33 a34 a35 a36 a37 (fun j => nI (pil j)) (fun j => nI (rwv j)) (nI rl) v41 v42 v43 v44 v45) H := hP
        have hD9 : va_D A (rW h0 r cI cJ cZ v0 a1 (nI tp) (nI bs) (fun j => nI (cl j)) a5 a6 a7 (fun j => nI (fc j)) a9 (fun j => nI (mb j)) a11 a12 a13 a14 a15 a16 a17 a18 a19 a20 (nI az) v22 v23 v24 o42 o43 (nI bb) (fun j => nI (ct j)) (nI us) a30 a31 a32 a33 a34 a35 a36 a37 (fun j => nI (pil j)) (fun j => nI (rwv j)) (nI rl) v41 v42 v43 v44 v45) := hD
        exact W.zret (v := (0 : Int32)) hx hb hr rfl (fun t ht hW => ⟨⟨(0 : Int32), (az, v22, v23, v24, o42, o43, a16, a17), rfl, ⟨(Or.inl rfl), (by first | omega | assumption | trivial), (by first | omega | assumption | trivial)⟩, by rw [ht]; exact hP9, va_K.moved hW.alike hK, hD9⟩, hS.F ht⟩) hS.2.2 dX7_field_40
  refine lv_aload_n hx hb dX7_field_0 rfl (lv_at hl 0 rfl) ?_
  refine va_get (D := (dC, dI)) (ci := 6) (v := .int v22) (C := RX7) (T := TX7) (N := 46) hx hb hts hiX7 hown hK hP 0 rfl rfl 22 (by decide) (hts (.fieldLink RX7 136 "LinkModelsModel" "token" "I") (by decide +kernel)) (fun _ h9 => h9) rfl dX7_field_1 ?_
  refine lv_bipush (v := 59) hx hb dX7_field_4 (by decide) ?_
  refine lv_icmp_eq (tgt := 18) hx hb dX7_field_6 (by decide) (fun cp6 => ?_) (fun cp6 => ?_)
  · exact J18  _ _ ls  hP hD hS (lv_sub hl [0, 1, 2, 3] rfl)
  · refine lv_aload_n hx hb dX7_field_9 rfl (lv_at hl 0 rfl) ?_
    refine va_get (D := (dC, dI)) (ci := 6) (v := .int v22) (C := RX7) (T := TX7) (N := 46) hx hb hts hiX7 hown hK hP 0 rfl rfl 22 (by decide) (hts (.fieldLink RX7 136 "LinkModelsModel" "token" "I") (by decide +kernel)) (fun _ h9 => h9) rfl dX7_field_10 ?_
    refine lv_bipush (v := 61) hx hb dX7_field_13 (by decide) ?_
    refine lv_icmp_ne (tgt := 35) hx hb dX7_field_15 (by decide) (fun cp15 => ?_) (fun cp15 => ?_)
    · refine lv_aload_n hx hb dX7_field_35 rfl (lv_at hl 0 rfl) ?_
      refine lv_iconst (v := 1) hx hb dX7_field_36 (by decide) ?_
      have hFc := z_freeW hD hS hA
      refine va_calli (va_runV (As := [.int 1]) (rest := []) ⟨hx, hb, hml, hown, hts⟩ (kX7_fails l dC dI h0 r cI cJ cZ v0 a1 tp bs cl a5 a6 a7 fc a9 mb a11 a12 a13 a14 a15 a16 a17 a18 a19 a20 az v22 v23 v24 v25 v26 bb ct us a30 a31 a32 a33 a34 a35 a36 a37 pil rwv rl v41 v42 v43 v44 v45 ⟨by omega, by omega, by omega, hcl, hfc, hmb, hct, hpil, hrwv⟩ (1 : Int32) s.heap.size) (cwV 1 hts zgX7_field_X7_fails_192 rfl rfl rfl (by decide +kernel) ⟨(show 0 + 1 ≤ 3 by omega), (show 8 + (2 + 11) + 0 ≤ 66 by omega)⟩) (zVm (ci := 6) (q0 := 0) (q := (RX7, TX7, 46)) hK hP hD hL hS.2.1 hFc rfl rfl rfl) rfl rfl hl.1 rfl (lv_room (Nat.le_of_ble_eq_true rfl)) dX7_field_37 ⟨(show 0 + 0 ≤ 0 by omega), (show 0 + 0 ≤ 0 by omega)⟩) hS (fun q _ h => hFc q h) hFc (fun r45 u48 t H1 locs ht hvm hw hB hz1 hk1 hS => ?_)
      obtain ⟨o46, o47⟩ := u48
      obtain ⟨hP, hK9, hD⟩ := hB
      rw [ht] at hP
      have hD := hD.weaken (fun k q _ h => hFc q.1 h)
      generalize H1 = H at hP hS
      have hP : va_P (dC, dI) vwCl (rW h0 r cI cJ cZ v0 a1 (nI tp) (nI bs) (fun j => nI (cl j)) a5 a6 a7 (fun j => nI (fc j)) a9 (fun j => nI (mb j)) a11 a12 a13 a14 a15 a16 a17 a18 a19 a20 (nI az) v22 v23 v24 o46 o47 (nI bb) (fun j => nI (ct j)) (nI us) a30 a31 a32 a33 a34 a35 a36 a37 (fun j => nI (pil j)) (fun j => nI (rwv j)) (nI rl) v41 v42 v43 v44 v45) H := hP
      have hD : va_D A (rW h0 r cI cJ cZ v0 a1 (nI tp) (nI bs) (fun j => nI (cl j)) a5 a6 a7 (fun j => nI (fc j)) a9 (fun j => nI (mb j)) a11 a12 a13 a14 a15 a16 a17 a18 a19 a20 (nI az) v22 v23 v24 o46 o47 (nI bb) (fun j => nI (ct j)) (nI us) a30 a31 a32 a33 a34 a35 a36 a37 (fun j => nI (pil j)) (fun j => nI (rwv j)) (nI rl) v41 v42 v43 v44 v45) := hD
      have hw : (r45 = 0 ∨ r45 = 1) ∧ (r45 = 0) := hw
      obtain ⟨w0r45, w1r45⟩ := hw
      subst w1r45
      have hP9 : va_P (dC, dI) vwCl (rW h0 r cI cJ cZ v0 a1 (nI tp) (nI bs) (fun j => nI (cl j)) a5 a6 a7 (fun j => nI (fc j)) a9 (fun j => nI (mb j)) a11 a12 a13 a14 a15 a16 a17 a18 a19 a20 (nI az) v22 v23 v24 o46 o47 (nI bb) (fun j => nI (ct j)) (nI us) a30 a31 a32 a33 a34 a35 a36 a37 (fun j => nI (pil j)) (fun j => nI (rwv j)) (nI rl) v41 v42 v43 v44 v45) H := hP
      have hD9 : va_D A (rW h0 r cI cJ cZ v0 a1 (nI tp) (nI bs) (fun j => nI (cl j)) a5 a6 a7 (fun j => nI (fc j)) a9 (fun j => nI (mb j)) a11 a12 a13 a14 a15 a16 a17 a18 a19 a20 (nI az) v22 v23 v24 o46 o47 (nI bb) (fun j => nI (ct j)) (nI us) a30 a31 a32 a33 a34 a35 a36 a37 (fun j => nI (pil j)) (fun j => nI (rwv j)) (nI rl) v41 v42 v43 v44 v45) := hD
      exact W.zret (v := (0 : Int32)) hx hb hr rfl (fun t ht hW => ⟨⟨(0 : Int32), (az, v22, v23, v24, o46, o47, a16, a17), rfl, ⟨(Or.inl rfl), (by first | omega | assumption | trivial), (by first | omega | assumption | trivial)⟩, by rw [ht]; exact hP9, va_K.moved hW.alike hK, hD9⟩, hS.F ht⟩) hS.2.2 dX7_field_40
    · exact J18  _ _ ls  hP hD hS (lv_sub hl [0, 1, 2, 3] rfl)
theorem dX7_method_0 : decode cX7_method 0 = .ok (.aload_n 0, 1) := by decide +kernel
theorem dX7_method_1 : decode cX7_method 1 = .ok (.getfield 48, 3) := by decide +kernel
theorem dX7_method_4 : decode cX7_method 4 = .ok (.iload_n 2, 1) := by decide +kernel
theorem dX7_method_5 : decode cX7_method 5 = .ok (.iaload, 1) := by decide +kernel
theorem dX7_method_6 : decode cX7_method 6 = .ok (.iconst 4, 1) := by decide +kernel
theorem dX7_method_7 : decode cX7_method 7 = .ok (.iand, 1) := by decide +kernel
theorem dX7_method_8 : decode cX7_method 8 = .ok (.ifCond .eq 9, 3) := by decide +kernel
theorem dX7_method_11 : decode cX7_method 11 = .ok (.aload_n 0, 1) := by decide +kernel
theorem dX7_method_12 : decode cX7_method 12 = .ok (.iconst 1, 1) := by decide +kernel
theorem dX7_method_13 : decode cX7_method 13 = .ok (.invokevirtual 192, 3) := by decide +kernel
theorem dX7_method_16 : decode cX7_method 16 = .ok (.ireturn, 1) := by decide +kernel
theorem dX7_method_17 : decode cX7_method 17 = .ok (.aload_n 0, 1) := by decide +kernel
theorem dX7_method_18 : decode cX7_method 18 = .ok (.getfield 51, 3) := by decide +kernel
theorem dX7_method_21 : decode cX7_method 21 = .ok (.iload_n 2, 1) := by decide +kernel
theorem dX7_method_22 : decode cX7_method 22 = .ok (.iconst 1, 1) := by decide +kernel
theorem dX7_method_23 : decode cX7_method 23 = .ok (.bastore, 1) := by decide +kernel
theorem dX7_method_24 : decode cX7_method 24 = .ok (.aload_n 0, 1) := by decide +kernel
theorem dX7_method_25 : decode cX7_method 25 = .ok (.invokevirtual 195, 3) := by decide +kernel
theorem dX7_method_28 : decode cX7_method 28 = .ok (.aload_n 0, 1) := by decide +kernel
theorem dX7_method_29 : decode cX7_method 29 = .ok (.getfield 136, 3) := by decide +kernel
theorem dX7_method_32 : decode cX7_method 32 = .ok (.bipush 41, 2) := by decide +kernel
theorem dX7_method_34 : decode cX7_method 34 = .ok (.if_icmp .eq 7, 3) := by decide +kernel
theorem dX7_method_37 : decode cX7_method 37 = .ok (.iconst 1, 1) := by decide +kernel
theorem dX7_method_38 : decode cX7_method 38 = .ok (.goto 4, 3) := by decide +kernel
theorem dX7_method_41 : decode cX7_method 41 = .ok (.iconst 0, 1) := by decide +kernel
theorem dX7_method_42 : decode cX7_method 42 = .ok (.istore_n 3, 1) := by decide +kernel
theorem dX7_method_43 : decode cX7_method 43 = .ok (.iload_n 3, 1) := by decide +kernel
theorem dX7_method_44 : decode cX7_method 44 = .ok (.ifCond .eq 114, 3) := by decide +kernel
theorem dX7_method_47 : decode cX7_method 47 = .ok (.aload_n 0, 1) := by decide +kernel
theorem dX7_method_48 : decode cX7_method 48 = .ok (.invokevirtual 211, 3) := by decide +kernel
theorem dX7_method_51 : decode cX7_method 51 = .ok (.ifCond .eq 13, 3) := by decide +kernel
theorem dX7_method_54 : decode cX7_method 54 = .ok (.aload_n 0, 1) := by decide +kernel
theorem dX7_method_55 : decode cX7_method 55 = .ok (.getstatic 177, 3) := by decide +kernel
theorem dX7_method_58 : decode cX7_method 58 = .ok (.invokevirtual 164, 3) := by decide +kernel
theorem dX7_method_61 : decode cX7_method 61 = .ok (.ifCond .eq 9, 3) := by decide +kernel
theorem dX7_method_64 : decode cX7_method 64 = .ok (.aload_n 0, 1) := by decide +kernel
theorem dX7_method_65 : decode cX7_method 65 = .ok (.iconst 1, 1) := by decide +kernel
theorem dX7_method_66 : decode cX7_method 66 = .ok (.invokevirtual 192, 3) := by decide +kernel
theorem dX7_method_69 : decode cX7_method 69 = .ok (.ireturn, 1) := by decide +kernel
theorem dX7_method_70 : decode cX7_method 70 = .ok (.aload_n 0, 1) := by decide +kernel
theorem dX7_method_71 : decode cX7_method 71 = .ok (.getfield 61, 3) := by decide +kernel
theorem dX7_method_74 : decode cX7_method 74 = .ok (.iload_n 2, 1) := by decide +kernel
theorem dX7_method_75 : decode cX7_method 75 = .ok (.iaload, 1) := by decide +kernel
theorem dX7_method_76 : decode cX7_method 76 = .ok (.iconst 2, 1) := by decide +kernel
theorem dX7_method_77 : decode cX7_method 77 = .ok (.if_icmp .ne 9, 3) := by decide +kernel
theorem dX7_method_80 : decode cX7_method 80 = .ok (.aload_n 0, 1) := by decide +kernel
theorem dX7_method_81 : decode cX7_method 81 = .ok (.iconst 2, 1) := by decide +kernel
theorem dX7_method_82 : decode cX7_method 82 = .ok (.invokevirtual 192, 3) := by decide +kernel
theorem dX7_method_85 : decode cX7_method 85 = .ok (.ireturn, 1) := by decide +kernel
theorem dX7_method_86 : decode cX7_method 86 = .ok (.aload_n 0, 1) := by decide +kernel
theorem dX7_method_87 : decode cX7_method 87 = .ok (.getfield 61, 3) := by decide +kernel
theorem dX7_method_90 : decode cX7_method 90 = .ok (.iload_n 2, 1) := by decide +kernel
theorem dX7_method_91 : decode cX7_method 91 = .ok (.iaload, 1) := by decide +kernel
theorem dX7_method_92 : decode cX7_method 92 = .ok (.ifCond .ne 16, 3) := by decide +kernel
theorem dX7_method_95 : decode cX7_method 95 = .ok (.aload_n 0, 1) := by decide +kernel
theorem dX7_method_96 : decode cX7_method 96 = .ok (.getfield 64, 3) := by decide +kernel
theorem dX7_method_99 : decode cX7_method 99 = .ok (.iload_n 2, 1) := by decide +kernel
theorem dX7_method_100 : decode cX7_method 100 = .ok (.aload_n 0, 1) := by decide +kernel
theorem dX7_method_101 : decode cX7_method 101 = .ok (.invokevirtual 215, 3) := by decide +kernel
theorem dX7_method_104 : decode cX7_method 104 = .ok (.iastore, 1) := by decide +kernel
theorem dX7_method_105 : decode cX7_method 105 = .ok (.goto 13, 3) := by decide +kernel
theorem dX7_method_108 : decode cX7_method 108 = .ok (.aload_n 0, 1) := by decide +kernel
theorem dX7_method_109 : decode cX7_method 109 = .ok (.getfield 67, 3) := by decide +kernel
theorem dX7_method_112 : decode cX7_method 112 = .ok (.iload_n 2, 1) := by decide +kernel
theorem dX7_method_113 : decode cX7_method 113 = .ok (.aload_n 0, 1) := by decide +kernel
theorem dX7_method_114 : decode cX7_method 114 = .ok (.invokevirtual 215, 3) := by decide +kernel
theorem dX7_method_117 : decode cX7_method 117 = .ok (.iastore, 1) := by decide +kernel
theorem dX7_method_118 : decode cX7_method 118 = .ok (.aload_n 0, 1) := by decide +kernel
theorem dX7_method_119 : decode cX7_method 119 = .ok (.getfield 61, 3) := by decide +kernel
theorem dX7_method_122 : decode cX7_method 122 = .ok (.iload_n 2, 1) := by decide +kernel
theorem dX7_method_123 : decode cX7_method 123 = .ok (.dup2, 1) := by decide +kernel
theorem dX7_method_124 : decode cX7_method 124 = .ok (.iaload, 1) := by decide +kernel
theorem dX7_method_125 : decode cX7_method 125 = .ok (.iconst 1, 1) := by decide +kernel
theorem dX7_method_126 : decode cX7_method 126 = .ok (.iadd, 1) := by decide +kernel
theorem dX7_method_127 : decode cX7_method 127 = .ok (.iastore, 1) := by decide +kernel
theorem dX7_method_128 : decode cX7_method 128 = .ok (.aload_n 0, 1) := by decide +kernel
theorem dX7_method_129 : decode cX7_method 129 = .ok (.invokevirtual 195, 3) := by decide +kernel
theorem dX7_method_132 : decode cX7_method 132 = .ok (.aload_n 0, 1) := by decide +kernel
theorem dX7_method_133 : decode cX7_method 133 = .ok (.getfield 136, 3) := by decide +kernel
theorem dX7_method_136 : decode cX7_method 136 = .ok (.bipush 44, 2) := by decide +kernel
theorem dX7_method_138 : decode cX7_method 138 = .ok (.if_icmp .ne 7, 3) := by decide +kernel
theorem dX7_method_141 : decode cX7_method 141 = .ok (.iconst 1, 1) := by decide +kernel
theorem dX7_method_142 : decode cX7_method 142 = .ok (.goto 4, 3) := by decide +kernel
theorem dX7_method_145 : decode cX7_method 145 = .ok (.iconst 0, 1) := by decide +kernel
theorem dX7_method_146 : decode cX7_method 146 = .ok (.istore_n 3, 1) := by decide +kernel
theorem dX7_method_147 : decode cX7_method 147 = .ok (.iload_n 3, 1) := by decide +kernel
theorem dX7_method_148 : decode cX7_method 148 = .ok (.ifCond .eq (-105), 3) := by decide +kernel
theorem dX7_method_151 : decode cX7_method 151 = .ok (.aload_n 0, 1) := by decide +kernel
theorem dX7_method_152 : decode cX7_method 152 = .ok (.invokevirtual 195, 3) := by decide +kernel
theorem dX7_method_155 : decode cX7_method 155 = .ok (.goto (-112), 3) := by decide +kernel
theorem dX7_method_158 : decode cX7_method 158 = .ok (.aload_n 0, 1) := by decide +kernel
theorem dX7_method_159 : decode cX7_method 159 = .ok (.getfield 136, 3) := by decide +kernel
theorem dX7_method_162 : decode cX7_method 162 = .ok (.bipush 41, 2) := by decide +kernel
theorem dX7_method_164 : decode cX7_method 164 = .ok (.if_icmp .eq 9, 3) := by decide +kernel
theorem dX7_method_167 : decode cX7_method 167 = .ok (.aload_n 0, 1) := by decide +kernel
theorem dX7_method_168 : decode cX7_method 168 = .ok (.iconst 1, 1) := by decide +kernel
theorem dX7_method_169 : decode cX7_method 169 = .ok (.invokevirtual 192, 3) := by decide +kernel
theorem dX7_method_172 : decode cX7_method 172 = .ok (.ireturn, 1) := by decide +kernel
theorem dX7_method_173 : decode cX7_method 173 = .ok (.aload_n 0, 1) := by decide +kernel
theorem dX7_method_174 : decode cX7_method 174 = .ok (.iload_n 1, 1) := by decide +kernel
theorem dX7_method_175 : decode cX7_method 175 = .ok (.iload_n 2, 1) := by decide +kernel
theorem dX7_method_176 : decode cX7_method 176 = .ok (.invokevirtual 229, 3) := by decide +kernel
theorem dX7_method_179 : decode cX7_method 179 = .ok (.ifCond .eq 9, 3) := by decide +kernel
theorem dX7_method_182 : decode cX7_method 182 = .ok (.aload_n 0, 1) := by decide +kernel
theorem dX7_method_183 : decode cX7_method 183 = .ok (.iconst 3, 1) := by decide +kernel
theorem dX7_method_184 : decode cX7_method 184 = .ok (.invokevirtual 192, 3) := by decide +kernel
theorem dX7_method_187 : decode cX7_method 187 = .ok (.ireturn, 1) := by decide +kernel
theorem dX7_method_188 : decode cX7_method 188 = .ok (.aload_n 0, 1) := by decide +kernel
theorem dX7_method_189 : decode cX7_method 189 = .ok (.invokevirtual 195, 3) := by decide +kernel
theorem dX7_method_192 : decode cX7_method 192 = .ok (.iconst 1, 1) := by decide +kernel
theorem dX7_method_193 : decode cX7_method 193 = .ok (.ireturn, 1) := by decide +kernel
def zwX7_method : List Cond := .code yX7_method cX7_method 4 (some .boolean) :: ([.fieldLink RX7 61 "LinkModelsModel" "many" "[I", .fieldLink RX7 136 "LinkModelsModel" "token" "I", .fieldLink RX7 177 "LinkModelsModel" "VOID" "J", .fieldLink RX7 67 "LinkModelsModel" "second" "[I", .fieldLink RX7 64 "LinkModelsModel" "first" "[I", .fieldLink RX7 48 "LinkModelsModel" "marks" "[I", .fieldLink RX7 51 "LinkModelsModel" "isMethod" "[Z", .methodLink RX7 195 yX7_next, .instanceMethod yX7_next, .selects RX7 yX7_next yX7_next, .initialized RX7, .code yX7_next cX7_next 2 none, .fieldLink RX7 126 "LinkModelsModel" "at" "I", .fieldLink RX7 129 "LinkModelsModel" "tokenAt" "I", .fieldLink RX7 109 "LinkModelsModel" "taped" "I", .fieldLink RX7 132 "LinkModelsModel" "value" "J", .constantLong RX7 153 (10), .constantLong RX7 118 (48), .fieldLink RX7 13 "LinkModelsModel" "tape" "[I", .methodLink RX7 139 yX7_here, .instanceMethod yX7_here, .selects RX7 yX7_here yX7_here, .code yX7_here cX7_here 1 (some .int), .methodLink RX7 143 yX7_isBig, .static yX7_isBig, .code yX7_isBig cX7_isBig 1 (some .boolean), .constantLong RX7 114 (65), .constantLong RX7 116 (90), .methodLink RX7 105 yX7_in, .static yX7_in, .code yX7_in cX7_in 6 (some .boolean), .methodLink RX7 147 yX7_isDigit, .static yX7_isDigit, .code yX7_isDigit cX7_isDigit 1 (some .boolean), .constantLong RX7 120 (57), .methodLink RX7 150 yX7_isSmall, .static yX7_isSmall, .code yX7_isSmall cX7_isSmall 1 (some .boolean), .constantLong RX7 122 (97), .constantLong RX7 124 (122), .methodLink RX7 229 yX7_isThere, .instanceMethod yX7_isThere, .selects RX7 yX7_isThere yX7_isThere, .code yX7_isThere cX7_isThere 5 (some .boolean), .fieldLink RX7 44 "LinkModelsModel" "word" "[J", .methodLink RX7 192 yX7_fails, .instanceMethod yX7_fails, .selects RX7 yX7_fails yX7_fails, .code yX7_fails cX7_fails 2 (some .boolean), .fieldLink RX7 155 "LinkModelsModel" "fault" "I", .fieldLink RX7 158 "LinkModelsModel" "faultAt" "I", .methodLink RX7 211 yX7_isType, .instanceMethod yX7_isType, .selects RX7 yX7_isType yX7_isType, .code yX7_isType cX7_isType 1 (some .boolean), .fieldLink RX7 171 "LinkModelsModel" "INT" "J", .fieldLink RX7 174 "LinkModelsModel" "LONG" "J", .methodLink RX7 164 yX7_isWord, .instanceMethod yX7_isWord, .selects RX7 yX7_isWord yX7_isWord, .code yX7_isWord cX7_isWord 3 (some .boolean), .methodLink RX7 215 yX7_typeNow, .instanceMethod yX7_typeNow, .selects RX7 yX7_typeNow yX7_typeNow, .code yX7_typeNow cX7_typeNow 1 (some .int)] ++ wsX70)
theorem zgX7_method_X7_next_195 : GoodIn zwX7_method (wsV RX7 195 RX7 yX7_next zwX7_next) := goodIn_app (goodIn_of _ (by decide +kernel)) (goodIn_ca (goodIn_of _ (by decide +kernel)) (zgt zg7))
theorem zgX7_method_X7_isThere_229 : GoodIn zwX7_method (wsV RX7 229 RX7 yX7_isThere zwX7_isThere) := goodIn_app (goodIn_of _ (by decide +kernel)) (goodIn_ca (goodIn_of _ (by decide +kernel)) (zgt zg7))
theorem zgX7_method_X7_fails_192 : GoodIn zwX7_method (wsV RX7 192 RX7 yX7_fails zwX7_fails) := goodIn_app (goodIn_of _ (by decide +kernel)) (goodIn_ca (goodIn_of _ (by decide +kernel)) (zgt zg7))
theorem zgX7_method_X7_isType_211 : GoodIn zwX7_method (wsV RX7 211 RX7 yX7_isType zwX7_isType) := goodIn_app (goodIn_of _ (by decide +kernel)) (goodIn_ca (goodIn_of _ (by decide +kernel)) (zgt zg7))
theorem zgX7_method_X7_isWord_164 : GoodIn zwX7_method (wsV RX7 164 RX7 yX7_isWord zwX7_isWord) := goodIn_app (goodIn_of _ (by decide +kernel)) (goodIn_ca (goodIn_of _ (by decide +kernel)) (zgt zg7))
theorem zgX7_method_X7_typeNow_215 : GoodIn zwX7_method (wsV RX7 215 RX7 yX7_typeNow zwX7_typeNow) := goodIn_app (goodIn_of _ (by decide +kernel)) (goodIn_ca (goodIn_of _ (by decide +kernel)) (zgt zg7))
set_option maxHeartbeats 4000000 in
set_option maxRecDepth 100000 in
theorem kX7_method (l : Launch) (dC : Nat → ClassId) (dI : Nat → Nat → Nat) (h0 : Nat) (r : Nat → Nat) (cI : ClassId) (cJ : ClassId) (cZ : ClassId) (v0 : Int32) (a1 : Nat → Int32) (tp : Nat) (bs : Nat) (cl : Nat → Nat) (a5 : Nat → Int32) (a6 : Nat → Int32) (a7 : Nat → Int32) (fc : Nat → Nat) (a9 : Nat → Int32) (mb : Nat → Nat) (a11 : Nat → Int32) (a12 : Nat → Int32) (a13 : Nat → Int64) (a14 : Nat → Int32) (a15 : Nat → Int32) (a16 : Nat → Int32) (a17 : Nat → Int32) (a18 : Nat → Int32) (a19 : Nat → Int32) (a20 : Nat → Int32) (az : Nat) (v22 : Int32) (v23 : Int32) (v24 : Int64) (v25 : Int32) (v26 : Int32) (bb : Nat) (ct : Nat → Nat) (us : Nat) (a30 : Nat → Int32) (a31 : Nat → Int32) (a32 : Nat → Int32) (a33 : Nat → Int64) (a34 : Nat → Int32) (a35 : Nat → Int32) (a36 : Nat → Int32) (a37 : Nat → Int32) (pil : Nat → Nat) (rwv : Nat → Nat) (rl : Nat) (v41 : Int32) (v42 : Int32) (v43 : Int32) (v44 : Int32) (v45 : Int32) (hI : rWI tp bs cl fc mb az bb ct us pil rwv rl) (ci : Nat) (mi : Nat) (hp0 : ci < 80) (hp1 : mi < 960) (hp2 : az ≤ tp) (sz : Nat) : Met l yX7_method zwX7_method ({ frames := 3, cells := 0, slots := 0, locals := 66 }) (zPm dC dI [.ref h0, .int (nI ci), .int (nI mi)] sz (rW h0 r cI cJ cZ v0 a1 (nI tp) (nI bs) (fun j => nI (cl j)) a5 a6 a7 (fun j => nI (fc j)) a9 (fun j => nI (mb j)) a11 a12 a13 a14 a15 a16 a17 a18 a19 a20 (nI az) v22 v23 v24 v25 v26 (nI bb) (fun j => nI (ct j)) (nI us) a30 a31 a32 a33 a34 a35 a36 a37 (fun j => nI (pil j)) (fun j => nI (rwv j)) (nI rl) v41 v42 v43 v44 v45) [(cI, .int), (cJ, .long), (cZ, .boolean)]) (va_Qi (fun (r : Int32) (u : Nat × Int32 × Int32 × Int64 × Int32 × Int32 × (Nat → Int32) × (Nat → Int32) × (Nat → Int32) × (Nat → Int32)) => (r = 0 ∨ r = 1) ∧ (az ≤ (u.1)) ∧ ((u.1) ≤ tp)) (fun u t => zB dC dI (va_A (rW h0 r cI cJ cZ v0 a1 (nI tp) (nI bs) (fun j => nI (cl j)) a5 a6 a7 (fun j => nI (fc j)) a9 (fun j => nI (mb j)) a11 a12 a13 a14 a15 a16 a17 a18 a19 a20 (nI az) v22 v23 v24 v25 v26 (nI bb) (fun j => nI (ct j)) (nI us) a30 a31 a32 a33 a34 a35 a36 a37 (fun j => nI (pil j)) (fun j => nI (rwv j)) (nI rl) v41 v42 v43 v44 v45) sz) (rW h0 r cI cJ cZ v0 a1 (nI tp) (nI bs) (fun j => nI (cl j)) a5 a6 a7 (fun j => nI (fc j)) a9 (fun j => nI (mb j)) a11 a12 a13 a14 (u.2.2.2.2.2.2.1) a16 a17 (u.2.2.2.2.2.2.2.1) (u.2.2.2.2.2.2.2.2.1) (u.2.2.2.2.2.2.2.2.2) (nI (u.1)) (u.2.1) (u.2.2.1) (u.2.2.2.1) (u.2.2.2.2.1) (u.2.2.2.2.2.1) (nI bb) (fun j => nI (ct j)) (nI us) a30 a31 a32 a33 a34 a35 a36 a37 (fun j => nI (pil j)) (fun j => nI (rwv j)) (nI rl) v41 v42 v43 v44 v45) [(cI, .int), (cJ, .long), (cZ, .boolean)] t) (va_A (rW h0 r cI cJ cZ v0 a1 (nI tp) (nI bs) (fun j => nI (cl j)) a5 a6 a7 (fun j => nI (fc j)) a9 (fun j => nI (mb j)) a11 a12 a13 a14 a15 a16 a17 a18 a19 a20 (nI az) v22 v23 v24 v25 v26 (nI bb) (fun j => nI (ct j)) (nI us) a30 a31 a32 a33 a34 a35 a36 a37 (fun j => nI (pil j)) (fun j => nI (rwv j)) (nI rl) v41 v42 v43 v44 v45) sz)) 0 0 (va_A (rW h0 r cI cJ cZ v0 a1 (nI tp) (nI bs) (fun j => nI (cl j)) a5 a6 a7 (fun j => nI (fc j)) a9 (fun j => nI (mb j)) a11 a12 a13 a14 a15 a16 a17 a18 a19 a20 (nI az) v22 v23 v24 v25 v26 (nI bb) (fun j => nI (ct j)) (nI us) a30 a31 a32 a33 a34 a35 a36 a37 (fun j => nI (pil j)) (fun j => nI (rwv j)) (nI rl) v41 v42 v43 v44 v45) sz) := by
  refine Met.ofW (cc := cX7_method) (maxL := 4) (ret := (some .boolean)) (by decide) rfl ?_
  intro p e s m args below meth c s₁ B hml hv
  obtain ⟨rfl, hsz, hP, hK, hD0, hL0⟩ := hv
  have hx := B.exec
  have hb := B.bytes
  have hr := B.returns
  have hts := atoms_spec (ws := zwX7_method) B.pre
  have hown : s.vm.findClass RX7 = some m.cls := findClass_of_methodNamed B.named
  have hiX7 : ∀ w ∈ wsX70, w ∈ zwX7_method := (fun _ h => List.mem_cons_of_mem _ (List.mem_append_right _ h))
  obtain ⟨htp, hbs, hus, hcl, hfc, hmb, hct, hpil, hrwv⟩ := hI
  subst hsz
  have hD := hD0.self (sz := s.heap.size)
  generalize hAe : va_A (rW h0 r cI cJ cZ v0 a1 (nI tp) (nI bs) (fun j => nI (cl j)) a5 a6 a7 (fun j => nI (fc j)) a9 (fun j => nI (mb j)) a11 a12 a13 a14 a15 a16 a17 a18 a19 a20 (nI az) v22 v23 v24 v25 v26 (nI bb) (fun j => nI (ct j)) (nI us) a30 a31 a32 a33 a34 a35 a36 a37 (fun j => nI (pil j)) (fun j => nI (rwv j)) (nI rl) v41 v42 v43 v44 v45) s.heap.size = A at hD hL0 ⊢
  have hA : ∀ q : Nat, s.heap.size ≤ q → A q := fun q h => by rw [← hAe]; exact Or.inr h
  have hS : va_S A s.heap s.heap [] := va_S.rf
  have hL := hL0
  have hl := lv_entry ([.ref h0, .int (nI ci), .int (nI mi)]) (n := 4) (Nat.le_of_ble_eq_true rfl)
  rw [lg_entry_eq]
  generalize (lg_sl ([.ref h0, .int (nI ci), .int (nI mi)]) ++ List.replicate (4 - (lg_sl ([.ref h0, .int (nI ci), .int (nI mi)])).length) Slot.unset).toArray = ls at hl ⊢
  have hl : lv_has ls 4 [(0, .ref h0), (1, .int (nI ci)), (2, .int (nI mi))] := hl
  have J43 : ∀ (z43 : Nat) (mo : Nat) (i2 : Nat) (tk : Int32) (ta : Int32) (vl : Int64) (b3 : Nat → Int32) (b4 : Nat → Int32) (b5 : Nat → Int32) (b6 : Nat → Int32) (H : Heap) (locs : List Loc) (ls : Array Slot), 2 * (tp - i2) + mo < z43 → (az ≤ i2) → (i2 ≤ tp) → (mo ≤ 1) → va_P (dC, dI) vwCl (rW h0 r cI cJ cZ v0 a1 (nI tp) (nI bs) (fun j => nI (cl j)) a5 a6 a7 (fun j => nI (fc j)) a9 (fun j => nI (mb j)) a11 a12 a13 a14 b3 a16 a17 b4 b5 b6 (nI i2) tk ta vl v25 v26 (nI bb) (fun j => nI (ct j)) (nI us) a30 a31 a32 a33 a34 a35 a36 a37 (fun j => nI (pil j)) (fun j => nI (rwv j)) (nI rl) v41 v42 v43 v44 v45) H → va_D A (rW h0 r cI cJ cZ v0 a1 (nI tp) (nI bs) (fun j => nI (cl j)) a5 a6 a7 (fun j => nI (fc j)) a9 (fun j => nI (mb j)) a11 a12 a13 a14 b3 a16 a17 b4 b5 b6 (nI i2) tk ta vl v25 v26 (nI bb) (fun j => nI (ct j)) (nI us) a30 a31 a32 a33 a34 a35 a36 a37 (fun j => nI (pil j)) (fun j => nI (rwv j)) (nI rl) v41 v42 v43 v44 v45) → va_S A s.heap H locs → lv_has ls 4 [(0, .ref h0), (1, .int (nI ci)), (2, .int (nI mi)), (3, .int (nI mo))] → W p l e (headSpec zwX7_method { frames := 3, cells := 0, slots := 0, locals := 66 }).room s m (([.ref h0, .int (nI ci), .int (nI mi)] : List Value).toArray) below meth c H locs 0 0 (MQ below (va_Qi (fun (r : Int32) (u : Nat × Int32 × Int32 × Int64 × Int32 × Int32 × (Nat → Int32) × (Nat → Int32) × (Nat → Int32) × (Nat → Int32)) => (r = 0 ∨ r = 1) ∧ (az ≤ (u.1)) ∧ ((u.1) ≤ tp)) (fun u t => zB dC dI (A) (rW h0 r cI cJ cZ v0 a1 (nI tp) (nI bs) (fun j => nI (cl j)) a5 a6 a7 (fun j => nI (fc j)) a9 (fun j => nI (mb j)) a11 a12 a13 a14 (u.2.2.2.2.2.2.1) a16 a17 (u.2.2.2.2.2.2.2.1) (u.2.2.2.2.2.2.2.2.1) (u.2.2.2.2.2.2.2.2.2) (nI (u.1)) (u.2.1) (u.2.2.1) (u.2.2.2.1) (u.2.2.2.2.1) (u.2.2.2.2.2.1) (nI bb) (fun j => nI (ct j)) (nI us) a30 a31 a32 a33 a34 a35 a36 a37 (fun j => nI (pil j)) (fun j => nI (rwv j)) (nI rl) v41 v42 v43 v44 v45) [(cI, .int), (cJ, .long), (cZ, .boolean)] t) (A)) (([.ref h0, .int (nI ci), .int (nI mi)] : List Value).toArray) s 0 0 A) (F0 m 43 ls []) := by
    intro z43
    induction z43 with
    | zero => intro mo i2 tk ta vl b3 b4 b5 b6 H locs ls h9; exact absurd h9 (Nat.not_lt_zero _)
    | succ z43 ih43 =>
      intro mo i2 tk ta vl b3 b4 b5 b6 H locs ls hm43 i43_0 i43_1 i43_2 hP hD hS hl
      have J118 : ∀ (b55 : Nat → Int32) (b66 : Nat → Int32) (H : Heap) (locs : List Loc) (ls : Array Slot), (mo = 1) → va_P (dC, dI) vwCl (rW h0 r cI cJ cZ v0 a1 (nI tp) (nI bs) (fun j => nI (cl j)) a5 a6 a7 (fun j => nI (fc j)) a9 (fun j => nI (mb j)) a11 a12 a13 a14 b3 a16 a17 b4 b55 b66 (nI i2) tk ta vl v25 v26 (nI bb) (fun j => nI (ct j)) (nI us) a30 a31 a32 a33 a34 a35 a36 a37 (fun j => nI (pil j)) (fun j => nI (rwv j)) (nI rl) v41 v42 v43 v44 v45) H → va_D A (rW h0 r cI cJ cZ v0 a1 (nI tp) (nI bs) (fun j => nI (cl j)) a5 a6 a7 (fun j => nI (fc j)) a9 (fun j => nI (mb j)) a11 a12 a13 a14 b3 a16 a17 b4 b55 b66 (nI i2) tk ta vl v25 v26 (nI bb) (fun j => nI (ct j)) (nI us) a30 a31 a32 a33 a34 a35 a36 a37 (fun j => nI (pil j)) (fun j => nI (rwv j)) (nI rl) v41 v42 v43 v44 v45) → va_S A s.heap H locs → lv_has ls 4 [(0, .ref h0), (1, .int (nI ci)), (2, .int (nI mi))] → W p l e (headSpec zwX7_method { frames := 3, cells := 0, slots := 0, locals := 66 }).room s m (([.ref h0, .int (nI ci), .int (nI mi)] : List Value).toArray) below meth c H locs 0 0 (MQ below (va_Qi (fun (r : Int32) (u : Nat × Int32 × Int32 × Int64 × Int32 × Int32 × (Nat → Int32) × (Nat → Int32) × (Nat → Int32) × (Nat → Int32)) => (r = 0 ∨ r = 1) ∧ (az ≤ (u.1)) ∧ ((u.1) ≤ tp)) (fun u t => zB dC dI (A) (rW h0 r cI cJ cZ v0 a1 (nI tp) (nI bs) (fun j => nI (cl j)) a5 a6 a7 (fun j => nI (fc j)) a9 (fun j => nI (mb j)) a11 a12 a13 a14 (u.2.2.2.2.2.2.1) a16 a17 (u.2.2.2.2.2.2.2.1) (u.2.2.2.2.2.2.2.2.1) (u.2.2.2.2.2.2.2.2.2) (nI (u.1)) (u.2.1) (u.2.2.1) (u.2.2.2.1) (u.2.2.2.2.1) (u.2.2.2.2.2.1) (nI bb) (fun j => nI (ct j)) (nI us) a30 a31 a32 a33 a34 a35 a36 a37 (fun j => nI (pil j)) (fun j => nI (rwv j)) (nI rl) v41 v42 v43 v44 v45) [(cI, .int), (cJ, .long), (cZ, .boolean)] t) (A)) (([.ref h0, .int (nI ci), .int (nI mi)] : List Value).toArray) s 0 0 A) (F0 m 118 ls []) := by
        intro b55 b66 H locs ls i118_0 hP hD hS hl
        refine lv_aload_n hx hb dX7_method_118 rfl (lv_at hl 0 rfl) ?_
        refine va_get (D := (dC, dI)) (ci := 6) (v := .ref (r 18)) (C := RX7) (T := TX7) (N := 46) hx hb hts hiX7 hown hK hP 0 rfl rfl 18 (by decide) (hts (.fieldLink RX7 61 "LinkModelsModel" "many" "[I") (by decide +kernel)) (fun _ h9 => h9) rfl dX7_method_119 ?_
        refine lv_iload_n hx hb dX7_method_122 rfl (lv_at hl 2 rfl) ?_
        refine lv_dup2_11 hx hb dX7_method_123 rfl rfl ?_
        refine va_iald hx hb hK hP 16 0 rfl rfl (vp_in_nI (show mi < 960 by omega) (by decide)) dX7_method_124 ?_
        refine lv_topi (fun x1 ex1 => ?_)
        obtain rfl : x1 = b4 mi := by rw [ex1, nI_clamp (show mi < 2 ^ 31 by omega)]
        refine lv_iconst (v := 1) hx hb dX7_method_125 (by decide) ?_
        refine lv_iadd hx hb dX7_method_126 ?_
        refine lv_topi (fun x2 ex2 => ?_)
        refine va_iast hx hb hK hP hD hS 16 0 rfl rfl (vp_in_nI (show mi < 960 by omega) (by decide)) dX7_method_127 (fun H locs hP hD hS => ?_)
        obtain ⟨f3, hP, hD⟩ : ∃ g : Nat → Int32, va_P (dC, dI) vwCl (rW h0 r cI cJ cZ v0 a1 (nI tp) (nI bs) (fun j => nI (cl j)) a5 a6 a7 (fun j => nI (fc j)) a9 (fun j => nI (mb j)) a11 a12 a13 a14 b3 a16 a17 g b55 b66 (nI i2) tk ta vl v25 v26 (nI bb) (fun j => nI (ct j)) (nI us) a30 a31 a32 a33 a34 a35 a36 a37 (fun j => nI (pil j)) (fun j => nI (rwv j)) (nI rl) v41 v42 v43 v44 v45) H ∧ va_D A (rW h0 r cI cJ cZ v0 a1 (nI tp) (nI bs) (fun j => nI (cl j)) a5 a6 a7 (fun j => nI (fc j)) a9 (fun j => nI (mb j)) a11 a12 a13 a14 b3 a16 a17 g b55 b66 (nI i2) tk ta vl v25 v26 (nI bb) (fun j => nI (ct j)) (nI us) a30 a31 a32 a33 a34 a35 a36 a37 (fun j => nI (pil j)) (fun j => nI (rwv j)) (nI rl) v41 v42 v43 v44 v45) := ⟨_, hP, hD⟩
        refine lv_aload_n hx hb dX7_method_128 rfl (lv_at hl 0 rfl) ?_
        have hFc := z_freeW hD hS hA
        refine va_callv (va_runV (As := []) (rest := []) ⟨hx, hb, hml, hown, hts⟩ (kX7_next l dC dI h0 r cI cJ cZ v0 a1 tp bs cl a5 a6 a7 fc a9 mb a11 a12 a13 a14 b3 a16 a17 f3 b55 b66 i2 tk ta vl v25 v26 bb ct us a30 a31 a32 a33 a34 a35 a36 a37 pil rwv rl v41 v42 v43 v44 v45 ⟨by omega, by omega, by omega, hcl, hfc, hmb, hct, hpil, hrwv⟩ (by first | omega | assumption | trivial) H.size) (cwV 0 hts zgX7_method_X7_next_195 rfl rfl rfl (by decide +kernel) ⟨(show 2 + 1 ≤ 3 by omega), (show 8 + (2 + 11) + 45 ≤ 66 by omega)⟩) (zVm (ci := 6) (q0 := 0) (q := (RX7, TX7, 46)) hK hP hD hL hS.2.1 hFc rfl rfl rfl) rfl rfl hl.1 rfl (lv_room (Nat.le_of_ble_eq_true rfl)) dX7_method_129 ⟨(show 0 + 0 ≤ 0 by omega), (show 0 + 0 ≤ 0 by omega)⟩) hS (fun q _ h => hFc q h) hFc (fun u9 t H1 locs ht hvm hw hB hz1 hk1 hS => ?_)
        obtain ⟨o5, o6, o7, o8⟩ := u9
        obtain ⟨hP, hK9, hD⟩ := hB
        rw [ht] at hP
        have hD := hD.weaken (fun k q _ h => hFc q.1 h)
        generalize H1 = H at hP hS
        have hP : va_P (dC, dI) vwCl (rW h0 r cI cJ cZ v0 a1 (nI tp) (nI bs) (fun j => nI (cl j)) a5 a6 a7 (fun j => nI (fc j)) a9 (fun j => nI (mb j)) a11 a12 a13 a14 b3 a16 a17 f3 b55 b66 (nI o5) o6 o7 o8 v25 v26 (nI bb) (fun j => nI (ct j)) (nI us) a30 a31 a32 a33 a34 a35 a36 a37 (fun j => nI (pil j)) (fun j => nI (rwv j)) (nI rl) v41 v42 v43 v44 v45) H := hP
        have hD : va_D A (rW h0 r cI cJ cZ v0 a1 (nI tp) (nI bs) (fun j => nI (cl j)) a5 a6 a7 (fun j => nI (fc j)) a9 (fun j => nI (mb j)) a11 a12 a13 a14 b3 a16 a17 f3 b55 b66 (nI o5) o6 o7 o8 v25 v26 (nI bb) (fun j => nI (ct j)) (nI us) a30 a31 a32 a33 a34 a35 a36 a37 (fun j => nI (pil j)) (fun j => nI (rwv j)) (nI rl) v41 v42 v43 v44 v45) := hD
        have hw : (i2 ≤ o5) ∧ (o5 ≤ tp) ∧ (¬ o6 = 0 → i2 < o5) := hw
        obtain ⟨w0r4, w1r4, w2r4⟩ := hw
        refine lv_aload_n hx hb dX7_method_132 rfl (lv_at hl 0 rfl) ?_
        refine va_get (D := (dC, dI)) (ci := 6) (v := .int o6) (C := RX7) (T := TX7) (N := 46) hx hb hts hiX7 hown hK hP 0 rfl rfl 22 (by decide) (hts (.fieldLink RX7 136 "LinkModelsModel" "token" "I") (by decide +kernel)) (fun _ h9 => h9) rfl dX7_method_133 ?_
        refine lv_bipush (v := 44) hx hb dX7_method_136 (by decide) ?_
        refine lv_icmp_ne (tgt := 145) hx hb dX7_method_138 (by decide) (fun cp138 => ?_) (fun cp138 => ?_)
        · refine lv_iconst (v := 0) hx hb dX7_method_145 (by decide) ?_
          refine lv_istore_n (lv' := [(3, .int 0), (0, .ref h0), (1, .int (nI ci)), (2, .int (nI mi))]) hx hb dX7_method_146 rfl hl (by decide) rfl (fun ls hl => ?_)
          refine lv_iload_n hx hb dX7_method_147 rfl (lv_at hl 0 rfl) ?_
          refine lv_if_eq (tgt := 43) hx hb dX7_method_148 (by decide) (fun _ => ?_) (fun c9 => absurd (by decide) c9)
          exact ih43 0 o5 o6 o7 o8 b3 f3 b55 b66 _ _ ls (by omega) (by first | omega | assumption | trivial) (by first | omega | assumption | trivial) (by first | omega | assumption | trivial) hP hD hS (lv_sub hl [1, 2, 3, 0] rfl)
        · have zcp138 := w2r4 (by rw [cp138]; decide)
          refine lv_iconst (v := 1) hx hb dX7_method_141 (by decide) ?_
          refine lv_goto (tgt := 146) hx hb dX7_method_142 (by decide) ?_
          refine lv_istore_n (lv' := [(3, .int 1), (0, .ref h0), (1, .int (nI ci)), (2, .int (nI mi))]) hx hb dX7_method_146 rfl hl (by decide) rfl (fun ls hl => ?_)
          refine lv_iload_n hx hb dX7_method_147 rfl (lv_at hl 0 rfl) ?_
          refine lv_if_eq (tgt := 43) hx hb dX7_method_148 (by decide) (fun c9 => absurd c9 (by decide)) (fun _ => ?_)
          refine lv_aload_n hx hb dX7_method_151 rfl (lv_at hl 1 rfl) ?_
          have hFc := z_freeW hD hS hA
          refine va_callv (va_runV (As := []) (rest := []) ⟨hx, hb, hml, hown, hts⟩ (kX7_next l dC dI h0 r cI cJ cZ v0 a1 tp bs cl a5 a6 a7 fc a9 mb a11 a12 a13 a14 b3 a16 a17 f3 b55 b66 o5 o6 o7 o8 v25 v26 bb ct us a30 a31 a32 a33 a34 a35 a36 a37 pil rwv rl v41 v42 v43 v44 v45 ⟨by omega, by omega, by omega, hcl, hfc, hmb, hct, hpil, hrwv⟩ (by first | omega | assumption | trivial) H.size) (cwV 0 hts zgX7_method_X7_next_195 rfl rfl rfl (by decide +kernel) ⟨(show 2 + 1 ≤ 3 by omega), (show 8 + (2 + 11) + 45 ≤ 66 by omega)⟩) (zVm (ci := 6) (q0 := 0) (q := (RX7, TX7, 46)) hK hP hD hL hS.2.1 hFc rfl rfl rfl) rfl rfl hl.1 rfl (lv_room (Nat.le_of_ble_eq_true rfl)) dX7_method_152 ⟨(show 0 + 0 ≤ 0 by omega), (show 0 + 0 ≤ 0 by omega)⟩) hS (fun q _ h => hFc q h) hFc (fun u15 t H1 locs ht hvm hw hB hz1 hk1 hS => ?_)
          obtain ⟨o11, o12, o13, o14⟩ := u15
          obtain ⟨hP, hK9, hD⟩ := hB
          rw [ht] at hP
          have hD := hD.weaken (fun k q _ h => hFc q.1 h)
          generalize H1 = H at hP hS
          have hP : va_P (dC, dI) vwCl (rW h0 r cI cJ cZ v0 a1 (nI tp) (nI bs) (fun j => nI (cl j)) a5 a6 a7 (fun j => nI (fc j)) a9 (fun j => nI (mb j)) a11 a12 a13 a14 b3 a16 a17 f3 b55 b66 (nI o11) o12 o13 o14 v25 v26 (nI bb) (fun j => nI (ct j)) (nI us) a30 a31 a32 a33 a34 a35 a36 a37 (fun j => nI (pil j)) (fun j => nI (rwv j)) (nI rl) v41 v42 v43 v44 v45) H := hP
          have hD : va_D A (rW h0 r cI cJ cZ v0 a1 (nI tp) (nI bs) (fun j => nI (cl j)) a5 a6 a7 (fun j => nI (fc j)) a9 (fun j => nI (mb j)) a11 a12 a13 a14 b3 a16 a17 f3 b55 b66 (nI o11) o12 o13 o14 v25 v26 (nI bb) (fun j => nI (ct j)) (nI us) a30 a31 a32 a33 a34 a35 a36 a37 (fun j => nI (pil j)) (fun j => nI (rwv j)) (nI rl) v41 v42 v43 v44 v45) := hD
          have hw : (o5 ≤ o11) ∧ (o11 ≤ tp) ∧ (¬ o12 = 0 → o5 < o11) := hw
          obtain ⟨w0r10, w1r10, w2r10⟩ := hw
          refine lv_goto (tgt := 43) hx hb dX7_method_155 (by decide) ?_
          exact ih43 1 o11 o12 o13 o14 b3 f3 b55 b66 _ _ ls (by omega) (by first | omega | assumption | trivial) (by first | omega | assumption | trivial) (by first | omega | assumption | trivial) hP hD hS (lv_sub hl [1, 2, 3, 0] rfl)
      refine lv_iload_n hx hb dX7_method_43 rfl (lv_at hl 3 rfl) ?_
      refine lv_if_eq (tgt := 158) hx hb dX7_method_44 (by decide) (fun cp44 => ?_) (fun cp44 => ?_)
      · have qcp44 : mo = 0 := (nI_eq (a := mo) (b := 0) (by omega) (by omega)).mp cp44
        refine lv_aload_n hx hb dX7_method_158 rfl (lv_at hl 0 rfl) ?_
        refine va_get (D := (dC, dI)) (ci := 6) (v := .int tk) (C := RX7) (T := TX7) (N := 46) hx hb hts hiX7 hown hK hP 0 rfl rfl 22 (by decide) (hts (.fieldLink RX7 136 "LinkModelsModel" "token" "I") (by decide +kernel)) (fun _ h9 => h9) rfl dX7_method_159 ?_
        refine lv_bipush (v := 41) hx hb dX7_method_162 (by decide) ?_
        refine lv_icmp_eq (tgt := 173) hx hb dX7_method_164 (by decide) (fun cp164 => ?_) (fun cp164 => ?_)
        · refine lv_aload_n hx hb dX7_method_173 rfl (lv_at hl 0 rfl) ?_
          refine lv_iload_n hx hb dX7_method_174 rfl (lv_at hl 1 rfl) ?_
          refine lv_iload_n hx hb dX7_method_175 rfl (lv_at hl 2 rfl) ?_
          have hFc := z_freeW hD hS hA
          refine vp_callSi (W.runV (As := [.int (nI ci), .int (nI mi)]) (rest := []) ⟨hx, hb, hml, hown, hts⟩ (kX7_isThere l dC dI h0 r cI cJ cZ v0 a1 tp bs cl a5 a6 a7 fc a9 mb a11 a12 a13 a14 b3 a16 a17 b4 b5 b6 i2 tk ta vl v25 v26 bb ct us a30 a31 a32 a33 a34 a35 a36 a37 pil rwv rl v41 v42 v43 v44 v45 ⟨by omega, by omega, by omega, hcl, hfc, hmb, hct, hpil, hrwv⟩ ci mi (by first | omega | assumption | trivial) (by first | omega | assumption | trivial) H.size) (cwV 2 hts zgX7_method_X7_isThere_229 rfl rfl rfl (by decide +kernel) ⟨(show 0 + 1 ≤ 3 by omega), (show 8 + (5 + 11) + 0 ≤ 66 by omega)⟩) (zVm (ci := 6) (q0 := 0) (q := (RX7, TX7, 46)) hK hP hD hL hS.2.1 hFc rfl rfl rfl) rfl rfl hl.1 rfl (lv_room (Nat.le_of_ble_eq_true rfl)) dX7_method_176 ⟨(show 0 + 0 ≤ 0 by omega), (show 0 + 0 ≤ 0 by omega)⟩) (fun r16 hw => ?_)
          have hw : (r16 = 0 ∨ r16 = 1) := hw
          have w0r16 := hw
          refine lv_if_eq (tgt := 188) hx hb dX7_method_179 (by decide) (fun cp179 => ?_) (fun cp179 => ?_)
          · refine lv_aload_n hx hb dX7_method_188 rfl (lv_at hl 0 rfl) ?_
            have hFc := z_freeW hD hS hA
            refine va_callv (va_runV (As := []) (rest := []) ⟨hx, hb, hml, hown, hts⟩ (kX7_next l dC dI h0 r cI cJ cZ v0 a1 tp bs cl a5 a6 a7 fc a9 mb a11 a12 a13 a14 b3 a16 a17 b4 b5 b6 i2 tk ta vl v25 v26 bb ct us a30 a31 a32 a33 a34 a35 a36 a37 pil rwv rl v41 v42 v43 v44 v45 ⟨by omega, by omega, by omega, hcl, hfc, hmb, hct, hpil, hrwv⟩ (by first | omega | assumption | trivial) H.size) (cwV 0 hts zgX7_method_X7_next_195 rfl rfl rfl (by decide +kernel) ⟨(show 2 + 1 ≤ 3 by omega), (show 8 + (2 + 11) + 45 ≤ 66 by omega)⟩) (zVm (ci := 6) (q0 := 0) (q := (RX7, TX7, 46)) hK hP hD hL hS.2.1 hFc rfl rfl rfl) rfl rfl hl.1 rfl (lv_room (Nat.le_of_ble_eq_true rfl)) dX7_method_189 ⟨(show 0 + 0 ≤ 0 by omega), (show 0 + 0 ≤ 0 by omega)⟩) hS (fun q _ h => hFc q h) hFc (fun u22 t H1 locs ht hvm hw hB hz1 hk1 hS => ?_)
            obtain ⟨o18, o19, o20, o21⟩ := u22
            obtain ⟨hP, hK9, hD⟩ := hB
            rw [ht] at hP
            have hD := hD.weaken (fun k q _ h => hFc q.1 h)
            generalize H1 = H at hP hS
            have hP : va_P (dC, dI) vwCl (rW h0 r cI cJ cZ v0 a1 (nI tp) (nI bs) (fun j => nI (cl j)) a5 a6 a7 (fun j => nI (fc j)) a9 (fun j => nI (mb j)) a11 a12 a13 a14 b3 a16 a17 b4 b5 b6 (nI o18) o19 o20 o21 v25 v26 (nI bb) (fun j => nI (ct j)) (nI us) a30 a31 a32 a33 a34 a35 a36 a37 (fun j => nI (pil j)) (fun j => nI (rwv j)) (nI rl) v41 v42 v43 v44 v45) H := hP
            have hD : va_D A (rW h0 r cI cJ cZ v0 a1 (nI tp) (nI bs) (fun j => nI (cl j)) a5 a6 a7 (fun j => nI (fc j)) a9 (fun j => nI (mb j)) a11 a12 a13 a14 b3 a16 a17 b4 b5 b6 (nI o18) o19 o20 o21 v25 v26 (nI bb) (fun j => nI (ct j)) (nI us) a30 a31 a32 a33 a34 a35 a36 a37 (fun j => nI (pil j)) (fun j => nI (rwv j)) (nI rl) v41 v42 v43 v44 v45) := hD
            have hw : (i2 ≤ o18) ∧ (o18 ≤ tp) ∧ (¬ o19 = 0 → i2 < o18) := hw
            obtain ⟨w0r17, w1r17, w2r17⟩ := hw
            refine lv_iconst (v := 1) hx hb dX7_method_192 (by decide) ?_
            have hP9 : va_P (dC, dI) vwCl (rW h0 r cI cJ cZ v0 a1 (nI tp) (nI bs) (fun j => nI (cl j)) a5 a6 a7 (fun j => nI (fc j)) a9 (fun j => nI (mb j)) a11 a12 a13 a14 b3 a16 a17 b4 b5 b6 (nI o18) o19 o20 o21 v25 v26 (nI bb) (fun j => nI (ct j)) (nI us) a30 a31 a32 a33 a34 a35 a36 a37 (fun j => nI (pil j)) (fun j => nI (rwv j)) (nI rl) v41 v42 v43 v44 v45) H := hP
            have hD9 : va_D A (rW h0 r cI cJ cZ v0 a1 (nI tp) (nI bs) (fun j => nI (cl j)) a5 a6 a7 (fun j => nI (fc j)) a9 (fun j => nI (mb j)) a11 a12 a13 a14 b3 a16 a17 b4 b5 b6 (nI o18) o19 o20 o21 v25 v26 (nI bb) (fun j => nI (ct j)) (nI us) a30 a31 a32 a33 a34 a35 a36 a37 (fun j => nI (pil j)) (fun j => nI (rwv j)) (nI rl) v41 v42 v43 v44 v45) := hD
            exact W.zret (v := (1 : Int32)) hx hb hr rfl (fun t ht hW => ⟨⟨(1 : Int32), (o18, o19, o20, o21, v25, v26, b3, b4, b5, b6), rfl, ⟨(Or.inr rfl), (by first | omega | assumption | trivial), (by first | omega | assumption | trivial)⟩, by rw [ht]; exact hP9, va_K.moved hW.alike hK, hD9⟩, hS.F ht⟩) hS.2.2 dX7_method_193
          · refine lv_aload_n hx hb dX7_method_182 rfl (lv_at hl 0 rfl) ?_
            refine lv_iconst (v := 3) hx hb dX7_method_183 (by decide) ?_
            have hFc := z_freeW hD hS hA
            refine va_calli (va_runV (As := [.int 3]) (rest := []) ⟨hx, hb, hml, hown, hts⟩ (kX7_fails l dC dI h0 r cI cJ cZ v0 a1 tp bs cl a5 a6 a7 fc a9 mb a11 a12 a13 a14 b3 a16 a17 b4 b5 b6 i2 tk ta vl v25 v26 bb ct us a30 a31 a32 a33 a34 a35 a36 a37 pil rwv rl v41 v42 v43 v44 v45 ⟨by omega, by omega, by omega, hcl, hfc, hmb, hct, hpil, hrwv⟩ (3 : Int32) H.size) (cwV 1 hts zgX7_method_X7_fails_192 rfl rfl rfl (by decide +kernel) ⟨(show 0 + 1 ≤ 3 by omega), (show 8 + (2 + 11) + 0 ≤ 66 by omega)⟩) (zVm (ci := 6) (q0 := 0) (q := (RX7, TX7, 46)) hK hP hD hL hS.2.1 hFc rfl rfl rfl) rfl rfl hl.1 rfl (lv_room (Nat.le_of_ble_eq_true rfl)) dX7_method_184 ⟨(show 0 + 0 ≤ 0 by omega), (show 0 + 0 ≤ 0 by omega)⟩) hS (fun q _ h => hFc q h) hFc (fun r23 u26 t H1 locs ht hvm hw hB hz1 hk1 hS => ?_)
            obtain ⟨o24, o25⟩ := u26
            obtain ⟨hP, hK9, hD⟩ := hB
            rw [ht] at hP
            have hD := hD.weaken (fun k q _ h => hFc q.1 h)
            generalize H1 = H at hP hS
            have hP : va_P (dC, dI) vwCl (rW h0 r cI cJ cZ v0 a1 (nI tp) (nI bs) (fun j => nI (cl j)) a5 a6 a7 (fun j => nI (fc j)) a9 (fun j => nI (mb j)) a11 a12 a13 a14 b3 a16 a17 b4 b5 b6 (nI i2) tk ta vl o24 o25 (nI bb) (fun j => nI (ct j)) (nI us) a30 a31 a32 a33 a34 a35 a36 a37 (fun j => nI (pil j)) (fun j => nI (rwv j)) (nI rl) v41 v42 v43 v44 v45) H := hP
            have hD : va_D A (rW h0 r cI cJ cZ v0 a1 (nI tp) (nI bs) (fun j => nI (cl j)) a5 a6 a7 (fun j => nI (fc j)) a9 (fun j => nI (mb j)) a11 a12 a13 a14 b3 a16 a17 b4 b5 b6 (nI i2) tk ta vl o24 o25 (nI bb) (fun j => nI (ct j)) (nI us) a30 a31 a32 a33 a34 a35 a36 a37 (fun j => nI (pil j)) (fun j => nI (rwv j)) (nI rl) v41 v42 v43 v44 v45) := hD
            have hw : (r23 = 0 ∨ r23 = 1) ∧ (r23 = 0) := hw
            obtain ⟨w0r23, w1r23⟩ := hw
            subst w1r23
            have hP9 : va_P (dC, dI) vwCl (rW h0 r cI cJ cZ v0 a1 (nI tp) (nI bs) (fun j => nI (cl j)) a5 a6 a7 (fun j => nI (fc j)) a9 (fun j => nI (mb j)) a11 a12 a13 a14 b3 a16 a17 b4 b5 b6 (nI i2) tk ta vl o24 o25 (nI bb) (fun j => nI (ct j)) (nI us) a30 a31 a32 a33 a34 a35 a36 a37 (fun j => nI (pil j)) (fun j => nI (rwv j)) (nI rl) v41 v42 v43 v44 v45) H := hP
            have hD9 : va_D A (rW h0 r cI cJ cZ v0 a1 (nI tp) (nI bs) (fun j => nI (cl j)) a5 a6 a7 (fun j => nI (fc j)) a9 (fun j => nI (mb j)) a11 a12 a13 a14 b3 a16 a17 b4 b5 b6 (nI i2) tk ta vl o24 o25 (nI bb) (fun j => nI (ct j)) (nI us) a30 a31 a32 a33 a34 a35 a36 a37 (fun j => nI (pil j)) (fun j => nI (rwv j)) (nI rl) v41 v42 v43 v44 v45) := hD
            exact W.zret (v := (0 : Int32)) hx hb hr rfl (fun t ht hW => ⟨⟨(0 : Int32), (i2, tk, ta, vl, o24, o25, b3, b4, b5, b6), rfl, ⟨(Or.inl rfl), (by first | omega | assumption | trivial), (by first | omega | assumption | trivial)⟩, by rw [ht]; exact hP9, va_K.moved hW.alike hK, hD9⟩, hS.F ht⟩) hS.2.2 dX7_method_187
        · refine lv_aload_n hx hb dX7_method_167 rfl (lv_at hl 0 rfl) ?_
          refine lv_iconst (v := 1) hx hb dX7_method_168 (by decide) ?_
          have hFc := z_freeW hD hS hA
          refine va_calli (va_runV (As := [.int 1]) (rest := []) ⟨hx, hb, hml, hown, hts⟩ (kX7_fails l dC dI h0 r cI cJ cZ v0 a1 tp bs cl a5 a6 a7 fc a9 mb a11 a12 a13 a14 b3 a16 a17 b4 b5 b6 i2 tk ta vl v25 v26 bb ct us a30 a31 a32 a33 a34 a35 a36 a37 pil rwv rl v41 v42 v43 v44 v45 ⟨by omega, by omega, by omega, hcl, hfc, hmb, hct, hpil, hrwv⟩ (1 : Int32) H.size) (cwV 1 hts zgX7_method_X7_fails_192 rfl rfl rfl (by decide +kernel) ⟨(show 0 + 1 ≤ 3 by omega), (show 8 + (2 + 11) + 0 ≤ 66 by omega)⟩) (zVm (ci := 6) (q0 := 0) (q := (RX7, TX7, 46)) hK hP hD hL hS.2.1 hFc rfl rfl rfl) rfl rfl hl.1 rfl (lv_room (Nat.le_of_ble_eq_true rfl)) dX7_method_169 ⟨(show 0 + 0 ≤ 0 by omega), (show 0 + 0 ≤ 0 by omega)⟩) hS (fun q _ h => hFc q h) hFc (fun r27 u30 t H1 locs ht hvm hw hB hz1 hk1 hS => ?_)
          obtain ⟨o28, o29⟩ := u30
          obtain ⟨hP, hK9, hD⟩ := hB
          rw [ht] at hP
          have hD := hD.weaken (fun k q _ h => hFc q.1 h)
          generalize H1 = H at hP hS
          have hP : va_P (dC, dI) vwCl (rW h0 r cI cJ cZ v0 a1 (nI tp) (nI bs) (fun j => nI (cl j)) a5 a6 a7 (fun j => nI (fc j)) a9 (fun j => nI (mb j)) a11 a12 a13 a14 b3 a16 a17 b4 b5 b6 (nI i2) tk ta vl o28 o29 (nI bb) (fun j => nI (ct j)) (nI us) a30 a31 a32 a33 a34 a35 a36 a37 (fun j => nI (pil j)) (fun j => nI (rwv j)) (nI rl) v41 v42 v43 v44 v45) H := hP
          have hD : va_D A (rW h0 r cI cJ cZ v0 a1 (nI tp) (nI bs) (fun j => nI (cl j)) a5 a6 a7 (fun j => nI (fc j)) a9 (fun j => nI (mb j)) a11 a12 a13 a14 b3 a16 a17 b4 b5 b6 (nI i2) tk ta vl o28 o29 (nI bb) (fun j => nI (ct j)) (nI us) a30 a31 a32 a33 a34 a35 a36 a37 (fun j => nI (pil j)) (fun j => nI (rwv j)) (nI rl) v41 v42 v43 v44 v45) := hD
          have hw : (r27 = 0 ∨ r27 = 1) ∧ (r27 = 0) := hw
          obtain ⟨w0r27, w1r27⟩ := hw
          subst w1r27
          have hP9 : va_P (dC, dI) vwCl (rW h0 r cI cJ cZ v0 a1 (nI tp) (nI bs) (fun j => nI (cl j)) a5 a6 a7 (fun j => nI (fc j)) a9 (fun j => nI (mb j)) a11 a12 a13 a14 b3 a16 a17 b4 b5 b6 (nI i2) tk ta vl o28 o29 (nI bb) (fun j => nI (ct j)) (nI us) a30 a31 a32 a33 a34 a35 a36 a37 (fun j => nI (pil j)) (fun j => nI (rwv j)) (nI rl) v41 v42 v43 v44 v45) H := hP
          have hD9 : va_D A (rW h0 r cI cJ cZ v0 a1 (nI tp) (nI bs) (fun j => nI (cl j)) a5 a6 a7 (fun j => nI (fc j)) a9 (fun j => nI (mb j)) a11 a12 a13 a14 b3 a16 a17 b4 b5 b6 (nI i2) tk ta vl o28 o29 (nI bb) (fun j => nI (ct j)) (nI us) a30 a31 a32 a33 a34 a35 a36 a37 (fun j => nI (pil j)) (fun j => nI (rwv j)) (nI rl) v41 v42 v43 v44 v45) := hD
          exact W.zret (v := (0 : Int32)) hx hb hr rfl (fun t ht hW => ⟨⟨(0 : Int32), (i2, tk, ta, vl, o28, o29, b3, b4, b5, b6), rfl, ⟨(Or.inl rfl), (by first | omega | assumption | trivial), (by first | omega | assumption | trivial)⟩, by rw [ht]; exact hP9, va_K.moved hW.alike hK, hD9⟩, hS.F ht⟩) hS.2.2 dX7_method_172
      · have qcp44 : ¬ mo = 0 := fun h9 => cp44 ((nI_eq (a := mo) (b := 0) (by omega) (by omega)).mpr h9)
        refine lv_aload_n hx hb dX7_method_47 rfl (lv_at hl 0 rfl) ?_
        have hFc := z_freeW hD hS hA
        refine vp_callSi (W.runV (As := []) (rest := []) ⟨hx, hb, hml, hown, hts⟩ (kX7_isType l dC dI h0 r cI cJ cZ v0 a1 tp bs cl a5 a6 a7 fc a9 mb a11 a12 a13 a14 b3 a16 a17 b4 b5 b6 i2 tk ta vl v25 v26 bb ct us a30 a31 a32 a33 a34 a35 a36 a37 pil rwv rl v41 v42 v43 v44 v45 ⟨by omega, by omega, by omega, hcl, hfc, hmb, hct, hpil, hrwv⟩ H.size) (cwV 0 hts zgX7_method_X7_isType_211 rfl rfl rfl (by decide +kernel) ⟨(show 1 + 1 ≤ 3 by omega), (show 8 + (1 + 11) + 22 ≤ 66 by omega)⟩) (zVm (ci := 6) (q0 := 0) (q := (RX7, TX7, 46)) hK hP hD hL hS.2.1 hFc rfl rfl rfl) rfl rfl hl.1 rfl (lv_room (Nat.le_of_ble_eq_true rfl)) dX7_method_48 ⟨(show 0 + 0 ≤ 0 by omega), (show 0 + 0 ≤ 0 by omega)⟩) (fun r31 hw => ?_)
        have hw : (r31 = 0 ∨ r31 = 1) := hw
        have w0r31 := hw
        refine lv_if_eq (tgt := 64) hx hb dX7_method_51 (by decide) (fun cp51 => ?_) (fun cp51 => ?_)
        · refine lv_aload_n hx hb dX7_method_64 rfl (lv_at hl 0 rfl) ?_
          refine lv_iconst (v := 1) hx hb dX7_method_65 (by decide) ?_
          have hFc := z_freeW hD hS hA
          refine va_calli (va_runV (As := [.int 1]) (rest := []) ⟨hx, hb, hml, hown, hts⟩ (kX7_fails l dC dI h0 r cI cJ cZ v0 a1 tp bs cl a5 a6 a7 fc a9 mb a11 a12 a13 a14 b3 a16 a17 b4 b5 b6 i2 tk ta vl v25 v26 bb ct us a30 a31 a32 a33 a34 a35 a36 a37 pil rwv rl v41 v42 v43 v44 v45 ⟨by omega, by omega, by omega, hcl, hfc, hmb, hct, hpil, hrwv⟩ (1 : Int32) H.size) (cwV 1 hts zgX7_method_X7_fails_192 rfl rfl rfl (by decide +kernel) ⟨(show 0 + 1 ≤ 3 by omega), (show 8 + (2 + 11) + 0 ≤ 66 by omega)⟩) (zVm (ci := 6) (q0 := 0) (q := (RX7, TX7, 46)) hK hP hD hL hS.2.1 hFc rfl rfl rfl) rfl rfl hl.1 rfl (lv_room (Nat.le_of_ble_eq_true rfl)) dX7_method_66 ⟨(show 0 + 0 ≤ 0 by omega), (show 0 + 0 ≤ 0 by omega)⟩) hS (fun q _ h => hFc q h) hFc (fun r32 u35 t H1 locs ht hvm hw hB hz1 hk1 hS => ?_)
          obtain ⟨o33, o34⟩ := u35
          obtain ⟨hP, hK9, hD⟩ := hB
          rw [ht] at hP
          have hD := hD.weaken (fun k q _ h => hFc q.1 h)
          generalize H1 = H at hP hS
          have hP : va_P (dC, dI) vwCl (rW h0 r cI cJ cZ v0 a1 (nI tp) (nI bs) (fun j => nI (cl j)) a5 a6 a7 (fun j => nI (fc j)) a9 (fun j => nI (mb j)) a11 a12 a13 a14 b3 a16 a17 b4 b5 b6 (nI i2) tk ta vl o33 o34 (nI bb) (fun j => nI (ct j)) (nI us) a30 a31 a32 a33 a34 a35 a36 a37 (fun j => nI (pil j)) (fun j => nI (rwv j)) (nI rl) v41 v42 v43 v44 v45) H := hP
          have hD : va_D A (rW h0 r cI cJ cZ v0 a1 (nI tp) (nI bs) (fun j => nI (cl j)) a5 a6 a7 (fun j => nI (fc j)) a9 (fun j => nI (mb j)) a11 a12 a13 a14 b3 a16 a17 b4 b5 b6 (nI i2) tk ta vl o33 o34 (nI bb) (fun j => nI (ct j)) (nI us) a30 a31 a32 a33 a34 a35 a36 a37 (fun j => nI (pil j)) (fun j => nI (rwv j)) (nI rl) v41 v42 v43 v44 v45) := hD
          have hw : (r32 = 0 ∨ r32 = 1) ∧ (r32 = 0) := hw
          obtain ⟨w0r32, w1r32⟩ := hw
          subst w1r32
          have hP9 : va_P (dC, dI) vwCl (rW h0 r cI cJ cZ v0 a1 (nI tp) (nI bs) (fun j => nI (cl j)) a5 a6 a7 (fun j => nI (fc j)) a9 (fun j => nI (mb j)) a11 a12 a13 a14 b3 a16 a17 b4 b5 b6 (nI i2) tk ta vl o33 o34 (nI bb) (fun j => nI (ct j)) (nI us) a30 a31 a32 a33 a34 a35 a36 a37 (fun j => nI (pil j)) (fun j => nI (rwv j)) (nI rl) v41 v42 v43 v44 v45) H := hP
          have hD9 : va_D A (rW h0 r cI cJ cZ v0 a1 (nI tp) (nI bs) (fun j => nI (cl j)) a5 a6 a7 (fun j => nI (fc j)) a9 (fun j => nI (mb j)) a11 a12 a13 a14 b3 a16 a17 b4 b5 b6 (nI i2) tk ta vl o33 o34 (nI bb) (fun j => nI (ct j)) (nI us) a30 a31 a32 a33 a34 a35 a36 a37 (fun j => nI (pil j)) (fun j => nI (rwv j)) (nI rl) v41 v42 v43 v44 v45) := hD
          exact W.zret (v := (0 : Int32)) hx hb hr rfl (fun t ht hW => ⟨⟨(0 : Int32), (i2, tk, ta, vl, o33, o34, b3, b4, b5, b6), rfl, ⟨(Or.inl rfl), (by first | omega | assumption | trivial), (by first | omega | assumption | trivial)⟩, by rw [ht]; exact hP9, va_K.moved hW.alike hK, hD9⟩, hS.F ht⟩) hS.2.2 dX7_method_69
        · refine lv_aload_n hx hb dX7_method_54 rfl (lv_at hl 0 rfl) ?_
          obtain ⟨x36, hZ9⟩ := zL_4 hL
          refine va_gets hx hb hZ9 hS hown (hts (.fieldLink RX7 177 "LinkModelsModel" "VOID" "J") (by decide +kernel)) (fun _ h9 => h9) dX7_method_55 ?_
          have hFc := z_freeW hD hS hA
          refine vp_callSi (W.runV (As := [.long x36]) (rest := []) ⟨hx, hb, hml, hown, hts⟩ (kX7_isWord l dC dI h0 r cI cJ cZ v0 a1 tp bs cl a5 a6 a7 fc a9 mb a11 a12 a13 a14 b3 a16 a17 b4 b5 b6 i2 tk ta vl v25 v26 bb ct us a30 a31 a32 a33 a34 a35 a36 a37 pil rwv rl v41 v42 v43 v44 v45 ⟨by omega, by omega, by omega, hcl, hfc, hmb, hct, hpil, hrwv⟩ x36 H.size) (cwV 1 hts zgX7_method_X7_isWord_164 rfl rfl rfl (by decide +kernel) ⟨(show 0 + 1 ≤ 3 by omega), (show 8 + (3 + 11) + 0 ≤ 66 by omega)⟩) (zVm (ci := 6) (q0 := 0) (q := (RX7, TX7, 46)) hK hP hD hL hS.2.1 hFc rfl rfl rfl) rfl rfl hl.1 rfl (lv_room (Nat.le_of_ble_eq_true rfl)) dX7_method_58 ⟨(show 0 + 0 ≤ 0 by omega), (show 0 + 0 ≤ 0 by omega)⟩) (fun r37 hw => ?_)
          have hw : (r37 = 0 ∨ r37 = 1) ∧ (r37 = 1 → tk = 87) := hw
          obtain ⟨w0r37, w1r37⟩ := hw
          refine lv_if_eq (tgt := 70) hx hb dX7_method_61 (by decide) (fun cp61 => ?_) (fun cp61 => ?_)
          · refine lv_aload_n hx hb dX7_method_70 rfl (lv_at hl 0 rfl) ?_
            refine va_get (D := (dC, dI)) (ci := 6) (v := .ref (r 18)) (C := RX7) (T := TX7) (N := 46) hx hb hts hiX7 hown hK hP 0 rfl rfl 18 (by decide) (hts (.fieldLink RX7 61 "LinkModelsModel" "many" "[I") (by decide +kernel)) (fun _ h9 => h9) rfl dX7_method_71 ?_
            refine lv_iload_n hx hb dX7_method_74 rfl (lv_at hl 2 rfl) ?_
            refine va_iald hx hb hK hP 16 0 rfl rfl (vp_in_nI (show mi < 960 by omega) (by decide)) dX7_method_75 ?_
            refine lv_topi (fun x38 ex38 => ?_)
            obtain rfl : x38 = b4 mi := by rw [ex38, nI_clamp (show mi < 2 ^ 31 by omega)]
            refine lv_iconst (v := 2) hx hb dX7_method_76 (by decide) ?_
            refine lv_icmp_ne (tgt := 86) hx hb dX7_method_77 (by decide) (fun cp77 => ?_) (fun cp77 => ?_)
            · refine lv_aload_n hx hb dX7_method_86 rfl (lv_at hl 0 rfl) ?_
              refine va_get (D := (dC, dI)) (ci := 6) (v := .ref (r 18)) (C := RX7) (T := TX7) (N := 46) hx hb hts hiX7 hown hK hP 0 rfl rfl 18 (by decide) (hts (.fieldLink RX7 61 "LinkModelsModel" "many" "[I") (by decide +kernel)) (fun _ h9 => h9) rfl dX7_method_87 ?_
              refine lv_iload_n hx hb dX7_method_90 rfl (lv_at hl 2 rfl) ?_
              refine va_iald hx hb hK hP 16 0 rfl rfl (vp_in_nI (show mi < 960 by omega) (by decide)) dX7_method_91 ?_
              refine lv_topi (fun x39 ex39 => ?_)
              obtain rfl : x39 = b4 mi := by rw [ex39, nI_clamp (show mi < 2 ^ 31 by omega)]
              refine lv_if_ne (tgt := 108) hx hb dX7_method_92 (by decide) (fun cp92 => ?_) (fun cp92 => ?_)
              · refine lv_aload_n hx hb dX7_method_108 rfl (lv_at hl 0 rfl) ?_
                refine va_get (D := (dC, dI)) (ci := 6) (v := .ref (r 20)) (C := RX7) (T := TX7) (N := 46) hx hb hts hiX7 hown hK hP 0 rfl rfl 20 (by decide) (hts (.fieldLink RX7 67 "LinkModelsModel" "second" "[I") (by decide +kernel)) (fun _ h9 => h9) rfl dX7_method_109 ?_
                refine lv_iload_n hx hb dX7_method_112 rfl (lv_at hl 2 rfl) ?_
                refine lv_aload_n hx hb dX7_method_113 rfl (lv_at hl 0 rfl) ?_
                have hFc := z_freeW hD hS hA
                refine vp_callSi (W.runV (As := []) (rest := [.int (nI mi), .ref (r 20)]) ⟨hx, hb, hml, hown, hts⟩ (kX7_typeNow l dC dI h0 r cI cJ cZ v0 a1 tp bs cl a5 a6 a7 fc a9 mb a11 a12 a13 a14 b3 a16 a17 b4 b5 b6 i2 tk ta vl v25 v26 bb ct us a30 a31 a32 a33 a34 a35 a36 a37 pil rwv rl v41 v42 v43 v44 v45 ⟨by omega, by omega, by omega, hcl, hfc, hmb, hct, hpil, hrwv⟩ H.size) (cwV 0 hts zgX7_method_X7_typeNow_215 rfl rfl rfl (by decide +kernel) ⟨(show 1 + 1 ≤ 3 by omega), (show 8 + (1 + 11) + 22 ≤ 66 by omega)⟩) (zVm (ci := 6) (q0 := 0) (q := (RX7, TX7, 46)) hK hP hD hL hS.2.1 hFc rfl rfl rfl) rfl rfl hl.1 rfl (lv_room (Nat.le_of_ble_eq_true rfl)) dX7_method_114 ⟨(show 0 + 0 ≤ 0 by omega), (show 0 + 0 ≤ 0 by omega)⟩) (fun r40 hw => ?_)
                have hw : (True) := hw
                have w0r40 := hw
                refine va_iast hx hb hK hP hD hS 18 0 rfl rfl (vp_in_nI (show mi < 960 by omega) (by decide)) dX7_method_117 (fun H locs hP hD hS => ?_)
                obtain ⟨f41, hP, hD⟩ : ∃ g : Nat → Int32, va_P (dC, dI) vwCl (rW h0 r cI cJ cZ v0 a1 (nI tp) (nI bs) (fun j => nI (cl j)) a5 a6 a7 (fun j => nI (fc j)) a9 (fun j => nI (mb j)) a11 a12 a13 a14 b3 a16 a17 b4 b5 g (nI i2) tk ta vl v25 v26 (nI bb) (fun j => nI (ct j)) (nI us) a30 a31 a32 a33 a34 a35 a36 a37 (fun j => nI (pil j)) (fun j => nI (rwv j)) (nI rl) v41 v42 v43 v44 v45) H ∧ va_D A (rW h0 r cI cJ cZ v0 a1 (nI tp) (nI bs) (fun j => nI (cl j)) a5 a6 a7 (fun j => nI (fc j)) a9 (fun j => nI (mb j)) a11 a12 a13 a14 b3 a16 a17 b4 b5 g (nI i2) tk ta vl v25 v26 (nI bb) (fun j => nI (ct j)) (nI us) a30 a31 a32 a33 a34 a35 a36 a37 (fun j => nI (pil j)) (fun j => nI (rwv j)) (nI rl) v41 v42 v43 v44 v45) := ⟨_, hP, hD⟩
                exact J118 b5 f41 _ _ ls  (by first | omega | assumption | trivial) hP hD hS (lv_sub hl [0, 1, 2] rfl)
              · refine lv_aload_n hx hb dX7_method_95 rfl (lv_at hl 0 rfl) ?_
                refine va_get (D := (dC, dI)) (ci := 6) (v := .ref (r 19)) (C := RX7) (T := TX7) (N := 46) hx hb hts hiX7 hown hK hP 0 rfl rfl 19 (by decide) (hts (.fieldLink RX7 64 "LinkModelsModel" "first" "[I") (by decide +kernel)) (fun _ h9 => h9) rfl dX7_method_96 ?_
                refine lv_iload_n hx hb dX7_method_99 rfl (lv_at hl 2 rfl) ?_
                refine lv_aload_n hx hb dX7_method_100 rfl (lv_at hl 0 rfl) ?_
                have hFc := z_freeW hD hS hA
                refine vp_callSi (W.runV (As := []) (rest := [.int (nI mi), .ref (r 19)]) ⟨hx, hb, hml, hown, hts⟩ (kX7_typeNow l dC dI h0 r cI cJ cZ v0 a1 tp bs cl a5 a6 a7 fc a9 mb a11 a12 a13 a14 b3 a16 a17 b4 b5 b6 i2 tk ta vl v25 v26 bb ct us a30 a31 a32 a33 a34 a35 a36 a37 pil rwv rl v41 v42 v43 v44 v45 ⟨by omega, by omega, by omega, hcl, hfc, hmb, hct, hpil, hrwv⟩ H.size) (cwV 0 hts zgX7_method_X7_typeNow_215 rfl rfl rfl (by decide +kernel) ⟨(show 1 + 1 ≤ 3 by omega), (show 8 + (1 + 11) + 22 ≤ 66 by omega)⟩) (zVm (ci := 6) (q0 := 0) (q := (RX7, TX7, 46)) hK hP hD hL hS.2.1 hFc rfl rfl rfl) rfl rfl hl.1 rfl (lv_room (Nat.le_of_ble_eq_true rfl)) dX7_method_101 ⟨(show 0 + 0 ≤ 0 by omega), (show 0 + 0 ≤ 0 by omega)⟩) (fun r42 hw => ?_)
                have hw : (True) := hw
                have w0r42 := hw
                refine va_iast hx hb hK hP hD hS 17 0 rfl rfl (vp_in_nI (show mi < 960 by omega) (by decide)) dX7_method_104 (fun H locs hP hD hS => ?_)
                obtain ⟨f43, hP, hD⟩ : ∃ g : Nat → Int32, va_P (dC, dI) vwCl (rW h0 r cI cJ cZ v0 a1 (nI tp) (nI bs) (fun j => nI (cl j)) a5 a6 a7 (fun j => nI (fc j)) a9 (fun j => nI (mb j)) a11 a12 a13 a14 b3 a16 a17 b4 g b6 (nI i2) tk ta vl v25 v26 (nI bb) (fun j => nI (ct j)) (nI us) a30 a31 a32 a33 a34 a35 a36 a37 (fun j => nI (pil j)) (fun j => nI (rwv j)) (nI rl) v41 v42 v43 v44 v45) H ∧ va_D A (rW h0 r cI cJ cZ v0 a1 (nI tp) (nI bs) (fun j => nI (cl j)) a5 a6 a7 (fun j => nI (fc j)) a9 (fun j => nI (mb j)) a11 a12 a13 a14 b3 a16 a17 b4 g b6 (nI i2) tk ta vl v25 v26 (nI bb) (fun j => nI (ct j)) (nI us) a30 a31 a32 a33 a34 a35 a36 a37 (fun j => nI (pil j)) (fun j => nI (rwv j)) (nI rl) v41 v42 v43 v44 v45) := ⟨_, hP, hD⟩
                refine lv_goto (tgt := 118) hx hb dX7_method_105 (by decide) ?_
                exact J118 f43 b6 _ _ ls  (by first | omega | assumption | trivial) hP hD hS (lv_sub hl [0, 1, 2] rfl)
            · refine lv_aload_n hx hb dX7_method_80 rfl (lv_at hl 0 rfl) ?_
              refine lv_iconst (v := 2) hx hb dX7_method_81 (by decide) ?_
              have hFc := z_freeW hD hS hA
              refine va_calli (va_runV (As := [.int 2]) (rest := []) ⟨hx, hb, hml, hown, hts⟩ (kX7_fails l dC dI h0 r cI cJ cZ v0 a1 tp bs cl a5 a6 a7 fc a9 mb a11 a12 a13 a14 b3 a16 a17 b4 b5 b6 i2 tk ta vl v25 v26 bb ct us a30 a31 a32 a33 a34 a35 a36 a37 pil rwv rl v41 v42 v43 v44 v45 ⟨by omega, by omega, by omega, hcl, hfc, hmb, hct, hpil, hrwv⟩ (2 : Int32) H.size) (cwV 1 hts zgX7_method_X7_fails_192 rfl rfl rfl (by decide +kernel) ⟨(show 0 + 1 ≤ 3 by omega), (show 8 + (2 + 11) + 0 ≤ 66 by omega)⟩) (zVm (ci := 6) (q0 := 0) (q := (RX7, TX7, 46)) hK hP hD hL hS.2.1 hFc rfl rfl rfl) rfl rfl hl.1 rfl (lv_room (Nat.le_of_ble_eq_true rfl)) dX7_method_82 ⟨(show 0 + 0 ≤ 0 by omega), (show 0 + 0 ≤ 0 by omega)⟩) hS (fun q _ h => hFc q h) hFc (fun r44 u47 t H1 locs ht hvm hw hB hz1 hk1 hS => ?_)
              obtain ⟨o45, o46⟩ := u47
              obtain ⟨hP, hK9, hD⟩ := hB
              rw [ht] at hP
              have hD := hD.weaken (fun k q _ h => hFc q.1 h)
              generalize H1 = H at hP hS
              have hP : va_P (dC, dI) vwCl (rW h0 r cI cJ cZ v0 a1 (nI tp) (nI bs) (fun j => nI (cl j)) a5 a6 a7 (fun j => nI (fc j)) a9 (fun j => nI (mb j)) a11 a12 a13 a14 b3 a16 a17 b4 b5 b6 (nI i2) tk ta vl o45 o46 (nI bb) (fun j => nI (ct j)) (nI us) a30 a31 a32 a33 a34 a35 a36 a37 (fun j => nI (pil j)) (fun j => nI (rwv j)) (nI rl) v41 v42 v43 v44 v45) H := hP
              have hD : va_D A (rW h0 r cI cJ cZ v0 a1 (nI tp) (nI bs) (fun j => nI (cl j)) a5 a6 a7 (fun j => nI (fc j)) a9 (fun j => nI (mb j)) a11 a12 a13 a14 b3 a16 a17 b4 b5 b6 (nI i2) tk ta vl o45 o46 (nI bb) (fun j => nI (ct j)) (nI us) a30 a31 a32 a33 a34 a35 a36 a37 (fun j => nI (pil j)) (fun j => nI (rwv j)) (nI rl) v41 v42 v43 v44 v45) := hD
              have hw : (r44 = 0 ∨ r44 = 1) ∧ (r44 = 0) := hw
              obtain ⟨w0r44, w1r44⟩ := hw
              subst w1r44
              have hP9 : va_P (dC, dI) vwCl (rW h0 r cI cJ cZ v0 a1 (nI tp) (nI bs) (fun j => nI (cl j)) a5 a6 a7 (fun j => nI (fc j)) a9 (fun j => nI (mb j)) a11 a12 a13 a14 b3 a16 a17 b4 b5 b6 (nI i2) tk ta vl o45 o46 (nI bb) (fun j => nI (ct j)) (nI us) a30 a31 a32 a33 a34 a35 a36 a37 (fun j => nI (pil j)) (fun j => nI (rwv j)) (nI rl) v41 v42 v43 v44 v45) H := hP
              have hD9 : va_D A (rW h0 r cI cJ cZ v0 a1 (nI tp) (nI bs) (fun j => nI (cl j)) a5 a6 a7 (fun j => nI (fc j)) a9 (fun j => nI (mb j)) a11 a12 a13 a14 b3 a16 a17 b4 b5 b6 (nI i2) tk ta vl o45 o46 (nI bb) (fun j => nI (ct j)) (nI us) a30 a31 a32 a33 a34 a35 a36 a37 (fun j => nI (pil j)) (fun j => nI (rwv j)) (nI rl) v41 v42 v43 v44 v45) := hD
              exact W.zret (v := (0 : Int32)) hx hb hr rfl (fun t ht hW => ⟨⟨(0 : Int32), (i2, tk, ta, vl, o45, o46, b3, b4, b5, b6), rfl, ⟨(Or.inl rfl), (by first | omega | assumption | trivial), (by first | omega | assumption | trivial)⟩, by rw [ht]; exact hP9, va_K.moved hW.alike hK, hD9⟩, hS.F ht⟩) hS.2.2 dX7_method_85
          · refine lv_aload_n hx hb dX7_method_64 rfl (lv_at hl 0 rfl) ?_
            refine lv_iconst (v := 1) hx hb dX7_method_65 (by decide) ?_
            have hFc := z_freeW hD hS hA
            refine va_calli (va_runV (As := [.int 1]) (rest := []) ⟨hx, hb, hml, hown, hts⟩ (kX7_fails l dC dI h0 r cI cJ cZ v0 a1 tp bs cl a5 a6 a7 fc a9 mb a11 a12 a13 a14 b3 a16 a17 b4 b5 b6 i2 tk ta vl v25 v26 bb ct us a30 a31 a32 a33 a34 a35 a36 a37 pil rwv rl v41 v42 v43 v44 v45 ⟨by omega, by omega, by omega, hcl, hfc, hmb, hct, hpil, hrwv⟩ (1 : Int32) H.size) (cwV 1 hts zgX7_method_X7_fails_192 rfl rfl rfl (by decide +kernel) ⟨(show 0 + 1 ≤ 3 by omega), (show 8 + (2 + 11) + 0 ≤ 66 by omega)⟩) (zVm (ci := 6) (q0 := 0) (q := (RX7, TX7, 46)) hK hP hD hL hS.2.1 hFc rfl rfl rfl) rfl rfl hl.1 rfl (lv_room (Nat.le_of_ble_eq_true rfl)) dX7_method_66 ⟨(show 0 + 0 ≤ 0 by omega), (show 0 + 0 ≤ 0 by omega)⟩) hS (fun q _ h => hFc q h) hFc (fun r48 u51 t H1 locs ht hvm hw hB hz1 hk1 hS => ?_)
            obtain ⟨o49, o50⟩ := u51
            obtain ⟨hP, hK9, hD⟩ := hB
            rw [ht] at hP
            have hD := hD.weaken (fun k q _ h => hFc q.1 h)
            generalize H1 = H at hP hS
            have hP : va_P (dC, dI) vwCl (rW h0 r cI cJ cZ v0 a1 (nI tp) (nI bs) (fun j => nI (cl j)) a5 a6 a7 (fun j => nI (fc j)) a9 (fun j => nI (mb j)) a11 a12 a13 a14 b3 a16 a17 b4 b5 b6 (nI i2) tk ta vl o49 o50 (nI bb) (fun j => nI (ct j)) (nI us) a30 a31 a32 a33 a34 a35 a36 a37 (fun j => nI (pil j)) (fun j => nI (rwv j)) (nI rl) v41 v42 v43 v44 v45) H := hP
            have hD : va_D A (rW h0 r cI cJ cZ v0 a1 (nI tp) (nI bs) (fun j => nI (cl j)) a5 a6 a7 (fun j => nI (fc j)) a9 (fun j => nI (mb j)) a11 a12 a13 a14 b3 a16 a17 b4 b5 b6 (nI i2) tk ta vl o49 o50 (nI bb) (fun j => nI (ct j)) (nI us) a30 a31 a32 a33 a34 a35 a36 a37 (fun j => nI (pil j)) (fun j => nI (rwv j)) (nI rl) v41 v42 v43 v44 v45) := hD
            have hw : (r48 = 0 ∨ r48 = 1) ∧ (r48 = 0) := hw
            obtain ⟨w0r48, w1r48⟩ := hw
            subst w1r48
            have hP9 : va_P (dC, dI) vwCl (rW h0 r cI cJ cZ v0 a1 (nI tp) (nI bs) (fun j => nI (cl j)) a5 a6 a7 (fun j => nI (fc j)) a9 (fun j => nI (mb j)) a11 a12 a13 a14 b3 a16 a17 b4 b5 b6 (nI i2) tk ta vl o49 o50 (nI bb) (fun j => nI (ct j)) (nI us) a30 a31 a32 a33 a34 a35 a36 a37 (fun j => nI (pil j)) (fun j => nI (rwv j)) (nI rl) v41 v42 v43 v44 v45) H := hP
            have hD9 : va_D A (rW h0 r cI cJ cZ v0 a1 (nI tp) (nI bs) (fun j => nI (cl j)) a5 a6 a7 (fun j => nI (fc j)) a9 (fun j => nI (mb j)) a11 a12 a13 a14 b3 a16 a17 b4 b5 b6 (nI i2) tk ta vl o49 o50 (nI bb) (fun j => nI (ct j)) (nI us) a30 a31 a32 a33 a34 a35 a36 a37 (fun j => nI (pil j)) (fun j => nI (rwv j)) (nI rl) v41 v42 v43 v44 v45) := hD
            exact W.zret (v := (0 : Int32)) hx hb hr rfl (fun t ht hW => ⟨⟨(0 : Int32), (i2, tk, ta, vl, o49, o50, b3, b4, b5, b6), rfl, ⟨(Or.inl rfl), (by first | omega | assumption | trivial), (by first | omega | assumption | trivial)⟩, by rw [ht]; exact hP9, va_K.moved hW.alike hK, hD9⟩, hS.F ht⟩) hS.2.2 dX7_method_69
  refine lv_aload_n hx hb dX7_method_0 rfl (lv_at hl 0 rfl) ?_
  refine va_get (D := (dC, dI)) (ci := 6) (v := .ref (r 14)) (C := RX7) (T := TX7) (N := 46) hx hb hts hiX7 hown hK hP 0 rfl rfl 14 (by decide) (hts (.fieldLink RX7 48 "LinkModelsModel" "marks" "[I") (by decide +kernel)) (fun _ h9 => h9) rfl dX7_method_1 ?_
  refine lv_iload_n hx hb dX7_method_4 rfl (lv_at hl 2 rfl) ?_
  refine va_iald hx hb hK hP 12 0 rfl rfl (vp_in_nI (show mi < 960 by omega) (by decide)) dX7_method_5 ?_
  refine lv_topi (fun x52 ex52 => ?_)
  obtain rfl : x52 = a14 mi := by rw [ex52, nI_clamp (show mi < 2 ^ 31 by omega)]
  refine lv_iconst (v := 4) hx hb dX7_method_6 (by decide) ?_
  refine lv_iand hx hb dX7_method_7 ?_
  refine lv_topi (fun x53 ex53 => ?_)
  refine lv_if_eq (tgt := 17) hx hb dX7_method_8 (by decide) (fun cp8 => ?_) (fun cp8 => ?_)
  · refine lv_aload_n hx hb dX7_method_17 rfl (lv_at hl 0 rfl) ?_
    refine va_get (D := (dC, dI)) (ci := 6) (v := .ref (r 15)) (C := RX7) (T := TX7) (N := 46) hx hb hts hiX7 hown hK hP 0 rfl rfl 15 (by decide) (hts (.fieldLink RX7 51 "LinkModelsModel" "isMethod" "[Z") (by decide +kernel)) (fun _ h9 => h9) rfl dX7_method_18 ?_
    refine lv_iload_n hx hb dX7_method_21 rfl (lv_at hl 2 rfl) ?_
    refine lv_iconst (v := 1) hx hb dX7_method_22 (by decide) ?_
    refine va_zast hx hb hK hP hD hS 13 2 rfl rfl (vp_in_nI (show mi < 960 by omega) (by decide)) dX7_method_23 (fun H locs hP hD hS => ?_)
    obtain ⟨f54, hP, hD⟩ : ∃ g : Nat → Int32, va_P (dC, dI) vwCl (rW h0 r cI cJ cZ v0 a1 (nI tp) (nI bs) (fun j => nI (cl j)) a5 a6 a7 (fun j => nI (fc j)) a9 (fun j => nI (mb j)) a11 a12 a13 a14 g a16 a17 a18 a19 a20 (nI az) v22 v23 v24 v25 v26 (nI bb) (fun j => nI (ct j)) (nI us) a30 a31 a32 a33 a34 a35 a36 a37 (fun j => nI (pil j)) (fun j => nI (rwv j)) (nI rl) v41 v42 v43 v44 v45) H ∧ va_D A (rW h0 r cI cJ cZ v0 a1 (nI tp) (nI bs) (fun j => nI (cl j)) a5 a6 a7 (fun j => nI (fc j)) a9 (fun j => nI (mb j)) a11 a12 a13 a14 g a16 a17 a18 a19 a20 (nI az) v22 v23 v24 v25 v26 (nI bb) (fun j => nI (ct j)) (nI us) a30 a31 a32 a33 a34 a35 a36 a37 (fun j => nI (pil j)) (fun j => nI (rwv j)) (nI rl) v41 v42 v43 v44 v45) := ⟨_, hP, hD⟩
    refine lv_aload_n hx hb dX7_method_24 rfl (lv_at hl 0 rfl) ?_
    have hFc := z_freeW hD hS hA
    refine va_callv (va_runV (As := []) (rest := []) ⟨hx, hb, hml, hown, hts⟩ (kX7_next l dC dI h0 r cI cJ cZ v0 a1 tp bs cl a5 a6 a7 fc a9 mb a11 a12 a13 a14 f54 a16 a17 a18 a19 a20 az v22 v23 v24 v25 v26 bb ct us a30 a31 a32 a33 a34 a35 a36 a37 pil rwv rl v41 v42 v43 v44 v45 ⟨by omega, by omega, by omega, hcl, hfc, hmb, hct, hpil, hrwv⟩ (by first | omega | assumption | trivial) H.size) (cwV 0 hts zgX7_method_X7_next_195 rfl rfl rfl (by decide +kernel) ⟨(show 2 + 1 ≤ 3 by omega), (show 8 + (2 + 11) + 45 ≤ 66 by omega)⟩) (zVm (ci := 6) (q0 := 0) (q := (RX7, TX7, 46)) hK hP hD hL hS.2.1 hFc rfl rfl rfl) rfl rfl hl.1 rfl (lv_room (Nat.le_of_ble_eq_true rfl)) dX7_method_25 ⟨(show 0 + 0 ≤ 0 by omega), (show 0 + 0 ≤ 0 by omega)⟩) hS (fun q _ h => hFc q h) hFc (fun u60 t H1 locs ht hvm hw hB hz1 hk1 hS => ?_)
    obtain ⟨o56, o57, o58, o59⟩ := u60
    obtain ⟨hP, hK9, hD⟩ := hB
    rw [ht] at hP
    have hD := hD.weaken (fun k q _ h => hFc q.1 h)
    generalize H1 = H at hP hS
    have hP : va_P (dC, dI) vwCl (rW h0 r cI cJ cZ v0 a1 (nI tp) (nI bs) (fun j => nI (cl j)) a5 a6 a7 (fun j => nI (fc j)) a9 (fun j => nI (mb j)) a11 a12 a13 a14 f54 a16 a17 a18 a19 a20 (nI o56) o57 o58 o59 v25 v26 (nI bb) (fun j => nI (ct j)) (nI us) a30 a31 a32 a33 a34 a35 a36 a37 (fun j => nI (pil j)) (fun j => nI (rwv j)) (nI rl) v41 v42 v43 v44 v45) H := hP
    have hD : va_D A (rW h0 r cI cJ cZ v0 a1 (nI tp) (nI bs) (fun j => nI (cl j)) a5 a6 a7 (fun j => nI (fc j)) a9 (fun j => nI (mb j)) a11 a12 a13 a14 f54 a16 a17 a18 a19 a20 (nI o56) o57 o58 o59 v25 v26 (nI bb) (fun j => nI (ct j)) (nI us) a30 a31 a32 a33 a34 a35 a36 a37 (fun j => nI (pil j)) (fun j => nI (rwv j)) (nI rl) v41 v42 v43 v44 v45) := hD
    have hw : (az ≤ o56) ∧ (o56 ≤ tp) ∧ (¬ o57 = 0 → az < o56) := hw
    obtain ⟨w0r55, w1r55, w2r55⟩ := hw
    refine lv_aload_n hx hb dX7_method_28 rfl (lv_at hl 0 rfl) ?_
    refine va_get (D := (dC, dI)) (ci := 6) (v := .int o57) (C := RX7) (T := TX7) (N := 46) hx hb hts hiX7 hown hK hP 0 rfl rfl 22 (by decide) (hts (.fieldLink RX7 136 "LinkModelsModel" "token" "I") (by decide +kernel)) (fun _ h9 => h9) rfl dX7_method_29 ?_
    refine lv_bipush (v := 41) hx hb dX7_method_32 (by decide) ?_
    refine lv_icmp_eq (tgt := 41) hx hb dX7_method_34 (by decide) (fun cp34 => ?_) (fun cp34 => ?_)
    · have zcp34 := w2r55 (by rw [cp34]; decide)
      refine lv_iconst (v := 0) hx hb dX7_method_41 (by decide) ?_
      refine lv_istore_n (lv' := [(3, .int 0), (0, .ref h0), (1, .int (nI ci)), (2, .int (nI mi))]) hx hb dX7_method_42 rfl hl (by decide) rfl (fun ls hl => ?_)
      exact J43 _ 0 o56 o57 o58 o59 f54 a18 a19 a20 _ _ ls (Nat.lt_succ_self _) (by first | omega | assumption | trivial) (by first | omega | assumption | trivial) (by first | omega | assumption | trivial) hP hD hS (lv_sub hl [1, 2, 3, 0] rfl)
    · refine lv_iconst (v := 1) hx hb dX7_method_37 (by decide) ?_
      refine lv_goto (tgt := 42) hx hb dX7_method_38 (by decide) ?_
      refine lv_istore_n (lv' := [(3, .int 1), (0, .ref h0), (1, .int (nI ci)), (2, .int (nI mi))]) hx hb dX7_method_42 rfl hl (by decide) rfl (fun ls hl => ?_)
      exact J43 _ 1 o56 o57 o58 o59 f54 a18 a19 a20 _ _ ls (Nat.lt_succ_self _) (by first | omega | assumption | trivial) (by first | omega | assumption | trivial) (by first | omega | assumption | trivial) hP hD hS (lv_sub hl [1, 2, 3, 0] rfl)
  · refine lv_aload_n hx hb dX7_method_11 rfl (lv_at hl 0 rfl) ?_
    refine lv_iconst (v := 1) hx hb dX7_method_12 (by decide) ?_
    have hFc := z_freeW hD hS hA
    refine va_calli (va_runV (As := [.int 1]) (rest := []) ⟨hx, hb, hml, hown, hts⟩ (kX7_fails l dC dI h0 r cI cJ cZ v0 a1 tp bs cl a5 a6 a7 fc a9 mb a11 a12 a13 a14 a15 a16 a17 a18 a19 a20 az v22 v23 v24 v25 v26 bb ct us a30 a31 a32 a33 a34 a35 a36 a37 pil rwv rl v41 v42 v43 v44 v45 ⟨by omega, by omega, by omega, hcl, hfc, hmb, hct, hpil, hrwv⟩ (1 : Int32) s.heap.size) (cwV 1 hts zgX7_method_X7_fails_192 rfl rfl rfl (by decide +kernel) ⟨(show 0 + 1 ≤ 3 by omega), (show 8 + (2 + 11) + 0 ≤ 66 by omega)⟩) (zVm (ci := 6) (q0 := 0) (q := (RX7, TX7, 46)) hK hP hD hL hS.2.1 hFc rfl rfl rfl) rfl rfl hl.1 rfl (lv_room (Nat.le_of_ble_eq_true rfl)) dX7_method_13 ⟨(show 0 + 0 ≤ 0 by omega), (show 0 + 0 ≤ 0 by omega)⟩) hS (fun q _ h => hFc q h) hFc (fun r61 u64 t H1 locs ht hvm hw hB hz1 hk1 hS => ?_)
    obtain ⟨o62, o63⟩ := u64
    obtain ⟨hP, hK9, hD⟩ := hB
    rw [ht] at hP
    have hD := hD.weaken (fun k q _ h => hFc q.1 h)
    generalize H1 = H at hP hS
    have hP : va_P (dC, dI) vwCl (rW h0 r cI cJ cZ v0 a1 (nI tp) (nI bs) (fun j => nI (cl j)) a5 a6 a7 (fun j => nI (fc j)) a9 (fun j => nI (mb j)) a11 a12 a13 a14 a15 a16 a17 a18 a19 a20 (nI az) v22 v23 v24 o62 o63 (nI bb) (fun j => nI (ct j)) (nI us) a30 a31 a32 a33 a34 a35 a36 a37 (fun j => nI (pil j)) (fun j => nI (rwv j)) (nI rl) v41 v42 v43 v44 v45) H := hP
    have hD : va_D A (rW h0 r cI cJ cZ v0 a1 (nI tp) (nI bs) (fun j => nI (cl j)) a5 a6 a7 (fun j => nI (fc j)) a9 (fun j => nI (mb j)) a11 a12 a13 a14 a15 a16 a17 a18 a19 a20 (nI az) v22 v23 v24 o62 o63 (nI bb) (fun j => nI (ct j)) (nI us) a30 a31 a32 a33 a34 a35 a36 a37 (fun j => nI (pil j)) (fun j => nI (rwv j)) (nI rl) v41 v42 v43 v44 v45) := hD
    have hw : (r61 = 0 ∨ r61 = 1) ∧ (r61 = 0) := hw
    obtain ⟨w0r61, w1r61⟩ := hw
    subst w1r61
    have hP9 : va_P (dC, dI) vwCl (rW h0 r cI cJ cZ v0 a1 (nI tp) (nI bs) (fun j => nI (cl j)) a5 a6 a7 (fun j => nI (fc j)) a9 (fun j => nI (mb j)) a11 a12 a13 a14 a15 a16 a17 a18 a19 a20 (nI az) v22 v23 v24 o62 o63 (nI bb) (fun j => nI (ct j)) (nI us) a30 a31 a32 a33 a34 a35 a36 a37 (fun j => nI (pil j)) (fun j => nI (rwv j)) (nI rl) v41 v42 v43 v44 v45) H := hP
    have hD9 : va_D A (rW h0 r cI cJ cZ v0 a1 (nI tp) (nI bs) (fun j => nI (cl j)) a5 a6 a7 (fun j => nI (fc j)) a9 (fun j => nI (mb j)) a11 a12 a13 a14 a15 a16 a17 a18 a19 a20 (nI az) v22 v23 v24 o62 o63 (nI bb) (fun j => nI (ct j)) (nI us) a30 a31 a32 a33 a34 a35 a36 a37 (fun j => nI (pil j)) (fun j => nI (rwv j)) (nI rl) v41 v42 v43 v44 v45) := hD
    exact W.zret (v := (0 : Int32)) hx hb hr rfl (fun t ht hW => ⟨⟨(0 : Int32), (az, v22, v23, v24, o62, o63, a15, a18, a19, a20), rfl, ⟨(Or.inl rfl), (by first | omega | assumption | trivial), (by first | omega | assumption | trivial)⟩, by rw [ht]; exact hP9, va_K.moved hW.alike hK, hD9⟩, hS.F ht⟩) hS.2.2 dX7_method_16
