theorem dX7_findField_0 : decode cX7_findField 0 = .ok (.iload_n 2, 1) := by decide +kernel
theorem dX7_findField_1 : decode cX7_findField 1 = .ok (.istore 4, 2) := by decide +kernel
theorem dX7_findField_3 : decode cX7_findField 3 = .ok (.iload 4, 2) := by decide +kernel
theorem dX7_findField_5 : decode cX7_findField 5 = .ok (.ifCond .lt 86, 3) := by decide +kernel
theorem dX7_findField_8 : decode cX7_findField 8 = .ok (.aload_n 0, 1) := by decide +kernel
theorem dX7_findField_9 : decode cX7_findField 9 = .ok (.iload 4, 2) := by decide +kernel
theorem dX7_findField_11 : decode cX7_findField 11 = .ok (.iload_n 3, 1) := by decide +kernel
theorem dX7_findField_12 : decode cX7_findField 12 = .ok (.invokevirtual 269, 3) := by decide +kernel
theorem dX7_findField_15 : decode cX7_findField 15 = .ok (.istore 5, 2) := by decide +kernel
theorem dX7_findField_17 : decode cX7_findField 17 = .ok (.aload_n 0, 1) := by decide +kernel
theorem dX7_findField_18 : decode cX7_findField 18 = .ok (.iconst 0, 1) := by decide +kernel
theorem dX7_findField_19 : decode cX7_findField 19 = .ok (.putfield 266, 3) := by decide +kernel
theorem dX7_findField_22 : decode cX7_findField 22 = .ok (.aload_n 0, 1) := by decide +kernel
theorem dX7_findField_23 : decode cX7_findField 23 = .ok (.iload_n 1, 1) := by decide +kernel
theorem dX7_findField_24 : decode cX7_findField 24 = .ok (.iload 4, 2) := by decide +kernel
theorem dX7_findField_26 : decode cX7_findField 26 = .ok (.invokevirtual 272, 3) := by decide +kernel
theorem dX7_findField_29 : decode cX7_findField 29 = .ok (.iconst 0, 1) := by decide +kernel
theorem dX7_findField_30 : decode cX7_findField 30 = .ok (.istore 6, 2) := by decide +kernel
theorem dX7_findField_32 : decode cX7_findField 32 = .ok (.iload 6, 2) := by decide +kernel
theorem dX7_findField_34 : decode cX7_findField 34 = .ok (.aload_n 0, 1) := by decide +kernel
theorem dX7_findField_35 : decode cX7_findField 35 = .ok (.getfield 266, 3) := by decide +kernel
theorem dX7_findField_38 : decode cX7_findField 38 = .ok (.if_icmp .ge 33, 3) := by decide +kernel
theorem dX7_findField_41 : decode cX7_findField 41 = .ok (.iload 5, 2) := by decide +kernel
theorem dX7_findField_43 : decode cX7_findField 43 = .ok (.ifCond .ge 28, 3) := by decide +kernel
theorem dX7_findField_46 : decode cX7_findField 46 = .ok (.aload_n 0, 1) := by decide +kernel
theorem dX7_findField_47 : decode cX7_findField 47 = .ok (.bipush 16, 2) := by decide +kernel
theorem dX7_findField_49 : decode cX7_findField 49 = .ok (.iload_n 1, 1) := by decide +kernel
theorem dX7_findField_50 : decode cX7_findField 50 = .ok (.imul, 1) := by decide +kernel
theorem dX7_findField_51 : decode cX7_findField 51 = .ok (.aload_n 0, 1) := by decide +kernel
theorem dX7_findField_52 : decode cX7_findField 52 = .ok (.getfield 100, 3) := by decide +kernel
theorem dX7_findField_55 : decode cX7_findField 55 = .ok (.iload 6, 2) := by decide +kernel
theorem dX7_findField_57 : decode cX7_findField 57 = .ok (.iaload, 1) := by decide +kernel
theorem dX7_findField_58 : decode cX7_findField 58 = .ok (.iadd, 1) := by decide +kernel
theorem dX7_findField_59 : decode cX7_findField 59 = .ok (.iload_n 3, 1) := by decide +kernel
theorem dX7_findField_60 : decode cX7_findField 60 = .ok (.invokevirtual 269, 3) := by decide +kernel
theorem dX7_findField_63 : decode cX7_findField 63 = .ok (.istore 5, 2) := by decide +kernel
theorem dX7_findField_65 : decode cX7_findField 65 = .ok (.iinc 6 1, 3) := by decide +kernel
theorem dX7_findField_68 : decode cX7_findField 68 = .ok (.goto (-36), 3) := by decide +kernel
theorem dX7_findField_71 : decode cX7_findField 71 = .ok (.iload 5, 2) := by decide +kernel
theorem dX7_findField_73 : decode cX7_findField 73 = .ok (.ifCond .lt 6, 3) := by decide +kernel
theorem dX7_findField_76 : decode cX7_findField 76 = .ok (.iload 5, 2) := by decide +kernel
theorem dX7_findField_78 : decode cX7_findField 78 = .ok (.ireturn, 1) := by decide +kernel
theorem dX7_findField_79 : decode cX7_findField 79 = .ok (.aload_n 0, 1) := by decide +kernel
theorem dX7_findField_80 : decode cX7_findField 80 = .ok (.iload_n 1, 1) := by decide +kernel
theorem dX7_findField_81 : decode cX7_findField 81 = .ok (.iload 4, 2) := by decide +kernel
theorem dX7_findField_83 : decode cX7_findField 83 = .ok (.invokevirtual 276, 3) := by decide +kernel
theorem dX7_findField_86 : decode cX7_findField 86 = .ok (.istore 4, 2) := by decide +kernel
theorem dX7_findField_88 : decode cX7_findField 88 = .ok (.goto (-85), 3) := by decide +kernel
theorem dX7_findField_91 : decode cX7_findField 91 = .ok (.iconst (-1), 1) := by decide +kernel
theorem dX7_findField_92 : decode cX7_findField 92 = .ok (.ireturn, 1) := by decide +kernel
def zwX7_findField : List Cond := .code yX7_findField cX7_findField 7 (some .int) :: ([.fieldLink RX7 266 "LinkModelsModel" "rowLong" "I", .fieldLink RX7 100 "LinkModelsModel" "row" "[I", .methodLink RX7 276 yX7_aboveOf, .instanceMethod yX7_aboveOf, .selects RX7 yX7_aboveOf yX7_aboveOf, .initialized RX7, .code yX7_aboveOf cX7_aboveOf 3 (some .int), .fieldLink RX7 26 "LinkModelsModel" "above" "[I", .methodLink RX7 201 yX7_place, .instanceMethod yX7_place, .selects RX7 yX7_place yX7_place, .code yX7_place cX7_place 4 (some .int), .fieldLink RX7 17 "LinkModelsModel" "classes" "[I", .fieldLink RX7 20 "LinkModelsModel" "className" "[I", .methodLink RX7 269 yX7_fieldIn, .instanceMethod yX7_fieldIn, .selects RX7 yX7_fieldIn yX7_fieldIn, .code yX7_fieldIn cX7_fieldIn 4 (some .int), .fieldLink RX7 35 "LinkModelsModel" "members" "[I", .fieldLink RX7 51 "LinkModelsModel" "isMethod" "[Z", .fieldLink RX7 44 "LinkModelsModel" "word" "[J", .fieldLink RX7 82 "LinkModelsModel" "useWord" "[J", .methodLink RX7 272 yX7_faceRow, .instanceMethod yX7_faceRow, .selects RX7 yX7_faceRow yX7_faceRow, .code yX7_faceRow cX7_faceRow 8 none, .fieldLink RX7 97 "LinkModelsModel" "pile" "[I", .fieldLink RX7 32 "LinkModelsModel" "face" "[I", .fieldLink RX7 29 "LinkModelsModel" "faces" "[I"] ++ wsX70)
theorem zgX7_findField_X7_aboveOf_276 : GoodIn zwX7_findField (wsV RX7 276 RX7 yX7_aboveOf zwX7_aboveOf) := goodIn_app (goodIn_r _ [3, 4, 5, 6] rfl (by decide +kernel)) (goodIn_ca (goodIn_r _ [7, 8, 9, 10, 11, 6, 12, 13, 14] rfl (by decide +kernel)) (zgt zg7))
theorem zgX7_findField_X7_fieldIn_269 : GoodIn zwX7_findField (wsV RX7 269 RX7 yX7_fieldIn zwX7_fieldIn) := goodIn_app (goodIn_r _ [15, 16, 17, 6] rfl (by decide +kernel)) (goodIn_ca (goodIn_r _ [18, 19, 20, 21, 22] rfl (by decide +kernel)) (zgt zg7))
theorem zgX7_findField_X7_faceRow_272 : GoodIn zwX7_findField (wsV RX7 272 RX7 yX7_faceRow zwX7_faceRow) := goodIn_app (goodIn_r _ [23, 24, 25, 6] rfl (by decide +kernel)) (goodIn_ca (goodIn_r _ [26, 27, 28, 1, 2, 29, 9, 10, 11, 6, 12, 13, 14] rfl (by decide +kernel)) (zgt zg7))
set_option maxHeartbeats 4000000 in
set_option maxRecDepth 100000 in
theorem kX7_findField (l : Launch) (dC : Nat → ClassId) (dI : Nat → Nat → Nat) (h0 : Nat) (r : Nat → Nat) (cI : ClassId) (cJ : ClassId) (cZ : ClassId) (v0 : Int32) (a1 : Nat → Int32) (tp : Nat) (bs : Nat) (cl : Nat → Nat) (a5 : Nat → Int32) (a6 : Nat → Int32) (a7 : Nat → Int32) (fc : Nat → Nat) (a9 : Nat → Int32) (mb : Nat → Nat) (a11 : Nat → Int32) (a12 : Nat → Int32) (a13 : Nat → Int64) (a14 : Nat → Int32) (a15 : Nat → Int32) (a16 : Nat → Int32) (a17 : Nat → Int32) (a18 : Nat → Int32) (a19 : Nat → Int32) (a20 : Nat → Int32) (az : Nat) (v22 : Int32) (v23 : Int32) (v24 : Int64) (v25 : Int32) (v26 : Int32) (bb : Nat) (ct : Nat → Nat) (us : Nat) (a30 : Nat → Int32) (a31 : Nat → Int32) (a32 : Nat → Int32) (a33 : Nat → Int64) (a34 : Nat → Int32) (a35 : Nat → Int32) (a36 : Nat → Int32) (a37 : Nat → Int32) (pil : Nat → Nat) (rwv : Nat → Nat) (rl : Nat) (v41 : Int32) (v42 : Int32) (v43 : Int32) (v44 : Int32) (v45 : Int32) (hI : rWI tp bs cl fc mb az bb ct us pil rwv rl) (rk : Nat → Nat) (bd : Nat) (ci : Nat) (uu : Nat) (hp0 : bd < 5) (hp1 : uu < 40) (hp2 : zOKr cl a5 a7 fc a9 a11 bd rk) (hp3 : zGd cl a11 bd ci) (sz : Nat) : Met l yX7_findField zwX7_findField ({ frames := 2, cells := 0, slots := 0, locals := 50 }) (zPm dC dI [.ref h0, .int (nI bd), .int (nI ci), .int (nI uu)] sz (rW h0 r cI cJ cZ v0 a1 (nI tp) (nI bs) (fun j => nI (cl j)) a5 a6 a7 (fun j => nI (fc j)) a9 (fun j => nI (mb j)) a11 a12 a13 a14 a15 a16 a17 a18 a19 a20 (nI az) v22 v23 v24 v25 v26 (nI bb) (fun j => nI (ct j)) (nI us) a30 a31 a32 a33 a34 a35 a36 a37 (fun j => nI (pil j)) (fun j => nI (rwv j)) (nI rl) v41 v42 v43 v44 v45) [(cI, .int), (cJ, .long), (cZ, .boolean)]) (va_Qi (fun (r : Int32) (u : Nat × (Nat → Nat) × (Nat → Nat)) => (zM r (fun k => k < 960)) ∧ (∀ j, (u.2.1) j ≤ 15) ∧ (∀ j, (u.2.2) j ≤ 15)) (fun u t => zB dC dI (va_A (rW h0 r cI cJ cZ v0 a1 (nI tp) (nI bs) (fun j => nI (cl j)) a5 a6 a7 (fun j => nI (fc j)) a9 (fun j => nI (mb j)) a11 a12 a13 a14 a15 a16 a17 a18 a19 a20 (nI az) v22 v23 v24 v25 v26 (nI bb) (fun j => nI (ct j)) (nI us) a30 a31 a32 a33 a34 a35 a36 a37 (fun j => nI (pil j)) (fun j => nI (rwv j)) (nI rl) v41 v42 v43 v44 v45) sz) (rW h0 r cI cJ cZ v0 a1 (nI tp) (nI bs) (fun j => nI (cl j)) a5 a6 a7 (fun j => nI (fc j)) a9 (fun j => nI (mb j)) a11 a12 a13 a14 a15 a16 a17 a18 a19 a20 (nI az) v22 v23 v24 v25 v26 (nI bb) (fun j => nI (ct j)) (nI us) a30 a31 a32 a33 a34 a35 a36 a37 (fun j => nI ((u.2.1) j)) (fun j => nI ((u.2.2) j)) (nI (u.1)) v41 v42 v43 v44 v45) [(cI, .int), (cJ, .long), (cZ, .boolean)] t) (va_A (rW h0 r cI cJ cZ v0 a1 (nI tp) (nI bs) (fun j => nI (cl j)) a5 a6 a7 (fun j => nI (fc j)) a9 (fun j => nI (mb j)) a11 a12 a13 a14 a15 a16 a17 a18 a19 a20 (nI az) v22 v23 v24 v25 v26 (nI bb) (fun j => nI (ct j)) (nI us) a30 a31 a32 a33 a34 a35 a36 a37 (fun j => nI (pil j)) (fun j => nI (rwv j)) (nI rl) v41 v42 v43 v44 v45) sz)) 0 0 (va_A (rW h0 r cI cJ cZ v0 a1 (nI tp) (nI bs) (fun j => nI (cl j)) a5 a6 a7 (fun j => nI (fc j)) a9 (fun j => nI (mb j)) a11 a12 a13 a14 a15 a16 a17 a18 a19 a20 (nI az) v22 v23 v24 v25 v26 (nI bb) (fun j => nI (ct j)) (nI us) a30 a31 a32 a33 a34 a35 a36 a37 (fun j => nI (pil j)) (fun j => nI (rwv j)) (nI rl) v41 v42 v43 v44 v45) sz) := by
  refine Met.ofW (cc := cX7_findField) (maxL := 7) (ret := (some .int)) (by decide) rfl ?_
  intro p e s m args below meth c s₁ B hml hv
  obtain ⟨rfl, hsz, hP, hK, hD0, hL0⟩ := hv
  have hx := B.exec
  have hb := B.bytes
  have hr := B.returns
  have hts := atoms_spec (ws := zwX7_findField) B.pre
  have hown : s.vm.findClass RX7 = some m.cls := findClass_of_methodNamed B.named
  have hiX7 : ∀ w ∈ wsX70, w ∈ zwX7_findField := (fun _ h => List.mem_cons_of_mem _ (List.mem_append_right _ h))
  obtain ⟨htp, hbs, hus, hcl, hfc, hmb, hct, hpil, hrwv⟩ := hI
  subst hsz
  have hD := hD0.self (sz := s.heap.size)
  generalize hAe : va_A (rW h0 r cI cJ cZ v0 a1 (nI tp) (nI bs) (fun j => nI (cl j)) a5 a6 a7 (fun j => nI (fc j)) a9 (fun j => nI (mb j)) a11 a12 a13 a14 a15 a16 a17 a18 a19 a20 (nI az) v22 v23 v24 v25 v26 (nI bb) (fun j => nI (ct j)) (nI us) a30 a31 a32 a33 a34 a35 a36 a37 (fun j => nI (pil j)) (fun j => nI (rwv j)) (nI rl) v41 v42 v43 v44 v45) s.heap.size = A at hD hL0 ⊢
  have hA : ∀ q : Nat, s.heap.size ≤ q → A q := fun q h => by rw [← hAe]; exact Or.inr h
  have hS : va_S A s.heap s.heap [] := va_S.rf
  have hL := hL0
  have hclb := hcl bd
  have hcil := zGd.lt hp3 hclb hp0
  have hl := lv_entry ([.ref h0, .int (nI bd), .int (nI ci), .int (nI uu)]) (n := 7) (Nat.le_of_ble_eq_true rfl)
  rw [lg_entry_eq]
  generalize (lg_sl ([.ref h0, .int (nI bd), .int (nI ci), .int (nI uu)]) ++ List.replicate (7 - (lg_sl ([.ref h0, .int (nI bd), .int (nI ci), .int (nI uu)])).length) Slot.unset).toArray = ls at hl ⊢
  have hl : lv_has ls 7 [(0, .ref h0), (1, .int (nI bd)), (2, .int (nI ci)), (3, .int (nI uu))] := hl
  have J3 : ∀ (z3 : Nat) (rz : Nat) (dd : Int32) (rl2 : Nat) (pil2 : Nat → Nat) (rwv2 : Nat → Nat) (H : Heap) (locs : List Loc) (ls : Array Slot), rz < z3 → (∀ j, pil2 j ≤ 15) → (∀ j, rwv2 j ≤ 15) → (zM dd (fun k => zGd cl a11 bd k ∧ rk (k - 16 * bd) < rz)) → va_P (dC, dI) vwCl (rW h0 r cI cJ cZ v0 a1 (nI tp) (nI bs) (fun j => nI (cl j)) a5 a6 a7 (fun j => nI (fc j)) a9 (fun j => nI (mb j)) a11 a12 a13 a14 a15 a16 a17 a18 a19 a20 (nI az) v22 v23 v24 v25 v26 (nI bb) (fun j => nI (ct j)) (nI us) a30 a31 a32 a33 a34 a35 a36 a37 (fun j => nI (pil2 j)) (fun j => nI (rwv2 j)) (nI rl2) v41 v42 v43 v44 v45) H → va_D A (rW h0 r cI cJ cZ v0 a1 (nI tp) (nI bs) (fun j => nI (cl j)) a5 a6 a7 (fun j => nI (fc j)) a9 (fun j => nI (mb j)) a11 a12 a13 a14 a15 a16 a17 a18 a19 a20 (nI az) v22 v23 v24 v25 v26 (nI bb) (fun j => nI (ct j)) (nI us) a30 a31 a32 a33 a34 a35 a36 a37 (fun j => nI (pil2 j)) (fun j => nI (rwv2 j)) (nI rl2) v41 v42 v43 v44 v45) → va_S A s.heap H locs → lv_has ls 7 [(0, .ref h0), (1, .int (nI bd)), (2, .int (nI ci)), (3, .int (nI uu)), (4, .int dd)] → W p l e (headSpec zwX7_findField { frames := 2, cells := 0, slots := 0, locals := 50 }).room s m (([.ref h0, .int (nI bd), .int (nI ci), .int (nI uu)] : List Value).toArray) below meth c H locs 0 0 (MQ below (va_Qi (fun (r : Int32) (u : Nat × (Nat → Nat) × (Nat → Nat)) => (zM r (fun k => k < 960)) ∧ (∀ j, (u.2.1) j ≤ 15) ∧ (∀ j, (u.2.2) j ≤ 15)) (fun u t => zB dC dI (A) (rW h0 r cI cJ cZ v0 a1 (nI tp) (nI bs) (fun j => nI (cl j)) a5 a6 a7 (fun j => nI (fc j)) a9 (fun j => nI (mb j)) a11 a12 a13 a14 a15 a16 a17 a18 a19 a20 (nI az) v22 v23 v24 v25 v26 (nI bb) (fun j => nI (ct j)) (nI us) a30 a31 a32 a33 a34 a35 a36 a37 (fun j => nI ((u.2.1) j)) (fun j => nI ((u.2.2) j)) (nI (u.1)) v41 v42 v43 v44 v45) [(cI, .int), (cJ, .long), (cZ, .boolean)] t) (A)) (([.ref h0, .int (nI bd), .int (nI ci), .int (nI uu)] : List Value).toArray) s 0 0 A) (F0 m 3 ls []) := by
    intro z3
    induction z3 with
    | zero => intro rz dd rl2 pil2 rwv2 H locs ls h9; exact absurd h9 (Nat.not_lt_zero _)
    | succ z3 ih3 =>
      intro rz dd rl2 pil2 rwv2 H locs ls hm3 hbpil2 hbrwv2 hm3_dd hP hD hS hl
      have J32 : ∀ (z32 : Nat) (d4 : Nat) (m5 : Int32) (ki : Nat) (rl3 : Nat) (pil3 : Nat → Nat) (rwv3 : Nat → Nat) (H : Heap) (locs : List Loc) (ls : Array Slot), rl3 - ki < z32 → (∀ j, pil3 j ≤ 15) → (∀ j, rwv3 j ≤ 15) → (zM m5 (fun k => k < 960)) → (ki ≤ rl3) → (zRow cl a11 bd rwv3 rl3) → (zGd cl a11 bd d4) → (rk (d4 - 16 * bd) < rz) → va_P (dC, dI) vwCl (rW h0 r cI cJ cZ v0 a1 (nI tp) (nI bs) (fun j => nI (cl j)) a5 a6 a7 (fun j => nI (fc j)) a9 (fun j => nI (mb j)) a11 a12 a13 a14 a15 a16 a17 a18 a19 a20 (nI az) v22 v23 v24 v25 v26 (nI bb) (fun j => nI (ct j)) (nI us) a30 a31 a32 a33 a34 a35 a36 a37 (fun j => nI (pil3 j)) (fun j => nI (rwv3 j)) (nI rl3) v41 v42 v43 v44 v45) H → va_D A (rW h0 r cI cJ cZ v0 a1 (nI tp) (nI bs) (fun j => nI (cl j)) a5 a6 a7 (fun j => nI (fc j)) a9 (fun j => nI (mb j)) a11 a12 a13 a14 a15 a16 a17 a18 a19 a20 (nI az) v22 v23 v24 v25 v26 (nI bb) (fun j => nI (ct j)) (nI us) a30 a31 a32 a33 a34 a35 a36 a37 (fun j => nI (pil3 j)) (fun j => nI (rwv3 j)) (nI rl3) v41 v42 v43 v44 v45) → va_S A s.heap H locs → lv_has ls 7 [(0, .ref h0), (1, .int (nI bd)), (2, .int (nI ci)), (3, .int (nI uu)), (4, .int (nI d4)), (5, .int m5), (6, .int (nI ki))] → W p l e (headSpec zwX7_findField { frames := 2, cells := 0, slots := 0, locals := 50 }).room s m (([.ref h0, .int (nI bd), .int (nI ci), .int (nI uu)] : List Value).toArray) below meth c H locs 0 0 (MQ below (va_Qi (fun (r : Int32) (u : Nat × (Nat → Nat) × (Nat → Nat)) => (zM r (fun k => k < 960)) ∧ (∀ j, (u.2.1) j ≤ 15) ∧ (∀ j, (u.2.2) j ≤ 15)) (fun u t => zB dC dI (A) (rW h0 r cI cJ cZ v0 a1 (nI tp) (nI bs) (fun j => nI (cl j)) a5 a6 a7 (fun j => nI (fc j)) a9 (fun j => nI (mb j)) a11 a12 a13 a14 a15 a16 a17 a18 a19 a20 (nI az) v22 v23 v24 v25 v26 (nI bb) (fun j => nI (ct j)) (nI us) a30 a31 a32 a33 a34 a35 a36 a37 (fun j => nI ((u.2.1) j)) (fun j => nI ((u.2.2) j)) (nI (u.1)) v41 v42 v43 v44 v45) [(cI, .int), (cJ, .long), (cZ, .boolean)] t) (A)) (([.ref h0, .int (nI bd), .int (nI ci), .int (nI uu)] : List Value).toArray) s 0 0 A) (F0 m 32 ls []) := by
        intro z32
        induction z32 with
        | zero => intro d4 m5 ki rl3 pil3 rwv3 H locs ls h9; exact absurd h9 (Nat.not_lt_zero _)
        | succ z32 ih32 =>
          intro d4 m5 ki rl3 pil3 rwv3 H locs ls hm32 hbpil3 hbrwv3 hm32_m5 i32_0 i32_1 i32_2 i32_3 hP hD hS hl
          have hrl9 := i32_1.le
          refine lv_iload hx hb dX7_findField_32 (lv_at hl 6 rfl) ?_
          refine lv_aload_n hx hb dX7_findField_34 rfl (lv_at hl 0 rfl) ?_
          refine va_get (D := (dC, dI)) (ci := 6) (v := .int (nI rl3)) (C := RX7) (T := TX7) (N := 46) hx hb hts hiX7 hown hK hP 0 rfl rfl 40 (by decide) (hts (.fieldLink RX7 266 "LinkModelsModel" "rowLong" "I") (by decide +kernel)) (fun _ h9 => h9) rfl dX7_findField_35 ?_
          refine lv_icmp_ge (tgt := 71) hx hb dX7_findField_38 (by decide) (fun cp38 => ?_) (fun cp38 => ?_)
          · have qcp38 : rl3 ≤ ki := (nI_leI (a := rl3) (b := ki) (by omega) (by omega)).mp cp38
            refine lv_iload hx hb dX7_findField_71 (lv_at hl 5 rfl) ?_
            refine lv_if_lt (tgt := 79) hx hb dX7_findField_73 (by decide) (fun cp73 => ?_) (fun cp73 => ?_)
            · obtain rfl : m5 = -1 := zM.neg hm32_m5 cp73
              refine lv_aload_n hx hb dX7_findField_79 rfl (lv_at hl 0 rfl) ?_
              refine lv_iload_n hx hb dX7_findField_80 rfl (lv_at hl 1 rfl) ?_
              refine lv_iload hx hb dX7_findField_81 (lv_at hl 4 rfl) ?_
              have hFc := z_freeW hD hS hA
              refine vp_callSi (W.runV (As := [.int (nI bd), .int (nI d4)]) (rest := []) ⟨hx, hb, hml, hown, hts⟩ (kX7_aboveOf l dC dI h0 r cI cJ cZ v0 a1 tp bs cl a5 a6 a7 fc a9 mb a11 a12 a13 a14 a15 a16 a17 a18 a19 a20 az v22 v23 v24 v25 v26 bb ct us a30 a31 a32 a33 a34 a35 a36 a37 pil3 rwv3 rl3 v41 v42 v43 v44 v45 ⟨by omega, by omega, by omega, hcl, hfc, hmb, hct, hbpil3, hbrwv3⟩ rk bd d4 (by first | omega | assumption | trivial) (by exact hp2) (by exact i32_2) H.size) (cwV 2 hts zgX7_findField_X7_aboveOf_276 rfl rfl rfl (by decide +kernel) ⟨(show 1 + 1 ≤ 2 by omega), (show 8 + (3 + 11) + 23 ≤ 50 by omega)⟩) (zVm (ci := 6) (q0 := 0) (q := (RX7, TX7, 46)) hK hP hD hL hS.2.1 hFc rfl rfl rfl) rfl rfl hl.1 rfl (lv_room (Nat.le_of_ble_eq_true rfl)) dX7_findField_83 ⟨(show 0 + 0 ≤ 0 by omega), (show 0 + 0 ≤ 0 by omega)⟩) (fun r1 hw => ?_)
              have hw : (zM r1 (fun k => zGd cl a11 bd k ∧ rk (k - 16 * bd) < rk (d4 - 16 * bd))) := hw
              have w0r1 := hw
              refine lv_istore (lv' := [(4, .int r1), (0, .ref h0), (1, .int (nI bd)), (2, .int (nI ci)), (3, .int (nI uu)), (5, .int (-1)), (6, .int (nI ki))]) hx hb dX7_findField_86 hl (by decide) rfl (fun ls hl => ?_)
              refine lv_goto (tgt := 3) hx hb dX7_findField_88 (by decide) ?_
              exact ih3 (rk (d4 - 16 * bd)) r1 rl3 pil3 rwv3 _ _ ls (by omega) hbpil3 hbrwv3 (zM.imp w0r1 (fun k hk hq => by first | exact hq | trivial | omega)) hP hD hS (lv_sub hl [1, 2, 3, 4, 0] rfl)
            · obtain ⟨k2, hBk2, hQk2, rfl⟩ := zM.pos hm32_m5 cp73
              refine lv_iload hx hb dX7_findField_76 (lv_at hl 5 rfl) ?_
              have hP9 : va_P (dC, dI) vwCl (rW h0 r cI cJ cZ v0 a1 (nI tp) (nI bs) (fun j => nI (cl j)) a5 a6 a7 (fun j => nI (fc j)) a9 (fun j => nI (mb j)) a11 a12 a13 a14 a15 a16 a17 a18 a19 a20 (nI az) v22 v23 v24 v25 v26 (nI bb) (fun j => nI (ct j)) (nI us) a30 a31 a32 a33 a34 a35 a36 a37 (fun j => nI (pil3 j)) (fun j => nI (rwv3 j)) (nI rl3) v41 v42 v43 v44 v45) H := hP
              have hD9 : va_D A (rW h0 r cI cJ cZ v0 a1 (nI tp) (nI bs) (fun j => nI (cl j)) a5 a6 a7 (fun j => nI (fc j)) a9 (fun j => nI (mb j)) a11 a12 a13 a14 a15 a16 a17 a18 a19 a20 (nI az) v22 v23 v24 v25 v26 (nI bb) (fun j => nI (ct j)) (nI us) a30 a31 a32 a33 a34 a35 a36 a37 (fun j => nI (pil3 j)) (fun j => nI (rwv3 j)) (nI rl3) v41 v42 v43 v44 v45) := hD
              exact W.iret (v := (nI k2)) hx hb hr (fun t ht hW => ⟨⟨(nI k2), (rl3, pil3, rwv3), rfl, ⟨(zM.mk (by omega) (by first | trivial | omega | assumption | (refine ⟨?_, ?_⟩ <;> first | trivial | omega | assumption))), hbpil3, hbrwv3⟩, by rw [ht]; exact hP9, va_K.moved hW.alike hK, hD9⟩, hS.F ht⟩) hS.2.2 dX7_findField_78
          · have qcp38 : ¬ rl3 ≤ ki := fun h9 => cp38 ((nI_leI (a := rl3) (b := ki) (by omega) (by omega)).mpr h9)
            refine lv_iload hx hb dX7_findField_41 (lv_at hl 5 rfl) ?_
            refine lv_if_ge (tgt := 71) hx hb dX7_findField_43 (by decide) (fun cp43 => ?_) (fun cp43 => ?_)
            · obtain ⟨k3, hBk3, hQk3, rfl⟩ := zM.pos' hm32_m5 cp43
              refine lv_iload hx hb dX7_findField_71 (lv_at hl 5 rfl) ?_
              refine lv_if_lt (tgt := 79) hx hb dX7_findField_73 (by decide) (fun c9 => absurd c9 (nI_pos (show k3 < 2 ^ 31 by omega))) (fun _ => ?_)
              refine lv_iload hx hb dX7_findField_76 (lv_at hl 5 rfl) ?_
              have hP9 : va_P (dC, dI) vwCl (rW h0 r cI cJ cZ v0 a1 (nI tp) (nI bs) (fun j => nI (cl j)) a5 a6 a7 (fun j => nI (fc j)) a9 (fun j => nI (mb j)) a11 a12 a13 a14 a15 a16 a17 a18 a19 a20 (nI az) v22 v23 v24 v25 v26 (nI bb) (fun j => nI (ct j)) (nI us) a30 a31 a32 a33 a34 a35 a36 a37 (fun j => nI (pil3 j)) (fun j => nI (rwv3 j)) (nI rl3) v41 v42 v43 v44 v45) H := hP
              have hD9 : va_D A (rW h0 r cI cJ cZ v0 a1 (nI tp) (nI bs) (fun j => nI (cl j)) a5 a6 a7 (fun j => nI (fc j)) a9 (fun j => nI (mb j)) a11 a12 a13 a14 a15 a16 a17 a18 a19 a20 (nI az) v22 v23 v24 v25 v26 (nI bb) (fun j => nI (ct j)) (nI us) a30 a31 a32 a33 a34 a35 a36 a37 (fun j => nI (pil3 j)) (fun j => nI (rwv3 j)) (nI rl3) v41 v42 v43 v44 v45) := hD
              exact W.iret (v := (nI k3)) hx hb hr (fun t ht hW => ⟨⟨(nI k3), (rl3, pil3, rwv3), rfl, ⟨(zM.mk (by omega) (by first | trivial | omega | assumption | (refine ⟨?_, ?_⟩ <;> first | trivial | omega | assumption))), hbpil3, hbrwv3⟩, by rw [ht]; exact hP9, va_K.moved hW.alike hK, hD9⟩, hS.F ht⟩) hS.2.2 dX7_findField_78
            · obtain rfl : m5 = -1 := zM.neg' hm32_m5 cp43
              refine lv_aload_n hx hb dX7_findField_46 rfl (lv_at hl 0 rfl) ?_
              refine lv_bipush (v := 16) hx hb dX7_findField_47 (by decide) ?_
              refine lv_iload_n hx hb dX7_findField_49 rfl (lv_at hl 1 rfl) ?_
              refine lv_imul hx hb dX7_findField_50 ?_
              refine lv_topi (fun x4 ex4 => ?_)
              obtain rfl : x4 = nI (16 * bd) := by rw [ex4]; exact pk_mul (16) (bd)
              refine lv_aload_n hx hb dX7_findField_51 rfl (lv_at hl 0 rfl) ?_
              refine va_get (D := (dC, dI)) (ci := 6) (v := .ref (r 39)) (C := RX7) (T := TX7) (N := 46) hx hb hts hiX7 hown hK hP 0 rfl rfl 39 (by decide) (hts (.fieldLink RX7 100 "LinkModelsModel" "row" "[I") (by decide +kernel)) (fun _ h9 => h9) rfl dX7_findField_52 ?_
              refine lv_iload hx hb dX7_findField_55 (lv_at hl 6 rfl) ?_
              refine va_iald hx hb hK hP 29 0 rfl rfl (vp_in_nI (show ki < 16 by omega) (by decide)) dX7_findField_57 ?_
              refine lv_topi (fun x5 ex5 => ?_)
              obtain rfl : x5 = nI (rwv3 ki) := by rw [ex5, nI_clamp (show ki < 2 ^ 31 by omega)]
              have hqx5 := hbrwv3 ki
              refine lv_iadd hx hb dX7_findField_58 ?_
              refine lv_topi (fun x6 ex6 => ?_)
              obtain rfl : x6 = nI ((16 * bd) + (rwv3 ki)) := by rw [ex6]; exact nI_add (16 * bd) (rwv3 ki)
              refine lv_iload_n hx hb dX7_findField_59 rfl (lv_at hl 3 rfl) ?_
              have hFc := z_freeW hD hS hA
              refine vp_callSi (W.runV (As := [.int (nI ((16 * bd) + (rwv3 ki))), .int (nI uu)]) (rest := []) ⟨hx, hb, hml, hown, hts⟩ (kX7_fieldIn l dC dI h0 r cI cJ cZ v0 a1 tp bs cl a5 a6 a7 fc a9 mb a11 a12 a13 a14 a15 a16 a17 a18 a19 a20 az v22 v23 v24 v25 v26 bb ct us a30 a31 a32 a33 a34 a35 a36 a37 pil3 rwv3 rl3 v41 v42 v43 v44 v45 ⟨by omega, by omega, by omega, hcl, hfc, hmb, hct, hbpil3, hbrwv3⟩ ((16 * bd) + (rwv3 ki)) uu (by first | omega | assumption | trivial) (by first | omega | assumption | trivial) H.size) (cwV 2 hts zgX7_findField_X7_fieldIn_269 rfl rfl rfl (by decide +kernel) ⟨(show 0 + 1 ≤ 2 by omega), (show 8 + (4 + 11) + 0 ≤ 50 by omega)⟩) (zVm (ci := 6) (q0 := 0) (q := (RX7, TX7, 46)) hK hP hD hL hS.2.1 hFc rfl rfl rfl) rfl rfl hl.1 rfl (lv_room (Nat.le_of_ble_eq_true rfl)) dX7_findField_60 ⟨(show 0 + 0 ≤ 0 by omega), (show 0 + 0 ≤ 0 by omega)⟩) (fun r7 hw => ?_)
              have hw : (zM r7 (fun k => k < 960)) := hw
              have w0r7 := hw
              refine lv_istore (lv' := [(5, .int r7), (0, .ref h0), (1, .int (nI bd)), (2, .int (nI ci)), (3, .int (nI uu)), (4, .int (nI d4)), (6, .int (nI ki))]) hx hb dX7_findField_63 hl (by decide) rfl (fun ls hl => ?_)
              obtain ⟨x8, ex8⟩ : ∃ y : Int32, y = (nI ki) + 1 := ⟨_, rfl⟩
              refine lv_iinc (v := x8) (lv' := [(6, .int x8), (5, .int r7), (0, .ref h0), (1, .int (nI bd)), (2, .int (nI ci)), (3, .int (nI uu)), (4, .int (nI d4))]) hx hb dX7_findField_65 hl (k := 6) rfl (by rw [ex8]; rfl) (by decide) rfl (fun ls hl => ?_)
              obtain rfl : x8 = nI (ki + 1) := by rw [ex8]; exact nI_add (ki) 1
              refine lv_goto (tgt := 32) hx hb dX7_findField_68 (by decide) ?_
              exact ih32 d4 r7 (ki + 1) rl3 pil3 rwv3 _ _ ls (by omega) hbpil3 hbrwv3 (zM.imp w0r7 (fun k hk hq => by first | exact hq | trivial | omega)) (by omega) (by exact i32_1) (by exact i32_2) (by exact i32_3) hP hD hS (lv_sub hl [2, 3, 4, 5, 6, 1, 0] rfl)
      refine lv_iload hx hb dX7_findField_3 (lv_at hl 4 rfl) ?_
      refine lv_if_lt (tgt := 91) hx hb dX7_findField_5 (by decide) (fun cp5 => ?_) (fun cp5 => ?_)
      · obtain rfl : dd = -1 := zM.neg hm3_dd cp5
        refine lv_iconst (v := (-1)) hx hb dX7_findField_91 (by decide) ?_
        have hP9 : va_P (dC, dI) vwCl (rW h0 r cI cJ cZ v0 a1 (nI tp) (nI bs) (fun j => nI (cl j)) a5 a6 a7 (fun j => nI (fc j)) a9 (fun j => nI (mb j)) a11 a12 a13 a14 a15 a16 a17 a18 a19 a20 (nI az) v22 v23 v24 v25 v26 (nI bb) (fun j => nI (ct j)) (nI us) a30 a31 a32 a33 a34 a35 a36 a37 (fun j => nI (pil2 j)) (fun j => nI (rwv2 j)) (nI rl2) v41 v42 v43 v44 v45) H := hP
        have hD9 : va_D A (rW h0 r cI cJ cZ v0 a1 (nI tp) (nI bs) (fun j => nI (cl j)) a5 a6 a7 (fun j => nI (fc j)) a9 (fun j => nI (mb j)) a11 a12 a13 a14 a15 a16 a17 a18 a19 a20 (nI az) v22 v23 v24 v25 v26 (nI bb) (fun j => nI (ct j)) (nI us) a30 a31 a32 a33 a34 a35 a36 a37 (fun j => nI (pil2 j)) (fun j => nI (rwv2 j)) (nI rl2) v41 v42 v43 v44 v45) := hD
        exact W.iret (v := (-1 : Int32)) hx hb hr (fun t ht hW => ⟨⟨(-1 : Int32), (rl2, pil2, rwv2), rfl, ⟨(Or.inl rfl), hbpil2, hbrwv2⟩, by rw [ht]; exact hP9, va_K.moved hW.alike hK, hD9⟩, hS.F ht⟩) hS.2.2 dX7_findField_92
      · obtain ⟨k9, hBk9, hQk9, rfl⟩ := zM.pos hm3_dd cp5
        have hklk9 := zGd.lt hQk9.1 hclb hp0
        refine lv_aload_n hx hb dX7_findField_8 rfl (lv_at hl 0 rfl) ?_
        refine lv_iload hx hb dX7_findField_9 (lv_at hl 4 rfl) ?_
        refine lv_iload_n hx hb dX7_findField_11 rfl (lv_at hl 3 rfl) ?_
        have hFc := z_freeW hD hS hA
        refine vp_callSi (W.runV (As := [.int (nI k9), .int (nI uu)]) (rest := []) ⟨hx, hb, hml, hown, hts⟩ (kX7_fieldIn l dC dI h0 r cI cJ cZ v0 a1 tp bs cl a5 a6 a7 fc a9 mb a11 a12 a13 a14 a15 a16 a17 a18 a19 a20 az v22 v23 v24 v25 v26 bb ct us a30 a31 a32 a33 a34 a35 a36 a37 pil2 rwv2 rl2 v41 v42 v43 v44 v45 ⟨by omega, by omega, by omega, hcl, hfc, hmb, hct, hbpil2, hbrwv2⟩ k9 uu (by first | omega | assumption | trivial) (by first | omega | assumption | trivial) H.size) (cwV 2 hts zgX7_findField_X7_fieldIn_269 rfl rfl rfl (by decide +kernel) ⟨(show 0 + 1 ≤ 2 by omega), (show 8 + (4 + 11) + 0 ≤ 50 by omega)⟩) (zVm (ci := 6) (q0 := 0) (q := (RX7, TX7, 46)) hK hP hD hL hS.2.1 hFc rfl rfl rfl) rfl rfl hl.1 rfl (lv_room (Nat.le_of_ble_eq_true rfl)) dX7_findField_12 ⟨(show 0 + 0 ≤ 0 by omega), (show 0 + 0 ≤ 0 by omega)⟩) (fun r10 hw => ?_)
        have hw : (zM r10 (fun k => k < 960)) := hw
        have w0r10 := hw
        refine lv_istore (lv' := [(5, .int r10), (0, .ref h0), (1, .int (nI bd)), (2, .int (nI ci)), (3, .int (nI uu)), (4, .int (nI k9))]) hx hb dX7_findField_15 hl (by decide) rfl (fun ls hl => ?_)
        refine lv_aload_n hx hb dX7_findField_17 rfl (lv_at hl 1 rfl) ?_
        refine lv_iconst (v := 0) hx hb dX7_findField_18 (by decide) ?_
        refine va_put (D := (dC, dI)) (ci := 6) (v := .int 0) (ty := (.int)) (C := RX7) (T := TX7) (N := 46) hx hb hts hiX7 tyX7 tyX7_ok nmX7 hown hK hP hD hS 0 rfl rfl 40 (by decide) (hts (.fieldLink RX7 266 "LinkModelsModel" "rowLong" "I") (by decide +kernel)) (fun _ h9 => h9) rfl (by decide +kernel) rfl rfl (Nat.le_of_ble_eq_true rfl) dX7_findField_19 (fun H locs hP hD hS => ?_)
        have hP : va_P (dC, dI) vwCl (rW h0 r cI cJ cZ v0 a1 (nI tp) (nI bs) (fun j => nI (cl j)) a5 a6 a7 (fun j => nI (fc j)) a9 (fun j => nI (mb j)) a11 a12 a13 a14 a15 a16 a17 a18 a19 a20 (nI az) v22 v23 v24 v25 v26 (nI bb) (fun j => nI (ct j)) (nI us) a30 a31 a32 a33 a34 a35 a36 a37 (fun j => nI (pil2 j)) (fun j => nI (rwv2 j)) 0 v41 v42 v43 v44 v45) H := hP
        have hD : va_D A (rW h0 r cI cJ cZ v0 a1 (nI tp) (nI bs) (fun j => nI (cl j)) a5 a6 a7 (fun j => nI (fc j)) a9 (fun j => nI (mb j)) a11 a12 a13 a14 a15 a16 a17 a18 a19 a20 (nI az) v22 v23 v24 v25 v26 (nI bb) (fun j => nI (ct j)) (nI us) a30 a31 a32 a33 a34 a35 a36 a37 (fun j => nI (pil2 j)) (fun j => nI (rwv2 j)) 0 v41 v42 v43 v44 v45) := hD
        refine lv_aload_n hx hb dX7_findField_22 rfl (lv_at hl 1 rfl) ?_
        refine lv_iload_n hx hb dX7_findField_23 rfl (lv_at hl 2 rfl) ?_
        refine lv_iload hx hb dX7_findField_24 (lv_at hl 5 rfl) ?_
        have hFc := z_freeW hD hS hA
        refine va_callv (va_runV (As := [.int (nI bd), .int (nI k9)]) (rest := []) ⟨hx, hb, hml, hown, hts⟩ (kX7_faceRow l dC dI h0 r cI cJ cZ v0 a1 tp bs cl a5 a6 a7 fc a9 mb a11 a12 a13 a14 a15 a16 a17 a18 a19 a20 az v22 v23 v24 v25 v26 bb ct us a30 a31 a32 a33 a34 a35 a36 a37 pil2 rwv2 0 v41 v42 v43 v44 v45 ⟨by omega, by omega, by omega, hcl, hfc, hmb, hct, hbpil2, hbrwv2⟩ rk bd k9 (by first | omega | assumption | trivial) (by exact hp2) (by exact hQk9.1) (by exact zRow.nil) H.size) (cwV 2 hts zgX7_findField_X7_faceRow_272 rfl rfl rfl (by decide +kernel) ⟨(show 1 + 1 ≤ 2 by omega), (show 8 + (8 + 11) + 23 ≤ 50 by omega)⟩) (zVm (ci := 6) (q0 := 0) (q := (RX7, TX7, 46)) hK hP hD hL hS.2.1 hFc rfl rfl rfl) rfl rfl hl.1 rfl (lv_room (Nat.le_of_ble_eq_true rfl)) dX7_findField_26 ⟨(show 0 + 0 ≤ 0 by omega), (show 0 + 0 ≤ 0 by omega)⟩) hS (fun q _ h => hFc q h) hFc (fun u15 t H1 locs ht hvm hw hB hz1 hk1 hS => ?_)
        obtain ⟨o12, o13, o14⟩ := u15
        obtain ⟨hP, hK9, hD⟩ := hB
        rw [ht] at hP
        have hD := hD.weaken (fun k q _ h => hFc q.1 h)
        generalize H1 = H at hP hS
        have hP : va_P (dC, dI) vwCl (rW h0 r cI cJ cZ v0 a1 (nI tp) (nI bs) (fun j => nI (cl j)) a5 a6 a7 (fun j => nI (fc j)) a9 (fun j => nI (mb j)) a11 a12 a13 a14 a15 a16 a17 a18 a19 a20 (nI az) v22 v23 v24 v25 v26 (nI bb) (fun j => nI (ct j)) (nI us) a30 a31 a32 a33 a34 a35 a36 a37 (fun j => nI (o13 j)) (fun j => nI (o14 j)) (nI o12) v41 v42 v43 v44 v45) H := hP
        have hD : va_D A (rW h0 r cI cJ cZ v0 a1 (nI tp) (nI bs) (fun j => nI (cl j)) a5 a6 a7 (fun j => nI (fc j)) a9 (fun j => nI (mb j)) a11 a12 a13 a14 a15 a16 a17 a18 a19 a20 (nI az) v22 v23 v24 v25 v26 (nI bb) (fun j => nI (ct j)) (nI us) a30 a31 a32 a33 a34 a35 a36 a37 (fun j => nI (o13 j)) (fun j => nI (o14 j)) (nI o12) v41 v42 v43 v44 v45) := hD
        have hw : (zRow cl a11 bd o14 o12) ∧ (∀ j, o13 j ≤ 15) ∧ (∀ j, o14 j ≤ 15) := hw
        obtain ⟨w0r11, hbo13, hbo14⟩ := hw
        refine lv_iconst (v := 0) hx hb dX7_findField_29 (by decide) ?_
        refine lv_istore (lv' := [(6, .int 0), (5, .int r10), (0, .ref h0), (1, .int (nI bd)), (2, .int (nI ci)), (3, .int (nI uu)), (4, .int (nI k9))]) hx hb dX7_findField_30 hl (by decide) rfl (fun ls hl => ?_)
        exact J32 _ k9 r10 0 o12 o13 o14 _ _ ls (Nat.lt_succ_self _) hbo13 hbo14 (zM.imp w0r10 (fun k hk hq => by first | exact hq | trivial | omega)) (by omega) (by exact w0r11) (by exact hQk9.1) (by exact hQk9.2) hP hD hS (lv_sub hl [2, 3, 4, 5, 6, 1, 0] rfl)
  refine lv_iload_n hx hb dX7_findField_0 rfl (lv_at hl 2 rfl) ?_
  refine lv_istore (lv' := [(4, .int (nI ci)), (0, .ref h0), (1, .int (nI bd)), (2, .int (nI ci)), (3, .int (nI uu))]) hx hb dX7_findField_1 hl (by decide) rfl (fun ls hl => ?_)
  exact J3 _ (rk (ci - 16 * bd) + 1) (nI ci) rl pil rwv _ _ ls (Nat.lt_succ_self _) hpil hrwv (zM.mk (by omega) (by first | trivial | omega | assumption | (refine ⟨?_, ?_⟩ <;> first | trivial | omega | assumption))) hP hD hS (lv_sub hl [1, 2, 3, 4, 0] rfl)
