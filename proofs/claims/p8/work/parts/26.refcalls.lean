theorem dX7_link_0 : decode cX7_link 0 = .ok (.aload_n 0, 1) := by decide +kernel
theorem dX7_link_1 : decode cX7_link 1 = .ok (.iconst 0, 1) := by decide +kernel
theorem dX7_link_2 : decode cX7_link 2 = .ok (.putfield 1, 3) := by decide +kernel
theorem dX7_link_5 : decode cX7_link 5 = .ok (.aload_n 0, 1) := by decide +kernel
theorem dX7_link_6 : decode cX7_link 6 = .ok (.iload_n 1, 1) := by decide +kernel
theorem dX7_link_7 : decode cX7_link 7 = .ok (.invokevirtual 248, 3) := by decide +kernel
theorem dX7_link_10 : decode cX7_link 10 = .ok (.ifCond .eq 11, 3) := by decide +kernel
theorem dX7_link_13 : decode cX7_link 13 = .ok (.aload_n 0, 1) := by decide +kernel
theorem dX7_link_14 : decode cX7_link 14 = .ok (.iload_n 2, 1) := by decide +kernel
theorem dX7_link_15 : decode cX7_link 15 = .ok (.invokevirtual 306, 3) := by decide +kernel
theorem dX7_link_18 : decode cX7_link 18 = .ok (.ifCond .ne 6, 3) := by decide +kernel
theorem dX7_link_21 : decode cX7_link 21 = .ok (.bipush (-2), 2) := by decide +kernel
theorem dX7_link_23 : decode cX7_link 23 = .ok (.ireturn, 1) := by decide +kernel
theorem dX7_link_24 : decode cX7_link 24 = .ok (.aload_n 0, 1) := by decide +kernel
theorem dX7_link_25 : decode cX7_link 25 = .ok (.iload_n 1, 1) := by decide +kernel
theorem dX7_link_26 : decode cX7_link 26 = .ok (.iload_n 2, 1) := by decide +kernel
theorem dX7_link_27 : decode cX7_link 27 = .ok (.invokevirtual 309, 3) := by decide +kernel
theorem dX7_link_30 : decode cX7_link 30 = .ok (.istore_n 3, 1) := by decide +kernel
theorem dX7_link_31 : decode cX7_link 31 = .ok (.iload_n 3, 1) := by decide +kernel
theorem dX7_link_32 : decode cX7_link 32 = .ok (.ifCond .le 10, 3) := by decide +kernel
theorem dX7_link_35 : decode cX7_link 35 = .ok (.bipush (-10), 2) := by decide +kernel
theorem dX7_link_37 : decode cX7_link 37 = .ok (.iload_n 3, 1) := by decide +kernel
theorem dX7_link_38 : decode cX7_link 38 = .ok (.isub, 1) := by decide +kernel
theorem dX7_link_39 : decode cX7_link 39 = .ok (.goto 34, 3) := by decide +kernel
theorem dX7_link_42 : decode cX7_link 42 = .ok (.aload_n 0, 1) := by decide +kernel
theorem dX7_link_43 : decode cX7_link 43 = .ok (.getfield 296, 3) := by decide +kernel
theorem dX7_link_46 : decode cX7_link 46 = .ok (.ifCond .ge 17, 3) := by decide +kernel
theorem dX7_link_49 : decode cX7_link 49 = .ok (.aload_n 0, 1) := by decide +kernel
theorem dX7_link_50 : decode cX7_link 50 = .ok (.iload_n 1, 1) := by decide +kernel
theorem dX7_link_51 : decode cX7_link 51 = .ok (.aload_n 0, 1) := by decide +kernel
theorem dX7_link_52 : decode cX7_link 52 = .ok (.getfield 79, 3) := by decide +kernel
theorem dX7_link_55 : decode cX7_link 55 = .ok (.iload_n 2, 1) := by decide +kernel
theorem dX7_link_56 : decode cX7_link 56 = .ok (.iaload, 1) := by decide +kernel
theorem dX7_link_57 : decode cX7_link 57 = .ok (.invokevirtual 201, 3) := by decide +kernel
theorem dX7_link_60 : decode cX7_link 60 = .ok (.goto 13, 3) := by decide +kernel
theorem dX7_link_63 : decode cX7_link 63 = .ok (.aload_n 0, 1) := by decide +kernel
theorem dX7_link_64 : decode cX7_link 64 = .ok (.getfield 296, 3) := by decide +kernel
theorem dX7_link_67 : decode cX7_link 67 = .ok (.bipush 12, 2) := by decide +kernel
theorem dX7_link_69 : decode cX7_link 69 = .ok (.idiv, 1) := by decide +kernel
theorem dX7_link_70 : decode cX7_link 70 = .ok (.bipush 16, 2) := by decide +kernel
theorem dX7_link_72 : decode cX7_link 72 = .ok (.irem, 1) := by decide +kernel
theorem dX7_link_73 : decode cX7_link 73 = .ok (.ireturn, 1) := by decide +kernel
def zwX7_link : List Cond := .code yX7_link cX7_link 4 (some .int) :: ([.fieldLink RX7 1 "LinkModelsModel" "thrown" "I", .fieldLink RX7 296 "LinkModelsModel" "linked" "I", .fieldLink RX7 79 "LinkModelsModel" "owner" "[I", .methodLink RX7 248 yX7_isBuild, .instanceMethod yX7_isBuild, .selects RX7 yX7_isBuild yX7_isBuild, .initialized RX7, .code yX7_isBuild cX7_isBuild 2 (some .boolean), .fieldLink RX7 232 "LinkModelsModel" "builds" "I", .methodLink RX7 105 yX7_in, .static yX7_in, .code yX7_in cX7_in 6 (some .boolean), .methodLink RX7 306 yX7_isUse, .instanceMethod yX7_isUse, .selects RX7 yX7_isUse yX7_isUse, .code yX7_isUse cX7_isUse 2 (some .boolean), .fieldLink RX7 263 "LinkModelsModel" "uses" "I", .methodLink RX7 309 yX7_links, .instanceMethod yX7_links, .selects RX7 yX7_links yX7_links, .code yX7_links cX7_links 9 (some .int), .fieldLink RX7 76 "LinkModelsModel" "caller" "[I", .fieldLink RX7 73 "LinkModelsModel" "useKind" "[I", .fieldLink RX7 23 "LinkModelsModel" "sort" "[I", .fieldLink RX7 48 "LinkModelsModel" "marks" "[I", .methodLink RX7 251 yX7_errorOf, .instanceMethod yX7_errorOf, .selects RX7 yX7_errorOf yX7_errorOf, .code yX7_errorOf cX7_errorOf 4 (some .int), .fieldLink RX7 38 "LinkModelsModel" "error" "[I", .methodLink RX7 201 yX7_place, .instanceMethod yX7_place, .selects RX7 yX7_place yX7_place, .code yX7_place cX7_place 4 (some .int), .fieldLink RX7 17 "LinkModelsModel" "classes" "[I", .fieldLink RX7 20 "LinkModelsModel" "className" "[I", .methodLink RX7 303 yX7_findMethod, .instanceMethod yX7_findMethod, .selects RX7 yX7_findMethod yX7_findMethod, .code yX7_findMethod cX7_findMethod 6 (some .int), .fieldLink RX7 279 "LinkModelsModel" "bodies" "I", .fieldLink RX7 285 "LinkModelsModel" "firstOne" "I", .fieldLink RX7 282 "LinkModelsModel" "bodied" "I", .methodLink RX7 292 yX7_findFaces, .instanceMethod yX7_findFaces, .selects RX7 yX7_findFaces yX7_findFaces, .code yX7_findFaces cX7_findFaces 8 none, .fieldLink RX7 266 "LinkModelsModel" "rowLong" "I", .fieldLink RX7 100 "LinkModelsModel" "row" "[I", .methodLink RX7 288 yX7_methodIn, .instanceMethod yX7_methodIn, .selects RX7 yX7_methodIn yX7_methodIn, .code yX7_methodIn cX7_methodIn 6 (some .int), .fieldLink RX7 51 "LinkModelsModel" "isMethod" "[Z", .fieldLink RX7 44 "LinkModelsModel" "word" "[J", .fieldLink RX7 82 "LinkModelsModel" "useWord" "[J", .fieldLink RX7 35 "LinkModelsModel" "members" "[I", .fieldLink RX7 61 "LinkModelsModel" "many" "[I", .fieldLink RX7 85 "LinkModelsModel" "useMany" "[I", .fieldLink RX7 67 "LinkModelsModel" "second" "[I", .fieldLink RX7 91 "LinkModelsModel" "useSecond" "[I", .fieldLink RX7 64 "LinkModelsModel" "first" "[I", .fieldLink RX7 88 "LinkModelsModel" "useFirst" "[I", .methodLink RX7 256 yX7_isOf, .instanceMethod yX7_isOf, .selects RX7 yX7_isOf yX7_isOf, .code yX7_isOf cX7_isOf 4 (some .boolean), .fieldLink RX7 41 "LinkModelsModel" "ofAll" "[I", .methodLink RX7 272 yX7_faceRow, .instanceMethod yX7_faceRow, .selects RX7 yX7_faceRow yX7_faceRow, .code yX7_faceRow cX7_faceRow 8 none, .fieldLink RX7 97 "LinkModelsModel" "pile" "[I", .fieldLink RX7 32 "LinkModelsModel" "face" "[I", .fieldLink RX7 29 "LinkModelsModel" "faces" "[I", .methodLink RX7 276 yX7_aboveOf, .instanceMethod yX7_aboveOf, .selects RX7 yX7_aboveOf yX7_aboveOf, .code yX7_aboveOf cX7_aboveOf 3 (some .int), .fieldLink RX7 26 "LinkModelsModel" "above" "[I", .methodLink RX7 299 yX7_findField, .instanceMethod yX7_findField, .selects RX7 yX7_findField yX7_findField, .code yX7_findField cX7_findField 7 (some .int), .methodLink RX7 269 yX7_fieldIn, .instanceMethod yX7_fieldIn, .selects RX7 yX7_fieldIn yX7_fieldIn, .code yX7_fieldIn cX7_fieldIn 4 (some .int)] ++ wsX70)
theorem zgX7_link_X7_isBuild_248 : GoodIn zwX7_link (wsV RX7 248 RX7 yX7_isBuild zwX7_isBuild) := goodIn_app (goodIn_r _ [4, 5, 6, 7] rfl (by decide +kernel)) (goodIn_ca (goodIn_r _ [8, 9, 10, 11, 7, 12] rfl (by decide +kernel)) (zgt zg7))
theorem zgX7_link_X7_isUse_306 : GoodIn zwX7_link (wsV RX7 306 RX7 yX7_isUse zwX7_isUse) := goodIn_app (goodIn_r _ [13, 14, 15, 7] rfl (by decide +kernel)) (goodIn_ca (goodIn_r _ [16, 17, 10, 11, 7, 12] rfl (by decide +kernel)) (zgt zg7))
theorem zgX7_link_X7_links_309 : GoodIn zwX7_link (wsV RX7 309 RX7 yX7_links zwX7_links) := goodIn_app (goodIn_r _ [18, 19, 20, 7] rfl (by decide +kernel)) (goodIn_ca (goodIn_r _ [21, 2, 22, 3, 23, 24, 25, 26, 27, 28, 7, 29, 30, 31, 32, 33, 34, 35, 36, 37, 38, 39, 40, 41, 42, 43, 44, 45, 46, 47, 48, 49, 50, 51, 52, 53, 54, 55, 56, 57, 58, 59, 60, 61, 62, 63, 64, 65, 66, 67, 68, 69, 70, 71, 72, 73, 74, 75, 76, 77, 78, 79, 80, 81, 82, 83, 84, 85, 86, 87, 88] rfl (by decide +kernel)) (zgt zg7))
theorem zgX7_link_X7_place_201 : GoodIn zwX7_link (wsV RX7 201 RX7 yX7_place zwX7_place) := goodIn_app (goodIn_r _ [31, 32, 33, 7] rfl (by decide +kernel)) (goodIn_ca (goodIn_r _ [34, 35, 36] rfl (by decide +kernel)) (zgt zg7))
set_option maxHeartbeats 4000000 in
set_option maxRecDepth 100000 in
theorem kX7_link (l : Launch) (dC : Nat → ClassId) (dI : Nat → Nat → Nat) (h0 : Nat) (r : Nat → Nat) (cI : ClassId) (cJ : ClassId) (cZ : ClassId) (v0 : Int32) (a1 : Nat → Int32) (tp : Nat) (bs : Nat) (cl : Nat → Nat) (a5 : Nat → Int32) (a6 : Nat → Int32) (a7 : Nat → Int32) (fc : Nat → Nat) (a9 : Nat → Int32) (mb : Nat → Nat) (a11 : Nat → Int32) (a12 : Nat → Int32) (a13 : Nat → Int64) (a14 : Nat → Int32) (a15 : Nat → Int32) (a16 : Nat → Int32) (a17 : Nat → Int32) (a18 : Nat → Int32) (a19 : Nat → Int32) (a20 : Nat → Int32) (az : Nat) (v22 : Int32) (v23 : Int32) (v24 : Int64) (v25 : Int32) (v26 : Int32) (bb : Nat) (ct : Nat → Nat) (us : Nat) (a30 : Nat → Int32) (a31 : Nat → Int32) (a32 : Nat → Int32) (a33 : Nat → Int64) (a34 : Nat → Int32) (a35 : Nat → Int32) (a36 : Nat → Int32) (a37 : Nat → Int32) (pil : Nat → Nat) (rwv : Nat → Nat) (rl : Nat) (v41 : Int32) (v42 : Int32) (v43 : Int32) (v44 : Int32) (v45 : Int32) (hI : rWI tp bs cl fc mb az bb ct us pil rwv rl) (xb : Int32) (xu : Int32) (hp0 : ∀ bd, bd < bs → zOK cl a5 a7 fc a9 a11 bd) (sz : Nat) : Met l yX7_link zwX7_link ({ frames := 5, cells := 0, slots := 0, locals := 130 }) (zPm dC dI [.ref h0, .int xb, .int xu] sz (rW h0 r cI cJ cZ v0 a1 (nI tp) (nI bs) (fun j => nI (cl j)) a5 a6 a7 (fun j => nI (fc j)) a9 (fun j => nI (mb j)) a11 a12 a13 a14 a15 a16 a17 a18 a19 a20 (nI az) v22 v23 v24 v25 v26 (nI bb) (fun j => nI (ct j)) (nI us) a30 a31 a32 a33 a34 a35 a36 a37 (fun j => nI (pil j)) (fun j => nI (rwv j)) (nI rl) v41 v42 v43 v44 v45) [(cI, .int), (cJ, .long), (cZ, .boolean)]) (va_Qi (fun (r : Int32) (u : Int32 × Nat × (Nat → Nat) × (Nat → Nat) × Int32 × Int32 × Int32 × Int32) => (∀ j, (u.2.2.1) j ≤ 15) ∧ (∀ j, (u.2.2.2.1) j ≤ 15)) (fun u t => zB dC dI (va_A (rW h0 r cI cJ cZ v0 a1 (nI tp) (nI bs) (fun j => nI (cl j)) a5 a6 a7 (fun j => nI (fc j)) a9 (fun j => nI (mb j)) a11 a12 a13 a14 a15 a16 a17 a18 a19 a20 (nI az) v22 v23 v24 v25 v26 (nI bb) (fun j => nI (ct j)) (nI us) a30 a31 a32 a33 a34 a35 a36 a37 (fun j => nI (pil j)) (fun j => nI (rwv j)) (nI rl) v41 v42 v43 v44 v45) sz) (rW h0 r cI cJ cZ (u.1) a1 (nI tp) (nI bs) (fun j => nI (cl j)) a5 a6 a7 (fun j => nI (fc j)) a9 (fun j => nI (mb j)) a11 a12 a13 a14 a15 a16 a17 a18 a19 a20 (nI az) v22 v23 v24 v25 v26 (nI bb) (fun j => nI (ct j)) (nI us) a30 a31 a32 a33 a34 a35 a36 a37 (fun j => nI ((u.2.2.1) j)) (fun j => nI ((u.2.2.2.1) j)) (nI (u.2.1)) v41 (u.2.2.2.2.2.2.2) (u.2.2.2.2.1) (u.2.2.2.2.2.1) (u.2.2.2.2.2.2.1)) [(cI, .int), (cJ, .long), (cZ, .boolean)] t) (va_A (rW h0 r cI cJ cZ v0 a1 (nI tp) (nI bs) (fun j => nI (cl j)) a5 a6 a7 (fun j => nI (fc j)) a9 (fun j => nI (mb j)) a11 a12 a13 a14 a15 a16 a17 a18 a19 a20 (nI az) v22 v23 v24 v25 v26 (nI bb) (fun j => nI (ct j)) (nI us) a30 a31 a32 a33 a34 a35 a36 a37 (fun j => nI (pil j)) (fun j => nI (rwv j)) (nI rl) v41 v42 v43 v44 v45) sz)) 0 0 (va_A (rW h0 r cI cJ cZ v0 a1 (nI tp) (nI bs) (fun j => nI (cl j)) a5 a6 a7 (fun j => nI (fc j)) a9 (fun j => nI (mb j)) a11 a12 a13 a14 a15 a16 a17 a18 a19 a20 (nI az) v22 v23 v24 v25 v26 (nI bb) (fun j => nI (ct j)) (nI us) a30 a31 a32 a33 a34 a35 a36 a37 (fun j => nI (pil j)) (fun j => nI (rwv j)) (nI rl) v41 v42 v43 v44 v45) sz) := by
  refine Met.ofW (cc := cX7_link) (maxL := 4) (ret := (some .int)) (by decide) rfl ?_
  intro p e s m args below meth c s₁ B hml hv
  obtain ⟨rfl, hsz, hP, hK, hD0, hL0⟩ := hv
  have hx := B.exec
  have hb := B.bytes
  have hr := B.returns
  have hts := atoms_spec (ws := zwX7_link) B.pre
  have hown : s.vm.findClass RX7 = some m.cls := findClass_of_methodNamed B.named
  have hiX7 : ∀ w ∈ wsX70, w ∈ zwX7_link := (fun _ h => List.mem_cons_of_mem _ (List.mem_append_right _ h))
  obtain ⟨htp, hbs, hus, hcl, hfc, hmb, hct, hpil, hrwv⟩ := hI
  subst hsz
  have hD := hD0.self (sz := s.heap.size)
  generalize hAe : va_A (rW h0 r cI cJ cZ v0 a1 (nI tp) (nI bs) (fun j => nI (cl j)) a5 a6 a7 (fun j => nI (fc j)) a9 (fun j => nI (mb j)) a11 a12 a13 a14 a15 a16 a17 a18 a19 a20 (nI az) v22 v23 v24 v25 v26 (nI bb) (fun j => nI (ct j)) (nI us) a30 a31 a32 a33 a34 a35 a36 a37 (fun j => nI (pil j)) (fun j => nI (rwv j)) (nI rl) v41 v42 v43 v44 v45) s.heap.size = A at hD hL0 ⊢
  have hA : ∀ q : Nat, s.heap.size ≤ q → A q := fun q h => by rw [← hAe]; exact Or.inr h
  have hS : va_S A s.heap s.heap [] := va_S.rf
  have hL := hL0
  have hl := lv_entry ([.ref h0, .int xb, .int xu]) (n := 4) (Nat.le_of_ble_eq_true rfl)
  rw [lg_entry_eq]
  generalize (lg_sl ([.ref h0, .int xb, .int xu]) ++ List.replicate (4 - (lg_sl ([.ref h0, .int xb, .int xu])).length) Slot.unset).toArray = ls at hl ⊢
  have hl : lv_has ls 4 [(0, .ref h0), (1, .int xb), (2, .int xu)] := hl
  refine lv_aload_n hx hb dX7_link_0 rfl (lv_at hl 0 rfl) ?_
  refine lv_iconst (v := 0) hx hb dX7_link_1 (by decide) ?_
  refine va_put (D := (dC, dI)) (ci := 6) (v := .int 0) (ty := (.int)) (C := RX7) (T := TX7) (N := 46) hx hb hts hiX7 tyX7 tyX7_ok nmX7 hown hK hP hD hS 0 rfl rfl 0 (by decide) (hts (.fieldLink RX7 1 "LinkModelsModel" "thrown" "I") (by decide +kernel)) (fun _ h9 => h9) rfl (by decide +kernel) rfl rfl (Nat.le_of_ble_eq_true rfl) dX7_link_2 (fun H locs hP hD hS => ?_)
  have hP : va_P (dC, dI) vwCl (rW h0 r cI cJ cZ 0 a1 (nI tp) (nI bs) (fun j => nI (cl j)) a5 a6 a7 (fun j => nI (fc j)) a9 (fun j => nI (mb j)) a11 a12 a13 a14 a15 a16 a17 a18 a19 a20 (nI az) v22 v23 v24 v25 v26 (nI bb) (fun j => nI (ct j)) (nI us) a30 a31 a32 a33 a34 a35 a36 a37 (fun j => nI (pil j)) (fun j => nI (rwv j)) (nI rl) v41 v42 v43 v44 v45) H := hP
  have hD : va_D A (rW h0 r cI cJ cZ 0 a1 (nI tp) (nI bs) (fun j => nI (cl j)) a5 a6 a7 (fun j => nI (fc j)) a9 (fun j => nI (mb j)) a11 a12 a13 a14 a15 a16 a17 a18 a19 a20 (nI az) v22 v23 v24 v25 v26 (nI bb) (fun j => nI (ct j)) (nI us) a30 a31 a32 a33 a34 a35 a36 a37 (fun j => nI (pil j)) (fun j => nI (rwv j)) (nI rl) v41 v42 v43 v44 v45) := hD
  refine lv_aload_n hx hb dX7_link_5 rfl (lv_at hl 0 rfl) ?_
  refine lv_iload_n hx hb dX7_link_6 rfl (lv_at hl 1 rfl) ?_
  have hFc := z_freeW hD hS hA
  refine vp_callSi (W.runV (As := [.int xb]) (rest := []) ⟨hx, hb, hml, hown, hts⟩ (kX7_isBuild l dC dI h0 r cI cJ cZ 0 a1 tp bs cl a5 a6 a7 fc a9 mb a11 a12 a13 a14 a15 a16 a17 a18 a19 a20 az v22 v23 v24 v25 v26 bb ct us a30 a31 a32 a33 a34 a35 a36 a37 pil rwv rl v41 v42 v43 v44 v45 ⟨by omega, by omega, by omega, hcl, hfc, hmb, hct, hpil, hrwv⟩ xb H.size) (cwV 1 hts zgX7_link_X7_isBuild_248 rfl rfl rfl (by decide +kernel) ⟨(show 1 + 1 ≤ 5 by omega), (show 8 + (2 + 11) + 25 ≤ 130 by omega)⟩) (zVm (ci := 6) (q0 := 0) (q := (RX7, TX7, 46)) hK hP hD hL hS.2.1 hFc rfl rfl rfl) rfl rfl hl.1 rfl (lv_room (Nat.le_of_ble_eq_true rfl)) dX7_link_7 ⟨(show 0 + 0 ≤ 0 by omega), (show 0 + 0 ≤ 0 by omega)⟩) (fun r1 hw => ?_)
  have hw : (r1 = 0 ∨ r1 = 1) ∧ (r1 = 1 → ∃ k, k < bs ∧ xb = nI k) := hw
  obtain ⟨w0r1, w1r1⟩ := hw
  refine lv_if_eq (tgt := 21) hx hb dX7_link_10 (by decide) (fun cp10 => ?_) (fun cp10 => ?_)
  · refine lv_bipush (v := (-2)) hx hb dX7_link_21 (by decide) ?_
    have hP9 : va_P (dC, dI) vwCl (rW h0 r cI cJ cZ 0 a1 (nI tp) (nI bs) (fun j => nI (cl j)) a5 a6 a7 (fun j => nI (fc j)) a9 (fun j => nI (mb j)) a11 a12 a13 a14 a15 a16 a17 a18 a19 a20 (nI az) v22 v23 v24 v25 v26 (nI bb) (fun j => nI (ct j)) (nI us) a30 a31 a32 a33 a34 a35 a36 a37 (fun j => nI (pil j)) (fun j => nI (rwv j)) (nI rl) v41 v42 v43 v44 v45) H := hP
    have hD9 : va_D A (rW h0 r cI cJ cZ 0 a1 (nI tp) (nI bs) (fun j => nI (cl j)) a5 a6 a7 (fun j => nI (fc j)) a9 (fun j => nI (mb j)) a11 a12 a13 a14 a15 a16 a17 a18 a19 a20 (nI az) v22 v23 v24 v25 v26 (nI bb) (fun j => nI (ct j)) (nI us) a30 a31 a32 a33 a34 a35 a36 a37 (fun j => nI (pil j)) (fun j => nI (rwv j)) (nI rl) v41 v42 v43 v44 v45) := hD
    exact W.iret (v := (-2 : Int32)) hx hb hr (fun t ht hW => ⟨⟨(-2 : Int32), (0, rl, pil, rwv, v43, v44, v45, v42), rfl, ⟨hpil, hrwv⟩, by rw [ht]; exact hP9, va_K.moved hW.alike hK, hD9⟩, hS.F ht⟩) hS.2.2 dX7_link_23
  · obtain ⟨k2, hBk2, rfl⟩ := w1r1 (w0r1.resolve_left cp10)
    refine lv_aload_n hx hb dX7_link_13 rfl (lv_at hl 0 rfl) ?_
    refine lv_iload_n hx hb dX7_link_14 rfl (lv_at hl 2 rfl) ?_
    have hFc := z_freeW hD hS hA
    refine vp_callSi (W.runV (As := [.int xu]) (rest := []) ⟨hx, hb, hml, hown, hts⟩ (kX7_isUse l dC dI h0 r cI cJ cZ 0 a1 tp bs cl a5 a6 a7 fc a9 mb a11 a12 a13 a14 a15 a16 a17 a18 a19 a20 az v22 v23 v24 v25 v26 bb ct us a30 a31 a32 a33 a34 a35 a36 a37 pil rwv rl v41 v42 v43 v44 v45 ⟨by omega, by omega, by omega, hcl, hfc, hmb, hct, hpil, hrwv⟩ xu H.size) (cwV 1 hts zgX7_link_X7_isUse_306 rfl rfl rfl (by decide +kernel) ⟨(show 1 + 1 ≤ 5 by omega), (show 8 + (2 + 11) + 25 ≤ 130 by omega)⟩) (zVm (ci := 6) (q0 := 0) (q := (RX7, TX7, 46)) hK hP hD hL hS.2.1 hFc rfl rfl rfl) rfl rfl hl.1 rfl (lv_room (Nat.le_of_ble_eq_true rfl)) dX7_link_15 ⟨(show 0 + 0 ≤ 0 by omega), (show 0 + 0 ≤ 0 by omega)⟩) (fun r3 hw => ?_)
    have hw : (r3 = 0 ∨ r3 = 1) ∧ (r3 = 1 → ∃ k, k < us ∧ xu = nI k) := hw
    obtain ⟨w0r3, w1r3⟩ := hw
    refine lv_if_ne (tgt := 24) hx hb dX7_link_18 (by decide) (fun cp18 => ?_) (fun cp18 => ?_)
    · obtain ⟨k4, hBk4, rfl⟩ := w1r3 (w0r3.resolve_left cp18)
      refine lv_aload_n hx hb dX7_link_24 rfl (lv_at hl 0 rfl) ?_
      refine lv_iload_n hx hb dX7_link_25 rfl (lv_at hl 1 rfl) ?_
      refine lv_iload_n hx hb dX7_link_26 rfl (lv_at hl 2 rfl) ?_
      have hFc := z_freeW hD hS hA
      refine va_calli (va_runV (As := [.int (nI k2), .int (nI k4)]) (rest := []) ⟨hx, hb, hml, hown, hts⟩ (kX7_links l dC dI h0 r cI cJ cZ 0 a1 tp bs cl a5 a6 a7 fc a9 mb a11 a12 a13 a14 a15 a16 a17 a18 a19 a20 az v22 v23 v24 v25 v26 bb ct us a30 a31 a32 a33 a34 a35 a36 a37 pil rwv rl v41 v42 v43 v44 v45 ⟨by omega, by omega, by omega, hcl, hfc, hmb, hct, hpil, hrwv⟩ k2 k4 (by first | omega | assumption | trivial) (by first | omega | assumption | trivial) (by exact hp0) H.size) (cwV 2 hts zgX7_link_X7_links_309 rfl rfl rfl (by decide +kernel) ⟨(show 4 + 1 ≤ 5 by omega), (show 8 + (9 + 11) + 102 ≤ 130 by omega)⟩) (zVm (ci := 6) (q0 := 0) (q := (RX7, TX7, 46)) hK hP hD hL hS.2.1 hFc rfl rfl rfl) rfl rfl hl.1 rfl (lv_room (Nat.le_of_ble_eq_true rfl)) dX7_link_27 ⟨(show 0 + 0 ≤ 0 by omega), (show 0 + 0 ≤ 0 by omega)⟩) hS (fun q _ h => hFc q h) hFc (fun r5 u13 t H1 locs ht hvm hw hB hz1 hk1 hS => ?_)
      obtain ⟨o6, o7, o8, o9, o10, o11, o12⟩ := u13
      obtain ⟨hP, hK9, hD⟩ := hB
      rw [ht] at hP
      have hD := hD.weaken (fun k q _ h => hFc q.1 h)
      generalize H1 = H at hP hS
      have hP : va_P (dC, dI) vwCl (rW h0 r cI cJ cZ 0 a1 (nI tp) (nI bs) (fun j => nI (cl j)) a5 a6 a7 (fun j => nI (fc j)) a9 (fun j => nI (mb j)) a11 a12 a13 a14 a15 a16 a17 a18 a19 a20 (nI az) v22 v23 v24 v25 v26 (nI bb) (fun j => nI (ct j)) (nI us) a30 a31 a32 a33 a34 a35 a36 a37 (fun j => nI (o7 j)) (fun j => nI (o8 j)) (nI o6) v41 o12 o9 o10 o11) H := hP
      have hD : va_D A (rW h0 r cI cJ cZ 0 a1 (nI tp) (nI bs) (fun j => nI (cl j)) a5 a6 a7 (fun j => nI (fc j)) a9 (fun j => nI (mb j)) a11 a12 a13 a14 a15 a16 a17 a18 a19 a20 (nI az) v22 v23 v24 v25 v26 (nI bb) (fun j => nI (ct j)) (nI us) a30 a31 a32 a33 a34 a35 a36 a37 (fun j => nI (o7 j)) (fun j => nI (o8 j)) (nI o6) v41 o12 o9 o10 o11) := hD
      have hw : (zM o12 (fun k => k < 960)) ∧ (0 < r5 ∨ 7 < a30 k4 ∨ ∃ k, k < 960 ∧ o12 = nI k) ∧ (7 < a30 k4 → o12 = -1) ∧ (∀ j, o7 j ≤ 15) ∧ (∀ j, o8 j ≤ 15) := hw
      obtain ⟨w0r5, w1r5, w2r5, hbo7, hbo8⟩ := hw
      refine lv_istore_n (lv' := [(3, .int r5), (0, .ref h0), (1, .int (nI k2)), (2, .int (nI k4))]) hx hb dX7_link_30 rfl hl (by decide) rfl (fun ls hl => ?_)
      refine lv_iload_n hx hb dX7_link_31 rfl (lv_at hl 0 rfl) ?_
      refine lv_if_le (tgt := 42) hx hb dX7_link_32 (by decide) (fun cp32 => ?_) (fun cp32 => ?_)
      · refine lv_aload_n hx hb dX7_link_42 rfl (lv_at hl 1 rfl) ?_
        refine va_get (D := (dC, dI)) (ci := 6) (v := .int o12) (C := RX7) (T := TX7) (N := 46) hx hb hts hiX7 hown hK hP 0 rfl rfl 42 (by decide) (hts (.fieldLink RX7 296 "LinkModelsModel" "linked" "I") (by decide +kernel)) (fun _ h9 => h9) rfl dX7_link_43 ?_
        refine lv_if_ge (tgt := 63) hx hb dX7_link_46 (by decide) (fun cp46 => ?_) (fun cp46 => ?_)
        · obtain ⟨k14, hBk14, hQk14, rfl⟩ := zM.pos' w0r5 cp46
          refine lv_aload_n hx hb dX7_link_63 rfl (lv_at hl 1 rfl) ?_
          refine va_get (D := (dC, dI)) (ci := 6) (v := .int (nI k14)) (C := RX7) (T := TX7) (N := 46) hx hb hts hiX7 hown hK hP 0 rfl rfl 42 (by decide) (hts (.fieldLink RX7 296 "LinkModelsModel" "linked" "I") (by decide +kernel)) (fun _ h9 => h9) rfl dX7_link_64 ?_
          refine lv_bipush (v := 12) hx hb dX7_link_67 (by decide) ?_
          refine lv_idiv (x := nI k14) (y := nI 12) hx hb dX7_link_69 (nI_ne0 (show 0 < 12 by omega) (show 12 < 2 ^ 31 by omega)) ?_
          refine lv_topi (fun x15 ex15 => ?_)
          obtain rfl : x15 = nI (k14 / 12) := by rw [ex15]; exact pk_div (show k14 < 2 ^ 31 by omega) (show 0 < 12 by omega) (show 12 < 2 ^ 31 by omega)
          refine lv_bipush (v := 16) hx hb dX7_link_70 (by decide) ?_
          refine lv_irem (x := nI (k14 / 12)) (y := nI 16) hx hb dX7_link_72 (nI_ne0 (show 0 < 16 by omega) (show 16 < 2 ^ 31 by omega)) ?_
          refine lv_topi (fun x16 ex16 => ?_)
          obtain rfl : x16 = nI ((k14 / 12) % 16) := by rw [ex16]; exact pk_rem (show k14 / 12 < 2 ^ 31 by omega) (show 0 < 16 by omega) (show 16 < 2 ^ 31 by omega)
          have hP9 : va_P (dC, dI) vwCl (rW h0 r cI cJ cZ 0 a1 (nI tp) (nI bs) (fun j => nI (cl j)) a5 a6 a7 (fun j => nI (fc j)) a9 (fun j => nI (mb j)) a11 a12 a13 a14 a15 a16 a17 a18 a19 a20 (nI az) v22 v23 v24 v25 v26 (nI bb) (fun j => nI (ct j)) (nI us) a30 a31 a32 a33 a34 a35 a36 a37 (fun j => nI (o7 j)) (fun j => nI (o8 j)) (nI o6) v41 (nI k14) o9 o10 o11) H := hP
          have hD9 : va_D A (rW h0 r cI cJ cZ 0 a1 (nI tp) (nI bs) (fun j => nI (cl j)) a5 a6 a7 (fun j => nI (fc j)) a9 (fun j => nI (mb j)) a11 a12 a13 a14 a15 a16 a17 a18 a19 a20 (nI az) v22 v23 v24 v25 v26 (nI bb) (fun j => nI (ct j)) (nI us) a30 a31 a32 a33 a34 a35 a36 a37 (fun j => nI (o7 j)) (fun j => nI (o8 j)) (nI o6) v41 (nI k14) o9 o10 o11) := hD
          exact W.iret (v := (nI ((k14 / 12) % 16))) hx hb hr (fun t ht hW => ⟨⟨(nI ((k14 / 12) % 16)), (0, o6, o7, o8, o9, o10, o11, (nI k14)), rfl, ⟨hbo7, hbo8⟩, by rw [ht]; exact hP9, va_K.moved hW.alike hK, hD9⟩, hS.F ht⟩) hS.2.2 dX7_link_73
        · obtain rfl : o12 = -1 := zM.neg' w0r5 cp46
          refine lv_aload_n hx hb dX7_link_49 rfl (lv_at hl 1 rfl) ?_
          refine lv_iload_n hx hb dX7_link_50 rfl (lv_at hl 2 rfl) ?_
          refine lv_aload_n hx hb dX7_link_51 rfl (lv_at hl 1 rfl) ?_
          refine va_get (D := (dC, dI)) (ci := 6) (v := .ref (r 32)) (C := RX7) (T := TX7) (N := 46) hx hb hts hiX7 hown hK hP 0 rfl rfl 32 (by decide) (hts (.fieldLink RX7 79 "LinkModelsModel" "owner" "[I") (by decide +kernel)) (fun _ h9 => h9) rfl dX7_link_52 ?_
          refine lv_iload_n hx hb dX7_link_55 rfl (lv_at hl 3 rfl) ?_
          refine va_iald hx hb hK hP 22 0 rfl rfl (vp_in_nI (show k4 < 40 by omega) (by decide)) dX7_link_56 ?_
          refine lv_topi (fun x17 ex17 => ?_)
          obtain rfl : x17 = a32 k4 := by rw [ex17, nI_clamp (show k4 < 2 ^ 31 by omega)]
          have hFc := z_freeW hD hS hA
          refine vp_callSi (W.runV (As := [.int (nI k2), .int (a32 k4)]) (rest := []) ⟨hx, hb, hml, hown, hts⟩ (kX7_place l dC dI h0 r cI cJ cZ 0 a1 tp bs cl a5 a6 a7 fc a9 mb a11 a12 a13 a14 a15 a16 a17 a18 a19 a20 az v22 v23 v24 v25 v26 bb ct us a30 a31 a32 a33 a34 a35 a36 a37 o7 o8 o6 v41 (-1) o9 o10 o11 ⟨by omega, by omega, by omega, hcl, hfc, hmb, hct, hbo7, hbo8⟩ k2 (a32 k4) (by first | omega | assumption | trivial) H.size) (cwV 2 hts zgX7_link_X7_place_201 rfl rfl rfl (by decide +kernel) ⟨(show 0 + 1 ≤ 5 by omega), (show 8 + (4 + 11) + 0 ≤ 130 by omega)⟩) (zVm (ci := 6) (q0 := 0) (q := (RX7, TX7, 46)) hK hP hD hL hS.2.1 hFc rfl rfl rfl) rfl rfl hl.1 rfl (lv_room (Nat.le_of_ble_eq_true rfl)) dX7_link_57 ⟨(show 0 + 0 ≤ 0 by omega), (show 0 + 0 ≤ 0 by omega)⟩) (fun r18 hw => ?_)
          have hw : (zM r18 (fun k => k < cl k2)) ∧ (zPl a5 (16 * k2) (cl k2) ((a32 k4)) r18) := hw
          obtain ⟨w0r18, w1r18⟩ := hw
          refine lv_goto (tgt := 73) hx hb dX7_link_60 (by decide) ?_
          have hP9 : va_P (dC, dI) vwCl (rW h0 r cI cJ cZ 0 a1 (nI tp) (nI bs) (fun j => nI (cl j)) a5 a6 a7 (fun j => nI (fc j)) a9 (fun j => nI (mb j)) a11 a12 a13 a14 a15 a16 a17 a18 a19 a20 (nI az) v22 v23 v24 v25 v26 (nI bb) (fun j => nI (ct j)) (nI us) a30 a31 a32 a33 a34 a35 a36 a37 (fun j => nI (o7 j)) (fun j => nI (o8 j)) (nI o6) v41 (-1) o9 o10 o11) H := hP
          have hD9 : va_D A (rW h0 r cI cJ cZ 0 a1 (nI tp) (nI bs) (fun j => nI (cl j)) a5 a6 a7 (fun j => nI (fc j)) a9 (fun j => nI (mb j)) a11 a12 a13 a14 a15 a16 a17 a18 a19 a20 (nI az) v22 v23 v24 v25 v26 (nI bb) (fun j => nI (ct j)) (nI us) a30 a31 a32 a33 a34 a35 a36 a37 (fun j => nI (o7 j)) (fun j => nI (o8 j)) (nI o6) v41 (-1) o9 o10 o11) := hD
          exact W.iret (v := r18) hx hb hr (fun t ht hW => ⟨⟨r18, (0, o6, o7, o8, o9, o10, o11, (-1)), rfl, ⟨hbo7, hbo8⟩, by rw [ht]; exact hP9, va_K.moved hW.alike hK, hD9⟩, hS.F ht⟩) hS.2.2 dX7_link_73
      · refine lv_bipush (v := (-10)) hx hb dX7_link_35 (by decide) ?_
        refine lv_iload_n hx hb dX7_link_37 rfl (lv_at hl 0 rfl) ?_
        refine lv_isub hx hb dX7_link_38 ?_
        refine lv_topi (fun x19 ex19 => ?_)
        refine lv_goto (tgt := 73) hx hb dX7_link_39 (by decide) ?_
        have hP9 : va_P (dC, dI) vwCl (rW h0 r cI cJ cZ 0 a1 (nI tp) (nI bs) (fun j => nI (cl j)) a5 a6 a7 (fun j => nI (fc j)) a9 (fun j => nI (mb j)) a11 a12 a13 a14 a15 a16 a17 a18 a19 a20 (nI az) v22 v23 v24 v25 v26 (nI bb) (fun j => nI (ct j)) (nI us) a30 a31 a32 a33 a34 a35 a36 a37 (fun j => nI (o7 j)) (fun j => nI (o8 j)) (nI o6) v41 o12 o9 o10 o11) H := hP
        have hD9 : va_D A (rW h0 r cI cJ cZ 0 a1 (nI tp) (nI bs) (fun j => nI (cl j)) a5 a6 a7 (fun j => nI (fc j)) a9 (fun j => nI (mb j)) a11 a12 a13 a14 a15 a16 a17 a18 a19 a20 (nI az) v22 v23 v24 v25 v26 (nI bb) (fun j => nI (ct j)) (nI us) a30 a31 a32 a33 a34 a35 a36 a37 (fun j => nI (o7 j)) (fun j => nI (o8 j)) (nI o6) v41 o12 o9 o10 o11) := hD
        exact W.iret (v := x19) hx hb hr (fun t ht hW => ⟨⟨x19, (0, o6, o7, o8, o9, o10, o11, o12), rfl, ⟨hbo7, hbo8⟩, by rw [ht]; exact hP9, va_K.moved hW.alike hK, hD9⟩, hS.F ht⟩) hS.2.2 dX7_link_73
    · refine lv_bipush (v := (-2)) hx hb dX7_link_21 (by decide) ?_
      have hP9 : va_P (dC, dI) vwCl (rW h0 r cI cJ cZ 0 a1 (nI tp) (nI bs) (fun j => nI (cl j)) a5 a6 a7 (fun j => nI (fc j)) a9 (fun j => nI (mb j)) a11 a12 a13 a14 a15 a16 a17 a18 a19 a20 (nI az) v22 v23 v24 v25 v26 (nI bb) (fun j => nI (ct j)) (nI us) a30 a31 a32 a33 a34 a35 a36 a37 (fun j => nI (pil j)) (fun j => nI (rwv j)) (nI rl) v41 v42 v43 v44 v45) H := hP
      have hD9 : va_D A (rW h0 r cI cJ cZ 0 a1 (nI tp) (nI bs) (fun j => nI (cl j)) a5 a6 a7 (fun j => nI (fc j)) a9 (fun j => nI (mb j)) a11 a12 a13 a14 a15 a16 a17 a18 a19 a20 (nI az) v22 v23 v24 v25 v26 (nI bb) (fun j => nI (ct j)) (nI us) a30 a31 a32 a33 a34 a35 a36 a37 (fun j => nI (pil j)) (fun j => nI (rwv j)) (nI rl) v41 v42 v43 v44 v45) := hD
      exact W.iret (v := (-2 : Int32)) hx hb hr (fun t ht hW => ⟨⟨(-2 : Int32), (0, rl, pil, rwv, v43, v44, v45, v42), rfl, ⟨hpil, hrwv⟩, by rw [ht]; exact hP9, va_K.moved hW.alike hK, hD9⟩, hS.F ht⟩) hS.2.2 dX7_link_23
theorem dX7_member_0 : decode cX7_member 0 = .ok (.aload_n 0, 1) := by decide +kernel
theorem dX7_member_1 : decode cX7_member 1 = .ok (.iconst 0, 1) := by decide +kernel
theorem dX7_member_2 : decode cX7_member 2 = .ok (.putfield 1, 3) := by decide +kernel
theorem dX7_member_5 : decode cX7_member 5 = .ok (.aload_n 0, 1) := by decide +kernel
theorem dX7_member_6 : decode cX7_member 6 = .ok (.iload_n 1, 1) := by decide +kernel
theorem dX7_member_7 : decode cX7_member 7 = .ok (.invokevirtual 248, 3) := by decide +kernel
theorem dX7_member_10 : decode cX7_member 10 = .ok (.ifCond .eq 11, 3) := by decide +kernel
theorem dX7_member_13 : decode cX7_member 13 = .ok (.aload_n 0, 1) := by decide +kernel
theorem dX7_member_14 : decode cX7_member 14 = .ok (.iload_n 2, 1) := by decide +kernel
theorem dX7_member_15 : decode cX7_member 15 = .ok (.invokevirtual 306, 3) := by decide +kernel
theorem dX7_member_18 : decode cX7_member 18 = .ok (.ifCond .ne 6, 3) := by decide +kernel
theorem dX7_member_21 : decode cX7_member 21 = .ok (.bipush (-2), 2) := by decide +kernel
theorem dX7_member_23 : decode cX7_member 23 = .ok (.ireturn, 1) := by decide +kernel
theorem dX7_member_24 : decode cX7_member 24 = .ok (.aload_n 0, 1) := by decide +kernel
theorem dX7_member_25 : decode cX7_member 25 = .ok (.iload_n 1, 1) := by decide +kernel
theorem dX7_member_26 : decode cX7_member 26 = .ok (.iload_n 2, 1) := by decide +kernel
theorem dX7_member_27 : decode cX7_member 27 = .ok (.invokevirtual 309, 3) := by decide +kernel
theorem dX7_member_30 : decode cX7_member 30 = .ok (.istore_n 3, 1) := by decide +kernel
theorem dX7_member_31 : decode cX7_member 31 = .ok (.iload_n 3, 1) := by decide +kernel
theorem dX7_member_32 : decode cX7_member 32 = .ok (.ifCond .le 10, 3) := by decide +kernel
theorem dX7_member_35 : decode cX7_member 35 = .ok (.bipush (-10), 2) := by decide +kernel
theorem dX7_member_37 : decode cX7_member 37 = .ok (.iload_n 3, 1) := by decide +kernel
theorem dX7_member_38 : decode cX7_member 38 = .ok (.isub, 1) := by decide +kernel
theorem dX7_member_39 : decode cX7_member 39 = .ok (.goto 21, 3) := by decide +kernel
theorem dX7_member_42 : decode cX7_member 42 = .ok (.aload_n 0, 1) := by decide +kernel
theorem dX7_member_43 : decode cX7_member 43 = .ok (.getfield 296, 3) := by decide +kernel
theorem dX7_member_46 : decode cX7_member 46 = .ok (.ifCond .ge 7, 3) := by decide +kernel
theorem dX7_member_49 : decode cX7_member 49 = .ok (.iconst (-1), 1) := by decide +kernel
theorem dX7_member_50 : decode cX7_member 50 = .ok (.goto 10, 3) := by decide +kernel
theorem dX7_member_53 : decode cX7_member 53 = .ok (.aload_n 0, 1) := by decide +kernel
theorem dX7_member_54 : decode cX7_member 54 = .ok (.getfield 296, 3) := by decide +kernel
theorem dX7_member_57 : decode cX7_member 57 = .ok (.bipush 12, 2) := by decide +kernel
theorem dX7_member_59 : decode cX7_member 59 = .ok (.irem, 1) := by decide +kernel
theorem dX7_member_60 : decode cX7_member 60 = .ok (.ireturn, 1) := by decide +kernel
def zwX7_member : List Cond := .code yX7_member cX7_member 4 (some .int) :: ([.fieldLink RX7 1 "LinkModelsModel" "thrown" "I", .fieldLink RX7 296 "LinkModelsModel" "linked" "I", .methodLink RX7 248 yX7_isBuild, .instanceMethod yX7_isBuild, .selects RX7 yX7_isBuild yX7_isBuild, .initialized RX7, .code yX7_isBuild cX7_isBuild 2 (some .boolean), .fieldLink RX7 232 "LinkModelsModel" "builds" "I", .methodLink RX7 105 yX7_in, .static yX7_in, .code yX7_in cX7_in 6 (some .boolean), .methodLink RX7 306 yX7_isUse, .instanceMethod yX7_isUse, .selects RX7 yX7_isUse yX7_isUse, .code yX7_isUse cX7_isUse 2 (some .boolean), .fieldLink RX7 263 "LinkModelsModel" "uses" "I", .methodLink RX7 309 yX7_links, .instanceMethod yX7_links, .selects RX7 yX7_links yX7_links, .code yX7_links cX7_links 9 (some .int), .fieldLink RX7 76 "LinkModelsModel" "caller" "[I", .fieldLink RX7 79 "LinkModelsModel" "owner" "[I", .fieldLink RX7 73 "LinkModelsModel" "useKind" "[I", .fieldLink RX7 23 "LinkModelsModel" "sort" "[I", .fieldLink RX7 48 "LinkModelsModel" "marks" "[I", .methodLink RX7 251 yX7_errorOf, .instanceMethod yX7_errorOf, .selects RX7 yX7_errorOf yX7_errorOf, .code yX7_errorOf cX7_errorOf 4 (some .int), .fieldLink RX7 38 "LinkModelsModel" "error" "[I", .methodLink RX7 201 yX7_place, .instanceMethod yX7_place, .selects RX7 yX7_place yX7_place, .code yX7_place cX7_place 4 (some .int), .fieldLink RX7 17 "LinkModelsModel" "classes" "[I", .fieldLink RX7 20 "LinkModelsModel" "className" "[I", .methodLink RX7 303 yX7_findMethod, .instanceMethod yX7_findMethod, .selects RX7 yX7_findMethod yX7_findMethod, .code yX7_findMethod cX7_findMethod 6 (some .int), .fieldLink RX7 279 "LinkModelsModel" "bodies" "I", .fieldLink RX7 285 "LinkModelsModel" "firstOne" "I", .fieldLink RX7 282 "LinkModelsModel" "bodied" "I", .methodLink RX7 292 yX7_findFaces, .instanceMethod yX7_findFaces, .selects RX7 yX7_findFaces yX7_findFaces, .code yX7_findFaces cX7_findFaces 8 none, .fieldLink RX7 266 "LinkModelsModel" "rowLong" "I", .fieldLink RX7 100 "LinkModelsModel" "row" "[I", .methodLink RX7 288 yX7_methodIn, .instanceMethod yX7_methodIn, .selects RX7 yX7_methodIn yX7_methodIn, .code yX7_methodIn cX7_methodIn 6 (some .int), .fieldLink RX7 51 "LinkModelsModel" "isMethod" "[Z", .fieldLink RX7 44 "LinkModelsModel" "word" "[J", .fieldLink RX7 82 "LinkModelsModel" "useWord" "[J", .fieldLink RX7 35 "LinkModelsModel" "members" "[I", .fieldLink RX7 61 "LinkModelsModel" "many" "[I", .fieldLink RX7 85 "LinkModelsModel" "useMany" "[I", .fieldLink RX7 67 "LinkModelsModel" "second" "[I", .fieldLink RX7 91 "LinkModelsModel" "useSecond" "[I", .fieldLink RX7 64 "LinkModelsModel" "first" "[I", .fieldLink RX7 88 "LinkModelsModel" "useFirst" "[I", .methodLink RX7 256 yX7_isOf, .instanceMethod yX7_isOf, .selects RX7 yX7_isOf yX7_isOf, .code yX7_isOf cX7_isOf 4 (some .boolean), .fieldLink RX7 41 "LinkModelsModel" "ofAll" "[I", .methodLink RX7 272 yX7_faceRow, .instanceMethod yX7_faceRow, .selects RX7 yX7_faceRow yX7_faceRow, .code yX7_faceRow cX7_faceRow 8 none, .fieldLink RX7 97 "LinkModelsModel" "pile" "[I", .fieldLink RX7 32 "LinkModelsModel" "face" "[I", .fieldLink RX7 29 "LinkModelsModel" "faces" "[I", .methodLink RX7 276 yX7_aboveOf, .instanceMethod yX7_aboveOf, .selects RX7 yX7_aboveOf yX7_aboveOf, .code yX7_aboveOf cX7_aboveOf 3 (some .int), .fieldLink RX7 26 "LinkModelsModel" "above" "[I", .methodLink RX7 299 yX7_findField, .instanceMethod yX7_findField, .selects RX7 yX7_findField yX7_findField, .code yX7_findField cX7_findField 7 (some .int), .methodLink RX7 269 yX7_fieldIn, .instanceMethod yX7_fieldIn, .selects RX7 yX7_fieldIn yX7_fieldIn, .code yX7_fieldIn cX7_fieldIn 4 (some .int)] ++ wsX70)
theorem zgX7_member_X7_isBuild_248 : GoodIn zwX7_member (wsV RX7 248 RX7 yX7_isBuild zwX7_isBuild) := goodIn_app (goodIn_r _ [3, 4, 5, 6] rfl (by decide +kernel)) (goodIn_ca (goodIn_r _ [7, 8, 9, 10, 6, 11] rfl (by decide +kernel)) (zgt zg7))
theorem zgX7_member_X7_isUse_306 : GoodIn zwX7_member (wsV RX7 306 RX7 yX7_isUse zwX7_isUse) := goodIn_app (goodIn_r _ [12, 13, 14, 6] rfl (by decide +kernel)) (goodIn_ca (goodIn_r _ [15, 16, 9, 10, 6, 11] rfl (by decide +kernel)) (zgt zg7))
theorem zgX7_member_X7_links_309 : GoodIn zwX7_member (wsV RX7 309 RX7 yX7_links zwX7_links) := goodIn_app (goodIn_r _ [17, 18, 19, 6] rfl (by decide +kernel)) (goodIn_ca (goodIn_r _ [20, 2, 21, 22, 23, 24, 25, 26, 27, 28, 6, 29, 30, 31, 32, 33, 34, 35, 36, 37, 38, 39, 40, 41, 42, 43, 44, 45, 46, 47, 48, 49, 50, 51, 52, 53, 54, 55, 56, 57, 58, 59, 60, 61, 62, 63, 64, 65, 66, 67, 68, 69, 70, 71, 72, 73, 74, 75, 76, 77, 78, 79, 80, 81, 82, 83, 84, 85, 86, 87, 88] rfl (by decide +kernel)) (zgt zg7))
set_option maxHeartbeats 4000000 in
set_option maxRecDepth 100000 in
theorem kX7_member (l : Launch) (dC : Nat → ClassId) (dI : Nat → Nat → Nat) (h0 : Nat) (r : Nat → Nat) (cI : ClassId) (cJ : ClassId) (cZ : ClassId) (v0 : Int32) (a1 : Nat → Int32) (tp : Nat) (bs : Nat) (cl : Nat → Nat) (a5 : Nat → Int32) (a6 : Nat → Int32) (a7 : Nat → Int32) (fc : Nat → Nat) (a9 : Nat → Int32) (mb : Nat → Nat) (a11 : Nat → Int32) (a12 : Nat → Int32) (a13 : Nat → Int64) (a14 : Nat → Int32) (a15 : Nat → Int32) (a16 : Nat → Int32) (a17 : Nat → Int32) (a18 : Nat → Int32) (a19 : Nat → Int32) (a20 : Nat → Int32) (az : Nat) (v22 : Int32) (v23 : Int32) (v24 : Int64) (v25 : Int32) (v26 : Int32) (bb : Nat) (ct : Nat → Nat) (us : Nat) (a30 : Nat → Int32) (a31 : Nat → Int32) (a32 : Nat → Int32) (a33 : Nat → Int64) (a34 : Nat → Int32) (a35 : Nat → Int32) (a36 : Nat → Int32) (a37 : Nat → Int32) (pil : Nat → Nat) (rwv : Nat → Nat) (rl : Nat) (v41 : Int32) (v42 : Int32) (v43 : Int32) (v44 : Int32) (v45 : Int32) (hI : rWI tp bs cl fc mb az bb ct us pil rwv rl) (xb : Int32) (xu : Int32) (hp0 : ∀ bd, bd < bs → zOK cl a5 a7 fc a9 a11 bd) (sz : Nat) : Met l yX7_member zwX7_member ({ frames := 5, cells := 0, slots := 0, locals := 130 }) (zPm dC dI [.ref h0, .int xb, .int xu] sz (rW h0 r cI cJ cZ v0 a1 (nI tp) (nI bs) (fun j => nI (cl j)) a5 a6 a7 (fun j => nI (fc j)) a9 (fun j => nI (mb j)) a11 a12 a13 a14 a15 a16 a17 a18 a19 a20 (nI az) v22 v23 v24 v25 v26 (nI bb) (fun j => nI (ct j)) (nI us) a30 a31 a32 a33 a34 a35 a36 a37 (fun j => nI (pil j)) (fun j => nI (rwv j)) (nI rl) v41 v42 v43 v44 v45) [(cI, .int), (cJ, .long), (cZ, .boolean)]) (va_Qi (fun (r : Int32) (u : Int32 × Nat × (Nat → Nat) × (Nat → Nat) × Int32 × Int32 × Int32 × Int32) => (∀ j, (u.2.2.1) j ≤ 15) ∧ (∀ j, (u.2.2.2.1) j ≤ 15)) (fun u t => zB dC dI (va_A (rW h0 r cI cJ cZ v0 a1 (nI tp) (nI bs) (fun j => nI (cl j)) a5 a6 a7 (fun j => nI (fc j)) a9 (fun j => nI (mb j)) a11 a12 a13 a14 a15 a16 a17 a18 a19 a20 (nI az) v22 v23 v24 v25 v26 (nI bb) (fun j => nI (ct j)) (nI us) a30 a31 a32 a33 a34 a35 a36 a37 (fun j => nI (pil j)) (fun j => nI (rwv j)) (nI rl) v41 v42 v43 v44 v45) sz) (rW h0 r cI cJ cZ (u.1) a1 (nI tp) (nI bs) (fun j => nI (cl j)) a5 a6 a7 (fun j => nI (fc j)) a9 (fun j => nI (mb j)) a11 a12 a13 a14 a15 a16 a17 a18 a19 a20 (nI az) v22 v23 v24 v25 v26 (nI bb) (fun j => nI (ct j)) (nI us) a30 a31 a32 a33 a34 a35 a36 a37 (fun j => nI ((u.2.2.1) j)) (fun j => nI ((u.2.2.2.1) j)) (nI (u.2.1)) v41 (u.2.2.2.2.2.2.2) (u.2.2.2.2.1) (u.2.2.2.2.2.1) (u.2.2.2.2.2.2.1)) [(cI, .int), (cJ, .long), (cZ, .boolean)] t) (va_A (rW h0 r cI cJ cZ v0 a1 (nI tp) (nI bs) (fun j => nI (cl j)) a5 a6 a7 (fun j => nI (fc j)) a9 (fun j => nI (mb j)) a11 a12 a13 a14 a15 a16 a17 a18 a19 a20 (nI az) v22 v23 v24 v25 v26 (nI bb) (fun j => nI (ct j)) (nI us) a30 a31 a32 a33 a34 a35 a36 a37 (fun j => nI (pil j)) (fun j => nI (rwv j)) (nI rl) v41 v42 v43 v44 v45) sz)) 0 0 (va_A (rW h0 r cI cJ cZ v0 a1 (nI tp) (nI bs) (fun j => nI (cl j)) a5 a6 a7 (fun j => nI (fc j)) a9 (fun j => nI (mb j)) a11 a12 a13 a14 a15 a16 a17 a18 a19 a20 (nI az) v22 v23 v24 v25 v26 (nI bb) (fun j => nI (ct j)) (nI us) a30 a31 a32 a33 a34 a35 a36 a37 (fun j => nI (pil j)) (fun j => nI (rwv j)) (nI rl) v41 v42 v43 v44 v45) sz) := by
  refine Met.ofW (cc := cX7_member) (maxL := 4) (ret := (some .int)) (by decide) rfl ?_
  intro p e s m args below meth c s₁ B hml hv
  obtain ⟨rfl, hsz, hP, hK, hD0, hL0⟩ := hv
  have hx := B.exec
  have hb := B.bytes
  have hr := B.returns
  have hts := atoms_spec (ws := zwX7_member) B.pre
  have hown : s.vm.findClass RX7 = some m.cls := findClass_of_methodNamed B.named
  have hiX7 : ∀ w ∈ wsX70, w ∈ zwX7_member := (fun _ h => List.mem_cons_of_mem _ (List.mem_append_right _ h))
  obtain ⟨htp, hbs, hus, hcl, hfc, hmb, hct, hpil, hrwv⟩ := hI
  subst hsz
  have hD := hD0.self (sz := s.heap.size)
  generalize hAe : va_A (rW h0 r cI cJ cZ v0 a1 (nI tp) (nI bs) (fun j => nI (cl j)) a5 a6 a7 (fun j => nI (fc j)) a9 (fun j => nI (mb j)) a11 a12 a13 a14 a15 a16 a17 a18 a19 a20 (nI az) v22 v23 v24 v25 v26 (nI bb) (fun j => nI (ct j)) (nI us) a30 a31 a32 a33 a34 a35 a36 a37 (fun j => nI (pil j)) (fun j => nI (rwv j)) (nI rl) v41 v42 v43 v44 v45) s.heap.size = A at hD hL0 ⊢
  have hA : ∀ q : Nat, s.heap.size ≤ q → A q := fun q h => by rw [← hAe]; exact Or.inr h
  have hS : va_S A s.heap s.heap [] := va_S.rf
  have hL := hL0
  have hl := lv_entry ([.ref h0, .int xb, .int xu]) (n := 4) (Nat.le_of_ble_eq_true rfl)
  rw [lg_entry_eq]
  generalize (lg_sl ([.ref h0, .int xb, .int xu]) ++ List.replicate (4 - (lg_sl ([.ref h0, .int xb, .int xu])).length) Slot.unset).toArray = ls at hl ⊢
  have hl : lv_has ls 4 [(0, .ref h0), (1, .int xb), (2, .int xu)] := hl
  refine lv_aload_n hx hb dX7_member_0 rfl (lv_at hl 0 rfl) ?_
  refine lv_iconst (v := 0) hx hb dX7_member_1 (by decide) ?_
  refine va_put (D := (dC, dI)) (ci := 6) (v := .int 0) (ty := (.int)) (C := RX7) (T := TX7) (N := 46) hx hb hts hiX7 tyX7 tyX7_ok nmX7 hown hK hP hD hS 0 rfl rfl 0 (by decide) (hts (.fieldLink RX7 1 "LinkModelsModel" "thrown" "I") (by decide +kernel)) (fun _ h9 => h9) rfl (by decide +kernel) rfl rfl (Nat.le_of_ble_eq_true rfl) dX7_member_2 (fun H locs hP hD hS => ?_)
  have hP : va_P (dC, dI) vwCl (rW h0 r cI cJ cZ 0 a1 (nI tp) (nI bs) (fun j => nI (cl j)) a5 a6 a7 (fun j => nI (fc j)) a9 (fun j => nI (mb j)) a11 a12 a13 a14 a15 a16 a17 a18 a19 a20 (nI az) v22 v23 v24 v25 v26 (nI bb) (fun j => nI (ct j)) (nI us) a30 a31 a32 a33 a34 a35 a36 a37 (fun j => nI (pil j)) (fun j => nI (rwv j)) (nI rl) v41 v42 v43 v44 v45) H := hP
  have hD : va_D A (rW h0 r cI cJ cZ 0 a1 (nI tp) (nI bs) (fun j => nI (cl j)) a5 a6 a7 (fun j => nI (fc j)) a9 (fun j => nI (mb j)) a11 a12 a13 a14 a15 a16 a17 a18 a19 a20 (nI az) v22 v23 v24 v25 v26 (nI bb) (fun j => nI (ct j)) (nI us) a30 a31 a32 a33 a34 a35 a36 a37 (fun j => nI (pil j)) (fun j => nI (rwv j)) (nI rl) v41 v42 v43 v44 v45) := hD
  refine lv_aload_n hx hb dX7_member_5 rfl (lv_at hl 0 rfl) ?_
  refine lv_iload_n hx hb dX7_member_6 rfl (lv_at hl 1 rfl) ?_
  have hFc := z_freeW hD hS hA
  refine vp_callSi (W.runV (As := [.int xb]) (rest := []) ⟨hx, hb, hml, hown, hts⟩ (kX7_isBuild l dC dI h0 r cI cJ cZ 0 a1 tp bs cl a5 a6 a7 fc a9 mb a11 a12 a13 a14 a15 a16 a17 a18 a19 a20 az v22 v23 v24 v25 v26 bb ct us a30 a31 a32 a33 a34 a35 a36 a37 pil rwv rl v41 v42 v43 v44 v45 ⟨by omega, by omega, by omega, hcl, hfc, hmb, hct, hpil, hrwv⟩ xb H.size) (cwV 1 hts zgX7_member_X7_isBuild_248 rfl rfl rfl (by decide +kernel) ⟨(show 1 + 1 ≤ 5 by omega), (show 8 + (2 + 11) + 25 ≤ 130 by omega)⟩) (zVm (ci := 6) (q0 := 0) (q := (RX7, TX7, 46)) hK hP hD hL hS.2.1 hFc rfl rfl rfl) rfl rfl hl.1 rfl (lv_room (Nat.le_of_ble_eq_true rfl)) dX7_member_7 ⟨(show 0 + 0 ≤ 0 by omega), (show 0 + 0 ≤ 0 by omega)⟩) (fun r1 hw => ?_)
  have hw : (r1 = 0 ∨ r1 = 1) ∧ (r1 = 1 → ∃ k, k < bs ∧ xb = nI k) := hw
  obtain ⟨w0r1, w1r1⟩ := hw
  refine lv_if_eq (tgt := 21) hx hb dX7_member_10 (by decide) (fun cp10 => ?_) (fun cp10 => ?_)
  · refine lv_bipush (v := (-2)) hx hb dX7_member_21 (by decide) ?_
    have hP9 : va_P (dC, dI) vwCl (rW h0 r cI cJ cZ 0 a1 (nI tp) (nI bs) (fun j => nI (cl j)) a5 a6 a7 (fun j => nI (fc j)) a9 (fun j => nI (mb j)) a11 a12 a13 a14 a15 a16 a17 a18 a19 a20 (nI az) v22 v23 v24 v25 v26 (nI bb) (fun j => nI (ct j)) (nI us) a30 a31 a32 a33 a34 a35 a36 a37 (fun j => nI (pil j)) (fun j => nI (rwv j)) (nI rl) v41 v42 v43 v44 v45) H := hP
    have hD9 : va_D A (rW h0 r cI cJ cZ 0 a1 (nI tp) (nI bs) (fun j => nI (cl j)) a5 a6 a7 (fun j => nI (fc j)) a9 (fun j => nI (mb j)) a11 a12 a13 a14 a15 a16 a17 a18 a19 a20 (nI az) v22 v23 v24 v25 v26 (nI bb) (fun j => nI (ct j)) (nI us) a30 a31 a32 a33 a34 a35 a36 a37 (fun j => nI (pil j)) (fun j => nI (rwv j)) (nI rl) v41 v42 v43 v44 v45) := hD
    exact W.iret (v := (-2 : Int32)) hx hb hr (fun t ht hW => ⟨⟨(-2 : Int32), (0, rl, pil, rwv, v43, v44, v45, v42), rfl, ⟨hpil, hrwv⟩, by rw [ht]; exact hP9, va_K.moved hW.alike hK, hD9⟩, hS.F ht⟩) hS.2.2 dX7_member_23
  · obtain ⟨k2, hBk2, rfl⟩ := w1r1 (w0r1.resolve_left cp10)
    refine lv_aload_n hx hb dX7_member_13 rfl (lv_at hl 0 rfl) ?_
    refine lv_iload_n hx hb dX7_member_14 rfl (lv_at hl 2 rfl) ?_
    have hFc := z_freeW hD hS hA
    refine vp_callSi (W.runV (As := [.int xu]) (rest := []) ⟨hx, hb, hml, hown, hts⟩ (kX7_isUse l dC dI h0 r cI cJ cZ 0 a1 tp bs cl a5 a6 a7 fc a9 mb a11 a12 a13 a14 a15 a16 a17 a18 a19 a20 az v22 v23 v24 v25 v26 bb ct us a30 a31 a32 a33 a34 a35 a36 a37 pil rwv rl v41 v42 v43 v44 v45 ⟨by omega, by omega, by omega, hcl, hfc, hmb, hct, hpil, hrwv⟩ xu H.size) (cwV 1 hts zgX7_member_X7_isUse_306 rfl rfl rfl (by decide +kernel) ⟨(show 1 + 1 ≤ 5 by omega), (show 8 + (2 + 11) + 25 ≤ 130 by omega)⟩) (zVm (ci := 6) (q0 := 0) (q := (RX7, TX7, 46)) hK hP hD hL hS.2.1 hFc rfl rfl rfl) rfl rfl hl.1 rfl (lv_room (Nat.le_of_ble_eq_true rfl)) dX7_member_15 ⟨(show 0 + 0 ≤ 0 by omega), (show 0 + 0 ≤ 0 by omega)⟩) (fun r3 hw => ?_)
    have hw : (r3 = 0 ∨ r3 = 1) ∧ (r3 = 1 → ∃ k, k < us ∧ xu = nI k) := hw
    obtain ⟨w0r3, w1r3⟩ := hw
    refine lv_if_ne (tgt := 24) hx hb dX7_member_18 (by decide) (fun cp18 => ?_) (fun cp18 => ?_)
    · obtain ⟨k4, hBk4, rfl⟩ := w1r3 (w0r3.resolve_left cp18)
      refine lv_aload_n hx hb dX7_member_24 rfl (lv_at hl 0 rfl) ?_
      refine lv_iload_n hx hb dX7_member_25 rfl (lv_at hl 1 rfl) ?_
      refine lv_iload_n hx hb dX7_member_26 rfl (lv_at hl 2 rfl) ?_
      have hFc := z_freeW hD hS hA
      refine va_calli (va_runV (As := [.int (nI k2), .int (nI k4)]) (rest := []) ⟨hx, hb, hml, hown, hts⟩ (kX7_links l dC dI h0 r cI cJ cZ 0 a1 tp bs cl a5 a6 a7 fc a9 mb a11 a12 a13 a14 a15 a16 a17 a18 a19 a20 az v22 v23 v24 v25 v26 bb ct us a30 a31 a32 a33 a34 a35 a36 a37 pil rwv rl v41 v42 v43 v44 v45 ⟨by omega, by omega, by omega, hcl, hfc, hmb, hct, hpil, hrwv⟩ k2 k4 (by first | omega | assumption | trivial) (by first | omega | assumption | trivial) (by exact hp0) H.size) (cwV 2 hts zgX7_member_X7_links_309 rfl rfl rfl (by decide +kernel) ⟨(show 4 + 1 ≤ 5 by omega), (show 8 + (9 + 11) + 102 ≤ 130 by omega)⟩) (zVm (ci := 6) (q0 := 0) (q := (RX7, TX7, 46)) hK hP hD hL hS.2.1 hFc rfl rfl rfl) rfl rfl hl.1 rfl (lv_room (Nat.le_of_ble_eq_true rfl)) dX7_member_27 ⟨(show 0 + 0 ≤ 0 by omega), (show 0 + 0 ≤ 0 by omega)⟩) hS (fun q _ h => hFc q h) hFc (fun r5 u13 t H1 locs ht hvm hw hB hz1 hk1 hS => ?_)
      obtain ⟨o6, o7, o8, o9, o10, o11, o12⟩ := u13
      obtain ⟨hP, hK9, hD⟩ := hB
      rw [ht] at hP
      have hD := hD.weaken (fun k q _ h => hFc q.1 h)
      generalize H1 = H at hP hS
      have hP : va_P (dC, dI) vwCl (rW h0 r cI cJ cZ 0 a1 (nI tp) (nI bs) (fun j => nI (cl j)) a5 a6 a7 (fun j => nI (fc j)) a9 (fun j => nI (mb j)) a11 a12 a13 a14 a15 a16 a17 a18 a19 a20 (nI az) v22 v23 v24 v25 v26 (nI bb) (fun j => nI (ct j)) (nI us) a30 a31 a32 a33 a34 a35 a36 a37 (fun j => nI (o7 j)) (fun j => nI (o8 j)) (nI o6) v41 o12 o9 o10 o11) H := hP
      have hD : va_D A (rW h0 r cI cJ cZ 0 a1 (nI tp) (nI bs) (fun j => nI (cl j)) a5 a6 a7 (fun j => nI (fc j)) a9 (fun j => nI (mb j)) a11 a12 a13 a14 a15 a16 a17 a18 a19 a20 (nI az) v22 v23 v24 v25 v26 (nI bb) (fun j => nI (ct j)) (nI us) a30 a31 a32 a33 a34 a35 a36 a37 (fun j => nI (o7 j)) (fun j => nI (o8 j)) (nI o6) v41 o12 o9 o10 o11) := hD
      have hw : (zM o12 (fun k => k < 960)) ∧ (0 < r5 ∨ 7 < a30 k4 ∨ ∃ k, k < 960 ∧ o12 = nI k) ∧ (7 < a30 k4 → o12 = -1) ∧ (∀ j, o7 j ≤ 15) ∧ (∀ j, o8 j ≤ 15) := hw
      obtain ⟨w0r5, w1r5, w2r5, hbo7, hbo8⟩ := hw
      refine lv_istore_n (lv' := [(3, .int r5), (0, .ref h0), (1, .int (nI k2)), (2, .int (nI k4))]) hx hb dX7_member_30 rfl hl (by decide) rfl (fun ls hl => ?_)
      refine lv_iload_n hx hb dX7_member_31 rfl (lv_at hl 0 rfl) ?_
      refine lv_if_le (tgt := 42) hx hb dX7_member_32 (by decide) (fun cp32 => ?_) (fun cp32 => ?_)
      · refine lv_aload_n hx hb dX7_member_42 rfl (lv_at hl 1 rfl) ?_
        refine va_get (D := (dC, dI)) (ci := 6) (v := .int o12) (C := RX7) (T := TX7) (N := 46) hx hb hts hiX7 hown hK hP 0 rfl rfl 42 (by decide) (hts (.fieldLink RX7 296 "LinkModelsModel" "linked" "I") (by decide +kernel)) (fun _ h9 => h9) rfl dX7_member_43 ?_
        refine lv_if_ge (tgt := 53) hx hb dX7_member_46 (by decide) (fun cp46 => ?_) (fun cp46 => ?_)
        · obtain ⟨k14, hBk14, hQk14, rfl⟩ := zM.pos' w0r5 cp46
          refine lv_aload_n hx hb dX7_member_53 rfl (lv_at hl 1 rfl) ?_
          refine va_get (D := (dC, dI)) (ci := 6) (v := .int (nI k14)) (C := RX7) (T := TX7) (N := 46) hx hb hts hiX7 hown hK hP 0 rfl rfl 42 (by decide) (hts (.fieldLink RX7 296 "LinkModelsModel" "linked" "I") (by decide +kernel)) (fun _ h9 => h9) rfl dX7_member_54 ?_
          refine lv_bipush (v := 12) hx hb dX7_member_57 (by decide) ?_
          refine lv_irem (x := nI k14) (y := nI 12) hx hb dX7_member_59 (nI_ne0 (show 0 < 12 by omega) (show 12 < 2 ^ 31 by omega)) ?_
          refine lv_topi (fun x15 ex15 => ?_)
          obtain rfl : x15 = nI (k14 % 12) := by rw [ex15]; exact pk_rem (show k14 < 2 ^ 31 by omega) (show 0 < 12 by omega) (show 12 < 2 ^ 31 by omega)
          have hP9 : va_P (dC, dI) vwCl (rW h0 r cI cJ cZ 0 a1 (nI tp) (nI bs) (fun j => nI (cl j)) a5 a6 a7 (fun j => nI (fc j)) a9 (fun j => nI (mb j)) a11 a12 a13 a14 a15 a16 a17 a18 a19 a20 (nI az) v22 v23 v24 v25 v26 (nI bb) (fun j => nI (ct j)) (nI us) a30 a31 a32 a33 a34 a35 a36 a37 (fun j => nI (o7 j)) (fun j => nI (o8 j)) (nI o6) v41 (nI k14) o9 o10 o11) H := hP
          have hD9 : va_D A (rW h0 r cI cJ cZ 0 a1 (nI tp) (nI bs) (fun j => nI (cl j)) a5 a6 a7 (fun j => nI (fc j)) a9 (fun j => nI (mb j)) a11 a12 a13 a14 a15 a16 a17 a18 a19 a20 (nI az) v22 v23 v24 v25 v26 (nI bb) (fun j => nI (ct j)) (nI us) a30 a31 a32 a33 a34 a35 a36 a37 (fun j => nI (o7 j)) (fun j => nI (o8 j)) (nI o6) v41 (nI k14) o9 o10 o11) := hD
          exact W.iret (v := (nI (k14 % 12))) hx hb hr (fun t ht hW => ⟨⟨(nI (k14 % 12)), (0, o6, o7, o8, o9, o10, o11, (nI k14)), rfl, ⟨hbo7, hbo8⟩, by rw [ht]; exact hP9, va_K.moved hW.alike hK, hD9⟩, hS.F ht⟩) hS.2.2 dX7_member_60
        · obtain rfl : o12 = -1 := zM.neg' w0r5 cp46
          refine lv_iconst (v := (-1)) hx hb dX7_member_49 (by decide) ?_
          refine lv_goto (tgt := 60) hx hb dX7_member_50 (by decide) ?_
          have hP9 : va_P (dC, dI) vwCl (rW h0 r cI cJ cZ 0 a1 (nI tp) (nI bs) (fun j => nI (cl j)) a5 a6 a7 (fun j => nI (fc j)) a9 (fun j => nI (mb j)) a11 a12 a13 a14 a15 a16 a17 a18 a19 a20 (nI az) v22 v23 v24 v25 v26 (nI bb) (fun j => nI (ct j)) (nI us) a30 a31 a32 a33 a34 a35 a36 a37 (fun j => nI (o7 j)) (fun j => nI (o8 j)) (nI o6) v41 (-1) o9 o10 o11) H := hP
          have hD9 : va_D A (rW h0 r cI cJ cZ 0 a1 (nI tp) (nI bs) (fun j => nI (cl j)) a5 a6 a7 (fun j => nI (fc j)) a9 (fun j => nI (mb j)) a11 a12 a13 a14 a15 a16 a17 a18 a19 a20 (nI az) v22 v23 v24 v25 v26 (nI bb) (fun j => nI (ct j)) (nI us) a30 a31 a32 a33 a34 a35 a36 a37 (fun j => nI (o7 j)) (fun j => nI (o8 j)) (nI o6) v41 (-1) o9 o10 o11) := hD
          exact W.iret (v := (-1 : Int32)) hx hb hr (fun t ht hW => ⟨⟨(-1 : Int32), (0, o6, o7, o8, o9, o10, o11, (-1)), rfl, ⟨hbo7, hbo8⟩, by rw [ht]; exact hP9, va_K.moved hW.alike hK, hD9⟩, hS.F ht⟩) hS.2.2 dX7_member_60
      · refine lv_bipush (v := (-10)) hx hb dX7_member_35 (by decide) ?_
        refine lv_iload_n hx hb dX7_member_37 rfl (lv_at hl 0 rfl) ?_
        refine lv_isub hx hb dX7_member_38 ?_
        refine lv_topi (fun x16 ex16 => ?_)
        refine lv_goto (tgt := 60) hx hb dX7_member_39 (by decide) ?_
        have hP9 : va_P (dC, dI) vwCl (rW h0 r cI cJ cZ 0 a1 (nI tp) (nI bs) (fun j => nI (cl j)) a5 a6 a7 (fun j => nI (fc j)) a9 (fun j => nI (mb j)) a11 a12 a13 a14 a15 a16 a17 a18 a19 a20 (nI az) v22 v23 v24 v25 v26 (nI bb) (fun j => nI (ct j)) (nI us) a30 a31 a32 a33 a34 a35 a36 a37 (fun j => nI (o7 j)) (fun j => nI (o8 j)) (nI o6) v41 o12 o9 o10 o11) H := hP
        have hD9 : va_D A (rW h0 r cI cJ cZ 0 a1 (nI tp) (nI bs) (fun j => nI (cl j)) a5 a6 a7 (fun j => nI (fc j)) a9 (fun j => nI (mb j)) a11 a12 a13 a14 a15 a16 a17 a18 a19 a20 (nI az) v22 v23 v24 v25 v26 (nI bb) (fun j => nI (ct j)) (nI us) a30 a31 a32 a33 a34 a35 a36 a37 (fun j => nI (o7 j)) (fun j => nI (o8 j)) (nI o6) v41 o12 o9 o10 o11) := hD
        exact W.iret (v := x16) hx hb hr (fun t ht hW => ⟨⟨x16, (0, o6, o7, o8, o9, o10, o11, o12), rfl, ⟨hbo7, hbo8⟩, by rw [ht]; exact hP9, va_K.moved hW.alike hK, hD9⟩, hS.F ht⟩) hS.2.2 dX7_member_60
    · refine lv_bipush (v := (-2)) hx hb dX7_member_21 (by decide) ?_
      have hP9 : va_P (dC, dI) vwCl (rW h0 r cI cJ cZ 0 a1 (nI tp) (nI bs) (fun j => nI (cl j)) a5 a6 a7 (fun j => nI (fc j)) a9 (fun j => nI (mb j)) a11 a12 a13 a14 a15 a16 a17 a18 a19 a20 (nI az) v22 v23 v24 v25 v26 (nI bb) (fun j => nI (ct j)) (nI us) a30 a31 a32 a33 a34 a35 a36 a37 (fun j => nI (pil j)) (fun j => nI (rwv j)) (nI rl) v41 v42 v43 v44 v45) H := hP
      have hD9 : va_D A (rW h0 r cI cJ cZ 0 a1 (nI tp) (nI bs) (fun j => nI (cl j)) a5 a6 a7 (fun j => nI (fc j)) a9 (fun j => nI (mb j)) a11 a12 a13 a14 a15 a16 a17 a18 a19 a20 (nI az) v22 v23 v24 v25 v26 (nI bb) (fun j => nI (ct j)) (nI us) a30 a31 a32 a33 a34 a35 a36 a37 (fun j => nI (pil j)) (fun j => nI (rwv j)) (nI rl) v41 v42 v43 v44 v45) := hD
      exact W.iret (v := (-2 : Int32)) hx hb hr (fun t ht hW => ⟨⟨(-2 : Int32), (0, rl, pil, rwv, v43, v44, v45, v42), rfl, ⟨hpil, hrwv⟩, by rw [ht]; exact hP9, va_K.moved hW.alike hK, hD9⟩, hS.F ht⟩) hS.2.2 dX7_member_23
theorem dX7_compile_0 : decode cX7_compile 0 = .ok (.aload_n 0, 1) := by decide +kernel
theorem dX7_compile_1 : decode cX7_compile 1 = .ok (.iconst 0, 1) := by decide +kernel
theorem dX7_compile_2 : decode cX7_compile 2 = .ok (.putfield 1, 3) := by decide +kernel
theorem dX7_compile_5 : decode cX7_compile 5 = .ok (.aload_n 0, 1) := by decide +kernel
theorem dX7_compile_6 : decode cX7_compile 6 = .ok (.iload_n 1, 1) := by decide +kernel
theorem dX7_compile_7 : decode cX7_compile 7 = .ok (.invokevirtual 248, 3) := by decide +kernel
theorem dX7_compile_10 : decode cX7_compile 10 = .ok (.ifCond .eq 11, 3) := by decide +kernel
theorem dX7_compile_13 : decode cX7_compile 13 = .ok (.aload_n 0, 1) := by decide +kernel
theorem dX7_compile_14 : decode cX7_compile 14 = .ok (.iload_n 2, 1) := by decide +kernel
theorem dX7_compile_15 : decode cX7_compile 15 = .ok (.invokevirtual 306, 3) := by decide +kernel
theorem dX7_compile_18 : decode cX7_compile 18 = .ok (.ifCond .ne 6, 3) := by decide +kernel
theorem dX7_compile_21 : decode cX7_compile 21 = .ok (.bipush (-2), 2) := by decide +kernel
theorem dX7_compile_23 : decode cX7_compile 23 = .ok (.ireturn, 1) := by decide +kernel
theorem dX7_compile_24 : decode cX7_compile 24 = .ok (.aload_n 0, 1) := by decide +kernel
theorem dX7_compile_25 : decode cX7_compile 25 = .ok (.getfield 73, 3) := by decide +kernel
theorem dX7_compile_28 : decode cX7_compile 28 = .ok (.iload_n 2, 1) := by decide +kernel
theorem dX7_compile_29 : decode cX7_compile 29 = .ok (.iaload, 1) := by decide +kernel
theorem dX7_compile_30 : decode cX7_compile 30 = .ok (.iconst 2, 1) := by decide +kernel
theorem dX7_compile_31 : decode cX7_compile 31 = .ok (.if_icmp .eq 6, 3) := by decide +kernel
theorem dX7_compile_34 : decode cX7_compile 34 = .ok (.bipush (-4), 2) := by decide +kernel
theorem dX7_compile_36 : decode cX7_compile 36 = .ok (.ireturn, 1) := by decide +kernel
theorem dX7_compile_37 : decode cX7_compile 37 = .ok (.aload_n 0, 1) := by decide +kernel
theorem dX7_compile_38 : decode cX7_compile 38 = .ok (.iload_n 1, 1) := by decide +kernel
theorem dX7_compile_39 : decode cX7_compile 39 = .ok (.iload_n 2, 1) := by decide +kernel
theorem dX7_compile_40 : decode cX7_compile 40 = .ok (.invokevirtual 309, 3) := by decide +kernel
theorem dX7_compile_43 : decode cX7_compile 43 = .ok (.istore_n 3, 1) := by decide +kernel
theorem dX7_compile_44 : decode cX7_compile 44 = .ok (.iload_n 3, 1) := by decide +kernel
theorem dX7_compile_45 : decode cX7_compile 45 = .ok (.ifCond .le 8, 3) := by decide +kernel
theorem dX7_compile_48 : decode cX7_compile 48 = .ok (.bipush (-10), 2) := by decide +kernel
theorem dX7_compile_50 : decode cX7_compile 50 = .ok (.iload_n 3, 1) := by decide +kernel
theorem dX7_compile_51 : decode cX7_compile 51 = .ok (.isub, 1) := by decide +kernel
theorem dX7_compile_52 : decode cX7_compile 52 = .ok (.ireturn, 1) := by decide +kernel
theorem dX7_compile_53 : decode cX7_compile 53 = .ok (.aload_n 0, 1) := by decide +kernel
theorem dX7_compile_54 : decode cX7_compile 54 = .ok (.getfield 94, 3) := by decide +kernel
theorem dX7_compile_57 : decode cX7_compile 57 = .ok (.iload_n 2, 1) := by decide +kernel
theorem dX7_compile_58 : decode cX7_compile 58 = .ok (.aload_n 0, 1) := by decide +kernel
theorem dX7_compile_59 : decode cX7_compile 59 = .ok (.getfield 55, 3) := by decide +kernel
theorem dX7_compile_62 : decode cX7_compile 62 = .ok (.aload_n 0, 1) := by decide +kernel
theorem dX7_compile_63 : decode cX7_compile 63 = .ok (.getfield 296, 3) := by decide +kernel
theorem dX7_compile_66 : decode cX7_compile 66 = .ok (.baload, 1) := by decide +kernel
theorem dX7_compile_67 : decode cX7_compile 67 = .ok (.ifCond .eq 15, 3) := by decide +kernel
theorem dX7_compile_70 : decode cX7_compile 70 = .ok (.aload_n 0, 1) := by decide +kernel
theorem dX7_compile_71 : decode cX7_compile 71 = .ok (.getfield 58, 3) := by decide +kernel
theorem dX7_compile_74 : decode cX7_compile 74 = .ok (.aload_n 0, 1) := by decide +kernel
theorem dX7_compile_75 : decode cX7_compile 75 = .ok (.getfield 296, 3) := by decide +kernel
theorem dX7_compile_78 : decode cX7_compile 78 = .ok (.iaload, 1) := by decide +kernel
theorem dX7_compile_79 : decode cX7_compile 79 = .ok (.goto 4, 3) := by decide +kernel
theorem dX7_compile_82 : decode cX7_compile 82 = .ok (.iconst (-1), 1) := by decide +kernel
theorem dX7_compile_83 : decode cX7_compile 83 = .ok (.iastore, 1) := by decide +kernel
theorem dX7_compile_84 : decode cX7_compile 84 = .ok (.aload_n 0, 1) := by decide +kernel
theorem dX7_compile_85 : decode cX7_compile 85 = .ok (.getfield 55, 3) := by decide +kernel
theorem dX7_compile_88 : decode cX7_compile 88 = .ok (.aload_n 0, 1) := by decide +kernel
theorem dX7_compile_89 : decode cX7_compile 89 = .ok (.getfield 296, 3) := by decide +kernel
theorem dX7_compile_92 : decode cX7_compile 92 = .ok (.baload, 1) := by decide +kernel
theorem dX7_compile_93 : decode cX7_compile 93 = .ok (.ifCond .eq 7, 3) := by decide +kernel
theorem dX7_compile_96 : decode cX7_compile 96 = .ok (.iconst 1, 1) := by decide +kernel
theorem dX7_compile_97 : decode cX7_compile 97 = .ok (.goto 4, 3) := by decide +kernel
theorem dX7_compile_100 : decode cX7_compile 100 = .ok (.iconst 0, 1) := by decide +kernel
theorem dX7_compile_101 : decode cX7_compile 101 = .ok (.ireturn, 1) := by decide +kernel
def zwX7_compile : List Cond := .code yX7_compile cX7_compile 4 (some .int) :: ([.fieldLink RX7 1 "LinkModelsModel" "thrown" "I", .fieldLink RX7 73 "LinkModelsModel" "useKind" "[I", .fieldLink RX7 94 "LinkModelsModel" "copy" "[I", .fieldLink RX7 55 "LinkModelsModel" "isConstant" "[Z", .fieldLink RX7 296 "LinkModelsModel" "linked" "I", .fieldLink RX7 58 "LinkModelsModel" "number" "[I", .methodLink RX7 248 yX7_isBuild, .instanceMethod yX7_isBuild, .selects RX7 yX7_isBuild yX7_isBuild, .initialized RX7, .code yX7_isBuild cX7_isBuild 2 (some .boolean), .fieldLink RX7 232 "LinkModelsModel" "builds" "I", .methodLink RX7 105 yX7_in, .static yX7_in, .code yX7_in cX7_in 6 (some .boolean), .methodLink RX7 306 yX7_isUse, .instanceMethod yX7_isUse, .selects RX7 yX7_isUse yX7_isUse, .code yX7_isUse cX7_isUse 2 (some .boolean), .fieldLink RX7 263 "LinkModelsModel" "uses" "I", .methodLink RX7 309 yX7_links, .instanceMethod yX7_links, .selects RX7 yX7_links yX7_links, .code yX7_links cX7_links 9 (some .int), .fieldLink RX7 76 "LinkModelsModel" "caller" "[I", .fieldLink RX7 79 "LinkModelsModel" "owner" "[I", .fieldLink RX7 23 "LinkModelsModel" "sort" "[I", .fieldLink RX7 48 "LinkModelsModel" "marks" "[I", .methodLink RX7 251 yX7_errorOf, .instanceMethod yX7_errorOf, .selects RX7 yX7_errorOf yX7_errorOf, .code yX7_errorOf cX7_errorOf 4 (some .int), .fieldLink RX7 38 "LinkModelsModel" "error" "[I", .methodLink RX7 201 yX7_place, .instanceMethod yX7_place, .selects RX7 yX7_place yX7_place, .code yX7_place cX7_place 4 (some .int), .fieldLink RX7 17 "LinkModelsModel" "classes" "[I", .fieldLink RX7 20 "LinkModelsModel" "className" "[I", .methodLink RX7 303 yX7_findMethod, .instanceMethod yX7_findMethod, .selects RX7 yX7_findMethod yX7_findMethod, .code yX7_findMethod cX7_findMethod 6 (some .int), .fieldLink RX7 279 "LinkModelsModel" "bodies" "I", .fieldLink RX7 285 "LinkModelsModel" "firstOne" "I", .fieldLink RX7 282 "LinkModelsModel" "bodied" "I", .methodLink RX7 292 yX7_findFaces, .instanceMethod yX7_findFaces, .selects RX7 yX7_findFaces yX7_findFaces, .code yX7_findFaces cX7_findFaces 8 none, .fieldLink RX7 266 "LinkModelsModel" "rowLong" "I", .fieldLink RX7 100 "LinkModelsModel" "row" "[I", .methodLink RX7 288 yX7_methodIn, .instanceMethod yX7_methodIn, .selects RX7 yX7_methodIn yX7_methodIn, .code yX7_methodIn cX7_methodIn 6 (some .int), .fieldLink RX7 51 "LinkModelsModel" "isMethod" "[Z", .fieldLink RX7 44 "LinkModelsModel" "word" "[J", .fieldLink RX7 82 "LinkModelsModel" "useWord" "[J", .fieldLink RX7 35 "LinkModelsModel" "members" "[I", .fieldLink RX7 61 "LinkModelsModel" "many" "[I", .fieldLink RX7 85 "LinkModelsModel" "useMany" "[I", .fieldLink RX7 67 "LinkModelsModel" "second" "[I", .fieldLink RX7 91 "LinkModelsModel" "useSecond" "[I", .fieldLink RX7 64 "LinkModelsModel" "first" "[I", .fieldLink RX7 88 "LinkModelsModel" "useFirst" "[I", .methodLink RX7 256 yX7_isOf, .instanceMethod yX7_isOf, .selects RX7 yX7_isOf yX7_isOf, .code yX7_isOf cX7_isOf 4 (some .boolean), .fieldLink RX7 41 "LinkModelsModel" "ofAll" "[I", .methodLink RX7 272 yX7_faceRow, .instanceMethod yX7_faceRow, .selects RX7 yX7_faceRow yX7_faceRow, .code yX7_faceRow cX7_faceRow 8 none, .fieldLink RX7 97 "LinkModelsModel" "pile" "[I", .fieldLink RX7 32 "LinkModelsModel" "face" "[I", .fieldLink RX7 29 "LinkModelsModel" "faces" "[I", .methodLink RX7 276 yX7_aboveOf, .instanceMethod yX7_aboveOf, .selects RX7 yX7_aboveOf yX7_aboveOf, .code yX7_aboveOf cX7_aboveOf 3 (some .int), .fieldLink RX7 26 "LinkModelsModel" "above" "[I", .methodLink RX7 299 yX7_findField, .instanceMethod yX7_findField, .selects RX7 yX7_findField yX7_findField, .code yX7_findField cX7_findField 7 (some .int), .methodLink RX7 269 yX7_fieldIn, .instanceMethod yX7_fieldIn, .selects RX7 yX7_fieldIn yX7_fieldIn, .code yX7_fieldIn cX7_fieldIn 4 (some .int)] ++ wsX70)
theorem zgX7_compile_X7_isBuild_248 : GoodIn zwX7_compile (wsV RX7 248 RX7 yX7_isBuild zwX7_isBuild) := goodIn_app (goodIn_r _ [7, 8, 9, 10] rfl (by decide +kernel)) (goodIn_ca (goodIn_r _ [11, 12, 13, 14, 10, 15] rfl (by decide +kernel)) (zgt zg7))
theorem zgX7_compile_X7_isUse_306 : GoodIn zwX7_compile (wsV RX7 306 RX7 yX7_isUse zwX7_isUse) := goodIn_app (goodIn_r _ [16, 17, 18, 10] rfl (by decide +kernel)) (goodIn_ca (goodIn_r _ [19, 20, 13, 14, 10, 15] rfl (by decide +kernel)) (zgt zg7))
theorem zgX7_compile_X7_links_309 : GoodIn zwX7_compile (wsV RX7 309 RX7 yX7_links zwX7_links) := goodIn_app (goodIn_r _ [21, 22, 23, 10] rfl (by decide +kernel)) (goodIn_ca (goodIn_r _ [24, 5, 25, 26, 2, 27, 28, 29, 30, 31, 10, 32, 33, 34, 35, 36, 37, 38, 39, 40, 41, 42, 43, 44, 45, 46, 47, 48, 49, 50, 51, 52, 53, 54, 55, 56, 57, 58, 59, 60, 61, 62, 63, 64, 65, 66, 67, 68, 69, 70, 71, 72, 73, 74, 75, 76, 77, 78, 79, 80, 81, 82, 83, 84, 85, 86, 87, 88, 89, 90, 91] rfl (by decide +kernel)) (zgt zg7))
set_option maxHeartbeats 4000000 in
set_option maxRecDepth 100000 in
theorem kX7_compile (l : Launch) (dC : Nat → ClassId) (dI : Nat → Nat → Nat) (h0 : Nat) (r : Nat → Nat) (cI : ClassId) (cJ : ClassId) (cZ : ClassId) (v0 : Int32) (a1 : Nat → Int32) (tp : Nat) (bs : Nat) (cl : Nat → Nat) (a5 : Nat → Int32) (a6 : Nat → Int32) (a7 : Nat → Int32) (fc : Nat → Nat) (a9 : Nat → Int32) (mb : Nat → Nat) (a11 : Nat → Int32) (a12 : Nat → Int32) (a13 : Nat → Int64) (a14 : Nat → Int32) (a15 : Nat → Int32) (a16 : Nat → Int32) (a17 : Nat → Int32) (a18 : Nat → Int32) (a19 : Nat → Int32) (a20 : Nat → Int32) (az : Nat) (v22 : Int32) (v23 : Int32) (v24 : Int64) (v25 : Int32) (v26 : Int32) (bb : Nat) (ct : Nat → Nat) (us : Nat) (a30 : Nat → Int32) (a31 : Nat → Int32) (a32 : Nat → Int32) (a33 : Nat → Int64) (a34 : Nat → Int32) (a35 : Nat → Int32) (a36 : Nat → Int32) (a37 : Nat → Int32) (pil : Nat → Nat) (rwv : Nat → Nat) (rl : Nat) (v41 : Int32) (v42 : Int32) (v43 : Int32) (v44 : Int32) (v45 : Int32) (hI : rWI tp bs cl fc mb az bb ct us pil rwv rl) (xb : Int32) (xu : Int32) (hp0 : ∀ bd, bd < bs → zOK cl a5 a7 fc a9 a11 bd) (hp1 : ∀ j, j < us → a37 j = -1 ∨ a30 j = 2) (sz : Nat) : Met l yX7_compile zwX7_compile ({ frames := 5, cells := 0, slots := 0, locals := 130 }) (zPm dC dI [.ref h0, .int xb, .int xu] sz (rW h0 r cI cJ cZ v0 a1 (nI tp) (nI bs) (fun j => nI (cl j)) a5 a6 a7 (fun j => nI (fc j)) a9 (fun j => nI (mb j)) a11 a12 a13 a14 a15 a16 a17 a18 a19 a20 (nI az) v22 v23 v24 v25 v26 (nI bb) (fun j => nI (ct j)) (nI us) a30 a31 a32 a33 a34 a35 a36 a37 (fun j => nI (pil j)) (fun j => nI (rwv j)) (nI rl) v41 v42 v43 v44 v45) [(cI, .int), (cJ, .long), (cZ, .boolean)]) (va_Qi (fun (r : Int32) (u : Int32 × Nat × (Nat → Nat) × (Nat → Nat) × Int32 × Int32 × Int32 × Int32 × (Nat → Int32)) => (∀ j, j < us → (u.2.2.2.2.2.2.2.2) j = -1 ∨ a30 j = 2) ∧ (∀ j, (u.2.2.1) j ≤ 15) ∧ (∀ j, (u.2.2.2.1) j ≤ 15)) (fun u t => zB dC dI (va_A (rW h0 r cI cJ cZ v0 a1 (nI tp) (nI bs) (fun j => nI (cl j)) a5 a6 a7 (fun j => nI (fc j)) a9 (fun j => nI (mb j)) a11 a12 a13 a14 a15 a16 a17 a18 a19 a20 (nI az) v22 v23 v24 v25 v26 (nI bb) (fun j => nI (ct j)) (nI us) a30 a31 a32 a33 a34 a35 a36 a37 (fun j => nI (pil j)) (fun j => nI (rwv j)) (nI rl) v41 v42 v43 v44 v45) sz) (rW h0 r cI cJ cZ (u.1) a1 (nI tp) (nI bs) (fun j => nI (cl j)) a5 a6 a7 (fun j => nI (fc j)) a9 (fun j => nI (mb j)) a11 a12 a13 a14 a15 a16 a17 a18 a19 a20 (nI az) v22 v23 v24 v25 v26 (nI bb) (fun j => nI (ct j)) (nI us) a30 a31 a32 a33 a34 a35 a36 (u.2.2.2.2.2.2.2.2) (fun j => nI ((u.2.2.1) j)) (fun j => nI ((u.2.2.2.1) j)) (nI (u.2.1)) v41 (u.2.2.2.2.2.2.2.1) (u.2.2.2.2.1) (u.2.2.2.2.2.1) (u.2.2.2.2.2.2.1)) [(cI, .int), (cJ, .long), (cZ, .boolean)] t) (va_A (rW h0 r cI cJ cZ v0 a1 (nI tp) (nI bs) (fun j => nI (cl j)) a5 a6 a7 (fun j => nI (fc j)) a9 (fun j => nI (mb j)) a11 a12 a13 a14 a15 a16 a17 a18 a19 a20 (nI az) v22 v23 v24 v25 v26 (nI bb) (fun j => nI (ct j)) (nI us) a30 a31 a32 a33 a34 a35 a36 a37 (fun j => nI (pil j)) (fun j => nI (rwv j)) (nI rl) v41 v42 v43 v44 v45) sz)) 0 0 (va_A (rW h0 r cI cJ cZ v0 a1 (nI tp) (nI bs) (fun j => nI (cl j)) a5 a6 a7 (fun j => nI (fc j)) a9 (fun j => nI (mb j)) a11 a12 a13 a14 a15 a16 a17 a18 a19 a20 (nI az) v22 v23 v24 v25 v26 (nI bb) (fun j => nI (ct j)) (nI us) a30 a31 a32 a33 a34 a35 a36 a37 (fun j => nI (pil j)) (fun j => nI (rwv j)) (nI rl) v41 v42 v43 v44 v45) sz) := by
  refine Met.ofW (cc := cX7_compile) (maxL := 4) (ret := (some .int)) (by decide) rfl ?_
  intro p e s m args below meth c s₁ B hml hv
  obtain ⟨rfl, hsz, hP, hK, hD0, hL0⟩ := hv
  have hx := B.exec
  have hb := B.bytes
  have hr := B.returns
  have hts := atoms_spec (ws := zwX7_compile) B.pre
  have hown : s.vm.findClass RX7 = some m.cls := findClass_of_methodNamed B.named
  have hiX7 : ∀ w ∈ wsX70, w ∈ zwX7_compile := (fun _ h => List.mem_cons_of_mem _ (List.mem_append_right _ h))
  obtain ⟨htp, hbs, hus, hcl, hfc, hmb, hct, hpil, hrwv⟩ := hI
  subst hsz
  have hD := hD0.self (sz := s.heap.size)
  generalize hAe : va_A (rW h0 r cI cJ cZ v0 a1 (nI tp) (nI bs) (fun j => nI (cl j)) a5 a6 a7 (fun j => nI (fc j)) a9 (fun j => nI (mb j)) a11 a12 a13 a14 a15 a16 a17 a18 a19 a20 (nI az) v22 v23 v24 v25 v26 (nI bb) (fun j => nI (ct j)) (nI us) a30 a31 a32 a33 a34 a35 a36 a37 (fun j => nI (pil j)) (fun j => nI (rwv j)) (nI rl) v41 v42 v43 v44 v45) s.heap.size = A at hD hL0 ⊢
  have hA : ∀ q : Nat, s.heap.size ≤ q → A q := fun q h => by rw [← hAe]; exact Or.inr h
  have hS : va_S A s.heap s.heap [] := va_S.rf
  have hL := hL0
  have hl := lv_entry ([.ref h0, .int xb, .int xu]) (n := 4) (Nat.le_of_ble_eq_true rfl)
  rw [lg_entry_eq]
  generalize (lg_sl ([.ref h0, .int xb, .int xu]) ++ List.replicate (4 - (lg_sl ([.ref h0, .int xb, .int xu])).length) Slot.unset).toArray = ls at hl ⊢
  have hl : lv_has ls 4 [(0, .ref h0), (1, .int xb), (2, .int xu)] := hl
  refine lv_aload_n hx hb dX7_compile_0 rfl (lv_at hl 0 rfl) ?_
  refine lv_iconst (v := 0) hx hb dX7_compile_1 (by decide) ?_
  refine va_put (D := (dC, dI)) (ci := 6) (v := .int 0) (ty := (.int)) (C := RX7) (T := TX7) (N := 46) hx hb hts hiX7 tyX7 tyX7_ok nmX7 hown hK hP hD hS 0 rfl rfl 0 (by decide) (hts (.fieldLink RX7 1 "LinkModelsModel" "thrown" "I") (by decide +kernel)) (fun _ h9 => h9) rfl (by decide +kernel) rfl rfl (Nat.le_of_ble_eq_true rfl) dX7_compile_2 (fun H locs hP hD hS => ?_)
  have hP : va_P (dC, dI) vwCl (rW h0 r cI cJ cZ 0 a1 (nI tp) (nI bs) (fun j => nI (cl j)) a5 a6 a7 (fun j => nI (fc j)) a9 (fun j => nI (mb j)) a11 a12 a13 a14 a15 a16 a17 a18 a19 a20 (nI az) v22 v23 v24 v25 v26 (nI bb) (fun j => nI (ct j)) (nI us) a30 a31 a32 a33 a34 a35 a36 a37 (fun j => nI (pil j)) (fun j => nI (rwv j)) (nI rl) v41 v42 v43 v44 v45) H := hP
  have hD : va_D A (rW h0 r cI cJ cZ 0 a1 (nI tp) (nI bs) (fun j => nI (cl j)) a5 a6 a7 (fun j => nI (fc j)) a9 (fun j => nI (mb j)) a11 a12 a13 a14 a15 a16 a17 a18 a19 a20 (nI az) v22 v23 v24 v25 v26 (nI bb) (fun j => nI (ct j)) (nI us) a30 a31 a32 a33 a34 a35 a36 a37 (fun j => nI (pil j)) (fun j => nI (rwv j)) (nI rl) v41 v42 v43 v44 v45) := hD
  refine lv_aload_n hx hb dX7_compile_5 rfl (lv_at hl 0 rfl) ?_
  refine lv_iload_n hx hb dX7_compile_6 rfl (lv_at hl 1 rfl) ?_
  have hFc := z_freeW hD hS hA
  refine vp_callSi (W.runV (As := [.int xb]) (rest := []) ⟨hx, hb, hml, hown, hts⟩ (kX7_isBuild l dC dI h0 r cI cJ cZ 0 a1 tp bs cl a5 a6 a7 fc a9 mb a11 a12 a13 a14 a15 a16 a17 a18 a19 a20 az v22 v23 v24 v25 v26 bb ct us a30 a31 a32 a33 a34 a35 a36 a37 pil rwv rl v41 v42 v43 v44 v45 ⟨by omega, by omega, by omega, hcl, hfc, hmb, hct, hpil, hrwv⟩ xb H.size) (cwV 1 hts zgX7_compile_X7_isBuild_248 rfl rfl rfl (by decide +kernel) ⟨(show 1 + 1 ≤ 5 by omega), (show 8 + (2 + 11) + 25 ≤ 130 by omega)⟩) (zVm (ci := 6) (q0 := 0) (q := (RX7, TX7, 46)) hK hP hD hL hS.2.1 hFc rfl rfl rfl) rfl rfl hl.1 rfl (lv_room (Nat.le_of_ble_eq_true rfl)) dX7_compile_7 ⟨(show 0 + 0 ≤ 0 by omega), (show 0 + 0 ≤ 0 by omega)⟩) (fun r1 hw => ?_)
  have hw : (r1 = 0 ∨ r1 = 1) ∧ (r1 = 1 → ∃ k, k < bs ∧ xb = nI k) := hw
  obtain ⟨w0r1, w1r1⟩ := hw
  refine lv_if_eq (tgt := 21) hx hb dX7_compile_10 (by decide) (fun cp10 => ?_) (fun cp10 => ?_)
  · refine lv_bipush (v := (-2)) hx hb dX7_compile_21 (by decide) ?_
    have hP9 : va_P (dC, dI) vwCl (rW h0 r cI cJ cZ 0 a1 (nI tp) (nI bs) (fun j => nI (cl j)) a5 a6 a7 (fun j => nI (fc j)) a9 (fun j => nI (mb j)) a11 a12 a13 a14 a15 a16 a17 a18 a19 a20 (nI az) v22 v23 v24 v25 v26 (nI bb) (fun j => nI (ct j)) (nI us) a30 a31 a32 a33 a34 a35 a36 a37 (fun j => nI (pil j)) (fun j => nI (rwv j)) (nI rl) v41 v42 v43 v44 v45) H := hP
    have hD9 : va_D A (rW h0 r cI cJ cZ 0 a1 (nI tp) (nI bs) (fun j => nI (cl j)) a5 a6 a7 (fun j => nI (fc j)) a9 (fun j => nI (mb j)) a11 a12 a13 a14 a15 a16 a17 a18 a19 a20 (nI az) v22 v23 v24 v25 v26 (nI bb) (fun j => nI (ct j)) (nI us) a30 a31 a32 a33 a34 a35 a36 a37 (fun j => nI (pil j)) (fun j => nI (rwv j)) (nI rl) v41 v42 v43 v44 v45) := hD
    exact W.iret (v := (-2 : Int32)) hx hb hr (fun t ht hW => ⟨⟨(-2 : Int32), (0, rl, pil, rwv, v43, v44, v45, v42, a37), rfl, ⟨(by exact hp1), hpil, hrwv⟩, by rw [ht]; exact hP9, va_K.moved hW.alike hK, hD9⟩, hS.F ht⟩) hS.2.2 dX7_compile_23
  · obtain ⟨k2, hBk2, rfl⟩ := w1r1 (w0r1.resolve_left cp10)
    refine lv_aload_n hx hb dX7_compile_13 rfl (lv_at hl 0 rfl) ?_
    refine lv_iload_n hx hb dX7_compile_14 rfl (lv_at hl 2 rfl) ?_
    have hFc := z_freeW hD hS hA
    refine vp_callSi (W.runV (As := [.int xu]) (rest := []) ⟨hx, hb, hml, hown, hts⟩ (kX7_isUse l dC dI h0 r cI cJ cZ 0 a1 tp bs cl a5 a6 a7 fc a9 mb a11 a12 a13 a14 a15 a16 a17 a18 a19 a20 az v22 v23 v24 v25 v26 bb ct us a30 a31 a32 a33 a34 a35 a36 a37 pil rwv rl v41 v42 v43 v44 v45 ⟨by omega, by omega, by omega, hcl, hfc, hmb, hct, hpil, hrwv⟩ xu H.size) (cwV 1 hts zgX7_compile_X7_isUse_306 rfl rfl rfl (by decide +kernel) ⟨(show 1 + 1 ≤ 5 by omega), (show 8 + (2 + 11) + 25 ≤ 130 by omega)⟩) (zVm (ci := 6) (q0 := 0) (q := (RX7, TX7, 46)) hK hP hD hL hS.2.1 hFc rfl rfl rfl) rfl rfl hl.1 rfl (lv_room (Nat.le_of_ble_eq_true rfl)) dX7_compile_15 ⟨(show 0 + 0 ≤ 0 by omega), (show 0 + 0 ≤ 0 by omega)⟩) (fun r3 hw => ?_)
    have hw : (r3 = 0 ∨ r3 = 1) ∧ (r3 = 1 → ∃ k, k < us ∧ xu = nI k) := hw
    obtain ⟨w0r3, w1r3⟩ := hw
    refine lv_if_ne (tgt := 24) hx hb dX7_compile_18 (by decide) (fun cp18 => ?_) (fun cp18 => ?_)
    · obtain ⟨k4, hBk4, rfl⟩ := w1r3 (w0r3.resolve_left cp18)
      refine lv_aload_n hx hb dX7_compile_24 rfl (lv_at hl 0 rfl) ?_
      refine va_get (D := (dC, dI)) (ci := 6) (v := .ref (r 30)) (C := RX7) (T := TX7) (N := 46) hx hb hts hiX7 hown hK hP 0 rfl rfl 30 (by decide) (hts (.fieldLink RX7 73 "LinkModelsModel" "useKind" "[I") (by decide +kernel)) (fun _ h9 => h9) rfl dX7_compile_25 ?_
      refine lv_iload_n hx hb dX7_compile_28 rfl (lv_at hl 2 rfl) ?_
      refine va_iald hx hb hK hP 20 0 rfl rfl (vp_in_nI (show k4 < 40 by omega) (by decide)) dX7_compile_29 ?_
      refine lv_topi (fun x5 ex5 => ?_)
      obtain rfl : x5 = a30 k4 := by rw [ex5, nI_clamp (show k4 < 2 ^ 31 by omega)]
      refine lv_iconst (v := 2) hx hb dX7_compile_30 (by decide) ?_
      refine lv_icmp_eq (tgt := 37) hx hb dX7_compile_31 (by decide) (fun cp31 => ?_) (fun cp31 => ?_)
      · refine lv_aload_n hx hb dX7_compile_37 rfl (lv_at hl 0 rfl) ?_
        refine lv_iload_n hx hb dX7_compile_38 rfl (lv_at hl 1 rfl) ?_
        refine lv_iload_n hx hb dX7_compile_39 rfl (lv_at hl 2 rfl) ?_
        have hFc := z_freeW hD hS hA
        refine va_calli (va_runV (As := [.int (nI k2), .int (nI k4)]) (rest := []) ⟨hx, hb, hml, hown, hts⟩ (kX7_links l dC dI h0 r cI cJ cZ 0 a1 tp bs cl a5 a6 a7 fc a9 mb a11 a12 a13 a14 a15 a16 a17 a18 a19 a20 az v22 v23 v24 v25 v26 bb ct us a30 a31 a32 a33 a34 a35 a36 a37 pil rwv rl v41 v42 v43 v44 v45 ⟨by omega, by omega, by omega, hcl, hfc, hmb, hct, hpil, hrwv⟩ k2 k4 (by first | omega | assumption | trivial) (by first | omega | assumption | trivial) (by exact hp0) H.size) (cwV 2 hts zgX7_compile_X7_links_309 rfl rfl rfl (by decide +kernel) ⟨(show 4 + 1 ≤ 5 by omega), (show 8 + (9 + 11) + 102 ≤ 130 by omega)⟩) (zVm (ci := 6) (q0 := 0) (q := (RX7, TX7, 46)) hK hP hD hL hS.2.1 hFc rfl rfl rfl) rfl rfl hl.1 rfl (lv_room (Nat.le_of_ble_eq_true rfl)) dX7_compile_40 ⟨(show 0 + 0 ≤ 0 by omega), (show 0 + 0 ≤ 0 by omega)⟩) hS (fun q _ h => hFc q h) hFc (fun r6 u14 t H1 locs ht hvm hw hB hz1 hk1 hS => ?_)
        obtain ⟨o7, o8, o9, o10, o11, o12, o13⟩ := u14
        obtain ⟨hP, hK9, hD⟩ := hB
        rw [ht] at hP
        have hD := hD.weaken (fun k q _ h => hFc q.1 h)
        generalize H1 = H at hP hS
        have hP : va_P (dC, dI) vwCl (rW h0 r cI cJ cZ 0 a1 (nI tp) (nI bs) (fun j => nI (cl j)) a5 a6 a7 (fun j => nI (fc j)) a9 (fun j => nI (mb j)) a11 a12 a13 a14 a15 a16 a17 a18 a19 a20 (nI az) v22 v23 v24 v25 v26 (nI bb) (fun j => nI (ct j)) (nI us) a30 a31 a32 a33 a34 a35 a36 a37 (fun j => nI (o8 j)) (fun j => nI (o9 j)) (nI o7) v41 o13 o10 o11 o12) H := hP
        have hD : va_D A (rW h0 r cI cJ cZ 0 a1 (nI tp) (nI bs) (fun j => nI (cl j)) a5 a6 a7 (fun j => nI (fc j)) a9 (fun j => nI (mb j)) a11 a12 a13 a14 a15 a16 a17 a18 a19 a20 (nI az) v22 v23 v24 v25 v26 (nI bb) (fun j => nI (ct j)) (nI us) a30 a31 a32 a33 a34 a35 a36 a37 (fun j => nI (o8 j)) (fun j => nI (o9 j)) (nI o7) v41 o13 o10 o11 o12) := hD
        have hw : (zM o13 (fun k => k < 960)) ∧ (0 < r6 ∨ 7 < a30 k4 ∨ ∃ k, k < 960 ∧ o13 = nI k) ∧ (7 < a30 k4 → o13 = -1) ∧ (∀ j, o8 j ≤ 15) ∧ (∀ j, o9 j ≤ 15) := hw
        obtain ⟨w0r6, w1r6, w2r6, hbo8, hbo9⟩ := hw
        refine lv_istore_n (lv' := [(3, .int r6), (0, .ref h0), (1, .int (nI k2)), (2, .int (nI k4))]) hx hb dX7_compile_43 rfl hl (by decide) rfl (fun ls hl => ?_)
        refine lv_iload_n hx hb dX7_compile_44 rfl (lv_at hl 0 rfl) ?_
        refine lv_if_le (tgt := 53) hx hb dX7_compile_45 (by decide) (fun cp45 => ?_) (fun cp45 => ?_)
        · obtain ⟨l9, hl9, rfl⟩ := (w1r6.resolve_left (Int32.not_lt.mpr cp45)).resolve_left (fun h9 => by rw [cp31] at h9; exact absurd h9 (by decide))
          refine lv_aload_n hx hb dX7_compile_53 rfl (lv_at hl 1 rfl) ?_
          refine va_get (D := (dC, dI)) (ci := 6) (v := .ref (r 37)) (C := RX7) (T := TX7) (N := 46) hx hb hts hiX7 hown hK hP 0 rfl rfl 37 (by decide) (hts (.fieldLink RX7 94 "LinkModelsModel" "copy" "[I") (by decide +kernel)) (fun _ h9 => h9) rfl dX7_compile_54 ?_
          refine lv_iload_n hx hb dX7_compile_57 rfl (lv_at hl 3 rfl) ?_
          refine lv_aload_n hx hb dX7_compile_58 rfl (lv_at hl 1 rfl) ?_
          refine va_get (D := (dC, dI)) (ci := 6) (v := .ref (r 16)) (C := RX7) (T := TX7) (N := 46) hx hb hts hiX7 hown hK hP 0 rfl rfl 16 (by decide) (hts (.fieldLink RX7 55 "LinkModelsModel" "isConstant" "[Z") (by decide +kernel)) (fun _ h9 => h9) rfl dX7_compile_59 ?_
          refine lv_aload_n hx hb dX7_compile_62 rfl (lv_at hl 1 rfl) ?_
          refine va_get (D := (dC, dI)) (ci := 6) (v := .int (nI l9)) (C := RX7) (T := TX7) (N := 46) hx hb hts hiX7 hown hK hP 0 rfl rfl 42 (by decide) (hts (.fieldLink RX7 296 "LinkModelsModel" "linked" "I") (by decide +kernel)) (fun _ h9 => h9) rfl dX7_compile_63 ?_
          refine va_zald hx hb hK hP 14 2 rfl rfl (vp_in_nI (show l9 < 960 by omega) (by decide)) dX7_compile_66 ?_
          refine lv_topi (fun x15 ex15 => ?_)
          obtain rfl : x15 = a16 l9 := by rw [ex15, nI_clamp (show l9 < 2 ^ 31 by omega)]
          refine lv_if_eq (tgt := 82) hx hb dX7_compile_67 (by decide) (fun cp67 => ?_) (fun cp67 => ?_)
          · refine lv_iconst (v := (-1)) hx hb dX7_compile_82 (by decide) ?_
            refine va_iast hx hb hK hP hD hS 27 0 rfl rfl (vp_in_nI (show k4 < 40 by omega) (by decide)) dX7_compile_83 (fun H locs hP hD hS => ?_)
            obtain ⟨f16, ef16, hP, hD⟩ : ∃ g : Nat → Int32, g = upd a37 k4 (-1 : Int32) ∧ va_P (dC, dI) vwCl (rW h0 r cI cJ cZ 0 a1 (nI tp) (nI bs) (fun j => nI (cl j)) a5 a6 a7 (fun j => nI (fc j)) a9 (fun j => nI (mb j)) a11 a12 a13 a14 a15 a16 a17 a18 a19 a20 (nI az) v22 v23 v24 v25 v26 (nI bb) (fun j => nI (ct j)) (nI us) a30 a31 a32 a33 a34 a35 a36 g (fun j => nI (o8 j)) (fun j => nI (o9 j)) (nI o7) v41 (nI l9) o10 o11 o12) H ∧ va_D A (rW h0 r cI cJ cZ 0 a1 (nI tp) (nI bs) (fun j => nI (cl j)) a5 a6 a7 (fun j => nI (fc j)) a9 (fun j => nI (mb j)) a11 a12 a13 a14 a15 a16 a17 a18 a19 a20 (nI az) v22 v23 v24 v25 v26 (nI bb) (fun j => nI (ct j)) (nI us) a30 a31 a32 a33 a34 a35 a36 g (fun j => nI (o8 j)) (fun j => nI (o9 j)) (nI o7) v41 (nI l9) o10 o11 o12) := ⟨_, rfl, (by rw [nI_clamp (show k4 < 2 ^ 31 by omega)] at hP; exact hP), (by rw [nI_clamp (show k4 < 2 ^ 31 by omega)] at hD; exact hD)⟩
            refine lv_aload_n hx hb dX7_compile_84 rfl (lv_at hl 1 rfl) ?_
            refine va_get (D := (dC, dI)) (ci := 6) (v := .ref (r 16)) (C := RX7) (T := TX7) (N := 46) hx hb hts hiX7 hown hK hP 0 rfl rfl 16 (by decide) (hts (.fieldLink RX7 55 "LinkModelsModel" "isConstant" "[Z") (by decide +kernel)) (fun _ h9 => h9) rfl dX7_compile_85 ?_
            refine lv_aload_n hx hb dX7_compile_88 rfl (lv_at hl 1 rfl) ?_
            refine va_get (D := (dC, dI)) (ci := 6) (v := .int (nI l9)) (C := RX7) (T := TX7) (N := 46) hx hb hts hiX7 hown hK hP 0 rfl rfl 42 (by decide) (hts (.fieldLink RX7 296 "LinkModelsModel" "linked" "I") (by decide +kernel)) (fun _ h9 => h9) rfl dX7_compile_89 ?_
            refine va_zald hx hb hK hP 14 2 rfl rfl (vp_in_nI (show l9 < 960 by omega) (by decide)) dX7_compile_92 ?_
            refine lv_topi (fun x17 ex17 => ?_)
            obtain rfl : x17 = a16 l9 := by rw [ex17, nI_clamp (show l9 < 2 ^ 31 by omega)]
            refine lv_if_eq (tgt := 100) hx hb dX7_compile_93 (by decide) (fun cp93 => ?_) (fun cp93 => ?_)
            · refine lv_iconst (v := 0) hx hb dX7_compile_100 (by decide) ?_
              have hP9 : va_P (dC, dI) vwCl (rW h0 r cI cJ cZ 0 a1 (nI tp) (nI bs) (fun j => nI (cl j)) a5 a6 a7 (fun j => nI (fc j)) a9 (fun j => nI (mb j)) a11 a12 a13 a14 a15 a16 a17 a18 a19 a20 (nI az) v22 v23 v24 v25 v26 (nI bb) (fun j => nI (ct j)) (nI us) a30 a31 a32 a33 a34 a35 a36 f16 (fun j => nI (o8 j)) (fun j => nI (o9 j)) (nI o7) v41 (nI l9) o10 o11 o12) H := hP
              have hD9 : va_D A (rW h0 r cI cJ cZ 0 a1 (nI tp) (nI bs) (fun j => nI (cl j)) a5 a6 a7 (fun j => nI (fc j)) a9 (fun j => nI (mb j)) a11 a12 a13 a14 a15 a16 a17 a18 a19 a20 (nI az) v22 v23 v24 v25 v26 (nI bb) (fun j => nI (ct j)) (nI us) a30 a31 a32 a33 a34 a35 a36 f16 (fun j => nI (o8 j)) (fun j => nI (o9 j)) (nI o7) v41 (nI l9) o10 o11 o12) := hD
              exact W.iret (v := (0 : Int32)) hx hb hr (fun t ht hW => ⟨⟨(0 : Int32), (0, o7, o8, o9, o10, o11, o12, (nI l9), f16), rfl, ⟨(by intro j hj; show f16 j = -1 ∨ a30 j = 2; rw [ef16]; rcases Nat.decEq j k4 with q | q; (rw [pk_un q]; exact hp1 j hj); (rw [q]; exact Or.inr cp31)), hbo8, hbo9⟩, by rw [ht]; exact hP9, va_K.moved hW.alike hK, hD9⟩, hS.F ht⟩) hS.2.2 dX7_compile_101
            · refine lv_iconst (v := 1) hx hb dX7_compile_96 (by decide) ?_
              refine lv_goto (tgt := 101) hx hb dX7_compile_97 (by decide) ?_
              have hP9 : va_P (dC, dI) vwCl (rW h0 r cI cJ cZ 0 a1 (nI tp) (nI bs) (fun j => nI (cl j)) a5 a6 a7 (fun j => nI (fc j)) a9 (fun j => nI (mb j)) a11 a12 a13 a14 a15 a16 a17 a18 a19 a20 (nI az) v22 v23 v24 v25 v26 (nI bb) (fun j => nI (ct j)) (nI us) a30 a31 a32 a33 a34 a35 a36 f16 (fun j => nI (o8 j)) (fun j => nI (o9 j)) (nI o7) v41 (nI l9) o10 o11 o12) H := hP
              have hD9 : va_D A (rW h0 r cI cJ cZ 0 a1 (nI tp) (nI bs) (fun j => nI (cl j)) a5 a6 a7 (fun j => nI (fc j)) a9 (fun j => nI (mb j)) a11 a12 a13 a14 a15 a16 a17 a18 a19 a20 (nI az) v22 v23 v24 v25 v26 (nI bb) (fun j => nI (ct j)) (nI us) a30 a31 a32 a33 a34 a35 a36 f16 (fun j => nI (o8 j)) (fun j => nI (o9 j)) (nI o7) v41 (nI l9) o10 o11 o12) := hD
              exact W.iret (v := (1 : Int32)) hx hb hr (fun t ht hW => ⟨⟨(1 : Int32), (0, o7, o8, o9, o10, o11, o12, (nI l9), f16), rfl, ⟨(by intro j hj; show f16 j = -1 ∨ a30 j = 2; rw [ef16]; rcases Nat.decEq j k4 with q | q; (rw [pk_un q]; exact hp1 j hj); (rw [q]; exact Or.inr cp31)), hbo8, hbo9⟩, by rw [ht]; exact hP9, va_K.moved hW.alike hK, hD9⟩, hS.F ht⟩) hS.2.2 dX7_compile_101
          · refine lv_aload_n hx hb dX7_compile_70 rfl (lv_at hl 1 rfl) ?_
            refine va_get (D := (dC, dI)) (ci := 6) (v := .ref (r 17)) (C := RX7) (T := TX7) (N := 46) hx hb hts hiX7 hown hK hP 0 rfl rfl 17 (by decide) (hts (.fieldLink RX7 58 "LinkModelsModel" "number" "[I") (by decide +kernel)) (fun _ h9 => h9) rfl dX7_compile_71 ?_
            refine lv_aload_n hx hb dX7_compile_74 rfl (lv_at hl 1 rfl) ?_
            refine va_get (D := (dC, dI)) (ci := 6) (v := .int (nI l9)) (C := RX7) (T := TX7) (N := 46) hx hb hts hiX7 hown hK hP 0 rfl rfl 42 (by decide) (hts (.fieldLink RX7 296 "LinkModelsModel" "linked" "I") (by decide +kernel)) (fun _ h9 => h9) rfl dX7_compile_75 ?_
            refine va_iald hx hb hK hP 15 0 rfl rfl (vp_in_nI (show l9 < 960 by omega) (by decide)) dX7_compile_78 ?_
            refine lv_topi (fun x18 ex18 => ?_)
            obtain rfl : x18 = a17 l9 := by rw [ex18, nI_clamp (show l9 < 2 ^ 31 by omega)]
            refine lv_goto (tgt := 83) hx hb dX7_compile_79 (by decide) ?_
            refine va_iast hx hb hK hP hD hS 27 0 rfl rfl (vp_in_nI (show k4 < 40 by omega) (by decide)) dX7_compile_83 (fun H locs hP hD hS => ?_)
            obtain ⟨f19, ef19, hP, hD⟩ : ∃ g : Nat → Int32, g = upd a37 k4 (a17 l9) ∧ va_P (dC, dI) vwCl (rW h0 r cI cJ cZ 0 a1 (nI tp) (nI bs) (fun j => nI (cl j)) a5 a6 a7 (fun j => nI (fc j)) a9 (fun j => nI (mb j)) a11 a12 a13 a14 a15 a16 a17 a18 a19 a20 (nI az) v22 v23 v24 v25 v26 (nI bb) (fun j => nI (ct j)) (nI us) a30 a31 a32 a33 a34 a35 a36 g (fun j => nI (o8 j)) (fun j => nI (o9 j)) (nI o7) v41 (nI l9) o10 o11 o12) H ∧ va_D A (rW h0 r cI cJ cZ 0 a1 (nI tp) (nI bs) (fun j => nI (cl j)) a5 a6 a7 (fun j => nI (fc j)) a9 (fun j => nI (mb j)) a11 a12 a13 a14 a15 a16 a17 a18 a19 a20 (nI az) v22 v23 v24 v25 v26 (nI bb) (fun j => nI (ct j)) (nI us) a30 a31 a32 a33 a34 a35 a36 g (fun j => nI (o8 j)) (fun j => nI (o9 j)) (nI o7) v41 (nI l9) o10 o11 o12) := ⟨_, rfl, (by rw [nI_clamp (show k4 < 2 ^ 31 by omega)] at hP; exact hP), (by rw [nI_clamp (show k4 < 2 ^ 31 by omega)] at hD; exact hD)⟩
            refine lv_aload_n hx hb dX7_compile_84 rfl (lv_at hl 1 rfl) ?_
            refine va_get (D := (dC, dI)) (ci := 6) (v := .ref (r 16)) (C := RX7) (T := TX7) (N := 46) hx hb hts hiX7 hown hK hP 0 rfl rfl 16 (by decide) (hts (.fieldLink RX7 55 "LinkModelsModel" "isConstant" "[Z") (by decide +kernel)) (fun _ h9 => h9) rfl dX7_compile_85 ?_
            refine lv_aload_n hx hb dX7_compile_88 rfl (lv_at hl 1 rfl) ?_
            refine va_get (D := (dC, dI)) (ci := 6) (v := .int (nI l9)) (C := RX7) (T := TX7) (N := 46) hx hb hts hiX7 hown hK hP 0 rfl rfl 42 (by decide) (hts (.fieldLink RX7 296 "LinkModelsModel" "linked" "I") (by decide +kernel)) (fun _ h9 => h9) rfl dX7_compile_89 ?_
            refine va_zald hx hb hK hP 14 2 rfl rfl (vp_in_nI (show l9 < 960 by omega) (by decide)) dX7_compile_92 ?_
            refine lv_topi (fun x20 ex20 => ?_)
            obtain rfl : x20 = a16 l9 := by rw [ex20, nI_clamp (show l9 < 2 ^ 31 by omega)]
            refine lv_if_eq (tgt := 100) hx hb dX7_compile_93 (by decide) (fun cp93 => ?_) (fun cp93 => ?_)
            · refine lv_iconst (v := 0) hx hb dX7_compile_100 (by decide) ?_
              have hP9 : va_P (dC, dI) vwCl (rW h0 r cI cJ cZ 0 a1 (nI tp) (nI bs) (fun j => nI (cl j)) a5 a6 a7 (fun j => nI (fc j)) a9 (fun j => nI (mb j)) a11 a12 a13 a14 a15 a16 a17 a18 a19 a20 (nI az) v22 v23 v24 v25 v26 (nI bb) (fun j => nI (ct j)) (nI us) a30 a31 a32 a33 a34 a35 a36 f19 (fun j => nI (o8 j)) (fun j => nI (o9 j)) (nI o7) v41 (nI l9) o10 o11 o12) H := hP
              have hD9 : va_D A (rW h0 r cI cJ cZ 0 a1 (nI tp) (nI bs) (fun j => nI (cl j)) a5 a6 a7 (fun j => nI (fc j)) a9 (fun j => nI (mb j)) a11 a12 a13 a14 a15 a16 a17 a18 a19 a20 (nI az) v22 v23 v24 v25 v26 (nI bb) (fun j => nI (ct j)) (nI us) a30 a31 a32 a33 a34 a35 a36 f19 (fun j => nI (o8 j)) (fun j => nI (o9 j)) (nI o7) v41 (nI l9) o10 o11 o12) := hD
              exact W.iret (v := (0 : Int32)) hx hb hr (fun t ht hW => ⟨⟨(0 : Int32), (0, o7, o8, o9, o10, o11, o12, (nI l9), f19), rfl, ⟨(by intro j hj; show f19 j = -1 ∨ a30 j = 2; rw [ef19]; rcases Nat.decEq j k4 with q | q; (rw [pk_un q]; exact hp1 j hj); (rw [q]; exact Or.inr cp31)), hbo8, hbo9⟩, by rw [ht]; exact hP9, va_K.moved hW.alike hK, hD9⟩, hS.F ht⟩) hS.2.2 dX7_compile_101
            · refine lv_iconst (v := 1) hx hb dX7_compile_96 (by decide) ?_
              refine lv_goto (tgt := 101) hx hb dX7_compile_97 (by decide) ?_
              have hP9 : va_P (dC, dI) vwCl (rW h0 r cI cJ cZ 0 a1 (nI tp) (nI bs) (fun j => nI (cl j)) a5 a6 a7 (fun j => nI (fc j)) a9 (fun j => nI (mb j)) a11 a12 a13 a14 a15 a16 a17 a18 a19 a20 (nI az) v22 v23 v24 v25 v26 (nI bb) (fun j => nI (ct j)) (nI us) a30 a31 a32 a33 a34 a35 a36 f19 (fun j => nI (o8 j)) (fun j => nI (o9 j)) (nI o7) v41 (nI l9) o10 o11 o12) H := hP
              have hD9 : va_D A (rW h0 r cI cJ cZ 0 a1 (nI tp) (nI bs) (fun j => nI (cl j)) a5 a6 a7 (fun j => nI (fc j)) a9 (fun j => nI (mb j)) a11 a12 a13 a14 a15 a16 a17 a18 a19 a20 (nI az) v22 v23 v24 v25 v26 (nI bb) (fun j => nI (ct j)) (nI us) a30 a31 a32 a33 a34 a35 a36 f19 (fun j => nI (o8 j)) (fun j => nI (o9 j)) (nI o7) v41 (nI l9) o10 o11 o12) := hD
              exact W.iret (v := (1 : Int32)) hx hb hr (fun t ht hW => ⟨⟨(1 : Int32), (0, o7, o8, o9, o10, o11, o12, (nI l9), f19), rfl, ⟨(by intro j hj; show f19 j = -1 ∨ a30 j = 2; rw [ef19]; rcases Nat.decEq j k4 with q | q; (rw [pk_un q]; exact hp1 j hj); (rw [q]; exact Or.inr cp31)), hbo8, hbo9⟩, by rw [ht]; exact hP9, va_K.moved hW.alike hK, hD9⟩, hS.F ht⟩) hS.2.2 dX7_compile_101
        · refine lv_bipush (v := (-10)) hx hb dX7_compile_48 (by decide) ?_
          refine lv_iload_n hx hb dX7_compile_50 rfl (lv_at hl 0 rfl) ?_
          refine lv_isub hx hb dX7_compile_51 ?_
          refine lv_topi (fun x21 ex21 => ?_)
          have hP9 : va_P (dC, dI) vwCl (rW h0 r cI cJ cZ 0 a1 (nI tp) (nI bs) (fun j => nI (cl j)) a5 a6 a7 (fun j => nI (fc j)) a9 (fun j => nI (mb j)) a11 a12 a13 a14 a15 a16 a17 a18 a19 a20 (nI az) v22 v23 v24 v25 v26 (nI bb) (fun j => nI (ct j)) (nI us) a30 a31 a32 a33 a34 a35 a36 a37 (fun j => nI (o8 j)) (fun j => nI (o9 j)) (nI o7) v41 o13 o10 o11 o12) H := hP
          have hD9 : va_D A (rW h0 r cI cJ cZ 0 a1 (nI tp) (nI bs) (fun j => nI (cl j)) a5 a6 a7 (fun j => nI (fc j)) a9 (fun j => nI (mb j)) a11 a12 a13 a14 a15 a16 a17 a18 a19 a20 (nI az) v22 v23 v24 v25 v26 (nI bb) (fun j => nI (ct j)) (nI us) a30 a31 a32 a33 a34 a35 a36 a37 (fun j => nI (o8 j)) (fun j => nI (o9 j)) (nI o7) v41 o13 o10 o11 o12) := hD
          exact W.iret (v := x21) hx hb hr (fun t ht hW => ⟨⟨x21, (0, o7, o8, o9, o10, o11, o12, o13, a37), rfl, ⟨(by exact hp1), hbo8, hbo9⟩, by rw [ht]; exact hP9, va_K.moved hW.alike hK, hD9⟩, hS.F ht⟩) hS.2.2 dX7_compile_52
      · refine lv_bipush (v := (-4)) hx hb dX7_compile_34 (by decide) ?_
        have hP9 : va_P (dC, dI) vwCl (rW h0 r cI cJ cZ 0 a1 (nI tp) (nI bs) (fun j => nI (cl j)) a5 a6 a7 (fun j => nI (fc j)) a9 (fun j => nI (mb j)) a11 a12 a13 a14 a15 a16 a17 a18 a19 a20 (nI az) v22 v23 v24 v25 v26 (nI bb) (fun j => nI (ct j)) (nI us) a30 a31 a32 a33 a34 a35 a36 a37 (fun j => nI (pil j)) (fun j => nI (rwv j)) (nI rl) v41 v42 v43 v44 v45) H := hP
        have hD9 : va_D A (rW h0 r cI cJ cZ 0 a1 (nI tp) (nI bs) (fun j => nI (cl j)) a5 a6 a7 (fun j => nI (fc j)) a9 (fun j => nI (mb j)) a11 a12 a13 a14 a15 a16 a17 a18 a19 a20 (nI az) v22 v23 v24 v25 v26 (nI bb) (fun j => nI (ct j)) (nI us) a30 a31 a32 a33 a34 a35 a36 a37 (fun j => nI (pil j)) (fun j => nI (rwv j)) (nI rl) v41 v42 v43 v44 v45) := hD
        exact W.iret (v := (-4 : Int32)) hx hb hr (fun t ht hW => ⟨⟨(-4 : Int32), (0, rl, pil, rwv, v43, v44, v45, v42, a37), rfl, ⟨(by exact hp1), hpil, hrwv⟩, by rw [ht]; exact hP9, va_K.moved hW.alike hK, hD9⟩, hS.F ht⟩) hS.2.2 dX7_compile_36
    · refine lv_bipush (v := (-2)) hx hb dX7_compile_21 (by decide) ?_
      have hP9 : va_P (dC, dI) vwCl (rW h0 r cI cJ cZ 0 a1 (nI tp) (nI bs) (fun j => nI (cl j)) a5 a6 a7 (fun j => nI (fc j)) a9 (fun j => nI (mb j)) a11 a12 a13 a14 a15 a16 a17 a18 a19 a20 (nI az) v22 v23 v24 v25 v26 (nI bb) (fun j => nI (ct j)) (nI us) a30 a31 a32 a33 a34 a35 a36 a37 (fun j => nI (pil j)) (fun j => nI (rwv j)) (nI rl) v41 v42 v43 v44 v45) H := hP
      have hD9 : va_D A (rW h0 r cI cJ cZ 0 a1 (nI tp) (nI bs) (fun j => nI (cl j)) a5 a6 a7 (fun j => nI (fc j)) a9 (fun j => nI (mb j)) a11 a12 a13 a14 a15 a16 a17 a18 a19 a20 (nI az) v22 v23 v24 v25 v26 (nI bb) (fun j => nI (ct j)) (nI us) a30 a31 a32 a33 a34 a35 a36 a37 (fun j => nI (pil j)) (fun j => nI (rwv j)) (nI rl) v41 v42 v43 v44 v45) := hD
      exact W.iret (v := (-2 : Int32)) hx hb hr (fun t ht hW => ⟨⟨(-2 : Int32), (0, rl, pil, rwv, v43, v44, v45, v42, a37), rfl, ⟨(by exact hp1), hpil, hrwv⟩, by rw [ht]; exact hP9, va_K.moved hW.alike hK, hD9⟩, hS.F ht⟩) hS.2.2 dX7_compile_23
theorem dX7_stale_0 : decode cX7_stale 0 = .ok (.aload_n 0, 1) := by decide +kernel
theorem dX7_stale_1 : decode cX7_stale 1 = .ok (.iconst 0, 1) := by decide +kernel
theorem dX7_stale_2 : decode cX7_stale 2 = .ok (.putfield 1, 3) := by decide +kernel
theorem dX7_stale_5 : decode cX7_stale 5 = .ok (.aload_n 0, 1) := by decide +kernel
theorem dX7_stale_6 : decode cX7_stale 6 = .ok (.iload_n 1, 1) := by decide +kernel
theorem dX7_stale_7 : decode cX7_stale 7 = .ok (.invokevirtual 248, 3) := by decide +kernel
theorem dX7_stale_10 : decode cX7_stale 10 = .ok (.ifCond .eq 11, 3) := by decide +kernel
theorem dX7_stale_13 : decode cX7_stale 13 = .ok (.aload_n 0, 1) := by decide +kernel
theorem dX7_stale_14 : decode cX7_stale 14 = .ok (.iload_n 2, 1) := by decide +kernel
theorem dX7_stale_15 : decode cX7_stale 15 = .ok (.invokevirtual 306, 3) := by decide +kernel
theorem dX7_stale_18 : decode cX7_stale 18 = .ok (.ifCond .ne 6, 3) := by decide +kernel
theorem dX7_stale_21 : decode cX7_stale 21 = .ok (.bipush (-2), 2) := by decide +kernel
theorem dX7_stale_23 : decode cX7_stale 23 = .ok (.ireturn, 1) := by decide +kernel
theorem dX7_stale_24 : decode cX7_stale 24 = .ok (.aload_n 0, 1) := by decide +kernel
theorem dX7_stale_25 : decode cX7_stale 25 = .ok (.getfield 94, 3) := by decide +kernel
theorem dX7_stale_28 : decode cX7_stale 28 = .ok (.iload_n 2, 1) := by decide +kernel
theorem dX7_stale_29 : decode cX7_stale 29 = .ok (.iaload, 1) := by decide +kernel
theorem dX7_stale_30 : decode cX7_stale 30 = .ok (.iconst (-1), 1) := by decide +kernel
theorem dX7_stale_31 : decode cX7_stale 31 = .ok (.if_icmp .ne 6, 3) := by decide +kernel
theorem dX7_stale_34 : decode cX7_stale 34 = .ok (.bipush (-4), 2) := by decide +kernel
theorem dX7_stale_36 : decode cX7_stale 36 = .ok (.ireturn, 1) := by decide +kernel
theorem dX7_stale_37 : decode cX7_stale 37 = .ok (.aload_n 0, 1) := by decide +kernel
theorem dX7_stale_38 : decode cX7_stale 38 = .ok (.iload_n 1, 1) := by decide +kernel
theorem dX7_stale_39 : decode cX7_stale 39 = .ok (.iload_n 2, 1) := by decide +kernel
theorem dX7_stale_40 : decode cX7_stale 40 = .ok (.invokevirtual 309, 3) := by decide +kernel
theorem dX7_stale_43 : decode cX7_stale 43 = .ok (.ifCond .ne 37, 3) := by decide +kernel
theorem dX7_stale_46 : decode cX7_stale 46 = .ok (.aload_n 0, 1) := by decide +kernel
theorem dX7_stale_47 : decode cX7_stale 47 = .ok (.getfield 55, 3) := by decide +kernel
theorem dX7_stale_50 : decode cX7_stale 50 = .ok (.aload_n 0, 1) := by decide +kernel
theorem dX7_stale_51 : decode cX7_stale 51 = .ok (.getfield 296, 3) := by decide +kernel
theorem dX7_stale_54 : decode cX7_stale 54 = .ok (.baload, 1) := by decide +kernel
theorem dX7_stale_55 : decode cX7_stale 55 = .ok (.ifCond .eq 25, 3) := by decide +kernel
theorem dX7_stale_58 : decode cX7_stale 58 = .ok (.aload_n 0, 1) := by decide +kernel
theorem dX7_stale_59 : decode cX7_stale 59 = .ok (.getfield 58, 3) := by decide +kernel
theorem dX7_stale_62 : decode cX7_stale 62 = .ok (.aload_n 0, 1) := by decide +kernel
theorem dX7_stale_63 : decode cX7_stale 63 = .ok (.getfield 296, 3) := by decide +kernel
theorem dX7_stale_66 : decode cX7_stale 66 = .ok (.iaload, 1) := by decide +kernel
theorem dX7_stale_67 : decode cX7_stale 67 = .ok (.aload_n 0, 1) := by decide +kernel
theorem dX7_stale_68 : decode cX7_stale 68 = .ok (.getfield 94, 3) := by decide +kernel
theorem dX7_stale_71 : decode cX7_stale 71 = .ok (.iload_n 2, 1) := by decide +kernel
theorem dX7_stale_72 : decode cX7_stale 72 = .ok (.iaload, 1) := by decide +kernel
theorem dX7_stale_73 : decode cX7_stale 73 = .ok (.if_icmp .ne 7, 3) := by decide +kernel
theorem dX7_stale_76 : decode cX7_stale 76 = .ok (.iconst 0, 1) := by decide +kernel
theorem dX7_stale_77 : decode cX7_stale 77 = .ok (.goto 4, 3) := by decide +kernel
theorem dX7_stale_80 : decode cX7_stale 80 = .ok (.iconst 1, 1) := by decide +kernel
theorem dX7_stale_81 : decode cX7_stale 81 = .ok (.ireturn, 1) := by decide +kernel
def zwX7_stale : List Cond := .code yX7_stale cX7_stale 3 (some .int) :: ([.fieldLink RX7 1 "LinkModelsModel" "thrown" "I", .fieldLink RX7 94 "LinkModelsModel" "copy" "[I", .fieldLink RX7 55 "LinkModelsModel" "isConstant" "[Z", .fieldLink RX7 296 "LinkModelsModel" "linked" "I", .fieldLink RX7 58 "LinkModelsModel" "number" "[I", .methodLink RX7 248 yX7_isBuild, .instanceMethod yX7_isBuild, .selects RX7 yX7_isBuild yX7_isBuild, .initialized RX7, .code yX7_isBuild cX7_isBuild 2 (some .boolean), .fieldLink RX7 232 "LinkModelsModel" "builds" "I", .methodLink RX7 105 yX7_in, .static yX7_in, .code yX7_in cX7_in 6 (some .boolean), .methodLink RX7 306 yX7_isUse, .instanceMethod yX7_isUse, .selects RX7 yX7_isUse yX7_isUse, .code yX7_isUse cX7_isUse 2 (some .boolean), .fieldLink RX7 263 "LinkModelsModel" "uses" "I", .methodLink RX7 309 yX7_links, .instanceMethod yX7_links, .selects RX7 yX7_links yX7_links, .code yX7_links cX7_links 9 (some .int), .fieldLink RX7 76 "LinkModelsModel" "caller" "[I", .fieldLink RX7 79 "LinkModelsModel" "owner" "[I", .fieldLink RX7 73 "LinkModelsModel" "useKind" "[I", .fieldLink RX7 23 "LinkModelsModel" "sort" "[I", .fieldLink RX7 48 "LinkModelsModel" "marks" "[I", .methodLink RX7 251 yX7_errorOf, .instanceMethod yX7_errorOf, .selects RX7 yX7_errorOf yX7_errorOf, .code yX7_errorOf cX7_errorOf 4 (some .int), .fieldLink RX7 38 "LinkModelsModel" "error" "[I", .methodLink RX7 201 yX7_place, .instanceMethod yX7_place, .selects RX7 yX7_place yX7_place, .code yX7_place cX7_place 4 (some .int), .fieldLink RX7 17 "LinkModelsModel" "classes" "[I", .fieldLink RX7 20 "LinkModelsModel" "className" "[I", .methodLink RX7 303 yX7_findMethod, .instanceMethod yX7_findMethod, .selects RX7 yX7_findMethod yX7_findMethod, .code yX7_findMethod cX7_findMethod 6 (some .int), .fieldLink RX7 279 "LinkModelsModel" "bodies" "I", .fieldLink RX7 285 "LinkModelsModel" "firstOne" "I", .fieldLink RX7 282 "LinkModelsModel" "bodied" "I", .methodLink RX7 292 yX7_findFaces, .instanceMethod yX7_findFaces, .selects RX7 yX7_findFaces yX7_findFaces, .code yX7_findFaces cX7_findFaces 8 none, .fieldLink RX7 266 "LinkModelsModel" "rowLong" "I", .fieldLink RX7 100 "LinkModelsModel" "row" "[I", .methodLink RX7 288 yX7_methodIn, .instanceMethod yX7_methodIn, .selects RX7 yX7_methodIn yX7_methodIn, .code yX7_methodIn cX7_methodIn 6 (some .int), .fieldLink RX7 51 "LinkModelsModel" "isMethod" "[Z", .fieldLink RX7 44 "LinkModelsModel" "word" "[J", .fieldLink RX7 82 "LinkModelsModel" "useWord" "[J", .fieldLink RX7 35 "LinkModelsModel" "members" "[I", .fieldLink RX7 61 "LinkModelsModel" "many" "[I", .fieldLink RX7 85 "LinkModelsModel" "useMany" "[I", .fieldLink RX7 67 "LinkModelsModel" "second" "[I", .fieldLink RX7 91 "LinkModelsModel" "useSecond" "[I", .fieldLink RX7 64 "LinkModelsModel" "first" "[I", .fieldLink RX7 88 "LinkModelsModel" "useFirst" "[I", .methodLink RX7 256 yX7_isOf, .instanceMethod yX7_isOf, .selects RX7 yX7_isOf yX7_isOf, .code yX7_isOf cX7_isOf 4 (some .boolean), .fieldLink RX7 41 "LinkModelsModel" "ofAll" "[I", .methodLink RX7 272 yX7_faceRow, .instanceMethod yX7_faceRow, .selects RX7 yX7_faceRow yX7_faceRow, .code yX7_faceRow cX7_faceRow 8 none, .fieldLink RX7 97 "LinkModelsModel" "pile" "[I", .fieldLink RX7 32 "LinkModelsModel" "face" "[I", .fieldLink RX7 29 "LinkModelsModel" "faces" "[I", .methodLink RX7 276 yX7_aboveOf, .instanceMethod yX7_aboveOf, .selects RX7 yX7_aboveOf yX7_aboveOf, .code yX7_aboveOf cX7_aboveOf 3 (some .int), .fieldLink RX7 26 "LinkModelsModel" "above" "[I", .methodLink RX7 299 yX7_findField, .instanceMethod yX7_findField, .selects RX7 yX7_findField yX7_findField, .code yX7_findField cX7_findField 7 (some .int), .methodLink RX7 269 yX7_fieldIn, .instanceMethod yX7_fieldIn, .selects RX7 yX7_fieldIn yX7_fieldIn, .code yX7_fieldIn cX7_fieldIn 4 (some .int)] ++ wsX70)
theorem zgX7_stale_X7_isBuild_248 : GoodIn zwX7_stale (wsV RX7 248 RX7 yX7_isBuild zwX7_isBuild) := goodIn_app (goodIn_r _ [6, 7, 8, 9] rfl (by decide +kernel)) (goodIn_ca (goodIn_r _ [10, 11, 12, 13, 9, 14] rfl (by decide +kernel)) (zgt zg7))
theorem zgX7_stale_X7_isUse_306 : GoodIn zwX7_stale (wsV RX7 306 RX7 yX7_isUse zwX7_isUse) := goodIn_app (goodIn_r _ [15, 16, 17, 9] rfl (by decide +kernel)) (goodIn_ca (goodIn_r _ [18, 19, 12, 13, 9, 14] rfl (by decide +kernel)) (zgt zg7))
theorem zgX7_stale_X7_links_309 : GoodIn zwX7_stale (wsV RX7 309 RX7 yX7_links zwX7_links) := goodIn_app (goodIn_r _ [20, 21, 22, 9] rfl (by decide +kernel)) (goodIn_ca (goodIn_r _ [23, 4, 24, 25, 26, 27, 28, 29, 30, 31, 9, 32, 33, 34, 35, 36, 37, 38, 39, 40, 41, 42, 43, 44, 45, 46, 47, 48, 49, 50, 51, 52, 53, 54, 55, 56, 57, 58, 59, 60, 61, 62, 63, 64, 65, 66, 67, 68, 69, 70, 71, 72, 73, 74, 75, 76, 77, 78, 79, 80, 81, 82, 83, 84, 85, 86, 87, 88, 89, 90, 91] rfl (by decide +kernel)) (zgt zg7))
set_option maxHeartbeats 4000000 in
set_option maxRecDepth 100000 in
theorem kX7_stale (l : Launch) (dC : Nat → ClassId) (dI : Nat → Nat → Nat) (h0 : Nat) (r : Nat → Nat) (cI : ClassId) (cJ : ClassId) (cZ : ClassId) (v0 : Int32) (a1 : Nat → Int32) (tp : Nat) (bs : Nat) (cl : Nat → Nat) (a5 : Nat → Int32) (a6 : Nat → Int32) (a7 : Nat → Int32) (fc : Nat → Nat) (a9 : Nat → Int32) (mb : Nat → Nat) (a11 : Nat → Int32) (a12 : Nat → Int32) (a13 : Nat → Int64) (a14 : Nat → Int32) (a15 : Nat → Int32) (a16 : Nat → Int32) (a17 : Nat → Int32) (a18 : Nat → Int32) (a19 : Nat → Int32) (a20 : Nat → Int32) (az : Nat) (v22 : Int32) (v23 : Int32) (v24 : Int64) (v25 : Int32) (v26 : Int32) (bb : Nat) (ct : Nat → Nat) (us : Nat) (a30 : Nat → Int32) (a31 : Nat → Int32) (a32 : Nat → Int32) (a33 : Nat → Int64) (a34 : Nat → Int32) (a35 : Nat → Int32) (a36 : Nat → Int32) (a37 : Nat → Int32) (pil : Nat → Nat) (rwv : Nat → Nat) (rl : Nat) (v41 : Int32) (v42 : Int32) (v43 : Int32) (v44 : Int32) (v45 : Int32) (hI : rWI tp bs cl fc mb az bb ct us pil rwv rl) (xb : Int32) (xu : Int32) (hp0 : ∀ bd, bd < bs → zOK cl a5 a7 fc a9 a11 bd) (hp1 : ∀ j, j < us → a37 j = -1 ∨ a30 j = 2) (sz : Nat) : Met l yX7_stale zwX7_stale ({ frames := 5, cells := 0, slots := 0, locals := 130 }) (zPm dC dI [.ref h0, .int xb, .int xu] sz (rW h0 r cI cJ cZ v0 a1 (nI tp) (nI bs) (fun j => nI (cl j)) a5 a6 a7 (fun j => nI (fc j)) a9 (fun j => nI (mb j)) a11 a12 a13 a14 a15 a16 a17 a18 a19 a20 (nI az) v22 v23 v24 v25 v26 (nI bb) (fun j => nI (ct j)) (nI us) a30 a31 a32 a33 a34 a35 a36 a37 (fun j => nI (pil j)) (fun j => nI (rwv j)) (nI rl) v41 v42 v43 v44 v45) [(cI, .int), (cJ, .long), (cZ, .boolean)]) (va_Qi (fun (r : Int32) (u : Int32 × Nat × (Nat → Nat) × (Nat → Nat) × Int32 × Int32 × Int32 × Int32) => (∀ j, (u.2.2.1) j ≤ 15) ∧ (∀ j, (u.2.2.2.1) j ≤ 15)) (fun u t => zB dC dI (va_A (rW h0 r cI cJ cZ v0 a1 (nI tp) (nI bs) (fun j => nI (cl j)) a5 a6 a7 (fun j => nI (fc j)) a9 (fun j => nI (mb j)) a11 a12 a13 a14 a15 a16 a17 a18 a19 a20 (nI az) v22 v23 v24 v25 v26 (nI bb) (fun j => nI (ct j)) (nI us) a30 a31 a32 a33 a34 a35 a36 a37 (fun j => nI (pil j)) (fun j => nI (rwv j)) (nI rl) v41 v42 v43 v44 v45) sz) (rW h0 r cI cJ cZ (u.1) a1 (nI tp) (nI bs) (fun j => nI (cl j)) a5 a6 a7 (fun j => nI (fc j)) a9 (fun j => nI (mb j)) a11 a12 a13 a14 a15 a16 a17 a18 a19 a20 (nI az) v22 v23 v24 v25 v26 (nI bb) (fun j => nI (ct j)) (nI us) a30 a31 a32 a33 a34 a35 a36 a37 (fun j => nI ((u.2.2.1) j)) (fun j => nI ((u.2.2.2.1) j)) (nI (u.2.1)) v41 (u.2.2.2.2.2.2.2) (u.2.2.2.2.1) (u.2.2.2.2.2.1) (u.2.2.2.2.2.2.1)) [(cI, .int), (cJ, .long), (cZ, .boolean)] t) (va_A (rW h0 r cI cJ cZ v0 a1 (nI tp) (nI bs) (fun j => nI (cl j)) a5 a6 a7 (fun j => nI (fc j)) a9 (fun j => nI (mb j)) a11 a12 a13 a14 a15 a16 a17 a18 a19 a20 (nI az) v22 v23 v24 v25 v26 (nI bb) (fun j => nI (ct j)) (nI us) a30 a31 a32 a33 a34 a35 a36 a37 (fun j => nI (pil j)) (fun j => nI (rwv j)) (nI rl) v41 v42 v43 v44 v45) sz)) 0 0 (va_A (rW h0 r cI cJ cZ v0 a1 (nI tp) (nI bs) (fun j => nI (cl j)) a5 a6 a7 (fun j => nI (fc j)) a9 (fun j => nI (mb j)) a11 a12 a13 a14 a15 a16 a17 a18 a19 a20 (nI az) v22 v23 v24 v25 v26 (nI bb) (fun j => nI (ct j)) (nI us) a30 a31 a32 a33 a34 a35 a36 a37 (fun j => nI (pil j)) (fun j => nI (rwv j)) (nI rl) v41 v42 v43 v44 v45) sz) := by
  refine Met.ofW (cc := cX7_stale) (maxL := 3) (ret := (some .int)) (by decide) rfl ?_
  intro p e s m args below meth c s₁ B hml hv
  obtain ⟨rfl, hsz, hP, hK, hD0, hL0⟩ := hv
  have hx := B.exec
  have hb := B.bytes
  have hr := B.returns
  have hts := atoms_spec (ws := zwX7_stale) B.pre
  have hown : s.vm.findClass RX7 = some m.cls := findClass_of_methodNamed B.named
  have hiX7 : ∀ w ∈ wsX70, w ∈ zwX7_stale := (fun _ h => List.mem_cons_of_mem _ (List.mem_append_right _ h))
  obtain ⟨htp, hbs, hus, hcl, hfc, hmb, hct, hpil, hrwv⟩ := hI
  subst hsz
  have hD := hD0.self (sz := s.heap.size)
  generalize hAe : va_A (rW h0 r cI cJ cZ v0 a1 (nI tp) (nI bs) (fun j => nI (cl j)) a5 a6 a7 (fun j => nI (fc j)) a9 (fun j => nI (mb j)) a11 a12 a13 a14 a15 a16 a17 a18 a19 a20 (nI az) v22 v23 v24 v25 v26 (nI bb) (fun j => nI (ct j)) (nI us) a30 a31 a32 a33 a34 a35 a36 a37 (fun j => nI (pil j)) (fun j => nI (rwv j)) (nI rl) v41 v42 v43 v44 v45) s.heap.size = A at hD hL0 ⊢
  have hA : ∀ q : Nat, s.heap.size ≤ q → A q := fun q h => by rw [← hAe]; exact Or.inr h
  have hS : va_S A s.heap s.heap [] := va_S.rf
  have hL := hL0
  have hl := lv_entry ([.ref h0, .int xb, .int xu]) (n := 3) (Nat.le_of_ble_eq_true rfl)
  rw [lg_entry_eq]
  generalize (lg_sl ([.ref h0, .int xb, .int xu]) ++ List.replicate (3 - (lg_sl ([.ref h0, .int xb, .int xu])).length) Slot.unset).toArray = ls at hl ⊢
  have hl : lv_has ls 3 [(0, .ref h0), (1, .int xb), (2, .int xu)] := hl
  refine lv_aload_n hx hb dX7_stale_0 rfl (lv_at hl 0 rfl) ?_
  refine lv_iconst (v := 0) hx hb dX7_stale_1 (by decide) ?_
  refine va_put (D := (dC, dI)) (ci := 6) (v := .int 0) (ty := (.int)) (C := RX7) (T := TX7) (N := 46) hx hb hts hiX7 tyX7 tyX7_ok nmX7 hown hK hP hD hS 0 rfl rfl 0 (by decide) (hts (.fieldLink RX7 1 "LinkModelsModel" "thrown" "I") (by decide +kernel)) (fun _ h9 => h9) rfl (by decide +kernel) rfl rfl (Nat.le_of_ble_eq_true rfl) dX7_stale_2 (fun H locs hP hD hS => ?_)
  have hP : va_P (dC, dI) vwCl (rW h0 r cI cJ cZ 0 a1 (nI tp) (nI bs) (fun j => nI (cl j)) a5 a6 a7 (fun j => nI (fc j)) a9 (fun j => nI (mb j)) a11 a12 a13 a14 a15 a16 a17 a18 a19 a20 (nI az) v22 v23 v24 v25 v26 (nI bb) (fun j => nI (ct j)) (nI us) a30 a31 a32 a33 a34 a35 a36 a37 (fun j => nI (pil j)) (fun j => nI (rwv j)) (nI rl) v41 v42 v43 v44 v45) H := hP
  have hD : va_D A (rW h0 r cI cJ cZ 0 a1 (nI tp) (nI bs) (fun j => nI (cl j)) a5 a6 a7 (fun j => nI (fc j)) a9 (fun j => nI (mb j)) a11 a12 a13 a14 a15 a16 a17 a18 a19 a20 (nI az) v22 v23 v24 v25 v26 (nI bb) (fun j => nI (ct j)) (nI us) a30 a31 a32 a33 a34 a35 a36 a37 (fun j => nI (pil j)) (fun j => nI (rwv j)) (nI rl) v41 v42 v43 v44 v45) := hD
  refine lv_aload_n hx hb dX7_stale_5 rfl (lv_at hl 0 rfl) ?_
  refine lv_iload_n hx hb dX7_stale_6 rfl (lv_at hl 1 rfl) ?_
  have hFc := z_freeW hD hS hA
  refine vp_callSi (W.runV (As := [.int xb]) (rest := []) ⟨hx, hb, hml, hown, hts⟩ (kX7_isBuild l dC dI h0 r cI cJ cZ 0 a1 tp bs cl a5 a6 a7 fc a9 mb a11 a12 a13 a14 a15 a16 a17 a18 a19 a20 az v22 v23 v24 v25 v26 bb ct us a30 a31 a32 a33 a34 a35 a36 a37 pil rwv rl v41 v42 v43 v44 v45 ⟨by omega, by omega, by omega, hcl, hfc, hmb, hct, hpil, hrwv⟩ xb H.size) (cwV 1 hts zgX7_stale_X7_isBuild_248 rfl rfl rfl (by decide +kernel) ⟨(show 1 + 1 ≤ 5 by omega), (show 8 + (2 + 11) + 25 ≤ 130 by omega)⟩) (zVm (ci := 6) (q0 := 0) (q := (RX7, TX7, 46)) hK hP hD hL hS.2.1 hFc rfl rfl rfl) rfl rfl hl.1 rfl (lv_room (Nat.le_of_ble_eq_true rfl)) dX7_stale_7 ⟨(show 0 + 0 ≤ 0 by omega), (show 0 + 0 ≤ 0 by omega)⟩) (fun r1 hw => ?_)
  have hw : (r1 = 0 ∨ r1 = 1) ∧ (r1 = 1 → ∃ k, k < bs ∧ xb = nI k) := hw
  obtain ⟨w0r1, w1r1⟩ := hw
  refine lv_if_eq (tgt := 21) hx hb dX7_stale_10 (by decide) (fun cp10 => ?_) (fun cp10 => ?_)
  · refine lv_bipush (v := (-2)) hx hb dX7_stale_21 (by decide) ?_
    have hP9 : va_P (dC, dI) vwCl (rW h0 r cI cJ cZ 0 a1 (nI tp) (nI bs) (fun j => nI (cl j)) a5 a6 a7 (fun j => nI (fc j)) a9 (fun j => nI (mb j)) a11 a12 a13 a14 a15 a16 a17 a18 a19 a20 (nI az) v22 v23 v24 v25 v26 (nI bb) (fun j => nI (ct j)) (nI us) a30 a31 a32 a33 a34 a35 a36 a37 (fun j => nI (pil j)) (fun j => nI (rwv j)) (nI rl) v41 v42 v43 v44 v45) H := hP
    have hD9 : va_D A (rW h0 r cI cJ cZ 0 a1 (nI tp) (nI bs) (fun j => nI (cl j)) a5 a6 a7 (fun j => nI (fc j)) a9 (fun j => nI (mb j)) a11 a12 a13 a14 a15 a16 a17 a18 a19 a20 (nI az) v22 v23 v24 v25 v26 (nI bb) (fun j => nI (ct j)) (nI us) a30 a31 a32 a33 a34 a35 a36 a37 (fun j => nI (pil j)) (fun j => nI (rwv j)) (nI rl) v41 v42 v43 v44 v45) := hD
    exact W.iret (v := (-2 : Int32)) hx hb hr (fun t ht hW => ⟨⟨(-2 : Int32), (0, rl, pil, rwv, v43, v44, v45, v42), rfl, ⟨hpil, hrwv⟩, by rw [ht]; exact hP9, va_K.moved hW.alike hK, hD9⟩, hS.F ht⟩) hS.2.2 dX7_stale_23
  · obtain ⟨k2, hBk2, rfl⟩ := w1r1 (w0r1.resolve_left cp10)
    refine lv_aload_n hx hb dX7_stale_13 rfl (lv_at hl 0 rfl) ?_
    refine lv_iload_n hx hb dX7_stale_14 rfl (lv_at hl 2 rfl) ?_
    have hFc := z_freeW hD hS hA
    refine vp_callSi (W.runV (As := [.int xu]) (rest := []) ⟨hx, hb, hml, hown, hts⟩ (kX7_isUse l dC dI h0 r cI cJ cZ 0 a1 tp bs cl a5 a6 a7 fc a9 mb a11 a12 a13 a14 a15 a16 a17 a18 a19 a20 az v22 v23 v24 v25 v26 bb ct us a30 a31 a32 a33 a34 a35 a36 a37 pil rwv rl v41 v42 v43 v44 v45 ⟨by omega, by omega, by omega, hcl, hfc, hmb, hct, hpil, hrwv⟩ xu H.size) (cwV 1 hts zgX7_stale_X7_isUse_306 rfl rfl rfl (by decide +kernel) ⟨(show 1 + 1 ≤ 5 by omega), (show 8 + (2 + 11) + 25 ≤ 130 by omega)⟩) (zVm (ci := 6) (q0 := 0) (q := (RX7, TX7, 46)) hK hP hD hL hS.2.1 hFc rfl rfl rfl) rfl rfl hl.1 rfl (lv_room (Nat.le_of_ble_eq_true rfl)) dX7_stale_15 ⟨(show 0 + 0 ≤ 0 by omega), (show 0 + 0 ≤ 0 by omega)⟩) (fun r3 hw => ?_)
    have hw : (r3 = 0 ∨ r3 = 1) ∧ (r3 = 1 → ∃ k, k < us ∧ xu = nI k) := hw
    obtain ⟨w0r3, w1r3⟩ := hw
    refine lv_if_ne (tgt := 24) hx hb dX7_stale_18 (by decide) (fun cp18 => ?_) (fun cp18 => ?_)
    · obtain ⟨k4, hBk4, rfl⟩ := w1r3 (w0r3.resolve_left cp18)
      refine lv_aload_n hx hb dX7_stale_24 rfl (lv_at hl 0 rfl) ?_
      refine va_get (D := (dC, dI)) (ci := 6) (v := .ref (r 37)) (C := RX7) (T := TX7) (N := 46) hx hb hts hiX7 hown hK hP 0 rfl rfl 37 (by decide) (hts (.fieldLink RX7 94 "LinkModelsModel" "copy" "[I") (by decide +kernel)) (fun _ h9 => h9) rfl dX7_stale_25 ?_
      refine lv_iload_n hx hb dX7_stale_28 rfl (lv_at hl 2 rfl) ?_
      refine va_iald hx hb hK hP 27 0 rfl rfl (vp_in_nI (show k4 < 40 by omega) (by decide)) dX7_stale_29 ?_
      refine lv_topi (fun x5 ex5 => ?_)
      obtain rfl : x5 = a37 k4 := by rw [ex5, nI_clamp (show k4 < 2 ^ 31 by omega)]
      refine lv_iconst (v := (-1)) hx hb dX7_stale_30 (by decide) ?_
      refine lv_icmp_ne (tgt := 37) hx hb dX7_stale_31 (by decide) (fun cp31 => ?_) (fun cp31 => ?_)
      · refine lv_aload_n hx hb dX7_stale_37 rfl (lv_at hl 0 rfl) ?_
        refine lv_iload_n hx hb dX7_stale_38 rfl (lv_at hl 1 rfl) ?_
        refine lv_iload_n hx hb dX7_stale_39 rfl (lv_at hl 2 rfl) ?_
        have hFc := z_freeW hD hS hA
        refine va_calli (va_runV (As := [.int (nI k2), .int (nI k4)]) (rest := []) ⟨hx, hb, hml, hown, hts⟩ (kX7_links l dC dI h0 r cI cJ cZ 0 a1 tp bs cl a5 a6 a7 fc a9 mb a11 a12 a13 a14 a15 a16 a17 a18 a19 a20 az v22 v23 v24 v25 v26 bb ct us a30 a31 a32 a33 a34 a35 a36 a37 pil rwv rl v41 v42 v43 v44 v45 ⟨by omega, by omega, by omega, hcl, hfc, hmb, hct, hpil, hrwv⟩ k2 k4 (by first | omega | assumption | trivial) (by first | omega | assumption | trivial) (by exact hp0) H.size) (cwV 2 hts zgX7_stale_X7_links_309 rfl rfl rfl (by decide +kernel) ⟨(show 4 + 1 ≤ 5 by omega), (show 8 + (9 + 11) + 102 ≤ 130 by omega)⟩) (zVm (ci := 6) (q0 := 0) (q := (RX7, TX7, 46)) hK hP hD hL hS.2.1 hFc rfl rfl rfl) rfl rfl hl.1 rfl (lv_room (Nat.le_of_ble_eq_true rfl)) dX7_stale_40 ⟨(show 0 + 0 ≤ 0 by omega), (show 0 + 0 ≤ 0 by omega)⟩) hS (fun q _ h => hFc q h) hFc (fun r6 u14 t H1 locs ht hvm hw hB hz1 hk1 hS => ?_)
        obtain ⟨o7, o8, o9, o10, o11, o12, o13⟩ := u14
        obtain ⟨hP, hK9, hD⟩ := hB
        rw [ht] at hP
        have hD := hD.weaken (fun k q _ h => hFc q.1 h)
        generalize H1 = H at hP hS
        have hP : va_P (dC, dI) vwCl (rW h0 r cI cJ cZ 0 a1 (nI tp) (nI bs) (fun j => nI (cl j)) a5 a6 a7 (fun j => nI (fc j)) a9 (fun j => nI (mb j)) a11 a12 a13 a14 a15 a16 a17 a18 a19 a20 (nI az) v22 v23 v24 v25 v26 (nI bb) (fun j => nI (ct j)) (nI us) a30 a31 a32 a33 a34 a35 a36 a37 (fun j => nI (o8 j)) (fun j => nI (o9 j)) (nI o7) v41 o13 o10 o11 o12) H := hP
        have hD : va_D A (rW h0 r cI cJ cZ 0 a1 (nI tp) (nI bs) (fun j => nI (cl j)) a5 a6 a7 (fun j => nI (fc j)) a9 (fun j => nI (mb j)) a11 a12 a13 a14 a15 a16 a17 a18 a19 a20 (nI az) v22 v23 v24 v25 v26 (nI bb) (fun j => nI (ct j)) (nI us) a30 a31 a32 a33 a34 a35 a36 a37 (fun j => nI (o8 j)) (fun j => nI (o9 j)) (nI o7) v41 o13 o10 o11 o12) := hD
        have hw : (zM o13 (fun k => k < 960)) ∧ (0 < r6 ∨ 7 < a30 k4 ∨ ∃ k, k < 960 ∧ o13 = nI k) ∧ (7 < a30 k4 → o13 = -1) ∧ (∀ j, o8 j ≤ 15) ∧ (∀ j, o9 j ≤ 15) := hw
        obtain ⟨w0r6, w1r6, w2r6, hbo8, hbo9⟩ := hw
        refine lv_if_ne (tgt := 80) hx hb dX7_stale_43 (by decide) (fun cp43 => ?_) (fun cp43 => ?_)
        · refine lv_iconst (v := 1) hx hb dX7_stale_80 (by decide) ?_
          have hP9 : va_P (dC, dI) vwCl (rW h0 r cI cJ cZ 0 a1 (nI tp) (nI bs) (fun j => nI (cl j)) a5 a6 a7 (fun j => nI (fc j)) a9 (fun j => nI (mb j)) a11 a12 a13 a14 a15 a16 a17 a18 a19 a20 (nI az) v22 v23 v24 v25 v26 (nI bb) (fun j => nI (ct j)) (nI us) a30 a31 a32 a33 a34 a35 a36 a37 (fun j => nI (o8 j)) (fun j => nI (o9 j)) (nI o7) v41 o13 o10 o11 o12) H := hP
          have hD9 : va_D A (rW h0 r cI cJ cZ 0 a1 (nI tp) (nI bs) (fun j => nI (cl j)) a5 a6 a7 (fun j => nI (fc j)) a9 (fun j => nI (mb j)) a11 a12 a13 a14 a15 a16 a17 a18 a19 a20 (nI az) v22 v23 v24 v25 v26 (nI bb) (fun j => nI (ct j)) (nI us) a30 a31 a32 a33 a34 a35 a36 a37 (fun j => nI (o8 j)) (fun j => nI (o9 j)) (nI o7) v41 o13 o10 o11 o12) := hD
          exact W.iret (v := (1 : Int32)) hx hb hr (fun t ht hW => ⟨⟨(1 : Int32), (0, o7, o8, o9, o10, o11, o12, o13), rfl, ⟨hbo8, hbo9⟩, by rw [ht]; exact hP9, va_K.moved hW.alike hK, hD9⟩, hS.F ht⟩) hS.2.2 dX7_stale_81
        · have hk2 := (hp1 k4 (by omega)).resolve_left cp31
          obtain ⟨l9, hl9, rfl⟩ := (w1r6.resolve_left (fun h9 => by rw [cp43] at h9; exact absurd h9 (by decide))).resolve_left (fun h9 => by rw [hk2] at h9; exact absurd h9 (by decide))
          refine lv_aload_n hx hb dX7_stale_46 rfl (lv_at hl 0 rfl) ?_
          refine va_get (D := (dC, dI)) (ci := 6) (v := .ref (r 16)) (C := RX7) (T := TX7) (N := 46) hx hb hts hiX7 hown hK hP 0 rfl rfl 16 (by decide) (hts (.fieldLink RX7 55 "LinkModelsModel" "isConstant" "[Z") (by decide +kernel)) (fun _ h9 => h9) rfl dX7_stale_47 ?_
          refine lv_aload_n hx hb dX7_stale_50 rfl (lv_at hl 0 rfl) ?_
          refine va_get (D := (dC, dI)) (ci := 6) (v := .int (nI l9)) (C := RX7) (T := TX7) (N := 46) hx hb hts hiX7 hown hK hP 0 rfl rfl 42 (by decide) (hts (.fieldLink RX7 296 "LinkModelsModel" "linked" "I") (by decide +kernel)) (fun _ h9 => h9) rfl dX7_stale_51 ?_
          refine va_zald hx hb hK hP 14 2 rfl rfl (vp_in_nI (show l9 < 960 by omega) (by decide)) dX7_stale_54 ?_
          refine lv_topi (fun x15 ex15 => ?_)
          obtain rfl : x15 = a16 l9 := by rw [ex15, nI_clamp (show l9 < 2 ^ 31 by omega)]
          refine lv_if_eq (tgt := 80) hx hb dX7_stale_55 (by decide) (fun cp55 => ?_) (fun cp55 => ?_)
          · refine lv_iconst (v := 1) hx hb dX7_stale_80 (by decide) ?_
            have hP9 : va_P (dC, dI) vwCl (rW h0 r cI cJ cZ 0 a1 (nI tp) (nI bs) (fun j => nI (cl j)) a5 a6 a7 (fun j => nI (fc j)) a9 (fun j => nI (mb j)) a11 a12 a13 a14 a15 a16 a17 a18 a19 a20 (nI az) v22 v23 v24 v25 v26 (nI bb) (fun j => nI (ct j)) (nI us) a30 a31 a32 a33 a34 a35 a36 a37 (fun j => nI (o8 j)) (fun j => nI (o9 j)) (nI o7) v41 (nI l9) o10 o11 o12) H := hP
            have hD9 : va_D A (rW h0 r cI cJ cZ 0 a1 (nI tp) (nI bs) (fun j => nI (cl j)) a5 a6 a7 (fun j => nI (fc j)) a9 (fun j => nI (mb j)) a11 a12 a13 a14 a15 a16 a17 a18 a19 a20 (nI az) v22 v23 v24 v25 v26 (nI bb) (fun j => nI (ct j)) (nI us) a30 a31 a32 a33 a34 a35 a36 a37 (fun j => nI (o8 j)) (fun j => nI (o9 j)) (nI o7) v41 (nI l9) o10 o11 o12) := hD
            exact W.iret (v := (1 : Int32)) hx hb hr (fun t ht hW => ⟨⟨(1 : Int32), (0, o7, o8, o9, o10, o11, o12, (nI l9)), rfl, ⟨hbo8, hbo9⟩, by rw [ht]; exact hP9, va_K.moved hW.alike hK, hD9⟩, hS.F ht⟩) hS.2.2 dX7_stale_81
          · refine lv_aload_n hx hb dX7_stale_58 rfl (lv_at hl 0 rfl) ?_
            refine va_get (D := (dC, dI)) (ci := 6) (v := .ref (r 17)) (C := RX7) (T := TX7) (N := 46) hx hb hts hiX7 hown hK hP 0 rfl rfl 17 (by decide) (hts (.fieldLink RX7 58 "LinkModelsModel" "number" "[I") (by decide +kernel)) (fun _ h9 => h9) rfl dX7_stale_59 ?_
            refine lv_aload_n hx hb dX7_stale_62 rfl (lv_at hl 0 rfl) ?_
            refine va_get (D := (dC, dI)) (ci := 6) (v := .int (nI l9)) (C := RX7) (T := TX7) (N := 46) hx hb hts hiX7 hown hK hP 0 rfl rfl 42 (by decide) (hts (.fieldLink RX7 296 "LinkModelsModel" "linked" "I") (by decide +kernel)) (fun _ h9 => h9) rfl dX7_stale_63 ?_
            refine va_iald hx hb hK hP 15 0 rfl rfl (vp_in_nI (show l9 < 960 by omega) (by decide)) dX7_stale_66 ?_
            refine lv_topi (fun x16 ex16 => ?_)
            obtain rfl : x16 = a17 l9 := by rw [ex16, nI_clamp (show l9 < 2 ^ 31 by omega)]
            refine lv_aload_n hx hb dX7_stale_67 rfl (lv_at hl 0 rfl) ?_
            refine va_get (D := (dC, dI)) (ci := 6) (v := .ref (r 37)) (C := RX7) (T := TX7) (N := 46) hx hb hts hiX7 hown hK hP 0 rfl rfl 37 (by decide) (hts (.fieldLink RX7 94 "LinkModelsModel" "copy" "[I") (by decide +kernel)) (fun _ h9 => h9) rfl dX7_stale_68 ?_
            refine lv_iload_n hx hb dX7_stale_71 rfl (lv_at hl 2 rfl) ?_
            refine va_iald hx hb hK hP 27 0 rfl rfl (vp_in_nI (show k4 < 40 by omega) (by decide)) dX7_stale_72 ?_
            refine lv_topi (fun x17 ex17 => ?_)
            obtain rfl : x17 = a37 k4 := by rw [ex17, nI_clamp (show k4 < 2 ^ 31 by omega)]
            refine lv_icmp_ne (tgt := 80) hx hb dX7_stale_73 (by decide) (fun cp73 => ?_) (fun cp73 => ?_)
            · refine lv_iconst (v := 1) hx hb dX7_stale_80 (by decide) ?_
              have hP9 : va_P (dC, dI) vwCl (rW h0 r cI cJ cZ 0 a1 (nI tp) (nI bs) (fun j => nI (cl j)) a5 a6 a7 (fun j => nI (fc j)) a9 (fun j => nI (mb j)) a11 a12 a13 a14 a15 a16 a17 a18 a19 a20 (nI az) v22 v23 v24 v25 v26 (nI bb) (fun j => nI (ct j)) (nI us) a30 a31 a32 a33 a34 a35 a36 a37 (fun j => nI (o8 j)) (fun j => nI (o9 j)) (nI o7) v41 (nI l9) o10 o11 o12) H := hP
              have hD9 : va_D A (rW h0 r cI cJ cZ 0 a1 (nI tp) (nI bs) (fun j => nI (cl j)) a5 a6 a7 (fun j => nI (fc j)) a9 (fun j => nI (mb j)) a11 a12 a13 a14 a15 a16 a17 a18 a19 a20 (nI az) v22 v23 v24 v25 v26 (nI bb) (fun j => nI (ct j)) (nI us) a30 a31 a32 a33 a34 a35 a36 a37 (fun j => nI (o8 j)) (fun j => nI (o9 j)) (nI o7) v41 (nI l9) o10 o11 o12) := hD
              exact W.iret (v := (1 : Int32)) hx hb hr (fun t ht hW => ⟨⟨(1 : Int32), (0, o7, o8, o9, o10, o11, o12, (nI l9)), rfl, ⟨hbo8, hbo9⟩, by rw [ht]; exact hP9, va_K.moved hW.alike hK, hD9⟩, hS.F ht⟩) hS.2.2 dX7_stale_81
            · refine lv_iconst (v := 0) hx hb dX7_stale_76 (by decide) ?_
              refine lv_goto (tgt := 81) hx hb dX7_stale_77 (by decide) ?_
              have hP9 : va_P (dC, dI) vwCl (rW h0 r cI cJ cZ 0 a1 (nI tp) (nI bs) (fun j => nI (cl j)) a5 a6 a7 (fun j => nI (fc j)) a9 (fun j => nI (mb j)) a11 a12 a13 a14 a15 a16 a17 a18 a19 a20 (nI az) v22 v23 v24 v25 v26 (nI bb) (fun j => nI (ct j)) (nI us) a30 a31 a32 a33 a34 a35 a36 a37 (fun j => nI (o8 j)) (fun j => nI (o9 j)) (nI o7) v41 (nI l9) o10 o11 o12) H := hP
              have hD9 : va_D A (rW h0 r cI cJ cZ 0 a1 (nI tp) (nI bs) (fun j => nI (cl j)) a5 a6 a7 (fun j => nI (fc j)) a9 (fun j => nI (mb j)) a11 a12 a13 a14 a15 a16 a17 a18 a19 a20 (nI az) v22 v23 v24 v25 v26 (nI bb) (fun j => nI (ct j)) (nI us) a30 a31 a32 a33 a34 a35 a36 a37 (fun j => nI (o8 j)) (fun j => nI (o9 j)) (nI o7) v41 (nI l9) o10 o11 o12) := hD
              exact W.iret (v := (0 : Int32)) hx hb hr (fun t ht hW => ⟨⟨(0 : Int32), (0, o7, o8, o9, o10, o11, o12, (nI l9)), rfl, ⟨hbo8, hbo9⟩, by rw [ht]; exact hP9, va_K.moved hW.alike hK, hD9⟩, hS.F ht⟩) hS.2.2 dX7_stale_81
      · refine lv_bipush (v := (-4)) hx hb dX7_stale_34 (by decide) ?_
        have hP9 : va_P (dC, dI) vwCl (rW h0 r cI cJ cZ 0 a1 (nI tp) (nI bs) (fun j => nI (cl j)) a5 a6 a7 (fun j => nI (fc j)) a9 (fun j => nI (mb j)) a11 a12 a13 a14 a15 a16 a17 a18 a19 a20 (nI az) v22 v23 v24 v25 v26 (nI bb) (fun j => nI (ct j)) (nI us) a30 a31 a32 a33 a34 a35 a36 a37 (fun j => nI (pil j)) (fun j => nI (rwv j)) (nI rl) v41 v42 v43 v44 v45) H := hP
        have hD9 : va_D A (rW h0 r cI cJ cZ 0 a1 (nI tp) (nI bs) (fun j => nI (cl j)) a5 a6 a7 (fun j => nI (fc j)) a9 (fun j => nI (mb j)) a11 a12 a13 a14 a15 a16 a17 a18 a19 a20 (nI az) v22 v23 v24 v25 v26 (nI bb) (fun j => nI (ct j)) (nI us) a30 a31 a32 a33 a34 a35 a36 a37 (fun j => nI (pil j)) (fun j => nI (rwv j)) (nI rl) v41 v42 v43 v44 v45) := hD
        exact W.iret (v := (-4 : Int32)) hx hb hr (fun t ht hW => ⟨⟨(-4 : Int32), (0, rl, pil, rwv, v43, v44, v45, v42), rfl, ⟨hpil, hrwv⟩, by rw [ht]; exact hP9, va_K.moved hW.alike hK, hD9⟩, hS.F ht⟩) hS.2.2 dX7_stale_36
    · refine lv_bipush (v := (-2)) hx hb dX7_stale_21 (by decide) ?_
      have hP9 : va_P (dC, dI) vwCl (rW h0 r cI cJ cZ 0 a1 (nI tp) (nI bs) (fun j => nI (cl j)) a5 a6 a7 (fun j => nI (fc j)) a9 (fun j => nI (mb j)) a11 a12 a13 a14 a15 a16 a17 a18 a19 a20 (nI az) v22 v23 v24 v25 v26 (nI bb) (fun j => nI (ct j)) (nI us) a30 a31 a32 a33 a34 a35 a36 a37 (fun j => nI (pil j)) (fun j => nI (rwv j)) (nI rl) v41 v42 v43 v44 v45) H := hP
      have hD9 : va_D A (rW h0 r cI cJ cZ 0 a1 (nI tp) (nI bs) (fun j => nI (cl j)) a5 a6 a7 (fun j => nI (fc j)) a9 (fun j => nI (mb j)) a11 a12 a13 a14 a15 a16 a17 a18 a19 a20 (nI az) v22 v23 v24 v25 v26 (nI bb) (fun j => nI (ct j)) (nI us) a30 a31 a32 a33 a34 a35 a36 a37 (fun j => nI (pil j)) (fun j => nI (rwv j)) (nI rl) v41 v42 v43 v44 v45) := hD
      exact W.iret (v := (-2 : Int32)) hx hb hr (fun t ht hW => ⟨⟨(-2 : Int32), (0, rl, pil, rwv, v43, v44, v45, v42), rfl, ⟨hpil, hrwv⟩, by rw [ht]; exact hP9, va_K.moved hW.alike hK, hD9⟩, hS.F ht⟩) hS.2.2 dX7_stale_23
theorem dX7_areApart_0 : decode cX7_areApart 0 = .ok (.aload_n 0, 1) := by decide +kernel
theorem dX7_areApart_1 : decode cX7_areApart 1 = .ok (.iload_n 1, 1) := by decide +kernel
theorem dX7_areApart_2 : decode cX7_areApart 2 = .ok (.iload_n 3, 1) := by decide +kernel
theorem dX7_areApart_3 : decode cX7_areApart 3 = .ok (.invokevirtual 309, 3) := by decide +kernel
theorem dX7_areApart_6 : decode cX7_areApart 6 = .ok (.istore 4, 2) := by decide +kernel
theorem dX7_areApart_8 : decode cX7_areApart 8 = .ok (.aload_n 0, 1) := by decide +kernel
theorem dX7_areApart_9 : decode cX7_areApart 9 = .ok (.getfield 296, 3) := by decide +kernel
theorem dX7_areApart_12 : decode cX7_areApart 12 = .ok (.istore 5, 2) := by decide +kernel
theorem dX7_areApart_14 : decode cX7_areApart 14 = .ok (.aload_n 0, 1) := by decide +kernel
theorem dX7_areApart_15 : decode cX7_areApart 15 = .ok (.iload_n 2, 1) := by decide +kernel
theorem dX7_areApart_16 : decode cX7_areApart 16 = .ok (.iload_n 3, 1) := by decide +kernel
theorem dX7_areApart_17 : decode cX7_areApart 17 = .ok (.invokevirtual 309, 3) := by decide +kernel
theorem dX7_areApart_20 : decode cX7_areApart 20 = .ok (.istore 6, 2) := by decide +kernel
theorem dX7_areApart_22 : decode cX7_areApart 22 = .ok (.iload 4, 2) := by decide +kernel
theorem dX7_areApart_24 : decode cX7_areApart 24 = .ok (.iload 6, 2) := by decide +kernel
theorem dX7_areApart_26 : decode cX7_areApart 26 = .ok (.if_icmp .ne 15, 3) := by decide +kernel
theorem dX7_areApart_29 : decode cX7_areApart 29 = .ok (.iload 4, 2) := by decide +kernel
theorem dX7_areApart_31 : decode cX7_areApart 31 = .ok (.ifCond .gt 10, 3) := by decide +kernel
theorem dX7_areApart_34 : decode cX7_areApart 34 = .ok (.aload_n 0, 1) := by decide +kernel
theorem dX7_areApart_35 : decode cX7_areApart 35 = .ok (.getfield 296, 3) := by decide +kernel
theorem dX7_areApart_38 : decode cX7_areApart 38 = .ok (.ifCond .ge 16, 3) := by decide +kernel
theorem dX7_areApart_41 : decode cX7_areApart 41 = .ok (.iload 4, 2) := by decide +kernel
theorem dX7_areApart_43 : decode cX7_areApart 43 = .ok (.iload 6, 2) := by decide +kernel
theorem dX7_areApart_45 : decode cX7_areApart 45 = .ok (.if_icmp .eq 7, 3) := by decide +kernel
theorem dX7_areApart_48 : decode cX7_areApart 48 = .ok (.iconst 1, 1) := by decide +kernel
theorem dX7_areApart_49 : decode cX7_areApart 49 = .ok (.goto 4, 3) := by decide +kernel
theorem dX7_areApart_52 : decode cX7_areApart 52 = .ok (.iconst 0, 1) := by decide +kernel
theorem dX7_areApart_53 : decode cX7_areApart 53 = .ok (.ireturn, 1) := by decide +kernel
theorem dX7_areApart_54 : decode cX7_areApart 54 = .ok (.aload_n 0, 1) := by decide +kernel
theorem dX7_areApart_55 : decode cX7_areApart 55 = .ok (.getfield 20, 3) := by decide +kernel
theorem dX7_areApart_58 : decode cX7_areApart 58 = .ok (.iload 5, 2) := by decide +kernel
theorem dX7_areApart_60 : decode cX7_areApart 60 = .ok (.bipush 12, 2) := by decide +kernel
theorem dX7_areApart_62 : decode cX7_areApart 62 = .ok (.idiv, 1) := by decide +kernel
theorem dX7_areApart_63 : decode cX7_areApart 63 = .ok (.iaload, 1) := by decide +kernel
theorem dX7_areApart_64 : decode cX7_areApart 64 = .ok (.aload_n 0, 1) := by decide +kernel
theorem dX7_areApart_65 : decode cX7_areApart 65 = .ok (.getfield 20, 3) := by decide +kernel
theorem dX7_areApart_68 : decode cX7_areApart 68 = .ok (.aload_n 0, 1) := by decide +kernel
theorem dX7_areApart_69 : decode cX7_areApart 69 = .ok (.getfield 296, 3) := by decide +kernel
theorem dX7_areApart_72 : decode cX7_areApart 72 = .ok (.bipush 12, 2) := by decide +kernel
theorem dX7_areApart_74 : decode cX7_areApart 74 = .ok (.idiv, 1) := by decide +kernel
theorem dX7_areApart_75 : decode cX7_areApart 75 = .ok (.iaload, 1) := by decide +kernel
theorem dX7_areApart_76 : decode cX7_areApart 76 = .ok (.if_icmp .ne 18, 3) := by decide +kernel
theorem dX7_areApart_79 : decode cX7_areApart 79 = .ok (.iload 5, 2) := by decide +kernel
theorem dX7_areApart_81 : decode cX7_areApart 81 = .ok (.bipush 12, 2) := by decide +kernel
theorem dX7_areApart_83 : decode cX7_areApart 83 = .ok (.irem, 1) := by decide +kernel
theorem dX7_areApart_84 : decode cX7_areApart 84 = .ok (.aload_n 0, 1) := by decide +kernel
theorem dX7_areApart_85 : decode cX7_areApart 85 = .ok (.getfield 296, 3) := by decide +kernel
theorem dX7_areApart_88 : decode cX7_areApart 88 = .ok (.bipush 12, 2) := by decide +kernel
theorem dX7_areApart_90 : decode cX7_areApart 90 = .ok (.irem, 1) := by decide +kernel
theorem dX7_areApart_91 : decode cX7_areApart 91 = .ok (.if_icmp .eq 7, 3) := by decide +kernel
theorem dX7_areApart_94 : decode cX7_areApart 94 = .ok (.iconst 1, 1) := by decide +kernel
theorem dX7_areApart_95 : decode cX7_areApart 95 = .ok (.goto 4, 3) := by decide +kernel
theorem dX7_areApart_98 : decode cX7_areApart 98 = .ok (.iconst 0, 1) := by decide +kernel
theorem dX7_areApart_99 : decode cX7_areApart 99 = .ok (.ireturn, 1) := by decide +kernel
def zwX7_areApart : List Cond := .code yX7_areApart cX7_areApart 7 (some .boolean) :: ([.fieldLink RX7 296 "LinkModelsModel" "linked" "I", .fieldLink RX7 20 "LinkModelsModel" "className" "[I", .methodLink RX7 309 yX7_links, .instanceMethod yX7_links, .selects RX7 yX7_links yX7_links, .initialized RX7, .code yX7_links cX7_links 9 (some .int), .fieldLink RX7 76 "LinkModelsModel" "caller" "[I", .fieldLink RX7 79 "LinkModelsModel" "owner" "[I", .fieldLink RX7 73 "LinkModelsModel" "useKind" "[I", .fieldLink RX7 23 "LinkModelsModel" "sort" "[I", .fieldLink RX7 48 "LinkModelsModel" "marks" "[I", .methodLink RX7 251 yX7_errorOf, .instanceMethod yX7_errorOf, .selects RX7 yX7_errorOf yX7_errorOf, .code yX7_errorOf cX7_errorOf 4 (some .int), .fieldLink RX7 38 "LinkModelsModel" "error" "[I", .methodLink RX7 201 yX7_place, .instanceMethod yX7_place, .selects RX7 yX7_place yX7_place, .code yX7_place cX7_place 4 (some .int), .fieldLink RX7 17 "LinkModelsModel" "classes" "[I", .methodLink RX7 303 yX7_findMethod, .instanceMethod yX7_findMethod, .selects RX7 yX7_findMethod yX7_findMethod, .code yX7_findMethod cX7_findMethod 6 (some .int), .fieldLink RX7 279 "LinkModelsModel" "bodies" "I", .fieldLink RX7 285 "LinkModelsModel" "firstOne" "I", .fieldLink RX7 282 "LinkModelsModel" "bodied" "I", .methodLink RX7 292 yX7_findFaces, .instanceMethod yX7_findFaces, .selects RX7 yX7_findFaces yX7_findFaces, .code yX7_findFaces cX7_findFaces 8 none, .fieldLink RX7 266 "LinkModelsModel" "rowLong" "I", .fieldLink RX7 100 "LinkModelsModel" "row" "[I", .methodLink RX7 288 yX7_methodIn, .instanceMethod yX7_methodIn, .selects RX7 yX7_methodIn yX7_methodIn, .code yX7_methodIn cX7_methodIn 6 (some .int), .fieldLink RX7 51 "LinkModelsModel" "isMethod" "[Z", .fieldLink RX7 44 "LinkModelsModel" "word" "[J", .fieldLink RX7 82 "LinkModelsModel" "useWord" "[J", .fieldLink RX7 35 "LinkModelsModel" "members" "[I", .fieldLink RX7 61 "LinkModelsModel" "many" "[I", .fieldLink RX7 85 "LinkModelsModel" "useMany" "[I", .fieldLink RX7 67 "LinkModelsModel" "second" "[I", .fieldLink RX7 91 "LinkModelsModel" "useSecond" "[I", .fieldLink RX7 64 "LinkModelsModel" "first" "[I", .fieldLink RX7 88 "LinkModelsModel" "useFirst" "[I", .methodLink RX7 256 yX7_isOf, .instanceMethod yX7_isOf, .selects RX7 yX7_isOf yX7_isOf, .code yX7_isOf cX7_isOf 4 (some .boolean), .fieldLink RX7 41 "LinkModelsModel" "ofAll" "[I", .methodLink RX7 272 yX7_faceRow, .instanceMethod yX7_faceRow, .selects RX7 yX7_faceRow yX7_faceRow, .code yX7_faceRow cX7_faceRow 8 none, .fieldLink RX7 97 "LinkModelsModel" "pile" "[I", .fieldLink RX7 32 "LinkModelsModel" "face" "[I", .fieldLink RX7 29 "LinkModelsModel" "faces" "[I", .methodLink RX7 276 yX7_aboveOf, .instanceMethod yX7_aboveOf, .selects RX7 yX7_aboveOf yX7_aboveOf, .code yX7_aboveOf cX7_aboveOf 3 (some .int), .fieldLink RX7 26 "LinkModelsModel" "above" "[I", .methodLink RX7 299 yX7_findField, .instanceMethod yX7_findField, .selects RX7 yX7_findField yX7_findField, .code yX7_findField cX7_findField 7 (some .int), .methodLink RX7 269 yX7_fieldIn, .instanceMethod yX7_fieldIn, .selects RX7 yX7_fieldIn yX7_fieldIn, .code yX7_fieldIn cX7_fieldIn 4 (some .int)] ++ wsX70)
theorem zgX7_areApart_X7_links_309 : GoodIn zwX7_areApart (wsV RX7 309 RX7 yX7_links zwX7_links) := goodIn_app (goodIn_r _ [3, 4, 5, 6] rfl (by decide +kernel)) (goodIn_ca (goodIn_r _ [7, 1, 8, 9, 10, 11, 12, 13, 14, 15, 6, 16, 17, 18, 19, 20, 21, 22, 2, 23, 24, 25, 26, 27, 28, 29, 30, 31, 32, 33, 34, 35, 36, 37, 38, 39, 40, 41, 42, 43, 44, 45, 46, 47, 48, 49, 50, 51, 52, 53, 54, 55, 56, 57, 58, 59, 60, 61, 62, 63, 64, 65, 66, 67, 68, 69, 70, 71, 72, 73, 74] rfl (by decide +kernel)) (zgt zg7))
set_option maxHeartbeats 4000000 in
set_option maxRecDepth 100000 in
theorem kX7_areApart (l : Launch) (dC : Nat → ClassId) (dI : Nat → Nat → Nat) (h0 : Nat) (r : Nat → Nat) (cI : ClassId) (cJ : ClassId) (cZ : ClassId) (v0 : Int32) (a1 : Nat → Int32) (tp : Nat) (bs : Nat) (cl : Nat → Nat) (a5 : Nat → Int32) (a6 : Nat → Int32) (a7 : Nat → Int32) (fc : Nat → Nat) (a9 : Nat → Int32) (mb : Nat → Nat) (a11 : Nat → Int32) (a12 : Nat → Int32) (a13 : Nat → Int64) (a14 : Nat → Int32) (a15 : Nat → Int32) (a16 : Nat → Int32) (a17 : Nat → Int32) (a18 : Nat → Int32) (a19 : Nat → Int32) (a20 : Nat → Int32) (az : Nat) (v22 : Int32) (v23 : Int32) (v24 : Int64) (v25 : Int32) (v26 : Int32) (bb : Nat) (ct : Nat → Nat) (us : Nat) (a30 : Nat → Int32) (a31 : Nat → Int32) (a32 : Nat → Int32) (a33 : Nat → Int64) (a34 : Nat → Int32) (a35 : Nat → Int32) (a36 : Nat → Int32) (a37 : Nat → Int32) (pil : Nat → Nat) (rwv : Nat → Nat) (rl : Nat) (v41 : Int32) (v42 : Int32) (v43 : Int32) (v44 : Int32) (v45 : Int32) (hI : rWI tp bs cl fc mb az bb ct us pil rwv rl) (bd : Nat) (be : Nat) (uu : Nat) (hp0 : bd < bs) (hp1 : be < bs) (hp2 : uu < us) (hp3 : ∀ bd, bd < bs → zOK cl a5 a7 fc a9 a11 bd) (sz : Nat) : Met l yX7_areApart zwX7_areApart ({ frames := 5, cells := 0, slots := 0, locals := 130 }) (zPm dC dI [.ref h0, .int (nI bd), .int (nI be), .int (nI uu)] sz (rW h0 r cI cJ cZ v0 a1 (nI tp) (nI bs) (fun j => nI (cl j)) a5 a6 a7 (fun j => nI (fc j)) a9 (fun j => nI (mb j)) a11 a12 a13 a14 a15 a16 a17 a18 a19 a20 (nI az) v22 v23 v24 v25 v26 (nI bb) (fun j => nI (ct j)) (nI us) a30 a31 a32 a33 a34 a35 a36 a37 (fun j => nI (pil j)) (fun j => nI (rwv j)) (nI rl) v41 v42 v43 v44 v45) [(cI, .int), (cJ, .long), (cZ, .boolean)]) (va_Qi (fun (r : Int32) (u : Nat × (Nat → Nat) × (Nat → Nat) × Int32 × Int32 × Int32 × Int32) => (r = 0 ∨ r = 1) ∧ (∀ j, (u.2.1) j ≤ 15) ∧ (∀ j, (u.2.2.1) j ≤ 15)) (fun u t => zB dC dI (va_A (rW h0 r cI cJ cZ v0 a1 (nI tp) (nI bs) (fun j => nI (cl j)) a5 a6 a7 (fun j => nI (fc j)) a9 (fun j => nI (mb j)) a11 a12 a13 a14 a15 a16 a17 a18 a19 a20 (nI az) v22 v23 v24 v25 v26 (nI bb) (fun j => nI (ct j)) (nI us) a30 a31 a32 a33 a34 a35 a36 a37 (fun j => nI (pil j)) (fun j => nI (rwv j)) (nI rl) v41 v42 v43 v44 v45) sz) (rW h0 r cI cJ cZ v0 a1 (nI tp) (nI bs) (fun j => nI (cl j)) a5 a6 a7 (fun j => nI (fc j)) a9 (fun j => nI (mb j)) a11 a12 a13 a14 a15 a16 a17 a18 a19 a20 (nI az) v22 v23 v24 v25 v26 (nI bb) (fun j => nI (ct j)) (nI us) a30 a31 a32 a33 a34 a35 a36 a37 (fun j => nI ((u.2.1) j)) (fun j => nI ((u.2.2.1) j)) (nI (u.1)) v41 (u.2.2.2.2.2.2) (u.2.2.2.1) (u.2.2.2.2.1) (u.2.2.2.2.2.1)) [(cI, .int), (cJ, .long), (cZ, .boolean)] t) (va_A (rW h0 r cI cJ cZ v0 a1 (nI tp) (nI bs) (fun j => nI (cl j)) a5 a6 a7 (fun j => nI (fc j)) a9 (fun j => nI (mb j)) a11 a12 a13 a14 a15 a16 a17 a18 a19 a20 (nI az) v22 v23 v24 v25 v26 (nI bb) (fun j => nI (ct j)) (nI us) a30 a31 a32 a33 a34 a35 a36 a37 (fun j => nI (pil j)) (fun j => nI (rwv j)) (nI rl) v41 v42 v43 v44 v45) sz)) 0 0 (va_A (rW h0 r cI cJ cZ v0 a1 (nI tp) (nI bs) (fun j => nI (cl j)) a5 a6 a7 (fun j => nI (fc j)) a9 (fun j => nI (mb j)) a11 a12 a13 a14 a15 a16 a17 a18 a19 a20 (nI az) v22 v23 v24 v25 v26 (nI bb) (fun j => nI (ct j)) (nI us) a30 a31 a32 a33 a34 a35 a36 a37 (fun j => nI (pil j)) (fun j => nI (rwv j)) (nI rl) v41 v42 v43 v44 v45) sz) := by
  refine Met.ofW (cc := cX7_areApart) (maxL := 7) (ret := (some .boolean)) (by decide) rfl ?_
  intro p e s m args below meth c s₁ B hml hv
  obtain ⟨rfl, hsz, hP, hK, hD0, hL0⟩ := hv
  have hx := B.exec
  have hb := B.bytes
  have hr := B.returns
  have hts := atoms_spec (ws := zwX7_areApart) B.pre
  have hown : s.vm.findClass RX7 = some m.cls := findClass_of_methodNamed B.named
  have hiX7 : ∀ w ∈ wsX70, w ∈ zwX7_areApart := (fun _ h => List.mem_cons_of_mem _ (List.mem_append_right _ h))
  obtain ⟨htp, hbs, hus, hcl, hfc, hmb, hct, hpil, hrwv⟩ := hI
  subst hsz
  have hD := hD0.self (sz := s.heap.size)
  generalize hAe : va_A (rW h0 r cI cJ cZ v0 a1 (nI tp) (nI bs) (fun j => nI (cl j)) a5 a6 a7 (fun j => nI (fc j)) a9 (fun j => nI (mb j)) a11 a12 a13 a14 a15 a16 a17 a18 a19 a20 (nI az) v22 v23 v24 v25 v26 (nI bb) (fun j => nI (ct j)) (nI us) a30 a31 a32 a33 a34 a35 a36 a37 (fun j => nI (pil j)) (fun j => nI (rwv j)) (nI rl) v41 v42 v43 v44 v45) s.heap.size = A at hD hL0 ⊢
  have hA : ∀ q : Nat, s.heap.size ≤ q → A q := fun q h => by rw [← hAe]; exact Or.inr h
  have hS : va_S A s.heap s.heap [] := va_S.rf
  have hL := hL0
  have hl := lv_entry ([.ref h0, .int (nI bd), .int (nI be), .int (nI uu)]) (n := 7) (Nat.le_of_ble_eq_true rfl)
  rw [lg_entry_eq]
  generalize (lg_sl ([.ref h0, .int (nI bd), .int (nI be), .int (nI uu)]) ++ List.replicate (7 - (lg_sl ([.ref h0, .int (nI bd), .int (nI be), .int (nI uu)])).length) Slot.unset).toArray = ls at hl ⊢
  have hl : lv_has ls 7 [(0, .ref h0), (1, .int (nI bd)), (2, .int (nI be)), (3, .int (nI uu))] := hl
  refine lv_aload_n hx hb dX7_areApart_0 rfl (lv_at hl 0 rfl) ?_
  refine lv_iload_n hx hb dX7_areApart_1 rfl (lv_at hl 1 rfl) ?_
  refine lv_iload_n hx hb dX7_areApart_2 rfl (lv_at hl 3 rfl) ?_
  have hFc := z_freeW hD hS hA
  refine va_calli (va_runV (As := [.int (nI bd), .int (nI uu)]) (rest := []) ⟨hx, hb, hml, hown, hts⟩ (kX7_links l dC dI h0 r cI cJ cZ v0 a1 tp bs cl a5 a6 a7 fc a9 mb a11 a12 a13 a14 a15 a16 a17 a18 a19 a20 az v22 v23 v24 v25 v26 bb ct us a30 a31 a32 a33 a34 a35 a36 a37 pil rwv rl v41 v42 v43 v44 v45 ⟨by omega, by omega, by omega, hcl, hfc, hmb, hct, hpil, hrwv⟩ bd uu (by first | omega | assumption | trivial) (by first | omega | assumption | trivial) (by exact hp3) s.heap.size) (cwV 2 hts zgX7_areApart_X7_links_309 rfl rfl rfl (by decide +kernel) ⟨(show 4 + 1 ≤ 5 by omega), (show 8 + (9 + 11) + 102 ≤ 130 by omega)⟩) (zVm (ci := 6) (q0 := 0) (q := (RX7, TX7, 46)) hK hP hD hL hS.2.1 hFc rfl rfl rfl) rfl rfl hl.1 rfl (lv_room (Nat.le_of_ble_eq_true rfl)) dX7_areApart_3 ⟨(show 0 + 0 ≤ 0 by omega), (show 0 + 0 ≤ 0 by omega)⟩) hS (fun q _ h => hFc q h) hFc (fun r1 u9 t H1 locs ht hvm hw hB hz1 hk1 hS => ?_)
  obtain ⟨o2, o3, o4, o5, o6, o7, o8⟩ := u9
  obtain ⟨hP, hK9, hD⟩ := hB
  rw [ht] at hP
  have hD := hD.weaken (fun k q _ h => hFc q.1 h)
  generalize H1 = H at hP hS
  have hP : va_P (dC, dI) vwCl (rW h0 r cI cJ cZ v0 a1 (nI tp) (nI bs) (fun j => nI (cl j)) a5 a6 a7 (fun j => nI (fc j)) a9 (fun j => nI (mb j)) a11 a12 a13 a14 a15 a16 a17 a18 a19 a20 (nI az) v22 v23 v24 v25 v26 (nI bb) (fun j => nI (ct j)) (nI us) a30 a31 a32 a33 a34 a35 a36 a37 (fun j => nI (o3 j)) (fun j => nI (o4 j)) (nI o2) v41 o8 o5 o6 o7) H := hP
  have hD : va_D A (rW h0 r cI cJ cZ v0 a1 (nI tp) (nI bs) (fun j => nI (cl j)) a5 a6 a7 (fun j => nI (fc j)) a9 (fun j => nI (mb j)) a11 a12 a13 a14 a15 a16 a17 a18 a19 a20 (nI az) v22 v23 v24 v25 v26 (nI bb) (fun j => nI (ct j)) (nI us) a30 a31 a32 a33 a34 a35 a36 a37 (fun j => nI (o3 j)) (fun j => nI (o4 j)) (nI o2) v41 o8 o5 o6 o7) := hD
  have hw : (zM o8 (fun k => k < 960)) ∧ (0 < r1 ∨ 7 < a30 uu ∨ ∃ k, k < 960 ∧ o8 = nI k) ∧ (7 < a30 uu → o8 = -1) ∧ (∀ j, o3 j ≤ 15) ∧ (∀ j, o4 j ≤ 15) := hw
  obtain ⟨w0r1, w1r1, w2r1, hbo3, hbo4⟩ := hw
  refine lv_istore (lv' := [(4, .int r1), (0, .ref h0), (1, .int (nI bd)), (2, .int (nI be)), (3, .int (nI uu))]) hx hb dX7_areApart_6 hl (by decide) rfl (fun ls hl => ?_)
  refine lv_aload_n hx hb dX7_areApart_8 rfl (lv_at hl 1 rfl) ?_
  refine va_get (D := (dC, dI)) (ci := 6) (v := .int o8) (C := RX7) (T := TX7) (N := 46) hx hb hts hiX7 hown hK hP 0 rfl rfl 42 (by decide) (hts (.fieldLink RX7 296 "LinkModelsModel" "linked" "I") (by decide +kernel)) (fun _ h9 => h9) rfl dX7_areApart_9 ?_
  refine lv_istore (lv' := [(5, .int o8), (4, .int r1), (0, .ref h0), (1, .int (nI bd)), (2, .int (nI be)), (3, .int (nI uu))]) hx hb dX7_areApart_12 hl (by decide) rfl (fun ls hl => ?_)
  refine lv_aload_n hx hb dX7_areApart_14 rfl (lv_at hl 2 rfl) ?_
  refine lv_iload_n hx hb dX7_areApart_15 rfl (lv_at hl 4 rfl) ?_
  refine lv_iload_n hx hb dX7_areApart_16 rfl (lv_at hl 5 rfl) ?_
  have hFc := z_freeW hD hS hA
  refine va_calli (va_runV (As := [.int (nI be), .int (nI uu)]) (rest := []) ⟨hx, hb, hml, hown, hts⟩ (kX7_links l dC dI h0 r cI cJ cZ v0 a1 tp bs cl a5 a6 a7 fc a9 mb a11 a12 a13 a14 a15 a16 a17 a18 a19 a20 az v22 v23 v24 v25 v26 bb ct us a30 a31 a32 a33 a34 a35 a36 a37 o3 o4 o2 v41 o8 o5 o6 o7 ⟨by omega, by omega, by omega, hcl, hfc, hmb, hct, hbo3, hbo4⟩ be uu (by first | omega | assumption | trivial) (by first | omega | assumption | trivial) (by exact hp3) H.size) (cwV 2 hts zgX7_areApart_X7_links_309 rfl rfl rfl (by decide +kernel) ⟨(show 4 + 1 ≤ 5 by omega), (show 8 + (9 + 11) + 102 ≤ 130 by omega)⟩) (zVm (ci := 6) (q0 := 0) (q := (RX7, TX7, 46)) hK hP hD hL hS.2.1 hFc rfl rfl rfl) rfl rfl hl.1 rfl (lv_room (Nat.le_of_ble_eq_true rfl)) dX7_areApart_17 ⟨(show 0 + 0 ≤ 0 by omega), (show 0 + 0 ≤ 0 by omega)⟩) hS (fun q _ h => hFc q h) hFc (fun r10 u18 t H1 locs ht hvm hw hB hz1 hk1 hS => ?_)
  obtain ⟨o11, o12, o13, o14, o15, o16, o17⟩ := u18
  obtain ⟨hP, hK9, hD⟩ := hB
  rw [ht] at hP
  have hD := hD.weaken (fun k q _ h => hFc q.1 h)
  generalize H1 = H at hP hS
  have hP : va_P (dC, dI) vwCl (rW h0 r cI cJ cZ v0 a1 (nI tp) (nI bs) (fun j => nI (cl j)) a5 a6 a7 (fun j => nI (fc j)) a9 (fun j => nI (mb j)) a11 a12 a13 a14 a15 a16 a17 a18 a19 a20 (nI az) v22 v23 v24 v25 v26 (nI bb) (fun j => nI (ct j)) (nI us) a30 a31 a32 a33 a34 a35 a36 a37 (fun j => nI (o12 j)) (fun j => nI (o13 j)) (nI o11) v41 o17 o14 o15 o16) H := hP
  have hD : va_D A (rW h0 r cI cJ cZ v0 a1 (nI tp) (nI bs) (fun j => nI (cl j)) a5 a6 a7 (fun j => nI (fc j)) a9 (fun j => nI (mb j)) a11 a12 a13 a14 a15 a16 a17 a18 a19 a20 (nI az) v22 v23 v24 v25 v26 (nI bb) (fun j => nI (ct j)) (nI us) a30 a31 a32 a33 a34 a35 a36 a37 (fun j => nI (o12 j)) (fun j => nI (o13 j)) (nI o11) v41 o17 o14 o15 o16) := hD
  have hw : (zM o17 (fun k => k < 960)) ∧ (0 < r10 ∨ 7 < a30 uu ∨ ∃ k, k < 960 ∧ o17 = nI k) ∧ (7 < a30 uu → o17 = -1) ∧ (∀ j, o12 j ≤ 15) ∧ (∀ j, o13 j ≤ 15) := hw
  obtain ⟨w0r10, w1r10, w2r10, hbo12, hbo13⟩ := hw
  refine lv_istore (lv' := [(6, .int r10), (5, .int o8), (4, .int r1), (0, .ref h0), (1, .int (nI bd)), (2, .int (nI be)), (3, .int (nI uu))]) hx hb dX7_areApart_20 hl (by decide) rfl (fun ls hl => ?_)
  refine lv_iload hx hb dX7_areApart_22 (lv_at hl 2 rfl) ?_
  refine lv_iload hx hb dX7_areApart_24 (lv_at hl 0 rfl) ?_
  refine lv_icmp_ne (tgt := 41) hx hb dX7_areApart_26 (by decide) (fun cp26 => ?_) (fun cp26 => ?_)
  · refine lv_iload hx hb dX7_areApart_41 (lv_at hl 2 rfl) ?_
    refine lv_iload hx hb dX7_areApart_43 (lv_at hl 0 rfl) ?_
    refine lv_icmp_eq (tgt := 52) hx hb dX7_areApart_45 (by decide) (fun cp45 => ?_) (fun cp45 => ?_)
    · refine lv_iconst (v := 0) hx hb dX7_areApart_52 (by decide) ?_
      have hP9 : va_P (dC, dI) vwCl (rW h0 r cI cJ cZ v0 a1 (nI tp) (nI bs) (fun j => nI (cl j)) a5 a6 a7 (fun j => nI (fc j)) a9 (fun j => nI (mb j)) a11 a12 a13 a14 a15 a16 a17 a18 a19 a20 (nI az) v22 v23 v24 v25 v26 (nI bb) (fun j => nI (ct j)) (nI us) a30 a31 a32 a33 a34 a35 a36 a37 (fun j => nI (o12 j)) (fun j => nI (o13 j)) (nI o11) v41 o17 o14 o15 o16) H := hP
      have hD9 : va_D A (rW h0 r cI cJ cZ v0 a1 (nI tp) (nI bs) (fun j => nI (cl j)) a5 a6 a7 (fun j => nI (fc j)) a9 (fun j => nI (mb j)) a11 a12 a13 a14 a15 a16 a17 a18 a19 a20 (nI az) v22 v23 v24 v25 v26 (nI bb) (fun j => nI (ct j)) (nI us) a30 a31 a32 a33 a34 a35 a36 a37 (fun j => nI (o12 j)) (fun j => nI (o13 j)) (nI o11) v41 o17 o14 o15 o16) := hD
      exact W.zret (v := (0 : Int32)) hx hb hr rfl (fun t ht hW => ⟨⟨(0 : Int32), (o11, o12, o13, o14, o15, o16, o17), rfl, ⟨(Or.inl rfl), hbo12, hbo13⟩, by rw [ht]; exact hP9, va_K.moved hW.alike hK, hD9⟩, hS.F ht⟩) hS.2.2 dX7_areApart_53
    · refine lv_iconst (v := 1) hx hb dX7_areApart_48 (by decide) ?_
      refine lv_goto (tgt := 53) hx hb dX7_areApart_49 (by decide) ?_
      have hP9 : va_P (dC, dI) vwCl (rW h0 r cI cJ cZ v0 a1 (nI tp) (nI bs) (fun j => nI (cl j)) a5 a6 a7 (fun j => nI (fc j)) a9 (fun j => nI (mb j)) a11 a12 a13 a14 a15 a16 a17 a18 a19 a20 (nI az) v22 v23 v24 v25 v26 (nI bb) (fun j => nI (ct j)) (nI us) a30 a31 a32 a33 a34 a35 a36 a37 (fun j => nI (o12 j)) (fun j => nI (o13 j)) (nI o11) v41 o17 o14 o15 o16) H := hP
      have hD9 : va_D A (rW h0 r cI cJ cZ v0 a1 (nI tp) (nI bs) (fun j => nI (cl j)) a5 a6 a7 (fun j => nI (fc j)) a9 (fun j => nI (mb j)) a11 a12 a13 a14 a15 a16 a17 a18 a19 a20 (nI az) v22 v23 v24 v25 v26 (nI bb) (fun j => nI (ct j)) (nI us) a30 a31 a32 a33 a34 a35 a36 a37 (fun j => nI (o12 j)) (fun j => nI (o13 j)) (nI o11) v41 o17 o14 o15 o16) := hD
      exact W.zret (v := (1 : Int32)) hx hb hr rfl (fun t ht hW => ⟨⟨(1 : Int32), (o11, o12, o13, o14, o15, o16, o17), rfl, ⟨(Or.inr rfl), hbo12, hbo13⟩, by rw [ht]; exact hP9, va_K.moved hW.alike hK, hD9⟩, hS.F ht⟩) hS.2.2 dX7_areApart_53
  · refine lv_iload hx hb dX7_areApart_29 (lv_at hl 2 rfl) ?_
    refine lv_if_gt (tgt := 41) hx hb dX7_areApart_31 (by decide) (fun cp31 => ?_) (fun cp31 => ?_)
    · refine lv_iload hx hb dX7_areApart_41 (lv_at hl 2 rfl) ?_
      refine lv_iload hx hb dX7_areApart_43 (lv_at hl 0 rfl) ?_
      refine lv_icmp_eq (tgt := 52) hx hb dX7_areApart_45 (by decide) (fun cp45 => ?_) (fun cp45 => ?_)
      · refine lv_iconst (v := 0) hx hb dX7_areApart_52 (by decide) ?_
        have hP9 : va_P (dC, dI) vwCl (rW h0 r cI cJ cZ v0 a1 (nI tp) (nI bs) (fun j => nI (cl j)) a5 a6 a7 (fun j => nI (fc j)) a9 (fun j => nI (mb j)) a11 a12 a13 a14 a15 a16 a17 a18 a19 a20 (nI az) v22 v23 v24 v25 v26 (nI bb) (fun j => nI (ct j)) (nI us) a30 a31 a32 a33 a34 a35 a36 a37 (fun j => nI (o12 j)) (fun j => nI (o13 j)) (nI o11) v41 o17 o14 o15 o16) H := hP
        have hD9 : va_D A (rW h0 r cI cJ cZ v0 a1 (nI tp) (nI bs) (fun j => nI (cl j)) a5 a6 a7 (fun j => nI (fc j)) a9 (fun j => nI (mb j)) a11 a12 a13 a14 a15 a16 a17 a18 a19 a20 (nI az) v22 v23 v24 v25 v26 (nI bb) (fun j => nI (ct j)) (nI us) a30 a31 a32 a33 a34 a35 a36 a37 (fun j => nI (o12 j)) (fun j => nI (o13 j)) (nI o11) v41 o17 o14 o15 o16) := hD
        exact W.zret (v := (0 : Int32)) hx hb hr rfl (fun t ht hW => ⟨⟨(0 : Int32), (o11, o12, o13, o14, o15, o16, o17), rfl, ⟨(Or.inl rfl), hbo12, hbo13⟩, by rw [ht]; exact hP9, va_K.moved hW.alike hK, hD9⟩, hS.F ht⟩) hS.2.2 dX7_areApart_53
      · refine lv_iconst (v := 1) hx hb dX7_areApart_48 (by decide) ?_
        refine lv_goto (tgt := 53) hx hb dX7_areApart_49 (by decide) ?_
        have hP9 : va_P (dC, dI) vwCl (rW h0 r cI cJ cZ v0 a1 (nI tp) (nI bs) (fun j => nI (cl j)) a5 a6 a7 (fun j => nI (fc j)) a9 (fun j => nI (mb j)) a11 a12 a13 a14 a15 a16 a17 a18 a19 a20 (nI az) v22 v23 v24 v25 v26 (nI bb) (fun j => nI (ct j)) (nI us) a30 a31 a32 a33 a34 a35 a36 a37 (fun j => nI (o12 j)) (fun j => nI (o13 j)) (nI o11) v41 o17 o14 o15 o16) H := hP
        have hD9 : va_D A (rW h0 r cI cJ cZ v0 a1 (nI tp) (nI bs) (fun j => nI (cl j)) a5 a6 a7 (fun j => nI (fc j)) a9 (fun j => nI (mb j)) a11 a12 a13 a14 a15 a16 a17 a18 a19 a20 (nI az) v22 v23 v24 v25 v26 (nI bb) (fun j => nI (ct j)) (nI us) a30 a31 a32 a33 a34 a35 a36 a37 (fun j => nI (o12 j)) (fun j => nI (o13 j)) (nI o11) v41 o17 o14 o15 o16) := hD
        exact W.zret (v := (1 : Int32)) hx hb hr rfl (fun t ht hW => ⟨⟨(1 : Int32), (o11, o12, o13, o14, o15, o16, o17), rfl, ⟨(Or.inr rfl), hbo12, hbo13⟩, by rw [ht]; exact hP9, va_K.moved hW.alike hK, hD9⟩, hS.F ht⟩) hS.2.2 dX7_areApart_53
    · refine lv_aload_n hx hb dX7_areApart_34 rfl (lv_at hl 3 rfl) ?_
      refine va_get (D := (dC, dI)) (ci := 6) (v := .int o17) (C := RX7) (T := TX7) (N := 46) hx hb hts hiX7 hown hK hP 0 rfl rfl 42 (by decide) (hts (.fieldLink RX7 296 "LinkModelsModel" "linked" "I") (by decide +kernel)) (fun _ h9 => h9) rfl dX7_areApart_35 ?_
      refine lv_if_ge (tgt := 54) hx hb dX7_areApart_38 (by decide) (fun cp38 => ?_) (fun cp38 => ?_)
      · obtain ⟨k19, hBk19, hQk19, rfl⟩ := zM.pos' w0r10 cp38
        have hPn := hP
        have hDn := hD
        have hSn := hS
        obtain ⟨m9, hm9, rfl⟩ := (w1r1.resolve_left cp31).resolve_left (fun h9 => z_nIm1 (by omega) (w2r10 h9).symm)
        have hP := hPn
        have hD := hDn
        have hS := hSn
        refine lv_aload_n hx hb dX7_areApart_54 rfl (lv_at hl 3 rfl) ?_
        refine va_get (D := (dC, dI)) (ci := 6) (v := .ref (r 5)) (C := RX7) (T := TX7) (N := 46) hx hb hts hiX7 hown hK hP 0 rfl rfl 5 (by decide) (hts (.fieldLink RX7 20 "LinkModelsModel" "className" "[I") (by decide +kernel)) (fun _ h9 => h9) rfl dX7_areApart_55 ?_
        refine lv_iload hx hb dX7_areApart_58 (lv_at hl 1 rfl) ?_
        refine lv_bipush (v := 12) hx hb dX7_areApart_60 (by decide) ?_
        refine lv_idiv (x := nI m9) (y := nI 12) hx hb dX7_areApart_62 (nI_ne0 (show 0 < 12 by omega) (show 12 < 2 ^ 31 by omega)) ?_
        refine lv_topi (fun x20 ex20 => ?_)
        obtain rfl : x20 = nI (m9 / 12) := by rw [ex20]; exact pk_div (show m9 < 2 ^ 31 by omega) (show 0 < 12 by omega) (show 12 < 2 ^ 31 by omega)
        refine va_iald hx hb hK hP 3 0 rfl rfl (vp_in_nI (show m9 / 12 < 80 by omega) (by decide)) dX7_areApart_63 ?_
        refine lv_topi (fun x21 ex21 => ?_)
        obtain rfl : x21 = a5 (m9 / 12) := by rw [ex21, nI_clamp (show m9 / 12 < 2 ^ 31 by omega)]
        refine lv_aload_n hx hb dX7_areApart_64 rfl (lv_at hl 3 rfl) ?_
        refine va_get (D := (dC, dI)) (ci := 6) (v := .ref (r 5)) (C := RX7) (T := TX7) (N := 46) hx hb hts hiX7 hown hK hP 0 rfl rfl 5 (by decide) (hts (.fieldLink RX7 20 "LinkModelsModel" "className" "[I") (by decide +kernel)) (fun _ h9 => h9) rfl dX7_areApart_65 ?_
        refine lv_aload_n hx hb dX7_areApart_68 rfl (lv_at hl 3 rfl) ?_
        refine va_get (D := (dC, dI)) (ci := 6) (v := .int (nI k19)) (C := RX7) (T := TX7) (N := 46) hx hb hts hiX7 hown hK hP 0 rfl rfl 42 (by decide) (hts (.fieldLink RX7 296 "LinkModelsModel" "linked" "I") (by decide +kernel)) (fun _ h9 => h9) rfl dX7_areApart_69 ?_
        refine lv_bipush (v := 12) hx hb dX7_areApart_72 (by decide) ?_
        refine lv_idiv (x := nI k19) (y := nI 12) hx hb dX7_areApart_74 (nI_ne0 (show 0 < 12 by omega) (show 12 < 2 ^ 31 by omega)) ?_
        refine lv_topi (fun x22 ex22 => ?_)
        obtain rfl : x22 = nI (k19 / 12) := by rw [ex22]; exact pk_div (show k19 < 2 ^ 31 by omega) (show 0 < 12 by omega) (show 12 < 2 ^ 31 by omega)
        refine va_iald hx hb hK hP 3 0 rfl rfl (vp_in_nI (show k19 / 12 < 80 by omega) (by decide)) dX7_areApart_75 ?_
        refine lv_topi (fun x23 ex23 => ?_)
        obtain rfl : x23 = a5 (k19 / 12) := by rw [ex23, nI_clamp (show k19 / 12 < 2 ^ 31 by omega)]
        refine lv_icmp_ne (tgt := 94) hx hb dX7_areApart_76 (by decide) (fun cp76 => ?_) (fun cp76 => ?_)
        · refine lv_iconst (v := 1) hx hb dX7_areApart_94 (by decide) ?_
          refine lv_goto (tgt := 99) hx hb dX7_areApart_95 (by decide) ?_
          have hP9 : va_P (dC, dI) vwCl (rW h0 r cI cJ cZ v0 a1 (nI tp) (nI bs) (fun j => nI (cl j)) a5 a6 a7 (fun j => nI (fc j)) a9 (fun j => nI (mb j)) a11 a12 a13 a14 a15 a16 a17 a18 a19 a20 (nI az) v22 v23 v24 v25 v26 (nI bb) (fun j => nI (ct j)) (nI us) a30 a31 a32 a33 a34 a35 a36 a37 (fun j => nI (o12 j)) (fun j => nI (o13 j)) (nI o11) v41 (nI k19) o14 o15 o16) H := hP
          have hD9 : va_D A (rW h0 r cI cJ cZ v0 a1 (nI tp) (nI bs) (fun j => nI (cl j)) a5 a6 a7 (fun j => nI (fc j)) a9 (fun j => nI (mb j)) a11 a12 a13 a14 a15 a16 a17 a18 a19 a20 (nI az) v22 v23 v24 v25 v26 (nI bb) (fun j => nI (ct j)) (nI us) a30 a31 a32 a33 a34 a35 a36 a37 (fun j => nI (o12 j)) (fun j => nI (o13 j)) (nI o11) v41 (nI k19) o14 o15 o16) := hD
          exact W.zret (v := (1 : Int32)) hx hb hr rfl (fun t ht hW => ⟨⟨(1 : Int32), (o11, o12, o13, o14, o15, o16, (nI k19)), rfl, ⟨(Or.inr rfl), hbo12, hbo13⟩, by rw [ht]; exact hP9, va_K.moved hW.alike hK, hD9⟩, hS.F ht⟩) hS.2.2 dX7_areApart_99
        · refine lv_iload hx hb dX7_areApart_79 (lv_at hl 1 rfl) ?_
          refine lv_bipush (v := 12) hx hb dX7_areApart_81 (by decide) ?_
          refine lv_irem (x := nI m9) (y := nI 12) hx hb dX7_areApart_83 (nI_ne0 (show 0 < 12 by omega) (show 12 < 2 ^ 31 by omega)) ?_
          refine lv_topi (fun x24 ex24 => ?_)
          obtain rfl : x24 = nI (m9 % 12) := by rw [ex24]; exact pk_rem (show m9 < 2 ^ 31 by omega) (show 0 < 12 by omega) (show 12 < 2 ^ 31 by omega)
          refine lv_aload_n hx hb dX7_areApart_84 rfl (lv_at hl 3 rfl) ?_
          refine va_get (D := (dC, dI)) (ci := 6) (v := .int (nI k19)) (C := RX7) (T := TX7) (N := 46) hx hb hts hiX7 hown hK hP 0 rfl rfl 42 (by decide) (hts (.fieldLink RX7 296 "LinkModelsModel" "linked" "I") (by decide +kernel)) (fun _ h9 => h9) rfl dX7_areApart_85 ?_
          refine lv_bipush (v := 12) hx hb dX7_areApart_88 (by decide) ?_
          refine lv_irem (x := nI k19) (y := nI 12) hx hb dX7_areApart_90 (nI_ne0 (show 0 < 12 by omega) (show 12 < 2 ^ 31 by omega)) ?_
          refine lv_topi (fun x25 ex25 => ?_)
          obtain rfl : x25 = nI (k19 % 12) := by rw [ex25]; exact pk_rem (show k19 < 2 ^ 31 by omega) (show 0 < 12 by omega) (show 12 < 2 ^ 31 by omega)
          refine lv_icmp_eq (tgt := 98) hx hb dX7_areApart_91 (by decide) (fun cp91 => ?_) (fun cp91 => ?_)
          · have qcp91 : (m9 % 12) = (k19 % 12) := (nI_eq (a := m9 % 12) (b := k19 % 12) (by omega) (by omega)).mp cp91
            refine lv_iconst (v := 0) hx hb dX7_areApart_98 (by decide) ?_
            have hP9 : va_P (dC, dI) vwCl (rW h0 r cI cJ cZ v0 a1 (nI tp) (nI bs) (fun j => nI (cl j)) a5 a6 a7 (fun j => nI (fc j)) a9 (fun j => nI (mb j)) a11 a12 a13 a14 a15 a16 a17 a18 a19 a20 (nI az) v22 v23 v24 v25 v26 (nI bb) (fun j => nI (ct j)) (nI us) a30 a31 a32 a33 a34 a35 a36 a37 (fun j => nI (o12 j)) (fun j => nI (o13 j)) (nI o11) v41 (nI k19) o14 o15 o16) H := hP
            have hD9 : va_D A (rW h0 r cI cJ cZ v0 a1 (nI tp) (nI bs) (fun j => nI (cl j)) a5 a6 a7 (fun j => nI (fc j)) a9 (fun j => nI (mb j)) a11 a12 a13 a14 a15 a16 a17 a18 a19 a20 (nI az) v22 v23 v24 v25 v26 (nI bb) (fun j => nI (ct j)) (nI us) a30 a31 a32 a33 a34 a35 a36 a37 (fun j => nI (o12 j)) (fun j => nI (o13 j)) (nI o11) v41 (nI k19) o14 o15 o16) := hD
            exact W.zret (v := (0 : Int32)) hx hb hr rfl (fun t ht hW => ⟨⟨(0 : Int32), (o11, o12, o13, o14, o15, o16, (nI k19)), rfl, ⟨(Or.inl rfl), hbo12, hbo13⟩, by rw [ht]; exact hP9, va_K.moved hW.alike hK, hD9⟩, hS.F ht⟩) hS.2.2 dX7_areApart_99
          · have qcp91 : ¬ (m9 % 12) = (k19 % 12) := fun h9 => cp91 ((nI_eq (a := m9 % 12) (b := k19 % 12) (by omega) (by omega)).mpr h9)
            refine lv_iconst (v := 1) hx hb dX7_areApart_94 (by decide) ?_
            refine lv_goto (tgt := 99) hx hb dX7_areApart_95 (by decide) ?_
            have hP9 : va_P (dC, dI) vwCl (rW h0 r cI cJ cZ v0 a1 (nI tp) (nI bs) (fun j => nI (cl j)) a5 a6 a7 (fun j => nI (fc j)) a9 (fun j => nI (mb j)) a11 a12 a13 a14 a15 a16 a17 a18 a19 a20 (nI az) v22 v23 v24 v25 v26 (nI bb) (fun j => nI (ct j)) (nI us) a30 a31 a32 a33 a34 a35 a36 a37 (fun j => nI (o12 j)) (fun j => nI (o13 j)) (nI o11) v41 (nI k19) o14 o15 o16) H := hP
            have hD9 : va_D A (rW h0 r cI cJ cZ v0 a1 (nI tp) (nI bs) (fun j => nI (cl j)) a5 a6 a7 (fun j => nI (fc j)) a9 (fun j => nI (mb j)) a11 a12 a13 a14 a15 a16 a17 a18 a19 a20 (nI az) v22 v23 v24 v25 v26 (nI bb) (fun j => nI (ct j)) (nI us) a30 a31 a32 a33 a34 a35 a36 a37 (fun j => nI (o12 j)) (fun j => nI (o13 j)) (nI o11) v41 (nI k19) o14 o15 o16) := hD
            exact W.zret (v := (1 : Int32)) hx hb hr rfl (fun t ht hW => ⟨⟨(1 : Int32), (o11, o12, o13, o14, o15, o16, (nI k19)), rfl, ⟨(Or.inr rfl), hbo12, hbo13⟩, by rw [ht]; exact hP9, va_K.moved hW.alike hK, hD9⟩, hS.F ht⟩) hS.2.2 dX7_areApart_99
      · obtain rfl : o17 = -1 := zM.neg' w0r10 cp38
        refine lv_iload hx hb dX7_areApart_41 (lv_at hl 2 rfl) ?_
        refine lv_iload hx hb dX7_areApart_43 (lv_at hl 0 rfl) ?_
        refine lv_icmp_eq (tgt := 52) hx hb dX7_areApart_45 (by decide) (fun cp45 => ?_) (fun cp45 => ?_)
        · refine lv_iconst (v := 0) hx hb dX7_areApart_52 (by decide) ?_
          have hP9 : va_P (dC, dI) vwCl (rW h0 r cI cJ cZ v0 a1 (nI tp) (nI bs) (fun j => nI (cl j)) a5 a6 a7 (fun j => nI (fc j)) a9 (fun j => nI (mb j)) a11 a12 a13 a14 a15 a16 a17 a18 a19 a20 (nI az) v22 v23 v24 v25 v26 (nI bb) (fun j => nI (ct j)) (nI us) a30 a31 a32 a33 a34 a35 a36 a37 (fun j => nI (o12 j)) (fun j => nI (o13 j)) (nI o11) v41 (-1) o14 o15 o16) H := hP
          have hD9 : va_D A (rW h0 r cI cJ cZ v0 a1 (nI tp) (nI bs) (fun j => nI (cl j)) a5 a6 a7 (fun j => nI (fc j)) a9 (fun j => nI (mb j)) a11 a12 a13 a14 a15 a16 a17 a18 a19 a20 (nI az) v22 v23 v24 v25 v26 (nI bb) (fun j => nI (ct j)) (nI us) a30 a31 a32 a33 a34 a35 a36 a37 (fun j => nI (o12 j)) (fun j => nI (o13 j)) (nI o11) v41 (-1) o14 o15 o16) := hD
          exact W.zret (v := (0 : Int32)) hx hb hr rfl (fun t ht hW => ⟨⟨(0 : Int32), (o11, o12, o13, o14, o15, o16, (-1)), rfl, ⟨(Or.inl rfl), hbo12, hbo13⟩, by rw [ht]; exact hP9, va_K.moved hW.alike hK, hD9⟩, hS.F ht⟩) hS.2.2 dX7_areApart_53
        · refine lv_iconst (v := 1) hx hb dX7_areApart_48 (by decide) ?_
          refine lv_goto (tgt := 53) hx hb dX7_areApart_49 (by decide) ?_
          have hP9 : va_P (dC, dI) vwCl (rW h0 r cI cJ cZ v0 a1 (nI tp) (nI bs) (fun j => nI (cl j)) a5 a6 a7 (fun j => nI (fc j)) a9 (fun j => nI (mb j)) a11 a12 a13 a14 a15 a16 a17 a18 a19 a20 (nI az) v22 v23 v24 v25 v26 (nI bb) (fun j => nI (ct j)) (nI us) a30 a31 a32 a33 a34 a35 a36 a37 (fun j => nI (o12 j)) (fun j => nI (o13 j)) (nI o11) v41 (-1) o14 o15 o16) H := hP
          have hD9 : va_D A (rW h0 r cI cJ cZ v0 a1 (nI tp) (nI bs) (fun j => nI (cl j)) a5 a6 a7 (fun j => nI (fc j)) a9 (fun j => nI (mb j)) a11 a12 a13 a14 a15 a16 a17 a18 a19 a20 (nI az) v22 v23 v24 v25 v26 (nI bb) (fun j => nI (ct j)) (nI us) a30 a31 a32 a33 a34 a35 a36 a37 (fun j => nI (o12 j)) (fun j => nI (o13 j)) (nI o11) v41 (-1) o14 o15 o16) := hD
          exact W.zret (v := (1 : Int32)) hx hb hr rfl (fun t ht hW => ⟨⟨(1 : Int32), (o11, o12, o13, o14, o15, o16, (-1)), rfl, ⟨(Or.inr rfl), hbo12, hbo13⟩, by rw [ht]; exact hP9, va_K.moved hW.alike hK, hD9⟩, hS.F ht⟩) hS.2.2 dX7_areApart_53
theorem dX7_changed_0 : decode cX7_changed 0 = .ok (.aload_n 0, 1) := by decide +kernel
theorem dX7_changed_1 : decode cX7_changed 1 = .ok (.iconst 0, 1) := by decide +kernel
theorem dX7_changed_2 : decode cX7_changed 2 = .ok (.putfield 1, 3) := by decide +kernel
theorem dX7_changed_5 : decode cX7_changed 5 = .ok (.aload_n 0, 1) := by decide +kernel
theorem dX7_changed_6 : decode cX7_changed 6 = .ok (.iload_n 1, 1) := by decide +kernel
theorem dX7_changed_7 : decode cX7_changed 7 = .ok (.invokevirtual 248, 3) := by decide +kernel
theorem dX7_changed_10 : decode cX7_changed 10 = .ok (.ifCond .eq 11, 3) := by decide +kernel
theorem dX7_changed_13 : decode cX7_changed 13 = .ok (.aload_n 0, 1) := by decide +kernel
theorem dX7_changed_14 : decode cX7_changed 14 = .ok (.iload_n 2, 1) := by decide +kernel
theorem dX7_changed_15 : decode cX7_changed 15 = .ok (.invokevirtual 248, 3) := by decide +kernel
theorem dX7_changed_18 : decode cX7_changed 18 = .ok (.ifCond .ne 6, 3) := by decide +kernel
theorem dX7_changed_21 : decode cX7_changed 21 = .ok (.bipush (-2), 2) := by decide +kernel
theorem dX7_changed_23 : decode cX7_changed 23 = .ok (.ireturn, 1) := by decide +kernel
theorem dX7_changed_24 : decode cX7_changed 24 = .ok (.iconst 0, 1) := by decide +kernel
theorem dX7_changed_25 : decode cX7_changed 25 = .ok (.istore 4, 2) := by decide +kernel
theorem dX7_changed_27 : decode cX7_changed 27 = .ok (.iconst 0, 1) := by decide +kernel
theorem dX7_changed_28 : decode cX7_changed 28 = .ok (.istore 5, 2) := by decide +kernel
theorem dX7_changed_30 : decode cX7_changed 30 = .ok (.iload 5, 2) := by decide +kernel
theorem dX7_changed_32 : decode cX7_changed 32 = .ok (.aload_n 0, 1) := by decide +kernel
theorem dX7_changed_33 : decode cX7_changed 33 = .ok (.getfield 263, 3) := by decide +kernel
theorem dX7_changed_36 : decode cX7_changed 36 = .ok (.if_icmp .ge 32, 3) := by decide +kernel
theorem dX7_changed_39 : decode cX7_changed 39 = .ok (.aload_n 0, 1) := by decide +kernel
theorem dX7_changed_40 : decode cX7_changed 40 = .ok (.iload_n 1, 1) := by decide +kernel
theorem dX7_changed_41 : decode cX7_changed 41 = .ok (.iload_n 2, 1) := by decide +kernel
theorem dX7_changed_42 : decode cX7_changed 42 = .ok (.iload 5, 2) := by decide +kernel
theorem dX7_changed_44 : decode cX7_changed 44 = .ok (.invokevirtual 315, 3) := by decide +kernel
theorem dX7_changed_47 : decode cX7_changed 47 = .ok (.ifCond .eq 15, 3) := by decide +kernel
theorem dX7_changed_50 : decode cX7_changed 50 = .ok (.iload 4, 2) := by decide +kernel
theorem dX7_changed_52 : decode cX7_changed 52 = .ok (.iload_n 3, 1) := by decide +kernel
theorem dX7_changed_53 : decode cX7_changed 53 = .ok (.if_icmp .ne 6, 3) := by decide +kernel
theorem dX7_changed_56 : decode cX7_changed 56 = .ok (.iload 5, 2) := by decide +kernel
theorem dX7_changed_58 : decode cX7_changed 58 = .ok (.ireturn, 1) := by decide +kernel
theorem dX7_changed_59 : decode cX7_changed 59 = .ok (.iinc 4 1, 3) := by decide +kernel
theorem dX7_changed_62 : decode cX7_changed 62 = .ok (.iinc 5 1, 3) := by decide +kernel
theorem dX7_changed_65 : decode cX7_changed 65 = .ok (.goto (-35), 3) := by decide +kernel
theorem dX7_changed_68 : decode cX7_changed 68 = .ok (.iconst (-1), 1) := by decide +kernel
theorem dX7_changed_69 : decode cX7_changed 69 = .ok (.ireturn, 1) := by decide +kernel
def zwX7_changed : List Cond := .code yX7_changed cX7_changed 6 (some .int) :: ([.fieldLink RX7 263 "LinkModelsModel" "uses" "I", .fieldLink RX7 1 "LinkModelsModel" "thrown" "I", .methodLink RX7 315 yX7_areApart, .instanceMethod yX7_areApart, .selects RX7 yX7_areApart yX7_areApart, .initialized RX7, .code yX7_areApart cX7_areApart 7 (some .boolean), .fieldLink RX7 296 "LinkModelsModel" "linked" "I", .fieldLink RX7 20 "LinkModelsModel" "className" "[I", .methodLink RX7 309 yX7_links, .instanceMethod yX7_links, .selects RX7 yX7_links yX7_links, .code yX7_links cX7_links 9 (some .int), .fieldLink RX7 76 "LinkModelsModel" "caller" "[I", .fieldLink RX7 79 "LinkModelsModel" "owner" "[I", .fieldLink RX7 73 "LinkModelsModel" "useKind" "[I", .fieldLink RX7 23 "LinkModelsModel" "sort" "[I", .fieldLink RX7 48 "LinkModelsModel" "marks" "[I", .methodLink RX7 251 yX7_errorOf, .instanceMethod yX7_errorOf, .selects RX7 yX7_errorOf yX7_errorOf, .code yX7_errorOf cX7_errorOf 4 (some .int), .fieldLink RX7 38 "LinkModelsModel" "error" "[I", .methodLink RX7 201 yX7_place, .instanceMethod yX7_place, .selects RX7 yX7_place yX7_place, .code yX7_place cX7_place 4 (some .int), .fieldLink RX7 17 "LinkModelsModel" "classes" "[I", .methodLink RX7 303 yX7_findMethod, .instanceMethod yX7_findMethod, .selects RX7 yX7_findMethod yX7_findMethod, .code yX7_findMethod cX7_findMethod 6 (some .int), .fieldLink RX7 279 "LinkModelsModel" "bodies" "I", .fieldLink RX7 285 "LinkModelsModel" "firstOne" "I", .fieldLink RX7 282 "LinkModelsModel" "bodied" "I", .methodLink RX7 292 yX7_findFaces, .instanceMethod yX7_findFaces, .selects RX7 yX7_findFaces yX7_findFaces, .code yX7_findFaces cX7_findFaces 8 none, .fieldLink RX7 266 "LinkModelsModel" "rowLong" "I", .fieldLink RX7 100 "LinkModelsModel" "row" "[I", .methodLink RX7 288 yX7_methodIn, .instanceMethod yX7_methodIn, .selects RX7 yX7_methodIn yX7_methodIn, .code yX7_methodIn cX7_methodIn 6 (some .int), .fieldLink RX7 51 "LinkModelsModel" "isMethod" "[Z", .fieldLink RX7 44 "LinkModelsModel" "word" "[J", .fieldLink RX7 82 "LinkModelsModel" "useWord" "[J", .fieldLink RX7 35 "LinkModelsModel" "members" "[I", .fieldLink RX7 61 "LinkModelsModel" "many" "[I", .fieldLink RX7 85 "LinkModelsModel" "useMany" "[I", .fieldLink RX7 67 "LinkModelsModel" "second" "[I", .fieldLink RX7 91 "LinkModelsModel" "useSecond" "[I", .fieldLink RX7 64 "LinkModelsModel" "first" "[I", .fieldLink RX7 88 "LinkModelsModel" "useFirst" "[I", .methodLink RX7 256 yX7_isOf, .instanceMethod yX7_isOf, .selects RX7 yX7_isOf yX7_isOf, .code yX7_isOf cX7_isOf 4 (some .boolean), .fieldLink RX7 41 "LinkModelsModel" "ofAll" "[I", .methodLink RX7 272 yX7_faceRow, .instanceMethod yX7_faceRow, .selects RX7 yX7_faceRow yX7_faceRow, .code yX7_faceRow cX7_faceRow 8 none, .fieldLink RX7 97 "LinkModelsModel" "pile" "[I", .fieldLink RX7 32 "LinkModelsModel" "face" "[I", .fieldLink RX7 29 "LinkModelsModel" "faces" "[I", .methodLink RX7 276 yX7_aboveOf, .instanceMethod yX7_aboveOf, .selects RX7 yX7_aboveOf yX7_aboveOf, .code yX7_aboveOf cX7_aboveOf 3 (some .int), .fieldLink RX7 26 "LinkModelsModel" "above" "[I", .methodLink RX7 299 yX7_findField, .instanceMethod yX7_findField, .selects RX7 yX7_findField yX7_findField, .code yX7_findField cX7_findField 7 (some .int), .methodLink RX7 269 yX7_fieldIn, .instanceMethod yX7_fieldIn, .selects RX7 yX7_fieldIn yX7_fieldIn, .code yX7_fieldIn cX7_fieldIn 4 (some .int), .methodLink RX7 248 yX7_isBuild, .instanceMethod yX7_isBuild, .selects RX7 yX7_isBuild yX7_isBuild, .code yX7_isBuild cX7_isBuild 2 (some .boolean), .fieldLink RX7 232 "LinkModelsModel" "builds" "I", .methodLink RX7 105 yX7_in, .static yX7_in, .code yX7_in cX7_in 6 (some .boolean)] ++ wsX70)
theorem zgX7_changed_X7_areApart_315 : GoodIn zwX7_changed (wsV RX7 315 RX7 yX7_areApart zwX7_areApart) := goodIn_app (goodIn_r _ [3, 4, 5, 6] rfl (by decide +kernel)) (goodIn_ca (goodIn_r _ [7, 8, 9, 10, 11, 12, 6, 13, 14, 15, 16, 17, 18, 19, 20, 21, 22, 23, 24, 25, 26, 27, 28, 29, 30, 31, 32, 33, 34, 35, 36, 37, 38, 39, 40, 41, 42, 43, 44, 45, 46, 47, 48, 49, 50, 51, 52, 53, 54, 55, 56, 57, 58, 59, 60, 61, 62, 63, 64, 65, 66, 67, 68, 69, 70, 71, 72, 73, 74, 75, 76, 77, 78, 79, 80] rfl (by decide +kernel)) (zgt zg7))
theorem zgX7_changed_X7_isBuild_248 : GoodIn zwX7_changed (wsV RX7 248 RX7 yX7_isBuild zwX7_isBuild) := goodIn_app (goodIn_r _ [81, 82, 83, 6] rfl (by decide +kernel)) (goodIn_ca (goodIn_r _ [84, 85, 86, 87, 6, 88] rfl (by decide +kernel)) (zgt zg7))
set_option maxHeartbeats 4000000 in
set_option maxRecDepth 100000 in
theorem kX7_changed (l : Launch) (dC : Nat → ClassId) (dI : Nat → Nat → Nat) (h0 : Nat) (r : Nat → Nat) (cI : ClassId) (cJ : ClassId) (cZ : ClassId) (v0 : Int32) (a1 : Nat → Int32) (tp : Nat) (bs : Nat) (cl : Nat → Nat) (a5 : Nat → Int32) (a6 : Nat → Int32) (a7 : Nat → Int32) (fc : Nat → Nat) (a9 : Nat → Int32) (mb : Nat → Nat) (a11 : Nat → Int32) (a12 : Nat → Int32) (a13 : Nat → Int64) (a14 : Nat → Int32) (a15 : Nat → Int32) (a16 : Nat → Int32) (a17 : Nat → Int32) (a18 : Nat → Int32) (a19 : Nat → Int32) (a20 : Nat → Int32) (az : Nat) (v22 : Int32) (v23 : Int32) (v24 : Int64) (v25 : Int32) (v26 : Int32) (bb : Nat) (ct : Nat → Nat) (us : Nat) (a30 : Nat → Int32) (a31 : Nat → Int32) (a32 : Nat → Int32) (a33 : Nat → Int64) (a34 : Nat → Int32) (a35 : Nat → Int32) (a36 : Nat → Int32) (a37 : Nat → Int32) (pil : Nat → Nat) (rwv : Nat → Nat) (rl : Nat) (v41 : Int32) (v42 : Int32) (v43 : Int32) (v44 : Int32) (v45 : Int32) (hI : rWI tp bs cl fc mb az bb ct us pil rwv rl) (xb : Int32) (xc : Int32) (ii : Int32) (hp0 : ∀ bd, bd < bs → zOK cl a5 a7 fc a9 a11 bd) (sz : Nat) : Met l yX7_changed zwX7_changed ({ frames := 6, cells := 0, slots := 0, locals := 156 }) (zPm dC dI [.ref h0, .int xb, .int xc, .int ii] sz (rW h0 r cI cJ cZ v0 a1 (nI tp) (nI bs) (fun j => nI (cl j)) a5 a6 a7 (fun j => nI (fc j)) a9 (fun j => nI (mb j)) a11 a12 a13 a14 a15 a16 a17 a18 a19 a20 (nI az) v22 v23 v24 v25 v26 (nI bb) (fun j => nI (ct j)) (nI us) a30 a31 a32 a33 a34 a35 a36 a37 (fun j => nI (pil j)) (fun j => nI (rwv j)) (nI rl) v41 v42 v43 v44 v45) [(cI, .int), (cJ, .long), (cZ, .boolean)]) (va_Qi (fun (r : Int32) (u : Int32 × Nat × (Nat → Nat) × (Nat → Nat) × Int32 × Int32 × Int32 × Int32) => (∀ j, (u.2.2.1) j ≤ 15) ∧ (∀ j, (u.2.2.2.1) j ≤ 15)) (fun u t => zB dC dI (va_A (rW h0 r cI cJ cZ v0 a1 (nI tp) (nI bs) (fun j => nI (cl j)) a5 a6 a7 (fun j => nI (fc j)) a9 (fun j => nI (mb j)) a11 a12 a13 a14 a15 a16 a17 a18 a19 a20 (nI az) v22 v23 v24 v25 v26 (nI bb) (fun j => nI (ct j)) (nI us) a30 a31 a32 a33 a34 a35 a36 a37 (fun j => nI (pil j)) (fun j => nI (rwv j)) (nI rl) v41 v42 v43 v44 v45) sz) (rW h0 r cI cJ cZ (u.1) a1 (nI tp) (nI bs) (fun j => nI (cl j)) a5 a6 a7 (fun j => nI (fc j)) a9 (fun j => nI (mb j)) a11 a12 a13 a14 a15 a16 a17 a18 a19 a20 (nI az) v22 v23 v24 v25 v26 (nI bb) (fun j => nI (ct j)) (nI us) a30 a31 a32 a33 a34 a35 a36 a37 (fun j => nI ((u.2.2.1) j)) (fun j => nI ((u.2.2.2.1) j)) (nI (u.2.1)) v41 (u.2.2.2.2.2.2.2) (u.2.2.2.2.1) (u.2.2.2.2.2.1) (u.2.2.2.2.2.2.1)) [(cI, .int), (cJ, .long), (cZ, .boolean)] t) (va_A (rW h0 r cI cJ cZ v0 a1 (nI tp) (nI bs) (fun j => nI (cl j)) a5 a6 a7 (fun j => nI (fc j)) a9 (fun j => nI (mb j)) a11 a12 a13 a14 a15 a16 a17 a18 a19 a20 (nI az) v22 v23 v24 v25 v26 (nI bb) (fun j => nI (ct j)) (nI us) a30 a31 a32 a33 a34 a35 a36 a37 (fun j => nI (pil j)) (fun j => nI (rwv j)) (nI rl) v41 v42 v43 v44 v45) sz)) 0 0 (va_A (rW h0 r cI cJ cZ v0 a1 (nI tp) (nI bs) (fun j => nI (cl j)) a5 a6 a7 (fun j => nI (fc j)) a9 (fun j => nI (mb j)) a11 a12 a13 a14 a15 a16 a17 a18 a19 a20 (nI az) v22 v23 v24 v25 v26 (nI bb) (fun j => nI (ct j)) (nI us) a30 a31 a32 a33 a34 a35 a36 a37 (fun j => nI (pil j)) (fun j => nI (rwv j)) (nI rl) v41 v42 v43 v44 v45) sz) := by
  refine Met.ofW (cc := cX7_changed) (maxL := 6) (ret := (some .int)) (by decide) rfl ?_
  intro p e s m args below meth c s₁ B hml hv
  obtain ⟨rfl, hsz, hP, hK, hD0, hL0⟩ := hv
  have hx := B.exec
  have hb := B.bytes
  have hr := B.returns
  have hts := atoms_spec (ws := zwX7_changed) B.pre
  have hown : s.vm.findClass RX7 = some m.cls := findClass_of_methodNamed B.named
  have hiX7 : ∀ w ∈ wsX70, w ∈ zwX7_changed := (fun _ h => List.mem_cons_of_mem _ (List.mem_append_right _ h))
  obtain ⟨htp, hbs, hus, hcl, hfc, hmb, hct, hpil, hrwv⟩ := hI
  subst hsz
  have hD := hD0.self (sz := s.heap.size)
  generalize hAe : va_A (rW h0 r cI cJ cZ v0 a1 (nI tp) (nI bs) (fun j => nI (cl j)) a5 a6 a7 (fun j => nI (fc j)) a9 (fun j => nI (mb j)) a11 a12 a13 a14 a15 a16 a17 a18 a19 a20 (nI az) v22 v23 v24 v25 v26 (nI bb) (fun j => nI (ct j)) (nI us) a30 a31 a32 a33 a34 a35 a36 a37 (fun j => nI (pil j)) (fun j => nI (rwv j)) (nI rl) v41 v42 v43 v44 v45) s.heap.size = A at hD hL0 ⊢
  have hA : ∀ q : Nat, s.heap.size ≤ q → A q := fun q h => by rw [← hAe]; exact Or.inr h
  have hS : va_S A s.heap s.heap [] := va_S.rf
  have hL := hL0
  have hl := lv_entry ([.ref h0, .int xb, .int xc, .int ii]) (n := 6) (Nat.le_of_ble_eq_true rfl)
  rw [lg_entry_eq]
  generalize (lg_sl ([.ref h0, .int xb, .int xc, .int ii]) ++ List.replicate (6 - (lg_sl ([.ref h0, .int xb, .int xc, .int ii])).length) Slot.unset).toArray = ls at hl ⊢
  have hl : lv_has ls 6 [(0, .ref h0), (1, .int xb), (2, .int xc), (3, .int ii)] := hl
  have J30 : ∀ (z30 : Nat) (bd : Nat) (be : Nat) (nn : Int32) (uu : Nat) (th : Int32) (rl2 : Nat) (pil2 : Nat → Nat) (rwv2 : Nat → Nat) (b0 : Int32) (b1 : Int32) (b2 : Int32) (lk : Int32) (H : Heap) (locs : List Loc) (ls : Array Slot), us - uu < z30 → (∀ j, pil2 j ≤ 15) → (∀ j, rwv2 j ≤ 15) → (bd < bs) → (be < bs) → (uu ≤ us) → va_P (dC, dI) vwCl (rW h0 r cI cJ cZ th a1 (nI tp) (nI bs) (fun j => nI (cl j)) a5 a6 a7 (fun j => nI (fc j)) a9 (fun j => nI (mb j)) a11 a12 a13 a14 a15 a16 a17 a18 a19 a20 (nI az) v22 v23 v24 v25 v26 (nI bb) (fun j => nI (ct j)) (nI us) a30 a31 a32 a33 a34 a35 a36 a37 (fun j => nI (pil2 j)) (fun j => nI (rwv2 j)) (nI rl2) v41 lk b0 b1 b2) H → va_D A (rW h0 r cI cJ cZ th a1 (nI tp) (nI bs) (fun j => nI (cl j)) a5 a6 a7 (fun j => nI (fc j)) a9 (fun j => nI (mb j)) a11 a12 a13 a14 a15 a16 a17 a18 a19 a20 (nI az) v22 v23 v24 v25 v26 (nI bb) (fun j => nI (ct j)) (nI us) a30 a31 a32 a33 a34 a35 a36 a37 (fun j => nI (pil2 j)) (fun j => nI (rwv2 j)) (nI rl2) v41 lk b0 b1 b2) → va_S A s.heap H locs → lv_has ls 6 [(0, .ref h0), (1, .int (nI bd)), (2, .int (nI be)), (3, .int ii), (4, .int nn), (5, .int (nI uu))] → W p l e (headSpec zwX7_changed { frames := 6, cells := 0, slots := 0, locals := 156 }).room s m (([.ref h0, .int xb, .int xc, .int ii] : List Value).toArray) below meth c H locs 0 0 (MQ below (va_Qi (fun (r : Int32) (u : Int32 × Nat × (Nat → Nat) × (Nat → Nat) × Int32 × Int32 × Int32 × Int32) => (∀ j, (u.2.2.1) j ≤ 15) ∧ (∀ j, (u.2.2.2.1) j ≤ 15)) (fun u t => zB dC dI (A) (rW h0 r cI cJ cZ (u.1) a1 (nI tp) (nI bs) (fun j => nI (cl j)) a5 a6 a7 (fun j => nI (fc j)) a9 (fun j => nI (mb j)) a11 a12 a13 a14 a15 a16 a17 a18 a19 a20 (nI az) v22 v23 v24 v25 v26 (nI bb) (fun j => nI (ct j)) (nI us) a30 a31 a32 a33 a34 a35 a36 a37 (fun j => nI ((u.2.2.1) j)) (fun j => nI ((u.2.2.2.1) j)) (nI (u.2.1)) v41 (u.2.2.2.2.2.2.2) (u.2.2.2.2.1) (u.2.2.2.2.2.1) (u.2.2.2.2.2.2.1)) [(cI, .int), (cJ, .long), (cZ, .boolean)] t) (A)) (([.ref h0, .int xb, .int xc, .int ii] : List Value).toArray) s 0 0 A) (F0 m 30 ls []) := by
    intro z30
    induction z30 with
    | zero => intro bd be nn uu th rl2 pil2 rwv2 b0 b1 b2 lk H locs ls h9; exact absurd h9 (Nat.not_lt_zero _)
    | succ z30 ih30 =>
      intro bd be nn uu th rl2 pil2 rwv2 b0 b1 b2 lk H locs ls hm30 hbpil2 hbrwv2 i30_0 i30_1 i30_2 hP hD hS hl
      refine lv_iload hx hb dX7_changed_30 (lv_at hl 5 rfl) ?_
      refine lv_aload_n hx hb dX7_changed_32 rfl (lv_at hl 0 rfl) ?_
      refine va_get (D := (dC, dI)) (ci := 6) (v := .int (nI us)) (C := RX7) (T := TX7) (N := 46) hx hb hts hiX7 hown hK hP 0 rfl rfl 29 (by decide) (hts (.fieldLink RX7 263 "LinkModelsModel" "uses" "I") (by decide +kernel)) (fun _ h9 => h9) rfl dX7_changed_33 ?_
      refine lv_icmp_ge (tgt := 68) hx hb dX7_changed_36 (by decide) (fun cp36 => ?_) (fun cp36 => ?_)
      · have qcp36 : us ≤ uu := (nI_leI (a := us) (b := uu) (by omega) (by omega)).mp cp36
        refine lv_iconst (v := (-1)) hx hb dX7_changed_68 (by decide) ?_
        have hP9 : va_P (dC, dI) vwCl (rW h0 r cI cJ cZ th a1 (nI tp) (nI bs) (fun j => nI (cl j)) a5 a6 a7 (fun j => nI (fc j)) a9 (fun j => nI (mb j)) a11 a12 a13 a14 a15 a16 a17 a18 a19 a20 (nI az) v22 v23 v24 v25 v26 (nI bb) (fun j => nI (ct j)) (nI us) a30 a31 a32 a33 a34 a35 a36 a37 (fun j => nI (pil2 j)) (fun j => nI (rwv2 j)) (nI rl2) v41 lk b0 b1 b2) H := hP
        have hD9 : va_D A (rW h0 r cI cJ cZ th a1 (nI tp) (nI bs) (fun j => nI (cl j)) a5 a6 a7 (fun j => nI (fc j)) a9 (fun j => nI (mb j)) a11 a12 a13 a14 a15 a16 a17 a18 a19 a20 (nI az) v22 v23 v24 v25 v26 (nI bb) (fun j => nI (ct j)) (nI us) a30 a31 a32 a33 a34 a35 a36 a37 (fun j => nI (pil2 j)) (fun j => nI (rwv2 j)) (nI rl2) v41 lk b0 b1 b2) := hD
        exact W.iret (v := (-1 : Int32)) hx hb hr (fun t ht hW => ⟨⟨(-1 : Int32), (th, rl2, pil2, rwv2, b0, b1, b2, lk), rfl, ⟨hbpil2, hbrwv2⟩, by rw [ht]; exact hP9, va_K.moved hW.alike hK, hD9⟩, hS.F ht⟩) hS.2.2 dX7_changed_69
      · have qcp36 : ¬ us ≤ uu := fun h9 => cp36 ((nI_leI (a := us) (b := uu) (by omega) (by omega)).mpr h9)
        refine lv_aload_n hx hb dX7_changed_39 rfl (lv_at hl 0 rfl) ?_
        refine lv_iload_n hx hb dX7_changed_40 rfl (lv_at hl 1 rfl) ?_
        refine lv_iload_n hx hb dX7_changed_41 rfl (lv_at hl 2 rfl) ?_
        refine lv_iload hx hb dX7_changed_42 (lv_at hl 5 rfl) ?_
        have hFc := z_freeW hD hS hA
        refine va_calli (va_runV (As := [.int (nI bd), .int (nI be), .int (nI uu)]) (rest := []) ⟨hx, hb, hml, hown, hts⟩ (kX7_areApart l dC dI h0 r cI cJ cZ th a1 tp bs cl a5 a6 a7 fc a9 mb a11 a12 a13 a14 a15 a16 a17 a18 a19 a20 az v22 v23 v24 v25 v26 bb ct us a30 a31 a32 a33 a34 a35 a36 a37 pil2 rwv2 rl2 v41 lk b0 b1 b2 ⟨by omega, by omega, by omega, hcl, hfc, hmb, hct, hbpil2, hbrwv2⟩ bd be uu (by first | omega | assumption | trivial) (by first | omega | assumption | trivial) (by first | omega | assumption | trivial) (by exact hp0) H.size) (cwV 3 hts zgX7_changed_X7_areApart_315 rfl rfl rfl (by decide +kernel) ⟨(show 5 + 1 ≤ 6 by omega), (show 8 + (7 + 11) + 130 ≤ 156 by omega)⟩) (zVm (ci := 6) (q0 := 0) (q := (RX7, TX7, 46)) hK hP hD hL hS.2.1 hFc rfl rfl rfl) rfl rfl hl.1 rfl (lv_room (Nat.le_of_ble_eq_true rfl)) dX7_changed_44 ⟨(show 0 + 0 ≤ 0 by omega), (show 0 + 0 ≤ 0 by omega)⟩) hS (fun q _ h => hFc q h) hFc (fun r1 u9 t H1 locs ht hvm hw hB hz1 hk1 hS => ?_)
        obtain ⟨o2, o3, o4, o5, o6, o7, o8⟩ := u9
        obtain ⟨hP, hK9, hD⟩ := hB
        rw [ht] at hP
        have hD := hD.weaken (fun k q _ h => hFc q.1 h)
        generalize H1 = H at hP hS
        have hP : va_P (dC, dI) vwCl (rW h0 r cI cJ cZ th a1 (nI tp) (nI bs) (fun j => nI (cl j)) a5 a6 a7 (fun j => nI (fc j)) a9 (fun j => nI (mb j)) a11 a12 a13 a14 a15 a16 a17 a18 a19 a20 (nI az) v22 v23 v24 v25 v26 (nI bb) (fun j => nI (ct j)) (nI us) a30 a31 a32 a33 a34 a35 a36 a37 (fun j => nI (o3 j)) (fun j => nI (o4 j)) (nI o2) v41 o8 o5 o6 o7) H := hP
        have hD : va_D A (rW h0 r cI cJ cZ th a1 (nI tp) (nI bs) (fun j => nI (cl j)) a5 a6 a7 (fun j => nI (fc j)) a9 (fun j => nI (mb j)) a11 a12 a13 a14 a15 a16 a17 a18 a19 a20 (nI az) v22 v23 v24 v25 v26 (nI bb) (fun j => nI (ct j)) (nI us) a30 a31 a32 a33 a34 a35 a36 a37 (fun j => nI (o3 j)) (fun j => nI (o4 j)) (nI o2) v41 o8 o5 o6 o7) := hD
        have hw : (r1 = 0 ∨ r1 = 1) ∧ (∀ j, o3 j ≤ 15) ∧ (∀ j, o4 j ≤ 15) := hw
        obtain ⟨w0r1, hbo3, hbo4⟩ := hw
        refine lv_if_eq (tgt := 62) hx hb dX7_changed_47 (by decide) (fun cp47 => ?_) (fun cp47 => ?_)
        · obtain ⟨x10, ex10⟩ : ∃ y : Int32, y = (nI uu) + 1 := ⟨_, rfl⟩
          refine lv_iinc (v := x10) (lv' := [(5, .int x10), (0, .ref h0), (1, .int (nI bd)), (2, .int (nI be)), (3, .int ii), (4, .int nn)]) hx hb dX7_changed_62 hl (k := 5) rfl (by rw [ex10]; rfl) (by decide) rfl (fun ls hl => ?_)
          obtain rfl : x10 = nI (uu + 1) := by rw [ex10]; exact nI_add (uu) 1
          refine lv_goto (tgt := 30) hx hb dX7_changed_65 (by decide) ?_
          exact ih30 bd be nn (uu + 1) th o2 o3 o4 o5 o6 o7 o8 _ _ ls (by omega) hbo3 hbo4 (by first | omega | assumption | trivial) (by first | omega | assumption | trivial) (by first | omega | assumption | trivial) hP hD hS (lv_sub hl [1, 2, 3, 4, 5, 0] rfl)
        · refine lv_iload hx hb dX7_changed_50 (lv_at hl 4 rfl) ?_
          refine lv_iload_n hx hb dX7_changed_52 rfl (lv_at hl 3 rfl) ?_
          refine lv_icmp_ne (tgt := 59) hx hb dX7_changed_53 (by decide) (fun cp53 => ?_) (fun cp53 => ?_)
          · obtain ⟨x11, ex11⟩ : ∃ y : Int32, y = nn + 1 := ⟨_, rfl⟩
            refine lv_iinc (v := x11) (lv' := [(4, .int x11), (0, .ref h0), (1, .int (nI bd)), (2, .int (nI be)), (3, .int ii), (5, .int (nI uu))]) hx hb dX7_changed_59 hl (k := 4) rfl (by rw [ex11]; rfl) (by decide) rfl (fun ls hl => ?_)
            obtain ⟨x12, ex12⟩ : ∃ y : Int32, y = (nI uu) + 1 := ⟨_, rfl⟩
            refine lv_iinc (v := x12) (lv' := [(5, .int x12), (4, .int x11), (0, .ref h0), (1, .int (nI bd)), (2, .int (nI be)), (3, .int ii)]) hx hb dX7_changed_62 hl (k := 5) rfl (by rw [ex12]; rfl) (by decide) rfl (fun ls hl => ?_)
            obtain rfl : x12 = nI (uu + 1) := by rw [ex12]; exact nI_add (uu) 1
            refine lv_goto (tgt := 30) hx hb dX7_changed_65 (by decide) ?_
            exact ih30 bd be x11 (uu + 1) th o2 o3 o4 o5 o6 o7 o8 _ _ ls (by omega) hbo3 hbo4 (by first | omega | assumption | trivial) (by first | omega | assumption | trivial) (by first | omega | assumption | trivial) hP hD hS (lv_sub hl [2, 3, 4, 5, 1, 0] rfl)
          · refine lv_iload hx hb dX7_changed_56 (lv_at hl 5 rfl) ?_
            have hP9 : va_P (dC, dI) vwCl (rW h0 r cI cJ cZ th a1 (nI tp) (nI bs) (fun j => nI (cl j)) a5 a6 a7 (fun j => nI (fc j)) a9 (fun j => nI (mb j)) a11 a12 a13 a14 a15 a16 a17 a18 a19 a20 (nI az) v22 v23 v24 v25 v26 (nI bb) (fun j => nI (ct j)) (nI us) a30 a31 a32 a33 a34 a35 a36 a37 (fun j => nI (o3 j)) (fun j => nI (o4 j)) (nI o2) v41 o8 o5 o6 o7) H := hP
            have hD9 : va_D A (rW h0 r cI cJ cZ th a1 (nI tp) (nI bs) (fun j => nI (cl j)) a5 a6 a7 (fun j => nI (fc j)) a9 (fun j => nI (mb j)) a11 a12 a13 a14 a15 a16 a17 a18 a19 a20 (nI az) v22 v23 v24 v25 v26 (nI bb) (fun j => nI (ct j)) (nI us) a30 a31 a32 a33 a34 a35 a36 a37 (fun j => nI (o3 j)) (fun j => nI (o4 j)) (nI o2) v41 o8 o5 o6 o7) := hD
            exact W.iret (v := (nI uu)) hx hb hr (fun t ht hW => ⟨⟨(nI uu), (th, o2, o3, o4, o5, o6, o7, o8), rfl, ⟨hbo3, hbo4⟩, by rw [ht]; exact hP9, va_K.moved hW.alike hK, hD9⟩, hS.F ht⟩) hS.2.2 dX7_changed_58
  refine lv_aload_n hx hb dX7_changed_0 rfl (lv_at hl 0 rfl) ?_
  refine lv_iconst (v := 0) hx hb dX7_changed_1 (by decide) ?_
  refine va_put (D := (dC, dI)) (ci := 6) (v := .int 0) (ty := (.int)) (C := RX7) (T := TX7) (N := 46) hx hb hts hiX7 tyX7 tyX7_ok nmX7 hown hK hP hD hS 0 rfl rfl 0 (by decide) (hts (.fieldLink RX7 1 "LinkModelsModel" "thrown" "I") (by decide +kernel)) (fun _ h9 => h9) rfl (by decide +kernel) rfl rfl (Nat.le_of_ble_eq_true rfl) dX7_changed_2 (fun H locs hP hD hS => ?_)
  have hP : va_P (dC, dI) vwCl (rW h0 r cI cJ cZ 0 a1 (nI tp) (nI bs) (fun j => nI (cl j)) a5 a6 a7 (fun j => nI (fc j)) a9 (fun j => nI (mb j)) a11 a12 a13 a14 a15 a16 a17 a18 a19 a20 (nI az) v22 v23 v24 v25 v26 (nI bb) (fun j => nI (ct j)) (nI us) a30 a31 a32 a33 a34 a35 a36 a37 (fun j => nI (pil j)) (fun j => nI (rwv j)) (nI rl) v41 v42 v43 v44 v45) H := hP
  have hD : va_D A (rW h0 r cI cJ cZ 0 a1 (nI tp) (nI bs) (fun j => nI (cl j)) a5 a6 a7 (fun j => nI (fc j)) a9 (fun j => nI (mb j)) a11 a12 a13 a14 a15 a16 a17 a18 a19 a20 (nI az) v22 v23 v24 v25 v26 (nI bb) (fun j => nI (ct j)) (nI us) a30 a31 a32 a33 a34 a35 a36 a37 (fun j => nI (pil j)) (fun j => nI (rwv j)) (nI rl) v41 v42 v43 v44 v45) := hD
  refine lv_aload_n hx hb dX7_changed_5 rfl (lv_at hl 0 rfl) ?_
  refine lv_iload_n hx hb dX7_changed_6 rfl (lv_at hl 1 rfl) ?_
  have hFc := z_freeW hD hS hA
  refine vp_callSi (W.runV (As := [.int xb]) (rest := []) ⟨hx, hb, hml, hown, hts⟩ (kX7_isBuild l dC dI h0 r cI cJ cZ 0 a1 tp bs cl a5 a6 a7 fc a9 mb a11 a12 a13 a14 a15 a16 a17 a18 a19 a20 az v22 v23 v24 v25 v26 bb ct us a30 a31 a32 a33 a34 a35 a36 a37 pil rwv rl v41 v42 v43 v44 v45 ⟨by omega, by omega, by omega, hcl, hfc, hmb, hct, hpil, hrwv⟩ xb H.size) (cwV 1 hts zgX7_changed_X7_isBuild_248 rfl rfl rfl (by decide +kernel) ⟨(show 1 + 1 ≤ 6 by omega), (show 8 + (2 + 11) + 25 ≤ 156 by omega)⟩) (zVm (ci := 6) (q0 := 0) (q := (RX7, TX7, 46)) hK hP hD hL hS.2.1 hFc rfl rfl rfl) rfl rfl hl.1 rfl (lv_room (Nat.le_of_ble_eq_true rfl)) dX7_changed_7 ⟨(show 0 + 0 ≤ 0 by omega), (show 0 + 0 ≤ 0 by omega)⟩) (fun r13 hw => ?_)
  have hw : (r13 = 0 ∨ r13 = 1) ∧ (r13 = 1 → ∃ k, k < bs ∧ xb = nI k) := hw
  obtain ⟨w0r13, w1r13⟩ := hw
  refine lv_if_eq (tgt := 21) hx hb dX7_changed_10 (by decide) (fun cp10 => ?_) (fun cp10 => ?_)
  · refine lv_bipush (v := (-2)) hx hb dX7_changed_21 (by decide) ?_
    have hP9 : va_P (dC, dI) vwCl (rW h0 r cI cJ cZ 0 a1 (nI tp) (nI bs) (fun j => nI (cl j)) a5 a6 a7 (fun j => nI (fc j)) a9 (fun j => nI (mb j)) a11 a12 a13 a14 a15 a16 a17 a18 a19 a20 (nI az) v22 v23 v24 v25 v26 (nI bb) (fun j => nI (ct j)) (nI us) a30 a31 a32 a33 a34 a35 a36 a37 (fun j => nI (pil j)) (fun j => nI (rwv j)) (nI rl) v41 v42 v43 v44 v45) H := hP
    have hD9 : va_D A (rW h0 r cI cJ cZ 0 a1 (nI tp) (nI bs) (fun j => nI (cl j)) a5 a6 a7 (fun j => nI (fc j)) a9 (fun j => nI (mb j)) a11 a12 a13 a14 a15 a16 a17 a18 a19 a20 (nI az) v22 v23 v24 v25 v26 (nI bb) (fun j => nI (ct j)) (nI us) a30 a31 a32 a33 a34 a35 a36 a37 (fun j => nI (pil j)) (fun j => nI (rwv j)) (nI rl) v41 v42 v43 v44 v45) := hD
    exact W.iret (v := (-2 : Int32)) hx hb hr (fun t ht hW => ⟨⟨(-2 : Int32), (0, rl, pil, rwv, v43, v44, v45, v42), rfl, ⟨hpil, hrwv⟩, by rw [ht]; exact hP9, va_K.moved hW.alike hK, hD9⟩, hS.F ht⟩) hS.2.2 dX7_changed_23
  · obtain ⟨k14, hBk14, rfl⟩ := w1r13 (w0r13.resolve_left cp10)
    refine lv_aload_n hx hb dX7_changed_13 rfl (lv_at hl 0 rfl) ?_
    refine lv_iload_n hx hb dX7_changed_14 rfl (lv_at hl 2 rfl) ?_
    have hFc := z_freeW hD hS hA
    refine vp_callSi (W.runV (As := [.int xc]) (rest := []) ⟨hx, hb, hml, hown, hts⟩ (kX7_isBuild l dC dI h0 r cI cJ cZ 0 a1 tp bs cl a5 a6 a7 fc a9 mb a11 a12 a13 a14 a15 a16 a17 a18 a19 a20 az v22 v23 v24 v25 v26 bb ct us a30 a31 a32 a33 a34 a35 a36 a37 pil rwv rl v41 v42 v43 v44 v45 ⟨by omega, by omega, by omega, hcl, hfc, hmb, hct, hpil, hrwv⟩ xc H.size) (cwV 1 hts zgX7_changed_X7_isBuild_248 rfl rfl rfl (by decide +kernel) ⟨(show 1 + 1 ≤ 6 by omega), (show 8 + (2 + 11) + 25 ≤ 156 by omega)⟩) (zVm (ci := 6) (q0 := 0) (q := (RX7, TX7, 46)) hK hP hD hL hS.2.1 hFc rfl rfl rfl) rfl rfl hl.1 rfl (lv_room (Nat.le_of_ble_eq_true rfl)) dX7_changed_15 ⟨(show 0 + 0 ≤ 0 by omega), (show 0 + 0 ≤ 0 by omega)⟩) (fun r15 hw => ?_)
    have hw : (r15 = 0 ∨ r15 = 1) ∧ (r15 = 1 → ∃ k, k < bs ∧ xc = nI k) := hw
    obtain ⟨w0r15, w1r15⟩ := hw
    refine lv_if_ne (tgt := 24) hx hb dX7_changed_18 (by decide) (fun cp18 => ?_) (fun cp18 => ?_)
    · obtain ⟨k16, hBk16, rfl⟩ := w1r15 (w0r15.resolve_left cp18)
      refine lv_iconst (v := 0) hx hb dX7_changed_24 (by decide) ?_
      refine lv_istore (lv' := [(4, .int 0), (0, .ref h0), (1, .int (nI k14)), (2, .int (nI k16)), (3, .int ii)]) hx hb dX7_changed_25 hl (by decide) rfl (fun ls hl => ?_)
      refine lv_iconst (v := 0) hx hb dX7_changed_27 (by decide) ?_
      refine lv_istore (lv' := [(5, .int 0), (4, .int 0), (0, .ref h0), (1, .int (nI k14)), (2, .int (nI k16)), (3, .int ii)]) hx hb dX7_changed_28 hl (by decide) rfl (fun ls hl => ?_)
      exact J30 _ k14 k16 (0 : Int32) 0 0 rl pil rwv v43 v44 v45 v42 _ _ ls (Nat.lt_succ_self _) hpil hrwv (by first | omega | assumption | trivial) (by first | omega | assumption | trivial) (by first | omega | assumption | trivial) hP hD hS (lv_sub hl [2, 3, 4, 5, 1, 0] rfl)
    · refine lv_bipush (v := (-2)) hx hb dX7_changed_21 (by decide) ?_
      have hP9 : va_P (dC, dI) vwCl (rW h0 r cI cJ cZ 0 a1 (nI tp) (nI bs) (fun j => nI (cl j)) a5 a6 a7 (fun j => nI (fc j)) a9 (fun j => nI (mb j)) a11 a12 a13 a14 a15 a16 a17 a18 a19 a20 (nI az) v22 v23 v24 v25 v26 (nI bb) (fun j => nI (ct j)) (nI us) a30 a31 a32 a33 a34 a35 a36 a37 (fun j => nI (pil j)) (fun j => nI (rwv j)) (nI rl) v41 v42 v43 v44 v45) H := hP
      have hD9 : va_D A (rW h0 r cI cJ cZ 0 a1 (nI tp) (nI bs) (fun j => nI (cl j)) a5 a6 a7 (fun j => nI (fc j)) a9 (fun j => nI (mb j)) a11 a12 a13 a14 a15 a16 a17 a18 a19 a20 (nI az) v22 v23 v24 v25 v26 (nI bb) (fun j => nI (ct j)) (nI us) a30 a31 a32 a33 a34 a35 a36 a37 (fun j => nI (pil j)) (fun j => nI (rwv j)) (nI rl) v41 v42 v43 v44 v45) := hD
      exact W.iret (v := (-2 : Int32)) hx hb hr (fun t ht hW => ⟨⟨(-2 : Int32), (0, rl, pil, rwv, v43, v44, v45, v42), rfl, ⟨hpil, hrwv⟩, by rw [ht]; exact hP9, va_K.moved hW.alike hK, hD9⟩, hS.F ht⟩) hS.2.2 dX7_changed_23
theorem dX7_share_0 : decode cX7_share 0 = .ok (.aload_n 0, 1) := by decide +kernel
theorem dX7_share_1 : decode cX7_share 1 = .ok (.iconst 0, 1) := by decide +kernel
theorem dX7_share_2 : decode cX7_share 2 = .ok (.putfield 1, 3) := by decide +kernel
theorem dX7_share_5 : decode cX7_share 5 = .ok (.aload_n 0, 1) := by decide +kernel
theorem dX7_share_6 : decode cX7_share 6 = .ok (.iload_n 1, 1) := by decide +kernel
theorem dX7_share_7 : decode cX7_share 7 = .ok (.invokevirtual 248, 3) := by decide +kernel
theorem dX7_share_10 : decode cX7_share 10 = .ok (.ifCond .ne 10, 3) := by decide +kernel
theorem dX7_share_13 : decode cX7_share 13 = .ok (.aload_n 0, 1) := by decide +kernel
theorem dX7_share_14 : decode cX7_share 14 = .ok (.iconst 1, 1) := by decide +kernel
theorem dX7_share_15 : decode cX7_share 15 = .ok (.putfield 1, 3) := by decide +kernel
theorem dX7_share_18 : decode cX7_share 18 = .ok (.iconst 0, 1) := by decide +kernel
theorem dX7_share_19 : decode cX7_share 19 = .ok (.ireturn, 1) := by decide +kernel
theorem dX7_share_20 : decode cX7_share 20 = .ok (.iconst 0, 1) := by decide +kernel
theorem dX7_share_21 : decode cX7_share 21 = .ok (.istore_n 2, 1) := by decide +kernel
theorem dX7_share_22 : decode cX7_share 22 = .ok (.iconst 0, 1) := by decide +kernel
theorem dX7_share_23 : decode cX7_share 23 = .ok (.istore_n 3, 1) := by decide +kernel
theorem dX7_share_24 : decode cX7_share 24 = .ok (.iconst 0, 1) := by decide +kernel
theorem dX7_share_25 : decode cX7_share 25 = .ok (.istore 4, 2) := by decide +kernel
theorem dX7_share_27 : decode cX7_share 27 = .ok (.iload 4, 2) := by decide +kernel
theorem dX7_share_29 : decode cX7_share 29 = .ok (.aload_n 0, 1) := by decide +kernel
theorem dX7_share_30 : decode cX7_share 30 = .ok (.getfield 263, 3) := by decide +kernel
theorem dX7_share_33 : decode cX7_share 33 = .ok (.if_icmp .ge 45, 3) := by decide +kernel
theorem dX7_share_36 : decode cX7_share 36 = .ok (.iload_n 2, 1) := by decide +kernel
theorem dX7_share_37 : decode cX7_share 37 = .ok (.aload_n 0, 1) := by decide +kernel
theorem dX7_share_38 : decode cX7_share 38 = .ok (.iload_n 1, 1) := by decide +kernel
theorem dX7_share_39 : decode cX7_share 39 = .ok (.iload 4, 2) := by decide +kernel
theorem dX7_share_41 : decode cX7_share 41 = .ok (.invokevirtual 309, 3) := by decide +kernel
theorem dX7_share_44 : decode cX7_share 44 = .ok (.ifCond .ne 7, 3) := by decide +kernel
theorem dX7_share_47 : decode cX7_share 47 = .ok (.iconst 1, 1) := by decide +kernel
theorem dX7_share_48 : decode cX7_share 48 = .ok (.goto 4, 3) := by decide +kernel
theorem dX7_share_51 : decode cX7_share 51 = .ok (.iconst 0, 1) := by decide +kernel
theorem dX7_share_52 : decode cX7_share 52 = .ok (.iadd, 1) := by decide +kernel
theorem dX7_share_53 : decode cX7_share 53 = .ok (.istore_n 2, 1) := by decide +kernel
theorem dX7_share_54 : decode cX7_share 54 = .ok (.iload_n 3, 1) := by decide +kernel
theorem dX7_share_55 : decode cX7_share 55 = .ok (.aload_n 0, 1) := by decide +kernel
theorem dX7_share_56 : decode cX7_share 56 = .ok (.iload_n 1, 1) := by decide +kernel
theorem dX7_share_57 : decode cX7_share 57 = .ok (.iload 4, 2) := by decide +kernel
theorem dX7_share_59 : decode cX7_share 59 = .ok (.invokevirtual 309, 3) := by decide +kernel
theorem dX7_share_62 : decode cX7_share 62 = .ok (.ifCond .ne 7, 3) := by decide +kernel
theorem dX7_share_65 : decode cX7_share 65 = .ok (.iconst 0, 1) := by decide +kernel
theorem dX7_share_66 : decode cX7_share 66 = .ok (.goto 4, 3) := by decide +kernel
theorem dX7_share_69 : decode cX7_share 69 = .ok (.iconst 1, 1) := by decide +kernel
theorem dX7_share_70 : decode cX7_share 70 = .ok (.iadd, 1) := by decide +kernel
theorem dX7_share_71 : decode cX7_share 71 = .ok (.istore_n 3, 1) := by decide +kernel
theorem dX7_share_72 : decode cX7_share 72 = .ok (.iinc 4 1, 3) := by decide +kernel
theorem dX7_share_75 : decode cX7_share 75 = .ok (.goto (-48), 3) := by decide +kernel
theorem dX7_share_78 : decode cX7_share 78 = .ok (.aload_n 0, 1) := by decide +kernel
theorem dX7_share_79 : decode cX7_share 79 = .ok (.iload_n 3, 1) := by decide +kernel
theorem dX7_share_80 : decode cX7_share 80 = .ok (.ifCond .ne 7, 3) := by decide +kernel
theorem dX7_share_83 : decode cX7_share 83 = .ok (.iconst 2, 1) := by decide +kernel
theorem dX7_share_84 : decode cX7_share 84 = .ok (.goto 4, 3) := by decide +kernel
theorem dX7_share_87 : decode cX7_share 87 = .ok (.iconst 0, 1) := by decide +kernel
theorem dX7_share_88 : decode cX7_share 88 = .ok (.putfield 1, 3) := by decide +kernel
theorem dX7_share_91 : decode cX7_share 91 = .ok (.iload_n 3, 1) := by decide +kernel
theorem dX7_share_92 : decode cX7_share 92 = .ok (.ifCond .ne 7, 3) := by decide +kernel
theorem dX7_share_95 : decode cX7_share 95 = .ok (.iconst 0, 1) := by decide +kernel
theorem dX7_share_96 : decode cX7_share 96 = .ok (.goto 6, 3) := by decide +kernel
theorem dX7_share_99 : decode cX7_share 99 = .ok (.iload_n 2, 1) := by decide +kernel
theorem dX7_share_100 : decode cX7_share 100 = .ok (.iload_n 3, 1) := by decide +kernel
theorem dX7_share_101 : decode cX7_share 101 = .ok (.idiv, 1) := by decide +kernel
theorem dX7_share_102 : decode cX7_share 102 = .ok (.ireturn, 1) := by decide +kernel
def zwX7_share : List Cond := .code yX7_share cX7_share 5 (some .int) :: ([.fieldLink RX7 263 "LinkModelsModel" "uses" "I", .fieldLink RX7 1 "LinkModelsModel" "thrown" "I", .methodLink RX7 309 yX7_links, .instanceMethod yX7_links, .selects RX7 yX7_links yX7_links, .initialized RX7, .code yX7_links cX7_links 9 (some .int), .fieldLink RX7 296 "LinkModelsModel" "linked" "I", .fieldLink RX7 76 "LinkModelsModel" "caller" "[I", .fieldLink RX7 79 "LinkModelsModel" "owner" "[I", .fieldLink RX7 73 "LinkModelsModel" "useKind" "[I", .fieldLink RX7 23 "LinkModelsModel" "sort" "[I", .fieldLink RX7 48 "LinkModelsModel" "marks" "[I", .methodLink RX7 251 yX7_errorOf, .instanceMethod yX7_errorOf, .selects RX7 yX7_errorOf yX7_errorOf, .code yX7_errorOf cX7_errorOf 4 (some .int), .fieldLink RX7 38 "LinkModelsModel" "error" "[I", .methodLink RX7 201 yX7_place, .instanceMethod yX7_place, .selects RX7 yX7_place yX7_place, .code yX7_place cX7_place 4 (some .int), .fieldLink RX7 17 "LinkModelsModel" "classes" "[I", .fieldLink RX7 20 "LinkModelsModel" "className" "[I", .methodLink RX7 303 yX7_findMethod, .instanceMethod yX7_findMethod, .selects RX7 yX7_findMethod yX7_findMethod, .code yX7_findMethod cX7_findMethod 6 (some .int), .fieldLink RX7 279 "LinkModelsModel" "bodies" "I", .fieldLink RX7 285 "LinkModelsModel" "firstOne" "I", .fieldLink RX7 282 "LinkModelsModel" "bodied" "I", .methodLink RX7 292 yX7_findFaces, .instanceMethod yX7_findFaces, .selects RX7 yX7_findFaces yX7_findFaces, .code yX7_findFaces cX7_findFaces 8 none, .fieldLink RX7 266 "LinkModelsModel" "rowLong" "I", .fieldLink RX7 100 "LinkModelsModel" "row" "[I", .methodLink RX7 288 yX7_methodIn, .instanceMethod yX7_methodIn, .selects RX7 yX7_methodIn yX7_methodIn, .code yX7_methodIn cX7_methodIn 6 (some .int), .fieldLink RX7 51 "LinkModelsModel" "isMethod" "[Z", .fieldLink RX7 44 "LinkModelsModel" "word" "[J", .fieldLink RX7 82 "LinkModelsModel" "useWord" "[J", .fieldLink RX7 35 "LinkModelsModel" "members" "[I", .fieldLink RX7 61 "LinkModelsModel" "many" "[I", .fieldLink RX7 85 "LinkModelsModel" "useMany" "[I", .fieldLink RX7 67 "LinkModelsModel" "second" "[I", .fieldLink RX7 91 "LinkModelsModel" "useSecond" "[I", .fieldLink RX7 64 "LinkModelsModel" "first" "[I", .fieldLink RX7 88 "LinkModelsModel" "useFirst" "[I", .methodLink RX7 256 yX7_isOf, .instanceMethod yX7_isOf, .selects RX7 yX7_isOf yX7_isOf, .code yX7_isOf cX7_isOf 4 (some .boolean), .fieldLink RX7 41 "LinkModelsModel" "ofAll" "[I", .methodLink RX7 272 yX7_faceRow, .instanceMethod yX7_faceRow, .selects RX7 yX7_faceRow yX7_faceRow, .code yX7_faceRow cX7_faceRow 8 none, .fieldLink RX7 97 "LinkModelsModel" "pile" "[I", .fieldLink RX7 32 "LinkModelsModel" "face" "[I", .fieldLink RX7 29 "LinkModelsModel" "faces" "[I", .methodLink RX7 276 yX7_aboveOf, .instanceMethod yX7_aboveOf, .selects RX7 yX7_aboveOf yX7_aboveOf, .code yX7_aboveOf cX7_aboveOf 3 (some .int), .fieldLink RX7 26 "LinkModelsModel" "above" "[I", .methodLink RX7 299 yX7_findField, .instanceMethod yX7_findField, .selects RX7 yX7_findField yX7_findField, .code yX7_findField cX7_findField 7 (some .int), .methodLink RX7 269 yX7_fieldIn, .instanceMethod yX7_fieldIn, .selects RX7 yX7_fieldIn yX7_fieldIn, .code yX7_fieldIn cX7_fieldIn 4 (some .int), .methodLink RX7 248 yX7_isBuild, .instanceMethod yX7_isBuild, .selects RX7 yX7_isBuild yX7_isBuild, .code yX7_isBuild cX7_isBuild 2 (some .boolean), .fieldLink RX7 232 "LinkModelsModel" "builds" "I", .methodLink RX7 105 yX7_in, .static yX7_in, .code yX7_in cX7_in 6 (some .boolean)] ++ wsX70)
theorem zgX7_share_X7_links_309 : GoodIn zwX7_share (wsV RX7 309 RX7 yX7_links zwX7_links) := goodIn_app (goodIn_r _ [3, 4, 5, 6] rfl (by decide +kernel)) (goodIn_ca (goodIn_r _ [7, 8, 9, 10, 11, 12, 13, 14, 15, 16, 6, 17, 18, 19, 20, 21, 22, 23, 24, 25, 26, 27, 28, 29, 30, 31, 32, 33, 34, 35, 36, 37, 38, 39, 40, 41, 42, 43, 44, 45, 46, 47, 48, 49, 50, 51, 52, 53, 54, 55, 56, 57, 58, 59, 60, 61, 62, 63, 64, 65, 66, 67, 68, 69, 70, 71, 72, 73, 74, 75, 76] rfl (by decide +kernel)) (zgt zg7))
theorem zgX7_share_X7_isBuild_248 : GoodIn zwX7_share (wsV RX7 248 RX7 yX7_isBuild zwX7_isBuild) := goodIn_app (goodIn_r _ [77, 78, 79, 6] rfl (by decide +kernel)) (goodIn_ca (goodIn_r _ [80, 81, 82, 83, 6, 84] rfl (by decide +kernel)) (zgt zg7))
set_option maxHeartbeats 4000000 in
set_option maxRecDepth 100000 in
theorem kX7_share (l : Launch) (dC : Nat → ClassId) (dI : Nat → Nat → Nat) (h0 : Nat) (r : Nat → Nat) (cI : ClassId) (cJ : ClassId) (cZ : ClassId) (v0 : Int32) (a1 : Nat → Int32) (tp : Nat) (bs : Nat) (cl : Nat → Nat) (a5 : Nat → Int32) (a6 : Nat → Int32) (a7 : Nat → Int32) (fc : Nat → Nat) (a9 : Nat → Int32) (mb : Nat → Nat) (a11 : Nat → Int32) (a12 : Nat → Int32) (a13 : Nat → Int64) (a14 : Nat → Int32) (a15 : Nat → Int32) (a16 : Nat → Int32) (a17 : Nat → Int32) (a18 : Nat → Int32) (a19 : Nat → Int32) (a20 : Nat → Int32) (az : Nat) (v22 : Int32) (v23 : Int32) (v24 : Int64) (v25 : Int32) (v26 : Int32) (bb : Nat) (ct : Nat → Nat) (us : Nat) (a30 : Nat → Int32) (a31 : Nat → Int32) (a32 : Nat → Int32) (a33 : Nat → Int64) (a34 : Nat → Int32) (a35 : Nat → Int32) (a36 : Nat → Int32) (a37 : Nat → Int32) (pil : Nat → Nat) (rwv : Nat → Nat) (rl : Nat) (v41 : Int32) (v42 : Int32) (v43 : Int32) (v44 : Int32) (v45 : Int32) (hI : rWI tp bs cl fc mb az bb ct us pil rwv rl) (xb : Int32) (hp0 : ∀ bd, bd < bs → zOK cl a5 a7 fc a9 a11 bd) (sz : Nat) : Met l yX7_share zwX7_share ({ frames := 5, cells := 0, slots := 0, locals := 130 }) (zPm dC dI [.ref h0, .int xb] sz (rW h0 r cI cJ cZ v0 a1 (nI tp) (nI bs) (fun j => nI (cl j)) a5 a6 a7 (fun j => nI (fc j)) a9 (fun j => nI (mb j)) a11 a12 a13 a14 a15 a16 a17 a18 a19 a20 (nI az) v22 v23 v24 v25 v26 (nI bb) (fun j => nI (ct j)) (nI us) a30 a31 a32 a33 a34 a35 a36 a37 (fun j => nI (pil j)) (fun j => nI (rwv j)) (nI rl) v41 v42 v43 v44 v45) [(cI, .int), (cJ, .long), (cZ, .boolean)]) (va_Qi (fun (r : Int32) (u : Int32 × Nat × (Nat → Nat) × (Nat → Nat) × Int32 × Int32 × Int32 × Int32) => (∀ j, (u.2.2.1) j ≤ 15) ∧ (∀ j, (u.2.2.2.1) j ≤ 15)) (fun u t => zB dC dI (va_A (rW h0 r cI cJ cZ v0 a1 (nI tp) (nI bs) (fun j => nI (cl j)) a5 a6 a7 (fun j => nI (fc j)) a9 (fun j => nI (mb j)) a11 a12 a13 a14 a15 a16 a17 a18 a19 a20 (nI az) v22 v23 v24 v25 v26 (nI bb) (fun j => nI (ct j)) (nI us) a30 a31 a32 a33 a34 a35 a36 a37 (fun j => nI (pil j)) (fun j => nI (rwv j)) (nI rl) v41 v42 v43 v44 v45) sz) (rW h0 r cI cJ cZ (u.1) a1 (nI tp) (nI bs) (fun j => nI (cl j)) a5 a6 a7 (fun j => nI (fc j)) a9 (fun j => nI (mb j)) a11 a12 a13 a14 a15 a16 a17 a18 a19 a20 (nI az) v22 v23 v24 v25 v26 (nI bb) (fun j => nI (ct j)) (nI us) a30 a31 a32 a33 a34 a35 a36 a37 (fun j => nI ((u.2.2.1) j)) (fun j => nI ((u.2.2.2.1) j)) (nI (u.2.1)) v41 (u.2.2.2.2.2.2.2) (u.2.2.2.2.1) (u.2.2.2.2.2.1) (u.2.2.2.2.2.2.1)) [(cI, .int), (cJ, .long), (cZ, .boolean)] t) (va_A (rW h0 r cI cJ cZ v0 a1 (nI tp) (nI bs) (fun j => nI (cl j)) a5 a6 a7 (fun j => nI (fc j)) a9 (fun j => nI (mb j)) a11 a12 a13 a14 a15 a16 a17 a18 a19 a20 (nI az) v22 v23 v24 v25 v26 (nI bb) (fun j => nI (ct j)) (nI us) a30 a31 a32 a33 a34 a35 a36 a37 (fun j => nI (pil j)) (fun j => nI (rwv j)) (nI rl) v41 v42 v43 v44 v45) sz)) 0 0 (va_A (rW h0 r cI cJ cZ v0 a1 (nI tp) (nI bs) (fun j => nI (cl j)) a5 a6 a7 (fun j => nI (fc j)) a9 (fun j => nI (mb j)) a11 a12 a13 a14 a15 a16 a17 a18 a19 a20 (nI az) v22 v23 v24 v25 v26 (nI bb) (fun j => nI (ct j)) (nI us) a30 a31 a32 a33 a34 a35 a36 a37 (fun j => nI (pil j)) (fun j => nI (rwv j)) (nI rl) v41 v42 v43 v44 v45) sz) := by
  refine Met.ofW (cc := cX7_share) (maxL := 5) (ret := (some .int)) (by decide) rfl ?_
  intro p e s m args below meth c s₁ B hml hv
  obtain ⟨rfl, hsz, hP, hK, hD0, hL0⟩ := hv
  have hx := B.exec
  have hb := B.bytes
  have hr := B.returns
  have hts := atoms_spec (ws := zwX7_share) B.pre
  have hown : s.vm.findClass RX7 = some m.cls := findClass_of_methodNamed B.named
  have hiX7 : ∀ w ∈ wsX70, w ∈ zwX7_share := (fun _ h => List.mem_cons_of_mem _ (List.mem_append_right _ h))
  obtain ⟨htp, hbs, hus, hcl, hfc, hmb, hct, hpil, hrwv⟩ := hI
  subst hsz
  have hD := hD0.self (sz := s.heap.size)
  generalize hAe : va_A (rW h0 r cI cJ cZ v0 a1 (nI tp) (nI bs) (fun j => nI (cl j)) a5 a6 a7 (fun j => nI (fc j)) a9 (fun j => nI (mb j)) a11 a12 a13 a14 a15 a16 a17 a18 a19 a20 (nI az) v22 v23 v24 v25 v26 (nI bb) (fun j => nI (ct j)) (nI us) a30 a31 a32 a33 a34 a35 a36 a37 (fun j => nI (pil j)) (fun j => nI (rwv j)) (nI rl) v41 v42 v43 v44 v45) s.heap.size = A at hD hL0 ⊢
  have hA : ∀ q : Nat, s.heap.size ≤ q → A q := fun q h => by rw [← hAe]; exact Or.inr h
  have hS : va_S A s.heap s.heap [] := va_S.rf
  have hL := hL0
  have hl := lv_entry ([.ref h0, .int xb]) (n := 5) (Nat.le_of_ble_eq_true rfl)
  rw [lg_entry_eq]
  generalize (lg_sl ([.ref h0, .int xb]) ++ List.replicate (5 - (lg_sl ([.ref h0, .int xb])).length) Slot.unset).toArray = ls at hl ⊢
  have hl : lv_has ls 5 [(0, .ref h0), (1, .int xb)] := hl
  have J27 : ∀ (z27 : Nat) (bd : Nat) (go : Int32) (ba : Int32) (uu : Nat) (th : Int32) (rl2 : Nat) (pil2 : Nat → Nat) (rwv2 : Nat → Nat) (b0 : Int32) (b1 : Int32) (b2 : Int32) (lk : Int32) (H : Heap) (locs : List Loc) (ls : Array Slot), us - uu < z27 → (∀ j, pil2 j ≤ 15) → (∀ j, rwv2 j ≤ 15) → (bd < bs) → (uu ≤ us) → va_P (dC, dI) vwCl (rW h0 r cI cJ cZ th a1 (nI tp) (nI bs) (fun j => nI (cl j)) a5 a6 a7 (fun j => nI (fc j)) a9 (fun j => nI (mb j)) a11 a12 a13 a14 a15 a16 a17 a18 a19 a20 (nI az) v22 v23 v24 v25 v26 (nI bb) (fun j => nI (ct j)) (nI us) a30 a31 a32 a33 a34 a35 a36 a37 (fun j => nI (pil2 j)) (fun j => nI (rwv2 j)) (nI rl2) v41 lk b0 b1 b2) H → va_D A (rW h0 r cI cJ cZ th a1 (nI tp) (nI bs) (fun j => nI (cl j)) a5 a6 a7 (fun j => nI (fc j)) a9 (fun j => nI (mb j)) a11 a12 a13 a14 a15 a16 a17 a18 a19 a20 (nI az) v22 v23 v24 v25 v26 (nI bb) (fun j => nI (ct j)) (nI us) a30 a31 a32 a33 a34 a35 a36 a37 (fun j => nI (pil2 j)) (fun j => nI (rwv2 j)) (nI rl2) v41 lk b0 b1 b2) → va_S A s.heap H locs → lv_has ls 5 [(0, .ref h0), (1, .int (nI bd)), (2, .int go), (3, .int ba), (4, .int (nI uu))] → W p l e (headSpec zwX7_share { frames := 5, cells := 0, slots := 0, locals := 130 }).room s m (([.ref h0, .int xb] : List Value).toArray) below meth c H locs 0 0 (MQ below (va_Qi (fun (r : Int32) (u : Int32 × Nat × (Nat → Nat) × (Nat → Nat) × Int32 × Int32 × Int32 × Int32) => (∀ j, (u.2.2.1) j ≤ 15) ∧ (∀ j, (u.2.2.2.1) j ≤ 15)) (fun u t => zB dC dI (A) (rW h0 r cI cJ cZ (u.1) a1 (nI tp) (nI bs) (fun j => nI (cl j)) a5 a6 a7 (fun j => nI (fc j)) a9 (fun j => nI (mb j)) a11 a12 a13 a14 a15 a16 a17 a18 a19 a20 (nI az) v22 v23 v24 v25 v26 (nI bb) (fun j => nI (ct j)) (nI us) a30 a31 a32 a33 a34 a35 a36 a37 (fun j => nI ((u.2.2.1) j)) (fun j => nI ((u.2.2.2.1) j)) (nI (u.2.1)) v41 (u.2.2.2.2.2.2.2) (u.2.2.2.2.1) (u.2.2.2.2.2.1) (u.2.2.2.2.2.2.1)) [(cI, .int), (cJ, .long), (cZ, .boolean)] t) (A)) (([.ref h0, .int xb] : List Value).toArray) s 0 0 A) (F0 m 27 ls []) := by
    intro z27
    induction z27 with
    | zero => intro bd go ba uu th rl2 pil2 rwv2 b0 b1 b2 lk H locs ls h9; exact absurd h9 (Nat.not_lt_zero _)
    | succ z27 ih27 =>
      intro bd go ba uu th rl2 pil2 rwv2 b0 b1 b2 lk H locs ls hm27 hbpil2 hbrwv2 i27_0 i27_1 hP hD hS hl
      refine lv_iload hx hb dX7_share_27 (lv_at hl 4 rfl) ?_
      refine lv_aload_n hx hb dX7_share_29 rfl (lv_at hl 0 rfl) ?_
      refine va_get (D := (dC, dI)) (ci := 6) (v := .int (nI us)) (C := RX7) (T := TX7) (N := 46) hx hb hts hiX7 hown hK hP 0 rfl rfl 29 (by decide) (hts (.fieldLink RX7 263 "LinkModelsModel" "uses" "I") (by decide +kernel)) (fun _ h9 => h9) rfl dX7_share_30 ?_
      refine lv_icmp_ge (tgt := 78) hx hb dX7_share_33 (by decide) (fun cp33 => ?_) (fun cp33 => ?_)
      · have qcp33 : us ≤ uu := (nI_leI (a := us) (b := uu) (by omega) (by omega)).mp cp33
        refine lv_aload_n hx hb dX7_share_78 rfl (lv_at hl 0 rfl) ?_
        refine lv_iload_n hx hb dX7_share_79 rfl (lv_at hl 3 rfl) ?_
        refine lv_if_ne (tgt := 87) hx hb dX7_share_80 (by decide) (fun cp80 => ?_) (fun cp80 => ?_)
        · refine lv_iconst (v := 0) hx hb dX7_share_87 (by decide) ?_
          refine va_put (D := (dC, dI)) (ci := 6) (v := .int 0) (ty := (.int)) (C := RX7) (T := TX7) (N := 46) hx hb hts hiX7 tyX7 tyX7_ok nmX7 hown hK hP hD hS 0 rfl rfl 0 (by decide) (hts (.fieldLink RX7 1 "LinkModelsModel" "thrown" "I") (by decide +kernel)) (fun _ h9 => h9) rfl (by decide +kernel) rfl rfl (Nat.le_of_ble_eq_true rfl) dX7_share_88 (fun H locs hP hD hS => ?_)
          have hP : va_P (dC, dI) vwCl (rW h0 r cI cJ cZ 0 a1 (nI tp) (nI bs) (fun j => nI (cl j)) a5 a6 a7 (fun j => nI (fc j)) a9 (fun j => nI (mb j)) a11 a12 a13 a14 a15 a16 a17 a18 a19 a20 (nI az) v22 v23 v24 v25 v26 (nI bb) (fun j => nI (ct j)) (nI us) a30 a31 a32 a33 a34 a35 a36 a37 (fun j => nI (pil2 j)) (fun j => nI (rwv2 j)) (nI rl2) v41 lk b0 b1 b2) H := hP
          have hD : va_D A (rW h0 r cI cJ cZ 0 a1 (nI tp) (nI bs) (fun j => nI (cl j)) a5 a6 a7 (fun j => nI (fc j)) a9 (fun j => nI (mb j)) a11 a12 a13 a14 a15 a16 a17 a18 a19 a20 (nI az) v22 v23 v24 v25 v26 (nI bb) (fun j => nI (ct j)) (nI us) a30 a31 a32 a33 a34 a35 a36 a37 (fun j => nI (pil2 j)) (fun j => nI (rwv2 j)) (nI rl2) v41 lk b0 b1 b2) := hD
          refine lv_iload_n hx hb dX7_share_91 rfl (lv_at hl 3 rfl) ?_
          refine lv_if_ne (tgt := 99) hx hb dX7_share_92 (by decide) (fun cp92 => ?_) (fun cp92 => ?_)
          · refine lv_iload_n hx hb dX7_share_99 rfl (lv_at hl 2 rfl) ?_
            refine lv_iload_n hx hb dX7_share_100 rfl (lv_at hl 3 rfl) ?_
            refine lv_idiv hx hb dX7_share_101 (by assumption) ?_
            refine lv_topi (fun x1 ex1 => ?_)
            have hP9 : va_P (dC, dI) vwCl (rW h0 r cI cJ cZ 0 a1 (nI tp) (nI bs) (fun j => nI (cl j)) a5 a6 a7 (fun j => nI (fc j)) a9 (fun j => nI (mb j)) a11 a12 a13 a14 a15 a16 a17 a18 a19 a20 (nI az) v22 v23 v24 v25 v26 (nI bb) (fun j => nI (ct j)) (nI us) a30 a31 a32 a33 a34 a35 a36 a37 (fun j => nI (pil2 j)) (fun j => nI (rwv2 j)) (nI rl2) v41 lk b0 b1 b2) H := hP
            have hD9 : va_D A (rW h0 r cI cJ cZ 0 a1 (nI tp) (nI bs) (fun j => nI (cl j)) a5 a6 a7 (fun j => nI (fc j)) a9 (fun j => nI (mb j)) a11 a12 a13 a14 a15 a16 a17 a18 a19 a20 (nI az) v22 v23 v24 v25 v26 (nI bb) (fun j => nI (ct j)) (nI us) a30 a31 a32 a33 a34 a35 a36 a37 (fun j => nI (pil2 j)) (fun j => nI (rwv2 j)) (nI rl2) v41 lk b0 b1 b2) := hD
            exact W.iret (v := x1) hx hb hr (fun t ht hW => ⟨⟨x1, (0, rl2, pil2, rwv2, b0, b1, b2, lk), rfl, ⟨hbpil2, hbrwv2⟩, by rw [ht]; exact hP9, va_K.moved hW.alike hK, hD9⟩, hS.F ht⟩) hS.2.2 dX7_share_102
          · refine lv_iconst (v := 0) hx hb dX7_share_95 (by decide) ?_
            refine lv_goto (tgt := 102) hx hb dX7_share_96 (by decide) ?_
            have hP9 : va_P (dC, dI) vwCl (rW h0 r cI cJ cZ 0 a1 (nI tp) (nI bs) (fun j => nI (cl j)) a5 a6 a7 (fun j => nI (fc j)) a9 (fun j => nI (mb j)) a11 a12 a13 a14 a15 a16 a17 a18 a19 a20 (nI az) v22 v23 v24 v25 v26 (nI bb) (fun j => nI (ct j)) (nI us) a30 a31 a32 a33 a34 a35 a36 a37 (fun j => nI (pil2 j)) (fun j => nI (rwv2 j)) (nI rl2) v41 lk b0 b1 b2) H := hP
            have hD9 : va_D A (rW h0 r cI cJ cZ 0 a1 (nI tp) (nI bs) (fun j => nI (cl j)) a5 a6 a7 (fun j => nI (fc j)) a9 (fun j => nI (mb j)) a11 a12 a13 a14 a15 a16 a17 a18 a19 a20 (nI az) v22 v23 v24 v25 v26 (nI bb) (fun j => nI (ct j)) (nI us) a30 a31 a32 a33 a34 a35 a36 a37 (fun j => nI (pil2 j)) (fun j => nI (rwv2 j)) (nI rl2) v41 lk b0 b1 b2) := hD
            exact W.iret (v := (0 : Int32)) hx hb hr (fun t ht hW => ⟨⟨(0 : Int32), (0, rl2, pil2, rwv2, b0, b1, b2, lk), rfl, ⟨hbpil2, hbrwv2⟩, by rw [ht]; exact hP9, va_K.moved hW.alike hK, hD9⟩, hS.F ht⟩) hS.2.2 dX7_share_102
        · refine lv_iconst (v := 2) hx hb dX7_share_83 (by decide) ?_
          refine lv_goto (tgt := 88) hx hb dX7_share_84 (by decide) ?_
          refine va_put (D := (dC, dI)) (ci := 6) (v := .int 2) (ty := (.int)) (C := RX7) (T := TX7) (N := 46) hx hb hts hiX7 tyX7 tyX7_ok nmX7 hown hK hP hD hS 0 rfl rfl 0 (by decide) (hts (.fieldLink RX7 1 "LinkModelsModel" "thrown" "I") (by decide +kernel)) (fun _ h9 => h9) rfl (by decide +kernel) rfl rfl (Nat.le_of_ble_eq_true rfl) dX7_share_88 (fun H locs hP hD hS => ?_)
          have hP : va_P (dC, dI) vwCl (rW h0 r cI cJ cZ 2 a1 (nI tp) (nI bs) (fun j => nI (cl j)) a5 a6 a7 (fun j => nI (fc j)) a9 (fun j => nI (mb j)) a11 a12 a13 a14 a15 a16 a17 a18 a19 a20 (nI az) v22 v23 v24 v25 v26 (nI bb) (fun j => nI (ct j)) (nI us) a30 a31 a32 a33 a34 a35 a36 a37 (fun j => nI (pil2 j)) (fun j => nI (rwv2 j)) (nI rl2) v41 lk b0 b1 b2) H := hP
          have hD : va_D A (rW h0 r cI cJ cZ 2 a1 (nI tp) (nI bs) (fun j => nI (cl j)) a5 a6 a7 (fun j => nI (fc j)) a9 (fun j => nI (mb j)) a11 a12 a13 a14 a15 a16 a17 a18 a19 a20 (nI az) v22 v23 v24 v25 v26 (nI bb) (fun j => nI (ct j)) (nI us) a30 a31 a32 a33 a34 a35 a36 a37 (fun j => nI (pil2 j)) (fun j => nI (rwv2 j)) (nI rl2) v41 lk b0 b1 b2) := hD
          refine lv_iload_n hx hb dX7_share_91 rfl (lv_at hl 3 rfl) ?_
          refine lv_if_ne (tgt := 99) hx hb dX7_share_92 (by decide) (fun cp92 => ?_) (fun cp92 => ?_)
          · refine lv_iload_n hx hb dX7_share_99 rfl (lv_at hl 2 rfl) ?_
            refine lv_iload_n hx hb dX7_share_100 rfl (lv_at hl 3 rfl) ?_
            refine lv_idiv hx hb dX7_share_101 (by assumption) ?_
            refine lv_topi (fun x2 ex2 => ?_)
            have hP9 : va_P (dC, dI) vwCl (rW h0 r cI cJ cZ 2 a1 (nI tp) (nI bs) (fun j => nI (cl j)) a5 a6 a7 (fun j => nI (fc j)) a9 (fun j => nI (mb j)) a11 a12 a13 a14 a15 a16 a17 a18 a19 a20 (nI az) v22 v23 v24 v25 v26 (nI bb) (fun j => nI (ct j)) (nI us) a30 a31 a32 a33 a34 a35 a36 a37 (fun j => nI (pil2 j)) (fun j => nI (rwv2 j)) (nI rl2) v41 lk b0 b1 b2) H := hP
            have hD9 : va_D A (rW h0 r cI cJ cZ 2 a1 (nI tp) (nI bs) (fun j => nI (cl j)) a5 a6 a7 (fun j => nI (fc j)) a9 (fun j => nI (mb j)) a11 a12 a13 a14 a15 a16 a17 a18 a19 a20 (nI az) v22 v23 v24 v25 v26 (nI bb) (fun j => nI (ct j)) (nI us) a30 a31 a32 a33 a34 a35 a36 a37 (fun j => nI (pil2 j)) (fun j => nI (rwv2 j)) (nI rl2) v41 lk b0 b1 b2) := hD
            exact W.iret (v := x2) hx hb hr (fun t ht hW => ⟨⟨x2, (2, rl2, pil2, rwv2, b0, b1, b2, lk), rfl, ⟨hbpil2, hbrwv2⟩, by rw [ht]; exact hP9, va_K.moved hW.alike hK, hD9⟩, hS.F ht⟩) hS.2.2 dX7_share_102
          · refine lv_iconst (v := 0) hx hb dX7_share_95 (by decide) ?_
            refine lv_goto (tgt := 102) hx hb dX7_share_96 (by decide) ?_
            have hP9 : va_P (dC, dI) vwCl (rW h0 r cI cJ cZ 2 a1 (nI tp) (nI bs) (fun j => nI (cl j)) a5 a6 a7 (fun j => nI (fc j)) a9 (fun j => nI (mb j)) a11 a12 a13 a14 a15 a16 a17 a18 a19 a20 (nI az) v22 v23 v24 v25 v26 (nI bb) (fun j => nI (ct j)) (nI us) a30 a31 a32 a33 a34 a35 a36 a37 (fun j => nI (pil2 j)) (fun j => nI (rwv2 j)) (nI rl2) v41 lk b0 b1 b2) H := hP
            have hD9 : va_D A (rW h0 r cI cJ cZ 2 a1 (nI tp) (nI bs) (fun j => nI (cl j)) a5 a6 a7 (fun j => nI (fc j)) a9 (fun j => nI (mb j)) a11 a12 a13 a14 a15 a16 a17 a18 a19 a20 (nI az) v22 v23 v24 v25 v26 (nI bb) (fun j => nI (ct j)) (nI us) a30 a31 a32 a33 a34 a35 a36 a37 (fun j => nI (pil2 j)) (fun j => nI (rwv2 j)) (nI rl2) v41 lk b0 b1 b2) := hD
            exact W.iret (v := (0 : Int32)) hx hb hr (fun t ht hW => ⟨⟨(0 : Int32), (2, rl2, pil2, rwv2, b0, b1, b2, lk), rfl, ⟨hbpil2, hbrwv2⟩, by rw [ht]; exact hP9, va_K.moved hW.alike hK, hD9⟩, hS.F ht⟩) hS.2.2 dX7_share_102
      · have qcp33 : ¬ us ≤ uu := fun h9 => cp33 ((nI_leI (a := us) (b := uu) (by omega) (by omega)).mpr h9)
        refine lv_iload_n hx hb dX7_share_36 rfl (lv_at hl 2 rfl) ?_
        refine lv_aload_n hx hb dX7_share_37 rfl (lv_at hl 0 rfl) ?_
        refine lv_iload_n hx hb dX7_share_38 rfl (lv_at hl 1 rfl) ?_
        refine lv_iload hx hb dX7_share_39 (lv_at hl 4 rfl) ?_
        have hFc := z_freeW hD hS hA
        refine va_calli (va_runV (As := [.int (nI bd), .int (nI uu)]) (rest := [.int go]) ⟨hx, hb, hml, hown, hts⟩ (kX7_links l dC dI h0 r cI cJ cZ th a1 tp bs cl a5 a6 a7 fc a9 mb a11 a12 a13 a14 a15 a16 a17 a18 a19 a20 az v22 v23 v24 v25 v26 bb ct us a30 a31 a32 a33 a34 a35 a36 a37 pil2 rwv2 rl2 v41 lk b0 b1 b2 ⟨by omega, by omega, by omega, hcl, hfc, hmb, hct, hbpil2, hbrwv2⟩ bd uu (by first | omega | assumption | trivial) (by first | omega | assumption | trivial) (by exact hp0) H.size) (cwV 2 hts zgX7_share_X7_links_309 rfl rfl rfl (by decide +kernel) ⟨(show 4 + 1 ≤ 5 by omega), (show 8 + (9 + 11) + 102 ≤ 130 by omega)⟩) (zVm (ci := 6) (q0 := 0) (q := (RX7, TX7, 46)) hK hP hD hL hS.2.1 hFc rfl rfl rfl) rfl rfl hl.1 rfl (lv_room (Nat.le_of_ble_eq_true rfl)) dX7_share_41 ⟨(show 0 + 0 ≤ 0 by omega), (show 0 + 0 ≤ 0 by omega)⟩) hS (fun q _ h => hFc q h) hFc (fun r3 u11 t H1 locs ht hvm hw hB hz1 hk1 hS => ?_)
        obtain ⟨o4, o5, o6, o7, o8, o9, o10⟩ := u11
        obtain ⟨hP, hK9, hD⟩ := hB
        rw [ht] at hP
        have hD := hD.weaken (fun k q _ h => hFc q.1 h)
        generalize H1 = H at hP hS
        have hP : va_P (dC, dI) vwCl (rW h0 r cI cJ cZ th a1 (nI tp) (nI bs) (fun j => nI (cl j)) a5 a6 a7 (fun j => nI (fc j)) a9 (fun j => nI (mb j)) a11 a12 a13 a14 a15 a16 a17 a18 a19 a20 (nI az) v22 v23 v24 v25 v26 (nI bb) (fun j => nI (ct j)) (nI us) a30 a31 a32 a33 a34 a35 a36 a37 (fun j => nI (o5 j)) (fun j => nI (o6 j)) (nI o4) v41 o10 o7 o8 o9) H := hP
        have hD : va_D A (rW h0 r cI cJ cZ th a1 (nI tp) (nI bs) (fun j => nI (cl j)) a5 a6 a7 (fun j => nI (fc j)) a9 (fun j => nI (mb j)) a11 a12 a13 a14 a15 a16 a17 a18 a19 a20 (nI az) v22 v23 v24 v25 v26 (nI bb) (fun j => nI (ct j)) (nI us) a30 a31 a32 a33 a34 a35 a36 a37 (fun j => nI (o5 j)) (fun j => nI (o6 j)) (nI o4) v41 o10 o7 o8 o9) := hD
        have hw : (zM o10 (fun k => k < 960)) ∧ (0 < r3 ∨ 7 < a30 uu ∨ ∃ k, k < 960 ∧ o10 = nI k) ∧ (7 < a30 uu → o10 = -1) ∧ (∀ j, o5 j ≤ 15) ∧ (∀ j, o6 j ≤ 15) := hw
        obtain ⟨w0r3, w1r3, w2r3, hbo5, hbo6⟩ := hw
        refine lv_if_ne (tgt := 51) hx hb dX7_share_44 (by decide) (fun cp44 => ?_) (fun cp44 => ?_)
        · refine lv_iconst (v := 0) hx hb dX7_share_51 (by decide) ?_
          refine lv_iadd hx hb dX7_share_52 ?_
          refine lv_topi (fun x12 ex12 => ?_)
          refine lv_istore_n (lv' := [(2, .int x12), (0, .ref h0), (1, .int (nI bd)), (3, .int ba), (4, .int (nI uu))]) hx hb dX7_share_53 rfl hl (by decide) rfl (fun ls hl => ?_)
          refine lv_iload_n hx hb dX7_share_54 rfl (lv_at hl 3 rfl) ?_
          refine lv_aload_n hx hb dX7_share_55 rfl (lv_at hl 1 rfl) ?_
          refine lv_iload_n hx hb dX7_share_56 rfl (lv_at hl 2 rfl) ?_
          refine lv_iload hx hb dX7_share_57 (lv_at hl 4 rfl) ?_
          have hFc := z_freeW hD hS hA
          refine va_calli (va_runV (As := [.int (nI bd), .int (nI uu)]) (rest := [.int ba]) ⟨hx, hb, hml, hown, hts⟩ (kX7_links l dC dI h0 r cI cJ cZ th a1 tp bs cl a5 a6 a7 fc a9 mb a11 a12 a13 a14 a15 a16 a17 a18 a19 a20 az v22 v23 v24 v25 v26 bb ct us a30 a31 a32 a33 a34 a35 a36 a37 o5 o6 o4 v41 o10 o7 o8 o9 ⟨by omega, by omega, by omega, hcl, hfc, hmb, hct, hbo5, hbo6⟩ bd uu (by first | omega | assumption | trivial) (by first | omega | assumption | trivial) (by exact hp0) H.size) (cwV 2 hts zgX7_share_X7_links_309 rfl rfl rfl (by decide +kernel) ⟨(show 4 + 1 ≤ 5 by omega), (show 8 + (9 + 11) + 102 ≤ 130 by omega)⟩) (zVm (ci := 6) (q0 := 0) (q := (RX7, TX7, 46)) hK hP hD hL hS.2.1 hFc rfl rfl rfl) rfl rfl hl.1 rfl (lv_room (Nat.le_of_ble_eq_true rfl)) dX7_share_59 ⟨(show 0 + 0 ≤ 0 by omega), (show 0 + 0 ≤ 0 by omega)⟩) hS (fun q _ h => hFc q h) hFc (fun r13 u21 t H1 locs ht hvm hw hB hz1 hk1 hS => ?_)
          obtain ⟨o14, o15, o16, o17, o18, o19, o20⟩ := u21
          obtain ⟨hP, hK9, hD⟩ := hB
          rw [ht] at hP
          have hD := hD.weaken (fun k q _ h => hFc q.1 h)
          generalize H1 = H at hP hS
          have hP : va_P (dC, dI) vwCl (rW h0 r cI cJ cZ th a1 (nI tp) (nI bs) (fun j => nI (cl j)) a5 a6 a7 (fun j => nI (fc j)) a9 (fun j => nI (mb j)) a11 a12 a13 a14 a15 a16 a17 a18 a19 a20 (nI az) v22 v23 v24 v25 v26 (nI bb) (fun j => nI (ct j)) (nI us) a30 a31 a32 a33 a34 a35 a36 a37 (fun j => nI (o15 j)) (fun j => nI (o16 j)) (nI o14) v41 o20 o17 o18 o19) H := hP
          have hD : va_D A (rW h0 r cI cJ cZ th a1 (nI tp) (nI bs) (fun j => nI (cl j)) a5 a6 a7 (fun j => nI (fc j)) a9 (fun j => nI (mb j)) a11 a12 a13 a14 a15 a16 a17 a18 a19 a20 (nI az) v22 v23 v24 v25 v26 (nI bb) (fun j => nI (ct j)) (nI us) a30 a31 a32 a33 a34 a35 a36 a37 (fun j => nI (o15 j)) (fun j => nI (o16 j)) (nI o14) v41 o20 o17 o18 o19) := hD
          have hw : (zM o20 (fun k => k < 960)) ∧ (0 < r13 ∨ 7 < a30 uu ∨ ∃ k, k < 960 ∧ o20 = nI k) ∧ (7 < a30 uu → o20 = -1) ∧ (∀ j, o15 j ≤ 15) ∧ (∀ j, o16 j ≤ 15) := hw
          obtain ⟨w0r13, w1r13, w2r13, hbo15, hbo16⟩ := hw
          refine lv_if_ne (tgt := 69) hx hb dX7_share_62 (by decide) (fun cp62 => ?_) (fun cp62 => ?_)
          · refine lv_iconst (v := 1) hx hb dX7_share_69 (by decide) ?_
            refine lv_iadd hx hb dX7_share_70 ?_
            refine lv_topi (fun x22 ex22 => ?_)
            refine lv_istore_n (lv' := [(3, .int x22), (2, .int x12), (0, .ref h0), (1, .int (nI bd)), (4, .int (nI uu))]) hx hb dX7_share_71 rfl hl (by decide) rfl (fun ls hl => ?_)
            obtain ⟨x23, ex23⟩ : ∃ y : Int32, y = (nI uu) + 1 := ⟨_, rfl⟩
            refine lv_iinc (v := x23) (lv' := [(4, .int x23), (3, .int x22), (2, .int x12), (0, .ref h0), (1, .int (nI bd))]) hx hb dX7_share_72 hl (k := 4) rfl (by rw [ex23]; rfl) (by decide) rfl (fun ls hl => ?_)
            obtain rfl : x23 = nI (uu + 1) := by rw [ex23]; exact nI_add (uu) 1
            refine lv_goto (tgt := 27) hx hb dX7_share_75 (by decide) ?_
            exact ih27 bd x12 x22 (uu + 1) th o14 o15 o16 o17 o18 o19 o20 _ _ ls (by omega) hbo15 hbo16 (by first | omega | assumption | trivial) (by first | omega | assumption | trivial) hP hD hS (lv_sub hl [3, 4, 2, 1, 0] rfl)
          · refine lv_iconst (v := 0) hx hb dX7_share_65 (by decide) ?_
            refine lv_goto (tgt := 70) hx hb dX7_share_66 (by decide) ?_
            refine lv_iadd hx hb dX7_share_70 ?_
            refine lv_topi (fun x24 ex24 => ?_)
            refine lv_istore_n (lv' := [(3, .int x24), (2, .int x12), (0, .ref h0), (1, .int (nI bd)), (4, .int (nI uu))]) hx hb dX7_share_71 rfl hl (by decide) rfl (fun ls hl => ?_)
            obtain ⟨x25, ex25⟩ : ∃ y : Int32, y = (nI uu) + 1 := ⟨_, rfl⟩
            refine lv_iinc (v := x25) (lv' := [(4, .int x25), (3, .int x24), (2, .int x12), (0, .ref h0), (1, .int (nI bd))]) hx hb dX7_share_72 hl (k := 4) rfl (by rw [ex25]; rfl) (by decide) rfl (fun ls hl => ?_)
            obtain rfl : x25 = nI (uu + 1) := by rw [ex25]; exact nI_add (uu) 1
            refine lv_goto (tgt := 27) hx hb dX7_share_75 (by decide) ?_
            exact ih27 bd x12 x24 (uu + 1) th o14 o15 o16 o17 o18 o19 o20 _ _ ls (by omega) hbo15 hbo16 (by first | omega | assumption | trivial) (by first | omega | assumption | trivial) hP hD hS (lv_sub hl [3, 4, 2, 1, 0] rfl)
        · refine lv_iconst (v := 1) hx hb dX7_share_47 (by decide) ?_
          refine lv_goto (tgt := 52) hx hb dX7_share_48 (by decide) ?_
          refine lv_iadd hx hb dX7_share_52 ?_
          refine lv_topi (fun x26 ex26 => ?_)
          refine lv_istore_n (lv' := [(2, .int x26), (0, .ref h0), (1, .int (nI bd)), (3, .int ba), (4, .int (nI uu))]) hx hb dX7_share_53 rfl hl (by decide) rfl (fun ls hl => ?_)
          refine lv_iload_n hx hb dX7_share_54 rfl (lv_at hl 3 rfl) ?_
          refine lv_aload_n hx hb dX7_share_55 rfl (lv_at hl 1 rfl) ?_
          refine lv_iload_n hx hb dX7_share_56 rfl (lv_at hl 2 rfl) ?_
          refine lv_iload hx hb dX7_share_57 (lv_at hl 4 rfl) ?_
          have hFc := z_freeW hD hS hA
          refine va_calli (va_runV (As := [.int (nI bd), .int (nI uu)]) (rest := [.int ba]) ⟨hx, hb, hml, hown, hts⟩ (kX7_links l dC dI h0 r cI cJ cZ th a1 tp bs cl a5 a6 a7 fc a9 mb a11 a12 a13 a14 a15 a16 a17 a18 a19 a20 az v22 v23 v24 v25 v26 bb ct us a30 a31 a32 a33 a34 a35 a36 a37 o5 o6 o4 v41 o10 o7 o8 o9 ⟨by omega, by omega, by omega, hcl, hfc, hmb, hct, hbo5, hbo6⟩ bd uu (by first | omega | assumption | trivial) (by first | omega | assumption | trivial) (by exact hp0) H.size) (cwV 2 hts zgX7_share_X7_links_309 rfl rfl rfl (by decide +kernel) ⟨(show 4 + 1 ≤ 5 by omega), (show 8 + (9 + 11) + 102 ≤ 130 by omega)⟩) (zVm (ci := 6) (q0 := 0) (q := (RX7, TX7, 46)) hK hP hD hL hS.2.1 hFc rfl rfl rfl) rfl rfl hl.1 rfl (lv_room (Nat.le_of_ble_eq_true rfl)) dX7_share_59 ⟨(show 0 + 0 ≤ 0 by omega), (show 0 + 0 ≤ 0 by omega)⟩) hS (fun q _ h => hFc q h) hFc (fun r27 u35 t H1 locs ht hvm hw hB hz1 hk1 hS => ?_)
          obtain ⟨o28, o29, o30, o31, o32, o33, o34⟩ := u35
          obtain ⟨hP, hK9, hD⟩ := hB
          rw [ht] at hP
          have hD := hD.weaken (fun k q _ h => hFc q.1 h)
          generalize H1 = H at hP hS
          have hP : va_P (dC, dI) vwCl (rW h0 r cI cJ cZ th a1 (nI tp) (nI bs) (fun j => nI (cl j)) a5 a6 a7 (fun j => nI (fc j)) a9 (fun j => nI (mb j)) a11 a12 a13 a14 a15 a16 a17 a18 a19 a20 (nI az) v22 v23 v24 v25 v26 (nI bb) (fun j => nI (ct j)) (nI us) a30 a31 a32 a33 a34 a35 a36 a37 (fun j => nI (o29 j)) (fun j => nI (o30 j)) (nI o28) v41 o34 o31 o32 o33) H := hP
          have hD : va_D A (rW h0 r cI cJ cZ th a1 (nI tp) (nI bs) (fun j => nI (cl j)) a5 a6 a7 (fun j => nI (fc j)) a9 (fun j => nI (mb j)) a11 a12 a13 a14 a15 a16 a17 a18 a19 a20 (nI az) v22 v23 v24 v25 v26 (nI bb) (fun j => nI (ct j)) (nI us) a30 a31 a32 a33 a34 a35 a36 a37 (fun j => nI (o29 j)) (fun j => nI (o30 j)) (nI o28) v41 o34 o31 o32 o33) := hD
          have hw : (zM o34 (fun k => k < 960)) ∧ (0 < r27 ∨ 7 < a30 uu ∨ ∃ k, k < 960 ∧ o34 = nI k) ∧ (7 < a30 uu → o34 = -1) ∧ (∀ j, o29 j ≤ 15) ∧ (∀ j, o30 j ≤ 15) := hw
          obtain ⟨w0r27, w1r27, w2r27, hbo29, hbo30⟩ := hw
          refine lv_if_ne (tgt := 69) hx hb dX7_share_62 (by decide) (fun cp62 => ?_) (fun cp62 => ?_)
          · refine lv_iconst (v := 1) hx hb dX7_share_69 (by decide) ?_
            refine lv_iadd hx hb dX7_share_70 ?_
            refine lv_topi (fun x36 ex36 => ?_)
            refine lv_istore_n (lv' := [(3, .int x36), (2, .int x26), (0, .ref h0), (1, .int (nI bd)), (4, .int (nI uu))]) hx hb dX7_share_71 rfl hl (by decide) rfl (fun ls hl => ?_)
            obtain ⟨x37, ex37⟩ : ∃ y : Int32, y = (nI uu) + 1 := ⟨_, rfl⟩
            refine lv_iinc (v := x37) (lv' := [(4, .int x37), (3, .int x36), (2, .int x26), (0, .ref h0), (1, .int (nI bd))]) hx hb dX7_share_72 hl (k := 4) rfl (by rw [ex37]; rfl) (by decide) rfl (fun ls hl => ?_)
            obtain rfl : x37 = nI (uu + 1) := by rw [ex37]; exact nI_add (uu) 1
            refine lv_goto (tgt := 27) hx hb dX7_share_75 (by decide) ?_
            exact ih27 bd x26 x36 (uu + 1) th o28 o29 o30 o31 o32 o33 o34 _ _ ls (by omega) hbo29 hbo30 (by first | omega | assumption | trivial) (by first | omega | assumption | trivial) hP hD hS (lv_sub hl [3, 4, 2, 1, 0] rfl)
          · refine lv_iconst (v := 0) hx hb dX7_share_65 (by decide) ?_
            refine lv_goto (tgt := 70) hx hb dX7_share_66 (by decide) ?_
            refine lv_iadd hx hb dX7_share_70 ?_
            refine lv_topi (fun x38 ex38 => ?_)
            refine lv_istore_n (lv' := [(3, .int x38), (2, .int x26), (0, .ref h0), (1, .int (nI bd)), (4, .int (nI uu))]) hx hb dX7_share_71 rfl hl (by decide) rfl (fun ls hl => ?_)
            obtain ⟨x39, ex39⟩ : ∃ y : Int32, y = (nI uu) + 1 := ⟨_, rfl⟩
            refine lv_iinc (v := x39) (lv' := [(4, .int x39), (3, .int x38), (2, .int x26), (0, .ref h0), (1, .int (nI bd))]) hx hb dX7_share_72 hl (k := 4) rfl (by rw [ex39]; rfl) (by decide) rfl (fun ls hl => ?_)
            obtain rfl : x39 = nI (uu + 1) := by rw [ex39]; exact nI_add (uu) 1
            refine lv_goto (tgt := 27) hx hb dX7_share_75 (by decide) ?_
            exact ih27 bd x26 x38 (uu + 1) th o28 o29 o30 o31 o32 o33 o34 _ _ ls (by omega) hbo29 hbo30 (by first | omega | assumption | trivial) (by first | omega | assumption | trivial) hP hD hS (lv_sub hl [3, 4, 2, 1, 0] rfl)
  refine lv_aload_n hx hb dX7_share_0 rfl (lv_at hl 0 rfl) ?_
  refine lv_iconst (v := 0) hx hb dX7_share_1 (by decide) ?_
  refine va_put (D := (dC, dI)) (ci := 6) (v := .int 0) (ty := (.int)) (C := RX7) (T := TX7) (N := 46) hx hb hts hiX7 tyX7 tyX7_ok nmX7 hown hK hP hD hS 0 rfl rfl 0 (by decide) (hts (.fieldLink RX7 1 "LinkModelsModel" "thrown" "I") (by decide +kernel)) (fun _ h9 => h9) rfl (by decide +kernel) rfl rfl (Nat.le_of_ble_eq_true rfl) dX7_share_2 (fun H locs hP hD hS => ?_)
  have hP : va_P (dC, dI) vwCl (rW h0 r cI cJ cZ 0 a1 (nI tp) (nI bs) (fun j => nI (cl j)) a5 a6 a7 (fun j => nI (fc j)) a9 (fun j => nI (mb j)) a11 a12 a13 a14 a15 a16 a17 a18 a19 a20 (nI az) v22 v23 v24 v25 v26 (nI bb) (fun j => nI (ct j)) (nI us) a30 a31 a32 a33 a34 a35 a36 a37 (fun j => nI (pil j)) (fun j => nI (rwv j)) (nI rl) v41 v42 v43 v44 v45) H := hP
  have hD : va_D A (rW h0 r cI cJ cZ 0 a1 (nI tp) (nI bs) (fun j => nI (cl j)) a5 a6 a7 (fun j => nI (fc j)) a9 (fun j => nI (mb j)) a11 a12 a13 a14 a15 a16 a17 a18 a19 a20 (nI az) v22 v23 v24 v25 v26 (nI bb) (fun j => nI (ct j)) (nI us) a30 a31 a32 a33 a34 a35 a36 a37 (fun j => nI (pil j)) (fun j => nI (rwv j)) (nI rl) v41 v42 v43 v44 v45) := hD
  refine lv_aload_n hx hb dX7_share_5 rfl (lv_at hl 0 rfl) ?_
  refine lv_iload_n hx hb dX7_share_6 rfl (lv_at hl 1 rfl) ?_
  have hFc := z_freeW hD hS hA
  refine vp_callSi (W.runV (As := [.int xb]) (rest := []) ⟨hx, hb, hml, hown, hts⟩ (kX7_isBuild l dC dI h0 r cI cJ cZ 0 a1 tp bs cl a5 a6 a7 fc a9 mb a11 a12 a13 a14 a15 a16 a17 a18 a19 a20 az v22 v23 v24 v25 v26 bb ct us a30 a31 a32 a33 a34 a35 a36 a37 pil rwv rl v41 v42 v43 v44 v45 ⟨by omega, by omega, by omega, hcl, hfc, hmb, hct, hpil, hrwv⟩ xb H.size) (cwV 1 hts zgX7_share_X7_isBuild_248 rfl rfl rfl (by decide +kernel) ⟨(show 1 + 1 ≤ 5 by omega), (show 8 + (2 + 11) + 25 ≤ 130 by omega)⟩) (zVm (ci := 6) (q0 := 0) (q := (RX7, TX7, 46)) hK hP hD hL hS.2.1 hFc rfl rfl rfl) rfl rfl hl.1 rfl (lv_room (Nat.le_of_ble_eq_true rfl)) dX7_share_7 ⟨(show 0 + 0 ≤ 0 by omega), (show 0 + 0 ≤ 0 by omega)⟩) (fun r40 hw => ?_)
  have hw : (r40 = 0 ∨ r40 = 1) ∧ (r40 = 1 → ∃ k, k < bs ∧ xb = nI k) := hw
  obtain ⟨w0r40, w1r40⟩ := hw
  refine lv_if_ne (tgt := 20) hx hb dX7_share_10 (by decide) (fun cp10 => ?_) (fun cp10 => ?_)
  · obtain ⟨k41, hBk41, rfl⟩ := w1r40 (w0r40.resolve_left cp10)
    refine lv_iconst (v := 0) hx hb dX7_share_20 (by decide) ?_
    refine lv_istore_n (lv' := [(2, .int 0), (0, .ref h0), (1, .int (nI k41))]) hx hb dX7_share_21 rfl hl (by decide) rfl (fun ls hl => ?_)
    refine lv_iconst (v := 0) hx hb dX7_share_22 (by decide) ?_
    refine lv_istore_n (lv' := [(3, .int 0), (2, .int 0), (0, .ref h0), (1, .int (nI k41))]) hx hb dX7_share_23 rfl hl (by decide) rfl (fun ls hl => ?_)
    refine lv_iconst (v := 0) hx hb dX7_share_24 (by decide) ?_
    refine lv_istore (lv' := [(4, .int 0), (3, .int 0), (2, .int 0), (0, .ref h0), (1, .int (nI k41))]) hx hb dX7_share_25 hl (by decide) rfl (fun ls hl => ?_)
    exact J27 _ k41 (0 : Int32) (0 : Int32) 0 0 rl pil rwv v43 v44 v45 v42 _ _ ls (Nat.lt_succ_self _) hpil hrwv (by first | omega | assumption | trivial) (by first | omega | assumption | trivial) hP hD hS (lv_sub hl [3, 4, 2, 1, 0] rfl)
  · refine lv_aload_n hx hb dX7_share_13 rfl (lv_at hl 0 rfl) ?_
    refine lv_iconst (v := 1) hx hb dX7_share_14 (by decide) ?_
    refine va_put (D := (dC, dI)) (ci := 6) (v := .int 1) (ty := (.int)) (C := RX7) (T := TX7) (N := 46) hx hb hts hiX7 tyX7 tyX7_ok nmX7 hown hK hP hD hS 0 rfl rfl 0 (by decide) (hts (.fieldLink RX7 1 "LinkModelsModel" "thrown" "I") (by decide +kernel)) (fun _ h9 => h9) rfl (by decide +kernel) rfl rfl (Nat.le_of_ble_eq_true rfl) dX7_share_15 (fun H locs hP hD hS => ?_)
    have hP : va_P (dC, dI) vwCl (rW h0 r cI cJ cZ 1 a1 (nI tp) (nI bs) (fun j => nI (cl j)) a5 a6 a7 (fun j => nI (fc j)) a9 (fun j => nI (mb j)) a11 a12 a13 a14 a15 a16 a17 a18 a19 a20 (nI az) v22 v23 v24 v25 v26 (nI bb) (fun j => nI (ct j)) (nI us) a30 a31 a32 a33 a34 a35 a36 a37 (fun j => nI (pil j)) (fun j => nI (rwv j)) (nI rl) v41 v42 v43 v44 v45) H := hP
    have hD : va_D A (rW h0 r cI cJ cZ 1 a1 (nI tp) (nI bs) (fun j => nI (cl j)) a5 a6 a7 (fun j => nI (fc j)) a9 (fun j => nI (mb j)) a11 a12 a13 a14 a15 a16 a17 a18 a19 a20 (nI az) v22 v23 v24 v25 v26 (nI bb) (fun j => nI (ct j)) (nI us) a30 a31 a32 a33 a34 a35 a36 a37 (fun j => nI (pil j)) (fun j => nI (rwv j)) (nI rl) v41 v42 v43 v44 v45) := hD
    refine lv_iconst (v := 0) hx hb dX7_share_18 (by decide) ?_
    have hP9 : va_P (dC, dI) vwCl (rW h0 r cI cJ cZ 1 a1 (nI tp) (nI bs) (fun j => nI (cl j)) a5 a6 a7 (fun j => nI (fc j)) a9 (fun j => nI (mb j)) a11 a12 a13 a14 a15 a16 a17 a18 a19 a20 (nI az) v22 v23 v24 v25 v26 (nI bb) (fun j => nI (ct j)) (nI us) a30 a31 a32 a33 a34 a35 a36 a37 (fun j => nI (pil j)) (fun j => nI (rwv j)) (nI rl) v41 v42 v43 v44 v45) H := hP
    have hD9 : va_D A (rW h0 r cI cJ cZ 1 a1 (nI tp) (nI bs) (fun j => nI (cl j)) a5 a6 a7 (fun j => nI (fc j)) a9 (fun j => nI (mb j)) a11 a12 a13 a14 a15 a16 a17 a18 a19 a20 (nI az) v22 v23 v24 v25 v26 (nI bb) (fun j => nI (ct j)) (nI us) a30 a31 a32 a33 a34 a35 a36 a37 (fun j => nI (pil j)) (fun j => nI (rwv j)) (nI rl) v41 v42 v43 v44 v45) := hD
    exact W.iret (v := (0 : Int32)) hx hb hr (fun t ht hW => ⟨⟨(0 : Int32), (1, rl, pil, rwv, v43, v44, v45, v42), rfl, ⟨hpil, hrwv⟩, by rw [ht]; exact hP9, va_K.moved hW.alike hK, hD9⟩, hS.F ht⟩) hS.2.2 dX7_share_19
