theorem dX7_faceRow_0 : decode cX7_faceRow 0 = .ok (.iconst 0, 1) := by decide +kernel
theorem dX7_faceRow_1 : decode cX7_faceRow 1 = .ok (.istore_n 3, 1) := by decide +kernel
theorem dX7_faceRow_2 : decode cX7_faceRow 2 = .ok (.aload_n 0, 1) := by decide +kernel
theorem dX7_faceRow_3 : decode cX7_faceRow 3 = .ok (.getfield 29, 3) := by decide +kernel
theorem dX7_faceRow_6 : decode cX7_faceRow 6 = .ok (.iload_n 2, 1) := by decide +kernel
theorem dX7_faceRow_7 : decode cX7_faceRow 7 = .ok (.iaload, 1) := by decide +kernel
theorem dX7_faceRow_8 : decode cX7_faceRow 8 = .ok (.iconst 1, 1) := by decide +kernel
theorem dX7_faceRow_9 : decode cX7_faceRow 9 = .ok (.isub, 1) := by decide +kernel
theorem dX7_faceRow_10 : decode cX7_faceRow 10 = .ok (.istore 4, 2) := by decide +kernel
theorem dX7_faceRow_12 : decode cX7_faceRow 12 = .ok (.iload 4, 2) := by decide +kernel
theorem dX7_faceRow_14 : decode cX7_faceRow 14 = .ok (.ifCond .lt 34, 3) := by decide +kernel
theorem dX7_faceRow_17 : decode cX7_faceRow 17 = .ok (.aload_n 0, 1) := by decide +kernel
theorem dX7_faceRow_18 : decode cX7_faceRow 18 = .ok (.getfield 97, 3) := by decide +kernel
theorem dX7_faceRow_21 : decode cX7_faceRow 21 = .ok (.iload_n 3, 1) := by decide +kernel
theorem dX7_faceRow_22 : decode cX7_faceRow 22 = .ok (.aload_n 0, 1) := by decide +kernel
theorem dX7_faceRow_23 : decode cX7_faceRow 23 = .ok (.iload_n 1, 1) := by decide +kernel
theorem dX7_faceRow_24 : decode cX7_faceRow 24 = .ok (.aload_n 0, 1) := by decide +kernel
theorem dX7_faceRow_25 : decode cX7_faceRow 25 = .ok (.getfield 32, 3) := by decide +kernel
theorem dX7_faceRow_28 : decode cX7_faceRow 28 = .ok (.iconst 3, 1) := by decide +kernel
theorem dX7_faceRow_29 : decode cX7_faceRow 29 = .ok (.iload_n 2, 1) := by decide +kernel
theorem dX7_faceRow_30 : decode cX7_faceRow 30 = .ok (.imul, 1) := by decide +kernel
theorem dX7_faceRow_31 : decode cX7_faceRow 31 = .ok (.iload 4, 2) := by decide +kernel
theorem dX7_faceRow_33 : decode cX7_faceRow 33 = .ok (.iadd, 1) := by decide +kernel
theorem dX7_faceRow_34 : decode cX7_faceRow 34 = .ok (.iaload, 1) := by decide +kernel
theorem dX7_faceRow_35 : decode cX7_faceRow 35 = .ok (.invokevirtual 201, 3) := by decide +kernel
theorem dX7_faceRow_38 : decode cX7_faceRow 38 = .ok (.iastore, 1) := by decide +kernel
theorem dX7_faceRow_39 : decode cX7_faceRow 39 = .ok (.iinc 3 1, 3) := by decide +kernel
theorem dX7_faceRow_42 : decode cX7_faceRow 42 = .ok (.iinc 4 (-1), 3) := by decide +kernel
theorem dX7_faceRow_45 : decode cX7_faceRow 45 = .ok (.goto (-33), 3) := by decide +kernel
theorem dX7_faceRow_48 : decode cX7_faceRow 48 = .ok (.iload_n 3, 1) := by decide +kernel
theorem dX7_faceRow_49 : decode cX7_faceRow 49 = .ok (.ifCond .le 145, 3) := by decide +kernel
theorem dX7_faceRow_52 : decode cX7_faceRow 52 = .ok (.iinc 3 (-1), 3) := by decide +kernel
theorem dX7_faceRow_55 : decode cX7_faceRow 55 = .ok (.aload_n 0, 1) := by decide +kernel
theorem dX7_faceRow_56 : decode cX7_faceRow 56 = .ok (.getfield 97, 3) := by decide +kernel
theorem dX7_faceRow_59 : decode cX7_faceRow 59 = .ok (.iload_n 3, 1) := by decide +kernel
theorem dX7_faceRow_60 : decode cX7_faceRow 60 = .ok (.iaload, 1) := by decide +kernel
theorem dX7_faceRow_61 : decode cX7_faceRow 61 = .ok (.istore 4, 2) := by decide +kernel
theorem dX7_faceRow_63 : decode cX7_faceRow 63 = .ok (.iconst 0, 1) := by decide +kernel
theorem dX7_faceRow_64 : decode cX7_faceRow 64 = .ok (.istore 5, 2) := by decide +kernel
theorem dX7_faceRow_66 : decode cX7_faceRow 66 = .ok (.iconst 0, 1) := by decide +kernel
theorem dX7_faceRow_67 : decode cX7_faceRow 67 = .ok (.istore 6, 2) := by decide +kernel
theorem dX7_faceRow_69 : decode cX7_faceRow 69 = .ok (.iload 6, 2) := by decide +kernel
theorem dX7_faceRow_71 : decode cX7_faceRow 71 = .ok (.aload_n 0, 1) := by decide +kernel
theorem dX7_faceRow_72 : decode cX7_faceRow 72 = .ok (.getfield 266, 3) := by decide +kernel
theorem dX7_faceRow_75 : decode cX7_faceRow 75 = .ok (.if_icmp .ge 33, 3) := by decide +kernel
theorem dX7_faceRow_78 : decode cX7_faceRow 78 = .ok (.iload 5, 2) := by decide +kernel
theorem dX7_faceRow_80 : decode cX7_faceRow 80 = .ok (.ifCond .ne 15, 3) := by decide +kernel
theorem dX7_faceRow_83 : decode cX7_faceRow 83 = .ok (.aload_n 0, 1) := by decide +kernel
theorem dX7_faceRow_84 : decode cX7_faceRow 84 = .ok (.getfield 100, 3) := by decide +kernel
theorem dX7_faceRow_87 : decode cX7_faceRow 87 = .ok (.iload 6, 2) := by decide +kernel
theorem dX7_faceRow_89 : decode cX7_faceRow 89 = .ok (.iaload, 1) := by decide +kernel
theorem dX7_faceRow_90 : decode cX7_faceRow 90 = .ok (.iload 4, 2) := by decide +kernel
theorem dX7_faceRow_92 : decode cX7_faceRow 92 = .ok (.if_icmp .ne 7, 3) := by decide +kernel
theorem dX7_faceRow_95 : decode cX7_faceRow 95 = .ok (.iconst 1, 1) := by decide +kernel
theorem dX7_faceRow_96 : decode cX7_faceRow 96 = .ok (.goto 4, 3) := by decide +kernel
theorem dX7_faceRow_99 : decode cX7_faceRow 99 = .ok (.iconst 0, 1) := by decide +kernel
theorem dX7_faceRow_100 : decode cX7_faceRow 100 = .ok (.istore 5, 2) := by decide +kernel
theorem dX7_faceRow_102 : decode cX7_faceRow 102 = .ok (.iinc 6 1, 3) := by decide +kernel
theorem dX7_faceRow_105 : decode cX7_faceRow 105 = .ok (.goto (-36), 3) := by decide +kernel
theorem dX7_faceRow_108 : decode cX7_faceRow 108 = .ok (.iload 5, 2) := by decide +kernel
theorem dX7_faceRow_110 : decode cX7_faceRow 110 = .ok (.ifCond .ne 81, 3) := by decide +kernel
theorem dX7_faceRow_113 : decode cX7_faceRow 113 = .ok (.aload_n 0, 1) := by decide +kernel
theorem dX7_faceRow_114 : decode cX7_faceRow 114 = .ok (.getfield 100, 3) := by decide +kernel
theorem dX7_faceRow_117 : decode cX7_faceRow 117 = .ok (.aload_n 0, 1) := by decide +kernel
theorem dX7_faceRow_118 : decode cX7_faceRow 118 = .ok (.getfield 266, 3) := by decide +kernel
theorem dX7_faceRow_121 : decode cX7_faceRow 121 = .ok (.iload 4, 2) := by decide +kernel
theorem dX7_faceRow_123 : decode cX7_faceRow 123 = .ok (.iastore, 1) := by decide +kernel
theorem dX7_faceRow_124 : decode cX7_faceRow 124 = .ok (.aload_n 0, 1) := by decide +kernel
theorem dX7_faceRow_125 : decode cX7_faceRow 125 = .ok (.dup, 1) := by decide +kernel
theorem dX7_faceRow_126 : decode cX7_faceRow 126 = .ok (.getfield 266, 3) := by decide +kernel
theorem dX7_faceRow_129 : decode cX7_faceRow 129 = .ok (.iconst 1, 1) := by decide +kernel
theorem dX7_faceRow_130 : decode cX7_faceRow 130 = .ok (.iadd, 1) := by decide +kernel
theorem dX7_faceRow_131 : decode cX7_faceRow 131 = .ok (.putfield 266, 3) := by decide +kernel
theorem dX7_faceRow_134 : decode cX7_faceRow 134 = .ok (.bipush 16, 2) := by decide +kernel
theorem dX7_faceRow_136 : decode cX7_faceRow 136 = .ok (.iload_n 1, 1) := by decide +kernel
theorem dX7_faceRow_137 : decode cX7_faceRow 137 = .ok (.imul, 1) := by decide +kernel
theorem dX7_faceRow_138 : decode cX7_faceRow 138 = .ok (.iload 4, 2) := by decide +kernel
theorem dX7_faceRow_140 : decode cX7_faceRow 140 = .ok (.iadd, 1) := by decide +kernel
theorem dX7_faceRow_141 : decode cX7_faceRow 141 = .ok (.istore 6, 2) := by decide +kernel
theorem dX7_faceRow_143 : decode cX7_faceRow 143 = .ok (.aload_n 0, 1) := by decide +kernel
theorem dX7_faceRow_144 : decode cX7_faceRow 144 = .ok (.getfield 29, 3) := by decide +kernel
theorem dX7_faceRow_147 : decode cX7_faceRow 147 = .ok (.iload 6, 2) := by decide +kernel
theorem dX7_faceRow_149 : decode cX7_faceRow 149 = .ok (.iaload, 1) := by decide +kernel
theorem dX7_faceRow_150 : decode cX7_faceRow 150 = .ok (.iconst 1, 1) := by decide +kernel
theorem dX7_faceRow_151 : decode cX7_faceRow 151 = .ok (.isub, 1) := by decide +kernel
theorem dX7_faceRow_152 : decode cX7_faceRow 152 = .ok (.istore 7, 2) := by decide +kernel
theorem dX7_faceRow_154 : decode cX7_faceRow 154 = .ok (.iload 7, 2) := by decide +kernel
theorem dX7_faceRow_156 : decode cX7_faceRow 156 = .ok (.ifCond .lt 35, 3) := by decide +kernel
theorem dX7_faceRow_159 : decode cX7_faceRow 159 = .ok (.aload_n 0, 1) := by decide +kernel
theorem dX7_faceRow_160 : decode cX7_faceRow 160 = .ok (.getfield 97, 3) := by decide +kernel
theorem dX7_faceRow_163 : decode cX7_faceRow 163 = .ok (.iload_n 3, 1) := by decide +kernel
theorem dX7_faceRow_164 : decode cX7_faceRow 164 = .ok (.aload_n 0, 1) := by decide +kernel
theorem dX7_faceRow_165 : decode cX7_faceRow 165 = .ok (.iload_n 1, 1) := by decide +kernel
theorem dX7_faceRow_166 : decode cX7_faceRow 166 = .ok (.aload_n 0, 1) := by decide +kernel
theorem dX7_faceRow_167 : decode cX7_faceRow 167 = .ok (.getfield 32, 3) := by decide +kernel
theorem dX7_faceRow_170 : decode cX7_faceRow 170 = .ok (.iconst 3, 1) := by decide +kernel
theorem dX7_faceRow_171 : decode cX7_faceRow 171 = .ok (.iload 6, 2) := by decide +kernel
theorem dX7_faceRow_173 : decode cX7_faceRow 173 = .ok (.imul, 1) := by decide +kernel
theorem dX7_faceRow_174 : decode cX7_faceRow 174 = .ok (.iload 7, 2) := by decide +kernel
theorem dX7_faceRow_176 : decode cX7_faceRow 176 = .ok (.iadd, 1) := by decide +kernel
theorem dX7_faceRow_177 : decode cX7_faceRow 177 = .ok (.iaload, 1) := by decide +kernel
theorem dX7_faceRow_178 : decode cX7_faceRow 178 = .ok (.invokevirtual 201, 3) := by decide +kernel
theorem dX7_faceRow_181 : decode cX7_faceRow 181 = .ok (.iastore, 1) := by decide +kernel
theorem dX7_faceRow_182 : decode cX7_faceRow 182 = .ok (.iinc 3 1, 3) := by decide +kernel
theorem dX7_faceRow_185 : decode cX7_faceRow 185 = .ok (.iinc 7 (-1), 3) := by decide +kernel
theorem dX7_faceRow_188 : decode cX7_faceRow 188 = .ok (.goto (-34), 3) := by decide +kernel
theorem dX7_faceRow_191 : decode cX7_faceRow 191 = .ok (.goto (-143), 3) := by decide +kernel
theorem dX7_faceRow_194 : decode cX7_faceRow 194 = .ok (.return_, 1) := by decide +kernel
def zwX7_faceRow : List Cond := .code yX7_faceRow cX7_faceRow 8 none :: ([.fieldLink RX7 97 "LinkModelsModel" "pile" "[I", .fieldLink RX7 32 "LinkModelsModel" "face" "[I", .fieldLink RX7 266 "LinkModelsModel" "rowLong" "I", .fieldLink RX7 100 "LinkModelsModel" "row" "[I", .fieldLink RX7 29 "LinkModelsModel" "faces" "[I", .methodLink RX7 201 yX7_place, .instanceMethod yX7_place, .selects RX7 yX7_place yX7_place, .initialized RX7, .code yX7_place cX7_place 4 (some .int), .fieldLink RX7 17 "LinkModelsModel" "classes" "[I", .fieldLink RX7 20 "LinkModelsModel" "className" "[I"] ++ wsX70)
theorem zgX7_faceRow_X7_place_201 : GoodIn zwX7_faceRow (wsV RX7 201 RX7 yX7_place zwX7_place) := goodIn_app (goodIn_r _ [6, 7, 8, 9] rfl (by decide +kernel)) (goodIn_ca (goodIn_r _ [10, 11, 12] rfl (by decide +kernel)) (zgt zg7))
set_option maxHeartbeats 4000000 in
set_option maxRecDepth 100000 in
theorem kX7_faceRow (l : Launch) (dC : Nat → ClassId) (dI : Nat → Nat → Nat) (h0 : Nat) (r : Nat → Nat) (cI : ClassId) (cJ : ClassId) (cZ : ClassId) (v0 : Int32) (a1 : Nat → Int32) (tp : Nat) (bs : Nat) (cl : Nat → Nat) (a5 : Nat → Int32) (a6 : Nat → Int32) (a7 : Nat → Int32) (fc : Nat → Nat) (a9 : Nat → Int32) (mb : Nat → Nat) (a11 : Nat → Int32) (a12 : Nat → Int32) (a13 : Nat → Int64) (a14 : Nat → Int32) (a15 : Nat → Int32) (a16 : Nat → Int32) (a17 : Nat → Int32) (a18 : Nat → Int32) (a19 : Nat → Int32) (a20 : Nat → Int32) (az : Nat) (v22 : Int32) (v23 : Int32) (v24 : Int64) (v25 : Int32) (v26 : Int32) (bb : Nat) (ct : Nat → Nat) (us : Nat) (a30 : Nat → Int32) (a31 : Nat → Int32) (a32 : Nat → Int32) (a33 : Nat → Int64) (a34 : Nat → Int32) (a35 : Nat → Int32) (a36 : Nat → Int32) (a37 : Nat → Int32) (pil : Nat → Nat) (rwv : Nat → Nat) (rl : Nat) (v41 : Int32) (v42 : Int32) (v43 : Int32) (v44 : Int32) (v45 : Int32) (hI : rWI tp bs cl fc mb az bb ct us pil rwv rl) (rk : Nat → Nat) (bd : Nat) (ci : Nat) (hp0 : bd < 5) (hp1 : zOKr cl a5 a7 fc a9 a11 bd rk) (hp2 : zGd cl a11 bd ci) (hp3 : zRow cl a11 bd rwv rl) (sz : Nat) : Met l yX7_faceRow zwX7_faceRow ({ frames := 1, cells := 0, slots := 0, locals := 23 }) (zPm dC dI [.ref h0, .int (nI bd), .int (nI ci)] sz (rW h0 r cI cJ cZ v0 a1 (nI tp) (nI bs) (fun j => nI (cl j)) a5 a6 a7 (fun j => nI (fc j)) a9 (fun j => nI (mb j)) a11 a12 a13 a14 a15 a16 a17 a18 a19 a20 (nI az) v22 v23 v24 v25 v26 (nI bb) (fun j => nI (ct j)) (nI us) a30 a31 a32 a33 a34 a35 a36 a37 (fun j => nI (pil j)) (fun j => nI (rwv j)) (nI rl) v41 v42 v43 v44 v45) [(cI, .int), (cJ, .long), (cZ, .boolean)]) (va_Qv (fun u : Nat × (Nat → Nat) × (Nat → Nat) => (zRow cl a11 bd (u.2.2) (u.1)) ∧ (∀ j, (u.2.1) j ≤ 15) ∧ (∀ j, (u.2.2) j ≤ 15)) (fun u t => zB dC dI (va_A (rW h0 r cI cJ cZ v0 a1 (nI tp) (nI bs) (fun j => nI (cl j)) a5 a6 a7 (fun j => nI (fc j)) a9 (fun j => nI (mb j)) a11 a12 a13 a14 a15 a16 a17 a18 a19 a20 (nI az) v22 v23 v24 v25 v26 (nI bb) (fun j => nI (ct j)) (nI us) a30 a31 a32 a33 a34 a35 a36 a37 (fun j => nI (pil j)) (fun j => nI (rwv j)) (nI rl) v41 v42 v43 v44 v45) sz) (rW h0 r cI cJ cZ v0 a1 (nI tp) (nI bs) (fun j => nI (cl j)) a5 a6 a7 (fun j => nI (fc j)) a9 (fun j => nI (mb j)) a11 a12 a13 a14 a15 a16 a17 a18 a19 a20 (nI az) v22 v23 v24 v25 v26 (nI bb) (fun j => nI (ct j)) (nI us) a30 a31 a32 a33 a34 a35 a36 a37 (fun j => nI ((u.2.1) j)) (fun j => nI ((u.2.2) j)) (nI (u.1)) v41 v42 v43 v44 v45) [(cI, .int), (cJ, .long), (cZ, .boolean)] t) (va_A (rW h0 r cI cJ cZ v0 a1 (nI tp) (nI bs) (fun j => nI (cl j)) a5 a6 a7 (fun j => nI (fc j)) a9 (fun j => nI (mb j)) a11 a12 a13 a14 a15 a16 a17 a18 a19 a20 (nI az) v22 v23 v24 v25 v26 (nI bb) (fun j => nI (ct j)) (nI us) a30 a31 a32 a33 a34 a35 a36 a37 (fun j => nI (pil j)) (fun j => nI (rwv j)) (nI rl) v41 v42 v43 v44 v45) sz)) 0 0 (va_A (rW h0 r cI cJ cZ v0 a1 (nI tp) (nI bs) (fun j => nI (cl j)) a5 a6 a7 (fun j => nI (fc j)) a9 (fun j => nI (mb j)) a11 a12 a13 a14 a15 a16 a17 a18 a19 a20 (nI az) v22 v23 v24 v25 v26 (nI bb) (fun j => nI (ct j)) (nI us) a30 a31 a32 a33 a34 a35 a36 a37 (fun j => nI (pil j)) (fun j => nI (rwv j)) (nI rl) v41 v42 v43 v44 v45) sz) := by
  refine Met.ofW (cc := cX7_faceRow) (maxL := 8) (ret := none) (by decide) rfl ?_
  intro p e s m args below meth c s₁ B hml hv
  obtain ⟨rfl, hsz, hP, hK, hD0, hL0⟩ := hv
  have hx := B.exec
  have hb := B.bytes
  have hr := B.returns
  have hts := atoms_spec (ws := zwX7_faceRow) B.pre
  have hown : s.vm.findClass RX7 = some m.cls := findClass_of_methodNamed B.named
  have hiX7 : ∀ w ∈ wsX70, w ∈ zwX7_faceRow := (fun _ h => List.mem_cons_of_mem _ (List.mem_append_right _ h))
  obtain ⟨htp, hbs, hus, hcl, hfc, hmb, hct, hpil, hrwv⟩ := hI
  subst hsz
  have hD := hD0.self (sz := s.heap.size)
  generalize hAe : va_A (rW h0 r cI cJ cZ v0 a1 (nI tp) (nI bs) (fun j => nI (cl j)) a5 a6 a7 (fun j => nI (fc j)) a9 (fun j => nI (mb j)) a11 a12 a13 a14 a15 a16 a17 a18 a19 a20 (nI az) v22 v23 v24 v25 v26 (nI bb) (fun j => nI (ct j)) (nI us) a30 a31 a32 a33 a34 a35 a36 a37 (fun j => nI (pil j)) (fun j => nI (rwv j)) (nI rl) v41 v42 v43 v44 v45) s.heap.size = A at hD hL0 ⊢
  have hA : ∀ q : Nat, s.heap.size ≤ q → A q := fun q h => by rw [← hAe]; exact Or.inr h
  have hS : va_S A s.heap s.heap [] := va_S.rf
  have hL := hL0
  have hclb := hcl bd
  have hcil := zGd.lt hp2 hclb hp0
  have hrl0 := hp3.le
  have hl := lv_entry ([.ref h0, .int (nI bd), .int (nI ci)]) (n := 8) (Nat.le_of_ble_eq_true rfl)
  rw [lg_entry_eq]
  generalize (lg_sl ([.ref h0, .int (nI bd), .int (nI ci)]) ++ List.replicate (8 - (lg_sl ([.ref h0, .int (nI bd), .int (nI ci)])).length) Slot.unset).toArray = ls at hl ⊢
  have hl : lv_has ls 8 [(0, .ref h0), (1, .int (nI bd)), (2, .int (nI ci))] := hl
  have J48 : ∀ (z48 : Nat) (op : Nat) (rl2 : Nat) (pil2 : Nat → Nat) (rwv2 : Nat → Nat) (H : Heap) (locs : List Loc) (ls : Array Slot), 4 * (16 - rl2) + op < z48 → (∀ j, pil2 j ≤ 15) → (∀ j, rwv2 j ≤ 15) → (op + 3 * (16 - rl2) ≤ 51) → (rl2 ≤ 16) → (zPi cl a11 bd pil2 op) → (zRow cl a11 bd rwv2 rl2) → va_P (dC, dI) vwCl (rW h0 r cI cJ cZ v0 a1 (nI tp) (nI bs) (fun j => nI (cl j)) a5 a6 a7 (fun j => nI (fc j)) a9 (fun j => nI (mb j)) a11 a12 a13 a14 a15 a16 a17 a18 a19 a20 (nI az) v22 v23 v24 v25 v26 (nI bb) (fun j => nI (ct j)) (nI us) a30 a31 a32 a33 a34 a35 a36 a37 (fun j => nI (pil2 j)) (fun j => nI (rwv2 j)) (nI rl2) v41 v42 v43 v44 v45) H → va_D A (rW h0 r cI cJ cZ v0 a1 (nI tp) (nI bs) (fun j => nI (cl j)) a5 a6 a7 (fun j => nI (fc j)) a9 (fun j => nI (mb j)) a11 a12 a13 a14 a15 a16 a17 a18 a19 a20 (nI az) v22 v23 v24 v25 v26 (nI bb) (fun j => nI (ct j)) (nI us) a30 a31 a32 a33 a34 a35 a36 a37 (fun j => nI (pil2 j)) (fun j => nI (rwv2 j)) (nI rl2) v41 v42 v43 v44 v45) → va_S A s.heap H locs → lv_has ls 8 [(0, .ref h0), (1, .int (nI bd)), (2, .int (nI ci)), (3, .int (nI op))] → W p l e (headSpec zwX7_faceRow { frames := 1, cells := 0, slots := 0, locals := 23 }).room s m (([.ref h0, .int (nI bd), .int (nI ci)] : List Value).toArray) below meth c H locs 0 0 (MQ below (va_Qv (fun u : Nat × (Nat → Nat) × (Nat → Nat) => (zRow cl a11 bd (u.2.2) (u.1)) ∧ (∀ j, (u.2.1) j ≤ 15) ∧ (∀ j, (u.2.2) j ≤ 15)) (fun u t => zB dC dI (A) (rW h0 r cI cJ cZ v0 a1 (nI tp) (nI bs) (fun j => nI (cl j)) a5 a6 a7 (fun j => nI (fc j)) a9 (fun j => nI (mb j)) a11 a12 a13 a14 a15 a16 a17 a18 a19 a20 (nI az) v22 v23 v24 v25 v26 (nI bb) (fun j => nI (ct j)) (nI us) a30 a31 a32 a33 a34 a35 a36 a37 (fun j => nI ((u.2.1) j)) (fun j => nI ((u.2.2) j)) (nI (u.1)) v41 v42 v43 v44 v45) [(cI, .int), (cJ, .long), (cZ, .boolean)] t) (A)) (([.ref h0, .int (nI bd), .int (nI ci)] : List Value).toArray) s 0 0 A) (F0 m 48 ls []) := by
    intro z48
    induction z48 with
    | zero => intro op rl2 pil2 rwv2 H locs ls h9; exact absurd h9 (Nat.not_lt_zero _)
    | succ z48 ih48 =>
      intro op rl2 pil2 rwv2 H locs ls hm48 hbpil2 hbrwv2 i48_0 i48_1 i48_2 i48_3 hP hD hS hl
      have hpf9 := hbpil2 (op - 1)
      have hfc9 := hfc (16 * bd + pil2 (op - 1))
      have J154 : ∀ (z154 : Nat) (o3 : Nat) (k7 : Int32) (rl3 : Nat) (rwv3 : Nat → Nat) (pil3 : Nat → Nat) (H : Heap) (locs : List Loc) (ls : Array Slot), op + 3 - o3 < z154 → (∀ j, rwv3 j ≤ 15) → (∀ j, pil3 j ≤ 15) → (zM k7 (fun k => k < fc (16 * bd + pil2 (op - 1)) ∧ o3 + k < op + 2)) → (o3 ≤ op + 2) → (rl3 = rl2 + 1) → (rl3 ≤ 16) → (zRow cl a11 bd rwv3 rl3) → (zPi cl a11 bd pil3 o3) → (0 < op) → va_P (dC, dI) vwCl (rW h0 r cI cJ cZ v0 a1 (nI tp) (nI bs) (fun j => nI (cl j)) a5 a6 a7 (fun j => nI (fc j)) a9 (fun j => nI (mb j)) a11 a12 a13 a14 a15 a16 a17 a18 a19 a20 (nI az) v22 v23 v24 v25 v26 (nI bb) (fun j => nI (ct j)) (nI us) a30 a31 a32 a33 a34 a35 a36 a37 (fun j => nI (pil3 j)) (fun j => nI (rwv3 j)) (nI rl3) v41 v42 v43 v44 v45) H → va_D A (rW h0 r cI cJ cZ v0 a1 (nI tp) (nI bs) (fun j => nI (cl j)) a5 a6 a7 (fun j => nI (fc j)) a9 (fun j => nI (mb j)) a11 a12 a13 a14 a15 a16 a17 a18 a19 a20 (nI az) v22 v23 v24 v25 v26 (nI bb) (fun j => nI (ct j)) (nI us) a30 a31 a32 a33 a34 a35 a36 a37 (fun j => nI (pil3 j)) (fun j => nI (rwv3 j)) (nI rl3) v41 v42 v43 v44 v45) → va_S A s.heap H locs → lv_has ls 8 [(0, .ref h0), (1, .int (nI bd)), (2, .int (nI ci)), (3, .int (nI o3)), (6, .int (nI (16 * bd + pil2 (op - 1)))), (7, .int k7)] → W p l e (headSpec zwX7_faceRow { frames := 1, cells := 0, slots := 0, locals := 23 }).room s m (([.ref h0, .int (nI bd), .int (nI ci)] : List Value).toArray) below meth c H locs 0 0 (MQ below (va_Qv (fun u : Nat × (Nat → Nat) × (Nat → Nat) => (zRow cl a11 bd (u.2.2) (u.1)) ∧ (∀ j, (u.2.1) j ≤ 15) ∧ (∀ j, (u.2.2) j ≤ 15)) (fun u t => zB dC dI (A) (rW h0 r cI cJ cZ v0 a1 (nI tp) (nI bs) (fun j => nI (cl j)) a5 a6 a7 (fun j => nI (fc j)) a9 (fun j => nI (mb j)) a11 a12 a13 a14 a15 a16 a17 a18 a19 a20 (nI az) v22 v23 v24 v25 v26 (nI bb) (fun j => nI (ct j)) (nI us) a30 a31 a32 a33 a34 a35 a36 a37 (fun j => nI ((u.2.1) j)) (fun j => nI ((u.2.2) j)) (nI (u.1)) v41 v42 v43 v44 v45) [(cI, .int), (cJ, .long), (cZ, .boolean)] t) (A)) (([.ref h0, .int (nI bd), .int (nI ci)] : List Value).toArray) s 0 0 A) (F0 m 154 ls []) := by
        intro z154
        induction z154 with
        | zero => intro o3 k7 rl3 rwv3 pil3 H locs ls h9; exact absurd h9 (Nat.not_lt_zero _)
        | succ z154 ih154 =>
          intro o3 k7 rl3 rwv3 pil3 H locs ls hm154 hbrwv3 hbpil3 hm154_k7 i154_0 i154_1 i154_2 i154_3 i154_4 i154_5 hP hD hS hl
          refine lv_iload hx hb dX7_faceRow_154 (lv_at hl 5 rfl) ?_
          refine lv_if_lt (tgt := 191) hx hb dX7_faceRow_156 (by decide) (fun cp156 => ?_) (fun cp156 => ?_)
          · obtain rfl : k7 = -1 := zM.neg hm154_k7 cp156
            refine lv_goto (tgt := 48) hx hb dX7_faceRow_191 (by decide) ?_
            exact ih48 o3 rl3 pil3 rwv3 _ _ ls (by omega) hbpil3 hbrwv3 (by omega) (by omega) (by exact i154_4) (by exact i154_3) hP hD hS (lv_sub hl [0, 1, 2, 3] rfl)
          · obtain ⟨k1, hBk1, hQk1, rfl⟩ := zM.pos hm154_k7 cp156
            refine lv_aload_n hx hb dX7_faceRow_159 rfl (lv_at hl 0 rfl) ?_
            refine va_get (D := (dC, dI)) (ci := 6) (v := .ref (r 38)) (C := RX7) (T := TX7) (N := 46) hx hb hts hiX7 hown hK hP 0 rfl rfl 38 (by decide) (hts (.fieldLink RX7 97 "LinkModelsModel" "pile" "[I") (by decide +kernel)) (fun _ h9 => h9) rfl dX7_faceRow_160 ?_
            refine lv_iload_n hx hb dX7_faceRow_163 rfl (lv_at hl 3 rfl) ?_
            refine lv_aload_n hx hb dX7_faceRow_164 rfl (lv_at hl 0 rfl) ?_
            refine lv_iload_n hx hb dX7_faceRow_165 rfl (lv_at hl 1 rfl) ?_
            refine lv_aload_n hx hb dX7_faceRow_166 rfl (lv_at hl 0 rfl) ?_
            refine va_get (D := (dC, dI)) (ci := 6) (v := .ref (r 9)) (C := RX7) (T := TX7) (N := 46) hx hb hts hiX7 hown hK hP 0 rfl rfl 9 (by decide) (hts (.fieldLink RX7 32 "LinkModelsModel" "face" "[I") (by decide +kernel)) (fun _ h9 => h9) rfl dX7_faceRow_167 ?_
            refine lv_iconst (v := 3) hx hb dX7_faceRow_170 (by decide) ?_
            refine lv_iload hx hb dX7_faceRow_171 (lv_at hl 4 rfl) ?_
            refine lv_imul hx hb dX7_faceRow_173 ?_
            refine lv_topi (fun x2 ex2 => ?_)
            obtain rfl : x2 = nI (3 * (16 * bd + pil2 (op - 1))) := by rw [ex2]; exact pk_mul (3) (16 * bd + pil2 (op - 1))
            refine lv_iload hx hb dX7_faceRow_174 (lv_at hl 5 rfl) ?_
            refine lv_iadd hx hb dX7_faceRow_176 ?_
            refine lv_topi (fun x3 ex3 => ?_)
            obtain rfl : x3 = nI ((3 * (16 * bd + pil2 (op - 1))) + k1) := by rw [ex3]; exact nI_add (3 * (16 * bd + pil2 (op - 1))) (k1)
            refine va_iald hx hb hK hP 7 0 rfl rfl (vp_in_nI (show (3 * (16 * bd + pil2 (op - 1))) + k1 < 240 by omega) (by decide)) dX7_faceRow_177 ?_
            refine lv_topi (fun x4 ex4 => ?_)
            obtain rfl : x4 = a9 ((3 * (16 * bd + pil2 (op - 1))) + k1) := by rw [ex4, nI_clamp (show (3 * (16 * bd + pil2 (op - 1))) + k1 < 2 ^ 31 by omega)]
            have hFc := z_freeW hD hS hA
            refine vp_callSi (W.runV (As := [.int (nI bd), .int (a9 ((3 * (16 * bd + pil2 (op - 1))) + k1))]) (rest := [.int (nI o3), .ref (r 38)]) ⟨hx, hb, hml, hown, hts⟩ (kX7_place l dC dI h0 r cI cJ cZ v0 a1 tp bs cl a5 a6 a7 fc a9 mb a11 a12 a13 a14 a15 a16 a17 a18 a19 a20 az v22 v23 v24 v25 v26 bb ct us a30 a31 a32 a33 a34 a35 a36 a37 pil3 rwv3 rl3 v41 v42 v43 v44 v45 ⟨by omega, by omega, by omega, hcl, hfc, hmb, hct, hbpil3, hbrwv3⟩ bd (a9 ((3 * (16 * bd + pil2 (op - 1))) + k1)) (by first | omega | assumption | trivial) H.size) (cwV 2 hts zgX7_faceRow_X7_place_201 rfl rfl rfl (by decide +kernel) ⟨(show 0 + 1 ≤ 1 by omega), (show 8 + (4 + 11) + 0 ≤ 23 by omega)⟩) (zVm (ci := 6) (q0 := 0) (q := (RX7, TX7, 46)) hK hP hD hL hS.2.1 hFc rfl rfl rfl) rfl rfl hl.1 rfl (lv_room (Nat.le_of_ble_eq_true rfl)) dX7_faceRow_178 ⟨(show 0 + 0 ≤ 0 by omega), (show 0 + 0 ≤ 0 by omega)⟩) (fun r5 hw => ?_)
            have hw : (zM r5 (fun k => k < cl bd)) ∧ (zPl a5 (16 * bd) (cl bd) ((a9 ((3 * (16 * bd + pil2 (op - 1))) + k1))) r5) := hw
            obtain ⟨w0r5, w1r5⟩ := hw
            obtain ⟨p6, hap6, hbp6, hcp6⟩ := z_gf hp1 (zGd.mk (i48_2 (op - 1) (by omega)).1 (i48_2 (op - 1) (by omega)).2) (k := k1) (by omega)
            obtain rfl : r5 = nI p6 := w1r5.uniq hbp6
            refine va_iast hx hb hK hP hD hS 28 0 rfl rfl (vp_in_nI (show o3 < 800 by omega) (by decide)) dX7_faceRow_181 (fun H locs hP hD hS => ?_)
            obtain ⟨f7, ef7⟩ : ∃ g, g = z_up pil3 o3 p6 := ⟨_, rfl⟩
            have hP : va_P (dC, dI) vwCl (rW h0 r cI cJ cZ v0 a1 (nI tp) (nI bs) (fun j => nI (cl j)) a5 a6 a7 (fun j => nI (fc j)) a9 (fun j => nI (mb j)) a11 a12 a13 a14 a15 a16 a17 a18 a19 a20 (nI az) v22 v23 v24 v25 v26 (nI bb) (fun j => nI (ct j)) (nI us) a30 a31 a32 a33 a34 a35 a36 a37 (fun j => nI (f7 j)) (fun j => nI (rwv3 j)) (nI rl3) v41 v42 v43 v44 v45) H := by rw [ef7, ← z_upd (show o3 < 2 ^ 31 by omega)]; exact hP
            have hD : va_D A (rW h0 r cI cJ cZ v0 a1 (nI tp) (nI bs) (fun j => nI (cl j)) a5 a6 a7 (fun j => nI (fc j)) a9 (fun j => nI (mb j)) a11 a12 a13 a14 a15 a16 a17 a18 a19 a20 (nI az) v22 v23 v24 v25 v26 (nI bb) (fun j => nI (ct j)) (nI us) a30 a31 a32 a33 a34 a35 a36 a37 (fun j => nI (f7 j)) (fun j => nI (rwv3 j)) (nI rl3) v41 v42 v43 v44 v45) := by rw [ef7, ← z_upd (show o3 < 2 ^ 31 by omega)]; exact hD
            have hbf7 : ∀ j, f7 j ≤ 15 := by rw [ef7]; exact z_upb hbpil3 (by omega)
            obtain ⟨x8, ex8⟩ : ∃ y : Int32, y = (nI o3) + 1 := ⟨_, rfl⟩
            refine lv_iinc (v := x8) (lv' := [(3, .int x8), (0, .ref h0), (1, .int (nI bd)), (2, .int (nI ci)), (6, .int (nI (16 * bd + pil2 (op - 1)))), (7, .int (nI k1))]) hx hb dX7_faceRow_182 hl (k := 3) rfl (by rw [ex8]; rfl) (by decide) rfl (fun ls hl => ?_)
            obtain rfl : x8 = nI (o3 + 1) := by rw [ex8]; exact nI_add (o3) 1
            obtain ⟨x9, ex9⟩ : ∃ y : Int32, y = (nI k1) + (-1) := ⟨_, rfl⟩
            refine lv_iinc (v := x9) (lv' := [(7, .int x9), (3, .int (nI (o3 + 1))), (0, .ref h0), (1, .int (nI bd)), (2, .int (nI ci)), (6, .int (nI (16 * bd + pil2 (op - 1))))]) hx hb dX7_faceRow_185 hl (k := 5) rfl (by rw [ex9]; rfl) (by decide) rfl (fun ls hl => ?_)
            have hdx9 : zM x9 (fun j => j + 1 = k1) := by rw [ex9]; exact z_dec (by omega)
            have hex9 : x9 = -1 → k1 = 0 := fun h9 => z_dec0 (by omega) (ex9.symm.trans h9)
            refine lv_goto (tgt := 154) hx hb dX7_faceRow_188 (by decide) ?_
            exact ih154 (o3 + 1) x9 rl3 rwv3 f7 _ _ ls (by omega) hbrwv3 hbf7 (zM.imp hdx9 (fun k hk hq => by first | exact hq | trivial | omega)) (by omega) (by omega) (by omega) (by exact i154_3) (by rw [ef7]; exact zPi.up i154_4 hap6 hcp6) (by omega) hP hD hS (lv_sub hl [2, 3, 4, 1, 5, 0] rfl)
      have J69 : ∀ (z69 : Nat) (hd : Nat) (ki : Nat) (H : Heap) (locs : List Loc) (ls : Array Slot), rl2 - ki < z69 → (ki ≤ rl2) → (hd ≤ 1) → (hd = 0 → ∀ i, i < ki → rwv2 i ≠ pil2 (op - 1)) → (0 < op) → va_P (dC, dI) vwCl (rW h0 r cI cJ cZ v0 a1 (nI tp) (nI bs) (fun j => nI (cl j)) a5 a6 a7 (fun j => nI (fc j)) a9 (fun j => nI (mb j)) a11 a12 a13 a14 a15 a16 a17 a18 a19 a20 (nI az) v22 v23 v24 v25 v26 (nI bb) (fun j => nI (ct j)) (nI us) a30 a31 a32 a33 a34 a35 a36 a37 (fun j => nI (pil2 j)) (fun j => nI (rwv2 j)) (nI rl2) v41 v42 v43 v44 v45) H → va_D A (rW h0 r cI cJ cZ v0 a1 (nI tp) (nI bs) (fun j => nI (cl j)) a5 a6 a7 (fun j => nI (fc j)) a9 (fun j => nI (mb j)) a11 a12 a13 a14 a15 a16 a17 a18 a19 a20 (nI az) v22 v23 v24 v25 v26 (nI bb) (fun j => nI (ct j)) (nI us) a30 a31 a32 a33 a34 a35 a36 a37 (fun j => nI (pil2 j)) (fun j => nI (rwv2 j)) (nI rl2) v41 v42 v43 v44 v45) → va_S A s.heap H locs → lv_has ls 8 [(0, .ref h0), (1, .int (nI bd)), (2, .int (nI ci)), (3, .int (nI (op - 1))), (4, .int (nI (pil2 (op - 1)))), (5, .int (nI hd)), (6, .int (nI ki))] → W p l e (headSpec zwX7_faceRow { frames := 1, cells := 0, slots := 0, locals := 23 }).room s m (([.ref h0, .int (nI bd), .int (nI ci)] : List Value).toArray) below meth c H locs 0 0 (MQ below (va_Qv (fun u : Nat × (Nat → Nat) × (Nat → Nat) => (zRow cl a11 bd (u.2.2) (u.1)) ∧ (∀ j, (u.2.1) j ≤ 15) ∧ (∀ j, (u.2.2) j ≤ 15)) (fun u t => zB dC dI (A) (rW h0 r cI cJ cZ v0 a1 (nI tp) (nI bs) (fun j => nI (cl j)) a5 a6 a7 (fun j => nI (fc j)) a9 (fun j => nI (mb j)) a11 a12 a13 a14 a15 a16 a17 a18 a19 a20 (nI az) v22 v23 v24 v25 v26 (nI bb) (fun j => nI (ct j)) (nI us) a30 a31 a32 a33 a34 a35 a36 a37 (fun j => nI ((u.2.1) j)) (fun j => nI ((u.2.2) j)) (nI (u.1)) v41 v42 v43 v44 v45) [(cI, .int), (cJ, .long), (cZ, .boolean)] t) (A)) (([.ref h0, .int (nI bd), .int (nI ci)] : List Value).toArray) s 0 0 A) (F0 m 69 ls []) := by
        intro z69
        induction z69 with
        | zero => intro hd ki H locs ls h9; exact absurd h9 (Nat.not_lt_zero _)
        | succ z69 ih69 =>
          intro hd ki H locs ls hm69 i69_0 i69_1 i69_2 i69_3 hP hD hS hl
          refine lv_iload hx hb dX7_faceRow_69 (lv_at hl 6 rfl) ?_
          refine lv_aload_n hx hb dX7_faceRow_71 rfl (lv_at hl 0 rfl) ?_
          refine va_get (D := (dC, dI)) (ci := 6) (v := .int (nI rl2)) (C := RX7) (T := TX7) (N := 46) hx hb hts hiX7 hown hK hP 0 rfl rfl 40 (by decide) (hts (.fieldLink RX7 266 "LinkModelsModel" "rowLong" "I") (by decide +kernel)) (fun _ h9 => h9) rfl dX7_faceRow_72 ?_
          refine lv_icmp_ge (tgt := 108) hx hb dX7_faceRow_75 (by decide) (fun cp75 => ?_) (fun cp75 => ?_)
          · have qcp75 : rl2 ≤ ki := (nI_leI (a := rl2) (b := ki) (by omega) (by omega)).mp cp75
            refine lv_iload hx hb dX7_faceRow_108 (lv_at hl 5 rfl) ?_
            refine lv_if_ne (tgt := 191) hx hb dX7_faceRow_110 (by decide) (fun cp110 => ?_) (fun cp110 => ?_)
            · have qcp110 : ¬ hd = 0 := fun h9 => cp110 ((nI_eq (a := hd) (b := 0) (by omega) (by omega)).mpr h9)
              refine lv_goto (tgt := 48) hx hb dX7_faceRow_191 (by decide) ?_
              exact ih48 (op - 1) rl2 pil2 rwv2 _ _ ls (by omega) hbpil2 hbrwv2 (by omega) (by omega) (by exact zPi.dn i48_2 (by omega)) (by exact i48_3) hP hD hS (lv_sub hl [0, 1, 2, 3] rfl)
            · have qcp110 : hd = 0 := (nI_eq (a := hd) (b := 0) (by omega) (by omega)).mp cp110
              have hpf := i48_2 (op - 1) (by omega)
              have hrow := zRow.up i48_3 hpf.1 hpf.2 (fun i hi => i69_2 qcp110 i (by omega))
              have hrl := hrow.le
              refine lv_aload_n hx hb dX7_faceRow_113 rfl (lv_at hl 0 rfl) ?_
              refine va_get (D := (dC, dI)) (ci := 6) (v := .ref (r 39)) (C := RX7) (T := TX7) (N := 46) hx hb hts hiX7 hown hK hP 0 rfl rfl 39 (by decide) (hts (.fieldLink RX7 100 "LinkModelsModel" "row" "[I") (by decide +kernel)) (fun _ h9 => h9) rfl dX7_faceRow_114 ?_
              refine lv_aload_n hx hb dX7_faceRow_117 rfl (lv_at hl 0 rfl) ?_
              refine va_get (D := (dC, dI)) (ci := 6) (v := .int (nI rl2)) (C := RX7) (T := TX7) (N := 46) hx hb hts hiX7 hown hK hP 0 rfl rfl 40 (by decide) (hts (.fieldLink RX7 266 "LinkModelsModel" "rowLong" "I") (by decide +kernel)) (fun _ h9 => h9) rfl dX7_faceRow_118 ?_
              refine lv_iload hx hb dX7_faceRow_121 (lv_at hl 4 rfl) ?_
              refine va_iast hx hb hK hP hD hS 29 0 rfl rfl (vp_in_nI (show rl2 < 16 by omega) (by decide)) dX7_faceRow_123 (fun H locs hP hD hS => ?_)
              obtain ⟨f10, ef10⟩ : ∃ g, g = z_up rwv2 rl2 (pil2 (op - 1)) := ⟨_, rfl⟩
              have hP : va_P (dC, dI) vwCl (rW h0 r cI cJ cZ v0 a1 (nI tp) (nI bs) (fun j => nI (cl j)) a5 a6 a7 (fun j => nI (fc j)) a9 (fun j => nI (mb j)) a11 a12 a13 a14 a15 a16 a17 a18 a19 a20 (nI az) v22 v23 v24 v25 v26 (nI bb) (fun j => nI (ct j)) (nI us) a30 a31 a32 a33 a34 a35 a36 a37 (fun j => nI (pil2 j)) (fun j => nI (f10 j)) (nI rl2) v41 v42 v43 v44 v45) H := by rw [ef10, ← z_upd (show rl2 < 2 ^ 31 by omega)]; exact hP
              have hD : va_D A (rW h0 r cI cJ cZ v0 a1 (nI tp) (nI bs) (fun j => nI (cl j)) a5 a6 a7 (fun j => nI (fc j)) a9 (fun j => nI (mb j)) a11 a12 a13 a14 a15 a16 a17 a18 a19 a20 (nI az) v22 v23 v24 v25 v26 (nI bb) (fun j => nI (ct j)) (nI us) a30 a31 a32 a33 a34 a35 a36 a37 (fun j => nI (pil2 j)) (fun j => nI (f10 j)) (nI rl2) v41 v42 v43 v44 v45) := by rw [ef10, ← z_upd (show rl2 < 2 ^ 31 by omega)]; exact hD
              have hbf10 : ∀ j, f10 j ≤ 15 := by rw [ef10]; exact z_upb hbrwv2 (by omega)
              refine lv_aload_n hx hb dX7_faceRow_124 rfl (lv_at hl 0 rfl) ?_
              refine lv_dup hx hb dX7_faceRow_125 rfl ?_
              refine va_get (D := (dC, dI)) (ci := 6) (v := .int (nI rl2)) (C := RX7) (T := TX7) (N := 46) hx hb hts hiX7 hown hK hP 0 rfl rfl 40 (by decide) (hts (.fieldLink RX7 266 "LinkModelsModel" "rowLong" "I") (by decide +kernel)) (fun _ h9 => h9) rfl dX7_faceRow_126 ?_
              refine lv_iconst (v := 1) hx hb dX7_faceRow_129 (by decide) ?_
              refine lv_iadd hx hb dX7_faceRow_130 ?_
              refine lv_topi (fun x11 ex11 => ?_)
              obtain rfl : x11 = nI (rl2 + 1) := by rw [ex11]; exact nI_add (rl2) (1)
              refine va_put (D := (dC, dI)) (ci := 6) (v := .int (nI (rl2 + 1))) (ty := (.int)) (C := RX7) (T := TX7) (N := 46) hx hb hts hiX7 tyX7 tyX7_ok nmX7 hown hK hP hD hS 0 rfl rfl 40 (by decide) (hts (.fieldLink RX7 266 "LinkModelsModel" "rowLong" "I") (by decide +kernel)) (fun _ h9 => h9) rfl (by decide +kernel) rfl rfl (Nat.le_of_ble_eq_true rfl) dX7_faceRow_131 (fun H locs hP hD hS => ?_)
              have hP : va_P (dC, dI) vwCl (rW h0 r cI cJ cZ v0 a1 (nI tp) (nI bs) (fun j => nI (cl j)) a5 a6 a7 (fun j => nI (fc j)) a9 (fun j => nI (mb j)) a11 a12 a13 a14 a15 a16 a17 a18 a19 a20 (nI az) v22 v23 v24 v25 v26 (nI bb) (fun j => nI (ct j)) (nI us) a30 a31 a32 a33 a34 a35 a36 a37 (fun j => nI (pil2 j)) (fun j => nI (f10 j)) (nI (rl2 + 1)) v41 v42 v43 v44 v45) H := hP
              have hD : va_D A (rW h0 r cI cJ cZ v0 a1 (nI tp) (nI bs) (fun j => nI (cl j)) a5 a6 a7 (fun j => nI (fc j)) a9 (fun j => nI (mb j)) a11 a12 a13 a14 a15 a16 a17 a18 a19 a20 (nI az) v22 v23 v24 v25 v26 (nI bb) (fun j => nI (ct j)) (nI us) a30 a31 a32 a33 a34 a35 a36 a37 (fun j => nI (pil2 j)) (fun j => nI (f10 j)) (nI (rl2 + 1)) v41 v42 v43 v44 v45) := hD
              refine lv_bipush (v := 16) hx hb dX7_faceRow_134 (by decide) ?_
              refine lv_iload_n hx hb dX7_faceRow_136 rfl (lv_at hl 1 rfl) ?_
              refine lv_imul hx hb dX7_faceRow_137 ?_
              refine lv_topi (fun x12 ex12 => ?_)
              obtain rfl : x12 = nI (16 * bd) := by rw [ex12]; exact pk_mul (16) (bd)
              refine lv_iload hx hb dX7_faceRow_138 (lv_at hl 4 rfl) ?_
              refine lv_iadd hx hb dX7_faceRow_140 ?_
              refine lv_topi (fun x13 ex13 => ?_)
              obtain rfl : x13 = nI ((16 * bd) + (pil2 (op - 1))) := by rw [ex13]; exact nI_add (16 * bd) (pil2 (op - 1))
              refine lv_istore (lv' := [(6, .int (nI ((16 * bd) + (pil2 (op - 1))))), (0, .ref h0), (1, .int (nI bd)), (2, .int (nI ci)), (3, .int (nI (op - 1))), (4, .int (nI (pil2 (op - 1)))), (5, .int (nI hd))]) hx hb dX7_faceRow_141 hl (by decide) rfl (fun ls hl => ?_)
              refine lv_aload_n hx hb dX7_faceRow_143 rfl (lv_at hl 1 rfl) ?_
              refine va_get (D := (dC, dI)) (ci := 6) (v := .ref (r 8)) (C := RX7) (T := TX7) (N := 46) hx hb hts hiX7 hown hK hP 0 rfl rfl 8 (by decide) (hts (.fieldLink RX7 29 "LinkModelsModel" "faces" "[I") (by decide +kernel)) (fun _ h9 => h9) rfl dX7_faceRow_144 ?_
              refine lv_iload hx hb dX7_faceRow_147 (lv_at hl 0 rfl) ?_
              refine va_iald hx hb hK hP 6 0 rfl rfl (vp_in_nI (show (16 * bd) + (pil2 (op - 1)) < 80 by omega) (by decide)) dX7_faceRow_149 ?_
              refine lv_topi (fun x14 ex14 => ?_)
              obtain rfl : x14 = nI (fc ((16 * bd) + (pil2 (op - 1)))) := by rw [ex14, nI_clamp (show (16 * bd) + (pil2 (op - 1)) < 2 ^ 31 by omega)]
              have hqx14 := hfc ((16 * bd) + (pil2 (op - 1)))
              refine lv_iconst (v := 1) hx hb dX7_faceRow_150 (by decide) ?_
              refine lv_isub hx hb dX7_faceRow_151 ?_
              refine lv_topi (fun x15 ex15 => ?_)
              have hdx15 : zM x15 (fun j => j + 1 = fc ((16 * bd) + (pil2 (op - 1)))) := by rw [ex15]; exact z_decs (by omega)
              have hex15 : x15 = -1 → fc ((16 * bd) + (pil2 (op - 1))) = 0 := fun h9 => z_decs0 (by omega) (ex15.symm.trans h9)
              refine lv_istore (lv' := [(7, .int x15), (6, .int (nI ((16 * bd) + (pil2 (op - 1))))), (0, .ref h0), (1, .int (nI bd)), (2, .int (nI ci)), (3, .int (nI (op - 1))), (4, .int (nI (pil2 (op - 1)))), (5, .int (nI hd))]) hx hb dX7_faceRow_152 hl (by decide) rfl (fun ls hl => ?_)
              exact J154 _ (op - 1) x15 (rl2 + 1) f10 pil2 _ _ ls (Nat.lt_succ_self _) hbf10 hbpil2 (zM.imp hdx15 (fun k hk hq => by first | exact hq | trivial | omega)) (by omega) (by omega) (by omega) (by rw [ef10]; exact hrow) (by exact zPi.dn i48_2 (by omega)) (by omega) hP hD hS (lv_sub hl [2, 3, 4, 5, 1, 0] rfl)
          · have qcp75 : ¬ rl2 ≤ ki := fun h9 => cp75 ((nI_leI (a := rl2) (b := ki) (by omega) (by omega)).mpr h9)
            refine lv_iload hx hb dX7_faceRow_78 (lv_at hl 5 rfl) ?_
            refine lv_if_ne (tgt := 95) hx hb dX7_faceRow_80 (by decide) (fun cp80 => ?_) (fun cp80 => ?_)
            · have qcp80 : ¬ hd = 0 := fun h9 => cp80 ((nI_eq (a := hd) (b := 0) (by omega) (by omega)).mpr h9)
              refine lv_iconst (v := 1) hx hb dX7_faceRow_95 (by decide) ?_
              refine lv_goto (tgt := 100) hx hb dX7_faceRow_96 (by decide) ?_
              refine lv_istore (lv' := [(5, .int 1), (0, .ref h0), (1, .int (nI bd)), (2, .int (nI ci)), (3, .int (nI (op - 1))), (4, .int (nI (pil2 (op - 1)))), (6, .int (nI ki))]) hx hb dX7_faceRow_100 hl (by decide) rfl (fun ls hl => ?_)
              obtain ⟨x16, ex16⟩ : ∃ y : Int32, y = (nI ki) + 1 := ⟨_, rfl⟩
              refine lv_iinc (v := x16) (lv' := [(6, .int x16), (5, .int 1), (0, .ref h0), (1, .int (nI bd)), (2, .int (nI ci)), (3, .int (nI (op - 1))), (4, .int (nI (pil2 (op - 1))))]) hx hb dX7_faceRow_102 hl (k := 6) rfl (by rw [ex16]; rfl) (by decide) rfl (fun ls hl => ?_)
              obtain rfl : x16 = nI (ki + 1) := by rw [ex16]; exact nI_add (ki) 1
              refine lv_goto (tgt := 69) hx hb dX7_faceRow_105 (by decide) ?_
              exact ih69 1 (ki + 1) _ _ ls (by omega) (by omega) (by omega) (by first | (intro h9; exact absurd h9 (by decide)) | (intro _ i hi; rcases Nat.lt_or_ge i ki with h8 | h8; (exact i69_2 qcp80 i h8); (rw [show i = ki by omega]; exact qcp92))) (by omega) hP hD hS (lv_sub hl [2, 3, 4, 5, 6, 1, 0] rfl)
            · have qcp80 : hd = 0 := (nI_eq (a := hd) (b := 0) (by omega) (by omega)).mp cp80
              refine lv_aload_n hx hb dX7_faceRow_83 rfl (lv_at hl 0 rfl) ?_
              refine va_get (D := (dC, dI)) (ci := 6) (v := .ref (r 39)) (C := RX7) (T := TX7) (N := 46) hx hb hts hiX7 hown hK hP 0 rfl rfl 39 (by decide) (hts (.fieldLink RX7 100 "LinkModelsModel" "row" "[I") (by decide +kernel)) (fun _ h9 => h9) rfl dX7_faceRow_84 ?_
              refine lv_iload hx hb dX7_faceRow_87 (lv_at hl 6 rfl) ?_
              refine va_iald hx hb hK hP 29 0 rfl rfl (vp_in_nI (show ki < 16 by omega) (by decide)) dX7_faceRow_89 ?_
              refine lv_topi (fun x17 ex17 => ?_)
              obtain rfl : x17 = nI (rwv2 ki) := by rw [ex17, nI_clamp (show ki < 2 ^ 31 by omega)]
              have hqx17 := hbrwv2 ki
              refine lv_iload hx hb dX7_faceRow_90 (lv_at hl 4 rfl) ?_
              refine lv_icmp_ne (tgt := 99) hx hb dX7_faceRow_92 (by decide) (fun cp92 => ?_) (fun cp92 => ?_)
              · have qcp92 : ¬ (rwv2 ki) = (pil2 (op - 1)) := fun h9 => cp92 ((nI_eq (a := rwv2 ki) (b := pil2 (op - 1)) (by omega) (by omega)).mpr h9)
                refine lv_iconst (v := 0) hx hb dX7_faceRow_99 (by decide) ?_
                refine lv_istore (lv' := [(5, .int 0), (0, .ref h0), (1, .int (nI bd)), (2, .int (nI ci)), (3, .int (nI (op - 1))), (4, .int (nI (pil2 (op - 1)))), (6, .int (nI ki))]) hx hb dX7_faceRow_100 hl (by decide) rfl (fun ls hl => ?_)
                obtain ⟨x18, ex18⟩ : ∃ y : Int32, y = (nI ki) + 1 := ⟨_, rfl⟩
                refine lv_iinc (v := x18) (lv' := [(6, .int x18), (5, .int 0), (0, .ref h0), (1, .int (nI bd)), (2, .int (nI ci)), (3, .int (nI (op - 1))), (4, .int (nI (pil2 (op - 1))))]) hx hb dX7_faceRow_102 hl (k := 6) rfl (by rw [ex18]; rfl) (by decide) rfl (fun ls hl => ?_)
                obtain rfl : x18 = nI (ki + 1) := by rw [ex18]; exact nI_add (ki) 1
                refine lv_goto (tgt := 69) hx hb dX7_faceRow_105 (by decide) ?_
                exact ih69 0 (ki + 1) _ _ ls (by omega) (by omega) (by omega) (by first | (intro h9; exact absurd h9 (by decide)) | (intro _ i hi; rcases Nat.lt_or_ge i ki with h8 | h8; (exact i69_2 qcp80 i h8); (rw [show i = ki by omega]; exact qcp92))) (by omega) hP hD hS (lv_sub hl [2, 3, 4, 5, 6, 1, 0] rfl)
              · have qcp92 : (rwv2 ki) = (pil2 (op - 1)) := (nI_eq (a := rwv2 ki) (b := pil2 (op - 1)) (by omega) (by omega)).mp cp92
                refine lv_iconst (v := 1) hx hb dX7_faceRow_95 (by decide) ?_
                refine lv_goto (tgt := 100) hx hb dX7_faceRow_96 (by decide) ?_
                refine lv_istore (lv' := [(5, .int 1), (0, .ref h0), (1, .int (nI bd)), (2, .int (nI ci)), (3, .int (nI (op - 1))), (4, .int (nI (pil2 (op - 1)))), (6, .int (nI ki))]) hx hb dX7_faceRow_100 hl (by decide) rfl (fun ls hl => ?_)
                obtain ⟨x19, ex19⟩ : ∃ y : Int32, y = (nI ki) + 1 := ⟨_, rfl⟩
                refine lv_iinc (v := x19) (lv' := [(6, .int x19), (5, .int 1), (0, .ref h0), (1, .int (nI bd)), (2, .int (nI ci)), (3, .int (nI (op - 1))), (4, .int (nI (pil2 (op - 1))))]) hx hb dX7_faceRow_102 hl (k := 6) rfl (by rw [ex19]; rfl) (by decide) rfl (fun ls hl => ?_)
                obtain rfl : x19 = nI (ki + 1) := by rw [ex19]; exact nI_add (ki) 1
                refine lv_goto (tgt := 69) hx hb dX7_faceRow_105 (by decide) ?_
                exact ih69 1 (ki + 1) _ _ ls (by omega) (by omega) (by omega) (by first | (intro h9; exact absurd h9 (by decide)) | (intro _ i hi; rcases Nat.lt_or_ge i ki with h8 | h8; (exact i69_2 qcp80 i h8); (rw [show i = ki by omega]; exact qcp92))) (by omega) hP hD hS (lv_sub hl [2, 3, 4, 5, 6, 1, 0] rfl)
      refine lv_iload_n hx hb dX7_faceRow_48 rfl (lv_at hl 3 rfl) ?_
      refine lv_if_le (tgt := 194) hx hb dX7_faceRow_49 (by decide) (fun cp49 => ?_) (fun cp49 => ?_)
      · have qcp49 : op ≤ 0 := (nI_leI (a := op) (b := 0) (by omega) (by omega)).mp cp49
        have hP9 : va_P (dC, dI) vwCl (rW h0 r cI cJ cZ v0 a1 (nI tp) (nI bs) (fun j => nI (cl j)) a5 a6 a7 (fun j => nI (fc j)) a9 (fun j => nI (mb j)) a11 a12 a13 a14 a15 a16 a17 a18 a19 a20 (nI az) v22 v23 v24 v25 v26 (nI bb) (fun j => nI (ct j)) (nI us) a30 a31 a32 a33 a34 a35 a36 a37 (fun j => nI (pil2 j)) (fun j => nI (rwv2 j)) (nI rl2) v41 v42 v43 v44 v45) H := hP
        have hD9 : va_D A (rW h0 r cI cJ cZ v0 a1 (nI tp) (nI bs) (fun j => nI (cl j)) a5 a6 a7 (fun j => nI (fc j)) a9 (fun j => nI (mb j)) a11 a12 a13 a14 a15 a16 a17 a18 a19 a20 (nI az) v22 v23 v24 v25 v26 (nI bb) (fun j => nI (ct j)) (nI us) a30 a31 a32 a33 a34 a35 a36 a37 (fun j => nI (pil2 j)) (fun j => nI (rwv2 j)) (nI rl2) v41 v42 v43 v44 v45) := hD
        exact W.vret hx hb hr (fun t ht hW => ⟨⟨(rl2, pil2, rwv2), rfl, ⟨(by exact i48_3), hbpil2, hbrwv2⟩, by rw [ht]; exact hP9, va_K.moved hW.alike hK, hD9⟩, hS.F ht⟩) hS.2.2 dX7_faceRow_194
      · have qcp49 : ¬ op ≤ 0 := fun h9 => cp49 ((nI_leI (a := op) (b := 0) (by omega) (by omega)).mpr h9)
        obtain ⟨x20, ex20⟩ : ∃ y : Int32, y = (nI op) + (-1) := ⟨_, rfl⟩
        refine lv_iinc (v := x20) (lv' := [(3, .int x20), (0, .ref h0), (1, .int (nI bd)), (2, .int (nI ci))]) hx hb dX7_faceRow_52 hl (k := 3) rfl (by rw [ex20]; rfl) (by decide) rfl (fun ls hl => ?_)
        obtain rfl : x20 = nI (op - 1) := by rw [ex20]; exact (sb_m1 (show 0 < op by omega))
        refine lv_aload_n hx hb dX7_faceRow_55 rfl (lv_at hl 1 rfl) ?_
        refine va_get (D := (dC, dI)) (ci := 6) (v := .ref (r 38)) (C := RX7) (T := TX7) (N := 46) hx hb hts hiX7 hown hK hP 0 rfl rfl 38 (by decide) (hts (.fieldLink RX7 97 "LinkModelsModel" "pile" "[I") (by decide +kernel)) (fun _ h9 => h9) rfl dX7_faceRow_56 ?_
        refine lv_iload_n hx hb dX7_faceRow_59 rfl (lv_at hl 0 rfl) ?_
        refine va_iald hx hb hK hP 28 0 rfl rfl (vp_in_nI (show op - 1 < 800 by omega) (by decide)) dX7_faceRow_60 ?_
        refine lv_topi (fun x21 ex21 => ?_)
        obtain rfl : x21 = nI (pil2 (op - 1)) := by rw [ex21, nI_clamp (show op - 1 < 2 ^ 31 by omega)]
        have hqx21 := hbpil2 (op - 1)
        refine lv_istore (lv' := [(4, .int (nI (pil2 (op - 1)))), (3, .int (nI (op - 1))), (0, .ref h0), (1, .int (nI bd)), (2, .int (nI ci))]) hx hb dX7_faceRow_61 hl (by decide) rfl (fun ls hl => ?_)
        refine lv_iconst (v := 0) hx hb dX7_faceRow_63 (by decide) ?_
        refine lv_istore (lv' := [(5, .int 0), (4, .int (nI (pil2 (op - 1)))), (3, .int (nI (op - 1))), (0, .ref h0), (1, .int (nI bd)), (2, .int (nI ci))]) hx hb dX7_faceRow_64 hl (by decide) rfl (fun ls hl => ?_)
        refine lv_iconst (v := 0) hx hb dX7_faceRow_66 (by decide) ?_
        refine lv_istore (lv' := [(6, .int 0), (5, .int 0), (4, .int (nI (pil2 (op - 1)))), (3, .int (nI (op - 1))), (0, .ref h0), (1, .int (nI bd)), (2, .int (nI ci))]) hx hb dX7_faceRow_67 hl (by decide) rfl (fun ls hl => ?_)
        exact J69 _ 0 0 _ _ ls (Nat.lt_succ_self _) (by omega) (by omega) (by intro _ i hi; omega) (by omega) hP hD hS (lv_sub hl [4, 5, 6, 3, 2, 1, 0] rfl)
  have J12 : ∀ (z12 : Nat) (op : Nat) (kk : Int32) (pil2 : Nat → Nat) (H : Heap) (locs : List Loc) (ls : Array Slot), 4 - op < z12 → (∀ j, pil2 j ≤ 15) → (zM kk (fun k => k < fc ci ∧ op + k < 3)) → (op ≤ 3) → (zPi cl a11 bd pil2 op) → va_P (dC, dI) vwCl (rW h0 r cI cJ cZ v0 a1 (nI tp) (nI bs) (fun j => nI (cl j)) a5 a6 a7 (fun j => nI (fc j)) a9 (fun j => nI (mb j)) a11 a12 a13 a14 a15 a16 a17 a18 a19 a20 (nI az) v22 v23 v24 v25 v26 (nI bb) (fun j => nI (ct j)) (nI us) a30 a31 a32 a33 a34 a35 a36 a37 (fun j => nI (pil2 j)) (fun j => nI (rwv j)) (nI rl) v41 v42 v43 v44 v45) H → va_D A (rW h0 r cI cJ cZ v0 a1 (nI tp) (nI bs) (fun j => nI (cl j)) a5 a6 a7 (fun j => nI (fc j)) a9 (fun j => nI (mb j)) a11 a12 a13 a14 a15 a16 a17 a18 a19 a20 (nI az) v22 v23 v24 v25 v26 (nI bb) (fun j => nI (ct j)) (nI us) a30 a31 a32 a33 a34 a35 a36 a37 (fun j => nI (pil2 j)) (fun j => nI (rwv j)) (nI rl) v41 v42 v43 v44 v45) → va_S A s.heap H locs → lv_has ls 8 [(0, .ref h0), (1, .int (nI bd)), (2, .int (nI ci)), (3, .int (nI op)), (4, .int kk)] → W p l e (headSpec zwX7_faceRow { frames := 1, cells := 0, slots := 0, locals := 23 }).room s m (([.ref h0, .int (nI bd), .int (nI ci)] : List Value).toArray) below meth c H locs 0 0 (MQ below (va_Qv (fun u : Nat × (Nat → Nat) × (Nat → Nat) => (zRow cl a11 bd (u.2.2) (u.1)) ∧ (∀ j, (u.2.1) j ≤ 15) ∧ (∀ j, (u.2.2) j ≤ 15)) (fun u t => zB dC dI (A) (rW h0 r cI cJ cZ v0 a1 (nI tp) (nI bs) (fun j => nI (cl j)) a5 a6 a7 (fun j => nI (fc j)) a9 (fun j => nI (mb j)) a11 a12 a13 a14 a15 a16 a17 a18 a19 a20 (nI az) v22 v23 v24 v25 v26 (nI bb) (fun j => nI (ct j)) (nI us) a30 a31 a32 a33 a34 a35 a36 a37 (fun j => nI ((u.2.1) j)) (fun j => nI ((u.2.2) j)) (nI (u.1)) v41 v42 v43 v44 v45) [(cI, .int), (cJ, .long), (cZ, .boolean)] t) (A)) (([.ref h0, .int (nI bd), .int (nI ci)] : List Value).toArray) s 0 0 A) (F0 m 12 ls []) := by
    intro z12
    induction z12 with
    | zero => intro op kk pil2 H locs ls h9; exact absurd h9 (Nat.not_lt_zero _)
    | succ z12 ih12 =>
      intro op kk pil2 H locs ls hm12 hbpil2 hm12_kk i12_0 i12_1 hP hD hS hl
      refine lv_iload hx hb dX7_faceRow_12 (lv_at hl 4 rfl) ?_
      refine lv_if_lt (tgt := 48) hx hb dX7_faceRow_14 (by decide) (fun cp14 => ?_) (fun cp14 => ?_)
      · obtain rfl : kk = -1 := zM.neg hm12_kk cp14
        exact J48 _ op rl pil2 rwv _ _ ls (Nat.lt_succ_self _) hbpil2 hrwv (by omega) (by omega) (by exact i12_1) (by exact hp3) hP hD hS (lv_sub hl [0, 1, 2, 3] rfl)
      · obtain ⟨k22, hBk22, hQk22, rfl⟩ := zM.pos hm12_kk cp14
        refine lv_aload_n hx hb dX7_faceRow_17 rfl (lv_at hl 0 rfl) ?_
        refine va_get (D := (dC, dI)) (ci := 6) (v := .ref (r 38)) (C := RX7) (T := TX7) (N := 46) hx hb hts hiX7 hown hK hP 0 rfl rfl 38 (by decide) (hts (.fieldLink RX7 97 "LinkModelsModel" "pile" "[I") (by decide +kernel)) (fun _ h9 => h9) rfl dX7_faceRow_18 ?_
        refine lv_iload_n hx hb dX7_faceRow_21 rfl (lv_at hl 3 rfl) ?_
        refine lv_aload_n hx hb dX7_faceRow_22 rfl (lv_at hl 0 rfl) ?_
        refine lv_iload_n hx hb dX7_faceRow_23 rfl (lv_at hl 1 rfl) ?_
        refine lv_aload_n hx hb dX7_faceRow_24 rfl (lv_at hl 0 rfl) ?_
        refine va_get (D := (dC, dI)) (ci := 6) (v := .ref (r 9)) (C := RX7) (T := TX7) (N := 46) hx hb hts hiX7 hown hK hP 0 rfl rfl 9 (by decide) (hts (.fieldLink RX7 32 "LinkModelsModel" "face" "[I") (by decide +kernel)) (fun _ h9 => h9) rfl dX7_faceRow_25 ?_
        refine lv_iconst (v := 3) hx hb dX7_faceRow_28 (by decide) ?_
        refine lv_iload_n hx hb dX7_faceRow_29 rfl (lv_at hl 2 rfl) ?_
        refine lv_imul hx hb dX7_faceRow_30 ?_
        refine lv_topi (fun x23 ex23 => ?_)
        obtain rfl : x23 = nI (3 * ci) := by rw [ex23]; exact pk_mul (3) (ci)
        refine lv_iload hx hb dX7_faceRow_31 (lv_at hl 4 rfl) ?_
        refine lv_iadd hx hb dX7_faceRow_33 ?_
        refine lv_topi (fun x24 ex24 => ?_)
        obtain rfl : x24 = nI ((3 * ci) + k22) := by rw [ex24]; exact nI_add (3 * ci) (k22)
        refine va_iald hx hb hK hP 7 0 rfl rfl (vp_in_nI (show (3 * ci) + k22 < 240 by omega) (by decide)) dX7_faceRow_34 ?_
        refine lv_topi (fun x25 ex25 => ?_)
        obtain rfl : x25 = a9 ((3 * ci) + k22) := by rw [ex25, nI_clamp (show (3 * ci) + k22 < 2 ^ 31 by omega)]
        have hFc := z_freeW hD hS hA
        refine vp_callSi (W.runV (As := [.int (nI bd), .int (a9 ((3 * ci) + k22))]) (rest := [.int (nI op), .ref (r 38)]) ⟨hx, hb, hml, hown, hts⟩ (kX7_place l dC dI h0 r cI cJ cZ v0 a1 tp bs cl a5 a6 a7 fc a9 mb a11 a12 a13 a14 a15 a16 a17 a18 a19 a20 az v22 v23 v24 v25 v26 bb ct us a30 a31 a32 a33 a34 a35 a36 a37 pil2 rwv rl v41 v42 v43 v44 v45 ⟨by omega, by omega, by omega, hcl, hfc, hmb, hct, hbpil2, hrwv⟩ bd (a9 ((3 * ci) + k22)) (by first | omega | assumption | trivial) H.size) (cwV 2 hts zgX7_faceRow_X7_place_201 rfl rfl rfl (by decide +kernel) ⟨(show 0 + 1 ≤ 1 by omega), (show 8 + (4 + 11) + 0 ≤ 23 by omega)⟩) (zVm (ci := 6) (q0 := 0) (q := (RX7, TX7, 46)) hK hP hD hL hS.2.1 hFc rfl rfl rfl) rfl rfl hl.1 rfl (lv_room (Nat.le_of_ble_eq_true rfl)) dX7_faceRow_35 ⟨(show 0 + 0 ≤ 0 by omega), (show 0 + 0 ≤ 0 by omega)⟩) (fun r26 hw => ?_)
        have hw : (zM r26 (fun k => k < cl bd)) ∧ (zPl a5 (16 * bd) (cl bd) ((a9 ((3 * ci) + k22))) r26) := hw
        obtain ⟨w0r26, w1r26⟩ := hw
        obtain ⟨p27, hap27, hbp27, hcp27⟩ := z_gf hp1 hp2 (k := k22) (by omega)
        obtain rfl : r26 = nI p27 := w1r26.uniq hbp27
        refine va_iast hx hb hK hP hD hS 28 0 rfl rfl (vp_in_nI (show op < 800 by omega) (by decide)) dX7_faceRow_38 (fun H locs hP hD hS => ?_)
        obtain ⟨f28, ef28⟩ : ∃ g, g = z_up pil2 op p27 := ⟨_, rfl⟩
        have hP : va_P (dC, dI) vwCl (rW h0 r cI cJ cZ v0 a1 (nI tp) (nI bs) (fun j => nI (cl j)) a5 a6 a7 (fun j => nI (fc j)) a9 (fun j => nI (mb j)) a11 a12 a13 a14 a15 a16 a17 a18 a19 a20 (nI az) v22 v23 v24 v25 v26 (nI bb) (fun j => nI (ct j)) (nI us) a30 a31 a32 a33 a34 a35 a36 a37 (fun j => nI (f28 j)) (fun j => nI (rwv j)) (nI rl) v41 v42 v43 v44 v45) H := by rw [ef28, ← z_upd (show op < 2 ^ 31 by omega)]; exact hP
        have hD : va_D A (rW h0 r cI cJ cZ v0 a1 (nI tp) (nI bs) (fun j => nI (cl j)) a5 a6 a7 (fun j => nI (fc j)) a9 (fun j => nI (mb j)) a11 a12 a13 a14 a15 a16 a17 a18 a19 a20 (nI az) v22 v23 v24 v25 v26 (nI bb) (fun j => nI (ct j)) (nI us) a30 a31 a32 a33 a34 a35 a36 a37 (fun j => nI (f28 j)) (fun j => nI (rwv j)) (nI rl) v41 v42 v43 v44 v45) := by rw [ef28, ← z_upd (show op < 2 ^ 31 by omega)]; exact hD
        have hbf28 : ∀ j, f28 j ≤ 15 := by rw [ef28]; exact z_upb hbpil2 (by omega)
        obtain ⟨x29, ex29⟩ : ∃ y : Int32, y = (nI op) + 1 := ⟨_, rfl⟩
        refine lv_iinc (v := x29) (lv' := [(3, .int x29), (0, .ref h0), (1, .int (nI bd)), (2, .int (nI ci)), (4, .int (nI k22))]) hx hb dX7_faceRow_39 hl (k := 3) rfl (by rw [ex29]; rfl) (by decide) rfl (fun ls hl => ?_)
        obtain rfl : x29 = nI (op + 1) := by rw [ex29]; exact nI_add (op) 1
        obtain ⟨x30, ex30⟩ : ∃ y : Int32, y = (nI k22) + (-1) := ⟨_, rfl⟩
        refine lv_iinc (v := x30) (lv' := [(4, .int x30), (3, .int (nI (op + 1))), (0, .ref h0), (1, .int (nI bd)), (2, .int (nI ci))]) hx hb dX7_faceRow_42 hl (k := 4) rfl (by rw [ex30]; rfl) (by decide) rfl (fun ls hl => ?_)
        have hdx30 : zM x30 (fun j => j + 1 = k22) := by rw [ex30]; exact z_dec (by omega)
        have hex30 : x30 = -1 → k22 = 0 := fun h9 => z_dec0 (by omega) (ex30.symm.trans h9)
        refine lv_goto (tgt := 12) hx hb dX7_faceRow_45 (by decide) ?_
        exact ih12 (op + 1) x30 f28 _ _ ls (by omega) hbf28 (zM.imp hdx30 (fun k hk hq => by first | exact hq | trivial | omega)) (by omega) (by rw [ef28]; exact zPi.up i12_1 hap27 hcp27) hP hD hS (lv_sub hl [2, 3, 4, 1, 0] rfl)
  refine lv_iconst (v := 0) hx hb dX7_faceRow_0 (by decide) ?_
  refine lv_istore_n (lv' := [(3, .int 0), (0, .ref h0), (1, .int (nI bd)), (2, .int (nI ci))]) hx hb dX7_faceRow_1 rfl hl (by decide) rfl (fun ls hl => ?_)
  refine lv_aload_n hx hb dX7_faceRow_2 rfl (lv_at hl 1 rfl) ?_
  refine va_get (D := (dC, dI)) (ci := 6) (v := .ref (r 8)) (C := RX7) (T := TX7) (N := 46) hx hb hts hiX7 hown hK hP 0 rfl rfl 8 (by decide) (hts (.fieldLink RX7 29 "LinkModelsModel" "faces" "[I") (by decide +kernel)) (fun _ h9 => h9) rfl dX7_faceRow_3 ?_
  refine lv_iload_n hx hb dX7_faceRow_6 rfl (lv_at hl 3 rfl) ?_
  refine va_iald hx hb hK hP 6 0 rfl rfl (vp_in_nI (show ci < 80 by omega) (by decide)) dX7_faceRow_7 ?_
  refine lv_topi (fun x31 ex31 => ?_)
  obtain rfl : x31 = nI (fc ci) := by rw [ex31, nI_clamp (show ci < 2 ^ 31 by omega)]
  have hqx31 := hfc ci
  refine lv_iconst (v := 1) hx hb dX7_faceRow_8 (by decide) ?_
  refine lv_isub hx hb dX7_faceRow_9 ?_
  refine lv_topi (fun x32 ex32 => ?_)
  have hdx32 : zM x32 (fun j => j + 1 = fc ci) := by rw [ex32]; exact z_decs (by omega)
  have hex32 : x32 = -1 → fc ci = 0 := fun h9 => z_decs0 (by omega) (ex32.symm.trans h9)
  refine lv_istore (lv' := [(4, .int x32), (3, .int 0), (0, .ref h0), (1, .int (nI bd)), (2, .int (nI ci))]) hx hb dX7_faceRow_10 hl (by decide) rfl (fun ls hl => ?_)
  exact J12 _ 0 x32 pil _ _ ls (Nat.lt_succ_self _) hpil (zM.imp hdx32 (fun k hk hq => by first | exact hq | trivial | omega)) (by omega) (by intro i hi; omega) hP hD hS (lv_sub hl [2, 3, 4, 1, 0] rfl)
