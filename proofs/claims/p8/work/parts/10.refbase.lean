def z_up (g : Nat → Nat) (k v : Nat) : Nat → Nat := fun j => if j = k then v else g j
theorem z_upd {g : Nat → Nat} {k v : Nat} (h : k < 2 ^ 31) : upd (fun j => nI (g j)) (nI k).toNatClampNeg (nI v) = fun j => nI (z_up g k v j) := by
  rw [nI_clamp h]
  funext j
  by_cases e : j = k
  · simp [upd, z_up, e]
  · simp [upd, z_up, e]
theorem z_upb {g : Nat → Nat} {k v N : Nat} (h : ∀ j, g j ≤ N) (hv : v ≤ N) : ∀ j, z_up g k v j ≤ N := fun j => by
  unfold z_up
  split
  · exact hv
  · exact h j
theorem z_upn {g : Nat → Nat} {k v j : Nat} (h : j ≠ k) : z_up g k v j = g j := if_neg h
theorem z_ups {g : Nat → Nat} {k v : Nat} : z_up g k v k = v := if_pos rfl
theorem z_nb {r : Int32} (h : r = 0 ∨ r = 1) : narrow .boolean (.int r) = .int r := by
  rcases h with rfl | rfl <;> rfl
/-- -1, or a natural number of which something holds -/
def zM (x : Int32) (P : Nat → Prop) : Prop := x = -1 ∨ ∃ k : Nat, k < 2000 ∧ P k ∧ x = nI k
theorem zM.mk {P : Nat → Prop} {k : Nat} (h : k < 2000) (hP : P k) : zM (nI k) P := Or.inr ⟨k, h, hP, rfl⟩
theorem zM.imp {x : Int32} {P Q : Nat → Prop} (h : zM x P) (hq : ∀ k, k < 2000 → P k → Q k) : zM x Q := by
  rcases h with h | ⟨k, h1, h2, h3⟩
  · exact Or.inl h
  · exact Or.inr ⟨k, h1, hq k h1 h2, h3⟩
theorem zM.neg {x : Int32} {P : Nat → Prop} (h : zM x P) (hx : x < 0) : x = -1 := by
  rcases h with h | ⟨k, h1, h2, rfl⟩
  · exact h
  · exact absurd hx (nI_pos (by omega))
theorem zM.neg' {x : Int32} {P : Nat → Prop} (h : zM x P) (hx : ¬ 0 ≤ x) : x = -1 := by
  rcases h with h | ⟨k, h1, h2, rfl⟩
  · exact h
  · exact absurd (nI_pos' (by omega)) hx
theorem zM.pos {x : Int32} {P : Nat → Prop} (h : zM x P) (hx : ¬ x < 0) : ∃ k : Nat, k < 2000 ∧ P k ∧ x = nI k := by
  rcases h with rfl | h
  · exact absurd (by decide) hx
  · exact h
theorem zM.pos' {x : Int32} {P : Nat → Prop} (h : zM x P) (hx : 0 ≤ x) : ∃ k : Nat, k < 2000 ∧ P k ∧ x = nI k := by
  rcases h with rfl | h
  · exact absurd hx (by decide)
  · exact h
theorem z_freeW {A : Nat → Prop} {ws : va_W} {H0 H : Heap} {locs : List Loc} (hD : va_D A ws) (hS : va_S A H0 H locs) (hA : ∀ q, H0.size ≤ q → A q) : ∀ q, va_A ws H.size q → A q := by
  intro q h
  rcases h with ⟨k, e, h⟩ | h
  · exact hD.2 k (q, e) h
  · exact hA q (Nat.le_trans hS.1 h)
/-- the reference's words that its static fields hold: there, whatever they are -/
def zL1 (n : String) (A : Nat → Prop) (U : State) (H : Heap) : Prop := ∃ x : Int64, va_Z RX7 n "J" (.long x) A U H
def zL (A : Nat → Prop) (U : State) (H : Heap) : Prop := zL1 "CLASS" A U H ∧ zL1 "FINAL_WORD" A U H ∧ zL1 "INT" A U H ∧ zL1 "LONG" A U H ∧ zL1 "VOID" A U H ∧ zL1 "FACE_WORD" A U H ∧ zL1 "STATIC_WORD" A U H ∧ zL1 "HIDDEN_WORD" A U H ∧ zL1 "ABSTRACT_WORD" A U H
theorem zL_0 {A : Nat → Prop} {U : State} {H : Heap} (h : zL A U H) : zL1 "CLASS" A U H := h.1
theorem zL_1 {A : Nat → Prop} {U : State} {H : Heap} (h : zL A U H) : zL1 "FINAL_WORD" A U H := h.2.1
theorem zL_2 {A : Nat → Prop} {U : State} {H : Heap} (h : zL A U H) : zL1 "INT" A U H := h.2.2.1
theorem zL_3 {A : Nat → Prop} {U : State} {H : Heap} (h : zL A U H) : zL1 "LONG" A U H := h.2.2.2.1
theorem zL_4 {A : Nat → Prop} {U : State} {H : Heap} (h : zL A U H) : zL1 "VOID" A U H := h.2.2.2.2.1
theorem zL_5 {A : Nat → Prop} {U : State} {H : Heap} (h : zL A U H) : zL1 "FACE_WORD" A U H := h.2.2.2.2.2.1
theorem zL_6 {A : Nat → Prop} {U : State} {H : Heap} (h : zL A U H) : zL1 "STATIC_WORD" A U H := h.2.2.2.2.2.2.1
theorem zL_7 {A : Nat → Prop} {U : State} {H : Heap} (h : zL A U H) : zL1 "HIDDEN_WORD" A U H := h.2.2.2.2.2.2.2.1
theorem zL_8 {A : Nat → Prop} {U : State} {H : Heap} (h : zL A U H) : zL1 "ABSTRACT_WORD" A U H := h.2.2.2.2.2.2.2.2
theorem zL1.to {n : String} {A B : Nat → Prop} {s U : State} {H : Heap} (h : zL1 n A s s.heap) (hvm : s.vm.Alike U.vm) (hk : ∀ q : Nat, q < s.heap.size → ¬ A q → H[q]? = s.heap[q]?) (hAB : ∀ q, B q → A q) (hU : U.heap = H) : zL1 n B U U.heap := by
  obtain ⟨x, h⟩ := h
  exact ⟨x, by rw [hU]; exact ((h.kept hk).moved hvm).narrow hAB⟩
theorem zL.to {A B : Nat → Prop} {s U : State} {H : Heap} (h : zL A s s.heap) (hvm : s.vm.Alike U.vm) (hk : ∀ q : Nat, q < s.heap.size → ¬ A q → H[q]? = s.heap[q]?) (hAB : ∀ q, B q → A q) (hU : U.heap = H) : zL B U U.heap := ⟨zL1.to (zL_0 h) hvm hk hAB hU, zL1.to (zL_1 h) hvm hk hAB hU, zL1.to (zL_2 h) hvm hk hAB hU, zL1.to (zL_3 h) hvm hk hAB hU, zL1.to (zL_4 h) hvm hk hAB hU, zL1.to (zL_5 h) hvm hk hAB hU, zL1.to (zL_6 h) hvm hk hAB hU, zL1.to (zL_7 h) hvm hk hAB hU, zL1.to (zL_8 h) hvm hk hAB hU⟩
abbrev zPm (dC : Nat → ClassId) (dI : Nat → Nat → Nat) (av : List Value) (sz : Nat) (ws : va_W) (tys : List (ClassId × FieldType)) : Array Value → State → Prop := va_Pc av (fun U => U.heap.size = sz ∧ va_P (dC, dI) vwCl ws U.heap ∧ va_K (dC, dI) vwCl tys U ∧ va_D (fun _ => True) ws ∧ zL (va_A ws sz) U U.heap)
theorem zfm {dC : Nat → ClassId} {dI : Nat → Nat → Nat} {av : List Value} {sz : Nat} {ws : va_W} {tys : List (ClassId × FieldType)} : FrameBlind (zPm dC dI av sz ws tys) := fun a U g mk q => ⟨q.1, q.2.1, q.2.2.1, va_K.moved (u := U) (U := U.calling g mk a) (Vm.Alike.refl U.vm) q.2.2.2.1, q.2.2.2.2.1, zL.to (H := U.heap) q.2.2.2.2.2 (Vm.Alike.refl U.vm) (fun _ _ _ => rfl) (fun _ h => h) rfl⟩
section ZPM
variable {dC : Nat → ClassId} {dI : Nat → Nat → Nat} {ws : va_W} {tys : List (ClassId × FieldType)} {s : State} {H : Heap} {a q0 ci : Nat} {q : vw_C} {fs As : List Value} {C : String} {A : Nat → Prop}
theorem zVm (hK : va_K (dC, dI) vwCl tys s) (hP : va_P (dC, dI) vwCl ws H) (hD : va_D A ws) (hL : zL A s s.heap) (hk : ∀ q : Nat, q < s.heap.size → ¬ A q → H[q]? = s.heap[q]?) (hAB : ∀ q, va_A ws H.size q → A q) (hc : vwCl[ci]? = some q) (he : ws[q0]? = some (a, .inr (ci, fs))) (hC : q.1 = C) : PreV s H C a (zPm dC dI (.ref a :: As) H.size ws tys) As := by
  subst hC
  exact ⟨zfm, va_recv hK hP hc he, fun U hU hW => ⟨rfl, by rw [hU], by rw [hU]; exact hP, va_K.moved hW.alike hK, hD.weaken (fun _ _ _ _ => trivial), zL.to hL hW.alike hk hAB hU⟩⟩
end ZPM
def rW (h0 : Nat) (r : Nat → Nat) (cI : ClassId) (cJ : ClassId) (cZ : ClassId) (v0 : Int32) (a1 : Nat → Int32) (tp : Int32) (bs : Int32) (cl : Nat → Int32) (a5 : Nat → Int32) (a6 : Nat → Int32) (a7 : Nat → Int32) (fc : Nat → Int32) (a9 : Nat → Int32) (mb : Nat → Int32) (a11 : Nat → Int32) (a12 : Nat → Int32) (a13 : Nat → Int64) (a14 : Nat → Int32) (a15 : Nat → Int32) (a16 : Nat → Int32) (a17 : Nat → Int32) (a18 : Nat → Int32) (a19 : Nat → Int32) (a20 : Nat → Int32) (az : Int32) (v22 : Int32) (v23 : Int32) (v24 : Int64) (v25 : Int32) (v26 : Int32) (bb : Int32) (ct : Nat → Int32) (us : Int32) (a30 : Nat → Int32) (a31 : Nat → Int32) (a32 : Nat → Int32) (a33 : Nat → Int64) (a34 : Nat → Int32) (a35 : Nat → Int32) (a36 : Nat → Int32) (a37 : Nat → Int32) (pil : Nat → Int32) (rwv : Nat → Int32) (rl : Int32) (v41 : Int32) (v42 : Int32) (v43 : Int32) (v44 : Int32) (v45 : Int32) : va_W := [(h0, .inr (6, [.int v0, .ref (r 1), .int tp, .int bs, .ref (r 4), .ref (r 5), .ref (r 6), .ref (r 7), .ref (r 8), .ref (r 9), .ref (r 10), .ref (r 11), .ref (r 12), .ref (r 13), .ref (r 14), .ref (r 15), .ref (r 16), .ref (r 17), .ref (r 18), .ref (r 19), .ref (r 20), .int az, .int v22, .int v23, .long v24, .int v25, .int v26, .int bb, .ref (r 28), .int us, .ref (r 30), .ref (r 31), .ref (r 32), .ref (r 33), .ref (r 34), .ref (r 35), .ref (r 36), .ref (r 37), .ref (r 38), .ref (r 39), .int rl, .int v41, .int v42, .int v43, .int v44, .int v45])), (r 1, .inl (cI, 800, .inl a1)), (r 4, .inl (cI, 5, .inl cl)), (r 5, .inl (cI, 80, .inl a5)), (r 6, .inl (cI, 80, .inl a6)), (r 7, .inl (cI, 80, .inl a7)), (r 8, .inl (cI, 80, .inl fc)), (r 9, .inl (cI, 240, .inl a9)), (r 10, .inl (cI, 80, .inl mb)), (r 11, .inl (cI, 80, .inl a11)), (r 12, .inl (cI, 80, .inl a12)), (r 13, .inl (cJ, 960, .inr (.inl a13))), (r 14, .inl (cI, 960, .inl a14)), (r 15, .inl (cZ, 960, .inl a15)), (r 16, .inl (cZ, 960, .inl a16)), (r 17, .inl (cI, 960, .inl a17)), (r 18, .inl (cI, 960, .inl a18)), (r 19, .inl (cI, 960, .inl a19)), (r 20, .inl (cI, 960, .inl a20)), (r 28, .inl (cI, 16, .inl ct)), (r 30, .inl (cI, 40, .inl a30)), (r 31, .inl (cI, 40, .inl a31)), (r 32, .inl (cI, 40, .inl a32)), (r 33, .inl (cJ, 40, .inr (.inl a33))), (r 34, .inl (cI, 40, .inl a34)), (r 35, .inl (cI, 40, .inl a35)), (r 36, .inl (cI, 40, .inl a36)), (r 37, .inl (cI, 40, .inl a37)), (r 38, .inl (cI, 800, .inl pil)), (r 39, .inl (cI, 16, .inl rwv))]
def rWI (tp : Nat) (bs : Nat) (cl : Nat → Nat) (fc : Nat → Nat) (mb : Nat → Nat) (az : Nat) (bb : Nat) (ct : Nat → Nat) (us : Nat) (pil : Nat → Nat) (rwv : Nat → Nat) (rl : Nat) : Prop := (tp ≤ 800) ∧ (bs ≤ 5) ∧ (us ≤ 40) ∧ (∀ j, cl j ≤ 16) ∧ (∀ j, fc j ≤ 3) ∧ (∀ j, mb j ≤ 12) ∧ (∀ j, ct j ≤ 65535) ∧ (∀ j, pil j ≤ 15) ∧ (∀ j, rwv j ≤ 15)
