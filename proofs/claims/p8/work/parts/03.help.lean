/-! words of mine for contracts: what a method that writes nothing, and one that writes, begins with -/
abbrev zPr (dC : Nat → ClassId) (dI : Nat → Nat → Nat) (av : List Value) (ws : va_W) (tys : List (ClassId × FieldType)) : Array Value → State → Prop := va_Pc av (fun U => va_P (dC, dI) vwCl ws U.heap ∧ va_K (dC, dI) vwCl tys U)
abbrev zPw (dC : Nat → ClassId) (dI : Nat → Nat → Nat) (av : List Value) (sz : Nat) (ws : va_W) (tys : List (ClassId × FieldType)) : Array Value → State → Prop := va_Pc av (fun U => U.heap.size = sz ∧ va_P (dC, dI) vwCl ws U.heap ∧ va_K (dC, dI) vwCl tys U ∧ va_D (fun _ => True) ws)
theorem zfr {dC : Nat → ClassId} {dI : Nat → Nat → Nat} {av : List Value} {ws : va_W} {tys : List (ClassId × FieldType)} : FrameBlind (zPr dC dI av ws tys) := fun a U g mk q => ⟨q.1, q.2.1, va_K.moved (u := U) (U := U.calling g mk a) (Vm.Alike.refl U.vm) q.2.2⟩
theorem zfw {dC : Nat → ClassId} {dI : Nat → Nat → Nat} {av : List Value} {sz : Nat} {ws : va_W} {tys : List (ClassId × FieldType)} : FrameBlind (zPw dC dI av sz ws tys) := fun a U g mk q => ⟨q.1, q.2.1, q.2.2.1, va_K.moved (u := U) (U := U.calling g mk a) (Vm.Alike.refl U.vm) q.2.2.2.1, q.2.2.2.2⟩
/-- what the tables say of this class's arrays of its own objects, and of the constructors that its nest mates call -/
def zE (U : State) : Prop := va_AO RX0 U ∧ va_AO RX5 U ∧ va_Nw (.methodLinkNest RX2 22 yX3_init "LinkModels") U ∧ va_Nw (.methodLinkNest RX6 156 yX0_init "LinkModels") U ∧ va_Nw (.methodLinkNest RX5 23 yX3_init "LinkModels") U
theorem zE.moved {s U : State} (hW : s.WarmedH U.vm) (h : zE s) : zE U := ⟨va_AO.moved hW.alike h.1, va_AO.moved hW.alike h.2.1, va_Nw.warmM hW h.2.2.1, va_Nw.warmM hW h.2.2.2.1, va_Nw.warmM hW h.2.2.2.2⟩
theorem zE.same {u U : State} (hv : u.vm = U.vm) (h : zE u) : zE U := ⟨va_AO.moved (by rw [hv]; exact Vm.Alike.refl _) h.1, va_AO.moved (by rw [hv]; exact Vm.Alike.refl _) h.2.1, va_Nw.same rfl hv h.2.2.1, va_Nw.same rfl hv h.2.2.2.1, va_Nw.same rfl hv h.2.2.2.2⟩
abbrev zPe (dC : Nat → ClassId) (dI : Nat → Nat → Nat) (av : List Value) (sz : Nat) (ws : va_W) (tys : List (ClassId × FieldType)) : Array Value → State → Prop := va_Pc av (fun U => U.heap.size = sz ∧ va_P (dC, dI) vwCl ws U.heap ∧ va_K (dC, dI) vwCl tys U ∧ va_D (fun _ => True) ws ∧ zE U)
theorem zfe {dC : Nat → ClassId} {dI : Nat → Nat → Nat} {av : List Value} {sz : Nat} {ws : va_W} {tys : List (ClassId × FieldType)} : FrameBlind (zPe dC dI av sz ws tys) := fun a U g mk q => ⟨q.1, q.2.1, q.2.2.1, va_K.moved (u := U) (U := U.calling g mk a) (Vm.Alike.refl U.vm) q.2.2.2.1, q.2.2.2.2.1, zE.same rfl q.2.2.2.2.2⟩
/-- the cells behind a method -/
abbrev zB (dC : Nat → ClassId) (dI : Nat → Nat → Nat) (A : Nat → Prop) (ws : va_W) (tys : List (ClassId × FieldType)) (t : State) : Prop := va_P (dC, dI) vwCl ws t.heap ∧ va_K (dC, dI) vwCl tys t ∧ va_D A ws
section ZPRE
variable {dC : Nat → ClassId} {dI : Nat → Nat → Nat} {ws : va_W} {tys : List (ClassId × FieldType)} {s : State} {H : Heap} {a q0 ci : Nat} {q : vw_C} {fs As : List Value} {C : String} {A : Nat → Prop}
theorem zVr (hK : va_K (dC, dI) vwCl tys s) (hP : va_P (dC, dI) vwCl ws H) (hc : vwCl[ci]? = some q) (he : ws[q0]? = some (a, .inr (ci, fs))) (hC : q.1 = C) : PreV s H C a (zPr dC dI (.ref a :: As) ws tys) As := by
  subst hC
  exact ⟨zfr, va_recv hK hP hc he, fun U hU hW => ⟨rfl, by rw [hU]; exact hP, va_K.moved hW.alike hK⟩⟩
theorem zSr (hK : va_K (dC, dI) vwCl tys s) (hP : va_P (dC, dI) vwCl ws H) : PreS s H (zPr dC dI As ws tys) As := ⟨zfr, fun U hU hW => ⟨rfl, by rw [hU]; exact hP, va_K.moved hW.alike hK⟩⟩
theorem zVw (hK : va_K (dC, dI) vwCl tys s) (hP : va_P (dC, dI) vwCl ws H) (hD : va_D A ws) (hc : vwCl[ci]? = some q) (he : ws[q0]? = some (a, .inr (ci, fs))) (hC : q.1 = C) : PreV s H C a (zPw dC dI (.ref a :: As) H.size ws tys) As := by
  subst hC
  exact ⟨zfw, va_recv hK hP hc he, fun U hU hW => ⟨rfl, by rw [hU], by rw [hU]; exact hP, va_K.moved hW.alike hK, hD.weaken (fun _ _ _ _ => trivial)⟩⟩
theorem zSw (hK : va_K (dC, dI) vwCl tys s) (hP : va_P (dC, dI) vwCl ws H) (hD : va_D A ws) : PreS s H (zPw dC dI As H.size ws tys) As := ⟨zfw, fun U hU hW => ⟨rfl, by rw [hU], by rw [hU]; exact hP, va_K.moved hW.alike hK, hD.weaken (fun _ _ _ _ => trivial)⟩⟩
theorem zVe (hK : va_K (dC, dI) vwCl tys s) (hP : va_P (dC, dI) vwCl ws H) (hD : va_D A ws) (hE : zE s) (hc : vwCl[ci]? = some q) (he : ws[q0]? = some (a, .inr (ci, fs))) (hC : q.1 = C) : PreV s H C a (zPe dC dI (.ref a :: As) H.size ws tys) As := by
  subst hC
  exact ⟨zfe, va_recv hK hP hc he, fun U hU hW => ⟨rfl, by rw [hU], by rw [hU]; exact hP, va_K.moved hW.alike hK, hD.weaken (fun _ _ _ _ => trivial), zE.moved hW hE⟩⟩
theorem zSe (hK : va_K (dC, dI) vwCl tys s) (hP : va_P (dC, dI) vwCl ws H) (hD : va_D A ws) (hE : zE s) : PreS s H (zPe dC dI As H.size ws tys) As := ⟨zfe, fun U hU hW => ⟨rfl, by rw [hU], by rw [hU]; exact hP, va_K.moved hW.alike hK, hD.weaken (fun _ _ _ _ => trivial), zE.moved hW hE⟩⟩
/-- behind a call of which nothing is kept: the other cells -/
theorem z_rest {A0 : Nat → Prop} {D : va_G} {cl : List vw_C} {ws wc wr : va_W} {H H1 : Heap} (hP : va_P D cl ws H) (hD : va_D A0 ws) (isC isR : List Nat) (hC : isC.map (fun i => ws[i]?) = wc.map some) (hR : isR.map (fun i => ws[i]?) = wr.map some) (hn : va_nd isR = true) (hdis : ∀ i ∈ isR, i ∉ isC)
    (hk : ∀ q : Nat, q < H.size → ¬ va_A wc H.size q → H1[q]? = H[q]?) (hF : ∀ q, va_A wc H.size q → A0 q) : va_P D cl wr H1 ∧ va_D A0 wr := by
  have h := va_join (w1 := []) hP hD isC isR hC hR hn hdis hk hF (fun k q h => by simp at h) ⟨fun i j p q h => by simp at h, fun k q h => by simp at h⟩
  rw [List.append_nil] at h
  exact h
end ZPRE
theorem z_ai {ty : FieldType} (h : defaultValue ty = .int 0) (n : Nat) : ∀ cA : ClassId, vp_cell cA (n, .inl (fun _ => 0)) = arrV cA n (fun _ => defaultValue ty) := fun cA => by
  rw [h]
  rfl
theorem z_al (n : Nat) : ∀ cA : ClassId, vp_cell cA (n, .inr (.inl (fun _ => 0))) = arrV cA n (fun _ => defaultValue .long) := fun _ => rfl
theorem zgt {c : Cond} {a b : List Cond} (h : b.all goodWord = true) : GoodIn (c :: (a ++ b)) b := fun w hw => ⟨List.mem_cons_of_mem _ (List.mem_append_right _ hw), good_of_word (List.all_eq_true.mp h w hw)⟩
theorem zg7 : wsX70.all goodWord = true := by decide +kernel
theorem z_out3 {x : Int32} (h0 : ¬ x = 0) (h1 : ¬ x = 1) (h2 : ¬ x = 2) : x.toInt < 0 ∨ 2 < x.toInt := by
  have a0 := lv_neT (a := 0) h0 (by decide)
  have a1 := lv_neT (a := 1) h1 (by decide)
  have a2 := lv_neT (a := 2) h2 (by decide)
  omega
