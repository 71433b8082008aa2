/-- the cells of one Build, at bh; of one Use, at uh -/
def zBc (cI cJ cB : ClassId) (bh : Nat) (w : va_W) : Prop := ∃ (br : Nat → Nat) (cc : Nat) (nA : Nat → Int32) (mA : Nat → Int32) (aA : Nat → Int32) (fcA : Nat → Nat) (fA : Nat → Int32) (mcA : Nat → Nat) (mmA : Nat → Int32) (wA : Nat → Int64) (tcA : Nat → Int32) (g1A : Nat → Int32) (g2A : Nat → Int32) (nuA : Nat → Int32) (erA : Nat → Nat) (reA : Nat → Int32) (liA : Nat → Nat) (lcA : Nat → Nat), bWI cc fcA mcA erA liA lcA ∧ w = (bW bh br cI cJ cB (nI cc) nA mA aA (fun j => nI (fcA j)) fA (fun j => nI (mcA j)) mmA wA tcA g1A g2A nuA (fun j => nI (erA j)) reA (fun j => nI (liA j)) (fun j => nI (lcA j)))
def zUc (cI cJ cB : ClassId) (uh : Nat) (w : va_W) : Prop := ∃ (ug : Nat) (uk : Int32) (uc : Int32) (uo : Int32) (uy : Int32) (uw : Int64) (ut : Int32) (uf : Int32) (uq : Int32), w = (uW uh ug cI cJ cB uk uc uo uy uw ut uf uq)
/-- the Builds that stand, the Uses that stand: each with its cells -/
def zBs (D : va_G) (cI cJ cB : ClassId) (bn : Nat) (bf : Nat → Option Nat) (H : Heap) : Prop := ∀ k : Nat, k < bn → ∃ (bh : Nat) (w : va_W), bf k = some bh ∧ zBc cI cJ cB bh w ∧ va_P D vwCl w H
def zUs (D : va_G) (cI cJ cB : ClassId) (un : Nat) (wf : Nat → Option Nat) (H : Heap) : Prop := ∀ k : Nat, k < un → ∃ (uh : Nat) (w : va_W), wf k = some uh ∧ zUc cI cJ cB uh w ∧ va_P D vwCl w H
abbrev zPX (dC : Nat → ClassId) (dI : Nat → Nat → Nat) (av : List Value) (ws : va_W) (tys : List (ClassId × FieldType)) (cI cJ cB : ClassId) (bn : Nat) (bf : Nat → Option Nat) (un : Nat) (wf : Nat → Option Nat) : Array Value → State → Prop := va_Pc av (fun U => va_P (dC, dI) vwCl ws U.heap ∧ va_K (dC, dI) vwCl tys U ∧ zF U ∧ zBs (dC, dI) cI cJ cB bn bf U.heap ∧ zUs (dC, dI) cI cJ cB un wf U.heap)
section ZPXX
variable {dC : Nat → ClassId} {dI : Nat → Nat → Nat} {av : List Value} {ws : va_W} {tys : List (ClassId × FieldType)} {cI cJ cB : ClassId} {bn : Nat} {bf : Nat → Option Nat} {un : Nat} {wf : Nat → Option Nat} {s : State} {H : Heap} {a q0 ci : Nat} {q : vw_C} {fs As : List Value} {C : String}
theorem zfX : FrameBlind (zPX dC dI av ws tys cI cJ cB bn bf un wf) := fun a U g mk q => ⟨q.1, q.2.1, va_K.moved (u := U) (U := U.calling g mk a) (Vm.Alike.refl U.vm) q.2.2.1, zF.same rfl q.2.2.2.1, q.2.2.2.2⟩
theorem zVX (hK : va_K (dC, dI) vwCl tys s) (hP : va_P (dC, dI) vwCl ws H) (hE : zF s) (hBs : zBs (dC, dI) cI cJ cB bn bf H) (hUs : zUs (dC, dI) cI cJ cB un wf H) (hc : vwCl[ci]? = some q) (he : ws[q0]? = some (a, .inr (ci, fs))) (hC : q.1 = C) : PreV s H C a (zPX dC dI (.ref a :: As) ws tys cI cJ cB bn bf un wf) As := by
  subst hC
  exact ⟨zfX, va_recv hK hP hc he, fun U hU hW => ⟨rfl, by rw [hU]; exact hP, va_K.moved hW.alike hK, zF.moved hW hE, by rw [hU]; exact hBs, by rw [hU]; exact hUs⟩⟩
end ZPXX
theorem dX6_buildAt_0 : decode cX6_buildAt 0 = .ok (.iload_n 1, 1) := by decide +kernel
theorem dX6_buildAt_1 : decode cX6_buildAt 1 = .ok (.ifCond .lt 11, 3) := by decide +kernel
theorem dX6_buildAt_4 : decode cX6_buildAt 4 = .ok (.iload_n 1, 1) := by decide +kernel
theorem dX6_buildAt_5 : decode cX6_buildAt 5 = .ok (.aload_n 0, 1) := by decide +kernel
theorem dX6_buildAt_6 : decode cX6_buildAt 6 = .ok (.getfield 23, 3) := by decide +kernel
theorem dX6_buildAt_9 : decode cX6_buildAt 9 = .ok (.if_icmp .lt 7, 3) := by decide +kernel
theorem dX6_buildAt_12 : decode cX6_buildAt 12 = .ok (.aconst_null, 1) := by decide +kernel
theorem dX6_buildAt_13 : decode cX6_buildAt 13 = .ok (.goto 9, 3) := by decide +kernel
theorem dX6_buildAt_16 : decode cX6_buildAt 16 = .ok (.aload_n 0, 1) := by decide +kernel
theorem dX6_buildAt_17 : decode cX6_buildAt 17 = .ok (.getfield 19, 3) := by decide +kernel
theorem dX6_buildAt_20 : decode cX6_buildAt 20 = .ok (.iload_n 1, 1) := by decide +kernel
theorem dX6_buildAt_21 : decode cX6_buildAt 21 = .ok (.aaload, 1) := by decide +kernel
theorem dX6_buildAt_22 : decode cX6_buildAt 22 = .ok (.areturn, 1) := by decide +kernel
def zwX6_buildAt : List Cond := .code yX6_buildAt cX6_buildAt 2 (some (.object "LinkModels$Build")) :: ([.fieldLink RX6 23 "LinkModels" "buildCount" "I", .fieldLink RX6 19 "LinkModels" "builds" "[LLinkModels$Build;"] ++ wsX60)
set_option maxHeartbeats 4000000 in
set_option maxRecDepth 100000 in
theorem kX6_buildAt (l : Launch) (dC : Nat → ClassId) (dI : Nat → Nat → Nat) (xh : Nat) (tb : Nat) (xb : Nat) (xu : Nat) (rh : Nat) (cI : ClassId) (cJ : ClassId) (cB : ClassId) (cQ : ClassId) (cV : ClassId) (tn : Nat) (bn : Nat) (un : Nat) (bf : Nat → Option Nat) (wf : Nat → Option Nat) (hI : yWI tn bn un) (ib : Int32) : Met l yX6_buildAt zwX6_buildAt ({ frames := 0, cells := 0, slots := 0, locals := 0 }) (zPq dC dI [.ref xh, .int ib] (yW xh tb xb xu rh cI cJ cB cQ cV (nI tn) (nI bn) (nI un) bf wf) [(cI, .int), (cJ, .long), (cB, .byte), (cQ, .object RX0), (cV, .object RX5)]) (va_Sq (fun r => r = none ∨ ∃ k, k < bn ∧ r = bf k)) 0 0 (fun _ => False) := by
  refine Met.ofW (cc := cX6_buildAt) (maxL := 2) (ret := (some (.object "LinkModels$Build"))) (by decide) rfl ?_
  intro p e s m args below meth c s₁ B hml hv
  obtain ⟨rfl, hP, hK, hE⟩ := hv
  have hx := B.exec
  have hb := B.bytes
  have hr := B.returns
  have hts := atoms_spec (ws := zwX6_buildAt) B.pre
  have hown : s.vm.findClass RX6 = some m.cls := findClass_of_methodNamed B.named
  have hiX6 : ∀ w ∈ wsX60, w ∈ zwX6_buildAt := (fun w hw => (List.mem_cons_of_mem _ (List.mem_append_right _ hw)))
  obtain ⟨htn, hbn, hun⟩ := hI
  have hl := lv_entry ([.ref xh, .int ib]) (n := 2) (Nat.le_of_ble_eq_true rfl)
  rw [lg_entry_eq]
  generalize (lg_sl ([.ref xh, .int ib]) ++ List.replicate (2 - (lg_sl ([.ref xh, .int ib])).length) Slot.unset).toArray = ls at hl ⊢
  have hl : lv_has ls 2 [(0, .ref xh), (1, .int ib)] := hl
  refine lv_iload_n hx hb dX6_buildAt_0 rfl (lv_at hl 1 rfl) ?_
  refine lv_if_lt (tgt := 12) hx hb dX6_buildAt_1 (by decide) (fun cp1 => ?_) (fun cp1 => ?_)
  · refine lv_null hx hb dX6_buildAt_12 ?_
    refine lv_goto (tgt := 22) hx hb dX6_buildAt_13 (by decide) ?_
    exact W.aret (v := .null) hx hb hr (Or.inl ⟨_, rfl⟩) (Or.inl rfl) (fun t ht hW => ⟨none, rfl, Or.inl rfl, ht⟩) (fun _ h => by cases h) dX6_buildAt_22
  · refine lv_iload_n hx hb dX6_buildAt_4 rfl (lv_at hl 1 rfl) ?_
    refine lv_aload_n hx hb dX6_buildAt_5 rfl (lv_at hl 0 rfl) ?_
    refine va_get (D := (dC, dI)) (ci := 5) (v := .int (nI bn)) (C := RX6) (T := TX6) (N := 7) hx hb hts hiX6 hown hK hP 0 rfl rfl 3 (by decide) (hts (.fieldLink RX6 23 "LinkModels" "buildCount" "I") (by decide +kernel)) (fun _ h9 => h9) rfl dX6_buildAt_6 ?_
    refine lv_icmp_lt (tgt := 16) hx hb dX6_buildAt_9 (by decide) (fun cp9 => ?_) (fun cp9 => ?_)
    · obtain ⟨k1, hk1, rfl⟩ := z_ltn (by omega) cp1 cp9
      refine lv_aload_n hx hb dX6_buildAt_16 rfl (lv_at hl 0 rfl) ?_
      refine va_get (D := (dC, dI)) (ci := 5) (v := .ref xb) (C := RX6) (T := TX6) (N := 7) hx hb hts hiX6 hown hK hP 0 rfl rfl 2 (by decide) (hts (.fieldLink RX6 19 "LinkModels" "builds" "[LLinkModels$Build;") (by decide +kernel)) (fun _ h9 => h9) rfl dX6_buildAt_17 ?_
      refine lv_iload_n hx hb dX6_buildAt_20 rfl (lv_at hl 1 rfl) ?_
      refine va_aldq hx hb hK hP 1 3 rfl rfl (vp_in_nI (show k1 < 5 by omega) (by decide)) dX6_buildAt_21 ?_
      rw [nI_clamp (show k1 < 2 ^ 31 by omega)]
      exact W.aret (v := va_rf (bf k1)) hx hb hr (Or.inl ⟨_, rfl⟩) (va_rf_or _) (fun t ht hW => ⟨bf k1, rfl, Or.inr ⟨k1, by omega, rfl⟩, ht⟩) (fun _ h => by cases h) dX6_buildAt_22
    · refine lv_null hx hb dX6_buildAt_12 ?_
      refine lv_goto (tgt := 22) hx hb dX6_buildAt_13 (by decide) ?_
      exact W.aret (v := .null) hx hb hr (Or.inl ⟨_, rfl⟩) (Or.inl rfl) (fun t ht hW => ⟨none, rfl, Or.inl rfl, ht⟩) (fun _ h => by cases h) dX6_buildAt_22
theorem dX6_useAt_0 : decode cX6_useAt 0 = .ok (.iload_n 1, 1) := by decide +kernel
theorem dX6_useAt_1 : decode cX6_useAt 1 = .ok (.ifCond .lt 11, 3) := by decide +kernel
theorem dX6_useAt_4 : decode cX6_useAt 4 = .ok (.iload_n 1, 1) := by decide +kernel
theorem dX6_useAt_5 : decode cX6_useAt 5 = .ok (.aload_n 0, 1) := by decide +kernel
theorem dX6_useAt_6 : decode cX6_useAt 6 = .ok (.getfield 32, 3) := by decide +kernel
theorem dX6_useAt_9 : decode cX6_useAt 9 = .ok (.if_icmp .lt 7, 3) := by decide +kernel
theorem dX6_useAt_12 : decode cX6_useAt 12 = .ok (.aconst_null, 1) := by decide +kernel
theorem dX6_useAt_13 : decode cX6_useAt 13 = .ok (.goto 9, 3) := by decide +kernel
theorem dX6_useAt_16 : decode cX6_useAt 16 = .ok (.aload_n 0, 1) := by decide +kernel
theorem dX6_useAt_17 : decode cX6_useAt 17 = .ok (.getfield 28, 3) := by decide +kernel
theorem dX6_useAt_20 : decode cX6_useAt 20 = .ok (.iload_n 1, 1) := by decide +kernel
theorem dX6_useAt_21 : decode cX6_useAt 21 = .ok (.aaload, 1) := by decide +kernel
theorem dX6_useAt_22 : decode cX6_useAt 22 = .ok (.areturn, 1) := by decide +kernel
def zwX6_useAt : List Cond := .code yX6_useAt cX6_useAt 2 (some (.object "LinkModels$Use")) :: ([.fieldLink RX6 32 "LinkModels" "useCount" "I", .fieldLink RX6 28 "LinkModels" "uses" "[LLinkModels$Use;"] ++ wsX60)
set_option maxHeartbeats 4000000 in
set_option maxRecDepth 100000 in
theorem kX6_useAt (l : Launch) (dC : Nat → ClassId) (dI : Nat → Nat → Nat) (xh : Nat) (tb : Nat) (xb : Nat) (xu : Nat) (rh : Nat) (cI : ClassId) (cJ : ClassId) (cB : ClassId) (cQ : ClassId) (cV : ClassId) (tn : Nat) (bn : Nat) (un : Nat) (bf : Nat → Option Nat) (wf : Nat → Option Nat) (hI : yWI tn bn un) (ib : Int32) : Met l yX6_useAt zwX6_useAt ({ frames := 0, cells := 0, slots := 0, locals := 0 }) (zPq dC dI [.ref xh, .int ib] (yW xh tb xb xu rh cI cJ cB cQ cV (nI tn) (nI bn) (nI un) bf wf) [(cI, .int), (cJ, .long), (cB, .byte), (cQ, .object RX0), (cV, .object RX5)]) (va_Sq (fun r => r = none ∨ ∃ k, k < un ∧ r = wf k)) 0 0 (fun _ => False) := by
  refine Met.ofW (cc := cX6_useAt) (maxL := 2) (ret := (some (.object "LinkModels$Use"))) (by decide) rfl ?_
  intro p e s m args below meth c s₁ B hml hv
  obtain ⟨rfl, hP, hK, hE⟩ := hv
  have hx := B.exec
  have hb := B.bytes
  have hr := B.returns
  have hts := atoms_spec (ws := zwX6_useAt) B.pre
  have hown : s.vm.findClass RX6 = some m.cls := findClass_of_methodNamed B.named
  have hiX6 : ∀ w ∈ wsX60, w ∈ zwX6_useAt := (fun w hw => (List.mem_cons_of_mem _ (List.mem_append_right _ hw)))
  obtain ⟨htn, hbn, hun⟩ := hI
  have hl := lv_entry ([.ref xh, .int ib]) (n := 2) (Nat.le_of_ble_eq_true rfl)
  rw [lg_entry_eq]
  generalize (lg_sl ([.ref xh, .int ib]) ++ List.replicate (2 - (lg_sl ([.ref xh, .int ib])).length) Slot.unset).toArray = ls at hl ⊢
  have hl : lv_has ls 2 [(0, .ref xh), (1, .int ib)] := hl
  refine lv_iload_n hx hb dX6_useAt_0 rfl (lv_at hl 1 rfl) ?_
  refine lv_if_lt (tgt := 12) hx hb dX6_useAt_1 (by decide) (fun cp1 => ?_) (fun cp1 => ?_)
  · refine lv_null hx hb dX6_useAt_12 ?_
    refine lv_goto (tgt := 22) hx hb dX6_useAt_13 (by decide) ?_
    exact W.aret (v := .null) hx hb hr (Or.inl ⟨_, rfl⟩) (Or.inl rfl) (fun t ht hW => ⟨none, rfl, Or.inl rfl, ht⟩) (fun _ h => by cases h) dX6_useAt_22
  · refine lv_iload_n hx hb dX6_useAt_4 rfl (lv_at hl 1 rfl) ?_
    refine lv_aload_n hx hb dX6_useAt_5 rfl (lv_at hl 0 rfl) ?_
    refine va_get (D := (dC, dI)) (ci := 5) (v := .int (nI un)) (C := RX6) (T := TX6) (N := 7) hx hb hts hiX6 hown hK hP 0 rfl rfl 5 (by decide) (hts (.fieldLink RX6 32 "LinkModels" "useCount" "I") (by decide +kernel)) (fun _ h9 => h9) rfl dX6_useAt_6 ?_
    refine lv_icmp_lt (tgt := 16) hx hb dX6_useAt_9 (by decide) (fun cp9 => ?_) (fun cp9 => ?_)
    · obtain ⟨k1, hk1, rfl⟩ := z_ltn (by omega) cp1 cp9
      refine lv_aload_n hx hb dX6_useAt_16 rfl (lv_at hl 0 rfl) ?_
      refine va_get (D := (dC, dI)) (ci := 5) (v := .ref xu) (C := RX6) (T := TX6) (N := 7) hx hb hts hiX6 hown hK hP 0 rfl rfl 4 (by decide) (hts (.fieldLink RX6 28 "LinkModels" "uses" "[LLinkModels$Use;") (by decide +kernel)) (fun _ h9 => h9) rfl dX6_useAt_17 ?_
      refine lv_iload_n hx hb dX6_useAt_20 rfl (lv_at hl 1 rfl) ?_
      refine va_aldq hx hb hK hP 2 4 rfl rfl (vp_in_nI (show k1 < 40 by omega) (by decide)) dX6_useAt_21 ?_
      rw [nI_clamp (show k1 < 2 ^ 31 by omega)]
      exact W.aret (v := va_rf (wf k1)) hx hb hr (Or.inl ⟨_, rfl⟩) (va_rf_or _) (fun t ht hW => ⟨wf k1, rfl, Or.inr ⟨k1, by omega, rfl⟩, ht⟩) (fun _ h => by cases h) dX6_useAt_22
    · refine lv_null hx hb dX6_useAt_12 ?_
      refine lv_goto (tgt := 22) hx hb dX6_useAt_13 (by decide) ?_
      exact W.aret (v := .null) hx hb hr (Or.inl ⟨_, rfl⟩) (Or.inl rfl) (fun t ht hW => ⟨none, rfl, Or.inl rfl, ht⟩) (fun _ h => by cases h) dX6_useAt_22
