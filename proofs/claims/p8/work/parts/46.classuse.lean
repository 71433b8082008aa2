/-! worlds by their cells, in any order -/
section ZPERM
variable {D : va_G} {cl : List vw_C} {H H1 : Heap} {A0 : Nat → Prop}
theorem z_Pm {ws : va_W} : va_P D cl ws H ↔ ∀ q ∈ ws, va_at D cl q H := ⟨fun h q hq => by
  obtain ⟨k, hk⟩ := List.getElem?_of_mem hq
  exact h k q hk, fun h _ q hk => h q (List.mem_of_getElem? hk)⟩
theorem z_Dn {ws : va_W} : va_D A0 ws ↔ (ws.map Prod.fst).Nodup ∧ ∀ q ∈ ws, A0 q.1 := by
  refine ⟨fun h => ⟨?_, fun q hq => ?_⟩, fun h => ⟨fun i j p q hi hj e => ?_, fun k q hk => h.2 q (List.mem_of_getElem? hk)⟩⟩
  · unfold List.Nodup
    rw [List.pairwise_iff_getElem]
    intro i j hi hj hij e
    rw [List.length_map] at hi hj
    rw [List.getElem_map, List.getElem_map] at e
    have := h.1 i j _ _ (List.getElem?_eq_getElem hi) (List.getElem?_eq_getElem hj) e
    omega
  · obtain ⟨k, hk⟩ := List.getElem?_of_mem hq
    exact h.2 k q hk
  · have h1 := h.1
    unfold List.Nodup at h1
    rw [List.pairwise_iff_getElem] at h1
    obtain ⟨li, rfl⟩ := List.getElem?_eq_some_iff.mp hi
    obtain ⟨lj, rfl⟩ := List.getElem?_eq_some_iff.mp hj
    rcases Nat.lt_trichotomy i j with q | q | q
    · exact absurd (by rw [List.getElem_map, List.getElem_map]; exact e) (h1 i j (by rw [List.length_map]; exact li) (by rw [List.length_map]; exact lj) q)
    · exact q
    · exact absurd (by rw [List.getElem_map, List.getElem_map]; exact e.symm) (h1 j i (by rw [List.length_map]; exact lj) (by rw [List.length_map]; exact li) q)
theorem z_Pp {ws ws' : va_W} (h : ws.Perm ws') (hP : va_P D cl ws H) : va_P D cl ws' H := z_Pm.mpr fun q hq => z_Pm.mp hP q (h.mem_iff.mpr hq)
theorem z_Dp {ws ws' : va_W} (h : ws.Perm ws') (hD : va_D A0 ws) : va_D A0 ws' := by
  have g := z_Dn.mp hD
  exact z_Dn.mpr ⟨(h.map Prod.fst).nodup_iff.mp g.1, fun q hq => g.2 q (h.mem_iff.mpr hq)⟩
theorem z_Pl {a b : va_W} (hP : va_P D cl (a ++ b) H) : va_P D cl a H := z_Pm.mpr fun q hq => z_Pm.mp hP q (List.mem_append_left _ hq)
theorem z_Pr {a b : va_W} (hP : va_P D cl (a ++ b) H) : va_P D cl b H := z_Pm.mpr fun q hq => z_Pm.mp hP q (List.mem_append_right _ hq)
theorem z_Dl {a b : va_W} (hD : va_D A0 (a ++ b)) : va_D A0 a := by
  have g := z_Dn.mp hD
  rw [List.map_append] at g
  exact z_Dn.mpr ⟨(List.nodup_append.mp g.1).1, fun q hq => g.2 q (List.mem_append_left _ hq)⟩
theorem z_Fl {a b : va_W} {H0 : Heap} {locs : List Loc} (hD : va_D A0 (a ++ b)) (hS : va_S A0 H0 H locs) (hA : ∀ q, H0.size ≤ q → A0 q) : ∀ q, va_A a H.size q → A0 q := by
  intro q h
  rcases h with ⟨k, e, h⟩ | h
  · exact (z_Dn.mp hD).2 (q, e) (List.mem_append_left _ (List.mem_of_getElem? h))
  · exact hA q (Nat.le_trans hS.1 h)
/-- behind a call that had the first part of a world -/
theorem z_Jn {wc wr w1 : va_W} (hP : va_P D cl (wc ++ wr) H) (hD : va_D A0 (wc ++ wr)) (hk : ∀ q : Nat, q < H.size → ¬ va_A wc H.size q → H1[q]? = H[q]?) (hF : ∀ q, va_A wc H.size q → A0 q) (hP1 : va_P D cl w1 H1) (hD1 : va_D (va_A wc H.size) w1) : va_P D cl (w1 ++ wr) H1 ∧ va_D A0 (w1 ++ wr) := by
  have g := z_Dn.mp hD
  have apart : ∀ q ∈ wr, q.1 < H.size ∧ ¬ va_A wc H.size q.1 := by
    intro q hq
    have hl := (z_Pm.mp hP q (List.mem_append_right _ hq)).lt
    refine ⟨hl, fun h => ?_⟩
    rcases h with ⟨k, e, h⟩ | h
    · have g1 := g.1
      rw [List.map_append] at g1
      exact (List.nodup_append.mp g1).2.2 q.1 (List.mem_map.mpr ⟨(q.1, e), List.mem_of_getElem? h, rfl⟩) q.1 (List.mem_map.mpr ⟨q, hq, rfl⟩) rfl
    · omega
  have g1 := g.1
  rw [List.map_append] at g1
  refine ⟨z_Pm.mpr fun q hq => ?_, z_Dn.mpr ⟨?_, fun q hq => ?_⟩⟩
  · rcases List.mem_append.mp hq with h | h
    · exact z_Pm.mp hP1 q h
    · exact (z_Pm.mp hP q (List.mem_append_right _ h)).kept (hk q.1 (apart q h).1 (apart q h).2)
  · rw [List.map_append]
    refine List.nodup_append.mpr ⟨(z_Dn.mp hD1).1, (List.nodup_append.mp g1).2.1, fun x hx y hy e => ?_⟩
    subst e
    obtain ⟨q1, h1, rfl⟩ := List.mem_map.mp hx
    obtain ⟨q2, h2, e2⟩ := List.mem_map.mp hy
    exact (apart q2 h2).2 (by rw [e2]; exact (z_Dn.mp hD1).2 q1 h1)
  · rcases List.mem_append.mp hq with h | h
    · exact hF q.1 ((z_Dn.mp hD1).2 q h)
    · exact g.2 q (List.mem_append_right _ h)
/-- what a call that wrote nothing old leaves -/
theorem z_Kp {ws : va_W} (hP : va_P D cl ws H) (hk : ∀ q : Nat, q < H.size → H1[q]? = H[q]?) : va_P D cl ws H1 := z_Pm.mpr fun q hq => (z_Pm.mp hP q hq).kept (hk q.1 (z_Pm.mp hP q hq).lt)
theorem z_sp {L : List va_W} {k : Nat} {w : va_W} (h : L[k]? = some w) : ∃ a b : List va_W, L = a ++ w :: b ∧ a.length = k := by
  obtain ⟨hl, rfl⟩ := List.getElem?_eq_some_iff.mp h
  exact ⟨L.take k, L.drop (k + 1), by rw [← List.drop_eq_getElem_cons hl, List.take_append_drop], by rw [List.length_take]; omega⟩
end ZPERM
/-- what use takes; what it answers, and how many USES there are behind it -/
def zUk (kd nn : Int32) : Prop := (∃ k : Nat, 0 ≤ k ∧ k ≤ 9 ∧ kd = nI k) ∧ ∃ k : Nat, 0 ≤ k ∧ k ≤ 2 ∧ nn = nI k
def zUd (us : Nat) (kd nn r : Int32) (us2 : Nat) : Prop := ((¬ zUk kd nn) ∧ r = -3 ∧ us2 = us) ∨ (zUk kd nn ∧ ((us = 40 ∧ r = -5 ∧ us2 = us) ∨ (us < 40 ∧ r = nI us ∧ us2 = us + 1)))
theorem zUd.uniq {us a b : Nat} {kd nn r q : Int32} (h : zUd us kd nn r a) (g : zUd us kd nn q b) : r = q ∧ a = b := by
  rcases h with ⟨h1, rfl, rfl⟩ | ⟨h1, ⟨h2, rfl, rfl⟩ | ⟨h2, rfl, rfl⟩⟩ <;> rcases g with ⟨g1, rfl, rfl⟩ | ⟨g1, ⟨g2, rfl, rfl⟩ | ⟨g2, rfl, rfl⟩⟩
  · exact ⟨rfl, rfl⟩
  · exact absurd g1 h1
  · exact absurd g1 h1
  · exact absurd h1 g1
  · exact ⟨rfl, rfl⟩
  · omega
  · exact absurd h1 g1
  · omega
  · exact ⟨rfl, rfl⟩
theorem z_in0 {x M : Int32} {n : Nat} (hM : M.toInt = n) (h0 : ¬ x < 0) (h1 : x ≤ M) : ∃ k : Nat, 0 ≤ k ∧ k ≤ n ∧ x = nI k := by
  obtain ⟨j, hj, e⟩ := nI_of2 hM h0 h1
  exact ⟨j, Nat.zero_le _, hj, e⟩
theorem z_nk0 {x : Int32} {M : Nat} (hM : M < 2000) (h : x < 0) : ¬ ∃ k : Nat, 0 ≤ k ∧ k ≤ M ∧ x = nI k := by
  rintro ⟨k, -, h2, rfl⟩
  exact nI_pos (by omega) h
theorem z_nk1 {x m : Int32} {M : Nat} (hM : M < 2000) (e : m = nI M) (h : ¬ x ≤ m) : ¬ ∃ k : Nat, 0 ≤ k ∧ k ≤ M ∧ x = nI k := by
  rintro ⟨k, -, h2, rfl⟩
  subst e
  exact h ((nI_leI (by omega) (by omega)).mpr h2)
/-- the Uses, in their order -/
def zUl (cI cJ cB : ClassId) (un : Nat) (wf : Nat → Option Nat) (L : List va_W) : Prop := L.length = un ∧ ∀ (k : Nat) (w : va_W), L[k]? = some w → ∃ uh : Nat, wf k = some uh ∧ zUc cI cJ cB uh w
def zBl (cI cJ cB : ClassId) (bn : Nat) (bf : Nat → Option Nat) (L : List va_W) : Prop := L.length = bn ∧ ∀ (k : Nat) (w : va_W), L[k]? = some w → ∃ bh : Nat, bf k = some bh ∧ zBc cI cJ cB bh w
theorem zUl.us {D : va_G} {cI cJ cB : ClassId} {un : Nat} {wf : Nat → Option Nat} {L : List va_W} {H : Heap} (h : zUl cI cJ cB un wf L) (hP : va_P D vwCl L.flatten H) : zUs D cI cJ cB un wf H := by
  intro k hk
  have hl : k < L.length := by rw [h.1]; exact hk
  obtain ⟨uh, h1, h2⟩ := h.2 k L[k] (List.getElem?_eq_getElem hl)
  exact ⟨uh, L[k], h1, h2, z_Pm.mpr fun q hq => z_Pm.mp hP q (List.mem_flatten.mpr ⟨L[k], List.getElem_mem hl, hq⟩)⟩
theorem zBl.bs {D : va_G} {cI cJ cB : ClassId} {bn : Nat} {bf : Nat → Option Nat} {L : List va_W} {H : Heap} (h : zBl cI cJ cB bn bf L) (hP : va_P D vwCl L.flatten H) : zBs D cI cJ cB bn bf H := by
  intro k hk
  have hl : k < L.length := by rw [h.1]; exact hk
  obtain ⟨uh, h1, h2⟩ := h.2 k L[k] (List.getElem?_eq_getElem hl)
  exact ⟨uh, L[k], h1, h2, z_Pm.mpr fun q hq => z_Pm.mp hP q (List.mem_flatten.mpr ⟨L[k], List.getElem_mem hl, hq⟩)⟩
theorem zUl.push {cI cJ cB : ClassId} {un uh : Nat} {wf : Nat → Option Nat} {L : List va_W} {w : va_W} (h : zUl cI cJ cB un wf L) (hw : zUc cI cJ cB uh w) : zUl cI cJ cB (un + 1) (va_up wf un (some uh)) (L ++ [w]) := by
  refine ⟨by rw [List.length_append, h.1]; rfl, fun k v hk => ?_⟩
  rcases Nat.lt_or_ge k un with q | q
  · rw [List.getElem?_append_left (by rw [h.1]; exact q)] at hk
    obtain ⟨u, h1, h2⟩ := h.2 k v hk
    exact ⟨u, by rw [va_up_ne _ _ (by omega)]; exact h1, h2⟩
  · rw [List.getElem?_append_right (by rw [h.1]; exact q)] at hk
    have hz : k - L.length < 1 := (List.getElem?_eq_some_iff.mp hk).1
    rw [h.1] at hz hk
    obtain rfl : k = un := by omega
    rw [Nat.sub_self] at hk
    cases hk
    exact ⟨uh, va_up_self _ _ _, hw⟩
theorem zBl.push {cI cJ cB : ClassId} {bn bh : Nat} {bf bf2 : Nat → Option Nat} {L : List va_W} {w : va_W} (h : zBl cI cJ cB bn bf L) (hf : ∀ j, j ≠ bn → bf2 j = bf j) (hb : bf2 bn = some bh) (hw : zBc cI cJ cB bh w) : zBl cI cJ cB (bn + 1) bf2 (L ++ [w]) := by
  refine ⟨by rw [List.length_append, h.1]; rfl, fun k v hk => ?_⟩
  rcases Nat.lt_or_ge k bn with q | q
  · rw [List.getElem?_append_left (by rw [h.1]; exact q)] at hk
    obtain ⟨u, h1, h2⟩ := h.2 k v hk
    exact ⟨u, by rw [hf k (by omega)]; exact h1, h2⟩
  · rw [List.getElem?_append_right (by rw [h.1]; exact q)] at hk
    have hz : k - L.length < 1 := (List.getElem?_eq_some_iff.mp hk).1
    rw [h.1] at hz hk
    obtain rfl : k = bn := by omega
    rw [Nat.sub_self] at hk
    cases hk
    exact ⟨bh, hb, hw⟩
theorem zBl.same {cI cJ cB : ClassId} {bn : Nat} {bf bf2 : Nat → Option Nat} {L : List va_W} (h : zBl cI cJ cB bn bf L) (hf : ∀ j, j ≠ bn → bf2 j = bf j) : zBl cI cJ cB bn bf2 L := by
  refine ⟨h.1, fun k v hk => ?_⟩
  obtain ⟨u, h1, h2⟩ := h.2 k v hk
  have hl := (List.getElem?_eq_some_iff.mp hk).1
  rw [h.1] at hl
  exact ⟨u, by rw [hf k (by omega)]; exact h1, h2⟩
theorem zUl.set {cI cJ cB : ClassId} {un uh : Nat} {wf : Nat → Option Nat} {a b : List va_W} {w v : va_W} (h : zUl cI cJ cB un wf (a ++ w :: b)) (hw : wf a.length = some uh) (hv : zUc cI cJ cB uh v) : zUl cI cJ cB un wf (a ++ v :: b) := by
  refine ⟨by rw [← h.1, List.length_append, List.length_append]; rfl, fun k x hk => ?_⟩
  rcases Nat.lt_trichotomy k a.length with q | q | q
  · rw [List.getElem?_append_left q] at hk
    exact h.2 k x (by rw [List.getElem?_append_left q]; exact hk)
  · subst q
    rw [List.getElem?_append_right (Nat.le_refl _), Nat.sub_self] at hk
    cases hk
    exact ⟨uh, hw, hv⟩
  · obtain ⟨d, rfl⟩ : ∃ d, k = a.length + (d + 1) := ⟨k - a.length - 1, by omega⟩
    rw [List.getElem?_append_right (by omega), show a.length + (d + 1) - a.length = d + 1 by omega, List.getElem?_cons_succ] at hk
    exact h.2 _ x (by rw [List.getElem?_append_right (by omega), show a.length + (d + 1) - a.length = d + 1 by omega, List.getElem?_cons_succ]; exact hk)
theorem dX6_use_0 : decode cX6_use 0 = .ok (.iload_n 1, 1) := by decide +kernel
theorem dX6_use_1 : decode cX6_use 1 = .ok (.ifCond .lt 20, 3) := by decide +kernel
theorem dX6_use_4 : decode cX6_use 4 = .ok (.iload_n 1, 1) := by decide +kernel
theorem dX6_use_5 : decode cX6_use 5 = .ok (.bipush 9, 2) := by decide +kernel
theorem dX6_use_7 : decode cX6_use 7 = .ok (.if_icmp .gt 14, 3) := by decide +kernel
theorem dX6_use_10 : decode cX6_use 10 = .ok (.iload 6, 2) := by decide +kernel
theorem dX6_use_12 : decode cX6_use 12 = .ok (.ifCond .lt 9, 3) := by decide +kernel
theorem dX6_use_15 : decode cX6_use 15 = .ok (.iload 6, 2) := by decide +kernel
theorem dX6_use_17 : decode cX6_use 17 = .ok (.iconst 2, 1) := by decide +kernel
theorem dX6_use_18 : decode cX6_use 18 = .ok (.if_icmp .le 6, 3) := by decide +kernel
theorem dX6_use_21 : decode cX6_use 21 = .ok (.bipush (-3), 2) := by decide +kernel
theorem dX6_use_23 : decode cX6_use 23 = .ok (.ireturn, 1) := by decide +kernel
theorem dX6_use_24 : decode cX6_use 24 = .ok (.aload_n 0, 1) := by decide +kernel
theorem dX6_use_25 : decode cX6_use 25 = .ok (.getfield 32, 3) := by decide +kernel
theorem dX6_use_28 : decode cX6_use 28 = .ok (.bipush 40, 2) := by decide +kernel
theorem dX6_use_30 : decode cX6_use 30 = .ok (.if_icmp .lt 6, 3) := by decide +kernel
theorem dX6_use_33 : decode cX6_use 33 = .ok (.bipush (-5), 2) := by decide +kernel
theorem dX6_use_35 : decode cX6_use 35 = .ok (.ireturn, 1) := by decide +kernel
theorem dX6_use_36 : decode cX6_use 36 = .ok (.new 26, 3) := by decide +kernel
theorem dX6_use_39 : decode cX6_use 39 = .ok (.dup, 1) := by decide +kernel
theorem dX6_use_40 : decode cX6_use 40 = .ok (.iload_n 1, 1) := by decide +kernel
theorem dX6_use_41 : decode cX6_use 41 = .ok (.iload_n 2, 1) := by decide +kernel
theorem dX6_use_42 : decode cX6_use 42 = .ok (.iload_n 3, 1) := by decide +kernel
theorem dX6_use_43 : decode cX6_use 43 = .ok (.invokespecial 93, 3) := by decide +kernel
theorem dX6_use_46 : decode cX6_use 46 = .ok (.astore 9, 2) := by decide +kernel
theorem dX6_use_48 : decode cX6_use 48 = .ok (.aload 9, 2) := by decide +kernel
theorem dX6_use_50 : decode cX6_use 50 = .ok (.getfield 96, 3) := by decide +kernel
theorem dX6_use_53 : decode cX6_use 53 = .ok (.lload 4, 2) := by decide +kernel
theorem dX6_use_55 : decode cX6_use 55 = .ok (.invokevirtual 100, 3) := by decide +kernel
theorem dX6_use_58 : decode cX6_use 58 = .ok (.iload 6, 2) := by decide +kernel
theorem dX6_use_60 : decode cX6_use 60 = .ok (.ifCond .le 13, 3) := by decide +kernel
theorem dX6_use_63 : decode cX6_use 63 = .ok (.aload 9, 2) := by decide +kernel
theorem dX6_use_65 : decode cX6_use 65 = .ok (.getfield 96, 3) := by decide +kernel
theorem dX6_use_68 : decode cX6_use 68 = .ok (.iload 7, 2) := by decide +kernel
theorem dX6_use_70 : decode cX6_use 70 = .ok (.invokevirtual 106, 3) := by decide +kernel
theorem dX6_use_73 : decode cX6_use 73 = .ok (.iload 6, 2) := by decide +kernel
theorem dX6_use_75 : decode cX6_use 75 = .ok (.iconst 1, 1) := by decide +kernel
theorem dX6_use_76 : decode cX6_use 76 = .ok (.if_icmp .le 13, 3) := by decide +kernel
theorem dX6_use_79 : decode cX6_use 79 = .ok (.aload 9, 2) := by decide +kernel
theorem dX6_use_81 : decode cX6_use 81 = .ok (.getfield 96, 3) := by decide +kernel
theorem dX6_use_84 : decode cX6_use 84 = .ok (.iload 8, 2) := by decide +kernel
theorem dX6_use_86 : decode cX6_use 86 = .ok (.invokevirtual 106, 3) := by decide +kernel
theorem dX6_use_89 : decode cX6_use 89 = .ok (.aload_n 0, 1) := by decide +kernel
theorem dX6_use_90 : decode cX6_use 90 = .ok (.getfield 28, 3) := by decide +kernel
theorem dX6_use_93 : decode cX6_use 93 = .ok (.aload_n 0, 1) := by decide +kernel
theorem dX6_use_94 : decode cX6_use 94 = .ok (.getfield 32, 3) := by decide +kernel
theorem dX6_use_97 : decode cX6_use 97 = .ok (.aload 9, 2) := by decide +kernel
theorem dX6_use_99 : decode cX6_use 99 = .ok (.aastore, 1) := by decide +kernel
theorem dX6_use_100 : decode cX6_use 100 = .ok (.aload_n 0, 1) := by decide +kernel
theorem dX6_use_101 : decode cX6_use 101 = .ok (.dup, 1) := by decide +kernel
theorem dX6_use_102 : decode cX6_use 102 = .ok (.getfield 32, 3) := by decide +kernel
theorem dX6_use_105 : decode cX6_use 105 = .ok (.iconst 1, 1) := by decide +kernel
theorem dX6_use_106 : decode cX6_use 106 = .ok (.iadd, 1) := by decide +kernel
theorem dX6_use_107 : decode cX6_use 107 = .ok (.putfield 32, 3) := by decide +kernel
theorem dX6_use_110 : decode cX6_use 110 = .ok (.aload_n 0, 1) := by decide +kernel
theorem dX6_use_111 : decode cX6_use 111 = .ok (.getfield 32, 3) := by decide +kernel
theorem dX6_use_114 : decode cX6_use 114 = .ok (.iconst 1, 1) := by decide +kernel
theorem dX6_use_115 : decode cX6_use 115 = .ok (.isub, 1) := by decide +kernel
theorem dX6_use_116 : decode cX6_use 116 = .ok (.ireturn, 1) := by decide +kernel
def zwX6_use : List Cond := .code yX6_use cX6_use 10 (some .int) :: ([.fieldLink RX6 32 "LinkModels" "useCount" "I", .classLink RX6 26 RX5, .instantiable RX5 5, .initialized RX5, .methodLink RX6 93 yX5_init, .instanceMethod yX5_init, .fieldLink RX6 96 "LinkModels$Use" "wanted" "LLinkModels$Signature;", .fieldLink RX6 28 "LinkModels" "uses" "[LLinkModels$Use;", .code yX5_init cX5_init 4 none, .methodLink RX5 3 objectInit, .instanceMethod objectInit, .code objectInit ⟨#[0xb1]⟩ 1 none, .fieldLink RX5 9 "LinkModels$Use" "kind" "I", .fieldLink RX5 15 "LinkModels$Use" "caller" "I", .fieldLink RX5 18 "LinkModels$Use" "owner" "I", .classLink RX5 21 RX3, .instantiable RX3 4, .initialized RX3, .instanceMethod yX3_init, .fieldLink RX5 24 "LinkModels$Use" "wanted" "LLinkModels$Signature;", .fieldLink RX5 28 "LinkModels$Use" "copy" "I", .code yX3_init cX3_init 1 none, .methodLink RX3 1 objectInit, .methodLink RX6 100 yX3_begin, .instanceMethod yX3_begin, .selects RX3 yX3_begin yX3_begin, .code yX3_begin cX3_begin 3 none, .fieldLink RX3 7 "LinkModels$Signature" "word" "J", .fieldLink RX3 13 "LinkModels$Signature" "typeCount" "I", .fieldLink RX3 17 "LinkModels$Signature" "first" "I", .fieldLink RX3 20 "LinkModels$Signature" "second" "I", .methodLink RX6 106 yX3_add, .instanceMethod yX3_add, .selects RX3 yX3_add yX3_add, .code yX3_add cX3_add 2 none] ++ wsX60 ++ wsX50 ++ wsX30)
set_option maxRecDepth 100000 in
theorem zgX6_use_X5_init_93 : GoodIn zwX6_use zwX5_init := (goodIn_app (goodIn_app (goodIn_r _ [9, 10, 11, 12, 13, 14, 15, 16, 17, 18, 19, 20, 21, 22, 23] rfl (by decide +kernel)) (fun w hw => ⟨(List.mem_cons_of_mem _ (List.mem_append_left _ (List.mem_append_right _ hw))), good_of_word (List.all_eq_true.mp zgX5 w hw)⟩)) (fun w hw => ⟨(List.mem_cons_of_mem _ (List.mem_append_right _ hw)), good_of_word (List.all_eq_true.mp zgX3 w hw)⟩))
set_option maxRecDepth 100000 in
theorem zgX6_use_X3_begin_100 : GoodIn zwX6_use (wsV RX6 100 RX3 yX3_begin zwX3_begin) := goodIn_app (goodIn_r _ [24, 25, 26, 18] rfl (by decide +kernel)) (goodIn_app (goodIn_r _ [27, 28, 29, 30, 31] rfl (by decide +kernel)) (fun w hw => ⟨(List.mem_cons_of_mem _ (List.mem_append_right _ hw)), good_of_word (List.all_eq_true.mp zgX3 w hw)⟩))
set_option maxRecDepth 100000 in
theorem zgX6_use_X3_add_106 : GoodIn zwX6_use (wsV RX6 106 RX3 yX3_add zwX3_add) := goodIn_app (goodIn_r _ [32, 33, 34, 18] rfl (by decide +kernel)) (goodIn_app (goodIn_r _ [35, 29, 31, 30] rfl (by decide +kernel)) (fun w hw => ⟨(List.mem_cons_of_mem _ (List.mem_append_right _ hw)), good_of_word (List.all_eq_true.mp zgX3 w hw)⟩))
set_option maxHeartbeats 4000000 in
set_option maxRecDepth 100000 in
theorem kX6_use (l : Launch) (dC : Nat → ClassId) (dI : Nat → Nat → Nat) (xh : Nat) (tb : Nat) (xb : Nat) (xu : Nat) (rh : Nat) (cI : ClassId) (cJ : ClassId) (cB : ClassId) (cQ : ClassId) (cV : ClassId) (tn : Nat) (bn : Nat) (un : Nat) (bf : Nat → Option Nat) (wf : Nat → Option Nat) (kd ca ow : Int32) (wo : Int64) (nn on tw : Int32) (hI : yWI tn bn un) (sz : Nat) : Met l yX6_use zwX6_use ({ frames := 3, cells := 2, slots := 9, locals := 55 }) (zPk dC dI [.ref xh, .int kd, .int ca, .int ow, .long wo, .int nn, .int on, .int tw] sz (yW xh tb xb xu rh cI cJ cB cQ cV (nI tn) (nI bn) (nI un) bf wf) [(cI, .int), (cJ, .long), (cB, .byte), (cQ, .object RX0), (cV, .object RX5)]) (va_Qi (fun (r : Int32) (u : Nat × (Nat → Option Nat) × va_W) => zUd un kd nn r u.1 ∧ u.1 ≤ 40 ∧ ((u.1 = un ∧ u.2.1 = wf ∧ u.2.2 = []) ∨ (u.1 = un + 1 ∧ ∃ uh : Nat, u.2.1 = va_up wf un (some uh) ∧ zUc cI cJ cB uh u.2.2))) (fun u t => zB dC dI (va_A (yW xh tb xb xu rh cI cJ cB cQ cV (nI tn) (nI bn) (nI un) bf wf) sz) ((yW xh tb xb xu rh cI cJ cB cQ cV (nI tn) (nI bn) (nI u.1) bf u.2.1) ++ u.2.2) [(cI, .int), (cJ, .long), (cB, .byte), (cQ, .object RX0), (cV, .object RX5)] t) (va_A (yW xh tb xb xu rh cI cJ cB cQ cV (nI tn) (nI bn) (nI un) bf wf) sz)) 2 9 (va_A (yW xh tb xb xu rh cI cJ cB cQ cV (nI tn) (nI bn) (nI un) bf wf) sz) := by
  refine Met.ofW (cc := cX6_use) (maxL := 10) (ret := (some .int)) (by decide) rfl ?_
  intro p e s m args below meth c s₁ B hml hv
  obtain ⟨rfl, hsz, hP, hK, hD0, hE⟩ := hv
  subst hsz
  have hD := hD0.self (sz := s.heap.size)
  generalize hAe : va_A (yW xh tb xb xu rh cI cJ cB cQ cV (nI tn) (nI bn) (nI un) bf wf) s.heap.size = A at hD ⊢
  have hA : ∀ q : Nat, s.heap.size ≤ q → A q := fun q h => by rw [← hAe]; exact Or.inr h
  have hS : va_S A s.heap s.heap [] := va_S.rf
  obtain ⟨htn, hbn, hun⟩ := hI
  have hx := B.exec
  have hb := B.bytes
  have hr := B.returns
  have hts := atoms_spec (ws := zwX6_use) B.pre
  have hown : s.vm.findClass RX6 = some m.cls := findClass_of_methodNamed B.named
  have hlocks := B.notSynchronized
  have hiX6 : ∀ w ∈ wsX60, w ∈ zwX6_use := (fun w hw => (List.mem_cons_of_mem _ (List.mem_append_left _ (List.mem_append_left _ (List.mem_append_right _ hw)))))
  have hiX5 : ∀ w ∈ wsX50, w ∈ zwX6_use := (fun w hw => (List.mem_cons_of_mem _ (List.mem_append_left _ (List.mem_append_right _ hw))))
  have hl := lv_entry ([.ref xh, .int kd, .int ca, .int ow, .long wo, .int nn, .int on, .int tw]) (n := 10) (Nat.le_of_ble_eq_true rfl)
  rw [lg_entry_eq]
  generalize (lg_sl ([.ref xh, .int kd, .int ca, .int ow, .long wo, .int nn, .int on, .int tw]) ++ List.replicate (10 - (lg_sl ([.ref xh, .int kd, .int ca, .int ow, .long wo, .int nn, .int on, .int tw])).length) Slot.unset).toArray = ls at hl ⊢
  have hl : lv_has ls 10 [(0, .ref xh), (1, .int kd), (2, .int ca), (3, .int ow), (4, .long wo), (6, .int nn), (7, .int on), (8, .int tw)] := hl
  refine lv_iload_n hx hb dX6_use_0 rfl (lv_at hl 1 rfl) ?_
  refine lv_if_lt (tgt := 21) hx hb dX6_use_1 (by decide) (fun cp1 => ?_) (fun cp1 => ?_)
  · refine lv_bipush (v := (-3)) hx hb dX6_use_21 (by decide) ?_
    refine W.widen (k := 2) (n := 9) (by omega) (by omega) ?_
    have hP9 : va_P (dC, dI) vwCl ((yW xh tb xb xu rh cI cJ cB cQ cV (nI tn) (nI bn) (nI un) bf wf) ++ []) s.heap := by rw [List.append_nil]; exact hP
    have hD9 : va_D A ((yW xh tb xb xu rh cI cJ cB cQ cV (nI tn) (nI bn) (nI un) bf wf) ++ []) := by rw [List.append_nil]; exact hD
    exact W.iret (v := (-3 : Int32)) hx hb hr (fun t ht hW => ⟨⟨(-3 : Int32), (un, wf, []), rfl, ⟨Or.inl ⟨fun h9 => z_nk0 (by omega) cp1 h9.1, rfl, rfl⟩, hun, Or.inl ⟨rfl, rfl, rfl⟩⟩, by rw [ht]; exact hP9, va_K.moved hW.alike hK, hD9⟩, hS.F ht⟩) hS.2.2 dX6_use_23
  · refine lv_iload_n hx hb dX6_use_4 rfl (lv_at hl 1 rfl) ?_
    refine lv_bipush (v := 9) hx hb dX6_use_5 (by decide) ?_
    refine lv_icmp_gt (tgt := 21) hx hb dX6_use_7 (by decide) (fun cp7 => ?_) (fun cp7 => ?_)
    · refine lv_bipush (v := (-3)) hx hb dX6_use_21 (by decide) ?_
      refine W.widen (k := 2) (n := 9) (by omega) (by omega) ?_
      have hP9 : va_P (dC, dI) vwCl ((yW xh tb xb xu rh cI cJ cB cQ cV (nI tn) (nI bn) (nI un) bf wf) ++ []) s.heap := by rw [List.append_nil]; exact hP
      have hD9 : va_D A ((yW xh tb xb xu rh cI cJ cB cQ cV (nI tn) (nI bn) (nI un) bf wf) ++ []) := by rw [List.append_nil]; exact hD
      exact W.iret (v := (-3 : Int32)) hx hb hr (fun t ht hW => ⟨⟨(-3 : Int32), (un, wf, []), rfl, ⟨Or.inl ⟨fun h9 => z_nk1 (m := 9) (M := 9) (by omega) rfl (Int32.not_le.mpr cp7) h9.1, rfl, rfl⟩, hun, Or.inl ⟨rfl, rfl, rfl⟩⟩, by rw [ht]; exact hP9, va_K.moved hW.alike hK, hD9⟩, hS.F ht⟩) hS.2.2 dX6_use_23
    · refine lv_iload hx hb dX6_use_10 (lv_at hl 5 rfl) ?_
      refine lv_if_lt (tgt := 21) hx hb dX6_use_12 (by decide) (fun cp12 => ?_) (fun cp12 => ?_)
      · refine lv_bipush (v := (-3)) hx hb dX6_use_21 (by decide) ?_
        refine W.widen (k := 2) (n := 9) (by omega) (by omega) ?_
        have hP9 : va_P (dC, dI) vwCl ((yW xh tb xb xu rh cI cJ cB cQ cV (nI tn) (nI bn) (nI un) bf wf) ++ []) s.heap := by rw [List.append_nil]; exact hP
        have hD9 : va_D A ((yW xh tb xb xu rh cI cJ cB cQ cV (nI tn) (nI bn) (nI un) bf wf) ++ []) := by rw [List.append_nil]; exact hD
        exact W.iret (v := (-3 : Int32)) hx hb hr (fun t ht hW => ⟨⟨(-3 : Int32), (un, wf, []), rfl, ⟨Or.inl ⟨fun h9 => z_nk0 (by omega) cp12 h9.2, rfl, rfl⟩, hun, Or.inl ⟨rfl, rfl, rfl⟩⟩, by rw [ht]; exact hP9, va_K.moved hW.alike hK, hD9⟩, hS.F ht⟩) hS.2.2 dX6_use_23
      · refine lv_iload hx hb dX6_use_15 (lv_at hl 5 rfl) ?_
        refine lv_iconst (v := 2) hx hb dX6_use_17 (by decide) ?_
        refine lv_icmp_le (tgt := 24) hx hb dX6_use_18 (by decide) (fun cp18 => ?_) (fun cp18 => ?_)
        · have hyA : ∃ k : Nat, 0 ≤ k ∧ k ≤ 9 ∧ kd = nI k := z_in0 (M := 9) (by decide) cp1 (Int32.not_lt.mp cp7)
          have hyB : ∃ k : Nat, 0 ≤ k ∧ k ≤ 2 ∧ nn = nI k := z_in0 (M := 2) (by decide) cp12 cp18
          refine lv_aload_n hx hb dX6_use_24 rfl (lv_at hl 0 rfl) ?_
          refine va_get (D := (dC, dI)) (ci := 5) (v := .int (nI un)) (C := RX6) (T := TX6) (N := 7) hx hb hts hiX6 hown hK hP 0 rfl rfl 5 (by decide) (hts (.fieldLink RX6 32 "LinkModels" "useCount" "I") (by decide +kernel)) (fun _ h9 => h9) rfl dX6_use_25 ?_
          refine lv_bipush (v := 40) hx hb dX6_use_28 (by decide) ?_
          refine lv_icmp_lt (tgt := 36) hx hb dX6_use_30 (by decide) (fun cp30 => ?_) (fun cp30 => ?_)
          · have qcp30 : un < 40 := (nI_ltI (a := un) (b := 40) (by omega) (by omega)).mp cp30
            refine va_new (ci := 4) (fs := [.int 0, .int 0, .int 0, .null, .int 0]) (C := RX5) (T := TX5) (N := 5) hx hb hts hiX5 tyX5 tyX5_ok hown (hts (.classLink RX6 26 RX5) (by decide +kernel)) (hts (.instantiable RX5 5) (by decide +kernel)) (hts (.initialized RX5) (by decide +kernel)) hK hP hD hS hA rfl (by decide +kernel) (show 0 + 1 ≤ 2 by omega) (show 0 + 5 ≤ 9 by omega) dX6_use_36 (fun q1 H hP hD hS => ?_)
            have hP : va_P (dC, dI) vwCl [(xh, .inr (5, [.ref tb, .int (nI tn), .ref xb, .int (nI bn), .ref xu, .int (nI un), .ref rh])), (xb, .inl (cQ, 5, .inr (.inr (.inr (.inr bf))))), (xu, .inl (cV, 40, .inr (.inr (.inr (.inr wf))))), (q1, .inr (4, [.int 0, .int 0, .int 0, .null, .int 0]))] H := hP
            have hD : va_D A [(xh, .inr (5, [.ref tb, .int (nI tn), .ref xb, .int (nI bn), .ref xu, .int (nI un), .ref rh])), (xb, .inl (cQ, 5, .inr (.inr (.inr (.inr bf))))), (xu, .inl (cV, 40, .inr (.inr (.inr (.inr wf))))), (q1, .inr (4, [.int 0, .int 0, .int 0, .null, .int 0]))] := hD
            refine W.widen (k := 1) (n := 5) (by omega) (by omega) ?_
            refine lv_dup hx hb dX6_use_39 rfl ?_
            refine lv_iload_n hx hb dX6_use_40 rfl (lv_at hl 1 rfl) ?_
            refine lv_iload_n hx hb dX6_use_41 rfl (lv_at hl 2 rfl) ?_
            refine lv_iload_n hx hb dX6_use_42 rfl (lv_at hl 3 rfl) ?_
            have hPc := hP.sub (ws' := [(q1, .inr (4, [.int 0, .int 0, .int 0, .null, .int 0]))]) [3] rfl
            have hDc := hD.sub (ws' := [(q1, .inr (4, [.int 0, .int 0, .int 0, .null, .int 0]))]) [3] (by decide) rfl
            have hKc := hK.sub (tys' := []) [] rfl
            have hFc := va_free (wc := [(q1, .inr (4, [.int 0, .int 0, .int 0, .null, .int 0]))]) hD hS hA [3] rfl
            refine va_callv (va_runI (As := [.int kd, .int ca, .int ow]) (rest := [.ref q1]) ⟨hx, hb, hml, hown, hts⟩ (zX5_init l dC dI q1 kd ca ow H.size) (cwI 3 hts zgX6_use_X5_init_93 rfl rfl rfl (hts (.initialized RX5) (by decide +kernel)) (hts (.methodLink RX6 93 yX5_init) (by decide +kernel)) (hts (.instanceMethod yX5_init) (by decide +kernel)) rfl (by decide +kernel) ⟨(show 2 + 1 ≤ 3 by omega), (show 8 + (4 + 11) + 32 ≤ 55 by omega)⟩) (zSe hKc hPc hDc hE.1) rfl rfl hl.1 rfl (lv_room (Nat.le_of_ble_eq_true rfl)) dX6_use_43 ⟨(show 1 + 1 ≤ 2 by omega), (show 5 + 4 ≤ 9 by omega)⟩) hS (fun q _ h => hFc q h) hFc (fun u2 t H1 locs ht hvm hw hB hz1 hk1 hS => ?_)
            obtain ⟨hP1, hK1, hD1⟩ := hB
            rw [ht] at hP1
            have hK1 := va_K.moved hvm.symm hK1
            obtain ⟨hP, hD⟩ := va_join (wr := (yW xh tb xb xu rh cI cJ cB cQ cV (nI tn) (nI bn) (nI un) bf wf)) (w1 := [(q1, .inr (4, [.int kd, .int ca, .int ow, .ref u2, .int (-1)])), (u2, .inr (2, [.long 0, .int 0, .int 0, .int 0]))]) hP hD [3] [0, 1, 2] rfl rfl (by decide) (by decide) hk1 hFc hP1 hD1
            have hK := (hK.sub (tys' := [(cI, .int), (cJ, .long), (cB, .byte), (cQ, .object RX0), (cV, .object RX5)]) [0, 1, 2, 3, 4] rfl).app hK1
            generalize H1 = H at hP hS ⊢
            have hP : va_P (dC, dI) vwCl [(xh, .inr (5, [.ref tb, .int (nI tn), .ref xb, .int (nI bn), .ref xu, .int (nI un), .ref rh])), (xb, .inl (cQ, 5, .inr (.inr (.inr (.inr bf))))), (xu, .inl (cV, 40, .inr (.inr (.inr (.inr wf))))), (q1, .inr (4, [.int kd, .int ca, .int ow, .ref u2, .int (-1)])), (u2, .inr (2, [.long 0, .int 0, .int 0, .int 0]))] H := hP
            have hD : va_D A [(xh, .inr (5, [.ref tb, .int (nI tn), .ref xb, .int (nI bn), .ref xu, .int (nI un), .ref rh])), (xb, .inl (cQ, 5, .inr (.inr (.inr (.inr bf))))), (xu, .inl (cV, 40, .inr (.inr (.inr (.inr wf))))), (q1, .inr (4, [.int kd, .int ca, .int ow, .ref u2, .int (-1)])), (u2, .inr (2, [.long 0, .int 0, .int 0, .int 0]))] := hD
            have hK : va_K (dC, dI) vwCl [(cI, .int), (cJ, .long), (cB, .byte), (cQ, .object RX0), (cV, .object RX5)] s := hK
            refine W.widen (k := 2) (n := 9) (by omega) (by omega) ?_
            refine lv_astore (lv' := [(9, .ref q1), (0, .ref xh), (1, .int kd), (2, .int ca), (3, .int ow), (4, .long wo), (6, .int nn), (7, .int on), (8, .int tw)]) hx hb dX6_use_46 hl (by decide) rfl (fun ls hl => ?_)
            refine lv_aload hx hb dX6_use_48 (lv_at hl 0 rfl) ?_
            refine va_get (D := (dC, dI)) (ci := 4) (v := .ref u2) (C := RX5) (T := TX5) (N := 5) hx hb hts hiX5 hown hK hP 3 rfl rfl 3 (by decide) (hts (.fieldLink RX6 96 "LinkModels$Use" "wanted" "LLinkModels$Signature;") (by decide +kernel)) (fun _ h9 => h9) rfl dX6_use_50 ?_
            refine lv_lload hx hb dX6_use_53 (lv_at hl 5 rfl) ?_
            have hPc := hP.sub (ws' := (sgW u2 cI cJ cB 0 0 0 0)) [4] rfl
            have hDc := hD.sub (ws' := (sgW u2 cI cJ cB 0 0 0 0)) [4] (by decide) rfl
            have hFc := va_free (wc := (sgW u2 cI cJ cB 0 0 0 0)) hD hS hA [4] rfl
            refine va_callv (va_runV (As := [.long wo]) (rest := []) ⟨hx, hb, hml, hown, hts⟩ (kX3_begin l dC dI u2 cI cJ cB 0 0 0 0 wo H.size) (cwV 1 hts zgX6_use_X3_begin_100 rfl rfl rfl (by decide +kernel) ⟨(show 0 + 1 ≤ 3 by omega), (show 8 + (3 + 11) + 0 ≤ 55 by omega)⟩) (zVk (ci := 2) (q0 := 0) (q := (RX3, TX3, 4)) (hK.sub (tys' := [(cI, .int), (cJ, .long), (cB, .byte)]) [0, 1, 2] rfl) hPc hDc hE rfl rfl rfl) rfl rfl hl.1 rfl (lv_room (Nat.le_of_ble_eq_true rfl)) dX6_use_55 ⟨(show 2 + 0 ≤ 2 by omega), (show 9 + 0 ≤ 9 by omega)⟩) hS (fun q _ h => hFc q h) hFc (fun u9 t H1 locs ht hvm hw hB hz1 hk1 hS => ?_)
            obtain ⟨o5, o6, o7, o8⟩ := u9
            obtain ⟨hP1, hK9, hD1⟩ := hB
            rw [ht] at hP1
            obtain ⟨hP, hD⟩ := va_join (wr := [(xh, .inr (5, [.ref tb, .int (nI tn), .ref xb, .int (nI bn), .ref xu, .int (nI un), .ref rh])), (xb, .inl (cQ, 5, .inr (.inr (.inr (.inr bf))))), (xu, .inl (cV, 40, .inr (.inr (.inr (.inr wf))))), (q1, .inr (4, [.int kd, .int ca, .int ow, .ref u2, .int (-1)]))]) (w1 := (sgW u2 cI cJ cB o5 o6 o7 o8)) hP hD [4] [0, 1, 2, 3] rfl rfl (by decide) (by decide) hk1 hFc hP1 hD1
            have hP := hP.sub (ws' := [(xh, .inr (5, [.ref tb, .int (nI tn), .ref xb, .int (nI bn), .ref xu, .int (nI un), .ref rh])), (xb, .inl (cQ, 5, .inr (.inr (.inr (.inr bf))))), (xu, .inl (cV, 40, .inr (.inr (.inr (.inr wf))))), (q1, .inr (4, [.int kd, .int ca, .int ow, .ref u2, .int (-1)])), (u2, .inr (2, [.long o5, .int o6, .int o7, .int o8]))]) [0, 1, 2, 3, 4] rfl
            have hD := hD.sub (ws' := [(xh, .inr (5, [.ref tb, .int (nI tn), .ref xb, .int (nI bn), .ref xu, .int (nI un), .ref rh])), (xb, .inl (cQ, 5, .inr (.inr (.inr (.inr bf))))), (xu, .inl (cV, 40, .inr (.inr (.inr (.inr wf))))), (q1, .inr (4, [.int kd, .int ca, .int ow, .ref u2, .int (-1)])), (u2, .inr (2, [.long o5, .int o6, .int o7, .int o8]))]) [0, 1, 2, 3, 4] (by decide) rfl
            generalize H1 = H at hP hS
            have hw : (True) := hw
            have w0r4 := hw
            refine lv_iload hx hb dX6_use_58 (lv_at hl 6 rfl) ?_
            refine lv_if_le (tgt := 73) hx hb dX6_use_60 (by decide) (fun cp60 => ?_) (fun cp60 => ?_)
            · refine lv_iload hx hb dX6_use_73 (lv_at hl 6 rfl) ?_
              refine lv_iconst (v := 1) hx hb dX6_use_75 (by decide) ?_
              refine lv_icmp_le (tgt := 89) hx hb dX6_use_76 (by decide) (fun cp76 => ?_) (fun cp76 => ?_)
              · refine lv_aload_n hx hb dX6_use_89 rfl (lv_at hl 1 rfl) ?_
                refine va_get (D := (dC, dI)) (ci := 5) (v := .ref xu) (C := RX6) (T := TX6) (N := 7) hx hb hts hiX6 hown hK hP 0 rfl rfl 4 (by decide) (hts (.fieldLink RX6 28 "LinkModels" "uses" "[LLinkModels$Use;") (by decide +kernel)) (fun _ h9 => h9) rfl dX6_use_90 ?_
                refine lv_aload_n hx hb dX6_use_93 rfl (lv_at hl 1 rfl) ?_
                refine va_get (D := (dC, dI)) (ci := 5) (v := .int (nI un)) (C := RX6) (T := TX6) (N := 7) hx hb hts hiX6 hown hK hP 0 rfl rfl 5 (by decide) (hts (.fieldLink RX6 32 "LinkModels" "useCount" "I") (by decide +kernel)) (fun _ h9 => h9) rfl dX6_use_94 ?_
                refine lv_aload hx hb dX6_use_97 (lv_at hl 0 rfl) ?_
                refine va_astq (r := (RX5, TX5, 5)) hx hb hK hP hD hS 2 4 3 4 rfl rfl rfl rfl (vp_in_nI (show un < 40 by omega) (by decide)) dX6_use_99 (fun H locs hP hD hS => ?_)
                rw [nI_clamp (show un < 2 ^ 31 by omega)] at hP hD
                have hP : va_P (dC, dI) vwCl [(xh, .inr (5, [.ref tb, .int (nI tn), .ref xb, .int (nI bn), .ref xu, .int (nI un), .ref rh])), (xb, .inl (cQ, 5, .inr (.inr (.inr (.inr bf))))), (xu, .inl (cV, 40, .inr (.inr (.inr (.inr (va_up wf un (some q1))))))), (q1, .inr (4, [.int kd, .int ca, .int ow, .ref u2, .int (-1)])), (u2, .inr (2, [.long o5, .int o6, .int o7, .int o8]))] H := hP
                have hD : va_D A [(xh, .inr (5, [.ref tb, .int (nI tn), .ref xb, .int (nI bn), .ref xu, .int (nI un), .ref rh])), (xb, .inl (cQ, 5, .inr (.inr (.inr (.inr bf))))), (xu, .inl (cV, 40, .inr (.inr (.inr (.inr (va_up wf un (some q1))))))), (q1, .inr (4, [.int kd, .int ca, .int ow, .ref u2, .int (-1)])), (u2, .inr (2, [.long o5, .int o6, .int o7, .int o8]))] := hD
                refine lv_aload_n hx hb dX6_use_100 rfl (lv_at hl 1 rfl) ?_
                refine lv_dup hx hb dX6_use_101 rfl ?_
                refine va_get (D := (dC, dI)) (ci := 5) (v := .int (nI un)) (C := RX6) (T := TX6) (N := 7) hx hb hts hiX6 hown hK hP 0 rfl rfl 5 (by decide) (hts (.fieldLink RX6 32 "LinkModels" "useCount" "I") (by decide +kernel)) (fun _ h9 => h9) rfl dX6_use_102 ?_
                refine lv_iconst (v := 1) hx hb dX6_use_105 (by decide) ?_
                refine lv_iadd hx hb dX6_use_106 ?_
                refine lv_topi (fun x10 ex10 => ?_)
                obtain rfl : x10 = nI (un + 1) := by rw [ex10]; exact nI_add (un) (1)
                refine va_put (D := (dC, dI)) (ci := 5) (v := .int (nI (un + 1))) (ty := (.int)) (C := RX6) (T := TX6) (N := 7) hx hb hts hiX6 tyX6 tyX6_ok nmX6 hown hK hP hD hS 0 rfl rfl 5 (by decide) (hts (.fieldLink RX6 32 "LinkModels" "useCount" "I") (by decide +kernel)) (fun _ h9 => h9) rfl (by decide +kernel) rfl rfl (Nat.le_of_ble_eq_true rfl) dX6_use_107 (fun H locs hP hD hS => ?_)
                have hP : va_P (dC, dI) vwCl [(xh, .inr (5, [.ref tb, .int (nI tn), .ref xb, .int (nI bn), .ref xu, .int (nI (un + 1)), .ref rh])), (xb, .inl (cQ, 5, .inr (.inr (.inr (.inr bf))))), (xu, .inl (cV, 40, .inr (.inr (.inr (.inr (va_up wf un (some q1))))))), (q1, .inr (4, [.int kd, .int ca, .int ow, .ref u2, .int (-1)])), (u2, .inr (2, [.long o5, .int o6, .int o7, .int o8]))] H := hP
                have hD : va_D A [(xh, .inr (5, [.ref tb, .int (nI tn), .ref xb, .int (nI bn), .ref xu, .int (nI (un + 1)), .ref rh])), (xb, .inl (cQ, 5, .inr (.inr (.inr (.inr bf))))), (xu, .inl (cV, 40, .inr (.inr (.inr (.inr (va_up wf un (some q1))))))), (q1, .inr (4, [.int kd, .int ca, .int ow, .ref u2, .int (-1)])), (u2, .inr (2, [.long o5, .int o6, .int o7, .int o8]))] := hD
                refine lv_aload_n hx hb dX6_use_110 rfl (lv_at hl 1 rfl) ?_
                refine va_get (D := (dC, dI)) (ci := 5) (v := .int (nI (un + 1))) (C := RX6) (T := TX6) (N := 7) hx hb hts hiX6 hown hK hP 0 rfl rfl 5 (by decide) (hts (.fieldLink RX6 32 "LinkModels" "useCount" "I") (by decide +kernel)) (fun _ h9 => h9) rfl dX6_use_111 ?_
                refine lv_iconst (v := 1) hx hb dX6_use_114 (by decide) ?_
                refine lv_isub hx hb dX6_use_115 ?_
                refine lv_topi (fun x11 ex11 => ?_)
                obtain rfl : x11 = nI ((un + 1) - 1) := by rw [ex11]; exact pk_sub (show 1 ≤ un + 1 by omega)
                have hP9 : va_P (dC, dI) vwCl ((yW xh tb xb xu rh cI cJ cB cQ cV (nI tn) (nI bn) (nI (un + 1)) bf (va_up wf un (some q1))) ++ (uW q1 u2 cI cJ cB kd ca ow (-1) o5 o6 o7 o8)) H := hP.sub [0, 1, 2, 3, 4] rfl
                have hD9 : va_D A ((yW xh tb xb xu rh cI cJ cB cQ cV (nI tn) (nI bn) (nI (un + 1)) bf (va_up wf un (some q1))) ++ (uW q1 u2 cI cJ cB kd ca ow (-1) o5 o6 o7 o8)) := hD.sub [0, 1, 2, 3, 4] (by decide) rfl
                exact W.iret (v := (nI ((un + 1) - 1))) hx hb hr (fun t ht hW => ⟨⟨(nI ((un + 1) - 1)), (un + 1, va_up wf un (some q1), (uW q1 u2 cI cJ cB kd ca ow (-1) o5 o6 o7 o8)), rfl, ⟨Or.inr ⟨⟨hyA, hyB⟩, Or.inr ⟨by clear hyA hyB; omega, rfl, rfl⟩⟩, (by show un + 1 ≤ 40; clear hyA hyB; omega), Or.inr ⟨rfl, q1, rfl, ⟨u2, kd, ca, ow, (-1), o5, o6, o7, o8, rfl⟩⟩⟩, by rw [ht]; exact hP9, va_K.moved hW.alike hK, hD9⟩, hS.F ht⟩) hS.2.2 dX6_use_116
              · refine lv_aload hx hb dX6_use_79 (lv_at hl 0 rfl) ?_
                refine va_get (D := (dC, dI)) (ci := 4) (v := .ref u2) (C := RX5) (T := TX5) (N := 5) hx hb hts hiX5 hown hK hP 3 rfl rfl 3 (by decide) (hts (.fieldLink RX6 96 "LinkModels$Use" "wanted" "LLinkModels$Signature;") (by decide +kernel)) (fun _ h9 => h9) rfl dX6_use_81 ?_
                refine lv_iload hx hb dX6_use_84 (lv_at hl 8 rfl) ?_
                have hPc := hP.sub (ws' := (sgW u2 cI cJ cB o5 o6 o7 o8)) [4] rfl
                have hDc := hD.sub (ws' := (sgW u2 cI cJ cB o5 o6 o7 o8)) [4] (by decide) rfl
                have hFc := va_free (wc := (sgW u2 cI cJ cB o5 o6 o7 o8)) hD hS hA [4] rfl
                refine va_callv (va_runV (As := [.int tw]) (rest := []) ⟨hx, hb, hml, hown, hts⟩ (kX3_add l dC dI u2 cI cJ cB o5 o6 o7 o8 tw H.size) (cwV 1 hts zgX6_use_X3_add_106 rfl rfl rfl (by decide +kernel) ⟨(show 0 + 1 ≤ 3 by omega), (show 8 + (2 + 11) + 0 ≤ 55 by omega)⟩) (zVk (ci := 2) (q0 := 0) (q := (RX3, TX3, 4)) (hK.sub (tys' := [(cI, .int), (cJ, .long), (cB, .byte)]) [0, 1, 2] rfl) hPc hDc hE rfl rfl rfl) rfl rfl hl.1 rfl (lv_room (Nat.le_of_ble_eq_true rfl)) dX6_use_86 ⟨(show 2 + 0 ≤ 2 by omega), (show 9 + 0 ≤ 9 by omega)⟩) hS (fun q _ h => hFc q h) hFc (fun u16 t H1 locs ht hvm hw hB hz1 hk1 hS => ?_)
                obtain ⟨o13, o14, o15⟩ := u16
                obtain ⟨hP1, hK9, hD1⟩ := hB
                rw [ht] at hP1
                obtain ⟨hP, hD⟩ := va_join (wr := [(xh, .inr (5, [.ref tb, .int (nI tn), .ref xb, .int (nI bn), .ref xu, .int (nI un), .ref rh])), (xb, .inl (cQ, 5, .inr (.inr (.inr (.inr bf))))), (xu, .inl (cV, 40, .inr (.inr (.inr (.inr wf))))), (q1, .inr (4, [.int kd, .int ca, .int ow, .ref u2, .int (-1)]))]) (w1 := (sgW u2 cI cJ cB o5 o13 o14 o15)) hP hD [4] [0, 1, 2, 3] rfl rfl (by decide) (by decide) hk1 hFc hP1 hD1
                have hP := hP.sub (ws' := [(xh, .inr (5, [.ref tb, .int (nI tn), .ref xb, .int (nI bn), .ref xu, .int (nI un), .ref rh])), (xb, .inl (cQ, 5, .inr (.inr (.inr (.inr bf))))), (xu, .inl (cV, 40, .inr (.inr (.inr (.inr wf))))), (q1, .inr (4, [.int kd, .int ca, .int ow, .ref u2, .int (-1)])), (u2, .inr (2, [.long o5, .int o13, .int o14, .int o15]))]) [0, 1, 2, 3, 4] rfl
                have hD := hD.sub (ws' := [(xh, .inr (5, [.ref tb, .int (nI tn), .ref xb, .int (nI bn), .ref xu, .int (nI un), .ref rh])), (xb, .inl (cQ, 5, .inr (.inr (.inr (.inr bf))))), (xu, .inl (cV, 40, .inr (.inr (.inr (.inr wf))))), (q1, .inr (4, [.int kd, .int ca, .int ow, .ref u2, .int (-1)])), (u2, .inr (2, [.long o5, .int o13, .int o14, .int o15]))]) [0, 1, 2, 3, 4] (by decide) rfl
                generalize H1 = H at hP hS
                have hw : (True) := hw
                have w0r12 := hw
                refine lv_aload_n hx hb dX6_use_89 rfl (lv_at hl 1 rfl) ?_
                refine va_get (D := (dC, dI)) (ci := 5) (v := .ref xu) (C := RX6) (T := TX6) (N := 7) hx hb hts hiX6 hown hK hP 0 rfl rfl 4 (by decide) (hts (.fieldLink RX6 28 "LinkModels" "uses" "[LLinkModels$Use;") (by decide +kernel)) (fun _ h9 => h9) rfl dX6_use_90 ?_
                refine lv_aload_n hx hb dX6_use_93 rfl (lv_at hl 1 rfl) ?_
                refine va_get (D := (dC, dI)) (ci := 5) (v := .int (nI un)) (C := RX6) (T := TX6) (N := 7) hx hb hts hiX6 hown hK hP 0 rfl rfl 5 (by decide) (hts (.fieldLink RX6 32 "LinkModels" "useCount" "I") (by decide +kernel)) (fun _ h9 => h9) rfl dX6_use_94 ?_
                refine lv_aload hx hb dX6_use_97 (lv_at hl 0 rfl) ?_
                refine va_astq (r := (RX5, TX5, 5)) hx hb hK hP hD hS 2 4 3 4 rfl rfl rfl rfl (vp_in_nI (show un < 40 by omega) (by decide)) dX6_use_99 (fun H locs hP hD hS => ?_)
                rw [nI_clamp (show un < 2 ^ 31 by omega)] at hP hD
                have hP : va_P (dC, dI) vwCl [(xh, .inr (5, [.ref tb, .int (nI tn), .ref xb, .int (nI bn), .ref xu, .int (nI un), .ref rh])), (xb, .inl (cQ, 5, .inr (.inr (.inr (.inr bf))))), (xu, .inl (cV, 40, .inr (.inr (.inr (.inr (va_up wf un (some q1))))))), (q1, .inr (4, [.int kd, .int ca, .int ow, .ref u2, .int (-1)])), (u2, .inr (2, [.long o5, .int o13, .int o14, .int o15]))] H := hP
                have hD : va_D A [(xh, .inr (5, [.ref tb, .int (nI tn), .ref xb, .int (nI bn), .ref xu, .int (nI un), .ref rh])), (xb, .inl (cQ, 5, .inr (.inr (.inr (.inr bf))))), (xu, .inl (cV, 40, .inr (.inr (.inr (.inr (va_up wf un (some q1))))))), (q1, .inr (4, [.int kd, .int ca, .int ow, .ref u2, .int (-1)])), (u2, .inr (2, [.long o5, .int o13, .int o14, .int o15]))] := hD
                refine lv_aload_n hx hb dX6_use_100 rfl (lv_at hl 1 rfl) ?_
                refine lv_dup hx hb dX6_use_101 rfl ?_
                refine va_get (D := (dC, dI)) (ci := 5) (v := .int (nI un)) (C := RX6) (T := TX6) (N := 7) hx hb hts hiX6 hown hK hP 0 rfl rfl 5 (by decide) (hts (.fieldLink RX6 32 "LinkModels" "useCount" "I") (by decide +kernel)) (fun _ h9 => h9) rfl dX6_use_102 ?_
                refine lv_iconst (v := 1) hx hb dX6_use_105 (by decide) ?_
                refine lv_iadd hx hb dX6_use_106 ?_
                refine lv_topi (fun x17 ex17 => ?_)
                obtain rfl : x17 = nI (un + 1) := by rw [ex17]; exact nI_add (un) (1)
                refine va_put (D := (dC, dI)) (ci := 5) (v := .int (nI (un + 1))) (ty := (.int)) (C := RX6) (T := TX6) (N := 7) hx hb hts hiX6 tyX6 tyX6_ok nmX6 hown hK hP hD hS 0 rfl rfl 5 (by decide) (hts (.fieldLink RX6 32 "LinkModels" "useCount" "I") (by decide +kernel)) (fun _ h9 => h9) rfl (by decide +kernel) rfl rfl (Nat.le_of_ble_eq_true rfl) dX6_use_107 (fun H locs hP hD hS => ?_)
                have hP : va_P (dC, dI) vwCl [(xh, .inr (5, [.ref tb, .int (nI tn), .ref xb, .int (nI bn), .ref xu, .int (nI (un + 1)), .ref rh])), (xb, .inl (cQ, 5, .inr (.inr (.inr (.inr bf))))), (xu, .inl (cV, 40, .inr (.inr (.inr (.inr (va_up wf un (some q1))))))), (q1, .inr (4, [.int kd, .int ca, .int ow, .ref u2, .int (-1)])), (u2, .inr (2, [.long o5, .int o13, .int o14, .int o15]))] H := hP
                have hD : va_D A [(xh, .inr (5, [.ref tb, .int (nI tn), .ref xb, .int (nI bn), .ref xu, .int (nI (un + 1)), .ref rh])), (xb, .inl (cQ, 5, .inr (.inr (.inr (.inr bf))))), (xu, .inl (cV, 40, .inr (.inr (.inr (.inr (va_up wf un (some q1))))))), (q1, .inr (4, [.int kd, .int ca, .int ow, .ref u2, .int (-1)])), (u2, .inr (2, [.long o5, .int o13, .int o14, .int o15]))] := hD
                refine lv_aload_n hx hb dX6_use_110 rfl (lv_at hl 1 rfl) ?_
                refine va_get (D := (dC, dI)) (ci := 5) (v := .int (nI (un + 1))) (C := RX6) (T := TX6) (N := 7) hx hb hts hiX6 hown hK hP 0 rfl rfl 5 (by decide) (hts (.fieldLink RX6 32 "LinkModels" "useCount" "I") (by decide +kernel)) (fun _ h9 => h9) rfl dX6_use_111 ?_
                refine lv_iconst (v := 1) hx hb dX6_use_114 (by decide) ?_
                refine lv_isub hx hb dX6_use_115 ?_
                refine lv_topi (fun x18 ex18 => ?_)
                obtain rfl : x18 = nI ((un + 1) - 1) := by rw [ex18]; exact pk_sub (show 1 ≤ un + 1 by omega)
                have hP9 : va_P (dC, dI) vwCl ((yW xh tb xb xu rh cI cJ cB cQ cV (nI tn) (nI bn) (nI (un + 1)) bf (va_up wf un (some q1))) ++ (uW q1 u2 cI cJ cB kd ca ow (-1) o5 o13 o14 o15)) H := hP.sub [0, 1, 2, 3, 4] rfl
                have hD9 : va_D A ((yW xh tb xb xu rh cI cJ cB cQ cV (nI tn) (nI bn) (nI (un + 1)) bf (va_up wf un (some q1))) ++ (uW q1 u2 cI cJ cB kd ca ow (-1) o5 o13 o14 o15)) := hD.sub [0, 1, 2, 3, 4] (by decide) rfl
                exact W.iret (v := (nI ((un + 1) - 1))) hx hb hr (fun t ht hW => ⟨⟨(nI ((un + 1) - 1)), (un + 1, va_up wf un (some q1), (uW q1 u2 cI cJ cB kd ca ow (-1) o5 o13 o14 o15)), rfl, ⟨Or.inr ⟨⟨hyA, hyB⟩, Or.inr ⟨by clear hyA hyB; omega, rfl, rfl⟩⟩, (by show un + 1 ≤ 40; clear hyA hyB; omega), Or.inr ⟨rfl, q1, rfl, ⟨u2, kd, ca, ow, (-1), o5, o13, o14, o15, rfl⟩⟩⟩, by rw [ht]; exact hP9, va_K.moved hW.alike hK, hD9⟩, hS.F ht⟩) hS.2.2 dX6_use_116
            · refine lv_aload hx hb dX6_use_63 (lv_at hl 0 rfl) ?_
              refine va_get (D := (dC, dI)) (ci := 4) (v := .ref u2) (C := RX5) (T := TX5) (N := 5) hx hb hts hiX5 hown hK hP 3 rfl rfl 3 (by decide) (hts (.fieldLink RX6 96 "LinkModels$Use" "wanted" "LLinkModels$Signature;") (by decide +kernel)) (fun _ h9 => h9) rfl dX6_use_65 ?_
              refine lv_iload hx hb dX6_use_68 (lv_at hl 7 rfl) ?_
              have hPc := hP.sub (ws' := (sgW u2 cI cJ cB o5 o6 o7 o8)) [4] rfl
              have hDc := hD.sub (ws' := (sgW u2 cI cJ cB o5 o6 o7 o8)) [4] (by decide) rfl
              have hFc := va_free (wc := (sgW u2 cI cJ cB o5 o6 o7 o8)) hD hS hA [4] rfl
              refine va_callv (va_runV (As := [.int on]) (rest := []) ⟨hx, hb, hml, hown, hts⟩ (kX3_add l dC dI u2 cI cJ cB o5 o6 o7 o8 on H.size) (cwV 1 hts zgX6_use_X3_add_106 rfl rfl rfl (by decide +kernel) ⟨(show 0 + 1 ≤ 3 by omega), (show 8 + (2 + 11) + 0 ≤ 55 by omega)⟩) (zVk (ci := 2) (q0 := 0) (q := (RX3, TX3, 4)) (hK.sub (tys' := [(cI, .int), (cJ, .long), (cB, .byte)]) [0, 1, 2] rfl) hPc hDc hE rfl rfl rfl) rfl rfl hl.1 rfl (lv_room (Nat.le_of_ble_eq_true rfl)) dX6_use_70 ⟨(show 2 + 0 ≤ 2 by omega), (show 9 + 0 ≤ 9 by omega)⟩) hS (fun q _ h => hFc q h) hFc (fun u23 t H1 locs ht hvm hw hB hz1 hk1 hS => ?_)
              obtain ⟨o20, o21, o22⟩ := u23
              obtain ⟨hP1, hK9, hD1⟩ := hB
              rw [ht] at hP1
              obtain ⟨hP, hD⟩ := va_join (wr := [(xh, .inr (5, [.ref tb, .int (nI tn), .ref xb, .int (nI bn), .ref xu, .int (nI un), .ref rh])), (xb, .inl (cQ, 5, .inr (.inr (.inr (.inr bf))))), (xu, .inl (cV, 40, .inr (.inr (.inr (.inr wf))))), (q1, .inr (4, [.int kd, .int ca, .int ow, .ref u2, .int (-1)]))]) (w1 := (sgW u2 cI cJ cB o5 o20 o21 o22)) hP hD [4] [0, 1, 2, 3] rfl rfl (by decide) (by decide) hk1 hFc hP1 hD1
              have hP := hP.sub (ws' := [(xh, .inr (5, [.ref tb, .int (nI tn), .ref xb, .int (nI bn), .ref xu, .int (nI un), .ref rh])), (xb, .inl (cQ, 5, .inr (.inr (.inr (.inr bf))))), (xu, .inl (cV, 40, .inr (.inr (.inr (.inr wf))))), (q1, .inr (4, [.int kd, .int ca, .int ow, .ref u2, .int (-1)])), (u2, .inr (2, [.long o5, .int o20, .int o21, .int o22]))]) [0, 1, 2, 3, 4] rfl
              have hD := hD.sub (ws' := [(xh, .inr (5, [.ref tb, .int (nI tn), .ref xb, .int (nI bn), .ref xu, .int (nI un), .ref rh])), (xb, .inl (cQ, 5, .inr (.inr (.inr (.inr bf))))), (xu, .inl (cV, 40, .inr (.inr (.inr (.inr wf))))), (q1, .inr (4, [.int kd, .int ca, .int ow, .ref u2, .int (-1)])), (u2, .inr (2, [.long o5, .int o20, .int o21, .int o22]))]) [0, 1, 2, 3, 4] (by decide) rfl
              generalize H1 = H at hP hS
              have hw : (True) := hw
              have w0r19 := hw
              refine lv_iload hx hb dX6_use_73 (lv_at hl 6 rfl) ?_
              refine lv_iconst (v := 1) hx hb dX6_use_75 (by decide) ?_
              refine lv_icmp_le (tgt := 89) hx hb dX6_use_76 (by decide) (fun cp76 => ?_) (fun cp76 => ?_)
              · refine lv_aload_n hx hb dX6_use_89 rfl (lv_at hl 1 rfl) ?_
                refine va_get (D := (dC, dI)) (ci := 5) (v := .ref xu) (C := RX6) (T := TX6) (N := 7) hx hb hts hiX6 hown hK hP 0 rfl rfl 4 (by decide) (hts (.fieldLink RX6 28 "LinkModels" "uses" "[LLinkModels$Use;") (by decide +kernel)) (fun _ h9 => h9) rfl dX6_use_90 ?_
                refine lv_aload_n hx hb dX6_use_93 rfl (lv_at hl 1 rfl) ?_
                refine va_get (D := (dC, dI)) (ci := 5) (v := .int (nI un)) (C := RX6) (T := TX6) (N := 7) hx hb hts hiX6 hown hK hP 0 rfl rfl 5 (by decide) (hts (.fieldLink RX6 32 "LinkModels" "useCount" "I") (by decide +kernel)) (fun _ h9 => h9) rfl dX6_use_94 ?_
                refine lv_aload hx hb dX6_use_97 (lv_at hl 0 rfl) ?_
                refine va_astq (r := (RX5, TX5, 5)) hx hb hK hP hD hS 2 4 3 4 rfl rfl rfl rfl (vp_in_nI (show un < 40 by omega) (by decide)) dX6_use_99 (fun H locs hP hD hS => ?_)
                rw [nI_clamp (show un < 2 ^ 31 by omega)] at hP hD
                have hP : va_P (dC, dI) vwCl [(xh, .inr (5, [.ref tb, .int (nI tn), .ref xb, .int (nI bn), .ref xu, .int (nI un), .ref rh])), (xb, .inl (cQ, 5, .inr (.inr (.inr (.inr bf))))), (xu, .inl (cV, 40, .inr (.inr (.inr (.inr (va_up wf un (some q1))))))), (q1, .inr (4, [.int kd, .int ca, .int ow, .ref u2, .int (-1)])), (u2, .inr (2, [.long o5, .int o20, .int o21, .int o22]))] H := hP
                have hD : va_D A [(xh, .inr (5, [.ref tb, .int (nI tn), .ref xb, .int (nI bn), .ref xu, .int (nI un), .ref rh])), (xb, .inl (cQ, 5, .inr (.inr (.inr (.inr bf))))), (xu, .inl (cV, 40, .inr (.inr (.inr (.inr (va_up wf un (some q1))))))), (q1, .inr (4, [.int kd, .int ca, .int ow, .ref u2, .int (-1)])), (u2, .inr (2, [.long o5, .int o20, .int o21, .int o22]))] := hD
                refine lv_aload_n hx hb dX6_use_100 rfl (lv_at hl 1 rfl) ?_
                refine lv_dup hx hb dX6_use_101 rfl ?_
                refine va_get (D := (dC, dI)) (ci := 5) (v := .int (nI un)) (C := RX6) (T := TX6) (N := 7) hx hb hts hiX6 hown hK hP 0 rfl rfl 5 (by decide) (hts (.fieldLink RX6 32 "LinkModels" "useCount" "I") (by decide +kernel)) (fun _ h9 => h9) rfl dX6_use_102 ?_
                refine lv_iconst (v := 1) hx hb dX6_use_105 (by decide) ?_
                refine lv_iadd hx hb dX6_use_106 ?_
                refine lv_topi (fun x24 ex24 => ?_)
                obtain rfl : x24 = nI (un + 1) := by rw [ex24]; exact nI_add (un) (1)
                refine va_put (D := (dC, dI)) (ci := 5) (v := .int (nI (un + 1))) (ty := (.int)) (C := RX6) (T := TX6) (N := 7) hx hb hts hiX6 tyX6 tyX6_ok nmX6 hown hK hP hD hS 0 rfl rfl 5 (by decide) (hts (.fieldLink RX6 32 "LinkModels" "useCount" "I") (by decide +kernel)) (fun _ h9 => h9) rfl (by decide +kernel) rfl rfl (Nat.le_of_ble_eq_true rfl) dX6_use_107 (fun H locs hP hD hS => ?_)
                have hP : va_P (dC, dI) vwCl [(xh, .inr (5, [.ref tb, .int (nI tn), .ref xb, .int (nI bn), .ref xu, .int (nI (un + 1)), .ref rh])), (xb, .inl (cQ, 5, .inr (.inr (.inr (.inr bf))))), (xu, .inl (cV, 40, .inr (.inr (.inr (.inr (va_up wf un (some q1))))))), (q1, .inr (4, [.int kd, .int ca, .int ow, .ref u2, .int (-1)])), (u2, .inr (2, [.long o5, .int o20, .int o21, .int o22]))] H := hP
                have hD : va_D A [(xh, .inr (5, [.ref tb, .int (nI tn), .ref xb, .int (nI bn), .ref xu, .int (nI (un + 1)), .ref rh])), (xb, .inl (cQ, 5, .inr (.inr (.inr (.inr bf))))), (xu, .inl (cV, 40, .inr (.inr (.inr (.inr (va_up wf un (some q1))))))), (q1, .inr (4, [.int kd, .int ca, .int ow, .ref u2, .int (-1)])), (u2, .inr (2, [.long o5, .int o20, .int o21, .int o22]))] := hD
                refine lv_aload_n hx hb dX6_use_110 rfl (lv_at hl 1 rfl) ?_
                refine va_get (D := (dC, dI)) (ci := 5) (v := .int (nI (un + 1))) (C := RX6) (T := TX6) (N := 7) hx hb hts hiX6 hown hK hP 0 rfl rfl 5 (by decide) (hts (.fieldLink RX6 32 "LinkModels" "useCount" "I") (by decide +kernel)) (fun _ h9 => h9) rfl dX6_use_111 ?_
                refine lv_iconst (v := 1) hx hb dX6_use_114 (by decide) ?_
                refine lv_isub hx hb dX6_use_115 ?_
                refine lv_topi (fun x25 ex25 => ?_)
                obtain rfl : x25 = nI ((un + 1) - 1) := by rw [ex25]; exact pk_sub (show 1 ≤ un + 1 by omega)
                have hP9 : va_P (dC, dI) vwCl ((yW xh tb xb xu rh cI cJ cB cQ cV (nI tn) (nI bn) (nI (un + 1)) bf (va_up wf un (some q1))) ++ (uW q1 u2 cI cJ cB kd ca ow (-1) o5 o20 o21 o22)) H := hP.sub [0, 1, 2, 3, 4] rfl
                have hD9 : va_D A ((yW xh tb xb xu rh cI cJ cB cQ cV (nI tn) (nI bn) (nI (un + 1)) bf (va_up wf un (some q1))) ++ (uW q1 u2 cI cJ cB kd ca ow (-1) o5 o20 o21 o22)) := hD.sub [0, 1, 2, 3, 4] (by decide) rfl
                exact W.iret (v := (nI ((un + 1) - 1))) hx hb hr (fun t ht hW => ⟨⟨(nI ((un + 1) - 1)), (un + 1, va_up wf un (some q1), (uW q1 u2 cI cJ cB kd ca ow (-1) o5 o20 o21 o22)), rfl, ⟨Or.inr ⟨⟨hyA, hyB⟩, Or.inr ⟨by clear hyA hyB; omega, rfl, rfl⟩⟩, (by show un + 1 ≤ 40; clear hyA hyB; omega), Or.inr ⟨rfl, q1, rfl, ⟨u2, kd, ca, ow, (-1), o5, o20, o21, o22, rfl⟩⟩⟩, by rw [ht]; exact hP9, va_K.moved hW.alike hK, hD9⟩, hS.F ht⟩) hS.2.2 dX6_use_116
              · refine lv_aload hx hb dX6_use_79 (lv_at hl 0 rfl) ?_
                refine va_get (D := (dC, dI)) (ci := 4) (v := .ref u2) (C := RX5) (T := TX5) (N := 5) hx hb hts hiX5 hown hK hP 3 rfl rfl 3 (by decide) (hts (.fieldLink RX6 96 "LinkModels$Use" "wanted" "LLinkModels$Signature;") (by decide +kernel)) (fun _ h9 => h9) rfl dX6_use_81 ?_
                refine lv_iload hx hb dX6_use_84 (lv_at hl 8 rfl) ?_
                have hPc := hP.sub (ws' := (sgW u2 cI cJ cB o5 o20 o21 o22)) [4] rfl
                have hDc := hD.sub (ws' := (sgW u2 cI cJ cB o5 o20 o21 o22)) [4] (by decide) rfl
                have hFc := va_free (wc := (sgW u2 cI cJ cB o5 o20 o21 o22)) hD hS hA [4] rfl
                refine va_callv (va_runV (As := [.int tw]) (rest := []) ⟨hx, hb, hml, hown, hts⟩ (kX3_add l dC dI u2 cI cJ cB o5 o20 o21 o22 tw H.size) (cwV 1 hts zgX6_use_X3_add_106 rfl rfl rfl (by decide +kernel) ⟨(show 0 + 1 ≤ 3 by omega), (show 8 + (2 + 11) + 0 ≤ 55 by omega)⟩) (zVk (ci := 2) (q0 := 0) (q := (RX3, TX3, 4)) (hK.sub (tys' := [(cI, .int), (cJ, .long), (cB, .byte)]) [0, 1, 2] rfl) hPc hDc hE rfl rfl rfl) rfl rfl hl.1 rfl (lv_room (Nat.le_of_ble_eq_true rfl)) dX6_use_86 ⟨(show 2 + 0 ≤ 2 by omega), (show 9 + 0 ≤ 9 by omega)⟩) hS (fun q _ h => hFc q h) hFc (fun u30 t H1 locs ht hvm hw hB hz1 hk1 hS => ?_)
                obtain ⟨o27, o28, o29⟩ := u30
                obtain ⟨hP1, hK9, hD1⟩ := hB
                rw [ht] at hP1
                obtain ⟨hP, hD⟩ := va_join (wr := [(xh, .inr (5, [.ref tb, .int (nI tn), .ref xb, .int (nI bn), .ref xu, .int (nI un), .ref rh])), (xb, .inl (cQ, 5, .inr (.inr (.inr (.inr bf))))), (xu, .inl (cV, 40, .inr (.inr (.inr (.inr wf))))), (q1, .inr (4, [.int kd, .int ca, .int ow, .ref u2, .int (-1)]))]) (w1 := (sgW u2 cI cJ cB o5 o27 o28 o29)) hP hD [4] [0, 1, 2, 3] rfl rfl (by decide) (by decide) hk1 hFc hP1 hD1
                have hP := hP.sub (ws' := [(xh, .inr (5, [.ref tb, .int (nI tn), .ref xb, .int (nI bn), .ref xu, .int (nI un), .ref rh])), (xb, .inl (cQ, 5, .inr (.inr (.inr (.inr bf))))), (xu, .inl (cV, 40, .inr (.inr (.inr (.inr wf))))), (q1, .inr (4, [.int kd, .int ca, .int ow, .ref u2, .int (-1)])), (u2, .inr (2, [.long o5, .int o27, .int o28, .int o29]))]) [0, 1, 2, 3, 4] rfl
                have hD := hD.sub (ws' := [(xh, .inr (5, [.ref tb, .int (nI tn), .ref xb, .int (nI bn), .ref xu, .int (nI un), .ref rh])), (xb, .inl (cQ, 5, .inr (.inr (.inr (.inr bf))))), (xu, .inl (cV, 40, .inr (.inr (.inr (.inr wf))))), (q1, .inr (4, [.int kd, .int ca, .int ow, .ref u2, .int (-1)])), (u2, .inr (2, [.long o5, .int o27, .int o28, .int o29]))]) [0, 1, 2, 3, 4] (by decide) rfl
                generalize H1 = H at hP hS
                have hw : (True) := hw
                have w0r26 := hw
                refine lv_aload_n hx hb dX6_use_89 rfl (lv_at hl 1 rfl) ?_
                refine va_get (D := (dC, dI)) (ci := 5) (v := .ref xu) (C := RX6) (T := TX6) (N := 7) hx hb hts hiX6 hown hK hP 0 rfl rfl 4 (by decide) (hts (.fieldLink RX6 28 "LinkModels" "uses" "[LLinkModels$Use;") (by decide +kernel)) (fun _ h9 => h9) rfl dX6_use_90 ?_
                refine lv_aload_n hx hb dX6_use_93 rfl (lv_at hl 1 rfl) ?_
                refine va_get (D := (dC, dI)) (ci := 5) (v := .int (nI un)) (C := RX6) (T := TX6) (N := 7) hx hb hts hiX6 hown hK hP 0 rfl rfl 5 (by decide) (hts (.fieldLink RX6 32 "LinkModels" "useCount" "I") (by decide +kernel)) (fun _ h9 => h9) rfl dX6_use_94 ?_
                refine lv_aload hx hb dX6_use_97 (lv_at hl 0 rfl) ?_
                refine va_astq (r := (RX5, TX5, 5)) hx hb hK hP hD hS 2 4 3 4 rfl rfl rfl rfl (vp_in_nI (show un < 40 by omega) (by decide)) dX6_use_99 (fun H locs hP hD hS => ?_)
                rw [nI_clamp (show un < 2 ^ 31 by omega)] at hP hD
                have hP : va_P (dC, dI) vwCl [(xh, .inr (5, [.ref tb, .int (nI tn), .ref xb, .int (nI bn), .ref xu, .int (nI un), .ref rh])), (xb, .inl (cQ, 5, .inr (.inr (.inr (.inr bf))))), (xu, .inl (cV, 40, .inr (.inr (.inr (.inr (va_up wf un (some q1))))))), (q1, .inr (4, [.int kd, .int ca, .int ow, .ref u2, .int (-1)])), (u2, .inr (2, [.long o5, .int o27, .int o28, .int o29]))] H := hP
                have hD : va_D A [(xh, .inr (5, [.ref tb, .int (nI tn), .ref xb, .int (nI bn), .ref xu, .int (nI un), .ref rh])), (xb, .inl (cQ, 5, .inr (.inr (.inr (.inr bf))))), (xu, .inl (cV, 40, .inr (.inr (.inr (.inr (va_up wf un (some q1))))))), (q1, .inr (4, [.int kd, .int ca, .int ow, .ref u2, .int (-1)])), (u2, .inr (2, [.long o5, .int o27, .int o28, .int o29]))] := hD
                refine lv_aload_n hx hb dX6_use_100 rfl (lv_at hl 1 rfl) ?_
                refine lv_dup hx hb dX6_use_101 rfl ?_
                refine va_get (D := (dC, dI)) (ci := 5) (v := .int (nI un)) (C := RX6) (T := TX6) (N := 7) hx hb hts hiX6 hown hK hP 0 rfl rfl 5 (by decide) (hts (.fieldLink RX6 32 "LinkModels" "useCount" "I") (by decide +kernel)) (fun _ h9 => h9) rfl dX6_use_102 ?_
                refine lv_iconst (v := 1) hx hb dX6_use_105 (by decide) ?_
                refine lv_iadd hx hb dX6_use_106 ?_
                refine lv_topi (fun x31 ex31 => ?_)
                obtain rfl : x31 = nI (un + 1) := by rw [ex31]; exact nI_add (un) (1)
                refine va_put (D := (dC, dI)) (ci := 5) (v := .int (nI (un + 1))) (ty := (.int)) (C := RX6) (T := TX6) (N := 7) hx hb hts hiX6 tyX6 tyX6_ok nmX6 hown hK hP hD hS 0 rfl rfl 5 (by decide) (hts (.fieldLink RX6 32 "LinkModels" "useCount" "I") (by decide +kernel)) (fun _ h9 => h9) rfl (by decide +kernel) rfl rfl (Nat.le_of_ble_eq_true rfl) dX6_use_107 (fun H locs hP hD hS => ?_)
                have hP : va_P (dC, dI) vwCl [(xh, .inr (5, [.ref tb, .int (nI tn), .ref xb, .int (nI bn), .ref xu, .int (nI (un + 1)), .ref rh])), (xb, .inl (cQ, 5, .inr (.inr (.inr (.inr bf))))), (xu, .inl (cV, 40, .inr (.inr (.inr (.inr (va_up wf un (some q1))))))), (q1, .inr (4, [.int kd, .int ca, .int ow, .ref u2, .int (-1)])), (u2, .inr (2, [.long o5, .int o27, .int o28, .int o29]))] H := hP
                have hD : va_D A [(xh, .inr (5, [.ref tb, .int (nI tn), .ref xb, .int (nI bn), .ref xu, .int (nI (un + 1)), .ref rh])), (xb, .inl (cQ, 5, .inr (.inr (.inr (.inr bf))))), (xu, .inl (cV, 40, .inr (.inr (.inr (.inr (va_up wf un (some q1))))))), (q1, .inr (4, [.int kd, .int ca, .int ow, .ref u2, .int (-1)])), (u2, .inr (2, [.long o5, .int o27, .int o28, .int o29]))] := hD
                refine lv_aload_n hx hb dX6_use_110 rfl (lv_at hl 1 rfl) ?_
                refine va_get (D := (dC, dI)) (ci := 5) (v := .int (nI (un + 1))) (C := RX6) (T := TX6) (N := 7) hx hb hts hiX6 hown hK hP 0 rfl rfl 5 (by decide) (hts (.fieldLink RX6 32 "LinkModels" "useCount" "I") (by decide +kernel)) (fun _ h9 => h9) rfl dX6_use_111 ?_
                refine lv_iconst (v := 1) hx hb dX6_use_114 (by decide) ?_
                refine lv_isub hx hb dX6_use_115 ?_
                refine lv_topi (fun x32 ex32 => ?_)
                obtain rfl : x32 = nI ((un + 1) - 1) := by rw [ex32]; exact pk_sub (show 1 ≤ un + 1 by omega)
                have hP9 : va_P (dC, dI) vwCl ((yW xh tb xb xu rh cI cJ cB cQ cV (nI tn) (nI bn) (nI (un + 1)) bf (va_up wf un (some q1))) ++ (uW q1 u2 cI cJ cB kd ca ow (-1) o5 o27 o28 o29)) H := hP.sub [0, 1, 2, 3, 4] rfl
                have hD9 : va_D A ((yW xh tb xb xu rh cI cJ cB cQ cV (nI tn) (nI bn) (nI (un + 1)) bf (va_up wf un (some q1))) ++ (uW q1 u2 cI cJ cB kd ca ow (-1) o5 o27 o28 o29)) := hD.sub [0, 1, 2, 3, 4] (by decide) rfl
                exact W.iret (v := (nI ((un + 1) - 1))) hx hb hr (fun t ht hW => ⟨⟨(nI ((un + 1) - 1)), (un + 1, va_up wf un (some q1), (uW q1 u2 cI cJ cB kd ca ow (-1) o5 o27 o28 o29)), rfl, ⟨Or.inr ⟨⟨hyA, hyB⟩, Or.inr ⟨by clear hyA hyB; omega, rfl, rfl⟩⟩, (by show un + 1 ≤ 40; clear hyA hyB; omega), Or.inr ⟨rfl, q1, rfl, ⟨u2, kd, ca, ow, (-1), o5, o27, o28, o29, rfl⟩⟩⟩, by rw [ht]; exact hP9, va_K.moved hW.alike hK, hD9⟩, hS.F ht⟩) hS.2.2 dX6_use_116
          · have qcp30 : ¬ un < 40 := fun h9 => cp30 ((nI_ltI (a := un) (b := 40) (by omega) (by omega)).mpr h9)
            refine lv_bipush (v := (-5)) hx hb dX6_use_33 (by decide) ?_
            refine W.widen (k := 2) (n := 9) (by omega) (by omega) ?_
            have hP9 : va_P (dC, dI) vwCl ((yW xh tb xb xu rh cI cJ cB cQ cV (nI tn) (nI bn) (nI un) bf wf) ++ []) s.heap := by rw [List.append_nil]; exact hP
            have hD9 : va_D A ((yW xh tb xb xu rh cI cJ cB cQ cV (nI tn) (nI bn) (nI un) bf wf) ++ []) := by rw [List.append_nil]; exact hD
            exact W.iret (v := (-5 : Int32)) hx hb hr (fun t ht hW => ⟨⟨(-5 : Int32), (un, wf, []), rfl, ⟨Or.inr ⟨⟨hyA, hyB⟩, Or.inl ⟨by clear hyA hyB; omega, rfl, rfl⟩⟩, hun, Or.inl ⟨rfl, rfl, rfl⟩⟩, by rw [ht]; exact hP9, va_K.moved hW.alike hK, hD9⟩, hS.F ht⟩) hS.2.2 dX6_use_35
        · refine lv_bipush (v := (-3)) hx hb dX6_use_21 (by decide) ?_
          refine W.widen (k := 2) (n := 9) (by omega) (by omega) ?_
          have hP9 : va_P (dC, dI) vwCl ((yW xh tb xb xu rh cI cJ cB cQ cV (nI tn) (nI bn) (nI un) bf wf) ++ []) s.heap := by rw [List.append_nil]; exact hP
          have hD9 : va_D A ((yW xh tb xb xu rh cI cJ cB cQ cV (nI tn) (nI bn) (nI un) bf wf) ++ []) := by rw [List.append_nil]; exact hD
          exact W.iret (v := (-3 : Int32)) hx hb hr (fun t ht hW => ⟨⟨(-3 : Int32), (un, wf, []), rfl, ⟨Or.inl ⟨fun h9 => z_nk1 (m := 2) (M := 2) (by omega) rfl cp18 h9.2, rfl, rfl⟩, hun, Or.inl ⟨rfl, rfl, rfl⟩⟩, by rw [ht]; exact hP9, va_K.moved hW.alike hK, hD9⟩, hS.F ht⟩) hS.2.2 dX6_use_23
