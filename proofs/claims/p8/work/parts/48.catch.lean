section ZCATCH
/-- the search of a handler: the first row of the table covers the place and names a class to which what was thrown can be assigned -/
theorem z_search {e : Env} {S : State} {f : JFrame} {a : Addr} {mt : Method} {cd : Code} (hm : S.vm.method? f.method = some mt) (hc : mt.code = some cd) {x : ExceptionTableEntry} {suf : List ExceptionTableEntry} (hsplit : cd.exceptionTable.toList = x :: suf)
    (hx : covers x f.pc = true) (h0 : x.catchType ≠ 0) {ct : ClassId} {cell : Cell} (hl : S.vm.ClassLinks e.platform f.method.cls x.catchType ct) (hcell : S.heap[a]? = some cell) (hobj : ∀ k, cell.vm ≠ .statics k)
    (hk : ∃ k, S.vm.classes[cell.cls]? = some k) (hck : ∃ k, S.vm.classes[ct]? = some k) (hfit : S.vm.assignable cell.cls ct = true) (Q : Handler → Pre) (E : CtlPost) (d : Bool) (acts : List Action) :
    wp (findHandler f a) Q E e d acts S ↔ Q (.found x.handlerPc) d acts (S.setVm (S.vm.noted f.method.cls x.catchType (.cls ct))) := by
  rw [W.findHandler_eq hm hc, hsplit]
  simp only [covers] at hx
  obtain ⟨h1, h2⟩ := (resolveClass_links e.toSetting hl).op (op := VmOp.resolveClass f.method.cls x.catchType) rfl
  have al : S.vm.Alike (S.vm.noted f.method.cls x.catchType (.cls ct)) := (Vm.Alike.refl S.vm).noted _ _ _
  obtain ⟨ka, hka⟩ := hk
  obtain ⟨kb, hkb⟩ := hck
  obtain ⟨ka', hka', -⟩ := al.2.2 _ _ hka
  obtain ⟨kb', hkb', -⟩ := al.2.2 _ _ hkb
  have fit' : (S.vm.noted f.method.cls x.catchType (.cls ct)).assignable cell.cls ct = true := by rw [al.assignable]; exact hfit
  simp [findHandler.go, hx, h0, h1, h2, hcell, hobj, hka', hkb', fit', VmOp.dirties, VmOp.acts]
/-- one step of the unwinding, to that handler -/
theorem z_unwind {e : Env} {S : State} {a : Addr} {f : JFrame} {r : List Frame} {pc : Nat} {vm' : Vm} (hfind : ∀ (Q : Handler → Pre) (E : CtlPost) (d : Bool) (acts : List Action), wp (findHandler f a) Q E e d acts S ↔ Q (.found pc) d acts (S.setVm vm')) :
    (stepThrowing e S a (.java f :: r)).1 = (S.setVm vm').setFrames (.java { f with pc := pc, stack := [.ref a] } :: r) := by
  simp only [stepThrowing, searchFrame, vmDo]
  generalize hr : Sem.go _ e false [] S = res
  obtain ⟨as, rfl, -⟩ := Sem.eq_ok_of hr (a := Handler.found pc) (s' := S.setVm vm') (acts' := []) (by simp [hfind _ _ _ _])
  rfl
variable {p : Program} {l : Launch} {e : Env} {R : Room} {s : State} {m : MethodId} {args : Array Value} {below : List Frame} {meth : Method} {c : Code} {H : Heap} {locs : List Loc} {cells slots : Nat} {Q : State → Prop}
/-- what was thrown over this frame is caught by the first row of its table: the walk goes on at the handler -/
theorem z_catch {own name E : String} {ce : Cell} {q : Addr} {pc : Nat} {ls : Array Slot} {rest : List Value} (hown : s.vm.findClass own = some m.cls) (x : ExceptionTableEntry) (suf : List ExceptionTableEntry) (hsplit : c.exceptionTable.toList = x :: suf) (hx : covers x pc = true) (h0 : x.catchType ≠ 0)
    (hlink : (Cond.classLink own x.catchType name).before args s = true) (hcast : (Cond.castable E name).before args s = true) (hcell : H[q]? = some ce) (hv : ce.vm = .none) (hcl : s.vm.findClass E = some ce.cls)
    (kk : W p l e R s m args below meth c H locs cells slots Q (F0 m x.handlerPc ls [.ref q])) : vx_W p l e R s m args below meth c H locs cells slots Q (F0 m pc ls rest) q := by
  intro T hT X
  obtain ⟨ca, ct, hca, hct, hasg⟩ := Cond.castable_spec hcast
  cases Option.some.inj (hca.symm.trans hcl)
  have hpl : e.platform.magicAccessors = ({} : Platform).magicAccessors := by rw [X.admits.platform]
  obtain ⟨ct', hct', hl⟩ := Cond.classLink_spec hown hlink e.platform hpl
  cases Option.some.inj (hct.symm.trans hct')
  obtain ⟨dk, _, _, kt, hd, _, _, _, _, hkt, _, hopen⟩ := hl.here
  have hW' : s.WarmedH (T.vm.noted m.cls x.catchType (.cls ct)) := X.warmed.noted hd hopen (State.rightAt_cls hl)
  have al := X.warmed.alike
  obtain ⟨kt', hkt', -⟩ := al.2.2 _ _ hkt
  have fit' : T.vm.assignable ce.cls ct = true := by rw [al.assignable]; exact hasg
  obtain ⟨t, a1, b1⟩ := kk (T.setVm (T.vm.noted m.cls x.catchType (.cls ct))) hT (X.noted hW')
  refine ⟨t, ?_, b1⟩
  obtain ⟨hgo, hw⟩ := (show At T (F0 m pc ls rest).method c below from X.here).throwing q
  refine Steps.head hgo hw ?_
  rw [stepThread_throwing (frames_entered X.here.top _)]
  rw [z_unwind (S := (T.setTop (F0 m pc ls rest)).pushFrame (.throwing q)) (z_search (e := e) (S := (T.setTop (F0 m pc ls rest)).pushFrame (.throwing q)) (f := F0 m pc ls rest) (a := q) (mt := meth) (cd := c) X.method' X.code hsplit hx h0 (X.warmed.classLinks hl) (by show T.heap[q]? = some ce; rw [hT]; exact hcell) (fun k h => by rw [hv] at h; cases h) (Vm.classAt_of_assignable fit' ⟨kt', hkt'⟩) ⟨kt', hkt'⟩ fit')]
  obtain ⟨g₀, hg⟩ := Option.isSome_iff_exists.mp X.here.top
  obtain ⟨r, hr⟩ := State.topJava?_eq_some.mp hg
  have hr' : (T.setVm (T.vm.noted m.cls x.catchType (.cls ct))).frames = .java g₀ :: r := hr
  rw [State.setTop_of_frames _ hr'] at a1
  have two : ∀ (u : State) (v : Vm) (F G : List Frame), ((u.setFrames F).setVm v).setFrames G = (u.setVm v).setFrames G := fun u v F G => by
    rw [show (u.setFrames F).setVm v = (u.setVm v).setFrames F from rfl, State.setFrames_setFrames]
  rw [hr, List.tail_cons, State.pushFrame, two, State.setTop_of_frames _ hr, two]
  exact a1
end ZCATCH
section ZCATCH2
/-- the search of a handler where the first row names a class that doesn't fit, and the second one that does -/
theorem z_search2 {e : Env} {S : State} {f : JFrame} {a : Addr} {mt : Method} {cd : Code} (hm : S.vm.method? f.method = some mt) (hc : mt.code = some cd) {x0 x : ExceptionTableEntry} {suf : List ExceptionTableEntry} (hsplit : cd.exceptionTable.toList = x0 :: x :: suf)
    (hx0 : covers x0 f.pc = true) (h00 : x0.catchType ≠ 0) {ct0 : ClassId} (hx : covers x f.pc = true) (h0 : x.catchType ≠ 0) {ct : ClassId} {cell : Cell} (hl0 : S.vm.ClassLinks e.platform f.method.cls x0.catchType ct0) (hl : (S.vm.noted f.method.cls x0.catchType (.cls ct0)).ClassLinks e.platform f.method.cls x.catchType ct) (hcell : S.heap[a]? = some cell) (hobj : ∀ k, cell.vm ≠ .statics k)
    (hk : ∃ k, S.vm.classes[cell.cls]? = some k) (hck0 : ∃ k, S.vm.classes[ct0]? = some k) (hck : ∃ k, S.vm.classes[ct]? = some k) (hno : S.vm.assignable cell.cls ct0 = false) (hfit : S.vm.assignable cell.cls ct = true) (Q : Handler → Pre) (E : CtlPost) (d : Bool) (acts : List Action) :
    wp (findHandler f a) Q E e d acts S ↔ Q (.found x.handlerPc) d acts (S.setVm ((S.vm.noted f.method.cls x0.catchType (.cls ct0)).noted f.method.cls x.catchType (.cls ct))) := by
  rw [W.findHandler_eq hm hc, hsplit]
  simp only [covers] at hx hx0
  have al : S.vm.Alike (S.vm.noted f.method.cls x0.catchType (.cls ct0)) := (Vm.Alike.refl S.vm).noted _ _ _
  have al2 : (S.vm.noted f.method.cls x0.catchType (.cls ct0)).Alike ((S.vm.noted f.method.cls x0.catchType (.cls ct0)).noted f.method.cls x.catchType (.cls ct)) := (Vm.Alike.refl _).noted _ _ _
  obtain ⟨ka, hka⟩ := hk
  obtain ⟨kb, hkb⟩ := hck0
  obtain ⟨kc, hkc⟩ := hck
  obtain ⟨ka', hka', -⟩ := al.2.2 _ _ hka
  obtain ⟨kb', hkb', -⟩ := al.2.2 _ _ hkb
  obtain ⟨kc', hkc', -⟩ := al.2.2 _ _ hkc
  obtain ⟨ka2, hka2, -⟩ := al2.2.2 _ _ hka'
  obtain ⟨kc2, hkc2, -⟩ := al2.2.2 _ _ hkc'
  have no' : (S.vm.noted f.method.cls x0.catchType (.cls ct0)).assignable cell.cls ct0 = false := by rw [al.assignable]; exact hno
  have fit' : ((S.vm.noted f.method.cls x0.catchType (.cls ct0)).noted f.method.cls x.catchType (.cls ct)).assignable cell.cls ct = true := by rw [al2.assignable, al.assignable]; exact hfit
  obtain ⟨h1, h2⟩ := (resolveClass_links e.toSetting hl0).op (op := VmOp.resolveClass f.method.cls x0.catchType) rfl
  have one : wp (findHandler.go f a (x0 :: x :: suf)) Q E e d acts S ↔ wp (findHandler.go f a (x :: suf)) Q E e d acts (S.setVm (S.vm.noted f.method.cls x0.catchType (.cls ct0))) := by
    rw [findHandler.go]
    simp [hx0, h00, h1, h2, hcell, hobj, hka', hkb', no', VmOp.dirties, VmOp.acts]
  rw [one]
  obtain ⟨S1, hS1⟩ : ∃ z, z = S.setVm (S.vm.noted f.method.cls x0.catchType (.cls ct0)) := ⟨_, rfl⟩
  have hv1 : S1.vm = S.vm.noted f.method.cls x0.catchType (.cls ct0) := by rw [hS1]; rfl
  have hh1 : S1.heap = S.heap := by rw [hS1]; rfl
  have hz : S.setVm ((S.vm.noted f.method.cls x0.catchType (.cls ct0)).noted f.method.cls x.catchType (.cls ct)) = S1.setVm (S1.vm.noted f.method.cls x.catchType (.cls ct)) := by rw [hv1, hS1]; rfl
  rw [← hS1, hz]
  rw [← hv1] at hl hka' hkc' hka2 hkc2 fit'
  rw [← hh1] at hcell
  obtain ⟨g1, g2⟩ := (resolveClass_links e.toSetting hl).op (op := VmOp.resolveClass f.method.cls x.catchType) rfl
  rw [findHandler.go]
  simp [hx, h0, g1, g2, hcell, hobj, hka2, hkc2, fit', VmOp.dirties, VmOp.acts]
variable {p : Program} {l : Launch} {e : Env} {R : Room} {s : State} {m : MethodId} {args : Array Value} {below : List Frame} {meth : Method} {c : Code} {H : Heap} {locs : List Loc} {cells slots : Nat} {Q : State → Prop}
theorem z_catch2 {own name0 name E : String} {ce : Cell} {q : Addr} {pc : Nat} {ls : Array Slot} {rest : List Value} (hown : s.vm.findClass own = some m.cls) (x0 x : ExceptionTableEntry) (suf : List ExceptionTableEntry) (hsplit : c.exceptionTable.toList = x0 :: x :: suf) (hx0 : covers x0 pc = true) (h00 : x0.catchType ≠ 0) (hx : covers x pc = true) (h0 : x.catchType ≠ 0)
    (hlink0 : (Cond.classLink own x0.catchType name0).before args s = true) (hlink : (Cond.classLink own x.catchType name).before args s = true) (hnc : va_Nc E name0 s) (hcast : (Cond.castable E name).before args s = true) (hcell : H[q]? = some ce) (hv : ce.vm = .none) (hcl : s.vm.findClass E = some ce.cls)
    (kk : W p l e R s m args below meth c H locs cells slots Q (F0 m x.handlerPc ls [.ref q])) : vx_W p l e R s m args below meth c H locs cells slots Q (F0 m pc ls rest) q := by
  intro T hT X
  obtain ⟨ca, ct, hca, hct, hasg⟩ := Cond.castable_spec hcast
  cases Option.some.inj (hca.symm.trans hcl)
  have hpl : e.platform.magicAccessors = ({} : Platform).magicAccessors := by rw [X.admits.platform]
  obtain ⟨ct', hct', hl⟩ := Cond.classLink_spec hown hlink e.platform hpl
  cases Option.some.inj (hct.symm.trans hct')
  obtain ⟨c0, hc0, hl0⟩ := Cond.classLink_spec hown hlink0 e.platform hpl
  obtain ⟨a8, b8, n1, n2, n3⟩ := hnc
  cases Option.some.inj (n1.symm.trans hcl)
  cases Option.some.inj (n2.symm.trans hc0)
  obtain ⟨dk0, _, _, kt0, hd0, _, _, _, _, hkt0, _, hopen0⟩ := hl0.here
  obtain ⟨dk, _, _, kt, hd, _, _, _, _, hkt, _, hopen⟩ := hl.here
  have hW1 : s.WarmedH (T.vm.noted m.cls x0.catchType (.cls c0)) := X.warmed.noted hd0 hopen0 (State.rightAt_cls hl0)
  have X1 := X.noted hW1
  have hW2 : s.WarmedH ((T.vm.noted m.cls x0.catchType (.cls c0)).noted m.cls x.catchType (.cls ct)) := hW1.noted hd hopen (State.rightAt_cls hl)
  have al := X.warmed.alike
  obtain ⟨kt', hkt', -⟩ := al.2.2 _ _ hkt
  obtain ⟨kt0', hkt0', -⟩ := al.2.2 _ _ hkt0
  have fit' : T.vm.assignable ce.cls ct = true := by rw [al.assignable]; exact hasg
  have no' : T.vm.assignable ce.cls c0 = false := by rw [al.assignable]; exact n3
  obtain ⟨t, a1, b1⟩ := kk ((T.setVm (T.vm.noted m.cls x0.catchType (.cls c0))).setVm ((T.vm.noted m.cls x0.catchType (.cls c0)).noted m.cls x.catchType (.cls ct))) hT (X1.noted hW2)
  refine ⟨t, ?_, b1⟩
  obtain ⟨hgo, hw⟩ := (show At T (F0 m pc ls rest).method c below from X.here).throwing q
  refine Steps.head hgo hw ?_
  rw [stepThread_throwing (frames_entered X.here.top _)]
  rw [z_unwind (S := (T.setTop (F0 m pc ls rest)).pushFrame (.throwing q)) (z_search2 (e := e) (S := (T.setTop (F0 m pc ls rest)).pushFrame (.throwing q)) (f := F0 m pc ls rest) (a := q) (mt := meth) (cd := c) X.method' X.code hsplit hx0 h00 hx h0 (X.warmed.classLinks hl0) (hW1.classLinks hl) (by show T.heap[q]? = some ce; rw [hT]; exact hcell) (fun k h => by rw [hv] at h; cases h) (Vm.classAt_of_assignable fit' ⟨kt', hkt'⟩) ⟨kt0', hkt0'⟩ ⟨kt', hkt'⟩ no' fit')]
  obtain ⟨g₀, hg⟩ := Option.isSome_iff_exists.mp X.here.top
  obtain ⟨r, hr⟩ := State.topJava?_eq_some.mp hg
  have hr' : ((T.setVm (T.vm.noted m.cls x0.catchType (.cls c0))).setVm ((T.vm.noted m.cls x0.catchType (.cls c0)).noted m.cls x.catchType (.cls ct))).frames = .java g₀ :: r := hr
  rw [State.setTop_of_frames _ hr'] at a1
  have two : ∀ (u : State) (v : Vm) (F G : List Frame), ((u.setFrames F).setVm v).setFrames G = (u.setVm v).setFrames G := fun u v F G => by
    rw [show (u.setFrames F).setVm v = (u.setVm v).setFrames F from rfl, State.setFrames_setFrames]
  rw [hr, List.tail_cons, State.pushFrame, two, State.setTop_of_frames _ hr, two]
  exact a1
end ZCATCH2
