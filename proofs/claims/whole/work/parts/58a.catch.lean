/-! a callee's throw, caught by the one row of the method's own table: one step of the machine; my own rows over the library's findHandler_eq, resolveClass_links, At.throwing -/
section TC
variable {p : Program} {l : Launch} {e : Env} {R : Room} {s T : State} {m : MethodId} {args : Array Value} {below : List Frame} {meth : Method} {c : Code} {locs : List Loc} {cells slots : Nat} {g : JFrame} {a : Addr} {x : ExceptionTableEntry} {ct : ClassId} {cell : Cell}
theorem t_found {S : State} (hm : S.vm.method? g.method = some meth) (hc : meth.code = some c) (hxl : c.exceptionTable.toList = [x]) (hx : covers x g.pc = true) (h0 : x.catchType ≠ 0) (hl : S.vm.ClassLinks e.platform g.method.cls x.catchType ct) (hcell : S.heap[a]? = some cell) (hobj : cell.vm.isStatics = false) (hk : ∃ k, S.vm.classes[cell.cls]? = some k) (ht : ∃ k, S.vm.classes[ct]? = some k) (hfit : S.vm.assignable cell.cls ct = true) (Q : Handler → Pre) (E : CtlPost) (d : Bool) (acts : List Action) :
    wp (findHandler g a) Q E e d acts S ↔ Q (.found x.handlerPc) d acts (S.setVm (S.vm.noted g.method.cls x.catchType (.cls ct))) := by
  have al : S.vm.Alike (S.vm.noted g.method.cls x.catchType (.cls ct)) := (Vm.Alike.refl S.vm).noted _ _ _
  have r := (resolveClass_links e.toSetting hl).op (op := VmOp.resolveClass g.method.cls x.catchType) rfl
  have hk' : ∃ k, (S.vm.noted g.method.cls x.catchType (.cls ct)).classes[cell.cls]? = some k := by
    obtain ⟨k, q⟩ := hk; obtain ⟨k', q', -⟩ := al.2.2 _ _ q; exact ⟨k', q'⟩
  have ht' : ∃ k, (S.vm.noted g.method.cls x.catchType (.cls ct)).classes[ct]? = some k := by
    obtain ⟨k, q⟩ := ht; obtain ⟨k', q', -⟩ := al.2.2 _ _ q; exact ⟨k', q'⟩
  have hf' : (S.vm.noted g.method.cls x.catchType (.cls ct)).assignable cell.cls ct = true := by rw [al.assignable]; exact hfit
  have hx' : (decide (x.startPc ≤ g.pc) && decide (g.pc < x.endPc)) = true := hx
  rw [Jvm.W.findHandler_eq hm hc, hxl]
  simp [findHandler.go, hx', h0, r.1, r.2, hcell, VmData.ne_statics_of hobj, hk', ht', hf', VmOp.dirties, VmOp.acts]
theorem t_caught (X : Stand p l e R s m args below meth c T locs cells slots) (hg : g.method = m) {own name : String} (hown : s.vm.findClass own = some m.cls) (hxl : c.exceptionTable.toList = [x]) (hx : covers x g.pc = true) (h0 : x.catchType ≠ 0) (hlink : (Cond.classLink own x.catchType name).before args s = true)
    (hct : s.vm.findClass name = some ct) (hcell : T.heap[a]? = some cell) (hobj : cell.vm.isStatics = false) (hfit : s.vm.assignable cell.cls ct = true) {u : State} (hu : Steps p.tables e below u ((T.setTop g).pushFrame (.throwing a))) :
    ∃ vm', Stand p l e R s m args below meth c (T.setVm vm') locs cells slots ∧ Steps p.tables e below u ((T.setVm vm').setTop { g with pc := x.handlerPc, stack := [.ref a] }) := by
  subst hg
  obtain ⟨ct', h1, hl⟩ := Cond.classLink_spec hown hlink e.platform (by rw [X.admits.platform])
  cases hct.symm.trans h1
  obtain ⟨dk, _, _, kt, hd, _, _, _, _, hkt, _, hop⟩ := hl.here
  have hw := X.warmed
  have hkc : ∃ k, s.vm.classes[cell.cls]? = some k := Vm.classAt_of_assignable hfit ⟨kt, hkt⟩
  have up : ∀ i : ClassId, (∃ k, s.vm.classes[i]? = some k) → ∃ k, T.vm.classes[i]? = some k := by
    intro i hi
    obtain ⟨k, q⟩ := hi
    obtain ⟨k', q', -⟩ := hw.alike.2.2 _ _ q; exact ⟨k', q'⟩
  have fnd := t_found (S := (T.setTop g).pushFrame (.throwing a)) (g := g) (a := a) (e := e) X.method' X.code hxl hx h0 (hw.classLinks hl) hcell hobj (up _ hkc) (up _ ⟨kt, hkt⟩) (by rw [show ((T.setTop g).pushFrame (.throwing a)).vm = T.vm from rfl, hw.alike.assignable]; exact hfit)
  refine ⟨T.vm.noted g.method.cls x.catchType (.cls ct), X.noted (hw.noted hd hop (State.rightAt_cls hl)), hu.trans ?_⟩
  obtain ⟨go1, go2⟩ := X.here.throwing a
  obtain ⟨g0, hfr⟩ := X.frames_eq
  refine Steps.head go1 go2 ?_
  rw [stepThread_throwing (frames_entered X.here.top _)]
  have one : (stepThrowing e ((T.setTop g).pushFrame (.throwing a)) a (.java g :: T.frames.tail)).Is ((((T.setTop g).pushFrame (.throwing a)).setVm (T.vm.noted g.method.cls x.catchType (.cls ct))).setFrames (.java { g with pc := x.handlerPc, stack := [.ref a] } :: T.frames.tail)) [] := by
    simp only [stepThrowing, searchFrame, vmDo]
    generalize hr : Sem.go _ e false [] ((T.setTop g).pushFrame (.throwing a)) = res
    obtain ⟨as, rfl, ha⟩ := Sem.eq_ok_of hr (a := Handler.found x.handlerPc) (s' := ((T.setTop g).pushFrame (.throwing a)).setVm (T.vm.noted g.method.cls x.catchType (.cls ct))) (acts' := []) (by simp [fnd]; rfl)
    exact ⟨rfl, ha⟩
  rw [one.1]
  have fr : (T.setVm (T.vm.noted g.method.cls x.catchType (.cls ct))).frames = .java g0 :: below := hfr
  rw [State.setTop_of_frames _ fr, hfr, List.tail_cons]
  have e1 : ∀ (u : State) (v : Vm) (F G : List Frame), ((u.setFrames F).setVm v).setFrames G = (u.setVm v).setFrames G := fun u v F G => by
    rw [show (u.setFrames F).setVm v = (u.setVm v).setFrames F from rfl, State.setFrames_setFrames]
  rw [State.pushFrame, State.setTop_of_frames _ hfr, e1, e1]
  exact Steps.refl _
end TC
