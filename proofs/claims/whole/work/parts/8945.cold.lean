/-! THE CATCH OF A METHOD WITH ONE ROW IN ITS TABLE, the class of that row linked or not yet -/
theorem co_find {e : Env} {S : State} {g : JFrame} {a : Addr} {meth : Method} {c : Code} {xe : ExceptionTableEntry} {cT : ClassId} {cell : Cell} {vm' : Vm} {kt kc : Class} (hm : S.vm.method? g.method = some meth) (hc : meth.code = some c) (htab : c.exceptionTable.toList = [xe]) (hcov : covers xe g.pc = true) (h0 : xe.catchType ≠ 0) (hl : S.vm.ClassLinks e.platform g.method.cls xe.catchType cT) (hcell : S.heap[a]? = some cell) (hne : ∀ k, cell.vm ≠ .statics k)
    (hvm : S.vm.noted g.method.cls xe.catchType (.cls cT) = vm') (hkt : vm'.classes[cT]? = some kt) (hkc : vm'.classes[cell.cls]? = some kc) (hfit : vm'.assignable cell.cls cT = true) (Q : Handler → Pre) (E : CtlPost) (d : Bool) (acts : List Action) : wp (findHandler g a) Q E e d acts S ↔ Q (.found xe.handlerPc) d acts (S.setVm vm') := by
  rw [W.findHandler_eq hm hc, htab]
  obtain ⟨ha, ht⟩ := (resolveClass_links e.toSetting hl).op (op := VmOp.resolveClass g.method.cls xe.catchType) rfl
  subst hvm
  simp only [covers] at hcov
  simp [findHandler.go, hcov, h0, ha, ht, hcell, hne, hkt, hkc, hfit, VmOp.dirties, VmOp.acts]
theorem co_catch {p : Program} {l : Launch} {e : Env} {R : Room} {s : State} {m : MethodId} {args : Array Value} {below : List Frame} {meth : Method} {c : Code} {T : State} {locs : List Loc} {cells slots : Nat} (X : Stand p l e R s m args below meth c T locs cells slots) {a : Addr} {g : JFrame} {own name : String} {xe : ExceptionTableEntry} {cT : ClassId} {cell : Cell} {s₀ : State}
    (hg : g.method = m) (hown : s.vm.findClass own = some m.cls) (htab : c.exceptionTable.toList = [xe]) (hcov : covers xe g.pc = true) (h0 : xe.catchType ≠ 0) (hlink : (Cond.classLink own xe.catchType name).before args s = true) (hcT : s.vm.findClass name = some cT) (hcell : T.heap[a]? = some cell) (hobj : cell.vm.isStatics = false) (hfit : s.vm.assignable cell.cls cT = true)
    (hcome : Steps p.tables e below s₀ ((T.setTop g).pushFrame (.throwing a))) :
    ∃ vm', Stand p l e R s m args below meth c (T.setVm vm') locs cells slots ∧ Steps p.tables e below s₀ ((T.setVm vm').setTop { g with pc := xe.handlerPc, stack := [.ref a] }) := by
  subst hg
  obtain ⟨c', hc', hcl⟩ := Cond.classLink_spec hown hlink e.platform (by rw [X.admits.platform])
  cases hcT.symm.trans hc'
  obtain ⟨dk, _, _, kt, hd, _, _, _, _, hkt, _, hopen⟩ := hcl.here
  have hW' : s.WarmedH (T.vm.noted g.method.cls xe.catchType (.cls cT)) := X.warmed.noted hd hopen (State.rightAt_cls hcl)
  have hlT := X.warmed.classLinks hcl
  generalize hvm : T.vm.noted g.method.cls xe.catchType (.cls cT) = vm' at hW'
  refine ⟨vm', X.noted hW', hcome.trans ?_⟩
  obtain ⟨kt', hkt', -⟩ := hW'.alike.2.2 _ _ hkt
  have hfit' : vm'.assignable cell.cls cT = true := by rw [hW'.alike.assignable]; exact hfit
  obtain ⟨kc, hkc⟩ := Vm.classAt_of_assignable hfit' ⟨kt', hkt'⟩
  have hne := VmData.ne_statics_of hobj
  have hfind : ∀ (Q : Handler → Pre) (E : CtlPost) (d : Bool) (acts : List Action), wp (findHandler g a) Q E e d acts ((T.setTop g).pushFrame (.throwing a)) ↔ Q (.found xe.handlerPc) d acts (((T.setTop g).pushFrame (.throwing a)).setVm vm') :=
    co_find (S := (T.setTop g).pushFrame (.throwing a)) (meth := meth) (c := c) X.method' X.code htab hcov h0 hlT hcell hne hvm hkt' hkc hfit'
  obtain ⟨hgo, hw⟩ := X.here.throwing (g := g) a
  refine Steps.head hgo hw ?_
  rw [stepThread_throwing (frames_entered X.here.top _)]
  have hst : (stepThrowing e ((T.setTop g).pushFrame (.throwing a)) a (.java g :: T.frames.tail)).1 = (((T.setTop g).pushFrame (.throwing a)).setVm vm').setFrames (.java { g with pc := xe.handlerPc, stack := [.ref a] } :: T.frames.tail) := by
    simp only [stepThrowing, searchFrame, vmDo]
    generalize hr : Sem.go _ e false [] ((T.setTop g).pushFrame (.throwing a)) = res
    obtain ⟨as, rfl, ha⟩ := Sem.eq_ok_of hr (a := Handler.found xe.handlerPc) (s' := ((T.setTop g).pushFrame (.throwing a)).setVm vm') (acts' := []) (by simp [hfind])
    rfl
  rw [hst]
  obtain ⟨g₀, hfr⟩ := X.frames_eq
  have hfr' : (T.setVm vm').frames = .java g₀ :: below := hfr
  have e1 : (((T.setTop g).pushFrame (.throwing a)).setVm vm').setFrames (.java { g with pc := xe.handlerPc, stack := [.ref a] } :: T.frames.tail) = (T.setVm vm').setTop { g with pc := xe.handlerPc, stack := [.ref a] } := by
    rw [State.setTop_of_frames _ hfr', X.tail, State.pushFrame, State.setTop_of_frames _ hfr, State.setFrames_setFrames]
    show ((T.setVm vm').setFrames _).setFrames _ = _
    rw [State.setFrames_setFrames]
  rw [e1]
  exact Steps.refl _
