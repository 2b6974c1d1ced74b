/-! a clause that is passed over, then one that catches -/
section TwS
variable {p : Program} {l : Launch} {e : Env} {R : Room} {s : State} {m : MethodId} {args : Array Value} {below : List Frame} {meth : Method} {c : Code} {H : Heap} {locs : List Loc} {cells slots : Nat} {Q : State → Prop}
theorem tw_skip {Qh : Handler → Pre} {E0 : CtlPost} {d : Bool} {acts : List Action} {u : State} {f : JFrame} {a : Addr} {x : ExceptionTableEntry} {t : List ExceptionTableEntry} {k : ClassId} {cell : Cell} (hx : covers x f.pc = true) (h0 : x.catchType ≠ 0)
    (hl : u.vm.ClassLinks e.platform f.method.cls x.catchType k) (hcell : u.heap[a]? = some cell) (hobj : ∀ z, cell.vm ≠ .statics z)
    (hk : ∃ z, u.vm.classes[cell.cls]? = some z) (hc : ∃ z, u.vm.classes[k]? = some z) (hfit : u.vm.assignable cell.cls k = false) :
    wp (findHandler.go f a (x :: t)) Qh E0 e d acts u ↔ wp (findHandler.go f a t) Qh E0 e d acts (u.setVm (u.vm.noted f.method.cls x.catchType (.cls k))) := by
  have hal : u.vm.Alike (u.vm.noted f.method.cls x.catchType (.cls k)) := (Vm.Alike.refl u.vm).noted _ _ _
  obtain ⟨h1, h2⟩ := (resolveClass_links e.toSetting hl).op (op := VmOp.resolveClass f.method.cls x.catchType) rfl
  obtain ⟨z1, hz1⟩ := hk
  obtain ⟨z2, hz2⟩ := hc
  obtain ⟨y1, hy1, -⟩ := hal.2.2 _ _ hz1
  obtain ⟨y2, hy2, -⟩ := hal.2.2 _ _ hz2
  have hf2 : (u.vm.noted f.method.cls x.catchType (.cls k)).assignable cell.cls k = false := by rw [hal.assignable]; exact hfit
  simp only [covers] at hx
  simp [findHandler.go, hx, h0, h1, h2, hcell, hobj, hy1, hy2, hf2, VmOp.dirties, VmOp.acts]
theorem tw_stepG {tb : Tables} {u target : State} {g : JFrame} {a : Addr} (h : At u g.method c below) (hm : u.vm.method? g.method = some meth) (hcd : meth.code = some c) {hp : Nat} {vm9 : Vm}
    (hgo : ∀ (Qh : Handler → Pre) (E0 : CtlPost) (d : Bool) (acts : List Action), wp (findHandler.go g a c.exceptionTable.toList) Qh E0 e d acts ((u.setTop g).pushFrame (.throwing a)) ↔ Qh (.found hp) d acts (((u.setTop g).pushFrame (.throwing a)).setVm vm9))
    (hrest : Steps tb e below ((u.setVm vm9).setTop { g with pc := hp, stack := [.ref a] }) target) :
    Steps tb e below ((u.setTop g).pushFrame (.throwing a)) target := by
  obtain ⟨hgo9, hw⟩ := h.throwing a
  refine Steps.head hgo9 hw ?_
  have hfind : ∀ (Qh : Handler → Pre) (E0 : CtlPost) (d : Bool) (acts : List Action), wp (findHandler g a) Qh E0 e d acts ((u.setTop g).pushFrame (.throwing a)) ↔ Qh (.found hp) d acts (((u.setTop g).pushFrame (.throwing a)).setVm vm9) := by
    intro Qh E0 d acts
    have e1 : ((u.setTop g).pushFrame (.throwing a)).vm = u.vm := Stand.throwing_vm u g a
    rw [W.findHandler_eq (meth := meth) (code := c) (by rw [e1]; exact hm) hcd]
    exact hgo Qh E0 d acts
  have hstep : (stepThrowing e ((u.setTop g).pushFrame (.throwing a)) a (.java g :: u.frames.tail)).Is ((((u.setTop g).pushFrame (.throwing a)).setVm vm9).setFrames (.java { g with pc := hp, stack := [.ref a] } :: u.frames.tail)) [] := by
    simp only [stepThrowing, searchFrame, vmDo]
    generalize hr : Sem.go _ e false [] ((u.setTop g).pushFrame (.throwing a)) = res
    obtain ⟨as, rfl, ha⟩ := Sem.eq_ok_of hr (a := Handler.found hp) (s' := ((u.setTop g).pushFrame (.throwing a)).setVm vm9) (acts' := []) (by simp [hfind _ _ _ _])
    exact ⟨rfl, ha⟩
  rw [stepThread_throwing (frames_entered h.top _), hstep.1]
  obtain ⟨g₀, hg⟩ := Option.isSome_iff_exists.mp h.top
  obtain ⟨r, hr⟩ := State.topJava?_eq_some.mp hg
  have hr' : (u.setVm vm9).frames = .java g₀ :: r := hr
  rw [State.setTop_of_frames _ hr'] at hrest
  have e3 : ((((u.setTop g).pushFrame (.throwing a)).setVm vm9).setFrames (.java { g with pc := hp, stack := [.ref a] } :: u.frames.tail)) = (u.setVm vm9).setFrames (.java { g with pc := hp, stack := [.ref a] } :: r) := by
    rw [hr, List.tail_cons, State.pushFrame, State.setTop_of_frames _ hr, State.setFrames_setFrames]
    show ((u.setVm vm9).setFrames _).setFrames _ = _
    rw [State.setFrames_setFrames]
  rw [e3]
  exact hrest
/-- what the search asks of the machine T, for the row r of class name -/
theorem tw_row {own name : String} {T : State} (X : Stand p l e R s m args below meth c T locs cells slots) (hown : s.vm.findClass own = some m.cls) {r : ExceptionTableEntry} (hlink : (Cond.classLink own r.catchType name).before args s = true) :
    ∃ c5, s.vm.findClass name = some c5 ∧ T.vm.ClassLinks e.platform m.cls r.catchType c5 ∧ (∃ z, T.vm.classes[c5]? = some z) ∧ Stand p l e R s m args below meth c (T.setVm (T.vm.noted m.cls r.catchType (.cls c5))) locs cells slots := by
  have hpl : e.platform.magicAccessors = ({} : Platform).magicAccessors := by rw [X.admits.platform]
  obtain ⟨c5, hc5, hcl5⟩ := Cond.classLink_spec hown hlink e.platform hpl
  obtain ⟨dk, _, _, kt, hd, _, _, _, _, hkt, _, hopen⟩ := hcl5.here
  have hW' : s.WarmedH (T.vm.noted m.cls r.catchType (.cls c5)) := X.warmed.noted hd hopen (State.rightAt_cls hcl5)
  obtain ⟨kt', hkt', -⟩ := X.warmed.alike.2.2 _ _ hkt
  exact ⟨c5, hc5, X.warmed.classLinks hcl5, ⟨kt', hkt'⟩, X.noted hW'⟩
theorem tw_catch2 {own n1 n2 E : String} {pc x : Nat} {ls : Array Slot} {rest : List Value} {cell : Cell} (hown : s.vm.findClass own = some m.cls) (r1 r2 : ExceptionTableEntry) (t : List ExceptionTableEntry) (hsplit : c.exceptionTable.toList = r1 :: r2 :: t)
    (hr1 : covers r1 pc = true) (h01 : r1.catchType ≠ 0) (hr2 : covers r2 pc = true) (h02 : r2.catchType ≠ 0) (hl1 : (Cond.classLink own r1.catchType n1).before args s = true) (hl2 : (Cond.classLink own r2.catchType n2).before args s = true) (hN : tw_N E n1 s) (hcast : (Cond.castable E n2).before args s = true) (hcell : H[x]? = some cell) (hv : cell.vm = .none) (hcl : s.vm.findClass E = some cell.cls)
    (kk : W p l e R s m args below meth c H locs cells slots Q (F0 m r2.handlerPc ls [.ref x])) : tw_W p l e R s m args below meth c H locs cells slots Q (F0 m pc ls rest) x := by
  intro T hT X
  obtain ⟨c1, hc1, L1, hz1, X1⟩ := tw_row X hown hl1
  obtain ⟨c2, hc2, L2, hz2, X2⟩ := tw_row X1 hown hl2
  obtain ⟨c3, c4, hc3, hc4, hasg⟩ := Cond.castable_spec hcast
  cases Option.some.inj (hc3.symm.trans hcl)
  cases Option.some.inj (hc4.symm.trans hc2)
  obtain ⟨c6, c7, hc6, hc7, hns⟩ := hN
  cases Option.some.inj (hc6.symm.trans hcl)
  cases Option.some.inj (hc7.symm.trans hc1)
  obtain ⟨kE, hkE⟩ := Vm.classAt_of_findClass hcl
  obtain ⟨kE', hkE', -⟩ := X.warmed.alike.2.2 _ _ hkE
  obtain ⟨kE2, hkE2, -⟩ := X1.warmed.alike.2.2 _ _ hkE
  have X2 : Stand p l e R s m args below meth c (T.setVm ((T.vm.noted m.cls r1.catchType (.cls c1)).noted m.cls r2.catchType (.cls c2))) locs cells slots := X2
  have hal1 : s.vm.Alike (T.vm.noted m.cls r1.catchType (.cls c1)) := X1.warmed.alike
  obtain ⟨t9, a1, b1⟩ := kk (T.setVm ((T.vm.noted m.cls r1.catchType (.cls c1)).noted m.cls r2.catchType (.cls c2))) hT X2
  refine ⟨t9, tw_stepG (g := F0 m pc ls rest) (vm9 := ((T.vm.noted m.cls r1.catchType (.cls c1)).noted m.cls r2.catchType (.cls c2))) X.here X.method' X.code ?_ a1, b1⟩
  intro Qh E0 d acts
  have e1 : ((T.setTop (F0 m pc ls rest)).pushFrame (.throwing x)).vm = T.vm := Stand.throwing_vm T _ x
  have e2 : ((T.setTop (F0 m pc ls rest)).pushFrame (.throwing x)).heap = T.heap := Stand.throwing_heap T _ x
  have hob : ∀ z, cell.vm ≠ .statics z := fun z h => by rw [hv] at h; cases h
  rw [hsplit, tw_skip (k := c1) hr1 h01 (by rw [e1]; exact L1) (by rw [e2, hT]; exact hcell) hob (by rw [e1]; exact ⟨kE', hkE'⟩) (by rw [e1]; exact hz1) (by rw [e1, X.warmed.alike.assignable]; exact hns)]
  rw [tw_search (k := c2) hr2 h02 (by show ((T.setTop (F0 m pc ls rest)).pushFrame (.throwing x)).vm.noted _ _ _ |>.ClassLinks _ _ _ _; rw [e1]; exact L2) (by show ((T.setTop (F0 m pc ls rest)).pushFrame (.throwing x)).heap[x]? = _; rw [e2, hT]; exact hcell) hob (by show ∃ z, (((T.setTop (F0 m pc ls rest)).pushFrame (.throwing x)).vm.noted _ _ _).classes[_]? = some z; rw [e1]; exact ⟨kE2, hkE2⟩) (by show ∃ z, (((T.setTop (F0 m pc ls rest)).pushFrame (.throwing x)).vm.noted _ _ _).classes[_]? = some z; rw [e1]; exact hz2) (by show (((T.setTop (F0 m pc ls rest)).pushFrame (.throwing x)).vm.noted _ _ _).assignable _ _ = true; rw [e1]; exact (by rw [hal1.assignable]; exact hasg))]
  show Qh (.found r2.handlerPc) d acts (((T.setTop (F0 m pc ls rest)).pushFrame (.throwing x)).setVm ((((T.setTop (F0 m pc ls rest)).pushFrame (.throwing x)).vm.noted m.cls r1.catchType (.cls c1)).noted m.cls r2.catchType (.cls c2))) ↔ _
  rw [e1]
theorem tw_catch3 {own n1 n2 n3 E : String} {pc x : Nat} {ls : Array Slot} {rest : List Value} {cell : Cell} (hown : s.vm.findClass own = some m.cls) (r1 r2 r3 : ExceptionTableEntry) (t : List ExceptionTableEntry) (hsplit : c.exceptionTable.toList = r1 :: r2 :: r3 :: t)
    (hr1 : covers r1 pc = true) (h01 : r1.catchType ≠ 0) (hr2 : covers r2 pc = true) (h02 : r2.catchType ≠ 0) (hr3 : covers r3 pc = true) (h03 : r3.catchType ≠ 0) (hl1 : (Cond.classLink own r1.catchType n1).before args s = true) (hl2 : (Cond.classLink own r2.catchType n2).before args s = true) (hl3 : (Cond.classLink own r3.catchType n3).before args s = true) (hN1 : tw_N E n1 s) (hN2 : tw_N E n2 s) (hcast : (Cond.castable E n3).before args s = true) (hcell : H[x]? = some cell) (hv : cell.vm = .none) (hcl : s.vm.findClass E = some cell.cls)
    (kk : W p l e R s m args below meth c H locs cells slots Q (F0 m r3.handlerPc ls [.ref x])) : tw_W p l e R s m args below meth c H locs cells slots Q (F0 m pc ls rest) x := by
  intro T hT X
  obtain ⟨c1, hc1, L1, hz1, X1⟩ := tw_row X hown hl1
  obtain ⟨c2, hc2, L2, hz2, X2⟩ := tw_row X1 hown hl2
  obtain ⟨c3, hc3, L3, hz3, X3⟩ := tw_row X2 hown hl3
  obtain ⟨c4, c5, hc4, hc5, hasg⟩ := Cond.castable_spec hcast
  cases Option.some.inj (hc4.symm.trans hcl)
  cases Option.some.inj (hc5.symm.trans hc3)
  obtain ⟨c6, c7, hc6, hc7, hns1⟩ := hN1
  cases Option.some.inj (hc6.symm.trans hcl)
  cases Option.some.inj (hc7.symm.trans hc1)
  obtain ⟨c8, c9, hc8, hc9, hns2⟩ := hN2
  cases Option.some.inj (hc8.symm.trans hcl)
  cases Option.some.inj (hc9.symm.trans hc2)
  obtain ⟨kE, hkE⟩ := Vm.classAt_of_findClass hcl
  obtain ⟨kE1, hkE1, -⟩ := X.warmed.alike.2.2 _ _ hkE
  obtain ⟨kE2, hkE2, -⟩ := X1.warmed.alike.2.2 _ _ hkE
  obtain ⟨kE3, hkE3, -⟩ := X2.warmed.alike.2.2 _ _ hkE
  have X3 : Stand p l e R s m args below meth c (T.setVm (((T.vm.noted m.cls r1.catchType (.cls c1)).noted m.cls r2.catchType (.cls c2)).noted m.cls r3.catchType (.cls c3))) locs cells slots := X3
  have hal1 : s.vm.Alike (T.vm.noted m.cls r1.catchType (.cls c1)) := X1.warmed.alike
  have hal2 : s.vm.Alike ((T.vm.noted m.cls r1.catchType (.cls c1)).noted m.cls r2.catchType (.cls c2)) := X2.warmed.alike
  obtain ⟨t9, a1, b1⟩ := kk (T.setVm (((T.vm.noted m.cls r1.catchType (.cls c1)).noted m.cls r2.catchType (.cls c2)).noted m.cls r3.catchType (.cls c3))) hT X3
  refine ⟨t9, tw_stepG (g := F0 m pc ls rest) (vm9 := (((T.vm.noted m.cls r1.catchType (.cls c1)).noted m.cls r2.catchType (.cls c2)).noted m.cls r3.catchType (.cls c3))) X.here X.method' X.code ?_ a1, b1⟩
  intro Qh E0 d acts
  have e1 : ((T.setTop (F0 m pc ls rest)).pushFrame (.throwing x)).vm = T.vm := Stand.throwing_vm T _ x
  have e2 : ((T.setTop (F0 m pc ls rest)).pushFrame (.throwing x)).heap = T.heap := Stand.throwing_heap T _ x
  have hob : ∀ z, cell.vm ≠ .statics z := fun z h => by rw [hv] at h; cases h
  rw [hsplit, tw_skip (k := c1) hr1 h01 (by rw [e1]; exact L1) (by rw [e2, hT]; exact hcell) hob (by rw [e1]; exact ⟨kE1, hkE1⟩) (by rw [e1]; exact hz1) (by rw [e1, X.warmed.alike.assignable]; exact hns1)]
  rw [tw_skip (k := c2) hr2 h02 (by show ((((T.setTop (F0 m pc ls rest)).pushFrame (.throwing x)).vm.noted _ _ _)).ClassLinks _ _ _ _; rw [e1]; exact L2) (by show ((T.setTop (F0 m pc ls rest)).pushFrame (.throwing x)).heap[x]? = _; rw [e2, hT]; exact hcell) hob (by show ∃ z, ((((T.setTop (F0 m pc ls rest)).pushFrame (.throwing x)).vm.noted _ _ _)).classes[_]? = some z; rw [e1]; exact ⟨kE2, hkE2⟩) (by show ∃ z, ((((T.setTop (F0 m pc ls rest)).pushFrame (.throwing x)).vm.noted _ _ _)).classes[_]? = some z; rw [e1]; exact hz2) (by show ((((T.setTop (F0 m pc ls rest)).pushFrame (.throwing x)).vm.noted _ _ _)).assignable _ _ = false; rw [e1, hal1.assignable]; exact hns2)]
  rw [tw_search (k := c3) hr3 h03 (by show (((((T.setTop (F0 m pc ls rest)).pushFrame (.throwing x)).vm.noted _ _ _).noted _ _ _)).ClassLinks _ _ _ _; rw [e1]; exact L3) (by show ((T.setTop (F0 m pc ls rest)).pushFrame (.throwing x)).heap[x]? = _; rw [e2, hT]; exact hcell) hob (by show ∃ z, (((((T.setTop (F0 m pc ls rest)).pushFrame (.throwing x)).vm.noted _ _ _).noted _ _ _)).classes[_]? = some z; rw [e1]; exact ⟨kE3, hkE3⟩) (by show ∃ z, (((((T.setTop (F0 m pc ls rest)).pushFrame (.throwing x)).vm.noted _ _ _).noted _ _ _)).classes[_]? = some z; rw [e1]; exact hz3) (by show (((((T.setTop (F0 m pc ls rest)).pushFrame (.throwing x)).vm.noted _ _ _).noted _ _ _)).assignable _ _ = true; rw [e1, hal2.assignable]; exact hasg)]
  show Qh (.found r3.handlerPc) d acts (((T.setTop (F0 m pc ls rest)).pushFrame (.throwing x)).setVm (((((T.setTop (F0 m pc ls rest)).pushFrame (.throwing x)).vm.noted m.cls r1.catchType (.cls c1)).noted m.cls r2.catchType (.cls c2)).noted m.cls r3.catchType (.cls c3))) ↔ _
  rw [e1]
end TwS
