/-! throws: what a method that throws leaves behind it; 'throw new E(text)'; a call that throws; the first clause that catches -/
section TwA
variable {p : Program} {l : Launch} {e : Env} {R : Room} {s : State} {m : MethodId} {args : Array Value} {below : List Frame} {meth : Method} {c : Code} {H : Heap} {locs : List Loc} {cells slots : Nat} {Q : State → Prop}
/-- the end of a method that throws a new object of class E: nothing that was there has changed -/
def tw_End (E : String) (mc ms : Nat) (st : State) (o : Outcome) (t : State) : Prop :=
  ∃ (x : Nat) (cell : Cell), o = .threw x ∧ st.heap.size ≤ x ∧ t.heap[x]? = some cell ∧ cell.vm = .none ∧ st.vm.findClass E = some cell.cls ∧ st.WarmedH t.vm ∧ st.sameButNew ({ t with vm := st.vm } : State) [] mc ms
/-- a contract of a method that throws -/
def tw_Met (l : Launch) (y : MethodName) (ws : List Cond) (rm : Room) (Pc : Array Value → State → Prop) (E : String) (mc ms : Nat) : Prop :=
  MetFree l y (headSpec ws rm) Pc (fun _ _ _ _ _ => True) (fun _ st o t => tw_End E mc ms st o t)
def tw_MQ (below : List Frame) (E : String) (s : State) (mc ms : Nat) : State → Prop := fun t => ∃ o, t.status = .running ∧ Ended t below o ∧ tw_End E mc ms s o t
theorem tw_ofW {y : MethodName} {ws ws' : List Cond} {rm : Room} {Pc : Array Value → State → Prop} {E : String} {mc ms : Nat} {cc : ByteArray} {maxL : Nat} {ret : Option FieldType}
    (hy : plainName y.cls = true) (hw : ws = Cond.code y cc maxL ret :: ws')
    (body : ∀ p e s m args below meth c s₁, BodyLoose p l y (headSpec ws rm) cc maxL ret e s m args below meth c s₁ → c.maxLocals = maxL → c.exceptionTable.isEmpty = true → Pc args s →
      W p l e (headSpec ws rm).room s m args below meth c s.heap [] 0 0 (tw_MQ below E s mc ms) (entryFrame m args maxL)) : tw_Met l y ws rm Pc E mc ms := by
  refine MetFree.of_bodyS (code := cc) (maxLocals := maxL) (ret := ret) hy ?_ ?_
  · intro args s m h hn
    obtain ⟨meth, c, h1, h2, h3, h4, h5, h6, -, -⟩ := Cond.code_spec hn (atoms_spec (ws := ws) h _ (by rw [hw]; exact List.mem_cons_self))
    exact ⟨meth, c, h1, h2, h3, h4, h5, h6⟩
  · intro p e s m args below meth c s₁ B hml hP _
    have hh0 : s₁.heap = s.heap := by rw [B.state]; rfl
    have hno : c.exceptionTable.isEmpty = true := B.noHandlers (atoms_spec (ws := ws) B.pre _ (by rw [hw]; exact List.mem_cons_self))
    obtain ⟨t, a1, o, b1, b2, b3⟩ := body p e s m args below meth c s₁ B hml hno hP s₁ hh0 (Stand.of_body B)
    exact ⟨t, o, a1, b1, b2, b3⟩
theorem tw_noH {c : Code} (h : c.exceptionTable.isEmpty = true) (pc : Nat) : ∀ x ∈ c.exceptionTable.toList, covers x pc = false := by
  intro x hx
  rw [Array.isEmpty_iff] at h
  rw [h] at hx
  cases hx
/-- nothing old has changed, cell by cell -/
theorem tw_same {st t : State} {k n : Nat} (h : st.sameButNew ({ t with vm := st.vm } : State) [] k n) : st.heap.size ≤ t.heap.size ∧ ∀ q : Nat, q < st.heap.size → t.heap[q]? = st.heap[q]? := by
  obtain ⟨-, h2, -, -, -, h6⟩ := h
  refine ⟨h2, fun q hq => ?_⟩
  obtain ⟨c9, e1, e2, -, e4⟩ := h6 q _ (Array.getElem?_eq_getElem hq)
  have hs : c9.slots = (st.heap[q]).slots := Array.ext_getElem? fun i => e4 i (fun hm => by cases hm)
  rw [hs] at e2
  rw [show t.heap[q]? = some c9 from e1, Array.getElem?_eq_getElem hq]
  exact congrArg some e2
/-- the machine with a thrown object over the frame g -/
def tw_W (p : Program) (l : Launch) (e : Env) (R : Room) (s : State) (m : MethodId) (args : Array Value) (below : List Frame) (meth : Method) (c : Code) (H : Heap) (locs : List Loc) (cells slots : Nat) (Q : State → Prop) (g : JFrame) (x : Nat) : Prop :=
  ∀ T : State, T.heap = H → Stand p l e R s m args below meth c T locs cells slots → ∃ t, Steps p.tables e below ((T.setTop g).pushFrame (.throwing x)) t ∧ Q t
/-- it leaves the method -/
theorem tw_leave {E : String} {pc x : Nat} {ls : Array Slot} {rest : List Value} {cell : Cell} (hout : ∀ z ∈ c.exceptionTable.toList, covers z pc = false) (hlocks : meth.locks = false) (hx : s.heap.size ≤ x)
    (hcell : H[x]? = some cell) (hv : cell.vm = .none) (hcl : s.vm.findClass E = some cell.cls) :
    tw_W p l e R s m args below meth c H [] cells slots (tw_MQ below E s cells slots) (F0 m pc ls rest) x := by
  intro T hT X
  obtain ⟨st1, hrun, hend, hW, hsm⟩ := X.leaveThrown x (g := F0 m pc ls rest) rfl rfl rfl hout hlocks
  exact ⟨_, st1, .threw x, hrun, hend, x, cell, rfl, hx, (by show T.heap[x]? = some cell; rw [hT]; exact hcell), hv, hcl, hW, hsm⟩
end TwA
section TwB
variable {p : Program} {l : Launch} {e : Env} {R : Room} {s : State} {m : MethodId} {args : Array Value} {below : List Frame} {meth : Method} {c : Code} {H : Heap} {locs : List Loc} {cells slots : Nat} {Q : State → Prop}
/-- the handlers' search where the first row covers the pc and its class, cold or warm, takes the object -/
theorem tw_search {Qh : Handler → Pre} {E0 : CtlPost} {d : Bool} {acts : List Action} {u : State} {f : JFrame} {a : Addr} {x : ExceptionTableEntry} {t : List ExceptionTableEntry} {k : ClassId} {cell : Cell} (hx : covers x f.pc = true) (h0 : x.catchType ≠ 0)
    (hl : u.vm.ClassLinks e.platform f.method.cls x.catchType k) (hcell : u.heap[a]? = some cell) (hobj : ∀ z, cell.vm ≠ .statics z)
    (hk : ∃ z, u.vm.classes[cell.cls]? = some z) (hc : ∃ z, u.vm.classes[k]? = some z) (hfit : u.vm.assignable cell.cls k = true) :
    wp (findHandler.go f a (x :: t)) Qh E0 e d acts u ↔ Qh (.found x.handlerPc) d acts (u.setVm (u.vm.noted f.method.cls x.catchType (.cls k))) := by
  have hal : u.vm.Alike (u.vm.noted f.method.cls x.catchType (.cls k)) := (Vm.Alike.refl u.vm).noted _ _ _
  obtain ⟨h1, h2⟩ := (resolveClass_links e.toSetting hl).op (op := VmOp.resolveClass f.method.cls x.catchType) rfl
  obtain ⟨z1, hz1⟩ := hk
  obtain ⟨z2, hz2⟩ := hc
  obtain ⟨y1, hy1, -⟩ := hal.2.2 _ _ hz1
  obtain ⟨y2, hy2, -⟩ := hal.2.2 _ _ hz2
  have hf2 : (u.vm.noted f.method.cls x.catchType (.cls k)).assignable cell.cls k = true := by rw [hal.assignable]; exact hfit
  simp only [covers] at hx
  simp [findHandler.go, hx, h0, h1, h2, hcell, hobj, hy1, hy2, hf2, VmOp.dirties, VmOp.acts]
/-- one step of the machine: the object is caught by the first row of the method's own table -/
theorem tw_step {tb : Tables} {u target : State} {g : JFrame} {a : Addr} (h : At u g.method c below) (hm : u.vm.method? g.method = some meth) (hcd : meth.code = some c) {x : ExceptionTableEntry} {t : List ExceptionTableEntry} (hsplit : c.exceptionTable.toList = x :: t) {k : ClassId} {cell : Cell}
    (hx : covers x g.pc = true) (h0 : x.catchType ≠ 0) (hl : u.vm.ClassLinks e.platform g.method.cls x.catchType k) (hcell : u.heap[a]? = some cell) (hobj : ∀ z, cell.vm ≠ .statics z)
    (hk : ∃ z, u.vm.classes[cell.cls]? = some z) (hc : ∃ z, u.vm.classes[k]? = some z) (hfit : u.vm.assignable cell.cls k = true)
    (hrest : Steps tb e below ((u.setVm (u.vm.noted g.method.cls x.catchType (.cls k))).setTop { g with pc := x.handlerPc, stack := [.ref a] }) target) :
    Steps tb e below ((u.setTop g).pushFrame (.throwing a)) target := by
  obtain ⟨vm9, hvm9⟩ : ∃ z, z = u.vm.noted g.method.cls x.catchType (.cls k) := ⟨_, rfl⟩
  rw [← hvm9] at hrest
  obtain ⟨hgo, hw⟩ := h.throwing a
  refine Steps.head hgo hw ?_
  have hfind : ∀ (Qh : Handler → Pre) (E0 : CtlPost) (d : Bool) (acts : List Action), wp (findHandler g a) Qh E0 e d acts ((u.setTop g).pushFrame (.throwing a)) ↔ Qh (.found x.handlerPc) d acts (((u.setTop g).pushFrame (.throwing a)).setVm vm9) := by
    intro Qh E0 d acts
    have e1 : ((u.setTop g).pushFrame (.throwing a)).vm = u.vm := Stand.throwing_vm u g a
    have e2 : ((u.setTop g).pushFrame (.throwing a)).heap = u.heap := Stand.throwing_heap u g a
    rw [W.findHandler_eq (meth := meth) (code := c) (by rw [e1]; exact hm) hcd, hsplit, hvm9, ← e1]
    exact tw_search hx h0 (by rw [e1]; exact hl) (by rw [e2]; exact hcell) hobj (by rw [e1]; exact hk) (by rw [e1]; exact hc) (by rw [e1]; exact hfit)
  have hstep : (stepThrowing e ((u.setTop g).pushFrame (.throwing a)) a (.java g :: u.frames.tail)).Is ((((u.setTop g).pushFrame (.throwing a)).setVm vm9).setFrames (.java { g with pc := x.handlerPc, stack := [.ref a] } :: u.frames.tail)) [] := by
    simp only [stepThrowing, searchFrame, vmDo]
    generalize hr : Sem.go _ e false [] ((u.setTop g).pushFrame (.throwing a)) = res
    obtain ⟨as, rfl, ha⟩ := Sem.eq_ok_of hr (a := Handler.found x.handlerPc) (s' := ((u.setTop g).pushFrame (.throwing a)).setVm vm9) (acts' := []) (by simp [hfind _ _ _ _])
    exact ⟨rfl, ha⟩
  rw [stepThread_throwing (frames_entered h.top _), hstep.1]
  obtain ⟨g₀, hg⟩ := Option.isSome_iff_exists.mp h.top
  obtain ⟨r, hr⟩ := State.topJava?_eq_some.mp hg
  have hr' : (u.setVm vm9).frames = .java g₀ :: r := hr
  rw [State.setTop_of_frames _ hr'] at hrest
  have e3 : ((((u.setTop g).pushFrame (.throwing a)).setVm vm9).setFrames (.java { g with pc := x.handlerPc, stack := [.ref a] } :: u.frames.tail)) = (u.setVm vm9).setFrames (.java { g with pc := x.handlerPc, stack := [.ref a] } :: r) := by
    rw [hr, List.tail_cons, State.pushFrame, State.setTop_of_frames _ hr, State.setFrames_setFrames]
    show ((u.setVm vm9).setFrames _).setFrames _ = _
    rw [State.setFrames_setFrames]
  rw [e3]
  exact hrest
/-- the first clause catches: the machine goes on at its handler -/
theorem tw_catch {own name E : String} {pc x : Nat} {ls : Array Slot} {rest : List Value} {cell : Cell} (hown : s.vm.findClass own = some m.cls) (r : ExceptionTableEntry) (t : List ExceptionTableEntry) (hsplit : c.exceptionTable.toList = r :: t)
    (hr : covers r pc = true) (h0 : r.catchType ≠ 0) (hlink : (Cond.classLink own r.catchType name).before args s = true) (hcast : (Cond.castable E name).before args s = true) (hcell : H[x]? = some cell) (hv : cell.vm = .none) (hcl : s.vm.findClass E = some cell.cls)
    (kk : W p l e R s m args below meth c H locs cells slots Q (F0 m r.handlerPc ls [.ref x])) : tw_W p l e R s m args below meth c H locs cells slots Q (F0 m pc ls rest) x := by
  intro T hT X
  have hpl : e.platform.magicAccessors = ({} : Platform).magicAccessors := by rw [X.admits.platform]
  obtain ⟨c3, c4, hc3, hc4, hasg⟩ := Cond.castable_spec hcast
  cases Option.some.inj (hc3.symm.trans hcl)
  obtain ⟨c5, hc5, hcl5⟩ := Cond.classLink_spec hown hlink e.platform hpl
  cases Option.some.inj (hc4.symm.trans hc5)
  obtain ⟨dk, _, _, kt, hd, _, _, _, _, hkt, _, hopen⟩ := hcl5.here
  have hW' : s.WarmedH (T.vm.noted m.cls r.catchType (.cls c4)) := X.warmed.noted hd hopen (State.rightAt_cls hcl5)
  have hal := X.warmed.alike
  obtain ⟨kt', hkt', -⟩ := hal.2.2 _ _ hkt
  obtain ⟨kE, hkE⟩ := Vm.classAt_of_findClass hcl
  obtain ⟨kE', hkE', -⟩ := hal.2.2 _ _ hkE
  obtain ⟨t9, a1, b1⟩ := kk (T.setVm (T.vm.noted m.cls r.catchType (.cls c4))) hT (X.noted hW')
  exact ⟨t9, tw_step (g := F0 m pc ls rest) X.here X.method' X.code hsplit hr h0 (X.warmed.classLinks hcl5) (by rw [hT]; exact hcell) (fun z h => by rw [hv] at h; cases h) ⟨kE', hkE'⟩ ⟨kt', hkt'⟩ (by rw [hal.assignable]; exact hasg) a1, b1⟩
end TwB
section TwC
variable {p : Program} {l : Launch} {e : Env} {R : Room} {s : State} {m : MethodId} {args : Array Value} {below : List Frame} {meth : Method} {c : Code} {H : Heap} {locs : List Loc} {cells slots : Nat} {Q : State → Prop}
/-- a call of a method that throws, behind the instruction's own step -/
theorem tw_thrown {y : MethodName} {ws : List Cond} {rm : Room} {Pc : Array Value → State → Prop} {E : String} {mc ms : Nat} {bytes : ByteArray} {maxL : Nat} {ret : Option FieldType} (hM : tw_Met l y ws rm Pc E mc ms) {U : State} (X : Stand p l e R s m args below meth c U locs cells slots)
    (hrc : rm.cells = mc) (hrs : rm.slots = ms) (hfr : rm.frames + 1 ≤ R.frames) (hlo : 8 + (maxL + 11) + rm.locals ≤ R.locals)
    (hpre : ∀ w ∈ ws, ∀ a' : Array Value, w.before a' U = true) (hcode : ∀ a' : Array Value, (Cond.code y bytes maxL ret).before a' U = true) (hini : ∀ a' : Array Value, (Cond.initialized y.cls).before a' U = true)
    {g : JFrame} {ig : Instr} {len : Nat} {mk : MethodId} {a : Array Value} (hg : g.method = m) (hsize : g.locals.size = c.maxLocals) (hdg : decode c.code g.pc = .ok (ig, len)) (hW8 : 2 * g.monitorRoom + (g.stack.map fun v => v.category).sum ≤ 8)
    (hn : U.methodNamed? y = some mk) (hc1 : cells + mc ≤ R.cells) (hs1 : slots + ms ≤ R.slots) (hP : Pc a (U.calling g mk a)) :
    ∃ (x : Nat) (cell : Cell) (T' : State), Stand p l e R s m args below meth c T' locs (cells + mc) (slots + ms) ∧ Steps p.tables e below (doInvoke e (U.setTop g) [] mk a).1 ((T'.setTop g).pushFrame (.throwing x)) ∧
      U.heap.size ≤ x ∧ T'.heap[x]? = some cell ∧ cell.vm = .none ∧ U.vm.findClass E = some cell.cls ∧ U.heap.size ≤ T'.heap.size ∧ ∀ q : Nat, q < U.heap.size → T'.heap[q]? = U.heap[q]? := by
  obtain ⟨methY, cY, hmY, hcY, -, hlY, -⟩ := Cond.code_spec hn (hcode a)
  obtain ⟨kY, hkY, -⟩ := className_of_methodNamed hn
  have hinitY : kY.init = .initialized := Cond.initialized_spec (findClass_of_methodNamed hn) hkY (hini a)
  subst hg
  have h := X.here
  have happ : (headSpec ws rm).appliesLoose y e.platform (U.calling g mk a) = true :=
    Spec.appliesLoose_calling (g := g) h hdg hn hkY hinitY
      (X.room_calling (g := g) (R' := rm) hsize hmY hcY hfr (by rw [hlY]; omega) (by rw [hrc]; exact hc1) (by rw [hrs]; exact hs1)) (atoms_intro fun w hw => hpre w hw a)
  obtain ⟨mid, hmid⟩ := h.above
  have hfr9 : (U.setTop g).frames = (.java g :: mid) ++ below := by rw [State.frames_setTop' g h.top, hmid]; rfl
  obtain ⟨o, s₂, hsteps, -, hend, hq⟩ := Steps.callFree hM p X.admits X.cas X.clock (acts := []) hfr9 happ hP trivial
  rw [State.frames_setTop' g h.top, X.tail] at hend
  obtain ⟨x, cell, rfl, hx, hcell, hv, hcl, hW₂, hsame⟩ := hq
  obtain ⟨T', X', -, hB, ht⟩ := X.outOfThrown (g := g) rfl (mk := mk) (a := a) hend hW₂ hsame
  rw [List.append_nil] at X'
  have hheap : s₂.heap = T'.heap := by rw [ht]; exact Stand.throwing_heap T' g x
  have hs9 := tw_same (st := U.calling g mk a) (t := s₂) hsame
  rw [hheap] at hs9 hcell
  rw [ht] at hsteps
  exact ⟨x, cell, T', X', hsteps, hx, hcell, hv, hcl, hs9.1, hs9.2⟩
/-- an instance call that throws -/
theorem tw_runV {y : MethodName} {bytes cc : ByteArray} {maxL nL mc ms n index pc : Nat} {ret : Option FieldType} {ws : List Cond} {rm : Room} {Pc : Array Value → State → Prop} {E : String} {Ts : List Cond} {own C : String} {b : Addr} {As rest st0 : List Value} {ls : Array Slot}
    (S : CallFix p m c cc nL s args Ts own) (hM : tw_Met l y ws rm Pc E mc ms) (cw : CallW R s args own C index y bytes maxL ret ws rm mc ms n) (hp : PreV s H C b Pc As)
    (hn : As.length = n) (hsize : ls.size = nL) (hstack : st0 = As.reverse ++ .ref b :: rest) (hW8 : (rest.map fun v => v.category).sum ≤ 8) (hdg : decode cc pc = .ok (.invokevirtual index, 3)) (hf : cells + mc ≤ R.cells ∧ slots + ms ≤ R.slots)
    (kk : ∀ (x : Nat) (cell : Cell) (H1 : Heap), H.size ≤ x → H1[x]? = some cell → cell.vm = .none → s.vm.findClass E = some cell.cls → H.size ≤ H1.size → (∀ q : Nat, q < H.size → H1[q]? = H[q]?) →
      tw_W p l e R s m args below meth c H1 locs (cells + mc) (slots + ms) Q (F0 m pc ls rest) x) : W p l e R s m args below meth c H locs cells slots Q (F0 m pc ls st0) := by
  intro T hT X
  obtain ⟨⟨hrc, hrs, hfr, hlo, hws, hcw, hcode, hini, hy, hlen, hl⟩, hin, hse⟩ := cw
  obtain ⟨hx, hb, hml, ho, -⟩ := S
  obtain ⟨hbl, ⟨cellB, hcB, hoB, hclB⟩, hPc⟩ := hp
  obtain ⟨mk, methM, hnamed, hmethM, hstM, habM⟩ := Cond.instanceMethod_spec hin
  obtain ⟨methM', cM, hmethM', -, -, -, -, -, -, hsigM⟩ := Cond.code_spec hnamed hcode
  cases hmethM.symm.trans hmethM'
  obtain ⟨c2, r2, m2, q1, q2, q3, q4, kP, hkP, hkPi⟩ := Cond.selects_spec hse
  cases hclB.symm.trans q1
  cases (State.methodFound?_of_named hnamed hy).symm.trans q2
  cases hnamed.symm.trans q3
  have hselP : selectMethod e.platform s.vm cellB.cls mk = .method mk := by rw [Launch.admits_selectMethod X.admits]; exact q4
  obtain ⟨vm₁, X₁, hstep₁⟩ := X.invokevirtual hx ho hl hnamed hmethM hstM hkP hkPi hy (a := b) (cell := cellB) (by rw [hT]; exact hcB)
    (fun z h => by rw [h] at hoB; cases hoB) hselP hmethM habM hkP hkPi (g := F0 m pc ls st0) rfl (argsL := As) (rest := rest) (hn.trans (hlen _ hsigM)) hstack (by rw [hb]; exact hdg)
  have hiw : ∀ a' : Array Value, (Cond.initialized y.cls).before a' (T.setVm vm₁) = true := fun a' => word_at X₁.warmed (Or.inl (by first | rfl | simp [Cond.onTables, Cond.keeps, Cond.steady])) hini
  obtain ⟨x, cell, T', X', st, hx1, hx2, hx3, hx4, hx5, hx6⟩ := tw_thrown (bytes := bytes) (maxL := maxL) (ret := ret) hM X₁ hrc hrs hfr hlo (fun w hw a' => hws w hw a' _ X₁.warmed) (fun a' => hws _ hcw a' _ X₁.warmed) hiw (g := F0 m pc ls rest) (ig := .invokevirtual index) (len := 3) (mk := mk) (a := (Value.ref b :: As).toArray) rfl (hsize.trans hml.symm) (by rw [hb]; exact hdg)
    (by show 2 * 0 + (rest.map fun v => v.category).sum ≤ 8; omega) (X₁.named hnamed) hf.1 hf.2 (hbl _ _ _ _ (hPc (T.setVm vm₁) hT X₁.warmed))
  have e1 : (T.setVm vm₁).heap = H := hT
  rw [e1] at hx1 hx5 hx6
  obtain ⟨t, a1, b1⟩ := kk x cell T'.heap hx1 hx2 hx3 (by rw [← X₁.warmed.alike.findClass]; exact hx4) hx5 hx6 T' rfl X'
  exact ⟨t, hstep₁ _ fun acts => by rw [doInvoke_state]; exact st.trans a1, b1⟩
/-- throw new E(text): new; dup; ldc; invokespecial; athrow, nothing written before -/
theorem tw_throwNew {cc : ByteArray} {pc : Nat} {ls : Array Slot} {rest : List Value} (hexec : p.tables.exec = Jvm.exec) (hb : c.code = cc) (htr : l.stackTraces = false) {own E text : String} {names : List String} {ik is ic sa : Nat}
    (hown : s.vm.findClass own = some m.cls) (hE : Bundle.fit E = true) (hnames : ∀ n ∈ names, Bundle.fit n = true)
    (hk : (Cond.classLink own ik E).before args s = true) (hini : (Cond.initialized E).before args s = true) (hstr : vk_R own is text sa s) (hat : ∀ w ∈ Bundle.ownAtoms own ic E names, w.before args s = true)
    (hH : s.heap.size ≤ H.size) (hsize : ls.size = c.maxLocals)
    (d0 : decode cc pc = .ok (.new ik, 3)) (d3 : decode cc (pc + 3) = .ok (.dup, 1)) (d4 : decode cc (pc + 3 + 1) = .ok (.ldc is, 2)) (d6 : decode cc (pc + 3 + 1 + 2) = .ok (.invokespecial ic, 3)) (d9 : decode cc (pc + 3 + 1 + 2 + 3) = .ok (.athrow, 1))
    (hout : ∀ x ∈ c.exceptionTable.toList, covers x (pc + 3 + 1 + 2 + 3) = false)
    (hRf : names.length + 3 < R.frames) (hRl : (rest.map fun v => v.category).sum + (13 * (names.length + 1) + 43) ≤ R.locals) (hRc : cells + 1 ≤ R.cells) (hRs : slots + 6 ≤ R.slots) (hlocks : meth.locks = false) :
    W p l e R s m args below meth c H [] cells slots (tw_MQ below E s (cells + 1) (slots + 6)) (F0 m pc ls rest) := by
  refine W.newc hexec hb hown hk (hat (.instantiable E 6) (by simp [Bundle.ownAtoms])) hini rfl d0 hRc hRs fun cC kC hf hk' hkind hn => ?_
  refine W.eq (g2 := F0 m (pc + 3) ls (.ref H.size :: rest)) rfl ?_
  refine lv_dup hexec hb d3 rfl ?_
  refine va_ldcS hexec hb hown hstr d4 ?_
  intro T hT X
  have htr9 : e.platform.stackTraces = false := (show e.platform.stackTraces = l.stackTraces by rw [X.admits.platform]).trans htr
  have hc9 : T.heap[H.size]? = some (freshCell cC kC) := by rw [hT, Array.getElem?_push_size]
  obtain ⟨U, st, hrun, hend, hW, hsame, ce, hce, K⟩ := X.ctorThrowS hexec htr9 hown hE hnames hat (fun x hx => by cases hx) (a := H.size) hf hk' hc9 hH (msg := .ref sa) rfl (g := F0 m (pc + 3 + 1 + 2) ls (.ref sa :: .ref H.size :: .ref H.size :: rest)) rfl hsize rfl rfl rfl
    (by rw [hb]; exact d6) (by rw [hb]; exact d9) hout hRf (by show 2 * 0 + (1 + (rest.map fun v => v.category).sum) + _ ≤ _; omega) hlocks
  exact ⟨U, st, .threw H.size, hrun, hend, H.size, ce, rfl, hH, hce, K.vm, K.cls, hW, hsame⟩
/-- a static call of a method with an exception table, that returns -/
theorem tw_runSW {y : MethodName} {bytes cc : ByteArray} {maxL nL mc ms n index : Nat} {ret : Option FieldType} {hh : List (Nat × Nat × Nat × Nat)} {ws : List Cond} {rm : Room} {Pc : Array Value → State → Prop} {Qc : Array Value → State → Outcome → State → Prop} {free : Addr → Prop} {Ts : List Cond} {own : String} {As rest : List Value} {g : JFrame}
    (S : CallFix p m c cc nL s args Ts own) (hM : Met l y ws rm Pc Qc mc ms free) (hrc : rm.cells = mc) (hrs : rm.slots = ms) (hR : rm.frames + 1 ≤ R.frames ∧ 8 + (maxL + 11) + rm.locals ≤ R.locals)
    (hws : ∀ w ∈ ws, ∀ (a' : Array Value) (U : State), s.WarmedH U.vm → w.before a' U = true) (hcw : Cond.codeWith y bytes maxL ret hh ∈ ws)
    (hl : (Cond.methodLink own index y).before args s = true) (hstat : (Cond.static y).before args s = true) (hini : (Cond.initialized y.cls).before args s = true)
    (hd : y.cls ≠ "java/lang/invoke/MethodHandle" ∧ y.cls ≠ "java/lang/invoke/VarHandle" ∧ (parseMethodDescriptor y.desc).map (fun d => d.parameters.length) = some n) (hp : PreS s H Pc As)
    (hg : g.method = m) (hn : As.length = n) (hsize : g.locals.size = nL) (hstack : g.stack = As.reverse ++ rest) (hW8 : 2 * g.monitorRoom + (rest.map fun v => v.category).sum ≤ 8) (hdg : decode cc g.pc = .ok (.invokestatic index, 3)) (hf : cells + mc ≤ R.cells ∧ slots + ms ≤ R.slots) :
    va_Run p l e R s m args below meth c H locs cells slots mc ms g rest (Qc As.toArray) free := by
  have hK : Back l R p e below s args y 3 8 (PreOf R mc ms Pc) (PostOf Qc mc ms free) := va_backW (hh := hh) (bytes := bytes) (maxL := maxL) (ret := ret) hM hp.1 hrc hrs hR.1 hR.2 hws hcw (fun a' U hW => word_at hW (Or.inl (by first | rfl | simp [Cond.onTables, Cond.keeps, Cond.steady])) hini)
  obtain ⟨hx, hb, hml, ho, -⟩ := S
  intro T hT X
  obtain ⟨mk, methM, cM, hnamed, hmethM, -, -, -, -, -, -, hsigM⟩ := Cond.codeWith_spec (hws _ hcw args s (State.WarmedH.refl s))
  have hstatic : methM.isStatic = true := Cond.static_spec hnamed hmethM hstat
  obtain ⟨kP, hkP, -⟩ := className_of_methodNamed hnamed
  have hinitP : kP.init = .initialized := Cond.initialized_spec (findClass_of_methodNamed hnamed) hkP hini
  have hlen : As.length = methM.sig.parameters.length := by
    have h2 := hd.2.2
    rw [hsigM] at h2
    rw [hn]; exact (Option.some.inj h2).symm
  obtain ⟨vm₁, X₁, hstep₁⟩ := X.invokestatic hx ho hl hnamed hmethM hstatic hkP hinitP ⟨hd.1, hd.2.1⟩ (g := g) hg (argsL := As) (rest := rest) hlen hstack (by rw [hb]; exact hdg)
  obtain ⟨v, ⟨U', l2, c2, s2⟩, X', ⟨g', mk', t, L, e1, e2, hq, h1, hL, h2, h3⟩, hsteps⟩ := hK m meth c ⟨T.setVm vm₁, locs, cells, slots⟩ { g with stack := rest } (.invokestatic index) mk As.toArray X₁ hg (hsize.trans hml.symm) (by rw [hb]; exact hdg) hW8 (X₁.named hnamed) ⟨hf.1, hf.2, hp.2 (T.setVm vm₁) hT X₁.warmed⟩
  dsimp only [Pt.U, Pt.locs, Pt.cells, Pt.slots] at X' e1 e2 h1 h2 h3 hsteps hq
  subst h1; subst h2; subst h3
  exact ⟨v, (T.setVm vm₁).calling g' mk' As.toArray, t, U', L, hT, X', hL, e1, e2, hq, fun target h => hstep₁ _ fun acts => by rw [doInvoke_state]; exact hsteps.trans h⟩
end TwC
