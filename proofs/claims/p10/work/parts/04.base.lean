/-! my own forms of a method's start and end: read-only methods; methods that keep to their cells; what the throws ask of the start -/
section BsA
variable {p : Program} {l : Launch} {e : Env} {R : Room} {s : State} {m : MethodId} {args : Array Value} {below : List Frame} {meth : Method} {c : Code} {H : Heap} {locs : List Loc} {cells slots : Nat} {Q : State → Prop}
variable {pc : Nat} {ls : Array Slot} {rest st0 : List Value} {a : Array Value} {A0 A1 : Nat → Prop} {H0 : Heap} {mc ms : Nat} {free : Addr → Prop} {D : va_G} {tys : List (ClassId × FieldType)} {W0 : va_W} {av : List Value} {A : Nat → Prop} {Bd sz : Nat}
def rdP (D : va_G) (W0 : va_W) (tys : List (ClassId × FieldType)) (av : List Value) : Array Value → State → Prop := va_Pc av (fun U => va_P D cls_ W0 U.heap ∧ va_K D cls_ tys U)
theorem rdP_blind : FrameBlind (rdP D W0 tys av) := fun a U g mk q => by
  obtain ⟨q0, qP, qK⟩ := q
  exact ⟨q0, qP, va_K.moved (u := U) (U := U.calling g mk a) (Vm.Alike.refl U.vm) qK⟩
theorem rd_pre (hP : va_P D cls_ W0 H) (hK : va_K D cls_ tys s) : ∀ U : State, U.heap = H → s.WarmedH U.vm → rdP D W0 tys av av.toArray U := fun U hU hW => ⟨rfl, by rw [hU]; exact hP, va_K.moved hW.alike hK⟩
def rd_Q (r : Option Value) : Array Value → State → Outcome → State → Prop := fun _ st o t => o = .returned r ∧ t.heap = st.heap
theorem rd_call {r : Option Value} (hr : va_Run p l e R s m args below meth c H locs cells slots 0 0 (F0 m pc ls st0) rest (rd_Q r a) (fun _ => False)) (kk : W p l e R s m args below meth c H locs cells slots Q (F0 m (pc + 3) ls (r.toList ++ rest))) : W p l e R s m args below meth c H locs cells slots Q (F0 m pc ls st0) := by
  intro T hT X
  obtain ⟨r', st₀, t, T', L, h0, X', hL, e1, -, ⟨hv, hh⟩, st⟩ := hr T hT X
  cases hv
  have hL0 : L = [] := List.eq_nil_iff_forall_not_mem.mpr fun q hq => hL q hq
  subst hL0
  rw [List.append_nil] at X'
  obtain ⟨t2, a1, b1⟩ := kk T' (by rw [e1, hh, h0]) X'
  exact ⟨t2, st t2 a1, b1⟩
/-- a static of Throwable's that holds a reference, in a cell below Bd -/
def tw_Z (n d : String) (Bd : Nat) (U : State) (H : Heap) : Prop := ∃ (k0 : ClassId) (k : Class) (i : Nat) (f : Field) (a : Nat) (cell : Cell) (v : Value), U.vm.findClass Bundle.tN = some k0 ∧ U.fieldFound? Bundle.tN n d = some (k0, k, i, f) ∧ f.isStatic = true ∧ k.statics = some a ∧ H[a]? = some cell ∧ cell.vm.isStatics = true ∧ cell.cls = k0 ∧ f.slot < cell.slots.size ∧ k.staticTypes[f.slot]? = some f.type ∧ cell.slots[f.slot]? = some v ∧ v.isRef = true ∧ a < Bd
theorem tw_Z.at {n d : String} {U : State} (hvm : s.vm.Alike U.vm) (hq : ∀ q : Nat, q < Bd → U.heap[q]? = H[q]?) (h : tw_Z n d Bd s H) : tw_Z n d Bd U U.heap := by
  obtain ⟨k0, k, i, f, a, cell, v, h1, h2, h3, h4, h5, h6, h7, h8, h9, h10, h11, h12⟩ := h
  obtain ⟨k', hi', he⟩ := State.fieldFound?_setVm hvm h2
  exact ⟨k0, k', i, f, a, cell, v, by rw [hvm.findClass]; exact h1, hi', h3, by rw [he]; exact h4, by rw [hq a h12]; exact h5, h6, h7, h8, by rw [he]; exact h9, h10, h11, h12⟩
theorem tw_Z.lays {n d : String} (h : tw_Z n d Bd s s.heap) : (Cond.laysStatic Bundle.tN n d).before args s = true := by
  obtain ⟨k0, k, i, f, a, cell, v, h1, h2, h3, h4, h5, h6, h7, h8, h9, -⟩ := h
  show (Cond.laysStatic Bundle.tN n d).holds args s none s [] = true
  exact Cond.laysStatic_of h1 h2 h3 h4 h5 h6 h7 h8 h9
theorem tw_Z.ref {n d : String} (h : tw_Z n d Bd s s.heap) : (Cond.isRef (.static Bundle.tN n d)).before args s = true := by
  obtain ⟨k0, k, i, f, a, cell, v, h1, h2, h3, h4, h5, h6, h7, h8, h9, h10, h11, -⟩ := h
  have he : (Term.static Bundle.tN n d).eval args s none [] s = some v := by
    simp [Term.eval, State.fieldNamed?, h2, h3, h4, h5, h6, h10]
  simp only [Cond.before, Cond.holds, Cond.value, he]
  cases v <;> simp_all [Value.isRef]
theorem tw_Z.of {n d : String} (hl : (Cond.laysStatic Bundle.tN n d).before args s = true) (h : (Cond.isRef (.static Bundle.tN n d)).before args s = true) : tw_Z n d s.heap.size s s.heap := by
  obtain ⟨k0, k, i, f, a, cell, h1, h2, h3, h4, h5, h6, h7, h8, h9⟩ := Cond.laysStatic_spec hl
  have he : (Term.static Bundle.tN n d).eval args s none [] s = cell.slots[f.slot]? := by
    simp [Term.eval, State.fieldNamed?, h2, h3, h4, h5, h6]
  simp only [Cond.before, Cond.holds, Cond.value, he] at h
  cases hv : cell.slots[f.slot]? with
  | none => simp [hv] at h
  | some v =>
    refine ⟨k0, k, i, f, a, cell, v, h1, h2, h3, h4, h5, h6, h7, h8, h9, hv, ?_, (Array.getElem?_eq_some_iff.mp h5).1⟩
    rw [hv] at h
    cases v <;> simp_all [Value.isRef]
/-- an object of class a is none of class b -/
def tw_N (a b : String) (U : State) : Prop := ∃ c1 c2 : ClassId, U.vm.findClass a = some c1 ∧ U.vm.findClass b = some c2 ∧ U.vm.assignable c1 c2 = false
theorem tw_N.at {a b : String} {U : State} (hW : s.WarmedH U.vm) (h : tw_N a b s) : tw_N a b U := by
  obtain ⟨c1, c2, h1, h2, h3⟩ := h
  have hal := hW.alike
  exact ⟨c1, c2, by rw [hal.findClass]; exact h1, by rw [hal.findClass]; exact h2, by rw [hal.assignable]; exact h3⟩
def tw_S (k : Nat) (tx : String) (U : State) : Prop := ∃ q : Nat, vk_R "TwinTuners" k tx q U
abbrev iS_ (X : String) : MethodName := ⟨X, "<init>", "(Ljava/lang/String;)V"⟩
/-- what a method that makes or throws asks of the state beside the tables' steady words -/
def tw_V (Bd : Nat) (U : State) (H : Heap) : Prop :=
  (va_Nw (.declares (iS_ "java/lang/RuntimeException")) U ∧ va_Nw (.declares (iS_ "java/lang/Exception")) U ∧ va_Nw (.declares (iS_ "java/lang/Throwable")) U) ∧
  (va_Nw (.castable "java/lang/IllegalArgumentException" "java/lang/IllegalArgumentException") U ∧ va_Nw (.castable "java/lang/IndexOutOfBoundsException" "java/lang/IndexOutOfBoundsException") U ∧ va_Nw (.castable "java/lang/IllegalStateException" "java/lang/IllegalStateException") U ∧ tw_N "java/lang/IllegalStateException" "java/lang/IllegalArgumentException" U ∧ tw_N "java/lang/IllegalStateException" "java/lang/IndexOutOfBoundsException" U ∧ tw_N "java/lang/IllegalArgumentException" "java/lang/IndexOutOfBoundsException" U) ∧
  (va_Nw (.methodLinkNest "TwinTuners" 21 ⟨"TwinTuners$Plan", "<init>", "()V"⟩ "TwinTuners") U ∧ va_Nw (.methodLinkNest "TwinTuners" 35 ⟨"TwinTuners$Rewind", "<init>", "()V"⟩ "TwinTuners") U ∧ va_Nw (.methodLinkNest "TwinTuners$Disk" 33 ⟨"TwinTuners", "isWithin", "(III)Z"⟩ "TwinTuners") U) ∧ va_AO "TwinTuners$Request" U ∧
  (tw_S 63 "no such request can be made" U ∧ tw_S 202 "no such request" U ∧ tw_S 118 "no such channel" U ∧ tw_S 128 "not 1 .. 100 ticks" U ∧ tw_S 185 "the power can't come back then" U ∧ tw_S 74 "too many requests" U ∧ tw_S 88 "neither waiting nor running" U ∧ tw_S 204 "neither running nor finished" U ∧ tw_S 160 "not finished" U ∧ tw_S 169 "not second 0 .. 99" U ∧ tw_S 177 "no recording, or it has six bookmarks" U) ∧
  (tw_Z "UNASSIGNED_STACK" Bundle.steD Bd U H ∧ tw_Z "SUPPRESSED_SENTINEL" Bundle.listD Bd U H)
theorem tw_S.at {k : Nat} {tx : String} {U : State} (hW : s.WarmedH U.vm) (h : tw_S k tx s) : tw_S k tx U := by
  obtain ⟨q, h⟩ := h
  exact ⟨q, vk_R.warm hW h⟩
theorem tw_V.at {U : State} (hW : s.WarmedH U.vm) (hq : ∀ q : Nat, q < Bd → U.heap[q]? = H[q]?) (h : tw_V Bd s H) : tw_V Bd U U.heap := by
  obtain ⟨⟨a1, a2, a3⟩, ⟨b1, b2, b3, b4, b5, b6⟩, ⟨c1, c2, c3⟩, d1, ⟨f1, f2, f3, f4, f5, f6, f7, f8, f9, f10, f11⟩, g1, g2⟩ := h
  exact ⟨⟨va_Nw.warmD hW a1, va_Nw.warmD hW a2, va_Nw.warmD hW a3⟩, ⟨va_Nw.warmC hW b1, va_Nw.warmC hW b2, va_Nw.warmC hW b3, b4.at hW, b5.at hW, b6.at hW⟩, ⟨va_Nw.warmM hW c1, va_Nw.warmM hW c2, va_Nw.warmM hW c3⟩, va_AO.moved hW.alike d1, ⟨f1.at hW, f2.at hW, f3.at hW, f4.at hW, f5.at hW, f6.at hW, f7.at hW, f8.at hW, f9.at hW, f10.at hW, f11.at hW⟩, g1.at hW.alike hq, g2.at hW.alike hq⟩
theorem tw_V.calling {U : State} {g : JFrame} {mk : MethodId} {a : Array Value} (h : tw_V Bd U U.heap) : tw_V Bd (U.calling g mk a) (U.calling g mk a).heap :=
  tw_V.at (s := U) (H := U.heap) (State.WarmedH.refl U) (fun _ _ => rfl) h
/-- the start of a method that keeps to the cells W0 and makes new ones -/
def frP (D : va_G) (W0 : va_W) (tys : List (ClassId × FieldType)) (sz Bd : Nat) (av : List Value) : Array Value → State → Prop :=
  va_Pc av (fun U => (U.heap.size = sz ∧ Bd ≤ sz) ∧ va_P D cls_ W0 U.heap ∧ va_K D cls_ tys U ∧ va_D (fun q => Bd ≤ q) W0 ∧ tw_V Bd U U.heap)
theorem frP_blind : FrameBlind (frP D W0 tys sz Bd av) := fun a U g mk q => by
  obtain ⟨q0, q1, qP, qK, qD, qV⟩ := q
  exact ⟨q0, q1, qP, va_K.moved (u := U) (U := U.calling g mk a) (Vm.Alike.refl U.vm) qK, qD, qV.calling⟩
theorem fr_AB (hD : va_D (fun q => Bd ≤ q) W0) (hB : Bd ≤ sz) : ∀ q, va_A W0 sz q → Bd ≤ q := fun q h => by
  rcases h with ⟨k, e, h⟩ | h
  · exact hD.2 k (q, e) h
  · exact Nat.le_trans hB h
theorem fr_pre (hP : va_P D cls_ W0 H) (hK : va_K D cls_ tys s) (hD : va_D A W0) (hAB : ∀ q, A q → Bd ≤ q) (hBs : Bd ≤ s.heap.size) (hS : va_S A s.heap H locs) (hV : tw_V Bd s s.heap) : ∀ U : State, U.heap = H → s.WarmedH U.vm → frP D W0 tys H.size Bd av av.toArray U := fun U hU hW =>
  ⟨rfl, ⟨by rw [hU], Nat.le_trans hBs hS.1⟩, by rw [hU]; exact hP, va_K.moved hW.alike hK, hD.weaken (fun _ q _ h => hAB q.1 h), tw_V.at hW (fun q hq => by rw [hU]; exact hS.2.1 q (Nat.lt_of_lt_of_le hq hBs) (fun h => Nat.not_le.mpr hq (hAB q h))) hV⟩
def frQ (r : Option Value) (Bp : State → Prop) (A : Nat → Prop) : Array Value → State → Outcome → State → Prop := fun _ st o t => o = .returned r ∧ Bp t ∧ va_F A st t
theorem fr_call {r : Option Value} {Bp : State → Prop} (hr : va_Run p l e R s m args below meth c H locs cells slots mc ms (F0 m pc ls st0) rest (frQ r Bp A1 a) free) (hS : va_S A0 H0 H locs) (hA : ∀ q, q < H.size → A1 q → A0 q) (hf : ∀ q, free q → A0 q)
    (kk : ∀ (t : State) (H1 : Heap) (locs1 : List Loc), t.heap = H1 → s.vm.Alike t.vm → Bp t → H.size ≤ H1.size → (∀ q : Nat, q < H.size → ¬ A1 q → H1[q]? = H[q]?) → va_S A0 H0 H1 locs1 → W p l e R s m args below meth c H1 locs1 (cells + mc) (slots + ms) Q (F0 m (pc + 3) ls (r.toList ++ rest))) : W p l e R s m args below meth c H locs cells slots Q (F0 m pc ls st0) := by
  intro T hT X
  obtain ⟨r', st₀, t, T', L, h0, X', hL, e1, e2, ⟨hv, hb, hz, hk⟩, st⟩ := hr T hT X
  cases hv
  rw [h0] at hz hk
  obtain ⟨t2, a1, b1⟩ := kk t T'.heap (locs ++ L) e1.symm (by rw [← e2]; exact X'.warmed.alike) hb (by rw [e1]; exact hz) (fun q h1 h2 => by rw [e1]; exact hk q h1 h2)
    ⟨Nat.le_trans hS.1 (by rw [e1]; exact hz), fun q h1 h2 => by rw [e1, hk q (Nat.lt_of_lt_of_le h1 hS.1) (fun z => h2 (hA q (Nat.lt_of_lt_of_le h1 hS.1) z))]; exact hS.2.1 q h1 h2, fun q hq => by
      rcases List.mem_append.mp hq with h | h
      · exact hS.2.2 q h
      · exact hf _ (hL q h)⟩ T' rfl X'
  exact ⟨t2, st t2 a1, b1⟩
end BsA
