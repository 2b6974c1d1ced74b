/-! total contracts: an answer of which something is known, a state of which something is known; the reference's cells, its invariant -/
section TtA
variable {p : Program} {l : Launch} {e : Env} {R : Room} {s : State} {m : MethodId} {args : Array Value} {below : List Frame} {meth : Method} {c : Code} {H : Heap} {locs : List Loc} {cells slots : Nat} {Q : State → Prop}
variable {pc : Nat} {ls : Array Slot} {rest st0 : List Value} {a : Array Value} {A : Nat → Prop} {mc ms : Nat} {D : va_G} {β S : Type} {vf : β → Option Value}
def vI (x : Int32) : Option Value := some (.int x)
def vJ (x : Int64) : Option Value := some (.long x)
def vR (x : Nat) : Option Value := some (.ref x)
def vN (_ : Unit) : Option Value := none
def rQ (vf : β → Option Value) (post : β → Prop) : Array Value → State → Outcome → State → Prop := fun _ st o t => ∃ r : β, o = .returned (vf r) ∧ post r ∧ t.heap = st.heap
theorem r_call {post : β → Prop} (hr : va_Run p l e R s m args below meth c H locs cells slots 0 0 (F0 m pc ls st0) rest (rQ vf post a) (fun _ => False)) (kk : ∀ r : β, post r → W p l e R s m args below meth c H locs cells slots Q (F0 m (pc + 3) ls ((vf r).toList ++ rest))) : W p l e R s m args below meth c H locs cells slots Q (F0 m pc ls st0) := by
  intro T hT X
  obtain ⟨r', st₀, t, T', L, h0, X', hL, e1, -, ⟨r, hv, hp, hh⟩, st⟩ := hr T hT X
  cases hv
  have hL0 : L = [] := List.eq_nil_iff_forall_not_mem.mpr fun q hq => hL q hq
  subst hL0
  rw [List.append_nil] at X'
  obtain ⟨t2, a1, b1⟩ := kk r hp T' (by rw [e1, hh, h0]) X'
  exact ⟨t2, st t2 a1, b1⟩
def tQ (D : va_G) (Wd : S → va_W) (A : Nat → Prop) (vf : β → Option Value) (post : β → S → Prop) : Array Value → State → Outcome → State → Prop := fun _ st o t => (∃ (r : β) (u : S), o = .returned (vf r) ∧ post r u ∧ va_P D cls_ (Wd u) t.heap ∧ va_D A (Wd u)) ∧ va_F A st t
theorem t_call {Wd : S → va_W} {post : β → S → Prop} {u0 : S} (hr : va_Run p l e R s m args below meth c H locs cells slots mc ms (F0 m pc ls st0) rest (tQ D Wd (va_A (Wd u0) H.size) vf post a) (va_A (Wd u0) H.size)) (hD : va_D A (Wd u0)) (hS : va_S A s.heap H locs) (hA : ∀ q : Nat, s.heap.size ≤ q → A q)
    (kk : ∀ (r : β) (u : S) (H1 : Heap) (locs1 : List Loc), post r u → va_P D cls_ (Wd u) H1 → va_D A (Wd u) → va_S A s.heap H1 locs1 → W p l e R s m args below meth c H1 locs1 (cells + mc) (slots + ms) Q (F0 m (pc + 3) ls ((vf r).toList ++ rest))) : W p l e R s m args below meth c H locs cells slots Q (F0 m pc ls st0) := by
  have hsub : ∀ q, va_A (Wd u0) H.size q → A q := fun q h => by
    rcases h with ⟨k, e, h⟩ | h
    · exact hD.2 k (q, e) h
    · exact hA q (Nat.le_trans hS.1 h)
  intro T hT X
  obtain ⟨r', st₀, t, T', L, h0, X', hL, e1, e2, ⟨⟨r, u, hv, hp, hP, hD1⟩, hz, hk⟩, st⟩ := hr T hT X
  cases hv
  rw [h0] at hz hk
  obtain ⟨t2, a1, b1⟩ := kk r u T'.heap (locs ++ L) hp (by rw [e1]; exact hP) (hD1.weaken (fun _ q _ h => hsub q.1 h))
    ⟨Nat.le_trans hS.1 (by rw [e1]; exact hz), fun q h1 h2 => by rw [e1, hk q (Nat.lt_of_lt_of_le h1 hS.1) (fun z => h2 (hsub q z))]; exact hS.2.1 q h1 h2, fun q hq => by
      rcases List.mem_append.mp hq with h | h
      · exact hS.2.2 q h
      · exact hsub _ (hL q h)⟩ T' rfl X'
  exact ⟨t2, st t2 a1, b1⟩
end TtA
/-! numbers -/
theorem l_m1 : (-1 : Int32).toInt = -1 := by decide
theorem l_0 : (0 : Int32).toInt = 0 := by decide
theorem l_1 : (1 : Int32).toInt = 1 := by decide
theorem l_2 : (2 : Int32).toInt = 2 := by decide
theorem l_3 : (3 : Int32).toInt = 3 := by decide
theorem l_4 : (4 : Int32).toInt = 4 := by decide
theorem l_6 : (6 : Int32).toInt = 6 := by decide
theorem l_7 : (7 : Int32).toInt = 7 := by decide
theorem l_8 : (8 : Int32).toInt = 8 := by decide
theorem l_9 : (9 : Int32).toInt = 9 := by decide
theorem l_10 : (10 : Int32).toInt = 10 := by decide
theorem l_12 : (12 : Int32).toInt = 12 := by decide
theorem l_24 : (24 : Int32).toInt = 24 := by decide
theorem l_30 : (30 : Int32).toInt = 30 := by decide
theorem l_40 : (40 : Int32).toInt = 40 := by decide
theorem l_60 : (60 : Int32).toInt = 60 := by decide
theorem l_99 : (99 : Int32).toInt = 99 := by decide
theorem l_100 : (100 : Int32).toInt = 100 := by decide
theorem l_1000 : (1000 : Int32).toInt = 1000 := by decide
theorem ti_lo (x : Int32) : -2147483648 ≤ x.toInt := by have := Int32.le_toInt x; omega
theorem ti_hi (x : Int32) : x.toInt < 2147483648 := by have := Int32.toInt_lt x; omega
theorem ti_lt {x y : Int32} (h : x < y) : x.toInt < y.toInt := Int32.lt_iff_toInt_lt.mp h
theorem ti_le {x y : Int32} (h : x ≤ y) : x.toInt ≤ y.toInt := Int32.le_iff_toInt_le.mp h
theorem ti_nlt {x y : Int32} (h : ¬ x < y) : y.toInt ≤ x.toInt := ti_le (Int32.not_lt.mp h)
theorem ti_nle {x y : Int32} (h : ¬ x ≤ y) : y.toInt < x.toInt := ti_lt (Int32.not_le.mp h)
theorem ti_eq {x y : Int32} (h : x = y) : x.toInt = y.toInt := congrArg _ h
theorem ti_ne {x y : Int32} (h : ¬ x = y) : ¬ x.toInt = y.toInt := fun q => h (Int32.toInt_inj.mp q)
theorem it_eq {x y : Int32} (h : x.toInt = y.toInt) : x = y := Int32.toInt_inj.mp h
theorem it_lt {x y : Int32} (h : x.toInt < y.toInt) : x < y := Int32.lt_iff_toInt_lt.mpr h
theorem it_le {x y : Int32} (h : x.toInt ≤ y.toInt) : x ≤ y := Int32.le_iff_toInt_le.mpr h
theorem bm_32 {z : Int} (h1 : -2147483648 ≤ z) (h2 : z < 2147483648) : z.bmod (2 ^ 32) = z := by
  apply Int.bmod_eq_of_le <;> omega
theorem ti_add {x y : Int32} (h1 : -2147483648 ≤ x.toInt + y.toInt) (h2 : x.toInt + y.toInt < 2147483648) : (x + y).toInt = x.toInt + y.toInt := by rw [Int32.toInt_add]; exact bm_32 h1 h2
theorem ti_sub {x y : Int32} (h1 : -2147483648 ≤ x.toInt - y.toInt) (h2 : x.toInt - y.toInt < 2147483648) : (x - y).toInt = x.toInt - y.toInt := by rw [Int32.toInt_sub]; exact bm_32 h1 h2
/-- what of a list of numbers is 0 or 1 -/
def oc (f : Nat → Int32) : Nat → Nat
  | 0 => 0
  | n + 1 => oc f n + (if f n = 0 ∨ f n = 1 then 1 else 0)
/-- the reference's invariant -/
def mR (T nw : Int) (ch st ln bf af sa fr en : Int32) : Prop := (0 ≤ ch.toInt ∧ ch.toInt ≤ 7) ∧ (0 ≤ st.toInt ∧ st.toInt ≤ T + 1000) ∧ (1 ≤ ln.toInt ∧ ln.toInt ≤ 60) ∧ (0 ≤ bf.toInt ∧ bf.toInt ≤ 9) ∧ (0 ≤ af.toInt ∧ af.toInt ≤ 9) ∧ (sa = 1 → fr.toInt ≤ nw ∧ nw < en.toInt ∧ st.toInt ≤ fr.toInt + 9 ∧ st.toInt + ln.toInt ≤ en.toInt ∧ en.toInt ≤ st.toInt + ln.toInt + 9)
def mI (T : Int) (N : Nat) (nw rq wt bk : Int32) (ch st ln bf af sa fr en : Nat → Int32) : Prop :=
  (0 ≤ T ∧ T ≤ 1000000) ∧ (0 ≤ nw.toInt ∧ nw.toInt ≤ T) ∧ (N ≤ 40 ∧ rq = nI N) ∧ (-1 ≤ wt.toInt ∧ wt.toInt ≤ 7) ∧ (0 ≤ bk.toInt ∧ bk.toInt ≤ 30) ∧ oc sa N ≤ 12 ∧ (∀ i : Nat, N ≤ i → sa i = 0) ∧ ∀ i : Nat, i < N → mR T nw.toInt (ch i) (st i) (ln i) (bf i) (af i) (sa i) (fr i) (en i)
def MI (T : Int) (N : Nat) (sc : Nat → Int32) (ia : Nat → Nat → Int32) : Prop := mI T N (sc 1) (sc 4) (sc 2) (sc 28) (ia 5) (ia 6) (ia 7) (ia 9) (ia 10) (ia 11) (ia 12) (ia 13)
/-- nothing changed but these -/
def same {α : Type} (l : List Nat) (f g : Nat → α) : Prop := ∀ j : Nat, j ∉ l → g j = f j
theorem same.rf {α : Type} {l : List Nat} {f : Nat → α} : same l f f := fun _ _ => rfl
theorem same.tr {α : Type} {l : List Nat} {f g h : Nat → α} (a : same l f g) (b : same l g h) : same l f h := fun j hj => (b j hj).trans (a j hj)
theorem same.up {α : Type} {l : List Nat} {f g : Nat → α} {k : Nat} {v : α} (a : same l f g) (hk : k ∈ l) : same l f (va_up g k v) := fun j hj => by
  have hne : j ≠ k := fun e => hj (e ▸ hk)
  show (if j = k then v else g j) = f j
  rw [if_neg hne]; exact a j hj
theorem same.wk {α : Type} {l l' : List Nat} {f g : Nat → α} (a : same l f g) (h : ∀ k ∈ l, k ∈ l') : same l' f g := fun j hj => a j (fun q => hj (h j q))
theorem MI.same {T : Int} {N : Nat} {sc sc' : Nat → Int32} {ia ia' : Nat → Nat → Int32} (h : MI T N sc ia) (hs : same [0, 21] sc sc') (hi : same [3, 8, 14, 15, 16, 17, 18, 19, 20, 22, 23, 24, 25, 26, 27, 29] ia ia') : MI T N sc' ia' := by
  show mI T N (sc' 1) (sc' 4) (sc' 2) (sc' 28) (ia' 5) (ia' 6) (ia' 7) (ia' 9) (ia' 10) (ia' 11) (ia' 12) (ia' 13)
  rw [hs 1 (by decide), hs 4 (by decide), hs 2 (by decide), hs 28 (by decide), hi 5 (by decide), hi 6 (by decide), hi 7 (by decide), hi 9 (by decide), hi 10 (by decide), hi 11 (by decide), hi 12 (by decide), hi 13 (by decide)]
  exact h
/-- the reference's cells: sc its numbers, ia its arrays, by the fields' numbers -/
abbrev MOW (g0 : Nat) (ad : Nat → Nat) (kI kZ : ClassId) (sc : Nat → Int32) (ia : Nat → Nat → Int32) : va_W := [(g0, .inr (5, [.int (sc 0), .int (sc 1), .int (sc 2), .ref (ad 3), .int (sc 4), .ref (ad 5), .ref (ad 6), .ref (ad 7), .ref (ad 8), .ref (ad 9), .ref (ad 10), .ref (ad 11), .ref (ad 12), .ref (ad 13), .ref (ad 14), .ref (ad 15), .ref (ad 16), .ref (ad 17), .ref (ad 18), .ref (ad 19), .ref (ad 20), .int (sc 21), .ref (ad 22), .ref (ad 23), .ref (ad 24), .ref (ad 25), .ref (ad 26), .ref (ad 27), .int (sc 28), .ref (ad 29)])), (ad 3, .inl (kI, 8, .inl (ia 3))), (ad 5, .inl (kI, 40, .inl (ia 5))), (ad 6, .inl (kI, 40, .inl (ia 6))), (ad 7, .inl (kI, 40, .inl (ia 7))), (ad 8, .inl (kI, 40, .inl (ia 8))), (ad 9, .inl (kI, 40, .inl (ia 9))), (ad 10, .inl (kI, 40, .inl (ia 10))), (ad 11, .inl (kI, 40, .inl (ia 11))), (ad 12, .inl (kI, 40, .inl (ia 12))), (ad 13, .inl (kI, 40, .inl (ia 13))), (ad 14, .inl (kI, 40, .inl (ia 14))), (ad 15, .inl (kZ, 40, .inl (ia 15))), (ad 16, .inl (kZ, 40, .inl (ia 16))), (ad 17, .inl (kZ, 4000, .inl (ia 17))), (ad 18, .inl (kI, 4000, .inl (ia 18))), (ad 19, .inl (kZ, 4000, .inl (ia 19))), (ad 20, .inl (kZ, 1000, .inl (ia 20))), (ad 22, .inl (kI, 60, .inl (ia 22))), (ad 23, .inl (kI, 60, .inl (ia 23))), (ad 24, .inl (kI, 60, .inl (ia 24))), (ad 25, .inl (kZ, 40, .inl (ia 25))), (ad 26, .inl (kI, 40, .inl (ia 26))), (ad 27, .inl (kI, 40, .inl (ia 27))), (ad 29, .inl (kI, 30, .inl (ia 29)))]
abbrev MOT (kI kZ : ClassId) : List (ClassId × FieldType) := [(kI, .int), (kZ, .boolean)]
abbrev mW (g0 : Nat) (ad : Nat → Nat) (kI kZ : ClassId) : (Nat → Int32) × (Nat → Nat → Int32) → va_W := fun u => MOW g0 ad kI kZ u.1 u.2
