abbrev c_LW_state : ByteArray := method_5_code
abbrev y_LW_state : MethodName := ⟨"TwinTunersLaw", "state", "(LTwinTuners;I[J)I"⟩
def w_LW_state : List Cond := .codeWith y_LW_state c_LW_state 4 (some .int) [(0, 9, 12, 21)] :: tb_
abbrev c_LW_shortBy : ByteArray := method_13_code
abbrev y_LW_shortBy : MethodName := ⟨"TwinTunersLaw", "shortBy", "(LTwinTuners;I[J)I"⟩
def w_LW_shortBy : List Cond := .codeWith y_LW_shortBy c_LW_shortBy 4 (some .int) [(0, 9, 12, 21)] :: tb_
abbrev c_LW_planFrom : ByteArray := method_6_code
abbrev y_LW_planFrom : MethodName := ⟨"TwinTunersLaw", "planFrom", "(LTwinTuners;I[J)I"⟩
def w_LW_planFrom : List Cond := .codeWith y_LW_planFrom c_LW_planFrom 4 (some .int) [(0, 9, 12, 21)] :: tb_
abbrev c_LW_planTo : ByteArray := method_7_code
abbrev y_LW_planTo : MethodName := ⟨"TwinTunersLaw", "planTo", "(LTwinTuners;I[J)I"⟩
def w_LW_planTo : List Cond := .codeWith y_LW_planTo c_LW_planTo 4 (some .int) [(0, 9, 12, 21)] :: tb_
abbrev c_LW_word : ByteArray := method_11_code
abbrev y_LW_word : MethodName := ⟨"TwinTunersLaw", "word", "(LTwinTuners;II[J)I"⟩
def w_LW_word : List Cond := .codeWith y_LW_word c_LW_word 5 (some .int) [(0, 9, 12, 21)] :: tb_
abbrev c_LW_recorded : ByteArray := method_12_code
abbrev y_LW_recorded : MethodName := ⟨"TwinTunersLaw", "recorded", "(LTwinTuners;I[J)I"⟩
def w_LW_recorded : List Cond := .codeWith y_LW_recorded c_LW_recorded 4 (some .int) [(0, 9, 12, 21)] :: tb_
abbrev c_LW_bookmarkAt : ByteArray := method_18_code
abbrev y_LW_bookmarkAt : MethodName := ⟨"TwinTunersLaw", "bookmarkAt", "(LTwinTuners;II[J)I"⟩
def w_LW_bookmarkAt : List Cond := .codeWith y_LW_bookmarkAt c_LW_bookmarkAt 5 (some .int) [(0, 10, 13, 21)] :: tb_
set_option maxRecDepth 100000 in
theorem tb_451 : (.classLink "TwinTunersLaw" 21 "java/lang/IndexOutOfBoundsException" : Cond) ∈ tb_ := tb_w 451 rfl rfl
set_option maxRecDepth 100000 in
theorem tb_483 : (.codeWith ⟨"TwinTunersLaw", "state", "(LTwinTuners;I[J)I"⟩ method_5_code 4 (some .int) [(0, 9, 12, 21)] : Cond) ∈ tb_ := tb_w 483 rfl rfl
set_option maxRecDepth 100000 in
theorem tb_484 : (.methodLink "TwinTunersLaw" 23 ⟨"TwinTuners", "state", "(I)I"⟩ : Cond) ∈ tb_ := tb_w 484 rfl rfl
set_option maxRecDepth 100000 in
theorem tb_485 : (.instanceMethod ⟨"TwinTuners", "state", "(I)I"⟩ : Cond) ∈ tb_ := tb_w 485 rfl rfl
set_option maxRecDepth 100000 in
theorem tb_486 : (.selects "TwinTuners" ⟨"TwinTuners", "state", "(I)I"⟩ ⟨"TwinTuners", "state", "(I)I"⟩ : Cond) ∈ tb_ := tb_w 486 rfl rfl
set_option maxRecDepth 100000 in
theorem tb_490 : (.codeWith ⟨"TwinTunersLaw", "planFrom", "(LTwinTuners;I[J)I"⟩ method_6_code 4 (some .int) [(0, 9, 12, 21)] : Cond) ∈ tb_ := tb_w 490 rfl rfl
set_option maxRecDepth 100000 in
theorem tb_491 : (.methodLink "TwinTunersLaw" 27 ⟨"TwinTuners", "planFrom", "(I)I"⟩ : Cond) ∈ tb_ := tb_w 491 rfl rfl
set_option maxRecDepth 100000 in
theorem tb_492 : (.instanceMethod ⟨"TwinTuners", "planFrom", "(I)I"⟩ : Cond) ∈ tb_ := tb_w 492 rfl rfl
set_option maxRecDepth 100000 in
theorem tb_493 : (.selects "TwinTuners" ⟨"TwinTuners", "planFrom", "(I)I"⟩ ⟨"TwinTuners", "planFrom", "(I)I"⟩ : Cond) ∈ tb_ := tb_w 493 rfl rfl
set_option maxRecDepth 100000 in
theorem tb_498 : (.codeWith ⟨"TwinTunersLaw", "planTo", "(LTwinTuners;I[J)I"⟩ method_7_code 4 (some .int) [(0, 9, 12, 21)] : Cond) ∈ tb_ := tb_w 498 rfl rfl
set_option maxRecDepth 100000 in
theorem tb_499 : (.methodLink "TwinTunersLaw" 30 ⟨"TwinTuners", "planTo", "(I)I"⟩ : Cond) ∈ tb_ := tb_w 499 rfl rfl
set_option maxRecDepth 100000 in
theorem tb_500 : (.instanceMethod ⟨"TwinTuners", "planTo", "(I)I"⟩ : Cond) ∈ tb_ := tb_w 500 rfl rfl
set_option maxRecDepth 100000 in
theorem tb_501 : (.selects "TwinTuners" ⟨"TwinTuners", "planTo", "(I)I"⟩ ⟨"TwinTuners", "planTo", "(I)I"⟩ : Cond) ∈ tb_ := tb_w 501 rfl rfl
set_option maxRecDepth 100000 in
theorem tb_528 : (.codeWith ⟨"TwinTunersLaw", "word", "(LTwinTuners;II[J)I"⟩ method_11_code 5 (some .int) [(0, 9, 12, 21)] : Cond) ∈ tb_ := tb_w 528 rfl rfl
set_option maxRecDepth 100000 in
theorem tb_529 : (.methodLink "TwinTunersLaw" 43 ⟨"TwinTuners", "word", "(II)J"⟩ : Cond) ∈ tb_ := tb_w 529 rfl rfl
set_option maxRecDepth 100000 in
theorem tb_530 : (.instanceMethod ⟨"TwinTuners", "word", "(II)J"⟩ : Cond) ∈ tb_ := tb_w 530 rfl rfl
set_option maxRecDepth 100000 in
theorem tb_531 : (.selects "TwinTuners" ⟨"TwinTuners", "word", "(II)J"⟩ ⟨"TwinTuners", "word", "(II)J"⟩ : Cond) ∈ tb_ := tb_w 531 rfl rfl
set_option maxRecDepth 100000 in
theorem tb_542 : (.codeWith ⟨"TwinTunersLaw", "recorded", "(LTwinTuners;I[J)I"⟩ method_12_code 4 (some .int) [(0, 9, 12, 21)] : Cond) ∈ tb_ := tb_w 542 rfl rfl
set_option maxRecDepth 100000 in
theorem tb_543 : (.methodLink "TwinTunersLaw" 47 ⟨"TwinTuners", "recorded", "(I)I"⟩ : Cond) ∈ tb_ := tb_w 543 rfl rfl
set_option maxRecDepth 100000 in
theorem tb_544 : (.instanceMethod ⟨"TwinTuners", "recorded", "(I)I"⟩ : Cond) ∈ tb_ := tb_w 544 rfl rfl
set_option maxRecDepth 100000 in
theorem tb_545 : (.selects "TwinTuners" ⟨"TwinTuners", "recorded", "(I)I"⟩ ⟨"TwinTuners", "recorded", "(I)I"⟩ : Cond) ∈ tb_ := tb_w 545 rfl rfl
set_option maxRecDepth 100000 in
theorem tb_554 : (.codeWith ⟨"TwinTunersLaw", "shortBy", "(LTwinTuners;I[J)I"⟩ method_13_code 4 (some .int) [(0, 9, 12, 21)] : Cond) ∈ tb_ := tb_w 554 rfl rfl
set_option maxRecDepth 100000 in
theorem tb_555 : (.methodLink "TwinTunersLaw" 50 ⟨"TwinTuners", "shortBy", "(I)I"⟩ : Cond) ∈ tb_ := tb_w 555 rfl rfl
set_option maxRecDepth 100000 in
theorem tb_556 : (.instanceMethod ⟨"TwinTuners", "shortBy", "(I)I"⟩ : Cond) ∈ tb_ := tb_w 556 rfl rfl
set_option maxRecDepth 100000 in
theorem tb_557 : (.selects "TwinTuners" ⟨"TwinTuners", "shortBy", "(I)I"⟩ ⟨"TwinTuners", "shortBy", "(I)I"⟩ : Cond) ∈ tb_ := tb_w 557 rfl rfl
set_option maxRecDepth 100000 in
theorem tb_605 : (.codeWith ⟨"TwinTunersLaw", "bookmarkAt", "(LTwinTuners;II[J)I"⟩ method_18_code 5 (some .int) [(0, 10, 13, 21)] : Cond) ∈ tb_ := tb_w 605 rfl rfl
set_option maxRecDepth 100000 in
theorem tb_606 : (.methodLink "TwinTunersLaw" 67 ⟨"TwinTuners", "bookmarkAt", "(II)I"⟩ : Cond) ∈ tb_ := tb_w 606 rfl rfl
set_option maxRecDepth 100000 in
theorem tb_607 : (.instanceMethod ⟨"TwinTuners", "bookmarkAt", "(II)I"⟩ : Cond) ∈ tb_ := tb_w 607 rfl rfl
set_option maxRecDepth 100000 in
theorem tb_608 : (.selects "TwinTuners" ⟨"TwinTuners", "bookmarkAt", "(II)I"⟩ ⟨"TwinTuners", "bookmarkAt", "(II)I"⟩ : Cond) ∈ tb_ := tb_w 608 rfl rfl
theorem d_LW_bookmarkAt_0 : decode c_LW_bookmarkAt 0 = .ok (.aload_n 3, 1) := by decide +kernel
theorem d_LW_bookmarkAt_1 : decode c_LW_bookmarkAt 1 = .ok (.iconst 0, 1) := by decide +kernel
theorem d_LW_bookmarkAt_2 : decode c_LW_bookmarkAt 2 = .ok (.aload_n 0, 1) := by decide +kernel
theorem d_LW_bookmarkAt_3 : decode c_LW_bookmarkAt 3 = .ok (.iload_n 1, 1) := by decide +kernel
theorem d_LW_bookmarkAt_4 : decode c_LW_bookmarkAt 4 = .ok (.iload_n 2, 1) := by decide +kernel
theorem d_LW_bookmarkAt_5 : decode c_LW_bookmarkAt 5 = .ok (.invokevirtual 67, 3) := by decide +kernel
theorem d_LW_bookmarkAt_8 : decode c_LW_bookmarkAt 8 = .ok (.i2l, 1) := by decide +kernel
theorem d_LW_bookmarkAt_9 : decode c_LW_bookmarkAt 9 = .ok (.lastore, 1) := by decide +kernel
theorem d_LW_bookmarkAt_10 : decode c_LW_bookmarkAt 10 = .ok (.goto 7, 3) := by decide +kernel
theorem d_LW_bookmarkAt_13 : decode c_LW_bookmarkAt 13 = .ok (.astore 4, 2) := by decide +kernel
theorem d_LW_bookmarkAt_15 : decode c_LW_bookmarkAt 15 = .ok (.iconst 1, 1) := by decide +kernel
theorem d_LW_bookmarkAt_16 : decode c_LW_bookmarkAt 16 = .ok (.ireturn, 1) := by decide +kernel
theorem d_LW_bookmarkAt_17 : decode c_LW_bookmarkAt 17 = .ok (.iconst 0, 1) := by decide +kernel
theorem d_LW_bookmarkAt_18 : decode c_LW_bookmarkAt 18 = .ok (.ireturn, 1) := by decide +kernel
theorem d_LW_planFrom_0 : decode c_LW_planFrom 0 = .ok (.aload_n 2, 1) := by decide +kernel
theorem d_LW_planFrom_1 : decode c_LW_planFrom 1 = .ok (.iconst 0, 1) := by decide +kernel
theorem d_LW_planFrom_2 : decode c_LW_planFrom 2 = .ok (.aload_n 0, 1) := by decide +kernel
theorem d_LW_planFrom_3 : decode c_LW_planFrom 3 = .ok (.iload_n 1, 1) := by decide +kernel
theorem d_LW_planFrom_4 : decode c_LW_planFrom 4 = .ok (.invokevirtual 27, 3) := by decide +kernel
theorem d_LW_planFrom_7 : decode c_LW_planFrom 7 = .ok (.i2l, 1) := by decide +kernel
theorem d_LW_planFrom_8 : decode c_LW_planFrom 8 = .ok (.lastore, 1) := by decide +kernel
theorem d_LW_planFrom_9 : decode c_LW_planFrom 9 = .ok (.goto 6, 3) := by decide +kernel
theorem d_LW_planFrom_12 : decode c_LW_planFrom 12 = .ok (.astore_n 3, 1) := by decide +kernel
theorem d_LW_planFrom_13 : decode c_LW_planFrom 13 = .ok (.iconst 1, 1) := by decide +kernel
theorem d_LW_planFrom_14 : decode c_LW_planFrom 14 = .ok (.ireturn, 1) := by decide +kernel
theorem d_LW_planFrom_15 : decode c_LW_planFrom 15 = .ok (.iconst 0, 1) := by decide +kernel
theorem d_LW_planFrom_16 : decode c_LW_planFrom 16 = .ok (.ireturn, 1) := by decide +kernel
theorem d_LW_planTo_0 : decode c_LW_planTo 0 = .ok (.aload_n 2, 1) := by decide +kernel
theorem d_LW_planTo_1 : decode c_LW_planTo 1 = .ok (.iconst 0, 1) := by decide +kernel
theorem d_LW_planTo_2 : decode c_LW_planTo 2 = .ok (.aload_n 0, 1) := by decide +kernel
theorem d_LW_planTo_3 : decode c_LW_planTo 3 = .ok (.iload_n 1, 1) := by decide +kernel
theorem d_LW_planTo_4 : decode c_LW_planTo 4 = .ok (.invokevirtual 30, 3) := by decide +kernel
theorem d_LW_planTo_7 : decode c_LW_planTo 7 = .ok (.i2l, 1) := by decide +kernel
theorem d_LW_planTo_8 : decode c_LW_planTo 8 = .ok (.lastore, 1) := by decide +kernel
theorem d_LW_planTo_9 : decode c_LW_planTo 9 = .ok (.goto 6, 3) := by decide +kernel
theorem d_LW_planTo_12 : decode c_LW_planTo 12 = .ok (.astore_n 3, 1) := by decide +kernel
theorem d_LW_planTo_13 : decode c_LW_planTo 13 = .ok (.iconst 1, 1) := by decide +kernel
theorem d_LW_planTo_14 : decode c_LW_planTo 14 = .ok (.ireturn, 1) := by decide +kernel
theorem d_LW_planTo_15 : decode c_LW_planTo 15 = .ok (.iconst 0, 1) := by decide +kernel
theorem d_LW_planTo_16 : decode c_LW_planTo 16 = .ok (.ireturn, 1) := by decide +kernel
theorem d_LW_recorded_0 : decode c_LW_recorded 0 = .ok (.aload_n 2, 1) := by decide +kernel
theorem d_LW_recorded_1 : decode c_LW_recorded 1 = .ok (.iconst 0, 1) := by decide +kernel
theorem d_LW_recorded_2 : decode c_LW_recorded 2 = .ok (.aload_n 0, 1) := by decide +kernel
theorem d_LW_recorded_3 : decode c_LW_recorded 3 = .ok (.iload_n 1, 1) := by decide +kernel
theorem d_LW_recorded_4 : decode c_LW_recorded 4 = .ok (.invokevirtual 47, 3) := by decide +kernel
theorem d_LW_recorded_7 : decode c_LW_recorded 7 = .ok (.i2l, 1) := by decide +kernel
theorem d_LW_recorded_8 : decode c_LW_recorded 8 = .ok (.lastore, 1) := by decide +kernel
theorem d_LW_recorded_9 : decode c_LW_recorded 9 = .ok (.goto 6, 3) := by decide +kernel
theorem d_LW_recorded_12 : decode c_LW_recorded 12 = .ok (.astore_n 3, 1) := by decide +kernel
theorem d_LW_recorded_13 : decode c_LW_recorded 13 = .ok (.iconst 1, 1) := by decide +kernel
theorem d_LW_recorded_14 : decode c_LW_recorded 14 = .ok (.ireturn, 1) := by decide +kernel
theorem d_LW_recorded_15 : decode c_LW_recorded 15 = .ok (.iconst 0, 1) := by decide +kernel
theorem d_LW_recorded_16 : decode c_LW_recorded 16 = .ok (.ireturn, 1) := by decide +kernel
theorem d_LW_shortBy_0 : decode c_LW_shortBy 0 = .ok (.aload_n 2, 1) := by decide +kernel
theorem d_LW_shortBy_1 : decode c_LW_shortBy 1 = .ok (.iconst 0, 1) := by decide +kernel
theorem d_LW_shortBy_2 : decode c_LW_shortBy 2 = .ok (.aload_n 0, 1) := by decide +kernel
theorem d_LW_shortBy_3 : decode c_LW_shortBy 3 = .ok (.iload_n 1, 1) := by decide +kernel
theorem d_LW_shortBy_4 : decode c_LW_shortBy 4 = .ok (.invokevirtual 50, 3) := by decide +kernel
theorem d_LW_shortBy_7 : decode c_LW_shortBy 7 = .ok (.i2l, 1) := by decide +kernel
theorem d_LW_shortBy_8 : decode c_LW_shortBy 8 = .ok (.lastore, 1) := by decide +kernel
theorem d_LW_shortBy_9 : decode c_LW_shortBy 9 = .ok (.goto 6, 3) := by decide +kernel
theorem d_LW_shortBy_12 : decode c_LW_shortBy 12 = .ok (.astore_n 3, 1) := by decide +kernel
theorem d_LW_shortBy_13 : decode c_LW_shortBy 13 = .ok (.iconst 1, 1) := by decide +kernel
theorem d_LW_shortBy_14 : decode c_LW_shortBy 14 = .ok (.ireturn, 1) := by decide +kernel
theorem d_LW_shortBy_15 : decode c_LW_shortBy 15 = .ok (.iconst 0, 1) := by decide +kernel
theorem d_LW_shortBy_16 : decode c_LW_shortBy 16 = .ok (.ireturn, 1) := by decide +kernel
theorem d_LW_state_0 : decode c_LW_state 0 = .ok (.aload_n 2, 1) := by decide +kernel
theorem d_LW_state_1 : decode c_LW_state 1 = .ok (.iconst 0, 1) := by decide +kernel
theorem d_LW_state_2 : decode c_LW_state 2 = .ok (.aload_n 0, 1) := by decide +kernel
theorem d_LW_state_3 : decode c_LW_state 3 = .ok (.iload_n 1, 1) := by decide +kernel
theorem d_LW_state_4 : decode c_LW_state 4 = .ok (.invokevirtual 23, 3) := by decide +kernel
theorem d_LW_state_7 : decode c_LW_state 7 = .ok (.i2l, 1) := by decide +kernel
theorem d_LW_state_8 : decode c_LW_state 8 = .ok (.lastore, 1) := by decide +kernel
theorem d_LW_state_9 : decode c_LW_state 9 = .ok (.goto 6, 3) := by decide +kernel
theorem d_LW_state_12 : decode c_LW_state 12 = .ok (.astore_n 3, 1) := by decide +kernel
theorem d_LW_state_13 : decode c_LW_state 13 = .ok (.iconst 1, 1) := by decide +kernel
theorem d_LW_state_14 : decode c_LW_state 14 = .ok (.ireturn, 1) := by decide +kernel
theorem d_LW_state_15 : decode c_LW_state 15 = .ok (.iconst 0, 1) := by decide +kernel
theorem d_LW_state_16 : decode c_LW_state 16 = .ok (.ireturn, 1) := by decide +kernel
theorem d_LW_word_0 : decode c_LW_word 0 = .ok (.aload_n 3, 1) := by decide +kernel
theorem d_LW_word_1 : decode c_LW_word 1 = .ok (.iconst 0, 1) := by decide +kernel
theorem d_LW_word_2 : decode c_LW_word 2 = .ok (.aload_n 0, 1) := by decide +kernel
theorem d_LW_word_3 : decode c_LW_word 3 = .ok (.iload_n 1, 1) := by decide +kernel
theorem d_LW_word_4 : decode c_LW_word 4 = .ok (.iload_n 2, 1) := by decide +kernel
theorem d_LW_word_5 : decode c_LW_word 5 = .ok (.invokevirtual 43, 3) := by decide +kernel
theorem d_LW_word_8 : decode c_LW_word 8 = .ok (.lastore, 1) := by decide +kernel
theorem d_LW_word_9 : decode c_LW_word 9 = .ok (.goto 7, 3) := by decide +kernel
theorem d_LW_word_12 : decode c_LW_word 12 = .ok (.astore 4, 2) := by decide +kernel
theorem d_LW_word_14 : decode c_LW_word 14 = .ok (.iconst 1, 1) := by decide +kernel
theorem d_LW_word_15 : decode c_LW_word 15 = .ok (.ireturn, 1) := by decide +kernel
theorem d_LW_word_16 : decode c_LW_word 16 = .ok (.iconst 0, 1) := by decide +kernel
theorem d_LW_word_17 : decode c_LW_word 17 = .ok (.ireturn, 1) := by decide +kernel
abbrev U7 : Type := U6 × (Nat → Int64)
abbrev oW (ou : Nat) (kJ : ClassId) (g : Nat → Int64) : va_W := [(ou, .inl (kJ, 1, .inr (.inl g)))]
abbrev wW (cd : Nat → Nat) (kI kQ kJ : ClassId) (ou : Nat) : U7 → va_W := fun u => oW ou kJ u.2 ++ cWL cd kI kQ u.1
abbrev CTJ (kI kQ kJ : ClassId) : List (ClassId × FieldType) := [(kI, .int), (kQ, .object "TwinTuners$Request"), (kJ, .long)]
section TcF
variable {p : Program} {l : Launch} {e : Env} {R : Room} {s : State} {m : MethodId} {args : Array Value} {below : List Frame} {meth : Method} {c : Code} {H : Heap} {locs : List Loc} {cells slots : Nat} {Q : State → Prop}
variable {pc : Nat} {ls : Array Slot} {rest st0 : List Value} {a : Array Value} {A : Nat → Prop} {mc ms : Nat} {D : va_G} {β S : Type} {vf : β → Option Value}
theorem t_callF {E : va_W} {Wd : S → va_W} {post : β → S → Prop} {u0 : S} {w0 : va_W} (hw : w0 = Wd u0) (hr : va_Run p l e R s m args below meth c H locs cells slots mc ms (F0 m pc ls st0) rest (tQ D Wd (va_A w0 H.size) vf post a) (va_A w0 H.size)) (hP : va_P D cls_ (E ++ w0) H) (hD : va_D A (E ++ w0)) (hS : va_S A s.heap H locs) (hA : ∀ q : Nat, s.heap.size ≤ q → A q)
    (kk : ∀ (r : β) (u : S) (H1 : Heap) (locs1 : List Loc), post r u → va_P D cls_ (E ++ Wd u) H1 → va_D A (E ++ Wd u) → va_S A s.heap H1 locs1 → W p l e R s m args below meth c H1 locs1 (cells + mc) (slots + ms) Q (F0 m (pc + 3) ls ((vf r).toList ++ rest))) : W p l e R s m args below meth c H locs cells slots Q (F0 m pc ls st0) := by
  have hsub : ∀ q, va_A w0 H.size q → A q := fun q h => by
    rcases h with ⟨k, e, h⟩ | h
    · exact (ap_D hD).2 k (q, e) h
    · exact hA q (Nat.le_trans hS.1 h)
  intro T hT X
  obtain ⟨r', st₀, t, T', L, h0, X', hL, e1, e2, ⟨⟨r, u, hv, hp, hP1, hD1⟩, hz, hk⟩, st⟩ := hr T hT X
  cases hv
  rw [h0] at hz hk
  obtain ⟨hP2, hD2⟩ := fr_app hP hD (H1 := T'.heap) (fun q h1 h2 => by rw [e1]; exact hk q h1 h2) hsub (by rw [e1]; exact hP1) hD1
  obtain ⟨t2, a1, b1⟩ := kk r u T'.heap (locs ++ L) hp hP2 hD2
    ⟨Nat.le_trans hS.1 (by rw [e1]; exact hz), fun q h1 h2 => by rw [e1, hk q (Nat.lt_of_lt_of_le h1 hS.1) (fun z => h2 (hsub q z))]; exact hS.2.1 q h1 h2, fun q hq => by
      rcases List.mem_append.mp hq with h | h
      · exact hS.2.2 q h
      · exact hsub _ (hL q h)⟩ T' rfl X'
  exact ⟨t2, st t2 a1, b1⟩
end TcF
theorem tw_table {p : Program} {l : Launch} {y : MethodName} {S : Spec} {cc bytes : ByteArray} {maxL maxL' : Nat} {ret ret' : Option FieldType} {e : Env} {s s₁ : State} {m : MethodId} {args : Array Value} {below : List Frame} {meth : Method} {c : Code} {hh : List (Nat × Nat × Nat × Nat)}
    (B : BodyLoose p l y S cc maxL ret e s m args below meth c s₁) (h : (Cond.codeWith y bytes maxL' ret' hh).before args s = true) : c.exceptionTable.toList = hh.map fun q => ⟨q.1, q.2.1, q.2.2.1, q.2.2.2⟩ := by
  obtain ⟨m9, meth9, c9, hn9, h1, h2, -, -, h6, -⟩ := Cond.codeWith_spec h
  cases Option.some.inj (hn9.symm.trans B.named)
  cases Option.some.inj (h1.symm.trans B.method)
  cases Option.some.inj (h2.symm.trans (Stand.of_body B).code)
  rw [← h6, List.map_map]
  exact (List.map_id _).symm.trans (List.map_congr_left fun q _ => rfl)
set_option maxHeartbeats 8000000 in
set_option maxRecDepth 100000 in
theorem w_LW_state_c (l : Launch) (dC : Nat → ClassId) (dI : Nat → Nat → Nat) (cd : Nat → Nat) (kI kQ : ClassId) (L : List Nat) (isA : Nat → Bool) (bk : Nat → Nat) (sc : Nat → Int32) (ia : Nat → Nat → Int32) (qa : Nat → Nat → Option Nat) (rf ba : Nat → Nat → Int32) (kJ : ClassId) (ou : Nat) (g : Nat → Int64) (sz Bd : Nat) (hl9 : l.stackTraces = false) (N : Nat) (hC : CI N L isA bk sc qa rf) (x : Int32) : Met l y_LW_state w_LW_state ({ frames := 8, cells := 1, slots := 6, locals := 132 }) (frP (dC, dI) (oW ou kJ g ++ CW cd kI kQ L isA bk sc ia qa rf ba) (CTJ kI kQ kJ) sz Bd [.ref (cd 0), .int x, .ref ou]) (tQ (dC, dI) (wW cd kI kQ kJ ou) (va_A (oW ou kJ g ++ CW cd kI kQ L isA bk sc ia qa rf ba) sz) vI (fun r u => same [] sc u.1.2.1 ∧ (∃ Nz, CI Nz u.1.1.1 u.1.1.2.1 u.1.1.2.2 u.1.2.1 u.1.2.2.2.1 u.1.2.2.2.2.1))) 1 6 (va_A (oW ou kJ g ++ CW cd kI kQ L isA bk sc ia qa rf ba) sz) := by
  refine va_MetW (cc := c_LW_state) (maxL := 4) (ret := (some .int)) (hh := [(0, 9, 12, 21)]) (by decide) rfl ?_
  intro p e s m args below meth c s₁ B hml hv
  obtain ⟨rfl, ⟨hsz, hBs⟩, hP, hK, hD0, hV⟩ := hv
  have hx := B.exec
  have hb := B.bytes
  have hr := B.returns
  have ht : ∀ w ∈ tb_, w.before _ s = true := fun w h => atoms_spec (ws := w_LW_state) B.pre w (List.mem_cons_of_mem _ h)
  have hown : s.vm.findClass R_LW = some m.cls := findClass_of_methodNamed B.named
  have hlocks := B.notSynchronized
  subst hsz
  have hD := hD0.self (sz := s.heap.size)
  have hAB : ∀ q, va_A (oW ou kJ g ++ CW cd kI kQ L isA bk sc ia qa rf ba) s.heap.size q → Bd ≤ q := fr_AB hD0 hBs
  generalize hAe : va_A (oW ou kJ g ++ CW cd kI kQ L isA bk sc ia qa rf ba) s.heap.size = A at hD hAB ⊢
  have hA : ∀ q : Nat, s.heap.size ≤ q → A q := fun q h => by rw [← hAe]; exact Or.inr h
  have hS : va_S A s.heap s.heap [] := va_S.rf
  have hP : va_P (dC, dI) cls_ (oW ou kJ g ++ CW cd kI kQ L isA bk sc ia qa rf ba) s.heap := hP
  have hl := lv_entry ([.ref (cd 0), .int x, .ref ou]) (n := 4) (Nat.le_of_ble_eq_true rfl)
  rw [lg_entry_eq]
  generalize (lg_sl ([.ref (cd 0), .int x, .ref ou]) ++ List.replicate (4 - (lg_sl ([.ref (cd 0), .int x, .ref ou])).length) Slot.unset).toArray = ls at hl ⊢
  have hl : lv_has ls 4 [(0, .ref (cd 0)), (1, .int x), (2, .ref ou)] := hl
  have hN := hC.1.1
  refine lv_aload_n hx hb d_LW_state_0 rfl (lv_at hl 2 rfl) ?_
  refine lv_iconst (v := 0) hx hb d_LW_state_1 (by decide) ?_
  refine lv_aload_n hx hb d_LW_state_2 rfl (lv_at hl 0 rfl) ?_
  refine lv_iload_n hx hb d_LW_state_3 rfl (lv_at hl 1 rfl) ?_
  rcases Classical.em (∃ j, j < N ∧ x = nI j) with ⟨j, hj, rfl⟩ | hno
  · obtain ⟨a, ea, ha, hn⟩ := hC.2.2.2.2.2.1 j hj
    have hK2 : va_K (dC, dI) cls_ (CT kI kQ) s := hK.sub (tys' := CT kI kQ) [0, 1] rfl
    refine r_call (va_runV (C := R_TT) (As := [.int (nI j)]) (rest := [.int 0, .ref ou]) ⟨hx, hb, hml, hown, ht⟩ (k_TT_state_ok l dC dI cd kI kQ L isA bk sc ia qa rf ba N hC j hj a ea ha hn) (cwV 1 ht (gV tb_484 tb_485 tb_486 tb_1 tb_487) rfl rfl rfl (by decide +kernel) ⟨Nat.le_of_ble_eq_true rfl, Nat.le_of_ble_eq_true rfl⟩) ⟨rdP_blind, va_recv (q := (R_TT, F_TT, 8)) hK hP rfl (show (oW ou kJ g ++ CW cd kI kQ L isA bk sc ia qa rf ba : va_W)[1]? = some _ from rfl), rd_pre (ap_P hP) hK2⟩ rfl rfl hl.1 rfl (lv_room (Nat.le_of_ble_eq_true rfl)) d_LW_state_4 ⟨Nat.le_of_ble_eq_true rfl, Nat.le_of_ble_eq_true rfl⟩) (fun r1 hu => ?_)
    clear hu
    refine W.eq (g2 := F0 m 7 ls [.int r1, .int 0, .ref ou]) rfl ?_
    refine lv_i2l hx hb d_LW_state_7 rfl ?_
    refine va_last hx hb hK hP hD hS 0 2 rfl rfl (show vp_in (nI 0) 1 from vp_in_nI (by decide) (by decide)) d_LW_state_8 (fun H locs hP hD hS => ?_)
    have hP : va_P (dC, dI) cls_ (oW ou kJ (vp_updL g (0 : Int32).toNatClampNeg r1.toInt64) ++ CW cd kI kQ L isA bk sc ia qa rf ba) H := hP
    have hD : va_D A (oW ou kJ (vp_updL g (0 : Int32).toNatClampNeg r1.toInt64) ++ CW cd kI kQ L isA bk sc ia qa rf ba) := hD
    obtain ⟨g2, eg2⟩ : ∃ q9_, q9_ = vp_updL g (0 : Int32).toNatClampNeg r1.toInt64 := ⟨_, rfl⟩
    rw [← eg2] at hP hD
    refine lv_goto (tgt := 15) hx hb d_LW_state_9 (by decide) ?_
    refine lv_iconst (v := 0) hx hb d_LW_state_15 (by decide) ?_
    refine W.widen (k := 1) (n := 6) (Nat.le_of_ble_eq_true rfl) (Nat.le_of_ble_eq_true rfl) ?_
    exact W.iret (v := 0) hx hb hr (fun t ht9 hW => ⟨⟨0, (((L, isA, bk), (sc, ia, qa, rf, ba)), g2), rfl, ⟨same.rf, ⟨N, hC⟩⟩, by rw [ht9]; exact hP, hD⟩, hS.F ht9⟩) hS.2.2 d_LW_state_16
  · have hK2 : va_K (dC, dI) cls_ (CT kI kQ) s := hK.sub (tys' := CT kI kQ) [0, 1] rfl
    refine tw_runV (C := R_TT) (As := [.int x]) (rest := [.int 0, .ref ou]) ⟨hx, hb, hml, hown, ht⟩ (k_TT_state_th l dC dI cd kI kQ L isA bk sc ia qa rf ba s.heap.size Bd hl9 N hC x (fun j h9 e9 => hno ⟨j, h9, e9⟩)) (cwV 1 ht (gV tb_484 tb_485 tb_486 tb_1 tb_487) rfl rfl rfl (by decide +kernel) ⟨Nat.le_of_ble_eq_true rfl, Nat.le_of_ble_eq_true rfl⟩) ⟨frP_blind, va_recv (q := (R_TT, F_TT, 8)) hK hP rfl (show (oW ou kJ g ++ CW cd kI kQ L isA bk sc ia qa rf ba : va_W)[1]? = some _ from rfl), fr_pre (ap_P hP) hK2 (ap_D hD) hAB hBs hS hV⟩ rfl hl.1 rfl (Nat.le_of_ble_eq_true rfl) d_LW_state_4 ⟨Nat.le_of_ble_eq_true rfl, Nat.le_of_ble_eq_true rfl⟩ (fun xa cellx H1 hx1 hx2 hx3 hx4 hx5 hx6 => ?_)
    refine tw_catch hown ⟨0, 9, 12, 21⟩ [] (tw_table B (atoms_spec (ws := w_LW_state) B.pre _ List.mem_cons_self)) (by decide) (by decide) (ht _ tb_451)  (va_Nw.use rfl hV.2.1.2.1) hx2 hx3 hx4 ?_
    have hP : va_P (dC, dI) cls_ (oW ou kJ g ++ CW cd kI kQ L isA bk sc ia qa rf ba) H1 := hP.kept (fun k q hq => hx6 q.1 ((hP k q hq).lt))
    have hS : va_S A s.heap H1 _ := ⟨Nat.le_trans hS.1 hx5, fun q h1 h2 => (hx6 q (Nat.lt_of_lt_of_le h1 hS.1)).trans (hS.2.1 q h1 h2), hS.2.2⟩
    generalize H1 = H at hP hS ⊢
    refine W.cs (cells' := 1) (slots' := 6) rfl rfl ?_
    refine lv_astore_n hx hb d_LW_state_12 rfl hl (by decide) rfl (fun ls hl => ?_)
    have hl : lv_has ls 4 [(3, .ref xa), (0, .ref (cd 0)), (1, .int x), (2, .ref ou)] := hl
    refine lv_iconst (v := 1) hx hb d_LW_state_13 (by decide) ?_
    exact W.iret (v := 1) hx hb hr (fun t ht9 hW => ⟨⟨1, (((L, isA, bk), (sc, ia, qa, rf, ba)), g), rfl, ⟨same.rf, ⟨N, hC⟩⟩, by rw [ht9]; exact hP, hD⟩, hS.F ht9⟩) hS.2.2 d_LW_state_14
set_option maxHeartbeats 8000000 in
set_option maxRecDepth 100000 in
theorem w_LW_shortBy_c (l : Launch) (dC : Nat → ClassId) (dI : Nat → Nat → Nat) (cd : Nat → Nat) (kI kQ : ClassId) (L : List Nat) (isA : Nat → Bool) (bk : Nat → Nat) (sc : Nat → Int32) (ia : Nat → Nat → Int32) (qa : Nat → Nat → Option Nat) (rf ba : Nat → Nat → Int32) (kJ : ClassId) (ou : Nat) (g : Nat → Int64) (sz Bd : Nat) (hl9 : l.stackTraces = false) (N : Nat) (hC : CI N L isA bk sc qa rf) (x : Int32) : Met l y_LW_shortBy w_LW_shortBy ({ frames := 8, cells := 1, slots := 6, locals := 132 }) (frP (dC, dI) (oW ou kJ g ++ CW cd kI kQ L isA bk sc ia qa rf ba) (CTJ kI kQ kJ) sz Bd [.ref (cd 0), .int x, .ref ou]) (tQ (dC, dI) (wW cd kI kQ kJ ou) (va_A (oW ou kJ g ++ CW cd kI kQ L isA bk sc ia qa rf ba) sz) vI (fun r u => same [] sc u.1.2.1 ∧ (∃ Nz, CI Nz u.1.1.1 u.1.1.2.1 u.1.1.2.2 u.1.2.1 u.1.2.2.2.1 u.1.2.2.2.2.1))) 1 6 (va_A (oW ou kJ g ++ CW cd kI kQ L isA bk sc ia qa rf ba) sz) := by
  refine va_MetW (cc := c_LW_shortBy) (maxL := 4) (ret := (some .int)) (hh := [(0, 9, 12, 21)]) (by decide) rfl ?_
  intro p e s m args below meth c s₁ B hml hv
  obtain ⟨rfl, ⟨hsz, hBs⟩, hP, hK, hD0, hV⟩ := hv
  have hx := B.exec
  have hb := B.bytes
  have hr := B.returns
  have ht : ∀ w ∈ tb_, w.before _ s = true := fun w h => atoms_spec (ws := w_LW_shortBy) B.pre w (List.mem_cons_of_mem _ h)
  have hown : s.vm.findClass R_LW = some m.cls := findClass_of_methodNamed B.named
  have hlocks := B.notSynchronized
  subst hsz
  have hD := hD0.self (sz := s.heap.size)
  have hAB : ∀ q, va_A (oW ou kJ g ++ CW cd kI kQ L isA bk sc ia qa rf ba) s.heap.size q → Bd ≤ q := fr_AB hD0 hBs
  generalize hAe : va_A (oW ou kJ g ++ CW cd kI kQ L isA bk sc ia qa rf ba) s.heap.size = A at hD hAB ⊢
  have hA : ∀ q : Nat, s.heap.size ≤ q → A q := fun q h => by rw [← hAe]; exact Or.inr h
  have hS : va_S A s.heap s.heap [] := va_S.rf
  have hP : va_P (dC, dI) cls_ (oW ou kJ g ++ CW cd kI kQ L isA bk sc ia qa rf ba) s.heap := hP
  have hl := lv_entry ([.ref (cd 0), .int x, .ref ou]) (n := 4) (Nat.le_of_ble_eq_true rfl)
  rw [lg_entry_eq]
  generalize (lg_sl ([.ref (cd 0), .int x, .ref ou]) ++ List.replicate (4 - (lg_sl ([.ref (cd 0), .int x, .ref ou])).length) Slot.unset).toArray = ls at hl ⊢
  have hl : lv_has ls 4 [(0, .ref (cd 0)), (1, .int x), (2, .ref ou)] := hl
  have hN := hC.1.1
  refine lv_aload_n hx hb d_LW_shortBy_0 rfl (lv_at hl 2 rfl) ?_
  refine lv_iconst (v := 0) hx hb d_LW_shortBy_1 (by decide) ?_
  refine lv_aload_n hx hb d_LW_shortBy_2 rfl (lv_at hl 0 rfl) ?_
  refine lv_iload_n hx hb d_LW_shortBy_3 rfl (lv_at hl 1 rfl) ?_
  rcases Classical.em (∃ j, j < N ∧ x = nI j) with ⟨j, hj, rfl⟩ | hno
  · obtain ⟨a, ea, ha, hn⟩ := hC.2.2.2.2.2.1 j hj
    have hK2 : va_K (dC, dI) cls_ (CT kI kQ) s := hK.sub (tys' := CT kI kQ) [0, 1] rfl
    refine r_call (va_runV (C := R_TT) (As := [.int (nI j)]) (rest := [.int 0, .ref ou]) ⟨hx, hb, hml, hown, ht⟩ (k_TT_shortBy_ok l dC dI cd kI kQ L isA bk sc ia qa rf ba N hC j hj a ea ha hn) (cwV 1 ht (gV tb_555 tb_556 tb_557 tb_1 tb_558) rfl rfl rfl (by decide +kernel) ⟨Nat.le_of_ble_eq_true rfl, Nat.le_of_ble_eq_true rfl⟩) ⟨rdP_blind, va_recv (q := (R_TT, F_TT, 8)) hK hP rfl (show (oW ou kJ g ++ CW cd kI kQ L isA bk sc ia qa rf ba : va_W)[1]? = some _ from rfl), rd_pre (ap_P hP) hK2⟩ rfl rfl hl.1 rfl (lv_room (Nat.le_of_ble_eq_true rfl)) d_LW_shortBy_4 ⟨Nat.le_of_ble_eq_true rfl, Nat.le_of_ble_eq_true rfl⟩) (fun r1 hu => ?_)
    clear hu
    refine W.eq (g2 := F0 m 7 ls [.int r1, .int 0, .ref ou]) rfl ?_
    refine lv_i2l hx hb d_LW_shortBy_7 rfl ?_
    refine va_last hx hb hK hP hD hS 0 2 rfl rfl (show vp_in (nI 0) 1 from vp_in_nI (by decide) (by decide)) d_LW_shortBy_8 (fun H locs hP hD hS => ?_)
    have hP : va_P (dC, dI) cls_ (oW ou kJ (vp_updL g (0 : Int32).toNatClampNeg r1.toInt64) ++ CW cd kI kQ L isA bk sc ia qa rf ba) H := hP
    have hD : va_D A (oW ou kJ (vp_updL g (0 : Int32).toNatClampNeg r1.toInt64) ++ CW cd kI kQ L isA bk sc ia qa rf ba) := hD
    obtain ⟨g2, eg2⟩ : ∃ q9_, q9_ = vp_updL g (0 : Int32).toNatClampNeg r1.toInt64 := ⟨_, rfl⟩
    rw [← eg2] at hP hD
    refine lv_goto (tgt := 15) hx hb d_LW_shortBy_9 (by decide) ?_
    refine lv_iconst (v := 0) hx hb d_LW_shortBy_15 (by decide) ?_
    refine W.widen (k := 1) (n := 6) (Nat.le_of_ble_eq_true rfl) (Nat.le_of_ble_eq_true rfl) ?_
    exact W.iret (v := 0) hx hb hr (fun t ht9 hW => ⟨⟨0, (((L, isA, bk), (sc, ia, qa, rf, ba)), g2), rfl, ⟨same.rf, ⟨N, hC⟩⟩, by rw [ht9]; exact hP, hD⟩, hS.F ht9⟩) hS.2.2 d_LW_shortBy_16
  · have hK2 : va_K (dC, dI) cls_ (CT kI kQ) s := hK.sub (tys' := CT kI kQ) [0, 1] rfl
    refine tw_runV (C := R_TT) (As := [.int x]) (rest := [.int 0, .ref ou]) ⟨hx, hb, hml, hown, ht⟩ (k_TT_shortBy_th l dC dI cd kI kQ L isA bk sc ia qa rf ba s.heap.size Bd hl9 N hC x (fun j h9 e9 => hno ⟨j, h9, e9⟩)) (cwV 1 ht (gV tb_555 tb_556 tb_557 tb_1 tb_558) rfl rfl rfl (by decide +kernel) ⟨Nat.le_of_ble_eq_true rfl, Nat.le_of_ble_eq_true rfl⟩) ⟨frP_blind, va_recv (q := (R_TT, F_TT, 8)) hK hP rfl (show (oW ou kJ g ++ CW cd kI kQ L isA bk sc ia qa rf ba : va_W)[1]? = some _ from rfl), fr_pre (ap_P hP) hK2 (ap_D hD) hAB hBs hS hV⟩ rfl hl.1 rfl (Nat.le_of_ble_eq_true rfl) d_LW_shortBy_4 ⟨Nat.le_of_ble_eq_true rfl, Nat.le_of_ble_eq_true rfl⟩ (fun xa cellx H1 hx1 hx2 hx3 hx4 hx5 hx6 => ?_)
    refine tw_catch hown ⟨0, 9, 12, 21⟩ [] (tw_table B (atoms_spec (ws := w_LW_shortBy) B.pre _ List.mem_cons_self)) (by decide) (by decide) (ht _ tb_451)  (va_Nw.use rfl hV.2.1.2.1) hx2 hx3 hx4 ?_
    have hP : va_P (dC, dI) cls_ (oW ou kJ g ++ CW cd kI kQ L isA bk sc ia qa rf ba) H1 := hP.kept (fun k q hq => hx6 q.1 ((hP k q hq).lt))
    have hS : va_S A s.heap H1 _ := ⟨Nat.le_trans hS.1 hx5, fun q h1 h2 => (hx6 q (Nat.lt_of_lt_of_le h1 hS.1)).trans (hS.2.1 q h1 h2), hS.2.2⟩
    generalize H1 = H at hP hS ⊢
    refine W.cs (cells' := 1) (slots' := 6) rfl rfl ?_
    refine lv_astore_n hx hb d_LW_shortBy_12 rfl hl (by decide) rfl (fun ls hl => ?_)
    have hl : lv_has ls 4 [(3, .ref xa), (0, .ref (cd 0)), (1, .int x), (2, .ref ou)] := hl
    refine lv_iconst (v := 1) hx hb d_LW_shortBy_13 (by decide) ?_
    exact W.iret (v := 1) hx hb hr (fun t ht9 hW => ⟨⟨1, (((L, isA, bk), (sc, ia, qa, rf, ba)), g), rfl, ⟨same.rf, ⟨N, hC⟩⟩, by rw [ht9]; exact hP, hD⟩, hS.F ht9⟩) hS.2.2 d_LW_shortBy_14
set_option maxHeartbeats 8000000 in
set_option maxRecDepth 100000 in
theorem w_LW_planFrom_c (l : Launch) (dC : Nat → ClassId) (dI : Nat → Nat → Nat) (cd : Nat → Nat) (kI kQ : ClassId) (L : List Nat) (isA : Nat → Bool) (bk : Nat → Nat) (sc : Nat → Int32) (ia : Nat → Nat → Int32) (qa : Nat → Nat → Option Nat) (rf ba : Nat → Nat → Int32) (kJ : ClassId) (ou : Nat) (g : Nat → Int64) (sz Bd : Nat) (hl9 : l.stackTraces = false) (N : Nat) (hC : CI N L isA bk sc qa rf) (x : Int32) : Met l y_LW_planFrom w_LW_planFrom ({ frames := 8, cells := 1, slots := 6, locals := 162 }) (frP (dC, dI) (oW ou kJ g ++ CW cd kI kQ L isA bk sc ia qa rf ba) (CTJ kI kQ kJ) sz Bd [.ref (cd 0), .int x, .ref ou]) (tQ (dC, dI) (wW cd kI kQ kJ ou) (va_A (oW ou kJ g ++ CW cd kI kQ L isA bk sc ia qa rf ba) sz) vI (fun r u => same [3] sc u.1.2.1 ∧ (∃ Nz, CI Nz u.1.1.1 u.1.1.2.1 u.1.1.2.2 u.1.2.1 u.1.2.2.2.1 u.1.2.2.2.2.1))) 1 6 (va_A (oW ou kJ g ++ CW cd kI kQ L isA bk sc ia qa rf ba) sz) := by
  refine va_MetW (cc := c_LW_planFrom) (maxL := 4) (ret := (some .int)) (hh := [(0, 9, 12, 21)]) (by decide) rfl ?_
  intro p e s m args below meth c s₁ B hml hv
  obtain ⟨rfl, ⟨hsz, hBs⟩, hP, hK, hD0, hV⟩ := hv
  have hx := B.exec
  have hb := B.bytes
  have hr := B.returns
  have ht : ∀ w ∈ tb_, w.before _ s = true := fun w h => atoms_spec (ws := w_LW_planFrom) B.pre w (List.mem_cons_of_mem _ h)
  have hown : s.vm.findClass R_LW = some m.cls := findClass_of_methodNamed B.named
  have hlocks := B.notSynchronized
  subst hsz
  have hD := hD0.self (sz := s.heap.size)
  have hAB : ∀ q, va_A (oW ou kJ g ++ CW cd kI kQ L isA bk sc ia qa rf ba) s.heap.size q → Bd ≤ q := fr_AB hD0 hBs
  generalize hAe : va_A (oW ou kJ g ++ CW cd kI kQ L isA bk sc ia qa rf ba) s.heap.size = A at hD hAB ⊢
  have hA : ∀ q : Nat, s.heap.size ≤ q → A q := fun q h => by rw [← hAe]; exact Or.inr h
  have hS : va_S A s.heap s.heap [] := va_S.rf
  have hP : va_P (dC, dI) cls_ (oW ou kJ g ++ CW cd kI kQ L isA bk sc ia qa rf ba) s.heap := hP
  have hl := lv_entry ([.ref (cd 0), .int x, .ref ou]) (n := 4) (Nat.le_of_ble_eq_true rfl)
  rw [lg_entry_eq]
  generalize (lg_sl ([.ref (cd 0), .int x, .ref ou]) ++ List.replicate (4 - (lg_sl ([.ref (cd 0), .int x, .ref ou])).length) Slot.unset).toArray = ls at hl ⊢
  have hl : lv_has ls 4 [(0, .ref (cd 0)), (1, .int x), (2, .ref ou)] := hl
  have hN := hC.1.1
  refine lv_aload_n hx hb d_LW_planFrom_0 rfl (lv_at hl 2 rfl) ?_
  refine lv_iconst (v := 0) hx hb d_LW_planFrom_1 (by decide) ?_
  refine lv_aload_n hx hb d_LW_planFrom_2 rfl (lv_at hl 0 rfl) ?_
  refine lv_iload_n hx hb d_LW_planFrom_3 rfl (lv_at hl 1 rfl) ?_
  rcases Classical.em (∃ j, j < N ∧ x = nI j) with ⟨j, hj, rfl⟩ | hno
  · obtain ⟨a, ea, ha, hn⟩ := hC.2.2.2.2.2.1 j hj
    have hK2 : va_K (dC, dI) cls_ (CT kI kQ) s := hK.sub (tys' := CT kI kQ) [0, 1] rfl
    refine t_callF (E := oW ou kJ g) (u0 := (sc, ia, qa, rf, ba)) (w0 := CW cd kI kQ L isA bk sc ia qa rf ba) rfl (va_runV (C := R_TT) (As := [.int (nI j)]) (rest := [.int 0, .ref ou]) ⟨hx, hb, hml, hown, ht⟩ (k_TT_planFrom_ok l dC dI cd kI kQ L isA bk sc ia qa rf ba s.heap.size Bd N hC j hj a ea ha hn) (cwV 1 ht (gV tb_491 tb_492 tb_493 tb_1 tb_494) rfl rfl rfl (by decide +kernel) ⟨Nat.le_of_ble_eq_true rfl, Nat.le_of_ble_eq_true rfl⟩) ⟨frP_blind, va_recv (q := (R_TT, F_TT, 8)) hK hP rfl (show (oW ou kJ g ++ CW cd kI kQ L isA bk sc ia qa rf ba : va_W)[1]? = some _ from rfl), fr_pre (ap_P hP) hK2 (ap_D hD) hAB hBs hS hV⟩ rfl rfl hl.1 rfl (lv_room (Nat.le_of_ble_eq_true rfl)) d_LW_planFrom_4 ⟨Nat.le_of_ble_eq_true rfl, Nat.le_of_ble_eq_true rfl⟩) hP hD hS hA (fun r1 u H locs hu hP hD hS => ?_)
    obtain ⟨sc2, ia3, qa4, rf5, ba6⟩ := u
    obtain ⟨hu1_0, hu1_1, hu1_2, hu1_3⟩ := hu
    have hu1_0 : same [3] sc sc2 := hu1_0
    have hu1_1 : ia = ia3 := hu1_1
    have hu1_2 : ba = ba6 := hu1_2
    have hu1_3 : CI N L isA bk sc2 qa4 rf5 := hu1_3
    subst hu1_1
    subst hu1_2
    have hu1_3 : CI N L isA bk sc2 qa4 rf5 := hu1_3
    have hu1_0 : same [3] sc sc2 := hu1_0
    have hP : va_P (dC, dI) cls_ (oW ou kJ g ++ CW cd kI kQ L isA bk sc2 ia qa4 rf5 ba) H := hP
    have hD : va_D A (oW ou kJ g ++ CW cd kI kQ L isA bk sc2 ia qa4 rf5 ba) := hD
    refine W.eq (g2 := F0 m 7 ls [.int r1, .int 0, .ref ou]) rfl ?_
    refine W.cs (cells' := 0) (slots' := 0) rfl rfl ?_
    refine lv_i2l hx hb d_LW_planFrom_7 rfl ?_
    refine va_last hx hb hK hP hD hS 0 2 rfl rfl (show vp_in (nI 0) 1 from vp_in_nI (by decide) (by decide)) d_LW_planFrom_8 (fun H locs hP hD hS => ?_)
    have hP : va_P (dC, dI) cls_ (oW ou kJ (vp_updL g (0 : Int32).toNatClampNeg r1.toInt64) ++ CW cd kI kQ L isA bk sc2 ia qa4 rf5 ba) H := hP
    have hD : va_D A (oW ou kJ (vp_updL g (0 : Int32).toNatClampNeg r1.toInt64) ++ CW cd kI kQ L isA bk sc2 ia qa4 rf5 ba) := hD
    obtain ⟨g7, eg7⟩ : ∃ q9_, q9_ = vp_updL g (0 : Int32).toNatClampNeg r1.toInt64 := ⟨_, rfl⟩
    rw [← eg7] at hP hD
    refine lv_goto (tgt := 15) hx hb d_LW_planFrom_9 (by decide) ?_
    refine lv_iconst (v := 0) hx hb d_LW_planFrom_15 (by decide) ?_
    refine W.widen (k := 1) (n := 6) (Nat.le_of_ble_eq_true rfl) (Nat.le_of_ble_eq_true rfl) ?_
    exact W.iret (v := 0) hx hb hr (fun t ht9 hW => ⟨⟨0, (((L, isA, bk), (sc2, ia, qa4, rf5, ba)), g7), rfl, ⟨hu1_0.wk (by decide), ⟨N, hu1_3⟩⟩, by rw [ht9]; exact hP, hD⟩, hS.F ht9⟩) hS.2.2 d_LW_planFrom_16
  · have hK2 : va_K (dC, dI) cls_ (CT kI kQ) s := hK.sub (tys' := CT kI kQ) [0, 1] rfl
    refine tw_runV (C := R_TT) (As := [.int x]) (rest := [.int 0, .ref ou]) ⟨hx, hb, hml, hown, ht⟩ (k_TT_planFrom_th l dC dI cd kI kQ L isA bk sc ia qa rf ba s.heap.size Bd hl9 N hC x (fun j h9 e9 => hno ⟨j, h9, e9⟩)) (cwV 1 ht (gV tb_491 tb_492 tb_493 tb_1 tb_494) rfl rfl rfl (by decide +kernel) ⟨Nat.le_of_ble_eq_true rfl, Nat.le_of_ble_eq_true rfl⟩) ⟨frP_blind, va_recv (q := (R_TT, F_TT, 8)) hK hP rfl (show (oW ou kJ g ++ CW cd kI kQ L isA bk sc ia qa rf ba : va_W)[1]? = some _ from rfl), fr_pre (ap_P hP) hK2 (ap_D hD) hAB hBs hS hV⟩ rfl hl.1 rfl (Nat.le_of_ble_eq_true rfl) d_LW_planFrom_4 ⟨Nat.le_of_ble_eq_true rfl, Nat.le_of_ble_eq_true rfl⟩ (fun xa cellx H1 hx1 hx2 hx3 hx4 hx5 hx6 => ?_)
    refine tw_catch hown ⟨0, 9, 12, 21⟩ [] (tw_table B (atoms_spec (ws := w_LW_planFrom) B.pre _ List.mem_cons_self)) (by decide) (by decide) (ht _ tb_451)  (va_Nw.use rfl hV.2.1.2.1) hx2 hx3 hx4 ?_
    have hP : va_P (dC, dI) cls_ (oW ou kJ g ++ CW cd kI kQ L isA bk sc ia qa rf ba) H1 := hP.kept (fun k q hq => hx6 q.1 ((hP k q hq).lt))
    have hS : va_S A s.heap H1 _ := ⟨Nat.le_trans hS.1 hx5, fun q h1 h2 => (hx6 q (Nat.lt_of_lt_of_le h1 hS.1)).trans (hS.2.1 q h1 h2), hS.2.2⟩
    generalize H1 = H at hP hS ⊢
    refine W.cs (cells' := 1) (slots' := 6) rfl rfl ?_
    refine lv_astore_n hx hb d_LW_planFrom_12 rfl hl (by decide) rfl (fun ls hl => ?_)
    have hl : lv_has ls 4 [(3, .ref xa), (0, .ref (cd 0)), (1, .int x), (2, .ref ou)] := hl
    refine lv_iconst (v := 1) hx hb d_LW_planFrom_13 (by decide) ?_
    exact W.iret (v := 1) hx hb hr (fun t ht9 hW => ⟨⟨1, (((L, isA, bk), (sc, ia, qa, rf, ba)), g), rfl, ⟨same.rf, ⟨N, hC⟩⟩, by rw [ht9]; exact hP, hD⟩, hS.F ht9⟩) hS.2.2 d_LW_planFrom_14
set_option maxHeartbeats 8000000 in
set_option maxRecDepth 100000 in
theorem w_LW_planTo_c (l : Launch) (dC : Nat → ClassId) (dI : Nat → Nat → Nat) (cd : Nat → Nat) (kI kQ : ClassId) (L : List Nat) (isA : Nat → Bool) (bk : Nat → Nat) (sc : Nat → Int32) (ia : Nat → Nat → Int32) (qa : Nat → Nat → Option Nat) (rf ba : Nat → Nat → Int32) (kJ : ClassId) (ou : Nat) (g : Nat → Int64) (sz Bd : Nat) (hl9 : l.stackTraces = false) (N : Nat) (hC : CI N L isA bk sc qa rf) (x : Int32) : Met l y_LW_planTo w_LW_planTo ({ frames := 8, cells := 1, slots := 6, locals := 162 }) (frP (dC, dI) (oW ou kJ g ++ CW cd kI kQ L isA bk sc ia qa rf ba) (CTJ kI kQ kJ) sz Bd [.ref (cd 0), .int x, .ref ou]) (tQ (dC, dI) (wW cd kI kQ kJ ou) (va_A (oW ou kJ g ++ CW cd kI kQ L isA bk sc ia qa rf ba) sz) vI (fun r u => same [3] sc u.1.2.1 ∧ (∃ Nz, CI Nz u.1.1.1 u.1.1.2.1 u.1.1.2.2 u.1.2.1 u.1.2.2.2.1 u.1.2.2.2.2.1))) 1 6 (va_A (oW ou kJ g ++ CW cd kI kQ L isA bk sc ia qa rf ba) sz) := by
  refine va_MetW (cc := c_LW_planTo) (maxL := 4) (ret := (some .int)) (hh := [(0, 9, 12, 21)]) (by decide) rfl ?_
  intro p e s m args below meth c s₁ B hml hv
  obtain ⟨rfl, ⟨hsz, hBs⟩, hP, hK, hD0, hV⟩ := hv
  have hx := B.exec
  have hb := B.bytes
  have hr := B.returns
  have ht : ∀ w ∈ tb_, w.before _ s = true := fun w h => atoms_spec (ws := w_LW_planTo) B.pre w (List.mem_cons_of_mem _ h)
  have hown : s.vm.findClass R_LW = some m.cls := findClass_of_methodNamed B.named
  have hlocks := B.notSynchronized
  subst hsz
  have hD := hD0.self (sz := s.heap.size)
  have hAB : ∀ q, va_A (oW ou kJ g ++ CW cd kI kQ L isA bk sc ia qa rf ba) s.heap.size q → Bd ≤ q := fr_AB hD0 hBs
  generalize hAe : va_A (oW ou kJ g ++ CW cd kI kQ L isA bk sc ia qa rf ba) s.heap.size = A at hD hAB ⊢
  have hA : ∀ q : Nat, s.heap.size ≤ q → A q := fun q h => by rw [← hAe]; exact Or.inr h
  have hS : va_S A s.heap s.heap [] := va_S.rf
  have hP : va_P (dC, dI) cls_ (oW ou kJ g ++ CW cd kI kQ L isA bk sc ia qa rf ba) s.heap := hP
  have hl := lv_entry ([.ref (cd 0), .int x, .ref ou]) (n := 4) (Nat.le_of_ble_eq_true rfl)
  rw [lg_entry_eq]
  generalize (lg_sl ([.ref (cd 0), .int x, .ref ou]) ++ List.replicate (4 - (lg_sl ([.ref (cd 0), .int x, .ref ou])).length) Slot.unset).toArray = ls at hl ⊢
  have hl : lv_has ls 4 [(0, .ref (cd 0)), (1, .int x), (2, .ref ou)] := hl
  have hN := hC.1.1
  refine lv_aload_n hx hb d_LW_planTo_0 rfl (lv_at hl 2 rfl) ?_
  refine lv_iconst (v := 0) hx hb d_LW_planTo_1 (by decide) ?_
  refine lv_aload_n hx hb d_LW_planTo_2 rfl (lv_at hl 0 rfl) ?_
  refine lv_iload_n hx hb d_LW_planTo_3 rfl (lv_at hl 1 rfl) ?_
  rcases Classical.em (∃ j, j < N ∧ x = nI j) with ⟨j, hj, rfl⟩ | hno
  · obtain ⟨a, ea, ha, hn⟩ := hC.2.2.2.2.2.1 j hj
    have hK2 : va_K (dC, dI) cls_ (CT kI kQ) s := hK.sub (tys' := CT kI kQ) [0, 1] rfl
    refine t_callF (E := oW ou kJ g) (u0 := (sc, ia, qa, rf, ba)) (w0 := CW cd kI kQ L isA bk sc ia qa rf ba) rfl (va_runV (C := R_TT) (As := [.int (nI j)]) (rest := [.int 0, .ref ou]) ⟨hx, hb, hml, hown, ht⟩ (k_TT_planTo_ok l dC dI cd kI kQ L isA bk sc ia qa rf ba s.heap.size Bd N hC j hj a ea ha hn) (cwV 1 ht (gV tb_499 tb_500 tb_501 tb_1 tb_502) rfl rfl rfl (by decide +kernel) ⟨Nat.le_of_ble_eq_true rfl, Nat.le_of_ble_eq_true rfl⟩) ⟨frP_blind, va_recv (q := (R_TT, F_TT, 8)) hK hP rfl (show (oW ou kJ g ++ CW cd kI kQ L isA bk sc ia qa rf ba : va_W)[1]? = some _ from rfl), fr_pre (ap_P hP) hK2 (ap_D hD) hAB hBs hS hV⟩ rfl rfl hl.1 rfl (lv_room (Nat.le_of_ble_eq_true rfl)) d_LW_planTo_4 ⟨Nat.le_of_ble_eq_true rfl, Nat.le_of_ble_eq_true rfl⟩) hP hD hS hA (fun r1 u H locs hu hP hD hS => ?_)
    obtain ⟨sc2, ia3, qa4, rf5, ba6⟩ := u
    obtain ⟨hu1_0, hu1_1, hu1_2, hu1_3⟩ := hu
    have hu1_0 : same [3] sc sc2 := hu1_0
    have hu1_1 : ia = ia3 := hu1_1
    have hu1_2 : ba = ba6 := hu1_2
    have hu1_3 : CI N L isA bk sc2 qa4 rf5 := hu1_3
    subst hu1_1
    subst hu1_2
    have hu1_3 : CI N L isA bk sc2 qa4 rf5 := hu1_3
    have hu1_0 : same [3] sc sc2 := hu1_0
    have hP : va_P (dC, dI) cls_ (oW ou kJ g ++ CW cd kI kQ L isA bk sc2 ia qa4 rf5 ba) H := hP
    have hD : va_D A (oW ou kJ g ++ CW cd kI kQ L isA bk sc2 ia qa4 rf5 ba) := hD
    refine W.eq (g2 := F0 m 7 ls [.int r1, .int 0, .ref ou]) rfl ?_
    refine W.cs (cells' := 0) (slots' := 0) rfl rfl ?_
    refine lv_i2l hx hb d_LW_planTo_7 rfl ?_
    refine va_last hx hb hK hP hD hS 0 2 rfl rfl (show vp_in (nI 0) 1 from vp_in_nI (by decide) (by decide)) d_LW_planTo_8 (fun H locs hP hD hS => ?_)
    have hP : va_P (dC, dI) cls_ (oW ou kJ (vp_updL g (0 : Int32).toNatClampNeg r1.toInt64) ++ CW cd kI kQ L isA bk sc2 ia qa4 rf5 ba) H := hP
    have hD : va_D A (oW ou kJ (vp_updL g (0 : Int32).toNatClampNeg r1.toInt64) ++ CW cd kI kQ L isA bk sc2 ia qa4 rf5 ba) := hD
    obtain ⟨g7, eg7⟩ : ∃ q9_, q9_ = vp_updL g (0 : Int32).toNatClampNeg r1.toInt64 := ⟨_, rfl⟩
    rw [← eg7] at hP hD
    refine lv_goto (tgt := 15) hx hb d_LW_planTo_9 (by decide) ?_
    refine lv_iconst (v := 0) hx hb d_LW_planTo_15 (by decide) ?_
    refine W.widen (k := 1) (n := 6) (Nat.le_of_ble_eq_true rfl) (Nat.le_of_ble_eq_true rfl) ?_
    exact W.iret (v := 0) hx hb hr (fun t ht9 hW => ⟨⟨0, (((L, isA, bk), (sc2, ia, qa4, rf5, ba)), g7), rfl, ⟨hu1_0.wk (by decide), ⟨N, hu1_3⟩⟩, by rw [ht9]; exact hP, hD⟩, hS.F ht9⟩) hS.2.2 d_LW_planTo_16
  · have hK2 : va_K (dC, dI) cls_ (CT kI kQ) s := hK.sub (tys' := CT kI kQ) [0, 1] rfl
    refine tw_runV (C := R_TT) (As := [.int x]) (rest := [.int 0, .ref ou]) ⟨hx, hb, hml, hown, ht⟩ (k_TT_planTo_th l dC dI cd kI kQ L isA bk sc ia qa rf ba s.heap.size Bd hl9 N hC x (fun j h9 e9 => hno ⟨j, h9, e9⟩)) (cwV 1 ht (gV tb_499 tb_500 tb_501 tb_1 tb_502) rfl rfl rfl (by decide +kernel) ⟨Nat.le_of_ble_eq_true rfl, Nat.le_of_ble_eq_true rfl⟩) ⟨frP_blind, va_recv (q := (R_TT, F_TT, 8)) hK hP rfl (show (oW ou kJ g ++ CW cd kI kQ L isA bk sc ia qa rf ba : va_W)[1]? = some _ from rfl), fr_pre (ap_P hP) hK2 (ap_D hD) hAB hBs hS hV⟩ rfl hl.1 rfl (Nat.le_of_ble_eq_true rfl) d_LW_planTo_4 ⟨Nat.le_of_ble_eq_true rfl, Nat.le_of_ble_eq_true rfl⟩ (fun xa cellx H1 hx1 hx2 hx3 hx4 hx5 hx6 => ?_)
    refine tw_catch hown ⟨0, 9, 12, 21⟩ [] (tw_table B (atoms_spec (ws := w_LW_planTo) B.pre _ List.mem_cons_self)) (by decide) (by decide) (ht _ tb_451)  (va_Nw.use rfl hV.2.1.2.1) hx2 hx3 hx4 ?_
    have hP : va_P (dC, dI) cls_ (oW ou kJ g ++ CW cd kI kQ L isA bk sc ia qa rf ba) H1 := hP.kept (fun k q hq => hx6 q.1 ((hP k q hq).lt))
    have hS : va_S A s.heap H1 _ := ⟨Nat.le_trans hS.1 hx5, fun q h1 h2 => (hx6 q (Nat.lt_of_lt_of_le h1 hS.1)).trans (hS.2.1 q h1 h2), hS.2.2⟩
    generalize H1 = H at hP hS ⊢
    refine W.cs (cells' := 1) (slots' := 6) rfl rfl ?_
    refine lv_astore_n hx hb d_LW_planTo_12 rfl hl (by decide) rfl (fun ls hl => ?_)
    have hl : lv_has ls 4 [(3, .ref xa), (0, .ref (cd 0)), (1, .int x), (2, .ref ou)] := hl
    refine lv_iconst (v := 1) hx hb d_LW_planTo_13 (by decide) ?_
    exact W.iret (v := 1) hx hb hr (fun t ht9 hW => ⟨⟨1, (((L, isA, bk), (sc, ia, qa, rf, ba)), g), rfl, ⟨same.rf, ⟨N, hC⟩⟩, by rw [ht9]; exact hP, hD⟩, hS.F ht9⟩) hS.2.2 d_LW_planTo_14
set_option maxHeartbeats 8000000 in
set_option maxRecDepth 100000 in
theorem w_LW_word_c (l : Launch) (dC : Nat → ClassId) (dI : Nat → Nat → Nat) (cd : Nat → Nat) (kI kQ : ClassId) (L : List Nat) (isA : Nat → Bool) (bk : Nat → Nat) (sc : Nat → Int32) (ia : Nat → Nat → Int32) (qa : Nat → Nat → Option Nat) (rf ba : Nat → Nat → Int32) (kJ : ClassId) (ou : Nat) (g : Nat → Int64) (sz Bd : Nat) (hl9 : l.stackTraces = false) (N : Nat) (hC : CI N L isA bk sc qa rf) (x y : Int32) : Met l y_LW_word w_LW_word ({ frames := 8, cells := 1, slots := 6, locals := 133 }) (frP (dC, dI) (oW ou kJ g ++ CW cd kI kQ L isA bk sc ia qa rf ba) (CTJ kI kQ kJ) sz Bd [.ref (cd 0), .int x, .int y, .ref ou]) (tQ (dC, dI) (wW cd kI kQ kJ ou) (va_A (oW ou kJ g ++ CW cd kI kQ L isA bk sc ia qa rf ba) sz) vI (fun r u => same [] sc u.1.2.1 ∧ (∃ Nz, CI Nz u.1.1.1 u.1.1.2.1 u.1.1.2.2 u.1.2.1 u.1.2.2.2.1 u.1.2.2.2.2.1))) 1 6 (va_A (oW ou kJ g ++ CW cd kI kQ L isA bk sc ia qa rf ba) sz) := by
  refine va_MetW (cc := c_LW_word) (maxL := 5) (ret := (some .int)) (hh := [(0, 9, 12, 21)]) (by decide) rfl ?_
  intro p e s m args below meth c s₁ B hml hv
  obtain ⟨rfl, ⟨hsz, hBs⟩, hP, hK, hD0, hV⟩ := hv
  have hx := B.exec
  have hb := B.bytes
  have hr := B.returns
  have ht : ∀ w ∈ tb_, w.before _ s = true := fun w h => atoms_spec (ws := w_LW_word) B.pre w (List.mem_cons_of_mem _ h)
  have hown : s.vm.findClass R_LW = some m.cls := findClass_of_methodNamed B.named
  have hlocks := B.notSynchronized
  subst hsz
  have hD := hD0.self (sz := s.heap.size)
  have hAB : ∀ q, va_A (oW ou kJ g ++ CW cd kI kQ L isA bk sc ia qa rf ba) s.heap.size q → Bd ≤ q := fr_AB hD0 hBs
  generalize hAe : va_A (oW ou kJ g ++ CW cd kI kQ L isA bk sc ia qa rf ba) s.heap.size = A at hD hAB ⊢
  have hA : ∀ q : Nat, s.heap.size ≤ q → A q := fun q h => by rw [← hAe]; exact Or.inr h
  have hS : va_S A s.heap s.heap [] := va_S.rf
  have hP : va_P (dC, dI) cls_ (oW ou kJ g ++ CW cd kI kQ L isA bk sc ia qa rf ba) s.heap := hP
  have hl := lv_entry ([.ref (cd 0), .int x, .int y, .ref ou]) (n := 5) (Nat.le_of_ble_eq_true rfl)
  rw [lg_entry_eq]
  generalize (lg_sl ([.ref (cd 0), .int x, .int y, .ref ou]) ++ List.replicate (5 - (lg_sl ([.ref (cd 0), .int x, .int y, .ref ou])).length) Slot.unset).toArray = ls at hl ⊢
  have hl : lv_has ls 5 [(0, .ref (cd 0)), (1, .int x), (2, .int y), (3, .ref ou)] := hl
  have hN := hC.1.1
  refine lv_aload_n hx hb d_LW_word_0 rfl (lv_at hl 3 rfl) ?_
  refine lv_iconst (v := 0) hx hb d_LW_word_1 (by decide) ?_
  refine lv_aload_n hx hb d_LW_word_2 rfl (lv_at hl 0 rfl) ?_
  refine lv_iload_n hx hb d_LW_word_3 rfl (lv_at hl 1 rfl) ?_
  refine lv_iload_n hx hb d_LW_word_4 rfl (lv_at hl 2 rfl) ?_
  rcases Classical.em (∃ j, j < N ∧ x = nI j) with ⟨j, hj, rfl⟩ | hno
  · obtain ⟨a, ea, ha, hn⟩ := hC.2.2.2.2.2.1 j hj
    have hK2 : va_K (dC, dI) cls_ (CT kI kQ) s := hK.sub (tys' := CT kI kQ) [0, 1] rfl
    refine r_call (va_runV (C := R_TT) (As := [.int (nI j), .int y]) (rest := [.int 0, .ref ou]) ⟨hx, hb, hml, hown, ht⟩ (k_TT_word_ok l dC dI cd kI kQ L isA bk sc ia qa rf ba N hC j hj a ea ha hn y) (cwV 2 ht (gV tb_529 tb_530 tb_531 tb_1 tb_532) rfl rfl rfl (by decide +kernel) ⟨Nat.le_of_ble_eq_true rfl, Nat.le_of_ble_eq_true rfl⟩) ⟨rdP_blind, va_recv (q := (R_TT, F_TT, 8)) hK hP rfl (show (oW ou kJ g ++ CW cd kI kQ L isA bk sc ia qa rf ba : va_W)[1]? = some _ from rfl), rd_pre (ap_P hP) hK2⟩ rfl rfl hl.1 rfl (lv_room (Nat.le_of_ble_eq_true rfl)) d_LW_word_5 ⟨Nat.le_of_ble_eq_true rfl, Nat.le_of_ble_eq_true rfl⟩) (fun r1 hu => ?_)
    clear hu
    refine W.eq (g2 := F0 m 8 ls [.long r1, .int 0, .ref ou]) rfl ?_
    refine va_last hx hb hK hP hD hS 0 2 rfl rfl (show vp_in (nI 0) 1 from vp_in_nI (by decide) (by decide)) d_LW_word_8 (fun H locs hP hD hS => ?_)
    have hP : va_P (dC, dI) cls_ (oW ou kJ (vp_updL g (0 : Int32).toNatClampNeg r1) ++ CW cd kI kQ L isA bk sc ia qa rf ba) H := hP
    have hD : va_D A (oW ou kJ (vp_updL g (0 : Int32).toNatClampNeg r1) ++ CW cd kI kQ L isA bk sc ia qa rf ba) := hD
    obtain ⟨g2, eg2⟩ : ∃ q9_, q9_ = vp_updL g (0 : Int32).toNatClampNeg r1 := ⟨_, rfl⟩
    rw [← eg2] at hP hD
    refine lv_goto (tgt := 16) hx hb d_LW_word_9 (by decide) ?_
    refine lv_iconst (v := 0) hx hb d_LW_word_16 (by decide) ?_
    refine W.widen (k := 1) (n := 6) (Nat.le_of_ble_eq_true rfl) (Nat.le_of_ble_eq_true rfl) ?_
    exact W.iret (v := 0) hx hb hr (fun t ht9 hW => ⟨⟨0, (((L, isA, bk), (sc, ia, qa, rf, ba)), g2), rfl, ⟨same.rf, ⟨N, hC⟩⟩, by rw [ht9]; exact hP, hD⟩, hS.F ht9⟩) hS.2.2 d_LW_word_17
  · have hK2 : va_K (dC, dI) cls_ (CT kI kQ) s := hK.sub (tys' := CT kI kQ) [0, 1] rfl
    refine tw_runV (C := R_TT) (As := [.int x, .int y]) (rest := [.int 0, .ref ou]) ⟨hx, hb, hml, hown, ht⟩ (k_TT_word_th l dC dI cd kI kQ L isA bk sc ia qa rf ba s.heap.size Bd hl9 N hC x y (fun j h9 e9 => hno ⟨j, h9, e9⟩)) (cwV 2 ht (gV tb_529 tb_530 tb_531 tb_1 tb_532) rfl rfl rfl (by decide +kernel) ⟨Nat.le_of_ble_eq_true rfl, Nat.le_of_ble_eq_true rfl⟩) ⟨frP_blind, va_recv (q := (R_TT, F_TT, 8)) hK hP rfl (show (oW ou kJ g ++ CW cd kI kQ L isA bk sc ia qa rf ba : va_W)[1]? = some _ from rfl), fr_pre (ap_P hP) hK2 (ap_D hD) hAB hBs hS hV⟩ rfl hl.1 rfl (Nat.le_of_ble_eq_true rfl) d_LW_word_5 ⟨Nat.le_of_ble_eq_true rfl, Nat.le_of_ble_eq_true rfl⟩ (fun xa cellx H1 hx1 hx2 hx3 hx4 hx5 hx6 => ?_)
    refine tw_catch hown ⟨0, 9, 12, 21⟩ [] (tw_table B (atoms_spec (ws := w_LW_word) B.pre _ List.mem_cons_self)) (by decide) (by decide) (ht _ tb_451)  (va_Nw.use rfl hV.2.1.2.1) hx2 hx3 hx4 ?_
    have hP : va_P (dC, dI) cls_ (oW ou kJ g ++ CW cd kI kQ L isA bk sc ia qa rf ba) H1 := hP.kept (fun k q hq => hx6 q.1 ((hP k q hq).lt))
    have hS : va_S A s.heap H1 _ := ⟨Nat.le_trans hS.1 hx5, fun q h1 h2 => (hx6 q (Nat.lt_of_lt_of_le h1 hS.1)).trans (hS.2.1 q h1 h2), hS.2.2⟩
    generalize H1 = H at hP hS ⊢
    refine W.cs (cells' := 1) (slots' := 6) rfl rfl ?_
    refine lv_astore hx hb d_LW_word_12 hl (by decide) rfl (fun ls hl => ?_)
    have hl : lv_has ls 5 [(4, .ref xa), (0, .ref (cd 0)), (1, .int x), (2, .int y), (3, .ref ou)] := hl
    refine lv_iconst (v := 1) hx hb d_LW_word_14 (by decide) ?_
    exact W.iret (v := 1) hx hb hr (fun t ht9 hW => ⟨⟨1, (((L, isA, bk), (sc, ia, qa, rf, ba)), g), rfl, ⟨same.rf, ⟨N, hC⟩⟩, by rw [ht9]; exact hP, hD⟩, hS.F ht9⟩) hS.2.2 d_LW_word_15
set_option maxHeartbeats 8000000 in
set_option maxRecDepth 100000 in
theorem w_LW_recorded_c (l : Launch) (dC : Nat → ClassId) (dI : Nat → Nat → Nat) (cd : Nat → Nat) (kI kQ : ClassId) (L : List Nat) (isA : Nat → Bool) (bk : Nat → Nat) (sc : Nat → Int32) (ia : Nat → Nat → Int32) (qa : Nat → Nat → Option Nat) (rf ba : Nat → Nat → Int32) (kJ : ClassId) (ou : Nat) (g : Nat → Int64) (sz Bd : Nat) (hl9 : l.stackTraces = false) (N : Nat) (hC : CI N L isA bk sc qa rf) (x : Int32) : Met l y_LW_recorded w_LW_recorded ({ frames := 8, cells := 1, slots := 6, locals := 132 }) (frP (dC, dI) (oW ou kJ g ++ CW cd kI kQ L isA bk sc ia qa rf ba) (CTJ kI kQ kJ) sz Bd [.ref (cd 0), .int x, .ref ou]) (tQ (dC, dI) (wW cd kI kQ kJ ou) (va_A (oW ou kJ g ++ CW cd kI kQ L isA bk sc ia qa rf ba) sz) vI (fun r u => same [] sc u.1.2.1 ∧ (∃ Nz, CI Nz u.1.1.1 u.1.1.2.1 u.1.1.2.2 u.1.2.1 u.1.2.2.2.1 u.1.2.2.2.2.1))) 1 6 (va_A (oW ou kJ g ++ CW cd kI kQ L isA bk sc ia qa rf ba) sz) := by
  refine va_MetW (cc := c_LW_recorded) (maxL := 4) (ret := (some .int)) (hh := [(0, 9, 12, 21)]) (by decide) rfl ?_
  intro p e s m args below meth c s₁ B hml hv
  obtain ⟨rfl, ⟨hsz, hBs⟩, hP, hK, hD0, hV⟩ := hv
  have hx := B.exec
  have hb := B.bytes
  have hr := B.returns
  have ht : ∀ w ∈ tb_, w.before _ s = true := fun w h => atoms_spec (ws := w_LW_recorded) B.pre w (List.mem_cons_of_mem _ h)
  have hown : s.vm.findClass R_LW = some m.cls := findClass_of_methodNamed B.named
  have hlocks := B.notSynchronized
  subst hsz
  have hD := hD0.self (sz := s.heap.size)
  have hAB : ∀ q, va_A (oW ou kJ g ++ CW cd kI kQ L isA bk sc ia qa rf ba) s.heap.size q → Bd ≤ q := fr_AB hD0 hBs
  generalize hAe : va_A (oW ou kJ g ++ CW cd kI kQ L isA bk sc ia qa rf ba) s.heap.size = A at hD hAB ⊢
  have hA : ∀ q : Nat, s.heap.size ≤ q → A q := fun q h => by rw [← hAe]; exact Or.inr h
  have hS : va_S A s.heap s.heap [] := va_S.rf
  have hP : va_P (dC, dI) cls_ (oW ou kJ g ++ CW cd kI kQ L isA bk sc ia qa rf ba) s.heap := hP
  have hl := lv_entry ([.ref (cd 0), .int x, .ref ou]) (n := 4) (Nat.le_of_ble_eq_true rfl)
  rw [lg_entry_eq]
  generalize (lg_sl ([.ref (cd 0), .int x, .ref ou]) ++ List.replicate (4 - (lg_sl ([.ref (cd 0), .int x, .ref ou])).length) Slot.unset).toArray = ls at hl ⊢
  have hl : lv_has ls 4 [(0, .ref (cd 0)), (1, .int x), (2, .ref ou)] := hl
  have hN := hC.1.1
  refine lv_aload_n hx hb d_LW_recorded_0 rfl (lv_at hl 2 rfl) ?_
  refine lv_iconst (v := 0) hx hb d_LW_recorded_1 (by decide) ?_
  refine lv_aload_n hx hb d_LW_recorded_2 rfl (lv_at hl 0 rfl) ?_
  refine lv_iload_n hx hb d_LW_recorded_3 rfl (lv_at hl 1 rfl) ?_
  rcases Classical.em (∃ j, j < N ∧ x = nI j) with ⟨j, hj, rfl⟩ | hno
  · obtain ⟨a, ea, ha, hn⟩ := hC.2.2.2.2.2.1 j hj
    have hK2 : va_K (dC, dI) cls_ (CT kI kQ) s := hK.sub (tys' := CT kI kQ) [0, 1] rfl
    refine r_call (va_runV (C := R_TT) (As := [.int (nI j)]) (rest := [.int 0, .ref ou]) ⟨hx, hb, hml, hown, ht⟩ (k_TT_recorded_ok l dC dI cd kI kQ L isA bk sc ia qa rf ba N hC j hj a ea ha hn) (cwV 1 ht (gV tb_543 tb_544 tb_545 tb_1 tb_546) rfl rfl rfl (by decide +kernel) ⟨Nat.le_of_ble_eq_true rfl, Nat.le_of_ble_eq_true rfl⟩) ⟨rdP_blind, va_recv (q := (R_TT, F_TT, 8)) hK hP rfl (show (oW ou kJ g ++ CW cd kI kQ L isA bk sc ia qa rf ba : va_W)[1]? = some _ from rfl), rd_pre (ap_P hP) hK2⟩ rfl rfl hl.1 rfl (lv_room (Nat.le_of_ble_eq_true rfl)) d_LW_recorded_4 ⟨Nat.le_of_ble_eq_true rfl, Nat.le_of_ble_eq_true rfl⟩) (fun r1 hu => ?_)
    clear hu
    refine W.eq (g2 := F0 m 7 ls [.int r1, .int 0, .ref ou]) rfl ?_
    refine lv_i2l hx hb d_LW_recorded_7 rfl ?_
    refine va_last hx hb hK hP hD hS 0 2 rfl rfl (show vp_in (nI 0) 1 from vp_in_nI (by decide) (by decide)) d_LW_recorded_8 (fun H locs hP hD hS => ?_)
    have hP : va_P (dC, dI) cls_ (oW ou kJ (vp_updL g (0 : Int32).toNatClampNeg r1.toInt64) ++ CW cd kI kQ L isA bk sc ia qa rf ba) H := hP
    have hD : va_D A (oW ou kJ (vp_updL g (0 : Int32).toNatClampNeg r1.toInt64) ++ CW cd kI kQ L isA bk sc ia qa rf ba) := hD
    obtain ⟨g2, eg2⟩ : ∃ q9_, q9_ = vp_updL g (0 : Int32).toNatClampNeg r1.toInt64 := ⟨_, rfl⟩
    rw [← eg2] at hP hD
    refine lv_goto (tgt := 15) hx hb d_LW_recorded_9 (by decide) ?_
    refine lv_iconst (v := 0) hx hb d_LW_recorded_15 (by decide) ?_
    refine W.widen (k := 1) (n := 6) (Nat.le_of_ble_eq_true rfl) (Nat.le_of_ble_eq_true rfl) ?_
    exact W.iret (v := 0) hx hb hr (fun t ht9 hW => ⟨⟨0, (((L, isA, bk), (sc, ia, qa, rf, ba)), g2), rfl, ⟨same.rf, ⟨N, hC⟩⟩, by rw [ht9]; exact hP, hD⟩, hS.F ht9⟩) hS.2.2 d_LW_recorded_16
  · have hK2 : va_K (dC, dI) cls_ (CT kI kQ) s := hK.sub (tys' := CT kI kQ) [0, 1] rfl
    refine tw_runV (C := R_TT) (As := [.int x]) (rest := [.int 0, .ref ou]) ⟨hx, hb, hml, hown, ht⟩ (k_TT_recorded_th l dC dI cd kI kQ L isA bk sc ia qa rf ba s.heap.size Bd hl9 N hC x (fun j h9 e9 => hno ⟨j, h9, e9⟩)) (cwV 1 ht (gV tb_543 tb_544 tb_545 tb_1 tb_546) rfl rfl rfl (by decide +kernel) ⟨Nat.le_of_ble_eq_true rfl, Nat.le_of_ble_eq_true rfl⟩) ⟨frP_blind, va_recv (q := (R_TT, F_TT, 8)) hK hP rfl (show (oW ou kJ g ++ CW cd kI kQ L isA bk sc ia qa rf ba : va_W)[1]? = some _ from rfl), fr_pre (ap_P hP) hK2 (ap_D hD) hAB hBs hS hV⟩ rfl hl.1 rfl (Nat.le_of_ble_eq_true rfl) d_LW_recorded_4 ⟨Nat.le_of_ble_eq_true rfl, Nat.le_of_ble_eq_true rfl⟩ (fun xa cellx H1 hx1 hx2 hx3 hx4 hx5 hx6 => ?_)
    refine tw_catch hown ⟨0, 9, 12, 21⟩ [] (tw_table B (atoms_spec (ws := w_LW_recorded) B.pre _ List.mem_cons_self)) (by decide) (by decide) (ht _ tb_451)  (va_Nw.use rfl hV.2.1.2.1) hx2 hx3 hx4 ?_
    have hP : va_P (dC, dI) cls_ (oW ou kJ g ++ CW cd kI kQ L isA bk sc ia qa rf ba) H1 := hP.kept (fun k q hq => hx6 q.1 ((hP k q hq).lt))
    have hS : va_S A s.heap H1 _ := ⟨Nat.le_trans hS.1 hx5, fun q h1 h2 => (hx6 q (Nat.lt_of_lt_of_le h1 hS.1)).trans (hS.2.1 q h1 h2), hS.2.2⟩
    generalize H1 = H at hP hS ⊢
    refine W.cs (cells' := 1) (slots' := 6) rfl rfl ?_
    refine lv_astore_n hx hb d_LW_recorded_12 rfl hl (by decide) rfl (fun ls hl => ?_)
    have hl : lv_has ls 4 [(3, .ref xa), (0, .ref (cd 0)), (1, .int x), (2, .ref ou)] := hl
    refine lv_iconst (v := 1) hx hb d_LW_recorded_13 (by decide) ?_
    exact W.iret (v := 1) hx hb hr (fun t ht9 hW => ⟨⟨1, (((L, isA, bk), (sc, ia, qa, rf, ba)), g), rfl, ⟨same.rf, ⟨N, hC⟩⟩, by rw [ht9]; exact hP, hD⟩, hS.F ht9⟩) hS.2.2 d_LW_recorded_14
set_option maxHeartbeats 8000000 in
set_option maxRecDepth 100000 in
theorem w_LW_bookmarkAt_c (l : Launch) (dC : Nat → ClassId) (dI : Nat → Nat → Nat) (cd : Nat → Nat) (kI kQ : ClassId) (L : List Nat) (isA : Nat → Bool) (bk : Nat → Nat) (sc : Nat → Int32) (ia : Nat → Nat → Int32) (qa : Nat → Nat → Option Nat) (rf ba : Nat → Nat → Int32) (kJ : ClassId) (ou : Nat) (g : Nat → Int64) (sz Bd : Nat) (hl9 : l.stackTraces = false) (N : Nat) (hC : CI N L isA bk sc qa rf) (x y : Int32) : Met l y_LW_bookmarkAt w_LW_bookmarkAt ({ frames := 8, cells := 1, slots := 6, locals := 134 }) (frP (dC, dI) (oW ou kJ g ++ CW cd kI kQ L isA bk sc ia qa rf ba) (CTJ kI kQ kJ) sz Bd [.ref (cd 0), .int x, .int y, .ref ou]) (tQ (dC, dI) (wW cd kI kQ kJ ou) (va_A (oW ou kJ g ++ CW cd kI kQ L isA bk sc ia qa rf ba) sz) vI (fun r u => same [] sc u.1.2.1 ∧ (∃ Nz, CI Nz u.1.1.1 u.1.1.2.1 u.1.1.2.2 u.1.2.1 u.1.2.2.2.1 u.1.2.2.2.2.1))) 1 6 (va_A (oW ou kJ g ++ CW cd kI kQ L isA bk sc ia qa rf ba) sz) := by
  refine va_MetW (cc := c_LW_bookmarkAt) (maxL := 5) (ret := (some .int)) (hh := [(0, 10, 13, 21)]) (by decide) rfl ?_
  intro p e s m args below meth c s₁ B hml hv
  obtain ⟨rfl, ⟨hsz, hBs⟩, hP, hK, hD0, hV⟩ := hv
  have hx := B.exec
  have hb := B.bytes
  have hr := B.returns
  have ht : ∀ w ∈ tb_, w.before _ s = true := fun w h => atoms_spec (ws := w_LW_bookmarkAt) B.pre w (List.mem_cons_of_mem _ h)
  have hown : s.vm.findClass R_LW = some m.cls := findClass_of_methodNamed B.named
  have hlocks := B.notSynchronized
  subst hsz
  have hD := hD0.self (sz := s.heap.size)
  have hAB : ∀ q, va_A (oW ou kJ g ++ CW cd kI kQ L isA bk sc ia qa rf ba) s.heap.size q → Bd ≤ q := fr_AB hD0 hBs
  generalize hAe : va_A (oW ou kJ g ++ CW cd kI kQ L isA bk sc ia qa rf ba) s.heap.size = A at hD hAB ⊢
  have hA : ∀ q : Nat, s.heap.size ≤ q → A q := fun q h => by rw [← hAe]; exact Or.inr h
  have hS : va_S A s.heap s.heap [] := va_S.rf
  have hP : va_P (dC, dI) cls_ (oW ou kJ g ++ CW cd kI kQ L isA bk sc ia qa rf ba) s.heap := hP
  have hl := lv_entry ([.ref (cd 0), .int x, .int y, .ref ou]) (n := 5) (Nat.le_of_ble_eq_true rfl)
  rw [lg_entry_eq]
  generalize (lg_sl ([.ref (cd 0), .int x, .int y, .ref ou]) ++ List.replicate (5 - (lg_sl ([.ref (cd 0), .int x, .int y, .ref ou])).length) Slot.unset).toArray = ls at hl ⊢
  have hl : lv_has ls 5 [(0, .ref (cd 0)), (1, .int x), (2, .int y), (3, .ref ou)] := hl
  have hN := hC.1.1
  refine lv_aload_n hx hb d_LW_bookmarkAt_0 rfl (lv_at hl 3 rfl) ?_
  refine lv_iconst (v := 0) hx hb d_LW_bookmarkAt_1 (by decide) ?_
  refine lv_aload_n hx hb d_LW_bookmarkAt_2 rfl (lv_at hl 0 rfl) ?_
  refine lv_iload_n hx hb d_LW_bookmarkAt_3 rfl (lv_at hl 1 rfl) ?_
  refine lv_iload_n hx hb d_LW_bookmarkAt_4 rfl (lv_at hl 2 rfl) ?_
  rcases Classical.em (∃ j, j < N ∧ x = nI j) with ⟨j, hj, rfl⟩ | hno
  · obtain ⟨a, ea, ha, hn⟩ := hC.2.2.2.2.2.1 j hj
    have hK2 : va_K (dC, dI) cls_ (CT kI kQ) s := hK.sub (tys' := CT kI kQ) [0, 1] rfl
    refine r_call (va_runV (C := R_TT) (As := [.int (nI j), .int y]) (rest := [.int 0, .ref ou]) ⟨hx, hb, hml, hown, ht⟩ (k_TT_bookmarkAt_ok l dC dI cd kI kQ L isA bk sc ia qa rf ba N hC j hj a ea ha hn y) (cwV 2 ht (gV tb_606 tb_607 tb_608 tb_1 tb_609) rfl rfl rfl (by decide +kernel) ⟨Nat.le_of_ble_eq_true rfl, Nat.le_of_ble_eq_true rfl⟩) ⟨rdP_blind, va_recv (q := (R_TT, F_TT, 8)) hK hP rfl (show (oW ou kJ g ++ CW cd kI kQ L isA bk sc ia qa rf ba : va_W)[1]? = some _ from rfl), rd_pre (ap_P hP) hK2⟩ rfl rfl hl.1 rfl (lv_room (Nat.le_of_ble_eq_true rfl)) d_LW_bookmarkAt_5 ⟨Nat.le_of_ble_eq_true rfl, Nat.le_of_ble_eq_true rfl⟩) (fun r1 hu => ?_)
    clear hu
    refine W.eq (g2 := F0 m 8 ls [.int r1, .int 0, .ref ou]) rfl ?_
    refine lv_i2l hx hb d_LW_bookmarkAt_8 rfl ?_
    refine va_last hx hb hK hP hD hS 0 2 rfl rfl (show vp_in (nI 0) 1 from vp_in_nI (by decide) (by decide)) d_LW_bookmarkAt_9 (fun H locs hP hD hS => ?_)
    have hP : va_P (dC, dI) cls_ (oW ou kJ (vp_updL g (0 : Int32).toNatClampNeg r1.toInt64) ++ CW cd kI kQ L isA bk sc ia qa rf ba) H := hP
    have hD : va_D A (oW ou kJ (vp_updL g (0 : Int32).toNatClampNeg r1.toInt64) ++ CW cd kI kQ L isA bk sc ia qa rf ba) := hD
    obtain ⟨g2, eg2⟩ : ∃ q9_, q9_ = vp_updL g (0 : Int32).toNatClampNeg r1.toInt64 := ⟨_, rfl⟩
    rw [← eg2] at hP hD
    refine lv_goto (tgt := 17) hx hb d_LW_bookmarkAt_10 (by decide) ?_
    refine lv_iconst (v := 0) hx hb d_LW_bookmarkAt_17 (by decide) ?_
    refine W.widen (k := 1) (n := 6) (Nat.le_of_ble_eq_true rfl) (Nat.le_of_ble_eq_true rfl) ?_
    exact W.iret (v := 0) hx hb hr (fun t ht9 hW => ⟨⟨0, (((L, isA, bk), (sc, ia, qa, rf, ba)), g2), rfl, ⟨same.rf, ⟨N, hC⟩⟩, by rw [ht9]; exact hP, hD⟩, hS.F ht9⟩) hS.2.2 d_LW_bookmarkAt_18
  · have hK2 : va_K (dC, dI) cls_ (CT kI kQ) s := hK.sub (tys' := CT kI kQ) [0, 1] rfl
    refine tw_runV (C := R_TT) (As := [.int x, .int y]) (rest := [.int 0, .ref ou]) ⟨hx, hb, hml, hown, ht⟩ (k_TT_bookmarkAt_th l dC dI cd kI kQ L isA bk sc ia qa rf ba s.heap.size Bd hl9 N hC x y (fun j h9 e9 => hno ⟨j, h9, e9⟩)) (cwV 2 ht (gV tb_606 tb_607 tb_608 tb_1 tb_609) rfl rfl rfl (by decide +kernel) ⟨Nat.le_of_ble_eq_true rfl, Nat.le_of_ble_eq_true rfl⟩) ⟨frP_blind, va_recv (q := (R_TT, F_TT, 8)) hK hP rfl (show (oW ou kJ g ++ CW cd kI kQ L isA bk sc ia qa rf ba : va_W)[1]? = some _ from rfl), fr_pre (ap_P hP) hK2 (ap_D hD) hAB hBs hS hV⟩ rfl hl.1 rfl (Nat.le_of_ble_eq_true rfl) d_LW_bookmarkAt_5 ⟨Nat.le_of_ble_eq_true rfl, Nat.le_of_ble_eq_true rfl⟩ (fun xa cellx H1 hx1 hx2 hx3 hx4 hx5 hx6 => ?_)
    refine tw_catch hown ⟨0, 10, 13, 21⟩ [] (tw_table B (atoms_spec (ws := w_LW_bookmarkAt) B.pre _ List.mem_cons_self)) (by decide) (by decide) (ht _ tb_451)  (va_Nw.use rfl hV.2.1.2.1) hx2 hx3 hx4 ?_
    have hP : va_P (dC, dI) cls_ (oW ou kJ g ++ CW cd kI kQ L isA bk sc ia qa rf ba) H1 := hP.kept (fun k q hq => hx6 q.1 ((hP k q hq).lt))
    have hS : va_S A s.heap H1 _ := ⟨Nat.le_trans hS.1 hx5, fun q h1 h2 => (hx6 q (Nat.lt_of_lt_of_le h1 hS.1)).trans (hS.2.1 q h1 h2), hS.2.2⟩
    generalize H1 = H at hP hS ⊢
    refine W.cs (cells' := 1) (slots' := 6) rfl rfl ?_
    refine lv_astore hx hb d_LW_bookmarkAt_13 hl (by decide) rfl (fun ls hl => ?_)
    have hl : lv_has ls 5 [(4, .ref xa), (0, .ref (cd 0)), (1, .int x), (2, .int y), (3, .ref ou)] := hl
    refine lv_iconst (v := 1) hx hb d_LW_bookmarkAt_15 (by decide) ?_
    exact W.iret (v := 1) hx hb hr (fun t ht9 hW => ⟨⟨1, (((L, isA, bk), (sc, ia, qa, rf, ba)), g), rfl, ⟨same.rf, ⟨N, hC⟩⟩, by rw [ht9]; exact hP, hD⟩, hS.F ht9⟩) hS.2.2 d_LW_bookmarkAt_16
