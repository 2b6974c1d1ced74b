abbrev c_RQ_addBookmark : ByteArray := prog_4_method_9_code
abbrev y_RQ_addBookmark : MethodName := ⟨"TwinTuners$Request", "addBookmark", "(I)V"⟩
def w_RQ_addBookmark : List Cond := .code y_RQ_addBookmark c_RQ_addBookmark 5 none :: tb_
abbrev c_TT_bookmark : ByteArray := prog_1_method_20_code
abbrev y_TT_bookmark : MethodName := ⟨"TwinTuners", "bookmark", "(II)I"⟩
def w_TT_bookmark : List Cond := .code y_TT_bookmark c_TT_bookmark 4 (some .int) :: tb_
set_option maxRecDepth 100000 in
theorem tb_389 : (.fieldLink "TwinTuners$Request" 9 "TwinTuners$Request" "bookmarkSeconds" "[I" : Cond) ∈ tb_ := tb_w 389 rfl rfl
set_option maxRecDepth 100000 in
theorem tb_407 : (.fieldLink "TwinTuners$Request" 34 "TwinTuners$Request" "bookmarks" "I" : Cond) ∈ tb_ := tb_w 407 rfl rfl
set_option maxRecDepth 100000 in
theorem tb_596 : (.code ⟨"TwinTuners", "bookmark", "(II)I"⟩ prog_1_method_20_code 4 (some .int) : Cond) ∈ tb_ := tb_w 596 rfl rfl
set_option maxRecDepth 100000 in
theorem tb_599 : (.methodLink "TwinTuners" 179 ⟨"TwinTuners$Request", "addBookmark", "(I)V"⟩ : Cond) ∈ tb_ := tb_w 599 rfl rfl
set_option maxRecDepth 100000 in
theorem tb_600 : (.instanceMethod ⟨"TwinTuners$Request", "addBookmark", "(I)V"⟩ : Cond) ∈ tb_ := tb_w 600 rfl rfl
set_option maxRecDepth 100000 in
theorem tb_601 : (.selects "TwinTuners$Request" ⟨"TwinTuners$Request", "addBookmark", "(I)V"⟩ ⟨"TwinTuners$Request", "addBookmark", "(I)V"⟩ : Cond) ∈ tb_ := tb_w 601 rfl rfl
set_option maxRecDepth 100000 in
theorem tb_602 : (.code ⟨"TwinTuners$Request", "addBookmark", "(I)V"⟩ prog_4_method_9_code 5 none : Cond) ∈ tb_ := tb_w 602 rfl rfl
theorem d_RQ_addBookmark_0 : decode c_RQ_addBookmark 0 = .ok (.iconst 0, 1) := by decide +kernel
theorem d_RQ_addBookmark_1 : decode c_RQ_addBookmark 1 = .ok (.istore_n 2, 1) := by decide +kernel
theorem d_RQ_addBookmark_2 : decode c_RQ_addBookmark 2 = .ok (.iload_n 2, 1) := by decide +kernel
theorem d_RQ_addBookmark_3 : decode c_RQ_addBookmark 3 = .ok (.aload_n 0, 1) := by decide +kernel
theorem d_RQ_addBookmark_4 : decode c_RQ_addBookmark 4 = .ok (.getfield 34, 3) := by decide +kernel
theorem d_RQ_addBookmark_7 : decode c_RQ_addBookmark 7 = .ok (.if_icmp .ge 19, 3) := by decide +kernel
theorem d_RQ_addBookmark_10 : decode c_RQ_addBookmark 10 = .ok (.aload_n 0, 1) := by decide +kernel
theorem d_RQ_addBookmark_11 : decode c_RQ_addBookmark 11 = .ok (.getfield 9, 3) := by decide +kernel
theorem d_RQ_addBookmark_14 : decode c_RQ_addBookmark 14 = .ok (.iload_n 2, 1) := by decide +kernel
theorem d_RQ_addBookmark_15 : decode c_RQ_addBookmark 15 = .ok (.iaload, 1) := by decide +kernel
theorem d_RQ_addBookmark_16 : decode c_RQ_addBookmark 16 = .ok (.iload_n 1, 1) := by decide +kernel
theorem d_RQ_addBookmark_17 : decode c_RQ_addBookmark 17 = .ok (.if_icmp .ge 9, 3) := by decide +kernel
theorem d_RQ_addBookmark_20 : decode c_RQ_addBookmark 20 = .ok (.iinc 2 1, 3) := by decide +kernel
theorem d_RQ_addBookmark_23 : decode c_RQ_addBookmark 23 = .ok (.goto (-21), 3) := by decide +kernel
theorem d_RQ_addBookmark_26 : decode c_RQ_addBookmark 26 = .ok (.iload_n 2, 1) := by decide +kernel
theorem d_RQ_addBookmark_27 : decode c_RQ_addBookmark 27 = .ok (.aload_n 0, 1) := by decide +kernel
theorem d_RQ_addBookmark_28 : decode c_RQ_addBookmark 28 = .ok (.getfield 34, 3) := by decide +kernel
theorem d_RQ_addBookmark_31 : decode c_RQ_addBookmark 31 = .ok (.if_icmp .ge 17, 3) := by decide +kernel
theorem d_RQ_addBookmark_34 : decode c_RQ_addBookmark 34 = .ok (.aload_n 0, 1) := by decide +kernel
theorem d_RQ_addBookmark_35 : decode c_RQ_addBookmark 35 = .ok (.getfield 9, 3) := by decide +kernel
theorem d_RQ_addBookmark_38 : decode c_RQ_addBookmark 38 = .ok (.iload_n 2, 1) := by decide +kernel
theorem d_RQ_addBookmark_39 : decode c_RQ_addBookmark 39 = .ok (.iaload, 1) := by decide +kernel
theorem d_RQ_addBookmark_40 : decode c_RQ_addBookmark 40 = .ok (.iload_n 1, 1) := by decide +kernel
theorem d_RQ_addBookmark_41 : decode c_RQ_addBookmark 41 = .ok (.if_icmp .ne 7, 3) := by decide +kernel
theorem d_RQ_addBookmark_44 : decode c_RQ_addBookmark 44 = .ok (.iconst 1, 1) := by decide +kernel
theorem d_RQ_addBookmark_45 : decode c_RQ_addBookmark 45 = .ok (.goto 4, 3) := by decide +kernel
theorem d_RQ_addBookmark_48 : decode c_RQ_addBookmark 48 = .ok (.iconst 0, 1) := by decide +kernel
theorem d_RQ_addBookmark_49 : decode c_RQ_addBookmark 49 = .ok (.istore_n 3, 1) := by decide +kernel
theorem d_RQ_addBookmark_50 : decode c_RQ_addBookmark 50 = .ok (.iload_n 3, 1) := by decide +kernel
theorem d_RQ_addBookmark_51 : decode c_RQ_addBookmark 51 = .ok (.ifCond .ne 12, 3) := by decide +kernel
theorem d_RQ_addBookmark_54 : decode c_RQ_addBookmark 54 = .ok (.aload_n 0, 1) := by decide +kernel
theorem d_RQ_addBookmark_55 : decode c_RQ_addBookmark 55 = .ok (.getfield 34, 3) := by decide +kernel
theorem d_RQ_addBookmark_58 : decode c_RQ_addBookmark 58 = .ok (.bipush 6, 2) := by decide +kernel
theorem d_RQ_addBookmark_60 : decode c_RQ_addBookmark 60 = .ok (.if_icmp .lt 4, 3) := by decide +kernel
theorem d_RQ_addBookmark_63 : decode c_RQ_addBookmark 63 = .ok (.return_, 1) := by decide +kernel
theorem d_RQ_addBookmark_64 : decode c_RQ_addBookmark 64 = .ok (.aload_n 0, 1) := by decide +kernel
theorem d_RQ_addBookmark_65 : decode c_RQ_addBookmark 65 = .ok (.getfield 34, 3) := by decide +kernel
theorem d_RQ_addBookmark_68 : decode c_RQ_addBookmark 68 = .ok (.istore 4, 2) := by decide +kernel
theorem d_RQ_addBookmark_70 : decode c_RQ_addBookmark 70 = .ok (.iload 4, 2) := by decide +kernel
theorem d_RQ_addBookmark_72 : decode c_RQ_addBookmark 72 = .ok (.iload_n 2, 1) := by decide +kernel
theorem d_RQ_addBookmark_73 : decode c_RQ_addBookmark 73 = .ok (.if_icmp .le 25, 3) := by decide +kernel
theorem d_RQ_addBookmark_76 : decode c_RQ_addBookmark 76 = .ok (.aload_n 0, 1) := by decide +kernel
theorem d_RQ_addBookmark_77 : decode c_RQ_addBookmark 77 = .ok (.getfield 9, 3) := by decide +kernel
theorem d_RQ_addBookmark_80 : decode c_RQ_addBookmark 80 = .ok (.iload 4, 2) := by decide +kernel
theorem d_RQ_addBookmark_82 : decode c_RQ_addBookmark 82 = .ok (.aload_n 0, 1) := by decide +kernel
theorem d_RQ_addBookmark_83 : decode c_RQ_addBookmark 83 = .ok (.getfield 9, 3) := by decide +kernel
theorem d_RQ_addBookmark_86 : decode c_RQ_addBookmark 86 = .ok (.iload 4, 2) := by decide +kernel
theorem d_RQ_addBookmark_88 : decode c_RQ_addBookmark 88 = .ok (.iconst 1, 1) := by decide +kernel
theorem d_RQ_addBookmark_89 : decode c_RQ_addBookmark 89 = .ok (.isub, 1) := by decide +kernel
theorem d_RQ_addBookmark_90 : decode c_RQ_addBookmark 90 = .ok (.iaload, 1) := by decide +kernel
theorem d_RQ_addBookmark_91 : decode c_RQ_addBookmark 91 = .ok (.iastore, 1) := by decide +kernel
theorem d_RQ_addBookmark_92 : decode c_RQ_addBookmark 92 = .ok (.iinc 4 (-1), 3) := by decide +kernel
theorem d_RQ_addBookmark_95 : decode c_RQ_addBookmark 95 = .ok (.goto (-25), 3) := by decide +kernel
theorem d_RQ_addBookmark_98 : decode c_RQ_addBookmark 98 = .ok (.aload_n 0, 1) := by decide +kernel
theorem d_RQ_addBookmark_99 : decode c_RQ_addBookmark 99 = .ok (.getfield 9, 3) := by decide +kernel
theorem d_RQ_addBookmark_102 : decode c_RQ_addBookmark 102 = .ok (.iload_n 2, 1) := by decide +kernel
theorem d_RQ_addBookmark_103 : decode c_RQ_addBookmark 103 = .ok (.iload_n 1, 1) := by decide +kernel
theorem d_RQ_addBookmark_104 : decode c_RQ_addBookmark 104 = .ok (.iastore, 1) := by decide +kernel
theorem d_RQ_addBookmark_105 : decode c_RQ_addBookmark 105 = .ok (.aload_n 0, 1) := by decide +kernel
theorem d_RQ_addBookmark_106 : decode c_RQ_addBookmark 106 = .ok (.dup, 1) := by decide +kernel
theorem d_RQ_addBookmark_107 : decode c_RQ_addBookmark 107 = .ok (.getfield 34, 3) := by decide +kernel
theorem d_RQ_addBookmark_110 : decode c_RQ_addBookmark 110 = .ok (.iconst 1, 1) := by decide +kernel
theorem d_RQ_addBookmark_111 : decode c_RQ_addBookmark 111 = .ok (.iadd, 1) := by decide +kernel
theorem d_RQ_addBookmark_112 : decode c_RQ_addBookmark 112 = .ok (.putfield 34, 3) := by decide +kernel
theorem d_RQ_addBookmark_115 : decode c_RQ_addBookmark 115 = .ok (.return_, 1) := by decide +kernel
theorem d_TT_bookmark_0 : decode c_TT_bookmark 0 = .ok (.aload_n 0, 1) := by decide +kernel
theorem d_TT_bookmark_1 : decode c_TT_bookmark 1 = .ok (.iload_n 1, 1) := by decide +kernel
theorem d_TT_bookmark_2 : decode c_TT_bookmark 2 = .ok (.invokevirtual 80, 3) := by decide +kernel
theorem d_TT_bookmark_5 : decode c_TT_bookmark 5 = .ok (.astore_n 3, 1) := by decide +kernel
theorem d_TT_bookmark_6 : decode c_TT_bookmark 6 = .ok (.iload_n 2, 1) := by decide +kernel
theorem d_TT_bookmark_7 : decode c_TT_bookmark 7 = .ok (.iconst 0, 1) := by decide +kernel
theorem d_TT_bookmark_8 : decode c_TT_bookmark 8 = .ok (.bipush 99, 2) := by decide +kernel
theorem d_TT_bookmark_10 : decode c_TT_bookmark 10 = .ok (.invokestatic 57, 3) := by decide +kernel
theorem d_TT_bookmark_13 : decode c_TT_bookmark 13 = .ok (.ifCond .ne 13, 3) := by decide +kernel
theorem d_TT_bookmark_26 : decode c_TT_bookmark 26 = .ok (.aload_n 3, 1) := by decide +kernel
theorem d_TT_bookmark_27 : decode c_TT_bookmark 27 = .ok (.invokevirtual 171, 3) := by decide +kernel
theorem d_TT_bookmark_30 : decode c_TT_bookmark 30 = .ok (.ifCond .eq 12, 3) := by decide +kernel
theorem d_TT_bookmark_33 : decode c_TT_bookmark 33 = .ok (.aload_n 3, 1) := by decide +kernel
theorem d_TT_bookmark_34 : decode c_TT_bookmark 34 = .ok (.getfield 174, 3) := by decide +kernel
theorem d_TT_bookmark_37 : decode c_TT_bookmark 37 = .ok (.bipush 6, 2) := by decide +kernel
theorem d_TT_bookmark_39 : decode c_TT_bookmark 39 = .ok (.if_icmp .lt 13, 3) := by decide +kernel
theorem d_TT_bookmark_52 : decode c_TT_bookmark 52 = .ok (.aload_n 3, 1) := by decide +kernel
theorem d_TT_bookmark_53 : decode c_TT_bookmark 53 = .ok (.iload_n 2, 1) := by decide +kernel
theorem d_TT_bookmark_54 : decode c_TT_bookmark 54 = .ok (.invokevirtual 179, 3) := by decide +kernel
theorem d_TT_bookmark_57 : decode c_TT_bookmark 57 = .ok (.aload_n 3, 1) := by decide +kernel
theorem d_TT_bookmark_58 : decode c_TT_bookmark 58 = .ok (.getfield 174, 3) := by decide +kernel
theorem d_TT_bookmark_61 : decode c_TT_bookmark 61 = .ok (.ireturn, 1) := by decide +kernel
theorem ap_E {E w : va_W} {k : Nat} {q : Nat × va_E} (h : E[k]? = some q) : (E ++ w)[k]? = some q := by
  rw [List.getElem?_append_left (List.getElem?_eq_some_iff.mp h).1]; exact h
theorem ap_w {E w : va_W} {j : Nat} {q : Nat × va_E} (h : w[j]? = some q) : (E ++ w)[E.length + j]? = some q := by
  rw [List.getElem?_append_right (Nat.le_add_right _ _), Nat.add_sub_cancel_left]; exact h
theorem ap_or {E w : va_W} {k : Nat} {q : Nat × va_E} (h : (E ++ w)[k]? = some q) : E[k]? = some q ∨ (E.length ≤ k ∧ w[k - E.length]? = some q) := by
  rcases Nat.lt_or_ge k E.length with g | g
  · rw [List.getElem?_append_left g] at h; exact Or.inl h
  · rw [List.getElem?_append_right g] at h; exact Or.inr ⟨g, h⟩
theorem ap_out {D : va_G} {cl : List vw_C} {A : Nat → Prop} {E w0 : va_W} {H : Heap} (hP : va_P D cl (E ++ w0) H) (hD : va_D A (E ++ w0)) {k : Nat} {q : Nat × va_E} (h : E[k]? = some q) : ¬ va_A w0 H.size q.1 := by
  intro g
  rcases g with ⟨j, e, hj⟩ | hj
  · have h1 := hD.1 k (E.length + j) q (q.1, e) (ap_E h) (ap_w hj) rfl
    have h2 := (List.getElem?_eq_some_iff.mp h).1
    omega
  · have h1 := (hP k q (ap_E h)).lt
    omega
/-- a call on the part w0 of the world: the part E stays -/
theorem fr_app {D : va_G} {cl : List vw_C} {A : Nat → Prop} {E w0 w1 : va_W} {H H1 : Heap} (hP : va_P D cl (E ++ w0) H) (hD : va_D A (E ++ w0)) (hk : ∀ q : Nat, q < H.size → ¬ va_A w0 H.size q → H1[q]? = H[q]?) (hF : ∀ q, va_A w0 H.size q → A q) (hP1 : va_P D cl w1 H1) (hD1 : va_D (va_A w0 H.size) w1) : va_P D cl (E ++ w1) H1 ∧ va_D A (E ++ w1) := by
  constructor
  · intro k q h
    rcases ap_or h with g | g
    · exact (hP k q (ap_E g)).kept (hk q.1 ((hP k q (ap_E g)).lt) (ap_out hP hD g))
    · exact hP1 _ q g.2
  · constructor
    · intro i j p q hi hj e
      rcases ap_or hi with g | g <;> rcases ap_or hj with g' | g'
      · exact hD.1 i j p q (ap_E g) (ap_E g') e
      · exact absurd (by rw [e]; exact hD1.2 _ q g'.2) (ap_out hP hD g)
      · exact absurd (by rw [← e]; exact hD1.2 _ p g.2) (ap_out hP hD g')
      · have h1 := hD1.1 _ _ p q g.2 g'.2 e
        omega
    · intro k q h
      rcases ap_or h with g | g
      · exact hD.2 k q (ap_E g)
      · exact hF q.1 (hD1.2 _ q g.2)
theorem ap_P {D : va_G} {cl : List vw_C} {E w : va_W} {H : Heap} (hP : va_P D cl (E ++ w) H) : va_P D cl w H := fun _ q h => hP _ q (ap_w h)
theorem ap_D {A : Nat → Prop} {E w : va_W} (hD : va_D A (E ++ w)) : va_D A w := ⟨fun i j p q hi hj e => by
  have h1 := hD.1 _ _ p q (ap_w (E := E) hi) (ap_w (E := E) hj) e
  omega, fun _ q h => hD.2 _ q (ap_w h)⟩
set_option maxHeartbeats 8000000 in
set_option maxRecDepth 100000 in
theorem k_RQ_addBookmark (l : Launch) (dC : Nat → ClassId) (dI : Nat → Nat → Nat) (cd : Nat → Nat) (kI kQ : ClassId) (L : List Nat) (isA : Nat → Bool) (bk : Nat → Nat) (sc : Nat → Int32) (ia : Nat → Nat → Int32) (qa : Nat → Nat → Option Nat) (rf ba : Nat → Nat → Int32) (sz Bd : Nat) (N : Nat) (hC : CI N L isA bk sc qa rf) (a : Nat) (ha : a ∈ L) (hn : isA a = false) (x : Int32) : Met l y_RQ_addBookmark w_RQ_addBookmark ({ frames := 0, cells := 0, slots := 0, locals := 0 }) (frP (dC, dI) (CW cd kI kQ L isA bk sc ia qa rf ba) (CT kI kQ) sz Bd [.ref a, .int x]) (tQ (dC, dI) (cW cd kI kQ L isA bk) (va_A (CW cd kI kQ L isA bk sc ia qa rf ba) sz) vN (fun r u => sc = u.1 ∧ ia = u.2.1 ∧ qa = u.2.2.1 ∧ CI N L isA bk u.1 u.2.2.1 u.2.2.2.1)) 0 0 (va_A (CW cd kI kQ L isA bk sc ia qa rf ba) sz) := by
  refine Met.ofW (cc := c_RQ_addBookmark) (maxL := 5) (ret := none) (by decide) rfl ?_
  intro p e s m args below meth c s₁ B hml hv
  obtain ⟨rfl, ⟨hsz, hBs⟩, hP, hK, hD0, hV⟩ := hv
  have hx := B.exec
  have hb := B.bytes
  have hr := B.returns
  have ht : ∀ w ∈ tb_, w.before _ s = true := fun w h => atoms_spec (ws := w_RQ_addBookmark) B.pre w (List.mem_cons_of_mem _ h)
  have hown : s.vm.findClass R_RQ = some m.cls := findClass_of_methodNamed B.named
  have hlocks := B.notSynchronized
  subst hsz
  have hD := hD0.self (sz := s.heap.size)
  have hAB : ∀ q, va_A (CW cd kI kQ L isA bk sc ia qa rf ba) s.heap.size q → Bd ≤ q := fr_AB hD0 hBs
  generalize hAe : va_A (CW cd kI kQ L isA bk sc ia qa rf ba) s.heap.size = A at hD hAB ⊢
  have hA : ∀ q : Nat, s.heap.size ≤ q → A q := fun q h => by rw [← hAe]; exact Or.inr h
  have hS : va_S A s.heap s.heap [] := va_S.rf
  have hs : same [] sc sc := same.rf
  have hP : va_P (dC, dI) cls_ (CW cd kI kQ L isA bk sc ia qa rf ba) s.heap := hP
  have hl := lv_entry ([.ref a, .int x]) (n := 5) (Nat.le_of_ble_eq_true rfl)
  rw [lg_entry_eq]
  generalize (lg_sl ([.ref a, .int x]) ++ List.replicate (5 - (lg_sl ([.ref a, .int x])).length) Slot.unset).toArray = ls at hl ⊢
  have hl : lv_has ls 5 [(0, .ref a), (1, .int x)] := hl
  have hN := hC.1.1
  have h14 := (hC.2.2.2.2.2.2 a ha hn).2.1
  obtain ⟨B9, hB9, eB9⟩ := of_n (n := 6) (x := rf a 14) (by omega) (by omega)
  refine lv_iconst (v := 0) hx hb d_RQ_addBookmark_0 (by decide) ?_
  refine lv_istore_n hx hb d_RQ_addBookmark_1 rfl hl (by decide) rfl (fun ls hl => ?_)
  have hl : lv_has ls 5 [(2, .int 0), (0, .ref a), (1, .int x)] := hl
  have J_2 : ∀ (n_2 : Nat) (k : Nat)  (H : Heap) (locs : List Loc) (ls : Array Slot), B9 - k < n_2 → k ≤ B9 → lv_has ls 5 [(2, .int (nI k)), (1, .int x), (0, .ref a)] → va_P (dC, dI) cls_ (CW cd kI kQ L isA bk sc ia qa rf ba) H → va_D A (CW cd kI kQ L isA bk sc ia qa rf ba) → va_S A s.heap H locs → W p l e (headSpec w_RQ_addBookmark ({ frames := 0, cells := 0, slots := 0, locals := 0 })).room s m (([.ref a, .int x] : List Value).toArray) below meth c H locs 0 0 (MQ below (tQ (dC, dI) (cW cd kI kQ L isA bk) A vN (fun r u => sc = u.1 ∧ ia = u.2.1 ∧ qa = u.2.2.1 ∧ CI N L isA bk u.1 u.2.2.1 u.2.2.2.1)) (([.ref a, .int x] : List Value).toArray) s 0 0 A) (F0 m 2 ls []) := by
    intro n_2
    induction n_2 with
    | zero => intro k H locs ls hmu hc2_0 hl hP hD hS; exact absurd hmu (by omega)
    | succ n_2 ih_2 =>
      intro k H locs ls hmu hc2_0 hl hP hD hS
      have J_26 : ∀   (H : Heap) (locs : List Loc) (ls : Array Slot), lv_has ls 5 [(2, .int (nI k)), (1, .int x), (0, .ref a)] → va_P (dC, dI) cls_ (CW cd kI kQ L isA bk sc ia qa rf ba) H → va_D A (CW cd kI kQ L isA bk sc ia qa rf ba) → va_S A s.heap H locs → W p l e (headSpec w_RQ_addBookmark ({ frames := 0, cells := 0, slots := 0, locals := 0 })).room s m (([.ref a, .int x] : List Value).toArray) below meth c H locs 0 0 (MQ below (tQ (dC, dI) (cW cd kI kQ L isA bk) A vN (fun r u => sc = u.1 ∧ ia = u.2.1 ∧ qa = u.2.2.1 ∧ CI N L isA bk u.1 u.2.2.1 u.2.2.2.1)) (([.ref a, .int x] : List Value).toArray) s 0 0 A) (F0 m 26 ls []) := by
        intro H locs ls hl hP hD hS
        have J_70 : ∀ (n_70 : Nat) (k2 : Nat) (ba_70 : Nat → Nat → Int32) (H : Heap) (locs : List Loc) (ls : Array Slot), k2 < n_70 → k2 ≤ B9 → B9 < 6 → lv_has ls 5 [(4, .int (nI k2)), (2, .int (nI k)), (1, .int x), (0, .ref a)] → va_P (dC, dI) cls_ (CW cd kI kQ L isA bk sc ia qa rf ba_70) H → va_D A (CW cd kI kQ L isA bk sc ia qa rf ba_70) → va_S A s.heap H locs → W p l e (headSpec w_RQ_addBookmark ({ frames := 0, cells := 0, slots := 0, locals := 0 })).room s m (([.ref a, .int x] : List Value).toArray) below meth c H locs 0 0 (MQ below (tQ (dC, dI) (cW cd kI kQ L isA bk) A vN (fun r u => sc = u.1 ∧ ia = u.2.1 ∧ qa = u.2.2.1 ∧ CI N L isA bk u.1 u.2.2.1 u.2.2.2.1)) (([.ref a, .int x] : List Value).toArray) s 0 0 A) (F0 m 70 ls []) := by
          intro n_70
          induction n_70 with
          | zero => intro k2 ba_70 H locs ls hmu hc70_0 hc70_1 hl hP hD hS; exact absurd hmu (by omega)
          | succ n_70 ih_70 =>
            intro k2 ba_70 H locs ls hmu hc70_0 hc70_1 hl hP hD hS
            refine lv_iload hx hb d_RQ_addBookmark_70 (lv_at hl 0 rfl) ?_
            refine lv_iload_n hx hb d_RQ_addBookmark_72 rfl (lv_at hl 1 rfl) ?_
            refine lv_icmp_le (tgt := 98) hx hb d_RQ_addBookmark_73 (by decide) (fun h73_1 => ?_) (fun h73_1 => ?_)
            · have h73_1 := h73_1
              have i73_1 := ti_le h73_1
              (try rw [nI_toInt (show k2 < 2 ^ 31 by omega)] at i73_1)
              (try rw [nI_toInt (show k < 2 ^ 31 by omega)] at i73_1)
              refine lv_aload_n hx hb d_RQ_addBookmark_98 rfl (lv_at hl 3 rfl) ?_
              obtain ⟨kq, hkq⟩ := pq_at (X := CX cd kI kQ sc ia qa) (kI := kI) (bk := bk) (rf := rf) (ba := ba_70) ha hn
              refine va_get (D := (dC, dI)) (ci := 4) (v := .ref (bk a)) (C := R_RQ) (T := F_RQ) (N := 17) hx hb ht in_RQ hown hK hP kq hkq rfl 7 (by decide) (ht _ tb_389) (fun _ h9 => h9) rfl d_RQ_addBookmark_99 ?_
              refine lv_iload_n hx hb d_RQ_addBookmark_102 rfl (lv_at hl 1 rfl) ?_
              refine lv_iload_n hx hb d_RQ_addBookmark_103 rfl (lv_at hl 2 rfl) ?_
              obtain ⟨ka, hka⟩ := pq_arr (X := CX cd kI kQ sc ia qa) (kI := kI) (bk := bk) (rf := rf) (ba := ba_70) (hC.2.2.2.2.2.2 a ha hn).2.2.1 (hC.2.2.2.2.2.2 a ha hn).2.2.2
              have hD0 := hD
              refine va_iast hx hb hK hP hD hS ka 0 hka rfl (vp_in_nI (show k < 6 by omega) (by decide)) d_RQ_addBookmark_104 (fun H locs hP hD hS => ?_)
              rw [nI_clamp (show k < 2 ^ 31 by omega)] at hP hD
              rw [pq_seta hD0 (hC.2.2.2.2.2.2 a ha hn).2.2.1 (hC.2.2.2.2.2.2 a ha hn).2.2.2 hka] at hP hD
              have hP : va_P (dC, dI) cls_ (CW cd kI kQ L isA bk sc ia qa rf (va_up ba_70 (bk a) (upd (ba_70 (bk a)) k x))) H := hP
              have hD : va_D A (CW cd kI kQ L isA bk sc ia qa rf (va_up ba_70 (bk a) (upd (ba_70 (bk a)) k x))) := hD
              obtain ⟨ba1, eba1⟩ : ∃ q9_, q9_ = va_up ba_70 (bk a) (upd (ba_70 (bk a)) k x) := ⟨_, rfl⟩
              rw [← eba1] at hP hD
              refine lv_aload_n hx hb d_RQ_addBookmark_105 rfl (lv_at hl 3 rfl) ?_
              refine lv_dup hx hb d_RQ_addBookmark_106 rfl ?_
              obtain ⟨kq, hkq⟩ := pq_at (X := CX cd kI kQ sc ia qa) (kI := kI) (bk := bk) (rf := rf) (ba := ba1) ha hn
              refine va_get (D := (dC, dI)) (ci := 4) (v := .int (rf a 14)) (C := R_RQ) (T := F_RQ) (N := 17) hx hb ht in_RQ hown hK hP kq hkq rfl 14 (by decide) (ht _ tb_407) (fun _ h9 => h9) rfl d_RQ_addBookmark_107 ?_
              refine W.eq (g2 := F0 m 110 ls [.int (nI B9), .ref a]) (by rw [show rf a 14 = nI B9 from eB9]) ?_
              refine lv_iconst (v := 1) hx hb d_RQ_addBookmark_110 (by decide) ?_
              refine lv_iadd hx hb d_RQ_addBookmark_111 ?_
              refine lv_topi (fun v2 ev2 => ?_)
              obtain rfl : v2 = nI (B9 + 1) := ev2.trans (by rw [show (1 : Int32) = nI 1 from rfl, nI_add])
              obtain ⟨kq, hkq⟩ := pq_at (X := CX cd kI kQ sc ia qa) (kI := kI) (bk := bk) (rf := rf) (ba := ba1) ha hn
              have hD0 := hD
              refine va_put (D := (dC, dI)) (ci := 4) (v := .int (nI (B9 + 1))) (ty := .int) (C := R_RQ) (T := F_RQ) (N := 17) hx hb ht in_RQ t_RQ t_RQ_ok n_RQ hown hK hP hD hS kq hkq rfl 14 (by decide) (ht _ tb_407) (fun _ h9 => h9) rfl (by decide +kernel) rfl rfl (Nat.le_of_ble_eq_true rfl) d_RQ_addBookmark_112 (fun H locs hP hD hS => ?_)
              rw [pq_set hD0 ha hn hkq rfl] at hP hD
              have hP : va_P (dC, dI) cls_ (CW cd kI kQ L isA bk sc ia qa (va_up rf a (va_up (rf a) 14 (nI (B9 + 1)))) ba1) H := hP
              have hD : va_D A (CW cd kI kQ L isA bk sc ia qa (va_up rf a (va_up (rf a) 14 (nI (B9 + 1)))) ba1) := hD
              obtain ⟨rf3, erf3⟩ : ∃ q9_, q9_ = va_up rf a (va_up (rf a) 14 (nI (B9 + 1))) := ⟨_, rfl⟩
              rw [← erf3] at hP hD
              have hC : CI N L isA bk sc qa rf3 := by rw [erf3]; exact CI_r hC (by decide) (Or.inr (by rw [nI_toInt (by omega)]; omega))
              exact W.vret hx hb hr (fun t ht9 hW => ⟨⟨(), (sc, ia, qa, rf3, ba1), rfl, ⟨rfl, rfl, rfl, hC⟩, by rw [ht9]; exact hP, hD⟩, hS.F ht9⟩) hS.2.2 d_RQ_addBookmark_115
            · have h73_1 := h73_1
              have i73_1 := ti_nle h73_1
              (try rw [nI_toInt (show k2 < 2 ^ 31 by omega)] at i73_1)
              (try rw [nI_toInt (show k < 2 ^ 31 by omega)] at i73_1)
              refine lv_aload_n hx hb d_RQ_addBookmark_76 rfl (lv_at hl 3 rfl) ?_
              obtain ⟨kq, hkq⟩ := pq_at (X := CX cd kI kQ sc ia qa) (kI := kI) (bk := bk) (rf := rf) (ba := ba_70) ha hn
              refine va_get (D := (dC, dI)) (ci := 4) (v := .ref (bk a)) (C := R_RQ) (T := F_RQ) (N := 17) hx hb ht in_RQ hown hK hP kq hkq rfl 7 (by decide) (ht _ tb_389) (fun _ h9 => h9) rfl d_RQ_addBookmark_77 ?_
              refine lv_iload hx hb d_RQ_addBookmark_80 (lv_at hl 0 rfl) ?_
              refine lv_aload_n hx hb d_RQ_addBookmark_82 rfl (lv_at hl 3 rfl) ?_
              obtain ⟨kq, hkq⟩ := pq_at (X := CX cd kI kQ sc ia qa) (kI := kI) (bk := bk) (rf := rf) (ba := ba_70) ha hn
              refine va_get (D := (dC, dI)) (ci := 4) (v := .ref (bk a)) (C := R_RQ) (T := F_RQ) (N := 17) hx hb ht in_RQ hown hK hP kq hkq rfl 7 (by decide) (ht _ tb_389) (fun _ h9 => h9) rfl d_RQ_addBookmark_83 ?_
              refine lv_iload hx hb d_RQ_addBookmark_86 (lv_at hl 0 rfl) ?_
              refine lv_iconst (v := 1) hx hb d_RQ_addBookmark_88 (by decide) ?_
              refine lv_isub hx hb d_RQ_addBookmark_89 ?_
              refine lv_topi (fun v4 ev4 => ?_)
              obtain rfl : v4 = nI (k2 - 1) := ev4.trans (by rw [show (1 : Int32) = nI 1 from rfl, pk_sub (show 1 ≤ k2 by omega)])
              obtain ⟨ka, hka⟩ := pq_arr (X := CX cd kI kQ sc ia qa) (kI := kI) (bk := bk) (rf := rf) (ba := ba_70) (hC.2.2.2.2.2.2 a ha hn).2.2.1 (hC.2.2.2.2.2.2 a ha hn).2.2.2
              refine va_iald hx hb hK hP ka 0 hka rfl (vp_in_nI (show k2 - 1 < 6 by omega) (by decide)) d_RQ_addBookmark_90 ?_
              refine W.eq (g2 := F0 m 91 ls [.int (ba_70 (bk a) (k2 - 1)), .int (nI k2), .ref (bk a)]) (by rw [nI_clamp (show k2 - 1 < 2 ^ 31 by omega)]) ?_
              obtain ⟨ka, hka⟩ := pq_arr (X := CX cd kI kQ sc ia qa) (kI := kI) (bk := bk) (rf := rf) (ba := ba_70) (hC.2.2.2.2.2.2 a ha hn).2.2.1 (hC.2.2.2.2.2.2 a ha hn).2.2.2
              have hD0 := hD
              refine va_iast hx hb hK hP hD hS ka 0 hka rfl (vp_in_nI (show k2 < 6 by omega) (by decide)) d_RQ_addBookmark_91 (fun H locs hP hD hS => ?_)
              rw [nI_clamp (show k2 < 2 ^ 31 by omega)] at hP hD
              rw [pq_seta hD0 (hC.2.2.2.2.2.2 a ha hn).2.2.1 (hC.2.2.2.2.2.2 a ha hn).2.2.2 hka] at hP hD
              have hP : va_P (dC, dI) cls_ (CW cd kI kQ L isA bk sc ia qa rf (va_up ba_70 (bk a) (upd (ba_70 (bk a)) k2 (ba_70 (bk a) (k2 - 1))))) H := hP
              have hD : va_D A (CW cd kI kQ L isA bk sc ia qa rf (va_up ba_70 (bk a) (upd (ba_70 (bk a)) k2 (ba_70 (bk a) (k2 - 1))))) := hD
              obtain ⟨ba5, eba5⟩ : ∃ q9_, q9_ = va_up ba_70 (bk a) (upd (ba_70 (bk a)) k2 (ba_70 (bk a) (k2 - 1))) := ⟨_, rfl⟩
              rw [← eba5] at hP hD
              refine lv_iinc (k := 0) (v := nI (k2 - 1)) hx hb d_RQ_addBookmark_92 hl rfl (show nI k2 + (-1) = nI (k2 - 1) from by obtain ⟨q, rfl⟩ : ∃ q, k2 = q + 1 := ⟨k2 - 1, by omega⟩; exact pk_m1 q) (by decide) rfl (fun ls hl => ?_)
              have hl : lv_has ls 5 [(4, .int (nI (k2 - 1))), (2, .int (nI k)), (1, .int x), (0, .ref a)] := hl
              refine lv_goto (tgt := 70) hx hb d_RQ_addBookmark_95 (by decide) ?_
              exact ih_70 (k2 - 1) ba5 H _ ls (by omega) (by omega) (by omega) hl hP hD hS
        refine lv_iload_n hx hb d_RQ_addBookmark_26 rfl (lv_at hl 0 rfl) ?_
        refine lv_aload_n hx hb d_RQ_addBookmark_27 rfl (lv_at hl 2 rfl) ?_
        obtain ⟨kq, hkq⟩ := pq_at (X := CX cd kI kQ sc ia qa) (kI := kI) (bk := bk) (rf := rf) (ba := ba) ha hn
        refine va_get (D := (dC, dI)) (ci := 4) (v := .int (rf a 14)) (C := R_RQ) (T := F_RQ) (N := 17) hx hb ht in_RQ hown hK hP kq hkq rfl 14 (by decide) (ht _ tb_407) (fun _ h9 => h9) rfl d_RQ_addBookmark_28 ?_
        refine W.eq (g2 := F0 m 31 ls [.int (nI B9), .int (nI k)]) (by rw [show rf a 14 = nI B9 from eB9]) ?_
        refine lv_icmp_ge (tgt := 48) hx hb d_RQ_addBookmark_31 (by decide) (fun h31_2 => ?_) (fun h31_2 => ?_)
        · have h31_2 := h31_2
          have i31_2 := ti_le h31_2
          (try rw [nI_toInt (show k < 2 ^ 31 by omega)] at i31_2)
          (try rw [nI_toInt (show B9 < 2 ^ 31 by omega)] at i31_2)
          refine lv_iconst (v := 0) hx hb d_RQ_addBookmark_48 (by decide) ?_
          refine lv_istore_n hx hb d_RQ_addBookmark_49 rfl hl (by decide) rfl (fun ls hl => ?_)
          have hl : lv_has ls 5 [(3, .int 0), (2, .int (nI k)), (1, .int x), (0, .ref a)] := hl
          refine lv_iload_n hx hb d_RQ_addBookmark_50 rfl (lv_at hl 0 rfl) ?_
          refine lv_if_ne (tgt := 63) hx hb d_RQ_addBookmark_51 (by decide) (fun h9 => absurd (by decide) h9) (fun _ => ?_)
          refine lv_aload_n hx hb d_RQ_addBookmark_54 rfl (lv_at hl 3 rfl) ?_
          obtain ⟨kq, hkq⟩ := pq_at (X := CX cd kI kQ sc ia qa) (kI := kI) (bk := bk) (rf := rf) (ba := ba) ha hn
          refine va_get (D := (dC, dI)) (ci := 4) (v := .int (rf a 14)) (C := R_RQ) (T := F_RQ) (N := 17) hx hb ht in_RQ hown hK hP kq hkq rfl 14 (by decide) (ht _ tb_407) (fun _ h9 => h9) rfl d_RQ_addBookmark_55 ?_
          refine W.eq (g2 := F0 m 58 ls [.int (nI B9)]) (by rw [show rf a 14 = nI B9 from eB9]) ?_
          refine lv_bipush (v := 6) hx hb d_RQ_addBookmark_58 (by decide) ?_
          refine lv_icmp_lt (tgt := 64) hx hb d_RQ_addBookmark_60 (by decide) (fun h60_3 => ?_) (fun h60_3 => ?_)
          · have h60_3 := h60_3
            have i60_3 := ti_lt h60_3
            (try rw [nI_toInt (show B9 < 2 ^ 31 by omega)] at i60_3)
            (try rw [l_6] at i60_3)
            refine lv_aload_n hx hb d_RQ_addBookmark_64 rfl (lv_at hl 3 rfl) ?_
            obtain ⟨kq, hkq⟩ := pq_at (X := CX cd kI kQ sc ia qa) (kI := kI) (bk := bk) (rf := rf) (ba := ba) ha hn
            refine va_get (D := (dC, dI)) (ci := 4) (v := .int (rf a 14)) (C := R_RQ) (T := F_RQ) (N := 17) hx hb ht in_RQ hown hK hP kq hkq rfl 14 (by decide) (ht _ tb_407) (fun _ h9 => h9) rfl d_RQ_addBookmark_65 ?_
            refine W.eq (g2 := F0 m 68 ls [.int (nI B9)]) (by rw [show rf a 14 = nI B9 from eB9]) ?_
            refine lv_istore hx hb d_RQ_addBookmark_68 hl (by decide) rfl (fun ls hl => ?_)
            have hl : lv_has ls 5 [(4, .int (nI B9)), (3, .int 0), (2, .int (nI k)), (1, .int x), (0, .ref a)] := hl
            have hl := lv_sub hl [0, 2, 3, 4] (l' := [(4, .int (nI B9)), (2, .int (nI k)), (1, .int x), (0, .ref a)]) rfl
            exact J_70 (B9 + 1) B9 ba H _ ls (by omega) (by omega) (by omega) hl hP hD hS
          · have h60_3 := h60_3
            have i60_3 := ti_nlt h60_3
            (try rw [nI_toInt (show B9 < 2 ^ 31 by omega)] at i60_3)
            (try rw [l_6] at i60_3)
            exact W.vret hx hb hr (fun t ht9 hW => ⟨⟨(), (sc, ia, qa, rf, ba), rfl, ⟨rfl, rfl, rfl, hC⟩, by rw [ht9]; exact hP, hD⟩, hS.F ht9⟩) hS.2.2 d_RQ_addBookmark_63
        · have h31_2 := h31_2
          have i31_2 := ti_nle h31_2
          (try rw [nI_toInt (show k < 2 ^ 31 by omega)] at i31_2)
          (try rw [nI_toInt (show B9 < 2 ^ 31 by omega)] at i31_2)
          refine lv_aload_n hx hb d_RQ_addBookmark_34 rfl (lv_at hl 2 rfl) ?_
          obtain ⟨kq, hkq⟩ := pq_at (X := CX cd kI kQ sc ia qa) (kI := kI) (bk := bk) (rf := rf) (ba := ba) ha hn
          refine va_get (D := (dC, dI)) (ci := 4) (v := .ref (bk a)) (C := R_RQ) (T := F_RQ) (N := 17) hx hb ht in_RQ hown hK hP kq hkq rfl 7 (by decide) (ht _ tb_389) (fun _ h9 => h9) rfl d_RQ_addBookmark_35 ?_
          refine lv_iload_n hx hb d_RQ_addBookmark_38 rfl (lv_at hl 0 rfl) ?_
          obtain ⟨ka, hka⟩ := pq_arr (X := CX cd kI kQ sc ia qa) (kI := kI) (bk := bk) (rf := rf) (ba := ba) (hC.2.2.2.2.2.2 a ha hn).2.2.1 (hC.2.2.2.2.2.2 a ha hn).2.2.2
          refine va_iald hx hb hK hP ka 0 hka rfl (vp_in_nI (show k < 6 by omega) (by decide)) d_RQ_addBookmark_39 ?_
          refine W.eq (g2 := F0 m 40 ls [.int (ba (bk a) k)]) (by rw [nI_clamp (show k < 2 ^ 31 by omega)]) ?_
          refine lv_iload_n hx hb d_RQ_addBookmark_40 rfl (lv_at hl 1 rfl) ?_
          refine lv_icmp_ne (tgt := 48) hx hb d_RQ_addBookmark_41 (by decide) (fun h41_4 => ?_) (fun h41_4 => ?_)
          · have h41_4 := h41_4
            have i41_4 := ti_ne h41_4
            refine lv_iconst (v := 0) hx hb d_RQ_addBookmark_48 (by decide) ?_
            refine lv_istore_n hx hb d_RQ_addBookmark_49 rfl hl (by decide) rfl (fun ls hl => ?_)
            have hl : lv_has ls 5 [(3, .int 0), (2, .int (nI k)), (1, .int x), (0, .ref a)] := hl
            refine lv_iload_n hx hb d_RQ_addBookmark_50 rfl (lv_at hl 0 rfl) ?_
            refine lv_if_ne (tgt := 63) hx hb d_RQ_addBookmark_51 (by decide) (fun h9 => absurd (by decide) h9) (fun _ => ?_)
            refine lv_aload_n hx hb d_RQ_addBookmark_54 rfl (lv_at hl 3 rfl) ?_
            obtain ⟨kq, hkq⟩ := pq_at (X := CX cd kI kQ sc ia qa) (kI := kI) (bk := bk) (rf := rf) (ba := ba) ha hn
            refine va_get (D := (dC, dI)) (ci := 4) (v := .int (rf a 14)) (C := R_RQ) (T := F_RQ) (N := 17) hx hb ht in_RQ hown hK hP kq hkq rfl 14 (by decide) (ht _ tb_407) (fun _ h9 => h9) rfl d_RQ_addBookmark_55 ?_
            refine W.eq (g2 := F0 m 58 ls [.int (nI B9)]) (by rw [show rf a 14 = nI B9 from eB9]) ?_
            refine lv_bipush (v := 6) hx hb d_RQ_addBookmark_58 (by decide) ?_
            refine lv_icmp_lt (tgt := 64) hx hb d_RQ_addBookmark_60 (by decide) (fun h60_5 => ?_) (fun h60_5 => ?_)
            · have h60_5 := h60_5
              have i60_5 := ti_lt h60_5
              (try rw [nI_toInt (show B9 < 2 ^ 31 by omega)] at i60_5)
              (try rw [l_6] at i60_5)
              refine lv_aload_n hx hb d_RQ_addBookmark_64 rfl (lv_at hl 3 rfl) ?_
              obtain ⟨kq, hkq⟩ := pq_at (X := CX cd kI kQ sc ia qa) (kI := kI) (bk := bk) (rf := rf) (ba := ba) ha hn
              refine va_get (D := (dC, dI)) (ci := 4) (v := .int (rf a 14)) (C := R_RQ) (T := F_RQ) (N := 17) hx hb ht in_RQ hown hK hP kq hkq rfl 14 (by decide) (ht _ tb_407) (fun _ h9 => h9) rfl d_RQ_addBookmark_65 ?_
              refine W.eq (g2 := F0 m 68 ls [.int (nI B9)]) (by rw [show rf a 14 = nI B9 from eB9]) ?_
              refine lv_istore hx hb d_RQ_addBookmark_68 hl (by decide) rfl (fun ls hl => ?_)
              have hl : lv_has ls 5 [(4, .int (nI B9)), (3, .int 0), (2, .int (nI k)), (1, .int x), (0, .ref a)] := hl
              have hl := lv_sub hl [0, 2, 3, 4] (l' := [(4, .int (nI B9)), (2, .int (nI k)), (1, .int x), (0, .ref a)]) rfl
              exact J_70 (B9 + 1) B9 ba H _ ls (by omega) (by omega) (by omega) hl hP hD hS
            · have h60_5 := h60_5
              have i60_5 := ti_nlt h60_5
              (try rw [nI_toInt (show B9 < 2 ^ 31 by omega)] at i60_5)
              (try rw [l_6] at i60_5)
              exact W.vret hx hb hr (fun t ht9 hW => ⟨⟨(), (sc, ia, qa, rf, ba), rfl, ⟨rfl, rfl, rfl, hC⟩, by rw [ht9]; exact hP, hD⟩, hS.F ht9⟩) hS.2.2 d_RQ_addBookmark_63
          · have h41_4 := h41_4
            have i41_4 := ti_eq h41_4
            refine lv_iconst (v := 1) hx hb d_RQ_addBookmark_44 (by decide) ?_
            refine lv_goto (tgt := 49) hx hb d_RQ_addBookmark_45 (by decide) ?_
            refine lv_istore_n hx hb d_RQ_addBookmark_49 rfl hl (by decide) rfl (fun ls hl => ?_)
            have hl : lv_has ls 5 [(3, .int 1), (2, .int (nI k)), (1, .int x), (0, .ref a)] := hl
            refine lv_iload_n hx hb d_RQ_addBookmark_50 rfl (lv_at hl 0 rfl) ?_
            refine lv_if_ne (tgt := 63) hx hb d_RQ_addBookmark_51 (by decide) (fun _ => ?_) (fun h9 => absurd h9 (by decide))
            exact W.vret hx hb hr (fun t ht9 hW => ⟨⟨(), (sc, ia, qa, rf, ba), rfl, ⟨rfl, rfl, rfl, hC⟩, by rw [ht9]; exact hP, hD⟩, hS.F ht9⟩) hS.2.2 d_RQ_addBookmark_63
      refine lv_iload_n hx hb d_RQ_addBookmark_2 rfl (lv_at hl 0 rfl) ?_
      refine lv_aload_n hx hb d_RQ_addBookmark_3 rfl (lv_at hl 2 rfl) ?_
      obtain ⟨kq, hkq⟩ := pq_at (X := CX cd kI kQ sc ia qa) (kI := kI) (bk := bk) (rf := rf) (ba := ba) ha hn
      refine va_get (D := (dC, dI)) (ci := 4) (v := .int (rf a 14)) (C := R_RQ) (T := F_RQ) (N := 17) hx hb ht in_RQ hown hK hP kq hkq rfl 14 (by decide) (ht _ tb_407) (fun _ h9 => h9) rfl d_RQ_addBookmark_4 ?_
      refine W.eq (g2 := F0 m 7 ls [.int (nI B9), .int (nI k)]) (by rw [show rf a 14 = nI B9 from eB9]) ?_
      refine lv_icmp_ge (tgt := 26) hx hb d_RQ_addBookmark_7 (by decide) (fun h7_6 => ?_) (fun h7_6 => ?_)
      · have h7_6 := h7_6
        have i7_6 := ti_le h7_6
        (try rw [nI_toInt (show k < 2 ^ 31 by omega)] at i7_6)
        (try rw [nI_toInt (show B9 < 2 ^ 31 by omega)] at i7_6)
        exact J_26 H _ ls hl hP hD hS
      · have h7_6 := h7_6
        have i7_6 := ti_nle h7_6
        (try rw [nI_toInt (show k < 2 ^ 31 by omega)] at i7_6)
        (try rw [nI_toInt (show B9 < 2 ^ 31 by omega)] at i7_6)
        refine lv_aload_n hx hb d_RQ_addBookmark_10 rfl (lv_at hl 2 rfl) ?_
        obtain ⟨kq, hkq⟩ := pq_at (X := CX cd kI kQ sc ia qa) (kI := kI) (bk := bk) (rf := rf) (ba := ba) ha hn
        refine va_get (D := (dC, dI)) (ci := 4) (v := .ref (bk a)) (C := R_RQ) (T := F_RQ) (N := 17) hx hb ht in_RQ hown hK hP kq hkq rfl 7 (by decide) (ht _ tb_389) (fun _ h9 => h9) rfl d_RQ_addBookmark_11 ?_
        refine lv_iload_n hx hb d_RQ_addBookmark_14 rfl (lv_at hl 0 rfl) ?_
        obtain ⟨ka, hka⟩ := pq_arr (X := CX cd kI kQ sc ia qa) (kI := kI) (bk := bk) (rf := rf) (ba := ba) (hC.2.2.2.2.2.2 a ha hn).2.2.1 (hC.2.2.2.2.2.2 a ha hn).2.2.2
        refine va_iald hx hb hK hP ka 0 hka rfl (vp_in_nI (show k < 6 by omega) (by decide)) d_RQ_addBookmark_15 ?_
        refine W.eq (g2 := F0 m 16 ls [.int (ba (bk a) k)]) (by rw [nI_clamp (show k < 2 ^ 31 by omega)]) ?_
        refine lv_iload_n hx hb d_RQ_addBookmark_16 rfl (lv_at hl 1 rfl) ?_
        refine lv_icmp_ge (tgt := 26) hx hb d_RQ_addBookmark_17 (by decide) (fun h17_7 => ?_) (fun h17_7 => ?_)
        · have h17_7 := h17_7
          have i17_7 := ti_le h17_7
          exact J_26 H _ ls hl hP hD hS
        · have h17_7 := h17_7
          have i17_7 := ti_nle h17_7
          refine lv_iinc (k := 0) (v := nI (k + 1)) hx hb d_RQ_addBookmark_20 hl rfl ((nI_succ k).symm) (by decide) rfl (fun ls hl => ?_)
          have hl : lv_has ls 5 [(2, .int (nI (k + 1))), (1, .int x), (0, .ref a)] := hl
          refine lv_goto (tgt := 2) hx hb d_RQ_addBookmark_23 (by decide) ?_
          exact ih_2 (k + 1) H _ ls (by omega) (by omega) hl hP hD hS
  have hl := lv_sub hl [0, 2, 1] (l' := [(2, .int 0), (1, .int x), (0, .ref a)]) rfl
  have hl : lv_has ls 5 [(2, .int (nI 0)), (1, .int x), (0, .ref a)] := hl
  exact J_2 ((B9 - 0) + 1) 0 s.heap _ ls (by omega) (by omega) hl hP hD hS
set_option maxHeartbeats 8000000 in
set_option maxRecDepth 100000 in
theorem k_TT_bookmark_ok (l : Launch) (dC : Nat → ClassId) (dI : Nat → Nat → Nat) (cd : Nat → Nat) (kI kQ : ClassId) (L : List Nat) (isA : Nat → Bool) (bk : Nat → Nat) (sc : Nat → Int32) (ia : Nat → Nat → Int32) (qa : Nat → Nat → Option Nat) (rf ba : Nat → Nat → Int32) (sz Bd : Nat) (N : Nat) (hC : CI N L isA bk sc qa rf) (j : Nat) (hj : j < N) (a : Nat) (ea : qa 0 j = some a) (ha : a ∈ L) (hn : isA a = false) (y : Int32) (hp : rf a 8 = 1 ∨ rf a 8 = 2) (hb9 : (rf a 14).toInt < 6) (hy : 0 ≤ y.toInt ∧ y.toInt ≤ 99) : Met l y_TT_bookmark w_TT_bookmark ({ frames := 1, cells := 0, slots := 0, locals := 24 }) (frP (dC, dI) (CW cd kI kQ L isA bk sc ia qa rf ba) (CT kI kQ) sz Bd [.ref (cd 0), .int (nI j), .int y]) (tQ (dC, dI) (cW cd kI kQ L isA bk) (va_A (CW cd kI kQ L isA bk sc ia qa rf ba) sz) vI (fun r u => sc = u.1 ∧ ia = u.2.1 ∧ qa = u.2.2.1 ∧ CI N L isA bk u.1 u.2.2.1 u.2.2.2.1)) 0 0 (va_A (CW cd kI kQ L isA bk sc ia qa rf ba) sz) := by
  refine Met.ofW (cc := c_TT_bookmark) (maxL := 4) (ret := (some .int)) (by decide) rfl ?_
  intro p e s m args below meth c s₁ B hml hv
  obtain ⟨rfl, ⟨hsz, hBs⟩, hP, hK, hD0, hV⟩ := hv
  have hx := B.exec
  have hb := B.bytes
  have hr := B.returns
  have ht : ∀ w ∈ tb_, w.before _ s = true := fun w h => atoms_spec (ws := w_TT_bookmark) B.pre w (List.mem_cons_of_mem _ h)
  have hown : s.vm.findClass R_TT = some m.cls := findClass_of_methodNamed B.named
  have hlocks := B.notSynchronized
  subst hsz
  have hD := hD0.self (sz := s.heap.size)
  have hAB : ∀ q, va_A (CW cd kI kQ L isA bk sc ia qa rf ba) s.heap.size q → Bd ≤ q := fr_AB hD0 hBs
  generalize hAe : va_A (CW cd kI kQ L isA bk sc ia qa rf ba) s.heap.size = A at hD hAB ⊢
  have hA : ∀ q : Nat, s.heap.size ≤ q → A q := fun q h => by rw [← hAe]; exact Or.inr h
  have hS : va_S A s.heap s.heap [] := va_S.rf
  have hs : same [] sc sc := same.rf
  have hP : va_P (dC, dI) cls_ (CW cd kI kQ L isA bk sc ia qa rf ba) s.heap := hP
  have hl := lv_entry ([.ref (cd 0), .int (nI j), .int y]) (n := 4) (Nat.le_of_ble_eq_true rfl)
  rw [lg_entry_eq]
  generalize (lg_sl ([.ref (cd 0), .int (nI j), .int y]) ++ List.replicate (4 - (lg_sl ([.ref (cd 0), .int (nI j), .int y])).length) Slot.unset).toArray = ls at hl ⊢
  have hl : lv_has ls 4 [(0, .ref (cd 0)), (1, .int (nI j)), (2, .int y)] := hl
  have hN := hC.1.1
  refine lv_aload_n hx hb d_TT_bookmark_0 rfl (lv_at hl 0 rfl) ?_
  refine lv_iload_n hx hb d_TT_bookmark_1 rfl (lv_at hl 1 rfl) ?_
  refine r_call (va_runV (C := R_TT) (As := [.int (nI j)]) (rest := []) ⟨hx, hb, hml, hown, ht⟩ (k_TT_numbered_ok l dC dI cd kI kQ L isA bk sc ia qa rf ba N hC j hj a ea ha hn) (cwV 1 ht (gV tb_456 tb_458 ts_20 tb_1 tb_459) rfl rfl rfl (by decide +kernel) ⟨Nat.le_of_ble_eq_true rfl, Nat.le_of_ble_eq_true rfl⟩) ⟨rdP_blind, va_recv (q := (R_TT, F_TT, 8)) hK hP rfl (show (CW cd kI kQ L isA bk sc ia qa rf ba : va_W)[0]? = some _ from rfl), rd_pre hP hK⟩ rfl rfl hl.1 rfl (lv_room (Nat.le_of_ble_eq_true rfl)) d_TT_bookmark_2 ⟨Nat.le_of_ble_eq_true rfl, Nat.le_of_ble_eq_true rfl⟩) (fun r1 hu => ?_)
  have hu1_0 := hu
  have hu1_0 : a = r1 := hu1_0
  refine W.eq (g2 := F0 m 5 ls [.ref r1]) rfl ?_
  subst hu1_0
  refine lv_astore_n hx hb d_TT_bookmark_5 rfl hl (by decide) rfl (fun ls hl => ?_)
  have hl : lv_has ls 4 [(3, .ref a), (0, .ref (cd 0)), (1, .int (nI j)), (2, .int y)] := hl
  refine lv_iload_n hx hb d_TT_bookmark_6 rfl (lv_at hl 3 rfl) ?_
  refine lv_iconst (v := 0) hx hb d_TT_bookmark_7 (by decide) ?_
  refine lv_bipush (v := 99) hx hb d_TT_bookmark_8 (by decide) ?_
  refine r_call (va_runS (As := [.int y, .int 0, .int 99]) (rest := []) ⟨hx, hb, hml, hown, ht⟩ (k_TT_isWithin l dC dI y ((0 : Int32)) ((99 : Int32))) (va_cwS 3 ht (gS tb_273 tb_226 tb_1 tb_227) rfl rfl rfl (by decide +kernel) ⟨Nat.le_of_ble_eq_true rfl, Nat.le_of_ble_eq_true rfl⟩) ⟨rdP_blind, rd_pre (W0 := []) (tys := []) (fun k q h => by cases h) ⟨hK.1, fun k q h => by cases h⟩⟩ rfl rfl hl.1 rfl (lv_room (Nat.le_of_ble_eq_true rfl)) d_TT_bookmark_10 ⟨Nat.le_of_ble_eq_true rfl, Nat.le_of_ble_eq_true rfl⟩) (fun r2 hu => ?_)
  have hu2_0 := hu
  have hu2_0 : (((0 : Int32).toInt ≤ y.toInt ∧ y.toInt ≤ (99 : Int32).toInt) ∧ r2 = 1 ∨ ¬ ((0 : Int32).toInt ≤ y.toInt ∧ y.toInt ≤ (99 : Int32).toInt) ∧ r2 = 0) := hu2_0
  refine W.eq (g2 := F0 m 13 ls [.int r2]) rfl ?_
  obtain rfl : r2 = 1 := by rcases hu2_0 with ⟨_, q⟩ | ⟨q, _⟩; { exact q }; { exact absurd (show (0 : Int32).toInt ≤ y.toInt ∧ y.toInt ≤ (99 : Int32).toInt by rw [l_0, l_99]; exact hy) q }
  refine lv_if_ne (tgt := 26) hx hb d_TT_bookmark_13 (by decide) (fun _ => ?_) (fun h9 => absurd h9 (by decide))
  refine lv_aload_n hx hb d_TT_bookmark_26 rfl (lv_at hl 0 rfl) ?_
  obtain ⟨kq, hkq⟩ := pq_at (X := CX cd kI kQ sc ia qa) (kI := kI) (bk := bk) (rf := rf) (ba := ba) ha hn
  refine r_call (va_runV (C := R_RQ) (As := []) (rest := []) ⟨hx, hb, hml, hown, ht⟩ (k_RQ_isRecording_x l dC dI cd kI kQ L isA bk sc ia qa rf ba N hC a ha hn) (cwV 0 ht (gV tb_570 tb_571 tb_572 tb_11 tb_573) rfl rfl rfl (by decide +kernel) ⟨Nat.le_of_ble_eq_true rfl, Nat.le_of_ble_eq_true rfl⟩) ⟨rdP_blind, va_recv (q := (R_RQ, F_RQ, 17)) hK hP rfl hkq, rd_pre hP hK⟩ rfl rfl hl.1 rfl (lv_room (Nat.le_of_ble_eq_true rfl)) d_TT_bookmark_27 ⟨Nat.le_of_ble_eq_true rfl, Nat.le_of_ble_eq_true rfl⟩) (fun r3 hu => ?_)
  have hu3_0 := hu
  have hu3_0 : ((rf a 8 = 1 ∨ rf a 8 = 2) ∧ r3 = 1 ∨ ¬ (rf a 8 = 1 ∨ rf a 8 = 2) ∧ r3 = 0) := hu3_0
  refine W.eq (g2 := F0 m 30 ls [.int r3]) rfl ?_
  obtain rfl : r3 = 1 := by rcases hu3_0 with ⟨_, q⟩ | ⟨q, _⟩; { exact q }; { exact absurd hp q }
  refine lv_if_eq (tgt := 42) hx hb d_TT_bookmark_30 (by decide) (fun h9 => absurd h9 (by decide)) (fun _ => ?_)
  refine lv_aload_n hx hb d_TT_bookmark_33 rfl (lv_at hl 0 rfl) ?_
  obtain ⟨kq, hkq⟩ := pq_at (X := CX cd kI kQ sc ia qa) (kI := kI) (bk := bk) (rf := rf) (ba := ba) ha hn
  refine va_get (D := (dC, dI)) (ci := 4) (v := .int (rf a 14)) (C := R_RQ) (T := F_RQ) (N := 17) hx hb ht in_RQ hown hK hP kq hkq rfl 14 (by decide) (ht _ tb_408) (fun _ h9 => h9) rfl d_TT_bookmark_34 ?_
  refine lv_bipush (v := 6) hx hb d_TT_bookmark_37 (by decide) ?_
  refine lv_icmp_lt (tgt := 52) hx hb d_TT_bookmark_39 (by decide) (fun _ => ?_) (fun h9 => absurd (it_lt (show (rf a 14).toInt < (6 : Int32).toInt by rw [l_6]; exact hb9)) h9)
  refine lv_aload_n hx hb d_TT_bookmark_52 rfl (lv_at hl 0 rfl) ?_
  refine lv_iload_n hx hb d_TT_bookmark_53 rfl (lv_at hl 3 rfl) ?_
  obtain ⟨kq, hkq⟩ := pq_at (X := CX cd kI kQ sc ia qa) (kI := kI) (bk := bk) (rf := rf) (ba := ba) ha hn
  refine t_call (u0 := (sc, ia, qa, rf, ba)) (va_runV (C := R_RQ) (As := [.int y]) (rest := []) ⟨hx, hb, hml, hown, ht⟩ (k_RQ_addBookmark l dC dI cd kI kQ L isA bk sc ia qa rf ba s.heap.size Bd N hC a ha hn y) (cwV 1 ht (gV tb_599 tb_600 tb_601 tb_11 tb_602) rfl rfl rfl (by decide +kernel) ⟨Nat.le_of_ble_eq_true rfl, Nat.le_of_ble_eq_true rfl⟩) ⟨frP_blind, va_recv (q := (R_RQ, F_RQ, 17)) hK hP rfl hkq, fr_pre hP hK hD hAB hBs hS hV⟩ rfl rfl hl.1 rfl (lv_room (Nat.le_of_ble_eq_true rfl)) d_TT_bookmark_54 ⟨Nat.le_of_ble_eq_true rfl, Nat.le_of_ble_eq_true rfl⟩) hD hS hA (fun r4 u H locs hu hP hD hS => ?_)
  obtain ⟨sc5, ia6, qa7, rf8, ba9⟩ := u
  obtain ⟨hu4_0, hu4_1, hu4_2, hu4_3⟩ := hu
  have hu4_0 : sc = sc5 := hu4_0
  have hu4_1 : ia = ia6 := hu4_1
  have hu4_2 : qa = qa7 := hu4_2
  have hu4_3 : CI N L isA bk sc5 qa7 rf8 := hu4_3
  subst hu4_0
  subst hu4_1
  subst hu4_2
  have hP : va_P (dC, dI) cls_ (CW cd kI kQ L isA bk sc ia qa rf8 ba9) H := hP
  have hD : va_D A (CW cd kI kQ L isA bk sc ia qa rf8 ba9) := hD
  have hC : CI N L isA bk sc qa rf8 := hu4_3
  refine W.eq (g2 := F0 m 57 ls []) rfl ?_
  refine W.cs (cells' := 0) (slots' := 0) rfl rfl ?_
  refine lv_aload_n hx hb d_TT_bookmark_57 rfl (lv_at hl 0 rfl) ?_
  obtain ⟨kq, hkq⟩ := pq_at (X := CX cd kI kQ sc ia qa) (kI := kI) (bk := bk) (rf := rf8) (ba := ba9) ha hn
  refine va_get (D := (dC, dI)) (ci := 4) (v := .int (rf8 a 14)) (C := R_RQ) (T := F_RQ) (N := 17) hx hb ht in_RQ hown hK hP kq hkq rfl 14 (by decide) (ht _ tb_408) (fun _ h9 => h9) rfl d_TT_bookmark_58 ?_
  exact W.iret (v := rf8 a 14) hx hb hr (fun t ht9 hW => ⟨⟨rf8 a 14, (sc, ia, qa, rf8, ba9), rfl, ⟨rfl, rfl, rfl, hC⟩, by rw [ht9]; exact hP, hD⟩, hS.F ht9⟩) hS.2.2 d_TT_bookmark_61
