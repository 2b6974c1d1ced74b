abbrev c_TT_request : ByteArray := prog_1_method_2_code
abbrev y_TT_request : MethodName := ⟨"TwinTuners", "request", "(IIIII)I"⟩
def w_TT_request : List Cond := .code y_TT_request c_TT_request 7 (some .int) :: tb_
abbrev c_RQ_init : ByteArray := prog_4_method_1_code
abbrev y_RQ_init : MethodName := ⟨"TwinTuners$Request", "<init>", "(IIIIII)V"⟩
def w_RQ_init : List Cond := .code y_RQ_init c_RQ_init 7 none :: tb_
abbrev c_PL_init : ByteArray := prog_3_method_1_code
abbrev y_PL_init : MethodName := ⟨"TwinTuners$Plan", "<init>", "()V"⟩
def w_PL_init : List Cond := .code y_PL_init c_PL_init 1 none :: tb_
abbrev c_RW_init : ByteArray := prog_5_method_1_code
abbrev y_RW_init : MethodName := ⟨"TwinTuners$Rewind", "<init>", "()V"⟩
def w_RW_init : List Cond := .code y_RW_init c_RW_init 1 none :: tb_
set_option maxRecDepth 100000 in
theorem tb_29 : (.code ⟨"TwinTuners$Plan", "<init>", "()V"⟩ prog_3_method_1_code 1 none : Cond) ∈ tb_ := tb_w 29 rfl rfl
set_option maxRecDepth 100000 in
theorem tb_30 : (.methodLink "TwinTuners$Plan" 3 ⟨"java/lang/Object", "<init>", "()V"⟩ : Cond) ∈ tb_ := tb_w 30 rfl rfl
set_option maxRecDepth 100000 in
theorem tb_31 : (.classLink "TwinTuners$Plan" 9 "TwinTuners$Request" : Cond) ∈ tb_ := tb_w 31 rfl rfl
set_option maxRecDepth 100000 in
theorem tb_39 : (.arrayClass .int : Cond) ∈ tb_ := tb_w 39 rfl rfl
set_option maxRecDepth 100000 in
theorem tb_63 : (.code ⟨"TwinTuners$Rewind", "<init>", "()V"⟩ prog_5_method_1_code 1 none : Cond) ∈ tb_ := tb_w 63 rfl rfl
set_option maxRecDepth 100000 in
theorem tb_64 : (.methodLink "TwinTuners$Rewind" 3 ⟨"java/lang/Object", "<init>", "()V"⟩ : Cond) ∈ tb_ := tb_w 64 rfl rfl
set_option maxRecDepth 100000 in
theorem tb_269 : (.code ⟨"TwinTuners", "request", "(IIIII)I"⟩ prog_1_method_2_code 7 (some .int) : Cond) ∈ tb_ := tb_w 269 rfl rfl
set_option maxRecDepth 100000 in
theorem tb_346 : (.methodLink "TwinTuners" 68 ⟨"TwinTuners", "openRequests", "()I"⟩ : Cond) ∈ tb_ := tb_w 346 rfl rfl
set_option maxRecDepth 100000 in
theorem tb_348 : (.instanceMethod ⟨"TwinTuners", "openRequests", "()I"⟩ : Cond) ∈ tb_ := tb_w 348 rfl rfl
set_option maxRecDepth 100000 in
theorem tb_370 : (.code ⟨"TwinTuners$Request", "<init>", "(IIIIII)V"⟩ prog_4_method_1_code 7 none : Cond) ∈ tb_ := tb_w 370 rfl rfl
set_option maxRecDepth 100000 in
theorem tb_371 : (.methodLink "TwinTuners$Request" 3 ⟨"java/lang/Object", "<init>", "()V"⟩ : Cond) ∈ tb_ := tb_w 371 rfl rfl
set_option maxRecDepth 100000 in
theorem tb_372 : (.fieldLink "TwinTuners$Request" 44 "TwinTuners$Request" "number" "I" : Cond) ∈ tb_ := tb_w 372 rfl rfl
set_option maxRecDepth 100000 in
theorem tb_374 : (.fieldLink "TwinTuners$Request" 47 "TwinTuners$Request" "channel" "I" : Cond) ∈ tb_ := tb_w 374 rfl rfl
set_option maxRecDepth 100000 in
theorem tb_380 : (.fieldLink "TwinTuners$Request" 53 "TwinTuners$Request" "coreEnd" "I" : Cond) ∈ tb_ := tb_w 380 rfl rfl
set_option maxRecDepth 100000 in
theorem tb_385 : (.fieldLink "TwinTuners$Request" 59 "TwinTuners$Request" "padBefore" "I" : Cond) ∈ tb_ := tb_w 385 rfl rfl
set_option maxRecDepth 100000 in
theorem tb_387 : (.fieldLink "TwinTuners$Request" 62 "TwinTuners$Request" "padAfter" "I" : Cond) ∈ tb_ := tb_w 387 rfl rfl
set_option maxRecDepth 100000 in
theorem tb_405 : (.fieldLink "TwinTuners$Request" 31 "TwinTuners$Request" "secondsShort" "I" : Cond) ∈ tb_ := tb_w 405 rfl rfl
set_option maxRecDepth 100000 in
theorem tb_409 : (.fieldLink "TwinTuners$Request" 37 "TwinTuners$Request" "isProtected" "Z" : Cond) ∈ tb_ := tb_w 409 rfl rfl
theorem ts_19 : (.selects "TwinTuners" ⟨"TwinTuners", "openRequests", "()I"⟩ ⟨"TwinTuners", "openRequests", "()I"⟩ : Cond) ∈ tb_ := ts_w 19 rfl rfl
theorem d_PL_init_0 : decode c_PL_init 0 = .ok (.aload_n 0, 1) := by decide +kernel
theorem d_PL_init_1 : decode c_PL_init 1 = .ok (.invokespecial 3, 3) := by decide +kernel
theorem d_PL_init_4 : decode c_PL_init 4 = .ok (.aload_n 0, 1) := by decide +kernel
theorem d_PL_init_5 : decode c_PL_init 5 = .ok (.bipush 12, 2) := by decide +kernel
theorem d_PL_init_7 : decode c_PL_init 7 = .ok (.anewarray 9, 3) := by decide +kernel
theorem d_PL_init_10 : decode c_PL_init 10 = .ok (.putfield 11, 3) := by decide +kernel
theorem d_PL_init_13 : decode c_PL_init 13 = .ok (.aload_n 0, 1) := by decide +kernel
theorem d_PL_init_14 : decode c_PL_init 14 = .ok (.iconst 0, 1) := by decide +kernel
theorem d_PL_init_15 : decode c_PL_init 15 = .ok (.putfield 17, 3) := by decide +kernel
theorem d_PL_init_18 : decode c_PL_init 18 = .ok (.return_, 1) := by decide +kernel
theorem d_RQ_init_0 : decode c_RQ_init 0 = .ok (.aload_n 0, 1) := by decide +kernel
theorem d_RQ_init_1 : decode c_RQ_init 1 = .ok (.invokespecial 3, 3) := by decide +kernel
theorem d_RQ_init_4 : decode c_RQ_init 4 = .ok (.aload_n 0, 1) := by decide +kernel
theorem d_RQ_init_5 : decode c_RQ_init 5 = .ok (.bipush 6, 2) := by decide +kernel
theorem d_RQ_init_7 : decode c_RQ_init 7 = .ok (.newarray .int, 2) := by decide +kernel
theorem d_RQ_init_9 : decode c_RQ_init 9 = .ok (.putfield 9, 3) := by decide +kernel
theorem d_RQ_init_12 : decode c_RQ_init 12 = .ok (.aload_n 0, 1) := by decide +kernel
theorem d_RQ_init_13 : decode c_RQ_init 13 = .ok (.iconst 0, 1) := by decide +kernel
theorem d_RQ_init_14 : decode c_RQ_init 14 = .ok (.putfield 15, 3) := by decide +kernel
theorem d_RQ_init_17 : decode c_RQ_init 17 = .ok (.aload_n 0, 1) := by decide +kernel
theorem d_RQ_init_18 : decode c_RQ_init 18 = .ok (.iconst (-1), 1) := by decide +kernel
theorem d_RQ_init_19 : decode c_RQ_init 19 = .ok (.putfield 19, 3) := by decide +kernel
theorem d_RQ_init_22 : decode c_RQ_init 22 = .ok (.aload_n 0, 1) := by decide +kernel
theorem d_RQ_init_23 : decode c_RQ_init 23 = .ok (.iconst (-1), 1) := by decide +kernel
theorem d_RQ_init_24 : decode c_RQ_init 24 = .ok (.putfield 22, 3) := by decide +kernel
theorem d_RQ_init_27 : decode c_RQ_init 27 = .ok (.aload_n 0, 1) := by decide +kernel
theorem d_RQ_init_28 : decode c_RQ_init 28 = .ok (.iconst 0, 1) := by decide +kernel
theorem d_RQ_init_29 : decode c_RQ_init 29 = .ok (.putfield 25, 3) := by decide +kernel
theorem d_RQ_init_32 : decode c_RQ_init 32 = .ok (.aload_n 0, 1) := by decide +kernel
theorem d_RQ_init_33 : decode c_RQ_init 33 = .ok (.iconst 0, 1) := by decide +kernel
theorem d_RQ_init_34 : decode c_RQ_init 34 = .ok (.putfield 28, 3) := by decide +kernel
theorem d_RQ_init_37 : decode c_RQ_init 37 = .ok (.aload_n 0, 1) := by decide +kernel
theorem d_RQ_init_38 : decode c_RQ_init 38 = .ok (.iconst 0, 1) := by decide +kernel
theorem d_RQ_init_39 : decode c_RQ_init 39 = .ok (.putfield 31, 3) := by decide +kernel
theorem d_RQ_init_42 : decode c_RQ_init 42 = .ok (.aload_n 0, 1) := by decide +kernel
theorem d_RQ_init_43 : decode c_RQ_init 43 = .ok (.iconst 0, 1) := by decide +kernel
theorem d_RQ_init_44 : decode c_RQ_init 44 = .ok (.putfield 34, 3) := by decide +kernel
theorem d_RQ_init_47 : decode c_RQ_init 47 = .ok (.aload_n 0, 1) := by decide +kernel
theorem d_RQ_init_48 : decode c_RQ_init 48 = .ok (.iconst 0, 1) := by decide +kernel
theorem d_RQ_init_49 : decode c_RQ_init 49 = .ok (.putfield 37, 3) := by decide +kernel
theorem d_RQ_init_52 : decode c_RQ_init 52 = .ok (.aload_n 0, 1) := by decide +kernel
theorem d_RQ_init_53 : decode c_RQ_init 53 = .ok (.iconst 0, 1) := by decide +kernel
theorem d_RQ_init_54 : decode c_RQ_init 54 = .ok (.putfield 41, 3) := by decide +kernel
theorem d_RQ_init_57 : decode c_RQ_init 57 = .ok (.aload_n 0, 1) := by decide +kernel
theorem d_RQ_init_58 : decode c_RQ_init 58 = .ok (.iload_n 1, 1) := by decide +kernel
theorem d_RQ_init_59 : decode c_RQ_init 59 = .ok (.putfield 44, 3) := by decide +kernel
theorem d_RQ_init_62 : decode c_RQ_init 62 = .ok (.aload_n 0, 1) := by decide +kernel
theorem d_RQ_init_63 : decode c_RQ_init 63 = .ok (.iload_n 2, 1) := by decide +kernel
theorem d_RQ_init_64 : decode c_RQ_init 64 = .ok (.putfield 47, 3) := by decide +kernel
theorem d_RQ_init_67 : decode c_RQ_init 67 = .ok (.aload_n 0, 1) := by decide +kernel
theorem d_RQ_init_68 : decode c_RQ_init 68 = .ok (.iload_n 3, 1) := by decide +kernel
theorem d_RQ_init_69 : decode c_RQ_init 69 = .ok (.putfield 50, 3) := by decide +kernel
theorem d_RQ_init_72 : decode c_RQ_init 72 = .ok (.aload_n 0, 1) := by decide +kernel
theorem d_RQ_init_73 : decode c_RQ_init 73 = .ok (.iload_n 3, 1) := by decide +kernel
theorem d_RQ_init_74 : decode c_RQ_init 74 = .ok (.iload 4, 2) := by decide +kernel
theorem d_RQ_init_76 : decode c_RQ_init 76 = .ok (.iadd, 1) := by decide +kernel
theorem d_RQ_init_77 : decode c_RQ_init 77 = .ok (.putfield 53, 3) := by decide +kernel
theorem d_RQ_init_80 : decode c_RQ_init 80 = .ok (.aload_n 0, 1) := by decide +kernel
theorem d_RQ_init_81 : decode c_RQ_init 81 = .ok (.iload 5, 2) := by decide +kernel
theorem d_RQ_init_83 : decode c_RQ_init 83 = .ok (.putfield 56, 3) := by decide +kernel
theorem d_RQ_init_86 : decode c_RQ_init 86 = .ok (.aload_n 0, 1) := by decide +kernel
theorem d_RQ_init_87 : decode c_RQ_init 87 = .ok (.iload 6, 2) := by decide +kernel
theorem d_RQ_init_89 : decode c_RQ_init 89 = .ok (.bipush 10, 2) := by decide +kernel
theorem d_RQ_init_91 : decode c_RQ_init 91 = .ok (.idiv, 1) := by decide +kernel
theorem d_RQ_init_92 : decode c_RQ_init 92 = .ok (.putfield 59, 3) := by decide +kernel
theorem d_RQ_init_95 : decode c_RQ_init 95 = .ok (.aload_n 0, 1) := by decide +kernel
theorem d_RQ_init_96 : decode c_RQ_init 96 = .ok (.iload 6, 2) := by decide +kernel
theorem d_RQ_init_98 : decode c_RQ_init 98 = .ok (.bipush 10, 2) := by decide +kernel
theorem d_RQ_init_100 : decode c_RQ_init 100 = .ok (.irem, 1) := by decide +kernel
theorem d_RQ_init_101 : decode c_RQ_init 101 = .ok (.putfield 62, 3) := by decide +kernel
theorem d_RQ_init_104 : decode c_RQ_init 104 = .ok (.return_, 1) := by decide +kernel
theorem d_RW_init_0 : decode c_RW_init 0 = .ok (.aload_n 0, 1) := by decide +kernel
theorem d_RW_init_1 : decode c_RW_init 1 = .ok (.invokespecial 3, 3) := by decide +kernel
theorem d_RW_init_4 : decode c_RW_init 4 = .ok (.aload_n 0, 1) := by decide +kernel
theorem d_RW_init_5 : decode c_RW_init 5 = .ok (.bipush 30, 2) := by decide +kernel
theorem d_RW_init_7 : decode c_RW_init 7 = .ok (.newarray .int, 2) := by decide +kernel
theorem d_RW_init_9 : decode c_RW_init 9 = .ok (.putfield 9, 3) := by decide +kernel
theorem d_RW_init_12 : decode c_RW_init 12 = .ok (.aload_n 0, 1) := by decide +kernel
theorem d_RW_init_13 : decode c_RW_init 13 = .ok (.iconst 0, 1) := by decide +kernel
theorem d_RW_init_14 : decode c_RW_init 14 = .ok (.putfield 15, 3) := by decide +kernel
theorem d_RW_init_17 : decode c_RW_init 17 = .ok (.aload_n 0, 1) := by decide +kernel
theorem d_RW_init_18 : decode c_RW_init 18 = .ok (.iconst 0, 1) := by decide +kernel
theorem d_RW_init_19 : decode c_RW_init 19 = .ok (.putfield 19, 3) := by decide +kernel
theorem d_RW_init_22 : decode c_RW_init 22 = .ok (.return_, 1) := by decide +kernel
theorem d_TT_request_0 : decode c_TT_request 0 = .ok (.iload_n 1, 1) := by decide +kernel
theorem d_TT_request_1 : decode c_TT_request 1 = .ok (.invokestatic 50, 3) := by decide +kernel
theorem d_TT_request_4 : decode c_TT_request 4 = .ok (.ifCond .eq 43, 3) := by decide +kernel
theorem d_TT_request_7 : decode c_TT_request 7 = .ok (.aload_n 0, 1) := by decide +kernel
theorem d_TT_request_8 : decode c_TT_request 8 = .ok (.iload_n 2, 1) := by decide +kernel
theorem d_TT_request_9 : decode c_TT_request 9 = .ok (.invokevirtual 54, 3) := by decide +kernel
theorem d_TT_request_12 : decode c_TT_request 12 = .ok (.ifCond .eq 35, 3) := by decide +kernel
theorem d_TT_request_15 : decode c_TT_request 15 = .ok (.iload_n 3, 1) := by decide +kernel
theorem d_TT_request_16 : decode c_TT_request 16 = .ok (.iconst 1, 1) := by decide +kernel
theorem d_TT_request_17 : decode c_TT_request 17 = .ok (.bipush 60, 2) := by decide +kernel
theorem d_TT_request_19 : decode c_TT_request 19 = .ok (.invokestatic 57, 3) := by decide +kernel
theorem d_TT_request_22 : decode c_TT_request 22 = .ok (.ifCond .eq 25, 3) := by decide +kernel
theorem d_TT_request_25 : decode c_TT_request 25 = .ok (.iload 4, 2) := by decide +kernel
theorem d_TT_request_27 : decode c_TT_request 27 = .ok (.iconst 1, 1) := by decide +kernel
theorem d_TT_request_28 : decode c_TT_request 28 = .ok (.bipush 9, 2) := by decide +kernel
theorem d_TT_request_30 : decode c_TT_request 30 = .ok (.invokestatic 57, 3) := by decide +kernel
theorem d_TT_request_33 : decode c_TT_request 33 = .ok (.ifCond .eq 14, 3) := by decide +kernel
theorem d_TT_request_36 : decode c_TT_request 36 = .ok (.iload 5, 2) := by decide +kernel
theorem d_TT_request_38 : decode c_TT_request 38 = .ok (.iconst 0, 1) := by decide +kernel
theorem d_TT_request_39 : decode c_TT_request 39 = .ok (.bipush 99, 2) := by decide +kernel
theorem d_TT_request_41 : decode c_TT_request 41 = .ok (.invokestatic 57, 3) := by decide +kernel
theorem d_TT_request_44 : decode c_TT_request 44 = .ok (.ifCond .ne 13, 3) := by decide +kernel
theorem d_TT_request_47 : decode c_TT_request 47 = .ok (.new 61, 3) := by decide +kernel
theorem d_TT_request_50 : decode c_TT_request 50 = .ok (.dup, 1) := by decide +kernel
theorem d_TT_request_51 : decode c_TT_request 51 = .ok (.ldc 63, 2) := by decide +kernel
theorem d_TT_request_53 : decode c_TT_request 53 = .ok (.invokespecial 65, 3) := by decide +kernel
theorem d_TT_request_56 : decode c_TT_request 56 = .ok (.athrow, 1) := by decide +kernel
theorem d_TT_request_57 : decode c_TT_request 57 = .ok (.aload_n 0, 1) := by decide +kernel
theorem d_TT_request_58 : decode c_TT_request 58 = .ok (.getfield 40, 3) := by decide +kernel
theorem d_TT_request_61 : decode c_TT_request 61 = .ok (.bipush 40, 2) := by decide +kernel
theorem d_TT_request_63 : decode c_TT_request 63 = .ok (.if_icmp .ge 12, 3) := by decide +kernel
theorem d_TT_request_66 : decode c_TT_request 66 = .ok (.aload_n 0, 1) := by decide +kernel
theorem d_TT_request_67 : decode c_TT_request 67 = .ok (.invokevirtual 68, 3) := by decide +kernel
theorem d_TT_request_70 : decode c_TT_request 70 = .ok (.bipush 12, 2) := by decide +kernel
theorem d_TT_request_72 : decode c_TT_request 72 = .ok (.if_icmp .lt 13, 3) := by decide +kernel
theorem d_TT_request_75 : decode c_TT_request 75 = .ok (.new 72, 3) := by decide +kernel
theorem d_TT_request_78 : decode c_TT_request 78 = .ok (.dup, 1) := by decide +kernel
theorem d_TT_request_79 : decode c_TT_request 79 = .ok (.ldc 74, 2) := by decide +kernel
theorem d_TT_request_81 : decode c_TT_request 81 = .ok (.invokespecial 76, 3) := by decide +kernel
theorem d_TT_request_84 : decode c_TT_request 84 = .ok (.athrow, 1) := by decide +kernel
theorem oc_le (f : Nat → Int32) : ∀ n, oc f n ≤ n := by
  intro n
  induction n with
  | zero => exact Nat.le_refl _
  | succ n ih => show oc f n + _ ≤ n + 1; split <;> omega
set_option maxHeartbeats 8000000 in
set_option maxRecDepth 100000 in
theorem k_TT_request_ta (l : Launch) (dC : Nat → ClassId) (dI : Nat → Nat → Nat) (cd : Nat → Nat) (kI kQ : ClassId) (L : List Nat) (isA : Nat → Bool) (bk : Nat → Nat) (sc : Nat → Int32) (ia : Nat → Nat → Int32) (qa : Nat → Nat → Option Nat) (rf ba : Nat → Nat → Int32) (sz Bd : Nat) (hl9 : l.stackTraces = false) (N : Nat) (hC : CI N L isA bk sc qa rf) (xc xs xl xp xd : Int32) (h : ¬ ((0 ≤ xc.toInt ∧ xc.toInt ≤ 7) ∧ ((sc 1).toInt ≤ xs.toInt ∧ xs.toInt ≤ (sc 1 + 1000).toInt) ∧ (1 ≤ xl.toInt ∧ xl.toInt ≤ 60) ∧ (1 ≤ xp.toInt ∧ xp.toInt ≤ 9) ∧ (0 ≤ xd.toInt ∧ xd.toInt ≤ 99))) : tw_Met l y_TT_request w_TT_request ({ frames := 6, cells := 1, slots := 6, locals := 90 }) (frP (dC, dI) (CW cd kI kQ L isA bk sc ia qa rf ba) (CT kI kQ) sz Bd [.ref (cd 0), .int xc, .int xs, .int xl, .int xp, .int xd]) "java/lang/IllegalArgumentException" 1 6 := by
  refine tw_ofW (cc := c_TT_request) (maxL := 7) (ret := (some .int)) (by decide) rfl ?_
  intro p e s m args below meth c s₁ B hml hno hv
  obtain ⟨rfl, ⟨hsz, hBs⟩, hP, hK, hD0, hV⟩ := hv
  have hx := B.exec
  have hb := B.bytes
  have hr := B.returns
  have ht : ∀ w ∈ tb_, w.before _ s = true := fun w h => atoms_spec (ws := w_TT_request) B.pre w (List.mem_cons_of_mem _ h)
  have hown : s.vm.findClass R_TT = some m.cls := findClass_of_methodNamed B.named
  have hlocks := B.notSynchronized
  subst hsz
  have hD := hD0.self (sz := s.heap.size)
  have hAB : ∀ q, va_A (CW cd kI kQ L isA bk sc ia qa rf ba) s.heap.size q → Bd ≤ q := fr_AB hD0 hBs
  generalize hAe : va_A (CW cd kI kQ L isA bk sc ia qa rf ba) s.heap.size = A at hD hAB
  have hA : ∀ q : Nat, s.heap.size ≤ q → A q := fun q h => by rw [← hAe]; exact Or.inr h
  have hS : va_S A s.heap s.heap [] := va_S.rf
  have hs : same [] sc sc := same.rf
  have hP : va_P (dC, dI) cls_ (CW cd kI kQ L isA bk sc ia qa rf ba) s.heap := hP
  have hl := lv_entry ([.ref (cd 0), .int xc, .int xs, .int xl, .int xp, .int xd]) (n := 7) (Nat.le_of_ble_eq_true rfl)
  rw [lg_entry_eq]
  generalize (lg_sl ([.ref (cd 0), .int xc, .int xs, .int xl, .int xp, .int xd]) ++ List.replicate (7 - (lg_sl ([.ref (cd 0), .int xc, .int xs, .int xl, .int xp, .int xd])).length) Slot.unset).toArray = ls at hl ⊢
  have hl : lv_has ls 7 [(0, .ref (cd 0)), (1, .int xc), (2, .int xs), (3, .int xl), (4, .int xp), (5, .int xd)] := hl
  have hN := hC.1.1
  refine lv_iload_n hx hb d_TT_request_0 rfl (lv_at hl 1 rfl) ?_
  refine r_call (va_runS (As := [.int xc]) (rest := []) ⟨hx, hb, hml, hown, ht⟩ (k_TT_isChannel l dC dI xc) (va_cwS 1 ht (gS tb_270 tb_271 tb_1 tb_272) rfl rfl rfl (by decide +kernel) ⟨Nat.le_of_ble_eq_true rfl, Nat.le_of_ble_eq_true rfl⟩) ⟨rdP_blind, rd_pre (W0 := []) (tys := []) (fun k q h => by cases h) ⟨hK.1, fun k q h => by cases h⟩⟩ rfl rfl hl.1 rfl (lv_room (Nat.le_of_ble_eq_true rfl)) d_TT_request_1 ⟨Nat.le_of_ble_eq_true rfl, Nat.le_of_ble_eq_true rfl⟩) (fun r1 hu => ?_)
  have hu1_0 := hu
  have hu1_0 : ((0 ≤ xc.toInt ∧ xc.toInt ≤ 7) ∧ r1 = 1 ∨ ¬ (0 ≤ xc.toInt ∧ xc.toInt ≤ 7) ∧ r1 = 0) := hu1_0
  refine W.eq (g2 := F0 m 4 ls [.int r1]) rfl ?_
  rcases hu1_0 with ⟨q1, rfl⟩ | ⟨q1, rfl⟩
  · refine lv_if_eq (tgt := 47) hx hb d_TT_request_4 (by decide) (fun h9 => absurd h9 (by decide)) (fun _ => ?_)
    refine lv_aload_n hx hb d_TT_request_7 rfl (lv_at hl 0 rfl) ?_
    refine lv_iload_n hx hb d_TT_request_8 rfl (lv_at hl 2 rfl) ?_
    refine r_call (va_runV (C := R_TT) (As := [.int xs]) (rest := []) ⟨hx, hb, hml, hown, ht⟩ (k_TT_isAhead l dC dI cd kI kQ L isA bk sc ia qa rf ba N hC xs) (cwV 1 ht (gV tb_274 tb_276 ts_17 tb_1 tb_277) rfl rfl rfl (by decide +kernel) ⟨Nat.le_of_ble_eq_true rfl, Nat.le_of_ble_eq_true rfl⟩) ⟨rdP_blind, va_recv (q := (R_TT, F_TT, 8)) hK hP rfl (show (CW cd kI kQ L isA bk sc ia qa rf ba : va_W)[0]? = some _ from rfl), rd_pre hP hK⟩ rfl rfl hl.1 rfl (lv_room (Nat.le_of_ble_eq_true rfl)) d_TT_request_9 ⟨Nat.le_of_ble_eq_true rfl, Nat.le_of_ble_eq_true rfl⟩) (fun r2 hu => ?_)
    have hu2_0 := hu
    have hu2_0 : (((sc 1).toInt ≤ xs.toInt ∧ xs.toInt ≤ (sc 1 + 1000).toInt) ∧ r2 = 1 ∨ ¬ ((sc 1).toInt ≤ xs.toInt ∧ xs.toInt ≤ (sc 1 + 1000).toInt) ∧ r2 = 0) := hu2_0
    refine W.eq (g2 := F0 m 12 ls [.int r2]) rfl ?_
    rcases hu2_0 with ⟨q2, rfl⟩ | ⟨q2, rfl⟩
    · refine lv_if_eq (tgt := 47) hx hb d_TT_request_12 (by decide) (fun h9 => absurd h9 (by decide)) (fun _ => ?_)
      refine lv_iload_n hx hb d_TT_request_15 rfl (lv_at hl 3 rfl) ?_
      refine lv_iconst (v := 1) hx hb d_TT_request_16 (by decide) ?_
      refine lv_bipush (v := 60) hx hb d_TT_request_17 (by decide) ?_
      refine r_call (va_runS (As := [.int xl, .int 1, .int 60]) (rest := []) ⟨hx, hb, hml, hown, ht⟩ (k_TT_isWithin l dC dI xl ((1 : Int32)) ((60 : Int32))) (va_cwS 3 ht (gS tb_273 tb_226 tb_1 tb_227) rfl rfl rfl (by decide +kernel) ⟨Nat.le_of_ble_eq_true rfl, Nat.le_of_ble_eq_true rfl⟩) ⟨rdP_blind, rd_pre (W0 := []) (tys := []) (fun k q h => by cases h) ⟨hK.1, fun k q h => by cases h⟩⟩ rfl rfl hl.1 rfl (lv_room (Nat.le_of_ble_eq_true rfl)) d_TT_request_19 ⟨Nat.le_of_ble_eq_true rfl, Nat.le_of_ble_eq_true rfl⟩) (fun r3 hu => ?_)
      have hu3_0 := hu
      have hu3_0 : (((1 : Int32).toInt ≤ xl.toInt ∧ xl.toInt ≤ (60 : Int32).toInt) ∧ r3 = 1 ∨ ¬ ((1 : Int32).toInt ≤ xl.toInt ∧ xl.toInt ≤ (60 : Int32).toInt) ∧ r3 = 0) := hu3_0
      refine W.eq (g2 := F0 m 22 ls [.int r3]) rfl ?_
      rw [l_1, l_60] at hu3_0; rcases hu3_0 with ⟨q3, rfl⟩ | ⟨q3, rfl⟩
      · refine lv_if_eq (tgt := 47) hx hb d_TT_request_22 (by decide) (fun h9 => absurd h9 (by decide)) (fun _ => ?_)
        refine lv_iload hx hb d_TT_request_25 (lv_at hl 4 rfl) ?_
        refine lv_iconst (v := 1) hx hb d_TT_request_27 (by decide) ?_
        refine lv_bipush (v := 9) hx hb d_TT_request_28 (by decide) ?_
        refine r_call (va_runS (As := [.int xp, .int 1, .int 9]) (rest := []) ⟨hx, hb, hml, hown, ht⟩ (k_TT_isWithin l dC dI xp ((1 : Int32)) ((9 : Int32))) (va_cwS 3 ht (gS tb_273 tb_226 tb_1 tb_227) rfl rfl rfl (by decide +kernel) ⟨Nat.le_of_ble_eq_true rfl, Nat.le_of_ble_eq_true rfl⟩) ⟨rdP_blind, rd_pre (W0 := []) (tys := []) (fun k q h => by cases h) ⟨hK.1, fun k q h => by cases h⟩⟩ rfl rfl hl.1 rfl (lv_room (Nat.le_of_ble_eq_true rfl)) d_TT_request_30 ⟨Nat.le_of_ble_eq_true rfl, Nat.le_of_ble_eq_true rfl⟩) (fun r4 hu => ?_)
        have hu4_0 := hu
        have hu4_0 : (((1 : Int32).toInt ≤ xp.toInt ∧ xp.toInt ≤ (9 : Int32).toInt) ∧ r4 = 1 ∨ ¬ ((1 : Int32).toInt ≤ xp.toInt ∧ xp.toInt ≤ (9 : Int32).toInt) ∧ r4 = 0) := hu4_0
        refine W.eq (g2 := F0 m 33 ls [.int r4]) rfl ?_
        rw [l_1, l_9] at hu4_0; rcases hu4_0 with ⟨q4, rfl⟩ | ⟨q4, rfl⟩
        · refine lv_if_eq (tgt := 47) hx hb d_TT_request_33 (by decide) (fun h9 => absurd h9 (by decide)) (fun _ => ?_)
          refine lv_iload hx hb d_TT_request_36 (lv_at hl 5 rfl) ?_
          refine lv_iconst (v := 0) hx hb d_TT_request_38 (by decide) ?_
          refine lv_bipush (v := 99) hx hb d_TT_request_39 (by decide) ?_
          refine r_call (va_runS (As := [.int xd, .int 0, .int 99]) (rest := []) ⟨hx, hb, hml, hown, ht⟩ (k_TT_isWithin l dC dI xd ((0 : Int32)) ((99 : Int32))) (va_cwS 3 ht (gS tb_273 tb_226 tb_1 tb_227) rfl rfl rfl (by decide +kernel) ⟨Nat.le_of_ble_eq_true rfl, Nat.le_of_ble_eq_true rfl⟩) ⟨rdP_blind, rd_pre (W0 := []) (tys := []) (fun k q h => by cases h) ⟨hK.1, fun k q h => by cases h⟩⟩ rfl rfl hl.1 rfl (lv_room (Nat.le_of_ble_eq_true rfl)) d_TT_request_41 ⟨Nat.le_of_ble_eq_true rfl, Nat.le_of_ble_eq_true rfl⟩) (fun r5 hu => ?_)
          have hu5_0 := hu
          have hu5_0 : (((0 : Int32).toInt ≤ xd.toInt ∧ xd.toInt ≤ (99 : Int32).toInt) ∧ r5 = 1 ∨ ¬ ((0 : Int32).toInt ≤ xd.toInt ∧ xd.toInt ≤ (99 : Int32).toInt) ∧ r5 = 0) := hu5_0
          refine W.eq (g2 := F0 m 44 ls [.int r5]) rfl ?_
          rw [l_0, l_99] at hu5_0; rcases hu5_0 with ⟨q5, rfl⟩ | ⟨q5, rfl⟩
          · refine lv_if_ne (tgt := 57) hx hb d_TT_request_44 (by decide) (fun _ => ?_) (fun h9 => absurd h9 (by decide))
            exact absurd ⟨q1, q2, q3, q4, q5⟩ h
          · refine lv_if_ne (tgt := 57) hx hb d_TT_request_44 (by decide) (fun h9 => absurd (by decide) h9) (fun _ => ?_)
            obtain ⟨sa, hsa⟩ := hV.2.2.2.2.1.1
            exact tw_throwNew hx hb hl9 hown (by decide) (by decide) (ht _ tb_278) (ht _ tb_9) hsa (at_IA ht hV) hS.1 (by rw [hml]; exact hl.1) d_TT_request_47 d_TT_request_50 d_TT_request_51 d_TT_request_53 d_TT_request_56 (tw_noH hno _) (Nat.le_of_ble_eq_true rfl) (Nat.le_of_ble_eq_true rfl) (Nat.le_of_ble_eq_true rfl) (Nat.le_of_ble_eq_true rfl) hlocks
        · refine lv_if_eq (tgt := 47) hx hb d_TT_request_33 (by decide) (fun _ => ?_) (fun h9 => absurd (by decide) h9)
          obtain ⟨sa, hsa⟩ := hV.2.2.2.2.1.1
          exact tw_throwNew hx hb hl9 hown (by decide) (by decide) (ht _ tb_278) (ht _ tb_9) hsa (at_IA ht hV) hS.1 (by rw [hml]; exact hl.1) d_TT_request_47 d_TT_request_50 d_TT_request_51 d_TT_request_53 d_TT_request_56 (tw_noH hno _) (Nat.le_of_ble_eq_true rfl) (Nat.le_of_ble_eq_true rfl) (Nat.le_of_ble_eq_true rfl) (Nat.le_of_ble_eq_true rfl) hlocks
      · refine lv_if_eq (tgt := 47) hx hb d_TT_request_22 (by decide) (fun _ => ?_) (fun h9 => absurd (by decide) h9)
        obtain ⟨sa, hsa⟩ := hV.2.2.2.2.1.1
        exact tw_throwNew hx hb hl9 hown (by decide) (by decide) (ht _ tb_278) (ht _ tb_9) hsa (at_IA ht hV) hS.1 (by rw [hml]; exact hl.1) d_TT_request_47 d_TT_request_50 d_TT_request_51 d_TT_request_53 d_TT_request_56 (tw_noH hno _) (Nat.le_of_ble_eq_true rfl) (Nat.le_of_ble_eq_true rfl) (Nat.le_of_ble_eq_true rfl) (Nat.le_of_ble_eq_true rfl) hlocks
    · refine lv_if_eq (tgt := 47) hx hb d_TT_request_12 (by decide) (fun _ => ?_) (fun h9 => absurd (by decide) h9)
      obtain ⟨sa, hsa⟩ := hV.2.2.2.2.1.1
      exact tw_throwNew hx hb hl9 hown (by decide) (by decide) (ht _ tb_278) (ht _ tb_9) hsa (at_IA ht hV) hS.1 (by rw [hml]; exact hl.1) d_TT_request_47 d_TT_request_50 d_TT_request_51 d_TT_request_53 d_TT_request_56 (tw_noH hno _) (Nat.le_of_ble_eq_true rfl) (Nat.le_of_ble_eq_true rfl) (Nat.le_of_ble_eq_true rfl) (Nat.le_of_ble_eq_true rfl) hlocks
  · refine lv_if_eq (tgt := 47) hx hb d_TT_request_4 (by decide) (fun _ => ?_) (fun h9 => absurd (by decide) h9)
    obtain ⟨sa, hsa⟩ := hV.2.2.2.2.1.1
    exact tw_throwNew hx hb hl9 hown (by decide) (by decide) (ht _ tb_278) (ht _ tb_9) hsa (at_IA ht hV) hS.1 (by rw [hml]; exact hl.1) d_TT_request_47 d_TT_request_50 d_TT_request_51 d_TT_request_53 d_TT_request_56 (tw_noH hno _) (Nat.le_of_ble_eq_true rfl) (Nat.le_of_ble_eq_true rfl) (Nat.le_of_ble_eq_true rfl) (Nat.le_of_ble_eq_true rfl) hlocks
set_option maxHeartbeats 8000000 in
set_option maxRecDepth 100000 in
theorem k_TT_request_ts (l : Launch) (dC : Nat → ClassId) (dI : Nat → Nat → Nat) (cd : Nat → Nat) (kI kQ : ClassId) (L : List Nat) (isA : Nat → Bool) (bk : Nat → Nat) (sc : Nat → Int32) (ia : Nat → Nat → Int32) (qa : Nat → Nat → Option Nat) (rf ba : Nat → Nat → Int32) (sz Bd : Nat) (hl9 : l.stackTraces = false) (N : Nat) (hC : CI N L isA bk sc qa rf) (xc xs xl xp xd : Int32) (h : ((0 ≤ xc.toInt ∧ xc.toInt ≤ 7) ∧ ((sc 1).toInt ≤ xs.toInt ∧ xs.toInt ≤ (sc 1 + 1000).toInt) ∧ (1 ≤ xl.toInt ∧ xl.toInt ≤ 60) ∧ (1 ≤ xp.toInt ∧ xp.toInt ≤ 9) ∧ (0 ≤ xd.toInt ∧ xd.toInt ≤ 99))) (hf : ¬ (N < 40 ∧ oc (fun i => phq rf (qa 0 i)) N < 12)) : tw_Met l y_TT_request w_TT_request ({ frames := 6, cells := 1, slots := 6, locals := 90 }) (frP (dC, dI) (CW cd kI kQ L isA bk sc ia qa rf ba) (CT kI kQ) sz Bd [.ref (cd 0), .int xc, .int xs, .int xl, .int xp, .int xd]) "java/lang/IllegalStateException" 1 6 := by
  refine tw_ofW (cc := c_TT_request) (maxL := 7) (ret := (some .int)) (by decide) rfl ?_
  intro p e s m args below meth c s₁ B hml hno hv
  obtain ⟨rfl, ⟨hsz, hBs⟩, hP, hK, hD0, hV⟩ := hv
  have hx := B.exec
  have hb := B.bytes
  have hr := B.returns
  have ht : ∀ w ∈ tb_, w.before _ s = true := fun w h => atoms_spec (ws := w_TT_request) B.pre w (List.mem_cons_of_mem _ h)
  have hown : s.vm.findClass R_TT = some m.cls := findClass_of_methodNamed B.named
  have hlocks := B.notSynchronized
  subst hsz
  have hD := hD0.self (sz := s.heap.size)
  have hAB : ∀ q, va_A (CW cd kI kQ L isA bk sc ia qa rf ba) s.heap.size q → Bd ≤ q := fr_AB hD0 hBs
  generalize hAe : va_A (CW cd kI kQ L isA bk sc ia qa rf ba) s.heap.size = A at hD hAB
  have hA : ∀ q : Nat, s.heap.size ≤ q → A q := fun q h => by rw [← hAe]; exact Or.inr h
  have hS : va_S A s.heap s.heap [] := va_S.rf
  have hs : same [] sc sc := same.rf
  have hP : va_P (dC, dI) cls_ (CW cd kI kQ L isA bk sc ia qa rf ba) s.heap := hP
  have hl := lv_entry ([.ref (cd 0), .int xc, .int xs, .int xl, .int xp, .int xd]) (n := 7) (Nat.le_of_ble_eq_true rfl)
  rw [lg_entry_eq]
  generalize (lg_sl ([.ref (cd 0), .int xc, .int xs, .int xl, .int xp, .int xd]) ++ List.replicate (7 - (lg_sl ([.ref (cd 0), .int xc, .int xs, .int xl, .int xp, .int xd])).length) Slot.unset).toArray = ls at hl ⊢
  have hl : lv_has ls 7 [(0, .ref (cd 0)), (1, .int xc), (2, .int xs), (3, .int xl), (4, .int xp), (5, .int xd)] := hl
  have hN := hC.1.1
  refine lv_iload_n hx hb d_TT_request_0 rfl (lv_at hl 1 rfl) ?_
  refine r_call (va_runS (As := [.int xc]) (rest := []) ⟨hx, hb, hml, hown, ht⟩ (k_TT_isChannel l dC dI xc) (va_cwS 1 ht (gS tb_270 tb_271 tb_1 tb_272) rfl rfl rfl (by decide +kernel) ⟨Nat.le_of_ble_eq_true rfl, Nat.le_of_ble_eq_true rfl⟩) ⟨rdP_blind, rd_pre (W0 := []) (tys := []) (fun k q h => by cases h) ⟨hK.1, fun k q h => by cases h⟩⟩ rfl rfl hl.1 rfl (lv_room (Nat.le_of_ble_eq_true rfl)) d_TT_request_1 ⟨Nat.le_of_ble_eq_true rfl, Nat.le_of_ble_eq_true rfl⟩) (fun r1 hu => ?_)
  have hu1_0 := hu
  have hu1_0 : ((0 ≤ xc.toInt ∧ xc.toInt ≤ 7) ∧ r1 = 1 ∨ ¬ (0 ≤ xc.toInt ∧ xc.toInt ≤ 7) ∧ r1 = 0) := hu1_0
  refine W.eq (g2 := F0 m 4 ls [.int r1]) rfl ?_
  obtain rfl : r1 = 1 := by rcases hu1_0 with ⟨_, q⟩ | ⟨q, _⟩; { exact q }; { exact absurd h.1 q }
  refine lv_if_eq (tgt := 47) hx hb d_TT_request_4 (by decide) (fun h9 => absurd h9 (by decide)) (fun _ => ?_)
  refine lv_aload_n hx hb d_TT_request_7 rfl (lv_at hl 0 rfl) ?_
  refine lv_iload_n hx hb d_TT_request_8 rfl (lv_at hl 2 rfl) ?_
  refine r_call (va_runV (C := R_TT) (As := [.int xs]) (rest := []) ⟨hx, hb, hml, hown, ht⟩ (k_TT_isAhead l dC dI cd kI kQ L isA bk sc ia qa rf ba N hC xs) (cwV 1 ht (gV tb_274 tb_276 ts_17 tb_1 tb_277) rfl rfl rfl (by decide +kernel) ⟨Nat.le_of_ble_eq_true rfl, Nat.le_of_ble_eq_true rfl⟩) ⟨rdP_blind, va_recv (q := (R_TT, F_TT, 8)) hK hP rfl (show (CW cd kI kQ L isA bk sc ia qa rf ba : va_W)[0]? = some _ from rfl), rd_pre hP hK⟩ rfl rfl hl.1 rfl (lv_room (Nat.le_of_ble_eq_true rfl)) d_TT_request_9 ⟨Nat.le_of_ble_eq_true rfl, Nat.le_of_ble_eq_true rfl⟩) (fun r2 hu => ?_)
  have hu2_0 := hu
  have hu2_0 : (((sc 1).toInt ≤ xs.toInt ∧ xs.toInt ≤ (sc 1 + 1000).toInt) ∧ r2 = 1 ∨ ¬ ((sc 1).toInt ≤ xs.toInt ∧ xs.toInt ≤ (sc 1 + 1000).toInt) ∧ r2 = 0) := hu2_0
  refine W.eq (g2 := F0 m 12 ls [.int r2]) rfl ?_
  obtain rfl : r2 = 1 := by rcases hu2_0 with ⟨_, q⟩ | ⟨q, _⟩; { exact q }; { exact absurd h.2.1 q }
  refine lv_if_eq (tgt := 47) hx hb d_TT_request_12 (by decide) (fun h9 => absurd h9 (by decide)) (fun _ => ?_)
  refine lv_iload_n hx hb d_TT_request_15 rfl (lv_at hl 3 rfl) ?_
  refine lv_iconst (v := 1) hx hb d_TT_request_16 (by decide) ?_
  refine lv_bipush (v := 60) hx hb d_TT_request_17 (by decide) ?_
  refine r_call (va_runS (As := [.int xl, .int 1, .int 60]) (rest := []) ⟨hx, hb, hml, hown, ht⟩ (k_TT_isWithin l dC dI xl ((1 : Int32)) ((60 : Int32))) (va_cwS 3 ht (gS tb_273 tb_226 tb_1 tb_227) rfl rfl rfl (by decide +kernel) ⟨Nat.le_of_ble_eq_true rfl, Nat.le_of_ble_eq_true rfl⟩) ⟨rdP_blind, rd_pre (W0 := []) (tys := []) (fun k q h => by cases h) ⟨hK.1, fun k q h => by cases h⟩⟩ rfl rfl hl.1 rfl (lv_room (Nat.le_of_ble_eq_true rfl)) d_TT_request_19 ⟨Nat.le_of_ble_eq_true rfl, Nat.le_of_ble_eq_true rfl⟩) (fun r3 hu => ?_)
  have hu3_0 := hu
  have hu3_0 : (((1 : Int32).toInt ≤ xl.toInt ∧ xl.toInt ≤ (60 : Int32).toInt) ∧ r3 = 1 ∨ ¬ ((1 : Int32).toInt ≤ xl.toInt ∧ xl.toInt ≤ (60 : Int32).toInt) ∧ r3 = 0) := hu3_0
  refine W.eq (g2 := F0 m 22 ls [.int r3]) rfl ?_
  obtain rfl : r3 = 1 := by rcases hu3_0 with ⟨_, q⟩ | ⟨q, _⟩; { exact q }; { exact absurd (show (1 : Int32).toInt ≤ xl.toInt ∧ xl.toInt ≤ (60 : Int32).toInt by rw [l_1, l_60]; exact h.2.2.1) q }
  refine lv_if_eq (tgt := 47) hx hb d_TT_request_22 (by decide) (fun h9 => absurd h9 (by decide)) (fun _ => ?_)
  refine lv_iload hx hb d_TT_request_25 (lv_at hl 4 rfl) ?_
  refine lv_iconst (v := 1) hx hb d_TT_request_27 (by decide) ?_
  refine lv_bipush (v := 9) hx hb d_TT_request_28 (by decide) ?_
  refine r_call (va_runS (As := [.int xp, .int 1, .int 9]) (rest := []) ⟨hx, hb, hml, hown, ht⟩ (k_TT_isWithin l dC dI xp ((1 : Int32)) ((9 : Int32))) (va_cwS 3 ht (gS tb_273 tb_226 tb_1 tb_227) rfl rfl rfl (by decide +kernel) ⟨Nat.le_of_ble_eq_true rfl, Nat.le_of_ble_eq_true rfl⟩) ⟨rdP_blind, rd_pre (W0 := []) (tys := []) (fun k q h => by cases h) ⟨hK.1, fun k q h => by cases h⟩⟩ rfl rfl hl.1 rfl (lv_room (Nat.le_of_ble_eq_true rfl)) d_TT_request_30 ⟨Nat.le_of_ble_eq_true rfl, Nat.le_of_ble_eq_true rfl⟩) (fun r4 hu => ?_)
  have hu4_0 := hu
  have hu4_0 : (((1 : Int32).toInt ≤ xp.toInt ∧ xp.toInt ≤ (9 : Int32).toInt) ∧ r4 = 1 ∨ ¬ ((1 : Int32).toInt ≤ xp.toInt ∧ xp.toInt ≤ (9 : Int32).toInt) ∧ r4 = 0) := hu4_0
  refine W.eq (g2 := F0 m 33 ls [.int r4]) rfl ?_
  obtain rfl : r4 = 1 := by rcases hu4_0 with ⟨_, q⟩ | ⟨q, _⟩; { exact q }; { exact absurd (show (1 : Int32).toInt ≤ xp.toInt ∧ xp.toInt ≤ (9 : Int32).toInt by rw [l_1, l_9]; exact h.2.2.2.1) q }
  refine lv_if_eq (tgt := 47) hx hb d_TT_request_33 (by decide) (fun h9 => absurd h9 (by decide)) (fun _ => ?_)
  refine lv_iload hx hb d_TT_request_36 (lv_at hl 5 rfl) ?_
  refine lv_iconst (v := 0) hx hb d_TT_request_38 (by decide) ?_
  refine lv_bipush (v := 99) hx hb d_TT_request_39 (by decide) ?_
  refine r_call (va_runS (As := [.int xd, .int 0, .int 99]) (rest := []) ⟨hx, hb, hml, hown, ht⟩ (k_TT_isWithin l dC dI xd ((0 : Int32)) ((99 : Int32))) (va_cwS 3 ht (gS tb_273 tb_226 tb_1 tb_227) rfl rfl rfl (by decide +kernel) ⟨Nat.le_of_ble_eq_true rfl, Nat.le_of_ble_eq_true rfl⟩) ⟨rdP_blind, rd_pre (W0 := []) (tys := []) (fun k q h => by cases h) ⟨hK.1, fun k q h => by cases h⟩⟩ rfl rfl hl.1 rfl (lv_room (Nat.le_of_ble_eq_true rfl)) d_TT_request_41 ⟨Nat.le_of_ble_eq_true rfl, Nat.le_of_ble_eq_true rfl⟩) (fun r5 hu => ?_)
  have hu5_0 := hu
  have hu5_0 : (((0 : Int32).toInt ≤ xd.toInt ∧ xd.toInt ≤ (99 : Int32).toInt) ∧ r5 = 1 ∨ ¬ ((0 : Int32).toInt ≤ xd.toInt ∧ xd.toInt ≤ (99 : Int32).toInt) ∧ r5 = 0) := hu5_0
  refine W.eq (g2 := F0 m 44 ls [.int r5]) rfl ?_
  obtain rfl : r5 = 1 := by rcases hu5_0 with ⟨_, q⟩ | ⟨q, _⟩; { exact q }; { exact absurd (show (0 : Int32).toInt ≤ xd.toInt ∧ xd.toInt ≤ (99 : Int32).toInt by rw [l_0, l_99]; exact h.2.2.2.2) q }
  refine lv_if_ne (tgt := 57) hx hb d_TT_request_44 (by decide) (fun _ => ?_) (fun h9 => absurd h9 (by decide))
  refine lv_aload_n hx hb d_TT_request_57 rfl (lv_at hl 0 rfl) ?_
  refine va_get (D := (dC, dI)) (ci := 0) (v := .int (sc 0)) (C := R_TT) (T := F_TT) (N := 8) hx hb ht in_TT hown hK hP 0 rfl rfl 5 (by decide) (ht _ tb_80) (fun _ h9 => h9) rfl d_TT_request_58 ?_
  refine W.eq (g2 := F0 m 61 ls [.int (nI N)]) (by rw [show sc 0 = nI N from hC.1.2]) ?_
  refine lv_bipush (v := 40) hx hb d_TT_request_61 (by decide) ?_
  refine lv_icmp_ge (tgt := 75) hx hb d_TT_request_63 (by decide) (fun h63_1 => ?_) (fun h63_1 => ?_)
  · have h63_1 := h63_1
    have i63_1 := ti_le h63_1
    (try rw [nI_toInt (show N < 2 ^ 31 by omega)] at i63_1)
    (try rw [l_40] at i63_1)
    obtain ⟨sa, hsa⟩ := hV.2.2.2.2.1.2.2.2.2.2.1
    exact tw_throwNew hx hb hl9 hown (by decide) (by decide) (ht _ tb_351) (ht _ tb_10) hsa (at_IS ht hV) hS.1 (by rw [hml]; exact hl.1) d_TT_request_75 d_TT_request_78 d_TT_request_79 d_TT_request_81 d_TT_request_84 (tw_noH hno _) (Nat.le_of_ble_eq_true rfl) (Nat.le_of_ble_eq_true rfl) (Nat.le_of_ble_eq_true rfl) (Nat.le_of_ble_eq_true rfl) hlocks
  · have h63_1 := h63_1
    have i63_1 := ti_nle h63_1
    (try rw [nI_toInt (show N < 2 ^ 31 by omega)] at i63_1)
    (try rw [l_40] at i63_1)
    refine lv_aload_n hx hb d_TT_request_66 rfl (lv_at hl 0 rfl) ?_
    refine r_call (va_runV (C := R_TT) (As := []) (rest := []) ⟨hx, hb, hml, hown, ht⟩ (k_TT_openRequests l dC dI cd kI kQ L isA bk sc ia qa rf ba N hC) (cwV 0 ht (gV tb_346 tb_348 ts_19 tb_1 tb_349) rfl rfl rfl (by decide +kernel) ⟨Nat.le_of_ble_eq_true rfl, Nat.le_of_ble_eq_true rfl⟩) ⟨rdP_blind, va_recv (q := (R_TT, F_TT, 8)) hK hP rfl (show (CW cd kI kQ L isA bk sc ia qa rf ba : va_W)[0]? = some _ from rfl), rd_pre hP hK⟩ rfl rfl hl.1 rfl (lv_room (Nat.le_of_ble_eq_true rfl)) d_TT_request_67 ⟨Nat.le_of_ble_eq_true rfl, Nat.le_of_ble_eq_true rfl⟩) (fun r6 hu => ?_)
    have hu6_0 := hu
    have hu6_0 : r6 = nI (oc (fun i => phq rf (qa 0 i)) N) := hu6_0
    refine W.eq (g2 := F0 m 70 ls [.int r6]) rfl ?_
    have hoc9 := oc_le (fun i => phq rf (qa 0 i)) N
    subst hu6_0
    refine lv_bipush (v := 12) hx hb d_TT_request_70 (by decide) ?_
    refine lv_icmp_lt (tgt := 85) hx hb d_TT_request_72 (by decide) (fun h72_2 => ?_) (fun h72_2 => ?_)
    · have h72_2 := h72_2
      have i72_2 := ti_lt h72_2
      (try rw [nI_toInt (show oc (fun i => phq rf (qa 0 i)) N < 2 ^ 31 by omega)] at i72_2)
      (try rw [l_12] at i72_2)
      exact absurd ⟨by omega, by omega⟩ hf
    · have h72_2 := h72_2
      have i72_2 := ti_nlt h72_2
      (try rw [nI_toInt (show oc (fun i => phq rf (qa 0 i)) N < 2 ^ 31 by omega)] at i72_2)
      (try rw [l_12] at i72_2)
      obtain ⟨sa, hsa⟩ := hV.2.2.2.2.1.2.2.2.2.2.1
      exact tw_throwNew hx hb hl9 hown (by decide) (by decide) (ht _ tb_351) (ht _ tb_10) hsa (at_IS ht hV) hS.1 (by rw [hml]; exact hl.1) d_TT_request_75 d_TT_request_78 d_TT_request_79 d_TT_request_81 d_TT_request_84 (tw_noH hno _) (Nat.le_of_ble_eq_true rfl) (Nat.le_of_ble_eq_true rfl) (Nat.le_of_ble_eq_true rfl) (Nat.le_of_ble_eq_true rfl) hlocks
set_option maxHeartbeats 4000000 in
set_option maxRecDepth 100000 in
theorem c_RQ_init_mk (l : Launch) (dC : Nat → ClassId) (dI : Nat → Nat → Nat) (sz Bd : Nat) (h0 : Nat) (nu ch st ln pr pd : Int32) : Met l y_RQ_init w_RQ_init ({ frames := 1, cells := 1, slots := 6, locals := 20 }) (frP (dC, dI) [(h0, .inr (4, [.int 0, .int 0, .int 0, .int 0, .int 0, .int 0, .int 0, .null, .int 0, .int 0, .int 0, .int 0, .int 0, .int 0, .int 0, .int 0, .int 0]))] [] sz Bd [.ref h0, .int nu, .int ch, .int st, .int ln, .int pr, .int pd]) (frQ none (fun t => ∃ (q1 : Nat) (k1 : Nat), va_P (dC, dI) cls_ [(h0, .inr (4, [.int nu, .int ch, .int st, .int (st + ln), .int pr, .int (pd / 10), .int (pd - pd / 10 * 10), .ref q1, .int 0, .int (-1), .int (-1), .int 0, .int 0, .int 0, .int 0, .int 0, .int 0])), (q1, .inl (k1, 6, .inl (fun _ => 0)))] t.heap ∧ va_K (dC, dI) cls_ [(k1, .int)] t ∧ va_D (va_A [(h0, .inr (4, [.int 0, .int 0, .int 0, .int 0, .int 0, .int 0, .int 0, .null, .int 0, .int 0, .int 0, .int 0, .int 0, .int 0, .int 0, .int 0, .int 0]))] sz) [(h0, .inr (4, [.int nu, .int ch, .int st, .int (st + ln), .int pr, .int (pd / 10), .int (pd - pd / 10 * 10), .ref q1, .int 0, .int (-1), .int (-1), .int 0, .int 0, .int 0, .int 0, .int 0, .int 0])), (q1, .inl (k1, 6, .inl (fun _ => 0)))]) (va_A [(h0, .inr (4, [.int 0, .int 0, .int 0, .int 0, .int 0, .int 0, .int 0, .null, .int 0, .int 0, .int 0, .int 0, .int 0, .int 0, .int 0, .int 0, .int 0]))] sz)) 1 6 (va_A [(h0, .inr (4, [.int 0, .int 0, .int 0, .int 0, .int 0, .int 0, .int 0, .null, .int 0, .int 0, .int 0, .int 0, .int 0, .int 0, .int 0, .int 0, .int 0]))] sz) := by
  refine Met.ofW (cc := c_RQ_init) (maxL := 7) (ret := none) (by decide) rfl ?_
  intro p e s m args below meth c s₁ B hml hv
  obtain ⟨rfl, ⟨hsz, hBs⟩, hP, hK, hD0, hV⟩ := hv
  have hx := B.exec
  have hb := B.bytes
  have hr := B.returns
  have ht : ∀ w ∈ tb_, w.before _ s = true := fun w h => atoms_spec (ws := w_RQ_init) B.pre w (List.mem_cons_of_mem _ h)
  have hown : s.vm.findClass R_RQ = some m.cls := findClass_of_methodNamed B.named
  have hlocks := B.notSynchronized
  have hin : meth.name = "<init>" := (name_of_methodNamed B.named B.method).1
  subst hsz
  have hD := hD0.self (sz := s.heap.size)
  have hAB : ∀ q, va_A [(h0, .inr (4, [.int 0, .int 0, .int 0, .int 0, .int 0, .int 0, .int 0, .null, .int 0, .int 0, .int 0, .int 0, .int 0, .int 0, .int 0, .int 0, .int 0]))] s.heap.size q → Bd ≤ q := fr_AB hD0 hBs
  generalize hAe : va_A [(h0, .inr (4, [.int 0, .int 0, .int 0, .int 0, .int 0, .int 0, .int 0, .null, .int 0, .int 0, .int 0, .int 0, .int 0, .int 0, .int 0, .int 0, .int 0]))] s.heap.size = A at hD hAB ⊢
  have hA : ∀ q : Nat, s.heap.size ≤ q → A q := fun q h => by rw [← hAe]; exact Or.inr h
  have hS : va_S A s.heap s.heap [] := va_S.rf
  have hAO := hV.2.2.2.1
  have hN_PL := hV.2.2.1.1
  have hN_RW := hV.2.2.1.2.1
  have hP : va_P (dC, dI) cls_ [(h0, .inr (4, [.int 0, .int 0, .int 0, .int 0, .int 0, .int 0, .int 0, .null, .int 0, .int 0, .int 0, .int 0, .int 0, .int 0, .int 0, .int 0, .int 0]))] s.heap := hP
  have hl := lv_entry ([.ref h0, .int nu, .int ch, .int st, .int ln, .int pr, .int pd]) (n := 7) (Nat.le_of_ble_eq_true rfl)
  rw [lg_entry_eq]
  generalize (lg_sl ([.ref h0, .int nu, .int ch, .int st, .int ln, .int pr, .int pd]) ++ List.replicate (7 - (lg_sl ([.ref h0, .int nu, .int ch, .int st, .int ln, .int pr, .int pd])).length) Slot.unset).toArray = ls at hl ⊢
  have hl : lv_has ls 7 [(0, .ref h0), (1, .int nu), (2, .int ch), (3, .int st), (4, .int ln), (5, .int pr), (6, .int pd)] := hl
  refine lv_aload_n hx hb d_RQ_init_0 rfl (lv_at hl 0 rfl) ?_
  refine W.objInit hx hb hown (ht _ tb_371) (ht _ tb_21) (ht _ tb_22) rfl (by rw [hml]; exact hl.1) rfl d_RQ_init_1 (Nat.le_of_ble_eq_true rfl) (Nat.le_of_ble_eq_true rfl) ?_
  refine W.eq (g2 := F0 m 4 ls []) rfl ?_
  refine lv_aload_n hx hb d_RQ_init_4 rfl (lv_at hl 0 rfl) ?_
  refine lv_bipush (v := 6) hx hb d_RQ_init_5 (by decide) ?_
  refine va_newa (atype := .int) (N' := 6) (a0 := (6, .inl (fun _ => 0))) (ty := .int) (n := 6) hx hb (ht _ tb_39) rfl hK hP hD hS hA (fun _ => rfl) (by decide) (by decide) (by decide) (Nat.le_of_ble_eq_true rfl) (Nat.le_of_ble_eq_true rfl) d_RQ_init_7 (fun q1 k2 H hK hP hD hS => ?_)
  have hP : va_P (dC, dI) cls_ [(h0, .inr (4, [.int 0, .int 0, .int 0, .int 0, .int 0, .int 0, .int 0, .null, .int 0, .int 0, .int 0, .int 0, .int 0, .int 0, .int 0, .int 0, .int 0])), (q1, .inl (k2, 6, .inl (fun _ => 0)))] H := hP
  have hD : va_D A [(h0, .inr (4, [.int 0, .int 0, .int 0, .int 0, .int 0, .int 0, .int 0, .null, .int 0, .int 0, .int 0, .int 0, .int 0, .int 0, .int 0, .int 0, .int 0])), (q1, .inl (k2, 6, .inl (fun _ => 0)))] := hD
  have hK : va_K (dC, dI) cls_ [(k2, .int)] s := hK
  refine W.cs (cells' := 1) (slots' := 6) rfl rfl ?_
  refine va_putF (D := (dC, dI)) (ci := 4) (v := .ref q1) (ty := .array .int) (C := R_RQ) (T := F_RQ) (N := 17) hx hb ht in_RQ t_RQ t_RQ_ok n_RQ hown hK hP hD hS 0 rfl rfl 7 (by decide) (ht _ tb_389) (fun _ h9 => h9) rfl hin rfl (by decide +kernel) rfl rfl (Nat.le_of_ble_eq_true rfl) d_RQ_init_9 (fun H locs hP hD hS => ?_)
  have hP : va_P (dC, dI) cls_ [(h0, .inr (4, [.int 0, .int 0, .int 0, .int 0, .int 0, .int 0, .int 0, .ref q1, .int 0, .int 0, .int 0, .int 0, .int 0, .int 0, .int 0, .int 0, .int 0])), (q1, .inl (k2, 6, .inl (fun _ => 0)))] H := hP
  have hD : va_D A [(h0, .inr (4, [.int 0, .int 0, .int 0, .int 0, .int 0, .int 0, .int 0, .ref q1, .int 0, .int 0, .int 0, .int 0, .int 0, .int 0, .int 0, .int 0, .int 0])), (q1, .inl (k2, 6, .inl (fun _ => 0)))] := hD
  refine lv_aload_n hx hb d_RQ_init_12 rfl (lv_at hl 0 rfl) ?_
  refine lv_iconst (v := 0) hx hb d_RQ_init_13 (by decide) ?_
  refine va_put (D := (dC, dI)) (ci := 4) (v := .int 0) (ty := .int) (C := R_RQ) (T := F_RQ) (N := 17) hx hb ht in_RQ t_RQ t_RQ_ok n_RQ hown hK hP hD hS 0 rfl rfl 8 (by decide) (ht _ tb_391) (fun _ h9 => h9) rfl (by decide +kernel) rfl rfl (Nat.le_of_ble_eq_true rfl) d_RQ_init_14 (fun H locs hP hD hS => ?_)
  have hP : va_P (dC, dI) cls_ [(h0, .inr (4, [.int 0, .int 0, .int 0, .int 0, .int 0, .int 0, .int 0, .ref q1, .int 0, .int 0, .int 0, .int 0, .int 0, .int 0, .int 0, .int 0, .int 0])), (q1, .inl (k2, 6, .inl (fun _ => 0)))] H := hP
  have hD : va_D A [(h0, .inr (4, [.int 0, .int 0, .int 0, .int 0, .int 0, .int 0, .int 0, .ref q1, .int 0, .int 0, .int 0, .int 0, .int 0, .int 0, .int 0, .int 0, .int 0])), (q1, .inl (k2, 6, .inl (fun _ => 0)))] := hD
  refine lv_aload_n hx hb d_RQ_init_17 rfl (lv_at hl 0 rfl) ?_
  refine lv_iconst (v := -1) hx hb d_RQ_init_18 (by decide) ?_
  refine va_put (D := (dC, dI)) (ci := 4) (v := .int (-1)) (ty := .int) (C := R_RQ) (T := F_RQ) (N := 17) hx hb ht in_RQ t_RQ t_RQ_ok n_RQ hown hK hP hD hS 0 rfl rfl 9 (by decide) (ht _ tb_394) (fun _ h9 => h9) rfl (by decide +kernel) rfl rfl (Nat.le_of_ble_eq_true rfl) d_RQ_init_19 (fun H locs hP hD hS => ?_)
  have hP : va_P (dC, dI) cls_ [(h0, .inr (4, [.int 0, .int 0, .int 0, .int 0, .int 0, .int 0, .int 0, .ref q1, .int 0, .int (-1), .int 0, .int 0, .int 0, .int 0, .int 0, .int 0, .int 0])), (q1, .inl (k2, 6, .inl (fun _ => 0)))] H := hP
  have hD : va_D A [(h0, .inr (4, [.int 0, .int 0, .int 0, .int 0, .int 0, .int 0, .int 0, .ref q1, .int 0, .int (-1), .int 0, .int 0, .int 0, .int 0, .int 0, .int 0, .int 0])), (q1, .inl (k2, 6, .inl (fun _ => 0)))] := hD
  refine lv_aload_n hx hb d_RQ_init_22 rfl (lv_at hl 0 rfl) ?_
  refine lv_iconst (v := -1) hx hb d_RQ_init_23 (by decide) ?_
  refine va_put (D := (dC, dI)) (ci := 4) (v := .int (-1)) (ty := .int) (C := R_RQ) (T := F_RQ) (N := 17) hx hb ht in_RQ t_RQ t_RQ_ok n_RQ hown hK hP hD hS 0 rfl rfl 10 (by decide) (ht _ tb_396) (fun _ h9 => h9) rfl (by decide +kernel) rfl rfl (Nat.le_of_ble_eq_true rfl) d_RQ_init_24 (fun H locs hP hD hS => ?_)
  have hP : va_P (dC, dI) cls_ [(h0, .inr (4, [.int 0, .int 0, .int 0, .int 0, .int 0, .int 0, .int 0, .ref q1, .int 0, .int (-1), .int (-1), .int 0, .int 0, .int 0, .int 0, .int 0, .int 0])), (q1, .inl (k2, 6, .inl (fun _ => 0)))] H := hP
  have hD : va_D A [(h0, .inr (4, [.int 0, .int 0, .int 0, .int 0, .int 0, .int 0, .int 0, .ref q1, .int 0, .int (-1), .int (-1), .int 0, .int 0, .int 0, .int 0, .int 0, .int 0])), (q1, .inl (k2, 6, .inl (fun _ => 0)))] := hD
  refine lv_aload_n hx hb d_RQ_init_27 rfl (lv_at hl 0 rfl) ?_
  refine lv_iconst (v := 0) hx hb d_RQ_init_28 (by decide) ?_
  refine va_put (D := (dC, dI)) (ci := 4) (v := .int 0) (ty := .int) (C := R_RQ) (T := F_RQ) (N := 17) hx hb ht in_RQ t_RQ t_RQ_ok n_RQ hown hK hP hD hS 0 rfl rfl 11 (by decide) (ht _ tb_399) (fun _ h9 => h9) rfl (by decide +kernel) rfl rfl (Nat.le_of_ble_eq_true rfl) d_RQ_init_29 (fun H locs hP hD hS => ?_)
  have hP : va_P (dC, dI) cls_ [(h0, .inr (4, [.int 0, .int 0, .int 0, .int 0, .int 0, .int 0, .int 0, .ref q1, .int 0, .int (-1), .int (-1), .int 0, .int 0, .int 0, .int 0, .int 0, .int 0])), (q1, .inl (k2, 6, .inl (fun _ => 0)))] H := hP
  have hD : va_D A [(h0, .inr (4, [.int 0, .int 0, .int 0, .int 0, .int 0, .int 0, .int 0, .ref q1, .int 0, .int (-1), .int (-1), .int 0, .int 0, .int 0, .int 0, .int 0, .int 0])), (q1, .inl (k2, 6, .inl (fun _ => 0)))] := hD
  refine lv_aload_n hx hb d_RQ_init_32 rfl (lv_at hl 0 rfl) ?_
  refine lv_iconst (v := 0) hx hb d_RQ_init_33 (by decide) ?_
  refine va_put (D := (dC, dI)) (ci := 4) (v := .int 0) (ty := .int) (C := R_RQ) (T := F_RQ) (N := 17) hx hb ht in_RQ t_RQ t_RQ_ok n_RQ hown hK hP hD hS 0 rfl rfl 12 (by decide) (ht _ tb_402) (fun _ h9 => h9) rfl (by decide +kernel) rfl rfl (Nat.le_of_ble_eq_true rfl) d_RQ_init_34 (fun H locs hP hD hS => ?_)
  have hP : va_P (dC, dI) cls_ [(h0, .inr (4, [.int 0, .int 0, .int 0, .int 0, .int 0, .int 0, .int 0, .ref q1, .int 0, .int (-1), .int (-1), .int 0, .int 0, .int 0, .int 0, .int 0, .int 0])), (q1, .inl (k2, 6, .inl (fun _ => 0)))] H := hP
  have hD : va_D A [(h0, .inr (4, [.int 0, .int 0, .int 0, .int 0, .int 0, .int 0, .int 0, .ref q1, .int 0, .int (-1), .int (-1), .int 0, .int 0, .int 0, .int 0, .int 0, .int 0])), (q1, .inl (k2, 6, .inl (fun _ => 0)))] := hD
  refine lv_aload_n hx hb d_RQ_init_37 rfl (lv_at hl 0 rfl) ?_
  refine lv_iconst (v := 0) hx hb d_RQ_init_38 (by decide) ?_
  refine va_put (D := (dC, dI)) (ci := 4) (v := .int 0) (ty := .int) (C := R_RQ) (T := F_RQ) (N := 17) hx hb ht in_RQ t_RQ t_RQ_ok n_RQ hown hK hP hD hS 0 rfl rfl 13 (by decide) (ht _ tb_405) (fun _ h9 => h9) rfl (by decide +kernel) rfl rfl (Nat.le_of_ble_eq_true rfl) d_RQ_init_39 (fun H locs hP hD hS => ?_)
  have hP : va_P (dC, dI) cls_ [(h0, .inr (4, [.int 0, .int 0, .int 0, .int 0, .int 0, .int 0, .int 0, .ref q1, .int 0, .int (-1), .int (-1), .int 0, .int 0, .int 0, .int 0, .int 0, .int 0])), (q1, .inl (k2, 6, .inl (fun _ => 0)))] H := hP
  have hD : va_D A [(h0, .inr (4, [.int 0, .int 0, .int 0, .int 0, .int 0, .int 0, .int 0, .ref q1, .int 0, .int (-1), .int (-1), .int 0, .int 0, .int 0, .int 0, .int 0, .int 0])), (q1, .inl (k2, 6, .inl (fun _ => 0)))] := hD
  refine lv_aload_n hx hb d_RQ_init_42 rfl (lv_at hl 0 rfl) ?_
  refine lv_iconst (v := 0) hx hb d_RQ_init_43 (by decide) ?_
  refine va_put (D := (dC, dI)) (ci := 4) (v := .int 0) (ty := .int) (C := R_RQ) (T := F_RQ) (N := 17) hx hb ht in_RQ t_RQ t_RQ_ok n_RQ hown hK hP hD hS 0 rfl rfl 14 (by decide) (ht _ tb_407) (fun _ h9 => h9) rfl (by decide +kernel) rfl rfl (Nat.le_of_ble_eq_true rfl) d_RQ_init_44 (fun H locs hP hD hS => ?_)
  have hP : va_P (dC, dI) cls_ [(h0, .inr (4, [.int 0, .int 0, .int 0, .int 0, .int 0, .int 0, .int 0, .ref q1, .int 0, .int (-1), .int (-1), .int 0, .int 0, .int 0, .int 0, .int 0, .int 0])), (q1, .inl (k2, 6, .inl (fun _ => 0)))] H := hP
  have hD : va_D A [(h0, .inr (4, [.int 0, .int 0, .int 0, .int 0, .int 0, .int 0, .int 0, .ref q1, .int 0, .int (-1), .int (-1), .int 0, .int 0, .int 0, .int 0, .int 0, .int 0])), (q1, .inl (k2, 6, .inl (fun _ => 0)))] := hD
  refine lv_aload_n hx hb d_RQ_init_47 rfl (lv_at hl 0 rfl) ?_
  refine lv_iconst (v := 0) hx hb d_RQ_init_48 (by decide) ?_
  refine va_put (D := (dC, dI)) (ci := 4) (v := .int 0) (ty := .boolean) (C := R_RQ) (T := F_RQ) (N := 17) hx hb ht in_RQ t_RQ t_RQ_ok n_RQ hown hK hP hD hS 0 rfl rfl 15 (by decide) (ht _ tb_409) (fun _ h9 => h9) rfl (by decide +kernel) rfl rfl (Nat.le_of_ble_eq_true rfl) d_RQ_init_49 (fun H locs hP hD hS => ?_)
  have hP : va_P (dC, dI) cls_ [(h0, .inr (4, [.int 0, .int 0, .int 0, .int 0, .int 0, .int 0, .int 0, .ref q1, .int 0, .int (-1), .int (-1), .int 0, .int 0, .int 0, .int 0, .int 0, .int 0])), (q1, .inl (k2, 6, .inl (fun _ => 0)))] H := hP
  have hD : va_D A [(h0, .inr (4, [.int 0, .int 0, .int 0, .int 0, .int 0, .int 0, .int 0, .ref q1, .int 0, .int (-1), .int (-1), .int 0, .int 0, .int 0, .int 0, .int 0, .int 0])), (q1, .inl (k2, 6, .inl (fun _ => 0)))] := hD
  refine lv_aload_n hx hb d_RQ_init_52 rfl (lv_at hl 0 rfl) ?_
  refine lv_iconst (v := 0) hx hb d_RQ_init_53 (by decide) ?_
  refine va_put (D := (dC, dI)) (ci := 4) (v := .int 0) (ty := .boolean) (C := R_RQ) (T := F_RQ) (N := 17) hx hb ht in_RQ t_RQ t_RQ_ok n_RQ hown hK hP hD hS 0 rfl rfl 16 (by decide) (ht _ tb_411) (fun _ h9 => h9) rfl (by decide +kernel) rfl rfl (Nat.le_of_ble_eq_true rfl) d_RQ_init_54 (fun H locs hP hD hS => ?_)
  have hP : va_P (dC, dI) cls_ [(h0, .inr (4, [.int 0, .int 0, .int 0, .int 0, .int 0, .int 0, .int 0, .ref q1, .int 0, .int (-1), .int (-1), .int 0, .int 0, .int 0, .int 0, .int 0, .int 0])), (q1, .inl (k2, 6, .inl (fun _ => 0)))] H := hP
  have hD : va_D A [(h0, .inr (4, [.int 0, .int 0, .int 0, .int 0, .int 0, .int 0, .int 0, .ref q1, .int 0, .int (-1), .int (-1), .int 0, .int 0, .int 0, .int 0, .int 0, .int 0])), (q1, .inl (k2, 6, .inl (fun _ => 0)))] := hD
  refine lv_aload_n hx hb d_RQ_init_57 rfl (lv_at hl 0 rfl) ?_
  refine lv_iload_n hx hb d_RQ_init_58 rfl (lv_at hl 1 rfl) ?_
  refine va_putF (D := (dC, dI)) (ci := 4) (v := .int nu) (ty := .int) (C := R_RQ) (T := F_RQ) (N := 17) hx hb ht in_RQ t_RQ t_RQ_ok n_RQ hown hK hP hD hS 0 rfl rfl 0 (by decide) (ht _ tb_372) (fun _ h9 => h9) rfl hin rfl (by decide +kernel) rfl rfl (Nat.le_of_ble_eq_true rfl) d_RQ_init_59 (fun H locs hP hD hS => ?_)
  have hP : va_P (dC, dI) cls_ [(h0, .inr (4, [.int nu, .int 0, .int 0, .int 0, .int 0, .int 0, .int 0, .ref q1, .int 0, .int (-1), .int (-1), .int 0, .int 0, .int 0, .int 0, .int 0, .int 0])), (q1, .inl (k2, 6, .inl (fun _ => 0)))] H := hP
  have hD : va_D A [(h0, .inr (4, [.int nu, .int 0, .int 0, .int 0, .int 0, .int 0, .int 0, .ref q1, .int 0, .int (-1), .int (-1), .int 0, .int 0, .int 0, .int 0, .int 0, .int 0])), (q1, .inl (k2, 6, .inl (fun _ => 0)))] := hD
  refine lv_aload_n hx hb d_RQ_init_62 rfl (lv_at hl 0 rfl) ?_
  refine lv_iload_n hx hb d_RQ_init_63 rfl (lv_at hl 2 rfl) ?_
  refine va_putF (D := (dC, dI)) (ci := 4) (v := .int ch) (ty := .int) (C := R_RQ) (T := F_RQ) (N := 17) hx hb ht in_RQ t_RQ t_RQ_ok n_RQ hown hK hP hD hS 0 rfl rfl 1 (by decide) (ht _ tb_374) (fun _ h9 => h9) rfl hin rfl (by decide +kernel) rfl rfl (Nat.le_of_ble_eq_true rfl) d_RQ_init_64 (fun H locs hP hD hS => ?_)
  have hP : va_P (dC, dI) cls_ [(h0, .inr (4, [.int nu, .int ch, .int 0, .int 0, .int 0, .int 0, .int 0, .ref q1, .int 0, .int (-1), .int (-1), .int 0, .int 0, .int 0, .int 0, .int 0, .int 0])), (q1, .inl (k2, 6, .inl (fun _ => 0)))] H := hP
  have hD : va_D A [(h0, .inr (4, [.int nu, .int ch, .int 0, .int 0, .int 0, .int 0, .int 0, .ref q1, .int 0, .int (-1), .int (-1), .int 0, .int 0, .int 0, .int 0, .int 0, .int 0])), (q1, .inl (k2, 6, .inl (fun _ => 0)))] := hD
  refine lv_aload_n hx hb d_RQ_init_67 rfl (lv_at hl 0 rfl) ?_
  refine lv_iload_n hx hb d_RQ_init_68 rfl (lv_at hl 3 rfl) ?_
  refine va_putF (D := (dC, dI)) (ci := 4) (v := .int st) (ty := .int) (C := R_RQ) (T := F_RQ) (N := 17) hx hb ht in_RQ t_RQ t_RQ_ok n_RQ hown hK hP hD hS 0 rfl rfl 2 (by decide) (ht _ tb_377) (fun _ h9 => h9) rfl hin rfl (by decide +kernel) rfl rfl (Nat.le_of_ble_eq_true rfl) d_RQ_init_69 (fun H locs hP hD hS => ?_)
  have hP : va_P (dC, dI) cls_ [(h0, .inr (4, [.int nu, .int ch, .int st, .int 0, .int 0, .int 0, .int 0, .ref q1, .int 0, .int (-1), .int (-1), .int 0, .int 0, .int 0, .int 0, .int 0, .int 0])), (q1, .inl (k2, 6, .inl (fun _ => 0)))] H := hP
  have hD : va_D A [(h0, .inr (4, [.int nu, .int ch, .int st, .int 0, .int 0, .int 0, .int 0, .ref q1, .int 0, .int (-1), .int (-1), .int 0, .int 0, .int 0, .int 0, .int 0, .int 0])), (q1, .inl (k2, 6, .inl (fun _ => 0)))] := hD
  refine lv_aload_n hx hb d_RQ_init_72 rfl (lv_at hl 0 rfl) ?_
  refine lv_iload_n hx hb d_RQ_init_73 rfl (lv_at hl 3 rfl) ?_
  refine lv_iload hx hb d_RQ_init_74 (lv_at hl 4 rfl) ?_
  refine lv_iadd hx hb d_RQ_init_76 ?_
  refine va_putF (D := (dC, dI)) (ci := 4) (v := .int (st + ln)) (ty := .int) (C := R_RQ) (T := F_RQ) (N := 17) hx hb ht in_RQ t_RQ t_RQ_ok n_RQ hown hK hP hD hS 0 rfl rfl 3 (by decide) (ht _ tb_380) (fun _ h9 => h9) rfl hin rfl (by decide +kernel) rfl rfl (Nat.le_of_ble_eq_true rfl) d_RQ_init_77 (fun H locs hP hD hS => ?_)
  have hP : va_P (dC, dI) cls_ [(h0, .inr (4, [.int nu, .int ch, .int st, .int (st + ln), .int 0, .int 0, .int 0, .ref q1, .int 0, .int (-1), .int (-1), .int 0, .int 0, .int 0, .int 0, .int 0, .int 0])), (q1, .inl (k2, 6, .inl (fun _ => 0)))] H := hP
  have hD : va_D A [(h0, .inr (4, [.int nu, .int ch, .int st, .int (st + ln), .int 0, .int 0, .int 0, .ref q1, .int 0, .int (-1), .int (-1), .int 0, .int 0, .int 0, .int 0, .int 0, .int 0])), (q1, .inl (k2, 6, .inl (fun _ => 0)))] := hD
  refine lv_aload_n hx hb d_RQ_init_80 rfl (lv_at hl 0 rfl) ?_
  refine lv_iload hx hb d_RQ_init_81 (lv_at hl 5 rfl) ?_
  refine va_putF (D := (dC, dI)) (ci := 4) (v := .int pr) (ty := .int) (C := R_RQ) (T := F_RQ) (N := 17) hx hb ht in_RQ t_RQ t_RQ_ok n_RQ hown hK hP hD hS 0 rfl rfl 4 (by decide) (ht _ tb_383) (fun _ h9 => h9) rfl hin rfl (by decide +kernel) rfl rfl (Nat.le_of_ble_eq_true rfl) d_RQ_init_83 (fun H locs hP hD hS => ?_)
  have hP : va_P (dC, dI) cls_ [(h0, .inr (4, [.int nu, .int ch, .int st, .int (st + ln), .int pr, .int 0, .int 0, .ref q1, .int 0, .int (-1), .int (-1), .int 0, .int 0, .int 0, .int 0, .int 0, .int 0])), (q1, .inl (k2, 6, .inl (fun _ => 0)))] H := hP
  have hD : va_D A [(h0, .inr (4, [.int nu, .int ch, .int st, .int (st + ln), .int pr, .int 0, .int 0, .ref q1, .int 0, .int (-1), .int (-1), .int 0, .int 0, .int 0, .int 0, .int 0, .int 0])), (q1, .inl (k2, 6, .inl (fun _ => 0)))] := hD
  refine lv_aload_n hx hb d_RQ_init_86 rfl (lv_at hl 0 rfl) ?_
  refine lv_iload hx hb d_RQ_init_87 (lv_at hl 6 rfl) ?_
  refine lv_bipush (v := 10) hx hb d_RQ_init_89 (by decide) ?_
  refine lv_idiv hx hb d_RQ_init_91 (by decide) ?_
  refine va_putF (D := (dC, dI)) (ci := 4) (v := .int (pd / 10)) (ty := .int) (C := R_RQ) (T := F_RQ) (N := 17) hx hb ht in_RQ t_RQ t_RQ_ok n_RQ hown hK hP hD hS 0 rfl rfl 5 (by decide) (ht _ tb_385) (fun _ h9 => h9) rfl hin rfl (by decide +kernel) rfl rfl (Nat.le_of_ble_eq_true rfl) d_RQ_init_92 (fun H locs hP hD hS => ?_)
  have hP : va_P (dC, dI) cls_ [(h0, .inr (4, [.int nu, .int ch, .int st, .int (st + ln), .int pr, .int (pd / 10), .int 0, .ref q1, .int 0, .int (-1), .int (-1), .int 0, .int 0, .int 0, .int 0, .int 0, .int 0])), (q1, .inl (k2, 6, .inl (fun _ => 0)))] H := hP
  have hD : va_D A [(h0, .inr (4, [.int nu, .int ch, .int st, .int (st + ln), .int pr, .int (pd / 10), .int 0, .ref q1, .int 0, .int (-1), .int (-1), .int 0, .int 0, .int 0, .int 0, .int 0, .int 0])), (q1, .inl (k2, 6, .inl (fun _ => 0)))] := hD
  refine lv_aload_n hx hb d_RQ_init_95 rfl (lv_at hl 0 rfl) ?_
  refine lv_iload hx hb d_RQ_init_96 (lv_at hl 6 rfl) ?_
  refine lv_bipush (v := 10) hx hb d_RQ_init_98 (by decide) ?_
  refine lv_irem hx hb d_RQ_init_100 (by decide) ?_
  refine va_putF (D := (dC, dI)) (ci := 4) (v := .int (pd - pd / 10 * 10)) (ty := .int) (C := R_RQ) (T := F_RQ) (N := 17) hx hb ht in_RQ t_RQ t_RQ_ok n_RQ hown hK hP hD hS 0 rfl rfl 6 (by decide) (ht _ tb_387) (fun _ h9 => h9) rfl hin rfl (by decide +kernel) rfl rfl (Nat.le_of_ble_eq_true rfl) d_RQ_init_101 (fun H locs hP hD hS => ?_)
  have hP : va_P (dC, dI) cls_ [(h0, .inr (4, [.int nu, .int ch, .int st, .int (st + ln), .int pr, .int (pd / 10), .int (pd - pd / 10 * 10), .ref q1, .int 0, .int (-1), .int (-1), .int 0, .int 0, .int 0, .int 0, .int 0, .int 0])), (q1, .inl (k2, 6, .inl (fun _ => 0)))] H := hP
  have hD : va_D A [(h0, .inr (4, [.int nu, .int ch, .int st, .int (st + ln), .int pr, .int (pd / 10), .int (pd - pd / 10 * 10), .ref q1, .int 0, .int (-1), .int (-1), .int 0, .int 0, .int 0, .int 0, .int 0, .int 0])), (q1, .inl (k2, 6, .inl (fun _ => 0)))] := hD
  have hP9 := hP.sub (ws' := [(h0, .inr (4, [.int nu, .int ch, .int st, .int (st + ln), .int pr, .int (pd / 10), .int (pd - pd / 10 * 10), .ref q1, .int 0, .int (-1), .int (-1), .int 0, .int 0, .int 0, .int 0, .int 0, .int 0])), (q1, .inl (k2, 6, .inl (fun _ => 0)))]) [0, 1] rfl
  have hD9 := hD.sub (ws' := [(h0, .inr (4, [.int nu, .int ch, .int st, .int (st + ln), .int pr, .int (pd / 10), .int (pd - pd / 10 * 10), .ref q1, .int 0, .int (-1), .int (-1), .int 0, .int 0, .int 0, .int 0, .int 0, .int 0])), (q1, .inl (k2, 6, .inl (fun _ => 0)))]) [0, 1] (by decide) rfl
  have hK9 := hK.sub (tys' := [(k2, .int)]) [0] rfl
  exact W.vret hx hb hr (fun t ht9 hW => ⟨rfl, ⟨q1, k2, by rw [ht9]; exact hP9, va_K.moved hW.alike hK9, hD9⟩, hS.F ht9⟩) hS.2.2 d_RQ_init_104
set_option maxHeartbeats 4000000 in
set_option maxRecDepth 100000 in
theorem c_PL_init_mk (l : Launch) (dC : Nat → ClassId) (dI : Nat → Nat → Nat) (sz Bd : Nat) (h0 : Nat) : Met l y_PL_init w_PL_init ({ frames := 1, cells := 1, slots := 12, locals := 20 }) (frP (dC, dI) [(h0, .inr (1, [.null, .int 0]))] [] sz Bd [.ref h0]) (frQ none (fun t => ∃ (q1 : Nat) (k1 : Nat), va_P (dC, dI) cls_ [(h0, .inr (1, [.ref q1, .int 0])), (q1, .inl (k1, 12, .inr (.inr (.inr (.inr (fun _ => none))))))] t.heap ∧ va_K (dC, dI) cls_ [(k1, .object "TwinTuners$Request")] t ∧ va_D (va_A [(h0, .inr (1, [.null, .int 0]))] sz) [(h0, .inr (1, [.ref q1, .int 0])), (q1, .inl (k1, 12, .inr (.inr (.inr (.inr (fun _ => none))))))]) (va_A [(h0, .inr (1, [.null, .int 0]))] sz)) 1 12 (va_A [(h0, .inr (1, [.null, .int 0]))] sz) := by
  refine Met.ofW (cc := c_PL_init) (maxL := 1) (ret := none) (by decide) rfl ?_
  intro p e s m args below meth c s₁ B hml hv
  obtain ⟨rfl, ⟨hsz, hBs⟩, hP, hK, hD0, hV⟩ := hv
  have hx := B.exec
  have hb := B.bytes
  have hr := B.returns
  have ht : ∀ w ∈ tb_, w.before _ s = true := fun w h => atoms_spec (ws := w_PL_init) B.pre w (List.mem_cons_of_mem _ h)
  have hown : s.vm.findClass R_PL = some m.cls := findClass_of_methodNamed B.named
  have hlocks := B.notSynchronized
  have hin : meth.name = "<init>" := (name_of_methodNamed B.named B.method).1
  subst hsz
  have hD := hD0.self (sz := s.heap.size)
  have hAB : ∀ q, va_A [(h0, .inr (1, [.null, .int 0]))] s.heap.size q → Bd ≤ q := fr_AB hD0 hBs
  generalize hAe : va_A [(h0, .inr (1, [.null, .int 0]))] s.heap.size = A at hD hAB ⊢
  have hA : ∀ q : Nat, s.heap.size ≤ q → A q := fun q h => by rw [← hAe]; exact Or.inr h
  have hS : va_S A s.heap s.heap [] := va_S.rf
  have hAO := hV.2.2.2.1
  have hN_PL := hV.2.2.1.1
  have hN_RW := hV.2.2.1.2.1
  have hP : va_P (dC, dI) cls_ [(h0, .inr (1, [.null, .int 0]))] s.heap := hP
  have hl := lv_entry ([.ref h0]) (n := 1) (Nat.le_of_ble_eq_true rfl)
  rw [lg_entry_eq]
  generalize (lg_sl ([.ref h0]) ++ List.replicate (1 - (lg_sl ([.ref h0])).length) Slot.unset).toArray = ls at hl ⊢
  have hl : lv_has ls 1 [(0, .ref h0)] := hl
  refine lv_aload_n hx hb d_PL_init_0 rfl (lv_at hl 0 rfl) ?_
  refine W.objInit hx hb hown (ht _ tb_30) (ht _ tb_21) (ht _ tb_22) rfl (by rw [hml]; exact hl.1) rfl d_PL_init_1 (Nat.le_of_ble_eq_true rfl) (Nat.le_of_ble_eq_true rfl) ?_
  refine W.eq (g2 := F0 m 4 ls []) rfl ?_
  refine lv_aload_n hx hb d_PL_init_4 rfl (lv_at hl 0 rfl) ?_
  refine lv_bipush (v := 12) hx hb d_PL_init_5 (by decide) ?_
  refine va_newq (C := "TwinTuners$Request") (N' := 12) (n := 12) hx hb hown (ht _ tb_31) hAO hK hP hD hS hA (by decide) (by decide) (by decide) (Nat.le_of_ble_eq_true rfl) (Nat.le_of_ble_eq_true rfl) d_PL_init_7 (fun q1 k2 H hK hP hD hS => ?_)
  have hP : va_P (dC, dI) cls_ [(h0, .inr (1, [.null, .int 0])), (q1, .inl (k2, 12, .inr (.inr (.inr (.inr (fun _ => none))))))] H := hP
  have hD : va_D A [(h0, .inr (1, [.null, .int 0])), (q1, .inl (k2, 12, .inr (.inr (.inr (.inr (fun _ => none))))))] := hD
  have hK : va_K (dC, dI) cls_ [(k2, .object "TwinTuners$Request")] s := hK
  refine W.cs (cells' := 1) (slots' := 12) rfl rfl ?_
  refine va_putF (D := (dC, dI)) (ci := 1) (v := .ref q1) (ty := .array (.object "TwinTuners$Request")) (C := R_PL) (T := F_PL) (N := 2) hx hb ht in_PL t_PL t_PL_ok n_PL hown hK hP hD hS 0 rfl rfl 0 (by decide) (ht _ tb_32) (fun _ h9 => h9) rfl hin rfl (by decide +kernel) rfl rfl (Nat.le_of_ble_eq_true rfl) d_PL_init_10 (fun H locs hP hD hS => ?_)
  have hP : va_P (dC, dI) cls_ [(h0, .inr (1, [.ref q1, .int 0])), (q1, .inl (k2, 12, .inr (.inr (.inr (.inr (fun _ => none))))))] H := hP
  have hD : va_D A [(h0, .inr (1, [.ref q1, .int 0])), (q1, .inl (k2, 12, .inr (.inr (.inr (.inr (fun _ => none))))))] := hD
  refine lv_aload_n hx hb d_PL_init_13 rfl (lv_at hl 0 rfl) ?_
  refine lv_iconst (v := 0) hx hb d_PL_init_14 (by decide) ?_
  refine va_put (D := (dC, dI)) (ci := 1) (v := .int 0) (ty := .int) (C := R_PL) (T := F_PL) (N := 2) hx hb ht in_PL t_PL t_PL_ok n_PL hown hK hP hD hS 0 rfl rfl 1 (by decide) (ht _ tb_33) (fun _ h9 => h9) rfl (by decide +kernel) rfl rfl (Nat.le_of_ble_eq_true rfl) d_PL_init_15 (fun H locs hP hD hS => ?_)
  have hP : va_P (dC, dI) cls_ [(h0, .inr (1, [.ref q1, .int 0])), (q1, .inl (k2, 12, .inr (.inr (.inr (.inr (fun _ => none))))))] H := hP
  have hD : va_D A [(h0, .inr (1, [.ref q1, .int 0])), (q1, .inl (k2, 12, .inr (.inr (.inr (.inr (fun _ => none))))))] := hD
  have hP9 := hP.sub (ws' := [(h0, .inr (1, [.ref q1, .int 0])), (q1, .inl (k2, 12, .inr (.inr (.inr (.inr (fun _ => none))))))]) [0, 1] rfl
  have hD9 := hD.sub (ws' := [(h0, .inr (1, [.ref q1, .int 0])), (q1, .inl (k2, 12, .inr (.inr (.inr (.inr (fun _ => none))))))]) [0, 1] (by decide) rfl
  have hK9 := hK.sub (tys' := [(k2, .object "TwinTuners$Request")]) [0] rfl
  exact W.vret hx hb hr (fun t ht9 hW => ⟨rfl, ⟨q1, k2, by rw [ht9]; exact hP9, va_K.moved hW.alike hK9, hD9⟩, hS.F ht9⟩) hS.2.2 d_PL_init_18
set_option maxHeartbeats 4000000 in
set_option maxRecDepth 100000 in
theorem c_RW_init_mk (l : Launch) (dC : Nat → ClassId) (dI : Nat → Nat → Nat) (sz Bd : Nat) (h0 : Nat) : Met l y_RW_init w_RW_init ({ frames := 1, cells := 1, slots := 30, locals := 20 }) (frP (dC, dI) [(h0, .inr (3, [.null, .int 0, .int 0]))] [] sz Bd [.ref h0]) (frQ none (fun t => ∃ (q1 : Nat) (k1 : Nat), va_P (dC, dI) cls_ [(h0, .inr (3, [.ref q1, .int 0, .int 0])), (q1, .inl (k1, 30, .inl (fun _ => 0)))] t.heap ∧ va_K (dC, dI) cls_ [(k1, .int)] t ∧ va_D (va_A [(h0, .inr (3, [.null, .int 0, .int 0]))] sz) [(h0, .inr (3, [.ref q1, .int 0, .int 0])), (q1, .inl (k1, 30, .inl (fun _ => 0)))]) (va_A [(h0, .inr (3, [.null, .int 0, .int 0]))] sz)) 1 30 (va_A [(h0, .inr (3, [.null, .int 0, .int 0]))] sz) := by
  refine Met.ofW (cc := c_RW_init) (maxL := 1) (ret := none) (by decide) rfl ?_
  intro p e s m args below meth c s₁ B hml hv
  obtain ⟨rfl, ⟨hsz, hBs⟩, hP, hK, hD0, hV⟩ := hv
  have hx := B.exec
  have hb := B.bytes
  have hr := B.returns
  have ht : ∀ w ∈ tb_, w.before _ s = true := fun w h => atoms_spec (ws := w_RW_init) B.pre w (List.mem_cons_of_mem _ h)
  have hown : s.vm.findClass R_RW = some m.cls := findClass_of_methodNamed B.named
  have hlocks := B.notSynchronized
  have hin : meth.name = "<init>" := (name_of_methodNamed B.named B.method).1
  subst hsz
  have hD := hD0.self (sz := s.heap.size)
  have hAB : ∀ q, va_A [(h0, .inr (3, [.null, .int 0, .int 0]))] s.heap.size q → Bd ≤ q := fr_AB hD0 hBs
  generalize hAe : va_A [(h0, .inr (3, [.null, .int 0, .int 0]))] s.heap.size = A at hD hAB ⊢
  have hA : ∀ q : Nat, s.heap.size ≤ q → A q := fun q h => by rw [← hAe]; exact Or.inr h
  have hS : va_S A s.heap s.heap [] := va_S.rf
  have hAO := hV.2.2.2.1
  have hN_PL := hV.2.2.1.1
  have hN_RW := hV.2.2.1.2.1
  have hP : va_P (dC, dI) cls_ [(h0, .inr (3, [.null, .int 0, .int 0]))] s.heap := hP
  have hl := lv_entry ([.ref h0]) (n := 1) (Nat.le_of_ble_eq_true rfl)
  rw [lg_entry_eq]
  generalize (lg_sl ([.ref h0]) ++ List.replicate (1 - (lg_sl ([.ref h0])).length) Slot.unset).toArray = ls at hl ⊢
  have hl : lv_has ls 1 [(0, .ref h0)] := hl
  refine lv_aload_n hx hb d_RW_init_0 rfl (lv_at hl 0 rfl) ?_
  refine W.objInit hx hb hown (ht _ tb_64) (ht _ tb_21) (ht _ tb_22) rfl (by rw [hml]; exact hl.1) rfl d_RW_init_1 (Nat.le_of_ble_eq_true rfl) (Nat.le_of_ble_eq_true rfl) ?_
  refine W.eq (g2 := F0 m 4 ls []) rfl ?_
  refine lv_aload_n hx hb d_RW_init_4 rfl (lv_at hl 0 rfl) ?_
  refine lv_bipush (v := 30) hx hb d_RW_init_5 (by decide) ?_
  refine va_newa (atype := .int) (N' := 30) (a0 := (30, .inl (fun _ => 0))) (ty := .int) (n := 30) hx hb (ht _ tb_39) rfl hK hP hD hS hA (fun _ => rfl) (by decide) (by decide) (by decide) (Nat.le_of_ble_eq_true rfl) (Nat.le_of_ble_eq_true rfl) d_RW_init_7 (fun q1 k2 H hK hP hD hS => ?_)
  have hP : va_P (dC, dI) cls_ [(h0, .inr (3, [.null, .int 0, .int 0])), (q1, .inl (k2, 30, .inl (fun _ => 0)))] H := hP
  have hD : va_D A [(h0, .inr (3, [.null, .int 0, .int 0])), (q1, .inl (k2, 30, .inl (fun _ => 0)))] := hD
  have hK : va_K (dC, dI) cls_ [(k2, .int)] s := hK
  refine W.cs (cells' := 1) (slots' := 30) rfl rfl ?_
  refine va_putF (D := (dC, dI)) (ci := 3) (v := .ref q1) (ty := .array .int) (C := R_RW) (T := F_RW) (N := 3) hx hb ht in_RW t_RW t_RW_ok n_RW hown hK hP hD hS 0 rfl rfl 0 (by decide) (ht _ tb_65) (fun _ h9 => h9) rfl hin rfl (by decide +kernel) rfl rfl (Nat.le_of_ble_eq_true rfl) d_RW_init_9 (fun H locs hP hD hS => ?_)
  have hP : va_P (dC, dI) cls_ [(h0, .inr (3, [.ref q1, .int 0, .int 0])), (q1, .inl (k2, 30, .inl (fun _ => 0)))] H := hP
  have hD : va_D A [(h0, .inr (3, [.ref q1, .int 0, .int 0])), (q1, .inl (k2, 30, .inl (fun _ => 0)))] := hD
  refine lv_aload_n hx hb d_RW_init_12 rfl (lv_at hl 0 rfl) ?_
  refine lv_iconst (v := 0) hx hb d_RW_init_13 (by decide) ?_
  refine va_put (D := (dC, dI)) (ci := 3) (v := .int 0) (ty := .int) (C := R_RW) (T := F_RW) (N := 3) hx hb ht in_RW t_RW t_RW_ok n_RW hown hK hP hD hS 0 rfl rfl 1 (by decide) (ht _ tb_66) (fun _ h9 => h9) rfl (by decide +kernel) rfl rfl (Nat.le_of_ble_eq_true rfl) d_RW_init_14 (fun H locs hP hD hS => ?_)
  have hP : va_P (dC, dI) cls_ [(h0, .inr (3, [.ref q1, .int 0, .int 0])), (q1, .inl (k2, 30, .inl (fun _ => 0)))] H := hP
  have hD : va_D A [(h0, .inr (3, [.ref q1, .int 0, .int 0])), (q1, .inl (k2, 30, .inl (fun _ => 0)))] := hD
  refine lv_aload_n hx hb d_RW_init_17 rfl (lv_at hl 0 rfl) ?_
  refine lv_iconst (v := 0) hx hb d_RW_init_18 (by decide) ?_
  refine va_put (D := (dC, dI)) (ci := 3) (v := .int 0) (ty := .int) (C := R_RW) (T := F_RW) (N := 3) hx hb ht in_RW t_RW t_RW_ok n_RW hown hK hP hD hS 0 rfl rfl 2 (by decide) (ht _ tb_67) (fun _ h9 => h9) rfl (by decide +kernel) rfl rfl (Nat.le_of_ble_eq_true rfl) d_RW_init_19 (fun H locs hP hD hS => ?_)
  have hP : va_P (dC, dI) cls_ [(h0, .inr (3, [.ref q1, .int 0, .int 0])), (q1, .inl (k2, 30, .inl (fun _ => 0)))] H := hP
  have hD : va_D A [(h0, .inr (3, [.ref q1, .int 0, .int 0])), (q1, .inl (k2, 30, .inl (fun _ => 0)))] := hD
  have hP9 := hP.sub (ws' := [(h0, .inr (3, [.ref q1, .int 0, .int 0])), (q1, .inl (k2, 30, .inl (fun _ => 0)))]) [0, 1] rfl
  have hD9 := hD.sub (ws' := [(h0, .inr (3, [.ref q1, .int 0, .int 0])), (q1, .inl (k2, 30, .inl (fun _ => 0)))]) [0, 1] (by decide) rfl
  have hK9 := hK.sub (tys' := [(k2, .int)]) [0] rfl
  exact W.vret hx hb hr (fun t ht9 hW => ⟨rfl, ⟨q1, k2, by rw [ht9]; exact hP9, va_K.moved hW.alike hK9, hD9⟩, hS.F ht9⟩) hS.2.2 d_RW_init_22
