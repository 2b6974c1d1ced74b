abbrev c_MO_planAfter : ByteArray := prog_7_method_13_code
abbrev y_MO_planAfter : MethodName := ⟨"TwinTunersModel", "planAfter", "(I)V"⟩
def w_MO_planAfter : List Cond := .code y_MO_planAfter c_MO_planAfter 3 none :: tb_
abbrev c_MO_planBefore : ByteArray := prog_7_method_14_code
abbrev y_MO_planBefore : MethodName := ⟨"TwinTunersModel", "planBefore", "(I)V"⟩
def w_MO_planBefore : List Cond := .code y_MO_planBefore c_MO_planBefore 3 none :: tb_
abbrev c_MO_round : ByteArray := prog_7_method_15_code
abbrev y_MO_round : MethodName := ⟨"TwinTunersModel", "round", "(I)V"⟩
def w_MO_round : List Cond := .code y_MO_round c_MO_round 4 none :: tb_
set_option maxRecDepth 100000 in
theorem tb_632 : (.fieldLink "TwinTunersModel" 93 "TwinTunersModel" "now" "I" : Cond) ∈ tb_ := tb_w 632 rfl rfl
set_option maxRecDepth 100000 in
theorem tb_639 : (.fieldLink "TwinTunersModel" 26 "TwinTunersModel" "priorities" "[I" : Cond) ∈ tb_ := tb_w 639 rfl rfl
set_option maxRecDepth 100000 in
theorem tb_640 : (.fieldLink "TwinTunersModel" 29 "TwinTunersModel" "befores" "[I" : Cond) ∈ tb_ := tb_w 640 rfl rfl
set_option maxRecDepth 100000 in
theorem tb_641 : (.fieldLink "TwinTunersModel" 32 "TwinTunersModel" "afters" "[I" : Cond) ∈ tb_ := tb_w 641 rfl rfl
set_option maxRecDepth 100000 in
theorem tb_767 : (.code ⟨"TwinTunersModel", "round", "(I)V"⟩ prog_7_method_15_code 4 none : Cond) ∈ tb_ := tb_w 767 rfl rfl
set_option maxRecDepth 100000 in
theorem tb_768 : (.methodLink "TwinTunersModel" 128 ⟨"TwinTunersModel", "planCore", "(I)V"⟩ : Cond) ∈ tb_ := tb_w 768 rfl rfl
set_option maxRecDepth 100000 in
theorem tb_770 : (.instanceMethod ⟨"TwinTunersModel", "planCore", "(I)V"⟩ : Cond) ∈ tb_ := tb_w 770 rfl rfl
set_option maxRecDepth 100000 in
theorem tb_780 : (.methodLink "TwinTunersModel" 132 ⟨"TwinTunersModel", "planAfter", "(I)V"⟩ : Cond) ∈ tb_ := tb_w 780 rfl rfl
set_option maxRecDepth 100000 in
theorem tb_782 : (.instanceMethod ⟨"TwinTunersModel", "planAfter", "(I)V"⟩ : Cond) ∈ tb_ := tb_w 782 rfl rfl
set_option maxRecDepth 100000 in
theorem tb_783 : (.code ⟨"TwinTunersModel", "planAfter", "(I)V"⟩ prog_7_method_13_code 3 none : Cond) ∈ tb_ := tb_w 783 rfl rfl
set_option maxRecDepth 100000 in
theorem tb_784 : (.methodLink "TwinTunersModel" 135 ⟨"TwinTunersModel", "planBefore", "(I)V"⟩ : Cond) ∈ tb_ := tb_w 784 rfl rfl
set_option maxRecDepth 100000 in
theorem tb_786 : (.instanceMethod ⟨"TwinTunersModel", "planBefore", "(I)V"⟩ : Cond) ∈ tb_ := tb_w 786 rfl rfl
set_option maxRecDepth 100000 in
theorem tb_787 : (.code ⟨"TwinTunersModel", "planBefore", "(I)V"⟩ prog_7_method_14_code 3 none : Cond) ∈ tb_ := tb_w 787 rfl rfl
theorem ts_29 : (.selects "TwinTunersModel" ⟨"TwinTunersModel", "planCore", "(I)V"⟩ ⟨"TwinTunersModel", "planCore", "(I)V"⟩ : Cond) ∈ tb_ := ts_w 29 rfl rfl
theorem ts_32 : (.selects "TwinTunersModel" ⟨"TwinTunersModel", "planAfter", "(I)V"⟩ ⟨"TwinTunersModel", "planAfter", "(I)V"⟩ : Cond) ∈ tb_ := ts_w 32 rfl rfl
theorem ts_33 : (.selects "TwinTunersModel" ⟨"TwinTunersModel", "planBefore", "(I)V"⟩ ⟨"TwinTunersModel", "planBefore", "(I)V"⟩ : Cond) ∈ tb_ := ts_w 33 rfl rfl
theorem d_MO_planAfter_0 : decode c_MO_planAfter 0 = .ok (.aload_n 0, 1) := by decide +kernel
theorem d_MO_planAfter_1 : decode c_MO_planAfter 1 = .ok (.iload_n 1, 1) := by decide +kernel
theorem d_MO_planAfter_2 : decode c_MO_planAfter 2 = .ok (.invokevirtual 120, 3) := by decide +kernel
theorem d_MO_planAfter_5 : decode c_MO_planAfter 5 = .ok (.istore_n 2, 1) := by decide +kernel
theorem d_MO_planAfter_6 : decode c_MO_planAfter 6 = .ok (.aload_n 0, 1) := by decide +kernel
theorem d_MO_planAfter_7 : decode c_MO_planAfter 7 = .ok (.aload_n 0, 1) := by decide +kernel
theorem d_MO_planAfter_8 : decode c_MO_planAfter 8 = .ok (.getfield 17, 3) := by decide +kernel
theorem d_MO_planAfter_11 : decode c_MO_planAfter 11 = .ok (.iload_n 1, 1) := by decide +kernel
theorem d_MO_planAfter_12 : decode c_MO_planAfter 12 = .ok (.iaload, 1) := by decide +kernel
theorem d_MO_planAfter_13 : decode c_MO_planAfter 13 = .ok (.iload_n 2, 1) := by decide +kernel
theorem d_MO_planAfter_14 : decode c_MO_planAfter 14 = .ok (.iload_n 2, 1) := by decide +kernel
theorem d_MO_planAfter_15 : decode c_MO_planAfter 15 = .ok (.aload_n 0, 1) := by decide +kernel
theorem d_MO_planAfter_16 : decode c_MO_planAfter 16 = .ok (.getfield 32, 3) := by decide +kernel
theorem d_MO_planAfter_19 : decode c_MO_planAfter 19 = .ok (.iload_n 1, 1) := by decide +kernel
theorem d_MO_planAfter_20 : decode c_MO_planAfter 20 = .ok (.iaload, 1) := by decide +kernel
theorem d_MO_planAfter_21 : decode c_MO_planAfter 21 = .ok (.iadd, 1) := by decide +kernel
theorem d_MO_planAfter_22 : decode c_MO_planAfter 22 = .ok (.invokevirtual 124, 3) := by decide +kernel
theorem d_MO_planAfter_25 : decode c_MO_planAfter 25 = .ok (.ifCond .eq 17, 3) := by decide +kernel
theorem d_MO_planAfter_28 : decode c_MO_planAfter 28 = .ok (.aload_n 0, 1) := by decide +kernel
theorem d_MO_planAfter_29 : decode c_MO_planAfter 29 = .ok (.getfield 81, 3) := by decide +kernel
theorem d_MO_planAfter_32 : decode c_MO_planAfter 32 = .ok (.iload_n 1, 1) := by decide +kernel
theorem d_MO_planAfter_33 : decode c_MO_planAfter 33 = .ok (.iload_n 2, 1) := by decide +kernel
theorem d_MO_planAfter_34 : decode c_MO_planAfter 34 = .ok (.aload_n 0, 1) := by decide +kernel
theorem d_MO_planAfter_35 : decode c_MO_planAfter 35 = .ok (.getfield 32, 3) := by decide +kernel
theorem d_MO_planAfter_38 : decode c_MO_planAfter 38 = .ok (.iload_n 1, 1) := by decide +kernel
theorem d_MO_planAfter_39 : decode c_MO_planAfter 39 = .ok (.iaload, 1) := by decide +kernel
theorem d_MO_planAfter_40 : decode c_MO_planAfter 40 = .ok (.iadd, 1) := by decide +kernel
theorem d_MO_planAfter_41 : decode c_MO_planAfter 41 = .ok (.iastore, 1) := by decide +kernel
theorem d_MO_planAfter_42 : decode c_MO_planAfter 42 = .ok (.return_, 1) := by decide +kernel
theorem d_MO_planBefore_0 : decode c_MO_planBefore 0 = .ok (.aload_n 0, 1) := by decide +kernel
theorem d_MO_planBefore_1 : decode c_MO_planBefore 1 = .ok (.getfield 20, 3) := by decide +kernel
theorem d_MO_planBefore_4 : decode c_MO_planBefore 4 = .ok (.iload_n 1, 1) := by decide +kernel
theorem d_MO_planBefore_5 : decode c_MO_planBefore 5 = .ok (.iaload, 1) := by decide +kernel
theorem d_MO_planBefore_6 : decode c_MO_planBefore 6 = .ok (.aload_n 0, 1) := by decide +kernel
theorem d_MO_planBefore_7 : decode c_MO_planBefore 7 = .ok (.getfield 29, 3) := by decide +kernel
theorem d_MO_planBefore_10 : decode c_MO_planBefore 10 = .ok (.iload_n 1, 1) := by decide +kernel
theorem d_MO_planBefore_11 : decode c_MO_planBefore 11 = .ok (.iaload, 1) := by decide +kernel
theorem d_MO_planBefore_12 : decode c_MO_planBefore 12 = .ok (.isub, 1) := by decide +kernel
theorem d_MO_planBefore_13 : decode c_MO_planBefore 13 = .ok (.istore_n 2, 1) := by decide +kernel
theorem d_MO_planBefore_14 : decode c_MO_planBefore 14 = .ok (.iload_n 2, 1) := by decide +kernel
theorem d_MO_planBefore_15 : decode c_MO_planBefore 15 = .ok (.aload_n 0, 1) := by decide +kernel
theorem d_MO_planBefore_16 : decode c_MO_planBefore 16 = .ok (.getfield 93, 3) := by decide +kernel
theorem d_MO_planBefore_19 : decode c_MO_planBefore 19 = .ok (.if_icmp .lt 30, 3) := by decide +kernel
theorem d_MO_planBefore_22 : decode c_MO_planBefore 22 = .ok (.aload_n 0, 1) := by decide +kernel
theorem d_MO_planBefore_23 : decode c_MO_planBefore 23 = .ok (.aload_n 0, 1) := by decide +kernel
theorem d_MO_planBefore_24 : decode c_MO_planBefore 24 = .ok (.getfield 17, 3) := by decide +kernel
theorem d_MO_planBefore_27 : decode c_MO_planBefore 27 = .ok (.iload_n 1, 1) := by decide +kernel
theorem d_MO_planBefore_28 : decode c_MO_planBefore 28 = .ok (.iaload, 1) := by decide +kernel
theorem d_MO_planBefore_29 : decode c_MO_planBefore 29 = .ok (.iload_n 2, 1) := by decide +kernel
theorem d_MO_planBefore_30 : decode c_MO_planBefore 30 = .ok (.aload_n 0, 1) := by decide +kernel
theorem d_MO_planBefore_31 : decode c_MO_planBefore 31 = .ok (.getfield 20, 3) := by decide +kernel
theorem d_MO_planBefore_34 : decode c_MO_planBefore 34 = .ok (.iload_n 1, 1) := by decide +kernel
theorem d_MO_planBefore_35 : decode c_MO_planBefore 35 = .ok (.iaload, 1) := by decide +kernel
theorem d_MO_planBefore_36 : decode c_MO_planBefore 36 = .ok (.invokevirtual 124, 3) := by decide +kernel
theorem d_MO_planBefore_39 : decode c_MO_planBefore 39 = .ok (.ifCond .eq 10, 3) := by decide +kernel
theorem d_MO_planBefore_42 : decode c_MO_planBefore 42 = .ok (.aload_n 0, 1) := by decide +kernel
theorem d_MO_planBefore_43 : decode c_MO_planBefore 43 = .ok (.getfield 78, 3) := by decide +kernel
theorem d_MO_planBefore_46 : decode c_MO_planBefore 46 = .ok (.iload_n 1, 1) := by decide +kernel
theorem d_MO_planBefore_47 : decode c_MO_planBefore 47 = .ok (.iload_n 2, 1) := by decide +kernel
theorem d_MO_planBefore_48 : decode c_MO_planBefore 48 = .ok (.iastore, 1) := by decide +kernel
theorem d_MO_planBefore_49 : decode c_MO_planBefore 49 = .ok (.return_, 1) := by decide +kernel
theorem d_MO_round_0 : decode c_MO_round 0 = .ok (.bipush 9, 2) := by decide +kernel
theorem d_MO_round_2 : decode c_MO_round 2 = .ok (.istore_n 2, 1) := by decide +kernel
theorem d_MO_round_3 : decode c_MO_round 3 = .ok (.iload_n 2, 1) := by decide +kernel
theorem d_MO_round_4 : decode c_MO_round 4 = .ok (.ifCond .le 96, 3) := by decide +kernel
theorem d_MO_round_7 : decode c_MO_round 7 = .ok (.iconst 0, 1) := by decide +kernel
theorem d_MO_round_8 : decode c_MO_round 8 = .ok (.istore_n 3, 1) := by decide +kernel
theorem d_MO_round_9 : decode c_MO_round 9 = .ok (.iload_n 3, 1) := by decide +kernel
theorem d_MO_round_10 : decode c_MO_round 10 = .ok (.aload_n 0, 1) := by decide +kernel
theorem d_MO_round_11 : decode c_MO_round 11 = .ok (.getfield 90, 3) := by decide +kernel
theorem d_MO_round_14 : decode c_MO_round 14 = .ok (.if_icmp .ge 80, 3) := by decide +kernel
theorem d_MO_round_17 : decode c_MO_round 17 = .ok (.aload_n 0, 1) := by decide +kernel
theorem d_MO_round_18 : decode c_MO_round 18 = .ok (.getfield 26, 3) := by decide +kernel
theorem d_MO_round_21 : decode c_MO_round 21 = .ok (.iload_n 3, 1) := by decide +kernel
theorem d_MO_round_22 : decode c_MO_round 22 = .ok (.iaload, 1) := by decide +kernel
theorem d_MO_round_23 : decode c_MO_round 23 = .ok (.iload_n 2, 1) := by decide +kernel
theorem d_MO_round_24 : decode c_MO_round 24 = .ok (.if_icmp .ne 21, 3) := by decide +kernel
theorem d_MO_round_27 : decode c_MO_round 27 = .ok (.iload_n 1, 1) := by decide +kernel
theorem d_MO_round_28 : decode c_MO_round 28 = .ok (.ifCond .ne 17, 3) := by decide +kernel
theorem d_MO_round_31 : decode c_MO_round 31 = .ok (.aload_n 0, 1) := by decide +kernel
theorem d_MO_round_32 : decode c_MO_round 32 = .ok (.getfield 35, 3) := by decide +kernel
theorem d_MO_round_35 : decode c_MO_round 35 = .ok (.iload_n 3, 1) := by decide +kernel
theorem d_MO_round_36 : decode c_MO_round 36 = .ok (.iaload, 1) := by decide +kernel
theorem d_MO_round_37 : decode c_MO_round 37 = .ok (.ifCond .ne 8, 3) := by decide +kernel
theorem d_MO_round_40 : decode c_MO_round 40 = .ok (.aload_n 0, 1) := by decide +kernel
theorem d_MO_round_41 : decode c_MO_round 41 = .ok (.iload_n 3, 1) := by decide +kernel
theorem d_MO_round_42 : decode c_MO_round 42 = .ok (.invokevirtual 128, 3) := by decide +kernel
theorem d_MO_round_45 : decode c_MO_round 45 = .ok (.aload_n 0, 1) := by decide +kernel
theorem d_MO_round_46 : decode c_MO_round 46 = .ok (.getfield 26, 3) := by decide +kernel
theorem d_MO_round_49 : decode c_MO_round 49 = .ok (.iload_n 3, 1) := by decide +kernel
theorem d_MO_round_50 : decode c_MO_round 50 = .ok (.iaload, 1) := by decide +kernel
theorem d_MO_round_51 : decode c_MO_round 51 = .ok (.iload_n 2, 1) := by decide +kernel
theorem d_MO_round_52 : decode c_MO_round 52 = .ok (.if_icmp .ne 36, 3) := by decide +kernel
theorem d_MO_round_55 : decode c_MO_round 55 = .ok (.iload_n 1, 1) := by decide +kernel
theorem d_MO_round_56 : decode c_MO_round 56 = .ok (.iconst 1, 1) := by decide +kernel
theorem d_MO_round_57 : decode c_MO_round 57 = .ok (.if_icmp .ne 31, 3) := by decide +kernel
theorem d_MO_round_60 : decode c_MO_round 60 = .ok (.aload_n 0, 1) := by decide +kernel
theorem d_MO_round_61 : decode c_MO_round 61 = .ok (.getfield 35, 3) := by decide +kernel
theorem d_MO_round_64 : decode c_MO_round 64 = .ok (.iload_n 3, 1) := by decide +kernel
theorem d_MO_round_65 : decode c_MO_round 65 = .ok (.iaload, 1) := by decide +kernel
theorem d_MO_round_66 : decode c_MO_round 66 = .ok (.ifCond .ne 22, 3) := by decide +kernel
theorem d_MO_round_69 : decode c_MO_round 69 = .ok (.aload_n 0, 1) := by decide +kernel
theorem d_MO_round_70 : decode c_MO_round 70 = .ok (.getfield 75, 3) := by decide +kernel
theorem d_MO_round_73 : decode c_MO_round 73 = .ok (.iload_n 3, 1) := by decide +kernel
theorem d_MO_round_74 : decode c_MO_round 74 = .ok (.baload, 1) := by decide +kernel
theorem d_MO_round_75 : decode c_MO_round 75 = .ok (.ifCond .eq 13, 3) := by decide +kernel
theorem d_MO_round_78 : decode c_MO_round 78 = .ok (.aload_n 0, 1) := by decide +kernel
theorem d_MO_round_79 : decode c_MO_round 79 = .ok (.iload_n 3, 1) := by decide +kernel
theorem d_MO_round_80 : decode c_MO_round 80 = .ok (.invokevirtual 132, 3) := by decide +kernel
theorem d_MO_round_83 : decode c_MO_round 83 = .ok (.aload_n 0, 1) := by decide +kernel
theorem d_MO_round_84 : decode c_MO_round 84 = .ok (.iload_n 3, 1) := by decide +kernel
theorem d_MO_round_85 : decode c_MO_round 85 = .ok (.invokevirtual 135, 3) := by decide +kernel
theorem d_MO_round_88 : decode c_MO_round 88 = .ok (.iinc 3 1, 3) := by decide +kernel
theorem d_MO_round_91 : decode c_MO_round 91 = .ok (.goto (-82), 3) := by decide +kernel
theorem d_MO_round_94 : decode c_MO_round 94 = .ok (.iinc 2 (-1), 3) := by decide +kernel
theorem d_MO_round_97 : decode c_MO_round 97 = .ok (.goto (-94), 3) := by decide +kernel
theorem d_MO_round_100 : decode c_MO_round 100 = .ok (.return_, 1) := by decide +kernel
set_option maxHeartbeats 8000000 in
set_option maxRecDepth 100000 in
theorem t_MO_planAfter (l : Launch) (dC : Nat → ClassId) (dI : Nat → Nat → Nat) (g0 : Nat) (ad : Nat → Nat) (kI kZ : ClassId) (sc : Nat → Int32) (ia : Nat → Nat → Int32) (sz Bd : Nat) (T : Int) (N : Nat) (hI : MI T N sc ia) (K : Nat) (hK0 : sc 21 = nI K) (hKb : K < 60) (j : Nat) (hj : j < N) (hc : ia 11 j = 1 → (sc 1).toInt < (ia 6 j).toInt + (ia 7 j).toInt) (hQ : QP N sc ia) : Met l y_MO_planAfter w_MO_planAfter ({ frames := 2, cells := 0, slots := 0, locals := 51 }) (frP (dC, dI) (MOW g0 ad kI kZ sc ia) (MOT kI kZ) sz Bd [.ref g0, .int (nI j)]) (tQ (dC, dI) (mW g0 ad kI kZ) (va_A (MOW g0 ad kI kZ sc ia) sz) vN (fun r u => same [21] sc u.1 ∧ same [22, 23, 24, 25, 26, 27] ia u.2 ∧ (∃ Kz, K ≤ Kz ∧ Kz ≤ K + 1 ∧ u.1 21 = nI Kz) ∧ QP N u.1 u.2)) 0 0 (va_A (MOW g0 ad kI kZ sc ia) sz) := by
  refine Met.ofW (cc := c_MO_planAfter) (maxL := 3) (ret := none) (by decide) rfl ?_
  intro p e s m args below meth c s₁ B hml hv
  obtain ⟨rfl, ⟨hsz, hBs⟩, hP, hK, hD0, hV⟩ := hv
  have hx := B.exec
  have hb := B.bytes
  have hr := B.returns
  have ht : ∀ w ∈ tb_, w.before _ s = true := fun w h => atoms_spec (ws := w_MO_planAfter) B.pre w (List.mem_cons_of_mem _ h)
  have hown : s.vm.findClass R_MO = some m.cls := findClass_of_methodNamed B.named
  have hlocks := B.notSynchronized
  subst hsz
  have hD := hD0.self (sz := s.heap.size)
  have hAB : ∀ q, va_A (MOW g0 ad kI kZ sc ia) s.heap.size q → Bd ≤ q := fr_AB hD0 hBs
  generalize hAe : va_A (MOW g0 ad kI kZ sc ia) s.heap.size = A at hD hAB ⊢
  have hA : ∀ q : Nat, s.heap.size ≤ q → A q := fun q h => by rw [← hAe]; exact Or.inr h
  have hS : va_S A s.heap s.heap [] := va_S.rf
  have hs : same [21] sc sc := same.rf
  have hi : same [22, 23, 24, 25, 26, 27] ia ia := same.rf
  have hP : va_P (dC, dI) cls_ (MOW g0 ad kI kZ sc ia) s.heap := hP
  have hl := lv_entry ([.ref g0, .int (nI j)]) (n := 3) (Nat.le_of_ble_eq_true rfl)
  rw [lg_entry_eq]
  generalize (lg_sl ([.ref g0, .int (nI j)]) ++ List.replicate (3 - (lg_sl ([.ref g0, .int (nI j)])).length) Slot.unset).toArray = ls at hl ⊢
  have hl : lv_has ls 3 [(0, .ref g0), (1, .int (nI j))] := hl
  have e4 := hI.e4
  have hN := hI.hN
  have hT := hI.T
  refine lv_aload_n hx hb d_MO_planAfter_0 rfl (lv_at hl 0 rfl) ?_
  refine lv_iload_n hx hb d_MO_planAfter_1 rfl (lv_at hl 1 rfl) ?_
  refine r_call (va_runV (C := R_MO) (As := [.int (nI j)]) (rest := []) ⟨hx, hb, hml, hown, ht⟩ (t_MO_coreEnd l dC dI g0 ad kI kZ sc ia j (show j < 40 by omega)) (cwV 1 ht (gV tb_756 tb_758 ts_26 tb_5 tb_759) rfl rfl rfl (by decide +kernel) ⟨Nat.le_of_ble_eq_true rfl, Nat.le_of_ble_eq_true rfl⟩) ⟨rdP_blind, va_recv (q := (R_MO, F_MO, 30)) hK hP rfl (show (MOW g0 ad kI kZ sc ia : va_W)[0]? = some _ from rfl), rd_pre hP hK⟩ rfl rfl hl.1 rfl (lv_room (Nat.le_of_ble_eq_true rfl)) d_MO_planAfter_2 ⟨Nat.le_of_ble_eq_true rfl, Nat.le_of_ble_eq_true rfl⟩) (fun r1 hu => ?_)
  have hu1_0 := hu
  have hu1_0 : r1 = ia 6 j + ia 7 j := hu1_0
  refine W.eq (g2 := F0 m 5 ls [.int r1]) rfl ?_
  refine lv_istore_n hx hb d_MO_planAfter_5 rfl hl (by decide) rfl (fun ls hl => ?_)
  have hl : lv_has ls 3 [(2, .int r1), (0, .ref g0), (1, .int (nI j))] := hl
  refine lv_aload_n hx hb d_MO_planAfter_6 rfl (lv_at hl 1 rfl) ?_
  refine lv_aload_n hx hb d_MO_planAfter_7 rfl (lv_at hl 1 rfl) ?_
  refine va_get (D := (dC, dI)) (ci := 5) (v := .ref (ad 5)) (C := R_MO) (T := F_MO) (N := 30) hx hb ht in_MO hown hK hP 0 rfl rfl 5 (by decide) (ht _ tb_636) (fun _ h9 => h9) rfl d_MO_planAfter_8 ?_
  refine lv_iload_n hx hb d_MO_planAfter_11 rfl (lv_at hl 2 rfl) ?_
  refine va_iald hx hb hK hP 2 0 rfl rfl (vp_in_nI (show j < 40 by omega) (by decide)) d_MO_planAfter_12 ?_
  refine W.eq (g2 := F0 m 13 ls [.int (ia 5 j), .ref g0]) (by rw [nI_clamp (show j < 2 ^ 31 by omega)]) ?_
  refine lv_iload_n hx hb d_MO_planAfter_13 rfl (lv_at hl 0 rfl) ?_
  refine lv_iload_n hx hb d_MO_planAfter_14 rfl (lv_at hl 0 rfl) ?_
  refine lv_aload_n hx hb d_MO_planAfter_15 rfl (lv_at hl 1 rfl) ?_
  refine va_get (D := (dC, dI)) (ci := 5) (v := .ref (ad 10)) (C := R_MO) (T := F_MO) (N := 30) hx hb ht in_MO hown hK hP 0 rfl rfl 10 (by decide) (ht _ tb_641) (fun _ h9 => h9) rfl d_MO_planAfter_16 ?_
  refine lv_iload_n hx hb d_MO_planAfter_19 rfl (lv_at hl 2 rfl) ?_
  refine va_iald hx hb hK hP 7 0 rfl rfl (vp_in_nI (show j < 40 by omega) (by decide)) d_MO_planAfter_20 ?_
  refine W.eq (g2 := F0 m 21 ls [.int (ia 10 j), .int r1, .int r1, .int (ia 5 j), .ref g0]) (by rw [nI_clamp (show j < 2 ^ 31 by omega)]) ?_
  refine lv_iadd hx hb d_MO_planAfter_21 ?_
  refine t_call (u0 := (sc, ia)) (va_runV (C := R_MO) (As := [.int (ia 5 j), .int r1, .int (r1 + (ia 10 j))]) (rest := []) ⟨hx, hb, hml, hown, ht⟩ (t_MO_tries l dC dI g0 ad kI kZ sc ia s.heap.size Bd K hK0 hKb (ia 5 j) r1 (r1 + (ia 10 j))) (cwV 3 ht (gV tb_772 tb_774 ts_30 tb_5 tb_775) rfl rfl rfl (by decide +kernel) ⟨Nat.le_of_ble_eq_true rfl, Nat.le_of_ble_eq_true rfl⟩) ⟨frP_blind, va_recv (q := (R_MO, F_MO, 30)) hK hP rfl (show (MOW g0 ad kI kZ sc ia : va_W)[0]? = some _ from rfl), fr_pre hP hK hD hAB hBs hS hV⟩ rfl rfl hl.1 rfl (lv_room (Nat.le_of_ble_eq_true rfl)) d_MO_planAfter_22 ⟨Nat.le_of_ble_eq_true rfl, Nat.le_of_ble_eq_true rfl⟩) hD hS hA (fun r2 u H locs hu hP hD hS => ?_)
  obtain ⟨sc3, ia4⟩ := u
  obtain ⟨hu2_0, hu2_1, hu2_2⟩ := hu
  have hu2_0 : same [21] sc sc3 := hu2_0
  have hu2_1 : same [22, 23, 24] ia ia4 := hu2_1
  have hu2_2 : (∃ Kz, K ≤ Kz ∧ Kz ≤ K + 1 ∧ sc3 21 = nI Kz) := hu2_2
  have hP : va_P (dC, dI) cls_ (MOW g0 ad kI kZ sc3 ia4) H := hP
  have hD : va_D A (MOW g0 ad kI kZ sc3 ia4) := hD
  have hs : same [21] sc sc3 := hs.tr (hu2_0.wk (by decide))
  have hi : same [22, 23, 24, 25, 26, 27] ia ia4 := hi.tr (hu2_1.wk (by decide))
  refine W.eq (g2 := F0 m 25 ls [.int r2]) rfl ?_
  refine W.cs (cells' := 0) (slots' := 0) rfl rfl ?_
  refine lv_if_eq (tgt := 42) hx hb d_MO_planAfter_25 (by decide) (fun h25_1 => ?_) (fun h25_1 => ?_)
  · have h25_1 := h25_1
    have i25_1 := ti_eq h25_1
    (try rw [l_0] at i25_1)
    have hz0 : (∃ Kz, K ≤ Kz ∧ Kz ≤ K + 1 ∧ sc3 21 = nI Kz) := hu2_2
    have hz1 : QP N sc3 ia4 := hQ.same (hu2_0.wk (by decide)) (hu2_1.wk (by decide))
    exact W.vret hx hb hr (fun t ht9 hW => ⟨⟨(), (sc3, ia4), rfl, ⟨hs, hi, hz0, hz1⟩, by rw [ht9]; exact hP, hD⟩, hS.F ht9⟩) hS.2.2 d_MO_planAfter_42
  · have h25_1 := h25_1
    have i25_1 := ti_ne h25_1
    (try rw [l_0] at i25_1)
    refine lv_aload_n hx hb d_MO_planAfter_28 rfl (lv_at hl 1 rfl) ?_
    refine va_get (D := (dC, dI)) (ci := 5) (v := .ref (ad 27)) (C := R_MO) (T := F_MO) (N := 30) hx hb ht in_MO hown hK hP 0 rfl rfl 27 (by decide) (ht _ tb_658) (fun _ h9 => h9) rfl d_MO_planAfter_29 ?_
    refine lv_iload_n hx hb d_MO_planAfter_32 rfl (lv_at hl 2 rfl) ?_
    refine lv_iload_n hx hb d_MO_planAfter_33 rfl (lv_at hl 0 rfl) ?_
    refine lv_aload_n hx hb d_MO_planAfter_34 rfl (lv_at hl 1 rfl) ?_
    refine va_get (D := (dC, dI)) (ci := 5) (v := .ref (ad 10)) (C := R_MO) (T := F_MO) (N := 30) hx hb ht in_MO hown hK hP 0 rfl rfl 10 (by decide) (ht _ tb_641) (fun _ h9 => h9) rfl d_MO_planAfter_35 ?_
    refine lv_iload_n hx hb d_MO_planAfter_38 rfl (lv_at hl 2 rfl) ?_
    refine va_iald hx hb hK hP 7 0 rfl rfl (vp_in_nI (show j < 40 by omega) (by decide)) d_MO_planAfter_39 ?_
    refine W.eq (g2 := F0 m 40 ls [.int (ia 10 j), .int r1, .int (nI j), .ref (ad 27)]) (by rw [nI_clamp (show j < 2 ^ 31 by omega), hi 10 (by decide)]) ?_
    refine lv_iadd hx hb d_MO_planAfter_40 ?_
    refine va_iast hx hb hK hP hD hS 23 0 rfl rfl (vp_in_nI (show j < 40 by omega) (by decide)) d_MO_planAfter_41 (fun H locs hP hD hS => ?_)
    rw [nI_clamp (show j < 2 ^ 31 by omega)] at hP hD
    have hP : va_P (dC, dI) cls_ (MOW g0 ad kI kZ sc3 (va_up ia4 27 (upd (ia4 27) j (r1 + (ia 10 j))))) H := hP
    have hD : va_D A (MOW g0 ad kI kZ sc3 (va_up ia4 27 (upd (ia4 27) j (r1 + (ia 10 j))))) := hD
    obtain ⟨ia5, eia5⟩ : ∃ q9_, q9_ = va_up ia4 27 (upd (ia4 27) j (r1 + (ia 10 j))) := ⟨_, rfl⟩
    rw [← eia5] at hP hD
    have hi : same [22, 23, 24, 25, 26, 27] ia ia5 := by rw [eia5]; exact hi.up (by decide)
    have hm := hI.at hj
    have hcore := hI.core hj
    obtain ⟨-, m1, m2, m3, m4, -⟩ := hm
    obtain ⟨q1, q2⟩ := hQ j hj
    have f25 : ia5 25 j = ia 25 j := ((show ia5 25 j = ia4 25 j by rw [eia5]; rfl)).trans (congrFun (hu2_1 25 (by decide)) j)
    have f26 : ia5 26 j = ia 26 j := ((show ia5 26 j = ia4 26 j by rw [eia5]; rfl)).trans (congrFun (hu2_1 26 (by decide)) j)
    have f27 : ia5 27 j = r1 + (ia 10 j) := (show ia5 27 j = r1 + (ia 10 j) by rw [eia5]; show upd (ia4 27) j (r1 + (ia 10 j)) j = _; exact pk_us)
    have ea : (r1 + ia 10 j).toInt = (ia 6 j).toInt + (ia 7 j).toInt + (ia 10 j).toInt := by rw [hu1_0, ti_add (by rw [hcore]; omega) (by rw [hcore]; omega), hcore]
    have hz0 : (∃ Kz, K ≤ Kz ∧ Kz ≤ K + 1 ∧ sc3 21 = nI Kz) := hu2_2
    have hz1 : QP N sc3 ia5 := QP.step (j := j) hQ (fun i h _ => h) (hs 1 (by decide)) (hi 6 (by decide)) (hi 7 (by decide)) (hi 11 (by decide)) (fun i h9 => ((show ia5 25 i = ia4 25 i by rw [eia5]; rfl)).trans (congrFun (hu2_1 25 (by decide)) i)) (fun i h9 => ((show ia5 26 i = ia4 26 i by rw [eia5]; rfl)).trans (congrFun (hu2_1 26 (by decide)) i)) (fun i h9 => ((show ia5 27 i = ia4 27 i by rw [eia5]; show upd (ia4 27) j (r1 + (ia 10 j)) i = _; exact pk_un h9)).trans (congrFun (hu2_1 27 (by decide)) i)) (fun _ => ⟨fun q => by have := q1 q; have := hc q; rw [f27, ea]; omega, fun q q9 => by rw [f25] at q9; have := q2 q q9; rw [f26, f27, ea]; omega⟩)
    exact W.vret hx hb hr (fun t ht9 hW => ⟨⟨(), (sc3, ia5), rfl, ⟨hs, hi, hz0, hz1⟩, by rw [ht9]; exact hP, hD⟩, hS.F ht9⟩) hS.2.2 d_MO_planAfter_42
set_option maxHeartbeats 8000000 in
set_option maxRecDepth 100000 in
theorem t_MO_planBefore (l : Launch) (dC : Nat → ClassId) (dI : Nat → Nat → Nat) (g0 : Nat) (ad : Nat → Nat) (kI kZ : ClassId) (sc : Nat → Int32) (ia : Nat → Nat → Int32) (sz Bd : Nat) (T : Int) (N : Nat) (hI : MI T N sc ia) (K : Nat) (hK0 : sc 21 = nI K) (hKb : K < 60) (j : Nat) (hj : j < N) (hQ : QP N sc ia) : Met l y_MO_planBefore w_MO_planBefore ({ frames := 2, cells := 0, slots := 0, locals := 51 }) (frP (dC, dI) (MOW g0 ad kI kZ sc ia) (MOT kI kZ) sz Bd [.ref g0, .int (nI j)]) (tQ (dC, dI) (mW g0 ad kI kZ) (va_A (MOW g0 ad kI kZ sc ia) sz) vN (fun r u => same [21] sc u.1 ∧ same [22, 23, 24, 25, 26, 27] ia u.2 ∧ (∃ Kz, K ≤ Kz ∧ Kz ≤ K + 1 ∧ u.1 21 = nI Kz) ∧ QP N u.1 u.2)) 0 0 (va_A (MOW g0 ad kI kZ sc ia) sz) := by
  refine Met.ofW (cc := c_MO_planBefore) (maxL := 3) (ret := none) (by decide) rfl ?_
  intro p e s m args below meth c s₁ B hml hv
  obtain ⟨rfl, ⟨hsz, hBs⟩, hP, hK, hD0, hV⟩ := hv
  have hx := B.exec
  have hb := B.bytes
  have hr := B.returns
  have ht : ∀ w ∈ tb_, w.before _ s = true := fun w h => atoms_spec (ws := w_MO_planBefore) B.pre w (List.mem_cons_of_mem _ h)
  have hown : s.vm.findClass R_MO = some m.cls := findClass_of_methodNamed B.named
  have hlocks := B.notSynchronized
  subst hsz
  have hD := hD0.self (sz := s.heap.size)
  have hAB : ∀ q, va_A (MOW g0 ad kI kZ sc ia) s.heap.size q → Bd ≤ q := fr_AB hD0 hBs
  generalize hAe : va_A (MOW g0 ad kI kZ sc ia) s.heap.size = A at hD hAB ⊢
  have hA : ∀ q : Nat, s.heap.size ≤ q → A q := fun q h => by rw [← hAe]; exact Or.inr h
  have hS : va_S A s.heap s.heap [] := va_S.rf
  have hs : same [21] sc sc := same.rf
  have hi : same [22, 23, 24, 25, 26, 27] ia ia := same.rf
  have hP : va_P (dC, dI) cls_ (MOW g0 ad kI kZ sc ia) s.heap := hP
  have hl := lv_entry ([.ref g0, .int (nI j)]) (n := 3) (Nat.le_of_ble_eq_true rfl)
  rw [lg_entry_eq]
  generalize (lg_sl ([.ref g0, .int (nI j)]) ++ List.replicate (3 - (lg_sl ([.ref g0, .int (nI j)])).length) Slot.unset).toArray = ls at hl ⊢
  have hl : lv_has ls 3 [(0, .ref g0), (1, .int (nI j))] := hl
  have e4 := hI.e4
  have hN := hI.hN
  have hT := hI.T
  refine lv_aload_n hx hb d_MO_planBefore_0 rfl (lv_at hl 0 rfl) ?_
  refine va_get (D := (dC, dI)) (ci := 5) (v := .ref (ad 6)) (C := R_MO) (T := F_MO) (N := 30) hx hb ht in_MO hown hK hP 0 rfl rfl 6 (by decide) (ht _ tb_637) (fun _ h9 => h9) rfl d_MO_planBefore_1 ?_
  refine lv_iload_n hx hb d_MO_planBefore_4 rfl (lv_at hl 1 rfl) ?_
  refine va_iald hx hb hK hP 3 0 rfl rfl (vp_in_nI (show j < 40 by omega) (by decide)) d_MO_planBefore_5 ?_
  refine W.eq (g2 := F0 m 6 ls [.int (ia 6 j)]) (by rw [nI_clamp (show j < 2 ^ 31 by omega)]) ?_
  refine lv_aload_n hx hb d_MO_planBefore_6 rfl (lv_at hl 0 rfl) ?_
  refine va_get (D := (dC, dI)) (ci := 5) (v := .ref (ad 9)) (C := R_MO) (T := F_MO) (N := 30) hx hb ht in_MO hown hK hP 0 rfl rfl 9 (by decide) (ht _ tb_640) (fun _ h9 => h9) rfl d_MO_planBefore_7 ?_
  refine lv_iload_n hx hb d_MO_planBefore_10 rfl (lv_at hl 1 rfl) ?_
  refine va_iald hx hb hK hP 6 0 rfl rfl (vp_in_nI (show j < 40 by omega) (by decide)) d_MO_planBefore_11 ?_
  refine W.eq (g2 := F0 m 12 ls [.int (ia 9 j), .int (ia 6 j)]) (by rw [nI_clamp (show j < 2 ^ 31 by omega)]) ?_
  refine lv_isub hx hb d_MO_planBefore_12 ?_
  refine lv_istore_n hx hb d_MO_planBefore_13 rfl hl (by decide) rfl (fun ls hl => ?_)
  have hl : lv_has ls 3 [(2, .int ((ia 6 j) - (ia 9 j))), (0, .ref g0), (1, .int (nI j))] := hl
  refine lv_iload_n hx hb d_MO_planBefore_14 rfl (lv_at hl 0 rfl) ?_
  refine lv_aload_n hx hb d_MO_planBefore_15 rfl (lv_at hl 1 rfl) ?_
  refine va_get (D := (dC, dI)) (ci := 5) (v := .int (sc 1)) (C := R_MO) (T := F_MO) (N := 30) hx hb ht in_MO hown hK hP 0 rfl rfl 1 (by decide) (ht _ tb_632) (fun _ h9 => h9) rfl d_MO_planBefore_16 ?_
  refine lv_icmp_lt (tgt := 49) hx hb d_MO_planBefore_19 (by decide) (fun h19_1 => ?_) (fun h19_1 => ?_)
  · have h19_1 := h19_1
    have i19_1 := ti_lt h19_1
    have hz0 : (∃ Kz, K ≤ Kz ∧ Kz ≤ K + 1 ∧ sc 21 = nI Kz) := ⟨K, by omega, by omega, hK0⟩
    have hz1 : QP N sc ia := hQ
    exact W.vret hx hb hr (fun t ht9 hW => ⟨⟨(), (sc, ia), rfl, ⟨hs, hi, hz0, hz1⟩, by rw [ht9]; exact hP, hD⟩, hS.F ht9⟩) hS.2.2 d_MO_planBefore_49
  · have h19_1 := h19_1
    have i19_1 := ti_nlt h19_1
    refine lv_aload_n hx hb d_MO_planBefore_22 rfl (lv_at hl 1 rfl) ?_
    refine lv_aload_n hx hb d_MO_planBefore_23 rfl (lv_at hl 1 rfl) ?_
    refine va_get (D := (dC, dI)) (ci := 5) (v := .ref (ad 5)) (C := R_MO) (T := F_MO) (N := 30) hx hb ht in_MO hown hK hP 0 rfl rfl 5 (by decide) (ht _ tb_636) (fun _ h9 => h9) rfl d_MO_planBefore_24 ?_
    refine lv_iload_n hx hb d_MO_planBefore_27 rfl (lv_at hl 2 rfl) ?_
    refine va_iald hx hb hK hP 2 0 rfl rfl (vp_in_nI (show j < 40 by omega) (by decide)) d_MO_planBefore_28 ?_
    refine W.eq (g2 := F0 m 29 ls [.int (ia 5 j), .ref g0]) (by rw [nI_clamp (show j < 2 ^ 31 by omega)]) ?_
    refine lv_iload_n hx hb d_MO_planBefore_29 rfl (lv_at hl 0 rfl) ?_
    refine lv_aload_n hx hb d_MO_planBefore_30 rfl (lv_at hl 1 rfl) ?_
    refine va_get (D := (dC, dI)) (ci := 5) (v := .ref (ad 6)) (C := R_MO) (T := F_MO) (N := 30) hx hb ht in_MO hown hK hP 0 rfl rfl 6 (by decide) (ht _ tb_637) (fun _ h9 => h9) rfl d_MO_planBefore_31 ?_
    refine lv_iload_n hx hb d_MO_planBefore_34 rfl (lv_at hl 2 rfl) ?_
    refine va_iald hx hb hK hP 3 0 rfl rfl (vp_in_nI (show j < 40 by omega) (by decide)) d_MO_planBefore_35 ?_
    refine W.eq (g2 := F0 m 36 ls [.int (ia 6 j), .int ((ia 6 j) - (ia 9 j)), .int (ia 5 j), .ref g0]) (by rw [nI_clamp (show j < 2 ^ 31 by omega)]) ?_
    refine t_call (u0 := (sc, ia)) (va_runV (C := R_MO) (As := [.int (ia 5 j), .int ((ia 6 j) - (ia 9 j)), .int (ia 6 j)]) (rest := []) ⟨hx, hb, hml, hown, ht⟩ (t_MO_tries l dC dI g0 ad kI kZ sc ia s.heap.size Bd K hK0 hKb (ia 5 j) ((ia 6 j) - (ia 9 j)) (ia 6 j)) (cwV 3 ht (gV tb_772 tb_774 ts_30 tb_5 tb_775) rfl rfl rfl (by decide +kernel) ⟨Nat.le_of_ble_eq_true rfl, Nat.le_of_ble_eq_true rfl⟩) ⟨frP_blind, va_recv (q := (R_MO, F_MO, 30)) hK hP rfl (show (MOW g0 ad kI kZ sc ia : va_W)[0]? = some _ from rfl), fr_pre hP hK hD hAB hBs hS hV⟩ rfl rfl hl.1 rfl (lv_room (Nat.le_of_ble_eq_true rfl)) d_MO_planBefore_36 ⟨Nat.le_of_ble_eq_true rfl, Nat.le_of_ble_eq_true rfl⟩) hD hS hA (fun r1 u H locs hu hP hD hS => ?_)
    obtain ⟨sc2, ia3⟩ := u
    obtain ⟨hu1_0, hu1_1, hu1_2⟩ := hu
    have hu1_0 : same [21] sc sc2 := hu1_0
    have hu1_1 : same [22, 23, 24] ia ia3 := hu1_1
    have hu1_2 : (∃ Kz, K ≤ Kz ∧ Kz ≤ K + 1 ∧ sc2 21 = nI Kz) := hu1_2
    have hP : va_P (dC, dI) cls_ (MOW g0 ad kI kZ sc2 ia3) H := hP
    have hD : va_D A (MOW g0 ad kI kZ sc2 ia3) := hD
    have hs : same [21] sc sc2 := hs.tr (hu1_0.wk (by decide))
    have hi : same [22, 23, 24, 25, 26, 27] ia ia3 := hi.tr (hu1_1.wk (by decide))
    refine W.eq (g2 := F0 m 39 ls [.int r1]) rfl ?_
    refine W.cs (cells' := 0) (slots' := 0) rfl rfl ?_
    refine lv_if_eq (tgt := 49) hx hb d_MO_planBefore_39 (by decide) (fun h39_2 => ?_) (fun h39_2 => ?_)
    · have h39_2 := h39_2
      have i39_2 := ti_eq h39_2
      (try rw [l_0] at i39_2)
      have hz0 : (∃ Kz, K ≤ Kz ∧ Kz ≤ K + 1 ∧ sc2 21 = nI Kz) := hu1_2
      have hz1 : QP N sc2 ia3 := hQ.same (hu1_0.wk (by decide)) (hu1_1.wk (by decide))
      exact W.vret hx hb hr (fun t ht9 hW => ⟨⟨(), (sc2, ia3), rfl, ⟨hs, hi, hz0, hz1⟩, by rw [ht9]; exact hP, hD⟩, hS.F ht9⟩) hS.2.2 d_MO_planBefore_49
    · have h39_2 := h39_2
      have i39_2 := ti_ne h39_2
      (try rw [l_0] at i39_2)
      refine lv_aload_n hx hb d_MO_planBefore_42 rfl (lv_at hl 1 rfl) ?_
      refine va_get (D := (dC, dI)) (ci := 5) (v := .ref (ad 26)) (C := R_MO) (T := F_MO) (N := 30) hx hb ht in_MO hown hK hP 0 rfl rfl 26 (by decide) (ht _ tb_657) (fun _ h9 => h9) rfl d_MO_planBefore_43 ?_
      refine lv_iload_n hx hb d_MO_planBefore_46 rfl (lv_at hl 2 rfl) ?_
      refine lv_iload_n hx hb d_MO_planBefore_47 rfl (lv_at hl 0 rfl) ?_
      refine va_iast hx hb hK hP hD hS 22 0 rfl rfl (vp_in_nI (show j < 40 by omega) (by decide)) d_MO_planBefore_48 (fun H locs hP hD hS => ?_)
      rw [nI_clamp (show j < 2 ^ 31 by omega)] at hP hD
      have hP : va_P (dC, dI) cls_ (MOW g0 ad kI kZ sc2 (va_up ia3 26 (upd (ia3 26) j ((ia 6 j) - (ia 9 j))))) H := hP
      have hD : va_D A (MOW g0 ad kI kZ sc2 (va_up ia3 26 (upd (ia3 26) j ((ia 6 j) - (ia 9 j))))) := hD
      obtain ⟨ia4, eia4⟩ : ∃ q9_, q9_ = va_up ia3 26 (upd (ia3 26) j ((ia 6 j) - (ia 9 j))) := ⟨_, rfl⟩
      rw [← eia4] at hP hD
      have hi : same [22, 23, 24, 25, 26, 27] ia ia4 := by rw [eia4]; exact hi.up (by decide)
      have hm := hI.at hj
      have hcore := hI.core hj
      obtain ⟨-, m1, m2, m3, m4, -⟩ := hm
      obtain ⟨q1, q2⟩ := hQ j hj
      have f25 : ia4 25 j = ia 25 j := ((show ia4 25 j = ia3 25 j by rw [eia4]; rfl)).trans (congrFun (hu1_1 25 (by decide)) j)
      have f26 : ia4 26 j = (ia 6 j) - (ia 9 j) := (show ia4 26 j = (ia 6 j) - (ia 9 j) by rw [eia4]; show upd (ia3 26) j ((ia 6 j) - (ia 9 j)) j = _; exact pk_us)
      have f27 : ia4 27 j = ia 27 j := ((show ia4 27 j = ia3 27 j by rw [eia4]; rfl)).trans (congrFun (hu1_1 27 (by decide)) j)
      have ea : (ia 6 j - ia 9 j).toInt = (ia 6 j).toInt - (ia 9 j).toInt := ti_sub (by omega) (by omega)
      have hz0 : (∃ Kz, K ≤ Kz ∧ Kz ≤ K + 1 ∧ sc2 21 = nI Kz) := hu1_2
      have hz1 : QP N sc2 ia4 := QP.step (j := j) hQ (fun i h _ => h) (hs 1 (by decide)) (hi 6 (by decide)) (hi 7 (by decide)) (hi 11 (by decide)) (fun i h9 => ((show ia4 25 i = ia3 25 i by rw [eia4]; rfl)).trans (congrFun (hu1_1 25 (by decide)) i)) (fun i h9 => ((show ia4 26 i = ia3 26 i by rw [eia4]; show upd (ia3 26) j ((ia 6 j) - (ia 9 j)) i = _; exact pk_un h9)).trans (congrFun (hu1_1 26 (by decide)) i)) (fun i h9 => ((show ia4 27 i = ia3 27 i by rw [eia4]; rfl)).trans (congrFun (hu1_1 27 (by decide)) i)) (fun _ => ⟨fun q => by rw [f27]; exact q1 q, fun q q9 => by rw [f25] at q9; have := q2 q q9; rw [f26, f27, ea]; omega⟩)
      exact W.vret hx hb hr (fun t ht9 hW => ⟨⟨(), (sc2, ia4), rfl, ⟨hs, hi, hz0, hz1⟩, by rw [ht9]; exact hP, hD⟩, hS.F ht9⟩) hS.2.2 d_MO_planBefore_49
set_option maxHeartbeats 8000000 in
set_option maxRecDepth 100000 in
theorem t_MO_round0 (l : Launch) (dC : Nat → ClassId) (dI : Nat → Nat → Nat) (g0 : Nat) (ad : Nat → Nat) (kI kZ : ClassId) (sc : Nat → Int32) (ia : Nat → Nat → Int32) (sz Bd : Nat) (T : Int) (N : Nat) (hI : MI T N sc ia) (K : Nat) (hK0 : sc 21 = nI K) (hKb : K + 2 * ct 0 (ia 11) N < 60) (hQ : QP N sc ia) : Met l y_MO_round w_MO_round ({ frames := 3, cells := 0, slots := 0, locals := 73 }) (frP (dC, dI) (MOW g0 ad kI kZ sc ia) (MOT kI kZ) sz Bd [.ref g0, .int 0]) (tQ (dC, dI) (mW g0 ad kI kZ) (va_A (MOW g0 ad kI kZ sc ia) sz) vN (fun r u => same [21] sc u.1 ∧ same [22, 23, 24, 25, 26, 27] ia u.2 ∧ (∃ Kz, Kz ≤ K + 2 * ct 0 (ia 11) N ∧ u.1 21 = nI Kz) ∧ QP N u.1 u.2)) 0 0 (va_A (MOW g0 ad kI kZ sc ia) sz) := by
  refine Met.ofW (cc := c_MO_round) (maxL := 4) (ret := none) (by decide) rfl ?_
  intro p e s m args below meth c s₁ B hml hv
  obtain ⟨rfl, ⟨hsz, hBs⟩, hP, hK, hD0, hV⟩ := hv
  have hx := B.exec
  have hb := B.bytes
  have hr := B.returns
  have ht : ∀ w ∈ tb_, w.before _ s = true := fun w h => atoms_spec (ws := w_MO_round) B.pre w (List.mem_cons_of_mem _ h)
  have hown : s.vm.findClass R_MO = some m.cls := findClass_of_methodNamed B.named
  have hlocks := B.notSynchronized
  subst hsz
  have hD := hD0.self (sz := s.heap.size)
  have hAB : ∀ q, va_A (MOW g0 ad kI kZ sc ia) s.heap.size q → Bd ≤ q := fr_AB hD0 hBs
  generalize hAe : va_A (MOW g0 ad kI kZ sc ia) s.heap.size = A at hD hAB ⊢
  have hA : ∀ q : Nat, s.heap.size ≤ q → A q := fun q h => by rw [← hAe]; exact Or.inr h
  have hS : va_S A s.heap s.heap [] := va_S.rf
  have hs : same [21] sc sc := same.rf
  have hi : same [22, 23, 24, 25, 26, 27] ia ia := same.rf
  have hP : va_P (dC, dI) cls_ (MOW g0 ad kI kZ sc ia) s.heap := hP
  have hl := lv_entry ([.ref g0, .int 0]) (n := 4) (Nat.le_of_ble_eq_true rfl)
  rw [lg_entry_eq]
  generalize (lg_sl ([.ref g0, .int 0]) ++ List.replicate (4 - (lg_sl ([.ref g0, .int 0])).length) Slot.unset).toArray = ls at hl ⊢
  have hl : lv_has ls 4 [(0, .ref g0), (1, .int 0)] := hl
  have e4 := hI.e4
  have hN := hI.hN
  have hT := hI.T
  refine lv_bipush (v := 9) hx hb d_MO_round_0 (by decide) ?_
  refine lv_istore_n hx hb d_MO_round_2 rfl hl (by decide) rfl (fun ls hl => ?_)
  have hl : lv_has ls 4 [(2, .int 9), (0, .ref g0), (1, .int 0)] := hl
  have J_3 : ∀ (n_3 : Nat) (P : Nat) (K1 : Nat) (sc_3 : Nat → Int32) (ia_3 : Nat → Nat → Int32) (H : Heap) (locs : List Loc) (ls : Array Slot), P < n_3 → P ≤ 9 → K1 ≤ K + 2 * dn (ia 11) (ia 8) (P : Int) 0 N → same [21] sc sc_3 → same [22, 23, 24, 25, 26, 27] ia ia_3 → QP N sc_3 ia_3 → sc_3 21 = nI K1 → lv_has ls 4 [(2, .int (nI P)), (1, .int 0), (0, .ref g0)] → va_P (dC, dI) cls_ (MOW g0 ad kI kZ sc_3 ia_3) H → va_D A (MOW g0 ad kI kZ sc_3 ia_3) → va_S A s.heap H locs → W p l e (headSpec w_MO_round ({ frames := 3, cells := 0, slots := 0, locals := 73 })).room s m (([.ref g0, .int 0] : List Value).toArray) below meth c H locs 0 0 (MQ below (tQ (dC, dI) (mW g0 ad kI kZ) A vN (fun r u => same [21] sc u.1 ∧ same [22, 23, 24, 25, 26, 27] ia u.2 ∧ (∃ Kz, Kz ≤ K + 2 * ct 0 (ia 11) N ∧ u.1 21 = nI Kz) ∧ QP N u.1 u.2)) (([.ref g0, .int 0] : List Value).toArray) s 0 0 A) (F0 m 3 ls []) := by
    intro n_3
    induction n_3 with
    | zero => intro P K1 sc_3 ia_3 H locs ls hmu hc3_0 hc3_1 hs hi hQ3 hK1 hl hP hD hS; exact absurd hmu (by omega)
    | succ n_3 ih_3 =>
      intro P K1 sc_3 ia_3 H locs ls hmu hc3_0 hc3_1 hs hi hQ3 hK1 hl hP hD hS
      refine lv_iload_n hx hb d_MO_round_3 rfl (lv_at hl 0 rfl) ?_
      refine lv_if_le (tgt := 100) hx hb d_MO_round_4 (by decide) (fun h4_1 => ?_) (fun h4_1 => ?_)
      · have h4_1 := h4_1
        have i4_1 := ti_le h4_1
        (try rw [nI_toInt (show P < 2 ^ 31 by omega)] at i4_1)
        (try rw [l_0] at i4_1)
        have hz0 : (∃ Kz, Kz ≤ K + 2 * ct 0 (ia 11) N ∧ sc_3 21 = nI Kz) := ⟨K1, by have := dn_ct (sa := ia 11) (pr := ia 8) (P := (P : Int)) (r := 0) N; omega, hK1⟩
        have hz1 : QP N sc_3 ia_3 := hQ3
        exact W.vret hx hb hr (fun t ht9 hW => ⟨⟨(), (sc_3, ia_3), rfl, ⟨hs, hi, hz0, hz1⟩, by rw [ht9]; exact hP, hD⟩, hS.F ht9⟩) hS.2.2 d_MO_round_100
      · have h4_1 := h4_1
        have i4_1 := ti_nle h4_1
        (try rw [nI_toInt (show P < 2 ^ 31 by omega)] at i4_1)
        (try rw [l_0] at i4_1)
        refine lv_iconst (v := 0) hx hb d_MO_round_7 (by decide) ?_
        refine lv_istore_n hx hb d_MO_round_8 rfl hl (by decide) rfl (fun ls hl => ?_)
        have hl : lv_has ls 4 [(3, .int 0), (2, .int (nI P)), (1, .int 0), (0, .ref g0)] := hl
        have J_9 : ∀ (n_9 : Nat) (k : Nat) (K2 : Nat) (sc_9 : Nat → Int32) (ia_9 : Nat → Nat → Int32) (H : Heap) (locs : List Loc) (ls : Array Slot), N - k < n_9 → k ≤ N → K2 ≤ K + 2 * dn (ia 11) (ia 8) (P : Int) k N → same [21] sc sc_9 → same [22, 23, 24, 25, 26, 27] ia ia_9 → QP N sc_9 ia_9 → sc_9 21 = nI K2 → lv_has ls 4 [(3, .int (nI k)), (2, .int (nI P)), (1, .int 0), (0, .ref g0)] → va_P (dC, dI) cls_ (MOW g0 ad kI kZ sc_9 ia_9) H → va_D A (MOW g0 ad kI kZ sc_9 ia_9) → va_S A s.heap H locs → W p l e (headSpec w_MO_round ({ frames := 3, cells := 0, slots := 0, locals := 73 })).room s m (([.ref g0, .int 0] : List Value).toArray) below meth c H locs 0 0 (MQ below (tQ (dC, dI) (mW g0 ad kI kZ) A vN (fun r u => same [21] sc u.1 ∧ same [22, 23, 24, 25, 26, 27] ia u.2 ∧ (∃ Kz, Kz ≤ K + 2 * ct 0 (ia 11) N ∧ u.1 21 = nI Kz) ∧ QP N u.1 u.2)) (([.ref g0, .int 0] : List Value).toArray) s 0 0 A) (F0 m 9 ls []) := by
          intro n_9
          induction n_9 with
          | zero => intro k K2 sc_9 ia_9 H locs ls hmu hc9_0 hc9_1 hs hi hQ9 hK2 hl hP hD hS; exact absurd hmu (by omega)
          | succ n_9 ih_9 =>
            intro k K2 sc_9 ia_9 H locs ls hmu hc9_0 hc9_1 hs hi hQ9 hK2 hl hP hD hS
            refine lv_iload_n hx hb d_MO_round_9 rfl (lv_at hl 0 rfl) ?_
            refine lv_aload_n hx hb d_MO_round_10 rfl (lv_at hl 3 rfl) ?_
            refine va_get (D := (dC, dI)) (ci := 5) (v := .int (sc_9 4)) (C := R_MO) (T := F_MO) (N := 30) hx hb ht in_MO hown hK hP 0 rfl rfl 4 (by decide) (ht _ tb_635) (fun _ h9 => h9) rfl d_MO_round_11 ?_
            refine W.eq (g2 := F0 m 14 ls [.int (nI N), .int (nI k)]) (by rw [show sc_9 4 = nI N from (hs 4 (by decide)).trans e4]) ?_
            refine lv_icmp_ge (tgt := 94) hx hb d_MO_round_14 (by decide) (fun h14_2 => ?_) (fun h14_2 => ?_)
            · have h14_2 := h14_2
              have i14_2 := ti_le h14_2
              (try rw [nI_toInt (show k < 2 ^ 31 by omega)] at i14_2)
              (try rw [nI_toInt (show N < 2 ^ 31 by omega)] at i14_2)
              have hP1 : nI P + (-1) = nI (P - 1) := by obtain ⟨q, rfl⟩ : ∃ q, P = q + 1 := ⟨P - 1, by omega⟩; exact pk_m1 q
              refine lv_iinc (k := 1) (v := nI (P - 1)) hx hb d_MO_round_94 hl rfl (hP1) (by decide) rfl (fun ls hl => ?_)
              have hl : lv_has ls 4 [(2, .int (nI (P - 1))), (3, .int (nI k)), (1, .int 0), (0, .ref g0)] := hl
              refine lv_goto (tgt := 3) hx hb d_MO_round_97 (by decide) ?_
              have hl := lv_sub hl [0, 2, 3] (l' := [(2, .int (nI (P - 1))), (1, .int 0), (0, .ref g0)]) rfl
              have e9 := dn_next (sa := ia 11) (pr := ia 8) (P := (P : Int)) (r := k) N (by omega)
              rw [show ((P : Int) - 1) = ((P - 1 : Nat) : Int) by omega] at e9
              exact ih_3 (P - 1) K2 sc_9 ia_9 H _ ls (by omega) (by omega) (by omega) hs hi (hQ9) (hK2) hl hP hD hS
            · have h14_2 := h14_2
              have i14_2 := ti_nle h14_2
              (try rw [nI_toInt (show k < 2 ^ 31 by omega)] at i14_2)
              (try rw [nI_toInt (show N < 2 ^ 31 by omega)] at i14_2)
              refine lv_aload_n hx hb d_MO_round_17 rfl (lv_at hl 3 rfl) ?_
              refine va_get (D := (dC, dI)) (ci := 5) (v := .ref (ad 8)) (C := R_MO) (T := F_MO) (N := 30) hx hb ht in_MO hown hK hP 0 rfl rfl 8 (by decide) (ht _ tb_639) (fun _ h9 => h9) rfl d_MO_round_18 ?_
              refine lv_iload_n hx hb d_MO_round_21 rfl (lv_at hl 0 rfl) ?_
              refine va_iald hx hb hK hP 5 0 rfl rfl (vp_in_nI (show k < 40 by omega) (by decide)) d_MO_round_22 ?_
              refine W.eq (g2 := F0 m 23 ls [.int (ia 8 k)]) (by rw [nI_clamp (show k < 2 ^ 31 by omega), hi 8 (by decide)]) ?_
              refine lv_iload_n hx hb d_MO_round_23 rfl (lv_at hl 1 rfl) ?_
              refine lv_icmp_ne (tgt := 45) hx hb d_MO_round_24 (by decide) (fun h24_3 => ?_) (fun h24_3 => ?_)
              · have h24_3 := h24_3
                have i24_3 := ti_ne h24_3
                (try rw [nI_toInt (show P < 2 ^ 31 by omega)] at i24_3)
                refine lv_aload_n hx hb d_MO_round_45 rfl (lv_at hl 3 rfl) ?_
                refine va_get (D := (dC, dI)) (ci := 5) (v := .ref (ad 8)) (C := R_MO) (T := F_MO) (N := 30) hx hb ht in_MO hown hK hP 0 rfl rfl 8 (by decide) (ht _ tb_639) (fun _ h9 => h9) rfl d_MO_round_46 ?_
                refine lv_iload_n hx hb d_MO_round_49 rfl (lv_at hl 0 rfl) ?_
                refine va_iald hx hb hK hP 5 0 rfl rfl (vp_in_nI (show k < 40 by omega) (by decide)) d_MO_round_50 ?_
                refine W.eq (g2 := F0 m 51 ls [.int (ia 8 k)]) (by rw [nI_clamp (show k < 2 ^ 31 by omega), hi 8 (by decide)]) ?_
                refine lv_iload_n hx hb d_MO_round_51 rfl (lv_at hl 1 rfl) ?_
                refine lv_icmp_ne (tgt := 88) hx hb d_MO_round_52 (by decide) (fun _ => ?_) (fun h9 => absurd h9 (h24_3))
                refine lv_iinc (k := 0) (v := nI (k + 1)) hx hb d_MO_round_88 hl rfl ((nI_succ k).symm) (by decide) rfl (fun ls hl => ?_)
                have hl : lv_has ls 4 [(3, .int (nI (k + 1))), (2, .int (nI P)), (1, .int 0), (0, .ref g0)] := hl
                refine lv_goto (tgt := 9) hx hb d_MO_round_91 (by decide) ?_
                have e9 := dn_mono (sa := ia 11) (pr := ia 8) (P := (P : Int)) (r := k) N
                exact ih_9 (k + 1) K2 sc_9 ia_9 H _ ls (by omega) (by omega) (by omega) hs hi (hQ9) (hK2) hl hP hD hS
              · have h24_3 := h24_3
                have i24_3 := ti_eq h24_3
                (try rw [nI_toInt (show P < 2 ^ 31 by omega)] at i24_3)
                refine lv_iload_n hx hb d_MO_round_27 rfl (lv_at hl 2 rfl) ?_
                refine lv_if_ne (tgt := 45) hx hb d_MO_round_28 (by decide) (fun h9 => absurd (by decide) h9) (fun _ => ?_)
                refine lv_aload_n hx hb d_MO_round_31 rfl (lv_at hl 3 rfl) ?_
                refine va_get (D := (dC, dI)) (ci := 5) (v := .ref (ad 11)) (C := R_MO) (T := F_MO) (N := 30) hx hb ht in_MO hown hK hP 0 rfl rfl 11 (by decide) (ht _ tb_642) (fun _ h9 => h9) rfl d_MO_round_32 ?_
                refine lv_iload_n hx hb d_MO_round_35 rfl (lv_at hl 0 rfl) ?_
                refine va_iald hx hb hK hP 8 0 rfl rfl (vp_in_nI (show k < 40 by omega) (by decide)) d_MO_round_36 ?_
                refine W.eq (g2 := F0 m 37 ls [.int (ia 11 k)]) (by rw [nI_clamp (show k < 2 ^ 31 by omega), hi 11 (by decide)]) ?_
                refine lv_if_ne (tgt := 45) hx hb d_MO_round_37 (by decide) (fun h37_4 => ?_) (fun h37_4 => ?_)
                · have h37_4 := h37_4
                  have i37_4 := ti_ne h37_4
                  (try rw [l_0] at i37_4)
                  refine lv_aload_n hx hb d_MO_round_45 rfl (lv_at hl 3 rfl) ?_
                  refine va_get (D := (dC, dI)) (ci := 5) (v := .ref (ad 8)) (C := R_MO) (T := F_MO) (N := 30) hx hb ht in_MO hown hK hP 0 rfl rfl 8 (by decide) (ht _ tb_639) (fun _ h9 => h9) rfl d_MO_round_46 ?_
                  refine lv_iload_n hx hb d_MO_round_49 rfl (lv_at hl 0 rfl) ?_
                  refine va_iald hx hb hK hP 5 0 rfl rfl (vp_in_nI (show k < 40 by omega) (by decide)) d_MO_round_50 ?_
                  refine W.eq (g2 := F0 m 51 ls [.int (ia 8 k)]) (by rw [nI_clamp (show k < 2 ^ 31 by omega), hi 8 (by decide)]) ?_
                  refine lv_iload_n hx hb d_MO_round_51 rfl (lv_at hl 1 rfl) ?_
                  refine lv_icmp_ne (tgt := 88) hx hb d_MO_round_52 (by decide) (fun h9 => absurd (h24_3) h9) (fun _ => ?_)
                  refine lv_iload_n hx hb d_MO_round_55 rfl (lv_at hl 2 rfl) ?_
                  refine lv_iconst (v := 1) hx hb d_MO_round_56 (by decide) ?_
                  refine lv_icmp_ne (tgt := 88) hx hb d_MO_round_57 (by decide) (fun _ => ?_) (fun h9 => absurd h9 (by decide))
                  refine lv_iinc (k := 0) (v := nI (k + 1)) hx hb d_MO_round_88 hl rfl ((nI_succ k).symm) (by decide) rfl (fun ls hl => ?_)
                  have hl : lv_has ls 4 [(3, .int (nI (k + 1))), (2, .int (nI P)), (1, .int 0), (0, .ref g0)] := hl
                  refine lv_goto (tgt := 9) hx hb d_MO_round_91 (by decide) ?_
                  have e9 := dn_mono (sa := ia 11) (pr := ia 8) (P := (P : Int)) (r := k) N
                  exact ih_9 (k + 1) K2 sc_9 ia_9 H _ ls (by omega) (by omega) (by omega) hs hi (hQ9) (hK2) hl hP hD hS
                · have h37_4 := h37_4
                  have i37_4 := ti_eq h37_4
                  (try rw [l_0] at i37_4)
                  refine lv_aload_n hx hb d_MO_round_40 rfl (lv_at hl 3 rfl) ?_
                  refine lv_iload_n hx hb d_MO_round_41 rfl (lv_at hl 0 rfl) ?_
                  refine t_call (u0 := (sc_9, ia_9)) (va_runV (C := R_MO) (As := [.int (nI k)]) (rest := []) ⟨hx, hb, hml, hown, ht⟩ (t_MO_planCore l dC dI g0 ad kI kZ sc_9 ia_9 H.size Bd T N (hI.same (hs.wk (by decide)) (hi.wk (by decide))) K2 hK2 (by have := dn_step (sa := ia 11) (pr := ia 8) (P := (P : Int)) (r := k) h37_4 i24_3 N (by omega); have := dn_ct (sa := ia 11) (pr := ia 8) (P := (P : Int)) (r := k + 1) N; omega) k (by omega) ((congrFun (hi 11 (by decide)) k).trans h37_4) hQ9) (cwV 1 ht (gV tb_768 tb_770 ts_29 tb_5 tb_771) rfl rfl rfl (by decide +kernel) ⟨Nat.le_of_ble_eq_true rfl, Nat.le_of_ble_eq_true rfl⟩) ⟨frP_blind, va_recv (q := (R_MO, F_MO, 30)) hK hP rfl (show (MOW g0 ad kI kZ sc_9 ia_9 : va_W)[0]? = some _ from rfl), fr_pre hP hK hD hAB hBs hS hV⟩ rfl rfl hl.1 rfl (lv_room (Nat.le_of_ble_eq_true rfl)) d_MO_round_42 ⟨Nat.le_of_ble_eq_true rfl, Nat.le_of_ble_eq_true rfl⟩) hD hS hA (fun r1 u H locs hu hP hD hS => ?_)
                  obtain ⟨sc2, ia3⟩ := u
                  obtain ⟨hu1_0, hu1_1, hu1_2, hu1_3⟩ := hu
                  have hu1_0 : same [21] sc_9 sc2 := hu1_0
                  have hu1_1 : same [22, 23, 24, 25, 26, 27] ia_9 ia3 := hu1_1
                  have hu1_2 : (∃ Kz, K2 ≤ Kz ∧ Kz ≤ K2 + 1 ∧ sc2 21 = nI Kz) := hu1_2
                  have hu1_3 : QP N sc2 ia3 := hu1_3
                  have hP : va_P (dC, dI) cls_ (MOW g0 ad kI kZ sc2 ia3) H := hP
                  have hD : va_D A (MOW g0 ad kI kZ sc2 ia3) := hD
                  have hs : same [21] sc sc2 := hs.tr (hu1_0.wk (by decide))
                  have hi : same [22, 23, 24, 25, 26, 27] ia ia3 := hi.tr (hu1_1.wk (by decide))
                  refine W.eq (g2 := F0 m 45 ls []) rfl ?_
                  refine W.cs (cells' := 0) (slots' := 0) rfl rfl ?_
                  obtain ⟨K_4, hK_4a, hK_4b, hK_4c⟩ := hu1_2
                  refine lv_aload_n hx hb d_MO_round_45 rfl (lv_at hl 3 rfl) ?_
                  refine va_get (D := (dC, dI)) (ci := 5) (v := .ref (ad 8)) (C := R_MO) (T := F_MO) (N := 30) hx hb ht in_MO hown hK hP 0 rfl rfl 8 (by decide) (ht _ tb_639) (fun _ h9 => h9) rfl d_MO_round_46 ?_
                  refine lv_iload_n hx hb d_MO_round_49 rfl (lv_at hl 0 rfl) ?_
                  refine va_iald hx hb hK hP 5 0 rfl rfl (vp_in_nI (show k < 40 by omega) (by decide)) d_MO_round_50 ?_
                  refine W.eq (g2 := F0 m 51 ls [.int (ia 8 k)]) (by rw [nI_clamp (show k < 2 ^ 31 by omega), hi 8 (by decide)]) ?_
                  refine lv_iload_n hx hb d_MO_round_51 rfl (lv_at hl 1 rfl) ?_
                  refine lv_icmp_ne (tgt := 88) hx hb d_MO_round_52 (by decide) (fun h9 => absurd (h24_3) h9) (fun _ => ?_)
                  refine lv_iload_n hx hb d_MO_round_55 rfl (lv_at hl 2 rfl) ?_
                  refine lv_iconst (v := 1) hx hb d_MO_round_56 (by decide) ?_
                  refine lv_icmp_ne (tgt := 88) hx hb d_MO_round_57 (by decide) (fun _ => ?_) (fun h9 => absurd h9 (by decide))
                  refine lv_iinc (k := 0) (v := nI (k + 1)) hx hb d_MO_round_88 hl rfl ((nI_succ k).symm) (by decide) rfl (fun ls hl => ?_)
                  have hl : lv_has ls 4 [(3, .int (nI (k + 1))), (2, .int (nI P)), (1, .int 0), (0, .ref g0)] := hl
                  refine lv_goto (tgt := 9) hx hb d_MO_round_91 (by decide) ?_
                  have e9 := dn_step (sa := ia 11) (pr := ia 8) (P := (P : Int)) (r := k) h37_4 i24_3 N (by omega)
                  exact ih_9 (k + 1) K_4 sc2 ia3 H _ ls (by omega) (by omega) (by omega) hs hi (hu1_3) (hK_4c) hl hP hD hS
        have hl := lv_sub hl [0, 1, 2, 3] (l' := [(3, .int 0), (2, .int (nI P)), (1, .int 0), (0, .ref g0)]) rfl
        have hl : lv_has ls 4 [(3, .int (nI 0)), (2, .int (nI P)), (1, .int 0), (0, .ref g0)] := hl
        exact J_9 ((N - 0) + 1) 0 K1 sc_3 ia_3 H _ ls (by omega) (by omega) (hc3_1) hs hi (hQ3) (hK1) hl hP hD hS
  have hl := lv_sub hl [0, 2, 1] (l' := [(2, .int 9), (1, .int 0), (0, .ref g0)]) rfl
  have hl : lv_has ls 4 [(2, .int (nI 9)), (1, .int 0), (0, .ref g0)] := hl
  exact J_3 (9 + 1) 9 K sc ia s.heap _ ls (by omega) (by omega) (by omega) hs hi (hQ) (hK0) hl hP hD hS
set_option maxHeartbeats 8000000 in
set_option maxRecDepth 100000 in
theorem t_MO_round1 (l : Launch) (dC : Nat → ClassId) (dI : Nat → Nat → Nat) (g0 : Nat) (ad : Nat → Nat) (kI kZ : ClassId) (sc : Nat → Int32) (ia : Nat → Nat → Int32) (sz Bd : Nat) (T : Int) (N : Nat) (hI : MI T N sc ia) (K : Nat) (hK0 : sc 21 = nI K) (hKb : K + 2 * ct 0 (ia 11) N < 60) (hQ : QP N sc ia) : Met l y_MO_round w_MO_round ({ frames := 3, cells := 0, slots := 0, locals := 73 }) (frP (dC, dI) (MOW g0 ad kI kZ sc ia) (MOT kI kZ) sz Bd [.ref g0, .int 1]) (tQ (dC, dI) (mW g0 ad kI kZ) (va_A (MOW g0 ad kI kZ sc ia) sz) vN (fun r u => same [21] sc u.1 ∧ same [22, 23, 24, 25, 26, 27] ia u.2 ∧ (∃ Kz, Kz ≤ K + 2 * ct 0 (ia 11) N ∧ u.1 21 = nI Kz) ∧ QP N u.1 u.2)) 0 0 (va_A (MOW g0 ad kI kZ sc ia) sz) := by
  refine Met.ofW (cc := c_MO_round) (maxL := 4) (ret := none) (by decide) rfl ?_
  intro p e s m args below meth c s₁ B hml hv
  obtain ⟨rfl, ⟨hsz, hBs⟩, hP, hK, hD0, hV⟩ := hv
  have hx := B.exec
  have hb := B.bytes
  have hr := B.returns
  have ht : ∀ w ∈ tb_, w.before _ s = true := fun w h => atoms_spec (ws := w_MO_round) B.pre w (List.mem_cons_of_mem _ h)
  have hown : s.vm.findClass R_MO = some m.cls := findClass_of_methodNamed B.named
  have hlocks := B.notSynchronized
  subst hsz
  have hD := hD0.self (sz := s.heap.size)
  have hAB : ∀ q, va_A (MOW g0 ad kI kZ sc ia) s.heap.size q → Bd ≤ q := fr_AB hD0 hBs
  generalize hAe : va_A (MOW g0 ad kI kZ sc ia) s.heap.size = A at hD hAB ⊢
  have hA : ∀ q : Nat, s.heap.size ≤ q → A q := fun q h => by rw [← hAe]; exact Or.inr h
  have hS : va_S A s.heap s.heap [] := va_S.rf
  have hs : same [21] sc sc := same.rf
  have hi : same [22, 23, 24, 25, 26, 27] ia ia := same.rf
  have hP : va_P (dC, dI) cls_ (MOW g0 ad kI kZ sc ia) s.heap := hP
  have hl := lv_entry ([.ref g0, .int 1]) (n := 4) (Nat.le_of_ble_eq_true rfl)
  rw [lg_entry_eq]
  generalize (lg_sl ([.ref g0, .int 1]) ++ List.replicate (4 - (lg_sl ([.ref g0, .int 1])).length) Slot.unset).toArray = ls at hl ⊢
  have hl : lv_has ls 4 [(0, .ref g0), (1, .int 1)] := hl
  have e4 := hI.e4
  have hN := hI.hN
  have hT := hI.T
  refine lv_bipush (v := 9) hx hb d_MO_round_0 (by decide) ?_
  refine lv_istore_n hx hb d_MO_round_2 rfl hl (by decide) rfl (fun ls hl => ?_)
  have hl : lv_has ls 4 [(2, .int 9), (0, .ref g0), (1, .int 1)] := hl
  have J_3 : ∀ (n_3 : Nat) (P : Nat) (K1 : Nat) (sc_3 : Nat → Int32) (ia_3 : Nat → Nat → Int32) (H : Heap) (locs : List Loc) (ls : Array Slot), P < n_3 → P ≤ 9 → K1 ≤ K + 2 * dn (ia 11) (ia 8) (P : Int) 0 N → same [21] sc sc_3 → same [22, 23, 24, 25, 26, 27] ia ia_3 → QP N sc_3 ia_3 → sc_3 21 = nI K1 → lv_has ls 4 [(2, .int (nI P)), (1, .int 1), (0, .ref g0)] → va_P (dC, dI) cls_ (MOW g0 ad kI kZ sc_3 ia_3) H → va_D A (MOW g0 ad kI kZ sc_3 ia_3) → va_S A s.heap H locs → W p l e (headSpec w_MO_round ({ frames := 3, cells := 0, slots := 0, locals := 73 })).room s m (([.ref g0, .int 1] : List Value).toArray) below meth c H locs 0 0 (MQ below (tQ (dC, dI) (mW g0 ad kI kZ) A vN (fun r u => same [21] sc u.1 ∧ same [22, 23, 24, 25, 26, 27] ia u.2 ∧ (∃ Kz, Kz ≤ K + 2 * ct 0 (ia 11) N ∧ u.1 21 = nI Kz) ∧ QP N u.1 u.2)) (([.ref g0, .int 1] : List Value).toArray) s 0 0 A) (F0 m 3 ls []) := by
    intro n_3
    induction n_3 with
    | zero => intro P K1 sc_3 ia_3 H locs ls hmu hc3_0 hc3_1 hs hi hQ3 hK1 hl hP hD hS; exact absurd hmu (by omega)
    | succ n_3 ih_3 =>
      intro P K1 sc_3 ia_3 H locs ls hmu hc3_0 hc3_1 hs hi hQ3 hK1 hl hP hD hS
      refine lv_iload_n hx hb d_MO_round_3 rfl (lv_at hl 0 rfl) ?_
      refine lv_if_le (tgt := 100) hx hb d_MO_round_4 (by decide) (fun h4_1 => ?_) (fun h4_1 => ?_)
      · have h4_1 := h4_1
        have i4_1 := ti_le h4_1
        (try rw [nI_toInt (show P < 2 ^ 31 by omega)] at i4_1)
        (try rw [l_0] at i4_1)
        have hz0 : (∃ Kz, Kz ≤ K + 2 * ct 0 (ia 11) N ∧ sc_3 21 = nI Kz) := ⟨K1, by have := dn_ct (sa := ia 11) (pr := ia 8) (P := (P : Int)) (r := 0) N; omega, hK1⟩
        have hz1 : QP N sc_3 ia_3 := hQ3
        exact W.vret hx hb hr (fun t ht9 hW => ⟨⟨(), (sc_3, ia_3), rfl, ⟨hs, hi, hz0, hz1⟩, by rw [ht9]; exact hP, hD⟩, hS.F ht9⟩) hS.2.2 d_MO_round_100
      · have h4_1 := h4_1
        have i4_1 := ti_nle h4_1
        (try rw [nI_toInt (show P < 2 ^ 31 by omega)] at i4_1)
        (try rw [l_0] at i4_1)
        refine lv_iconst (v := 0) hx hb d_MO_round_7 (by decide) ?_
        refine lv_istore_n hx hb d_MO_round_8 rfl hl (by decide) rfl (fun ls hl => ?_)
        have hl : lv_has ls 4 [(3, .int 0), (2, .int (nI P)), (1, .int 1), (0, .ref g0)] := hl
        have J_9 : ∀ (n_9 : Nat) (k : Nat) (K2 : Nat) (sc_9 : Nat → Int32) (ia_9 : Nat → Nat → Int32) (H : Heap) (locs : List Loc) (ls : Array Slot), N - k < n_9 → k ≤ N → K2 ≤ K + 2 * dn (ia 11) (ia 8) (P : Int) k N → same [21] sc sc_9 → same [22, 23, 24, 25, 26, 27] ia ia_9 → QP N sc_9 ia_9 → sc_9 21 = nI K2 → lv_has ls 4 [(3, .int (nI k)), (2, .int (nI P)), (1, .int 1), (0, .ref g0)] → va_P (dC, dI) cls_ (MOW g0 ad kI kZ sc_9 ia_9) H → va_D A (MOW g0 ad kI kZ sc_9 ia_9) → va_S A s.heap H locs → W p l e (headSpec w_MO_round ({ frames := 3, cells := 0, slots := 0, locals := 73 })).room s m (([.ref g0, .int 1] : List Value).toArray) below meth c H locs 0 0 (MQ below (tQ (dC, dI) (mW g0 ad kI kZ) A vN (fun r u => same [21] sc u.1 ∧ same [22, 23, 24, 25, 26, 27] ia u.2 ∧ (∃ Kz, Kz ≤ K + 2 * ct 0 (ia 11) N ∧ u.1 21 = nI Kz) ∧ QP N u.1 u.2)) (([.ref g0, .int 1] : List Value).toArray) s 0 0 A) (F0 m 9 ls []) := by
          intro n_9
          induction n_9 with
          | zero => intro k K2 sc_9 ia_9 H locs ls hmu hc9_0 hc9_1 hs hi hQ9 hK2 hl hP hD hS; exact absurd hmu (by omega)
          | succ n_9 ih_9 =>
            intro k K2 sc_9 ia_9 H locs ls hmu hc9_0 hc9_1 hs hi hQ9 hK2 hl hP hD hS
            refine lv_iload_n hx hb d_MO_round_9 rfl (lv_at hl 0 rfl) ?_
            refine lv_aload_n hx hb d_MO_round_10 rfl (lv_at hl 3 rfl) ?_
            refine va_get (D := (dC, dI)) (ci := 5) (v := .int (sc_9 4)) (C := R_MO) (T := F_MO) (N := 30) hx hb ht in_MO hown hK hP 0 rfl rfl 4 (by decide) (ht _ tb_635) (fun _ h9 => h9) rfl d_MO_round_11 ?_
            refine W.eq (g2 := F0 m 14 ls [.int (nI N), .int (nI k)]) (by rw [show sc_9 4 = nI N from (hs 4 (by decide)).trans e4]) ?_
            refine lv_icmp_ge (tgt := 94) hx hb d_MO_round_14 (by decide) (fun h14_2 => ?_) (fun h14_2 => ?_)
            · have h14_2 := h14_2
              have i14_2 := ti_le h14_2
              (try rw [nI_toInt (show k < 2 ^ 31 by omega)] at i14_2)
              (try rw [nI_toInt (show N < 2 ^ 31 by omega)] at i14_2)
              have hP1 : nI P + (-1) = nI (P - 1) := by obtain ⟨q, rfl⟩ : ∃ q, P = q + 1 := ⟨P - 1, by omega⟩; exact pk_m1 q
              refine lv_iinc (k := 1) (v := nI (P - 1)) hx hb d_MO_round_94 hl rfl (hP1) (by decide) rfl (fun ls hl => ?_)
              have hl : lv_has ls 4 [(2, .int (nI (P - 1))), (3, .int (nI k)), (1, .int 1), (0, .ref g0)] := hl
              refine lv_goto (tgt := 3) hx hb d_MO_round_97 (by decide) ?_
              have hl := lv_sub hl [0, 2, 3] (l' := [(2, .int (nI (P - 1))), (1, .int 1), (0, .ref g0)]) rfl
              have e9 := dn_next (sa := ia 11) (pr := ia 8) (P := (P : Int)) (r := k) N (by omega)
              rw [show ((P : Int) - 1) = ((P - 1 : Nat) : Int) by omega] at e9
              exact ih_3 (P - 1) K2 sc_9 ia_9 H _ ls (by omega) (by omega) (by omega) hs hi (hQ9) (hK2) hl hP hD hS
            · have h14_2 := h14_2
              have i14_2 := ti_nle h14_2
              (try rw [nI_toInt (show k < 2 ^ 31 by omega)] at i14_2)
              (try rw [nI_toInt (show N < 2 ^ 31 by omega)] at i14_2)
              refine lv_aload_n hx hb d_MO_round_17 rfl (lv_at hl 3 rfl) ?_
              refine va_get (D := (dC, dI)) (ci := 5) (v := .ref (ad 8)) (C := R_MO) (T := F_MO) (N := 30) hx hb ht in_MO hown hK hP 0 rfl rfl 8 (by decide) (ht _ tb_639) (fun _ h9 => h9) rfl d_MO_round_18 ?_
              refine lv_iload_n hx hb d_MO_round_21 rfl (lv_at hl 0 rfl) ?_
              refine va_iald hx hb hK hP 5 0 rfl rfl (vp_in_nI (show k < 40 by omega) (by decide)) d_MO_round_22 ?_
              refine W.eq (g2 := F0 m 23 ls [.int (ia 8 k)]) (by rw [nI_clamp (show k < 2 ^ 31 by omega), hi 8 (by decide)]) ?_
              refine lv_iload_n hx hb d_MO_round_23 rfl (lv_at hl 1 rfl) ?_
              refine lv_icmp_ne (tgt := 45) hx hb d_MO_round_24 (by decide) (fun h24_3 => ?_) (fun h24_3 => ?_)
              · have h24_3 := h24_3
                have i24_3 := ti_ne h24_3
                (try rw [nI_toInt (show P < 2 ^ 31 by omega)] at i24_3)
                refine lv_aload_n hx hb d_MO_round_45 rfl (lv_at hl 3 rfl) ?_
                refine va_get (D := (dC, dI)) (ci := 5) (v := .ref (ad 8)) (C := R_MO) (T := F_MO) (N := 30) hx hb ht in_MO hown hK hP 0 rfl rfl 8 (by decide) (ht _ tb_639) (fun _ h9 => h9) rfl d_MO_round_46 ?_
                refine lv_iload_n hx hb d_MO_round_49 rfl (lv_at hl 0 rfl) ?_
                refine va_iald hx hb hK hP 5 0 rfl rfl (vp_in_nI (show k < 40 by omega) (by decide)) d_MO_round_50 ?_
                refine W.eq (g2 := F0 m 51 ls [.int (ia 8 k)]) (by rw [nI_clamp (show k < 2 ^ 31 by omega), hi 8 (by decide)]) ?_
                refine lv_iload_n hx hb d_MO_round_51 rfl (lv_at hl 1 rfl) ?_
                refine lv_icmp_ne (tgt := 88) hx hb d_MO_round_52 (by decide) (fun _ => ?_) (fun h9 => absurd h9 (h24_3))
                refine lv_iinc (k := 0) (v := nI (k + 1)) hx hb d_MO_round_88 hl rfl ((nI_succ k).symm) (by decide) rfl (fun ls hl => ?_)
                have hl : lv_has ls 4 [(3, .int (nI (k + 1))), (2, .int (nI P)), (1, .int 1), (0, .ref g0)] := hl
                refine lv_goto (tgt := 9) hx hb d_MO_round_91 (by decide) ?_
                have e9 := dn_mono (sa := ia 11) (pr := ia 8) (P := (P : Int)) (r := k) N
                exact ih_9 (k + 1) K2 sc_9 ia_9 H _ ls (by omega) (by omega) (by omega) hs hi (hQ9) (hK2) hl hP hD hS
              · have h24_3 := h24_3
                have i24_3 := ti_eq h24_3
                (try rw [nI_toInt (show P < 2 ^ 31 by omega)] at i24_3)
                refine lv_iload_n hx hb d_MO_round_27 rfl (lv_at hl 2 rfl) ?_
                refine lv_if_ne (tgt := 45) hx hb d_MO_round_28 (by decide) (fun _ => ?_) (fun h9 => absurd h9 (by decide))
                refine lv_aload_n hx hb d_MO_round_45 rfl (lv_at hl 3 rfl) ?_
                refine va_get (D := (dC, dI)) (ci := 5) (v := .ref (ad 8)) (C := R_MO) (T := F_MO) (N := 30) hx hb ht in_MO hown hK hP 0 rfl rfl 8 (by decide) (ht _ tb_639) (fun _ h9 => h9) rfl d_MO_round_46 ?_
                refine lv_iload_n hx hb d_MO_round_49 rfl (lv_at hl 0 rfl) ?_
                refine va_iald hx hb hK hP 5 0 rfl rfl (vp_in_nI (show k < 40 by omega) (by decide)) d_MO_round_50 ?_
                refine W.eq (g2 := F0 m 51 ls [.int (ia 8 k)]) (by rw [nI_clamp (show k < 2 ^ 31 by omega), hi 8 (by decide)]) ?_
                refine lv_iload_n hx hb d_MO_round_51 rfl (lv_at hl 1 rfl) ?_
                refine lv_icmp_ne (tgt := 88) hx hb d_MO_round_52 (by decide) (fun h9 => absurd (h24_3) h9) (fun _ => ?_)
                refine lv_iload_n hx hb d_MO_round_55 rfl (lv_at hl 2 rfl) ?_
                refine lv_iconst (v := 1) hx hb d_MO_round_56 (by decide) ?_
                refine lv_icmp_ne (tgt := 88) hx hb d_MO_round_57 (by decide) (fun h9 => absurd (by decide) h9) (fun _ => ?_)
                refine lv_aload_n hx hb d_MO_round_60 rfl (lv_at hl 3 rfl) ?_
                refine va_get (D := (dC, dI)) (ci := 5) (v := .ref (ad 11)) (C := R_MO) (T := F_MO) (N := 30) hx hb ht in_MO hown hK hP 0 rfl rfl 11 (by decide) (ht _ tb_642) (fun _ h9 => h9) rfl d_MO_round_61 ?_
                refine lv_iload_n hx hb d_MO_round_64 rfl (lv_at hl 0 rfl) ?_
                refine va_iald hx hb hK hP 8 0 rfl rfl (vp_in_nI (show k < 40 by omega) (by decide)) d_MO_round_65 ?_
                refine W.eq (g2 := F0 m 66 ls [.int (ia 11 k)]) (by rw [nI_clamp (show k < 2 ^ 31 by omega), hi 11 (by decide)]) ?_
                refine lv_if_ne (tgt := 88) hx hb d_MO_round_66 (by decide) (fun h66_4 => ?_) (fun h66_4 => ?_)
                · have h66_4 := h66_4
                  have i66_4 := ti_ne h66_4
                  (try rw [l_0] at i66_4)
                  refine lv_iinc (k := 0) (v := nI (k + 1)) hx hb d_MO_round_88 hl rfl ((nI_succ k).symm) (by decide) rfl (fun ls hl => ?_)
                  have hl : lv_has ls 4 [(3, .int (nI (k + 1))), (2, .int (nI P)), (1, .int 1), (0, .ref g0)] := hl
                  refine lv_goto (tgt := 9) hx hb d_MO_round_91 (by decide) ?_
                  have e9 := dn_mono (sa := ia 11) (pr := ia 8) (P := (P : Int)) (r := k) N
                  exact ih_9 (k + 1) K2 sc_9 ia_9 H _ ls (by omega) (by omega) (by omega) hs hi (hQ9) (hK2) hl hP hD hS
                · have h66_4 := h66_4
                  have i66_4 := ti_eq h66_4
                  (try rw [l_0] at i66_4)
                  refine lv_aload_n hx hb d_MO_round_69 rfl (lv_at hl 3 rfl) ?_
                  refine va_get (D := (dC, dI)) (ci := 5) (v := .ref (ad 25)) (C := R_MO) (T := F_MO) (N := 30) hx hb ht in_MO hown hK hP 0 rfl rfl 25 (by decide) (ht _ tb_656) (fun _ h9 => h9) rfl d_MO_round_70 ?_
                  refine lv_iload_n hx hb d_MO_round_73 rfl (lv_at hl 0 rfl) ?_
                  refine va_zald hx hb hK hP 21 1 rfl rfl (vp_in_nI (show k < 40 by omega) (by decide)) d_MO_round_74 ?_
                  refine W.eq (g2 := F0 m 75 ls [.int (ia_9 25 k)]) (by rw [nI_clamp (show k < 2 ^ 31 by omega)]) ?_
                  refine lv_if_eq (tgt := 88) hx hb d_MO_round_75 (by decide) (fun h75_5 => ?_) (fun h75_5 => ?_)
                  · have h75_5 := h75_5
                    have i75_5 := ti_eq h75_5
                    (try rw [l_0] at i75_5)
                    refine lv_iinc (k := 0) (v := nI (k + 1)) hx hb d_MO_round_88 hl rfl ((nI_succ k).symm) (by decide) rfl (fun ls hl => ?_)
                    have hl : lv_has ls 4 [(3, .int (nI (k + 1))), (2, .int (nI P)), (1, .int 1), (0, .ref g0)] := hl
                    refine lv_goto (tgt := 9) hx hb d_MO_round_91 (by decide) ?_
                    have e9 := dn_mono (sa := ia 11) (pr := ia 8) (P := (P : Int)) (r := k) N
                    exact ih_9 (k + 1) K2 sc_9 ia_9 H _ ls (by omega) (by omega) (by omega) hs hi (hQ9) (hK2) hl hP hD hS
                  · have h75_5 := h75_5
                    have i75_5 := ti_ne h75_5
                    (try rw [l_0] at i75_5)
                    refine lv_aload_n hx hb d_MO_round_78 rfl (lv_at hl 3 rfl) ?_
                    refine lv_iload_n hx hb d_MO_round_79 rfl (lv_at hl 0 rfl) ?_
                    refine t_call (u0 := (sc_9, ia_9)) (va_runV (C := R_MO) (As := [.int (nI k)]) (rest := []) ⟨hx, hb, hml, hown, ht⟩ (t_MO_planAfter l dC dI g0 ad kI kZ sc_9 ia_9 H.size Bd T N (hI.same (hs.wk (by decide)) (hi.wk (by decide))) K2 hK2 (by have := dn_step (sa := ia 11) (pr := ia 8) (P := (P : Int)) (r := k) h66_4 i24_3 N (by omega); have := dn_ct (sa := ia 11) (pr := ia 8) (P := (P : Int)) (r := k + 1) N; omega) k (by omega) (fun q9 => absurd (q9.symm.trans ((congrFun (hi 11 (by decide)) k).trans h66_4)) (by decide)) hQ9) (cwV 1 ht (gV tb_780 tb_782 ts_32 tb_5 tb_783) rfl rfl rfl (by decide +kernel) ⟨Nat.le_of_ble_eq_true rfl, Nat.le_of_ble_eq_true rfl⟩) ⟨frP_blind, va_recv (q := (R_MO, F_MO, 30)) hK hP rfl (show (MOW g0 ad kI kZ sc_9 ia_9 : va_W)[0]? = some _ from rfl), fr_pre hP hK hD hAB hBs hS hV⟩ rfl rfl hl.1 rfl (lv_room (Nat.le_of_ble_eq_true rfl)) d_MO_round_80 ⟨Nat.le_of_ble_eq_true rfl, Nat.le_of_ble_eq_true rfl⟩) hD hS hA (fun r1 u H locs hu hP hD hS => ?_)
                    obtain ⟨sc2, ia3⟩ := u
                    obtain ⟨hu1_0, hu1_1, hu1_2, hu1_3⟩ := hu
                    have hu1_0 : same [21] sc_9 sc2 := hu1_0
                    have hu1_1 : same [22, 23, 24, 25, 26, 27] ia_9 ia3 := hu1_1
                    have hu1_2 : (∃ Kz, K2 ≤ Kz ∧ Kz ≤ K2 + 1 ∧ sc2 21 = nI Kz) := hu1_2
                    have hu1_3 : QP N sc2 ia3 := hu1_3
                    have hP : va_P (dC, dI) cls_ (MOW g0 ad kI kZ sc2 ia3) H := hP
                    have hD : va_D A (MOW g0 ad kI kZ sc2 ia3) := hD
                    have hs : same [21] sc sc2 := hs.tr (hu1_0.wk (by decide))
                    have hi : same [22, 23, 24, 25, 26, 27] ia ia3 := hi.tr (hu1_1.wk (by decide))
                    refine W.eq (g2 := F0 m 83 ls []) rfl ?_
                    refine W.cs (cells' := 0) (slots' := 0) rfl rfl ?_
                    obtain ⟨K_4, hK_4a, hK_4b, hK_4c⟩ := hu1_2
                    refine lv_aload_n hx hb d_MO_round_83 rfl (lv_at hl 3 rfl) ?_
                    refine lv_iload_n hx hb d_MO_round_84 rfl (lv_at hl 0 rfl) ?_
                    refine t_call (u0 := (sc2, ia3)) (va_runV (C := R_MO) (As := [.int (nI k)]) (rest := []) ⟨hx, hb, hml, hown, ht⟩ (t_MO_planBefore l dC dI g0 ad kI kZ sc2 ia3 H.size Bd T N (hI.same (hs.wk (by decide)) (hi.wk (by decide))) K_4 hK_4c (by have := dn_step (sa := ia 11) (pr := ia 8) (P := (P : Int)) (r := k) h66_4 i24_3 N (by omega); have := dn_ct (sa := ia 11) (pr := ia 8) (P := (P : Int)) (r := k + 1) N; omega) k (by omega) hu1_3) (cwV 1 ht (gV tb_784 tb_786 ts_33 tb_5 tb_787) rfl rfl rfl (by decide +kernel) ⟨Nat.le_of_ble_eq_true rfl, Nat.le_of_ble_eq_true rfl⟩) ⟨frP_blind, va_recv (q := (R_MO, F_MO, 30)) hK hP rfl (show (MOW g0 ad kI kZ sc2 ia3 : va_W)[0]? = some _ from rfl), fr_pre hP hK hD hAB hBs hS hV⟩ rfl rfl hl.1 rfl (lv_room (Nat.le_of_ble_eq_true rfl)) d_MO_round_85 ⟨Nat.le_of_ble_eq_true rfl, Nat.le_of_ble_eq_true rfl⟩) hD hS hA (fun r5 u H locs hu hP hD hS => ?_)
                    obtain ⟨sc6, ia7⟩ := u
                    obtain ⟨hu5_0, hu5_1, hu5_2, hu5_3⟩ := hu
                    have hu5_0 : same [21] sc2 sc6 := hu5_0
                    have hu5_1 : same [22, 23, 24, 25, 26, 27] ia3 ia7 := hu5_1
                    have hu5_2 : (∃ Kz, K_4 ≤ Kz ∧ Kz ≤ K_4 + 1 ∧ sc6 21 = nI Kz) := hu5_2
                    have hu5_3 : QP N sc6 ia7 := hu5_3
                    have hP : va_P (dC, dI) cls_ (MOW g0 ad kI kZ sc6 ia7) H := hP
                    have hD : va_D A (MOW g0 ad kI kZ sc6 ia7) := hD
                    have hs : same [21] sc sc6 := hs.tr (hu5_0.wk (by decide))
                    have hi : same [22, 23, 24, 25, 26, 27] ia ia7 := hi.tr (hu5_1.wk (by decide))
                    refine W.eq (g2 := F0 m 88 ls []) rfl ?_
                    refine W.cs (cells' := 0) (slots' := 0) rfl rfl ?_
                    obtain ⟨K_8, hK_8a, hK_8b, hK_8c⟩ := hu5_2
                    refine lv_iinc (k := 0) (v := nI (k + 1)) hx hb d_MO_round_88 hl rfl ((nI_succ k).symm) (by decide) rfl (fun ls hl => ?_)
                    have hl : lv_has ls 4 [(3, .int (nI (k + 1))), (2, .int (nI P)), (1, .int 1), (0, .ref g0)] := hl
                    refine lv_goto (tgt := 9) hx hb d_MO_round_91 (by decide) ?_
                    have e9 := dn_step (sa := ia 11) (pr := ia 8) (P := (P : Int)) (r := k) h66_4 i24_3 N (by omega)
                    exact ih_9 (k + 1) K_8 sc6 ia7 H _ ls (by omega) (by omega) (by omega) hs hi (hu5_3) (hK_8c) hl hP hD hS
        have hl := lv_sub hl [0, 1, 2, 3] (l' := [(3, .int 0), (2, .int (nI P)), (1, .int 1), (0, .ref g0)]) rfl
        have hl : lv_has ls 4 [(3, .int (nI 0)), (2, .int (nI P)), (1, .int 1), (0, .ref g0)] := hl
        exact J_9 ((N - 0) + 1) 0 K1 sc_3 ia_3 H _ ls (by omega) (by omega) (hc3_1) hs hi (hQ3) (hK1) hl hP hD hS
  have hl := lv_sub hl [0, 2, 1] (l' := [(2, .int 9), (1, .int 1), (0, .ref g0)]) rfl
  have hl : lv_has ls 4 [(2, .int (nI 9)), (1, .int 1), (0, .ref g0)] := hl
  exact J_3 (9 + 1) 9 K sc ia s.heap _ ls (by omega) (by omega) (by omega) hs hi (hQ) (hK0) hl hP hD hS
