abbrev c_MO_plan : ByteArray := prog_7_method_16_code
abbrev y_MO_plan : MethodName := ⟨"TwinTunersModel", "plan", "()V"⟩
def w_MO_plan : List Cond := .code y_MO_plan c_MO_plan 3 none :: tb_
abbrev c_MO_ran : ByteArray := prog_7_method_18_code
abbrev y_MO_ran : MethodName := ⟨"TwinTunersModel", "ran", "(I)Z"⟩
def w_MO_ran : List Cond := .code y_MO_ran c_MO_ran 2 (some .boolean) :: tb_
abbrev c_MO_isKept : ByteArray := prog_7_method_41_code
abbrev y_MO_isKept : MethodName := ⟨"TwinTunersModel", "isKept", "(I)Z"⟩
def w_MO_isKept : List Cond := .code y_MO_isKept c_MO_isKept 2 (some .boolean) :: tb_
abbrev c_MO_segmentsOf : ByteArray := prog_7_method_22_code
abbrev y_MO_segmentsOf : MethodName := ⟨"TwinTunersModel", "segmentsOf", "(I)I"⟩
def w_MO_segmentsOf : List Cond := .code y_MO_segmentsOf c_MO_segmentsOf 4 (some .int) :: tb_
set_option maxRecDepth 100000 in
theorem tb_644 : (.fieldLink "TwinTunersModel" 41 "TwinTunersModel" "ends" "[I" : Cond) ∈ tb_ := tb_w 644 rfl rfl
set_option maxRecDepth 100000 in
theorem tb_651 : (.fieldLink "TwinTunersModel" 63 "TwinTunersModel" "segments" "[Z" : Cond) ∈ tb_ := tb_w 651 rfl rfl
set_option maxRecDepth 100000 in
theorem tb_755 : (.code ⟨"TwinTunersModel", "plan", "()V"⟩ prog_7_method_16_code 3 none : Cond) ∈ tb_ := tb_w 755 rfl rfl
set_option maxRecDepth 100000 in
theorem tb_764 : (.methodLink "TwinTunersModel" 138 ⟨"TwinTunersModel", "round", "(I)V"⟩ : Cond) ∈ tb_ := tb_w 764 rfl rfl
set_option maxRecDepth 100000 in
theorem tb_766 : (.instanceMethod ⟨"TwinTunersModel", "round", "(I)V"⟩ : Cond) ∈ tb_ := tb_w 766 rfl rfl
set_option maxRecDepth 100000 in
theorem tb_791 : (.code ⟨"TwinTunersModel", "ran", "(I)Z"⟩ prog_7_method_18_code 2 (some .boolean) : Cond) ∈ tb_ := tb_w 791 rfl rfl
set_option maxRecDepth 100000 in
theorem tb_827 : (.code ⟨"TwinTunersModel", "segmentsOf", "(I)I"⟩ prog_7_method_22_code 4 (some .int) : Cond) ∈ tb_ := tb_w 827 rfl rfl
set_option maxRecDepth 100000 in
theorem tb_885 : (.code ⟨"TwinTunersModel", "isKept", "(I)Z"⟩ prog_7_method_41_code 2 (some .boolean) : Cond) ∈ tb_ := tb_w 885 rfl rfl
theorem ts_28 : (.selects "TwinTunersModel" ⟨"TwinTunersModel", "round", "(I)V"⟩ ⟨"TwinTunersModel", "round", "(I)V"⟩ : Cond) ∈ tb_ := ts_w 28 rfl rfl
theorem d_MO_isKept_0 : decode c_MO_isKept 0 = .ok (.aload_n 0, 1) := by decide +kernel
theorem d_MO_isKept_1 : decode c_MO_isKept 1 = .ok (.getfield 35, 3) := by decide +kernel
theorem d_MO_isKept_4 : decode c_MO_isKept 4 = .ok (.iload_n 1, 1) := by decide +kernel
theorem d_MO_isKept_5 : decode c_MO_isKept 5 = .ok (.iaload, 1) := by decide +kernel
theorem d_MO_isKept_6 : decode c_MO_isKept 6 = .ok (.iconst 1, 1) := by decide +kernel
theorem d_MO_isKept_7 : decode c_MO_isKept 7 = .ok (.if_icmp .eq 13, 3) := by decide +kernel
theorem d_MO_isKept_10 : decode c_MO_isKept 10 = .ok (.aload_n 0, 1) := by decide +kernel
theorem d_MO_isKept_11 : decode c_MO_isKept 11 = .ok (.getfield 35, 3) := by decide +kernel
theorem d_MO_isKept_14 : decode c_MO_isKept 14 = .ok (.iload_n 1, 1) := by decide +kernel
theorem d_MO_isKept_15 : decode c_MO_isKept 15 = .ok (.iaload, 1) := by decide +kernel
theorem d_MO_isKept_16 : decode c_MO_isKept 16 = .ok (.iconst 2, 1) := by decide +kernel
theorem d_MO_isKept_17 : decode c_MO_isKept 17 = .ok (.if_icmp .ne 7, 3) := by decide +kernel
theorem d_MO_isKept_20 : decode c_MO_isKept 20 = .ok (.iconst 1, 1) := by decide +kernel
theorem d_MO_isKept_21 : decode c_MO_isKept 21 = .ok (.goto 4, 3) := by decide +kernel
theorem d_MO_isKept_24 : decode c_MO_isKept 24 = .ok (.iconst 0, 1) := by decide +kernel
theorem d_MO_isKept_25 : decode c_MO_isKept 25 = .ok (.ireturn, 1) := by decide +kernel
theorem d_MO_plan_0 : decode c_MO_plan 0 = .ok (.aload_n 0, 1) := by decide +kernel
theorem d_MO_plan_1 : decode c_MO_plan 1 = .ok (.iconst 0, 1) := by decide +kernel
theorem d_MO_plan_2 : decode c_MO_plan 2 = .ok (.putfield 109, 3) := by decide +kernel
theorem d_MO_plan_5 : decode c_MO_plan 5 = .ok (.iconst 0, 1) := by decide +kernel
theorem d_MO_plan_6 : decode c_MO_plan 6 = .ok (.istore_n 1, 1) := by decide +kernel
theorem d_MO_plan_7 : decode c_MO_plan 7 = .ok (.iload_n 1, 1) := by decide +kernel
theorem d_MO_plan_8 : decode c_MO_plan 8 = .ok (.aload_n 0, 1) := by decide +kernel
theorem d_MO_plan_9 : decode c_MO_plan 9 = .ok (.getfield 90, 3) := by decide +kernel
theorem d_MO_plan_12 : decode c_MO_plan 12 = .ok (.if_icmp .ge 88, 3) := by decide +kernel
theorem d_MO_plan_15 : decode c_MO_plan 15 = .ok (.aload_n 0, 1) := by decide +kernel
theorem d_MO_plan_16 : decode c_MO_plan 16 = .ok (.getfield 75, 3) := by decide +kernel
theorem d_MO_plan_19 : decode c_MO_plan 19 = .ok (.iload_n 1, 1) := by decide +kernel
theorem d_MO_plan_20 : decode c_MO_plan 20 = .ok (.iconst 0, 1) := by decide +kernel
theorem d_MO_plan_21 : decode c_MO_plan 21 = .ok (.bastore, 1) := by decide +kernel
theorem d_MO_plan_22 : decode c_MO_plan 22 = .ok (.aload_n 0, 1) := by decide +kernel
theorem d_MO_plan_23 : decode c_MO_plan 23 = .ok (.getfield 35, 3) := by decide +kernel
theorem d_MO_plan_26 : decode c_MO_plan 26 = .ok (.iload_n 1, 1) := by decide +kernel
theorem d_MO_plan_27 : decode c_MO_plan 27 = .ok (.iaload, 1) := by decide +kernel
theorem d_MO_plan_28 : decode c_MO_plan 28 = .ok (.iconst 1, 1) := by decide +kernel
theorem d_MO_plan_29 : decode c_MO_plan 29 = .ok (.if_icmp .ne 65, 3) := by decide +kernel
theorem d_MO_plan_32 : decode c_MO_plan 32 = .ok (.aload_n 0, 1) := by decide +kernel
theorem d_MO_plan_33 : decode c_MO_plan 33 = .ok (.iload_n 1, 1) := by decide +kernel
theorem d_MO_plan_34 : decode c_MO_plan 34 = .ok (.invokevirtual 120, 3) := by decide +kernel
theorem d_MO_plan_37 : decode c_MO_plan 37 = .ok (.aload_n 0, 1) := by decide +kernel
theorem d_MO_plan_38 : decode c_MO_plan 38 = .ok (.getfield 93, 3) := by decide +kernel
theorem d_MO_plan_41 : decode c_MO_plan 41 = .ok (.if_icmp .le 7, 3) := by decide +kernel
theorem d_MO_plan_44 : decode c_MO_plan 44 = .ok (.iconst 1, 1) := by decide +kernel
theorem d_MO_plan_45 : decode c_MO_plan 45 = .ok (.goto 4, 3) := by decide +kernel
theorem d_MO_plan_48 : decode c_MO_plan 48 = .ok (.iconst 0, 1) := by decide +kernel
theorem d_MO_plan_49 : decode c_MO_plan 49 = .ok (.istore_n 2, 1) := by decide +kernel
theorem d_MO_plan_50 : decode c_MO_plan 50 = .ok (.aload_n 0, 1) := by decide +kernel
theorem d_MO_plan_51 : decode c_MO_plan 51 = .ok (.getfield 81, 3) := by decide +kernel
theorem d_MO_plan_54 : decode c_MO_plan 54 = .ok (.iload_n 1, 1) := by decide +kernel
theorem d_MO_plan_55 : decode c_MO_plan 55 = .ok (.iload_n 2, 1) := by decide +kernel
theorem d_MO_plan_56 : decode c_MO_plan 56 = .ok (.ifCond .eq 11, 3) := by decide +kernel
theorem d_MO_plan_59 : decode c_MO_plan 59 = .ok (.aload_n 0, 1) := by decide +kernel
theorem d_MO_plan_60 : decode c_MO_plan 60 = .ok (.iload_n 1, 1) := by decide +kernel
theorem d_MO_plan_61 : decode c_MO_plan 61 = .ok (.invokevirtual 120, 3) := by decide +kernel
theorem d_MO_plan_64 : decode c_MO_plan 64 = .ok (.goto 9, 3) := by decide +kernel
theorem d_MO_plan_67 : decode c_MO_plan 67 = .ok (.aload_n 0, 1) := by decide +kernel
theorem d_MO_plan_68 : decode c_MO_plan 68 = .ok (.getfield 41, 3) := by decide +kernel
theorem d_MO_plan_71 : decode c_MO_plan 71 = .ok (.iload_n 1, 1) := by decide +kernel
theorem d_MO_plan_72 : decode c_MO_plan 72 = .ok (.iaload, 1) := by decide +kernel
theorem d_MO_plan_73 : decode c_MO_plan 73 = .ok (.iastore, 1) := by decide +kernel
theorem d_MO_plan_74 : decode c_MO_plan 74 = .ok (.aload_n 0, 1) := by decide +kernel
theorem d_MO_plan_75 : decode c_MO_plan 75 = .ok (.aload_n 0, 1) := by decide +kernel
theorem d_MO_plan_76 : decode c_MO_plan 76 = .ok (.getfield 17, 3) := by decide +kernel
theorem d_MO_plan_79 : decode c_MO_plan 79 = .ok (.iload_n 1, 1) := by decide +kernel
theorem d_MO_plan_80 : decode c_MO_plan 80 = .ok (.iaload, 1) := by decide +kernel
theorem d_MO_plan_81 : decode c_MO_plan 81 = .ok (.aload_n 0, 1) := by decide +kernel
theorem d_MO_plan_82 : decode c_MO_plan 82 = .ok (.getfield 93, 3) := by decide +kernel
theorem d_MO_plan_85 : decode c_MO_plan 85 = .ok (.aload_n 0, 1) := by decide +kernel
theorem d_MO_plan_86 : decode c_MO_plan 86 = .ok (.getfield 81, 3) := by decide +kernel
theorem d_MO_plan_89 : decode c_MO_plan 89 = .ok (.iload_n 1, 1) := by decide +kernel
theorem d_MO_plan_90 : decode c_MO_plan 90 = .ok (.iaload, 1) := by decide +kernel
theorem d_MO_plan_91 : decode c_MO_plan 91 = .ok (.invokevirtual 116, 3) := by decide +kernel
theorem d_MO_plan_94 : decode c_MO_plan 94 = .ok (.iinc 1 1, 3) := by decide +kernel
theorem d_MO_plan_97 : decode c_MO_plan 97 = .ok (.goto (-90), 3) := by decide +kernel
theorem d_MO_plan_100 : decode c_MO_plan 100 = .ok (.aload_n 0, 1) := by decide +kernel
theorem d_MO_plan_101 : decode c_MO_plan 101 = .ok (.iconst 0, 1) := by decide +kernel
theorem d_MO_plan_102 : decode c_MO_plan 102 = .ok (.invokevirtual 138, 3) := by decide +kernel
theorem d_MO_plan_105 : decode c_MO_plan 105 = .ok (.iconst 0, 1) := by decide +kernel
theorem d_MO_plan_106 : decode c_MO_plan 106 = .ok (.istore_n 1, 1) := by decide +kernel
theorem d_MO_plan_107 : decode c_MO_plan 107 = .ok (.iload_n 1, 1) := by decide +kernel
theorem d_MO_plan_108 : decode c_MO_plan 108 = .ok (.aload_n 0, 1) := by decide +kernel
theorem d_MO_plan_109 : decode c_MO_plan 109 = .ok (.getfield 90, 3) := by decide +kernel
theorem d_MO_plan_112 : decode c_MO_plan 112 = .ok (.if_icmp .ge 36, 3) := by decide +kernel
theorem d_MO_plan_115 : decode c_MO_plan 115 = .ok (.aload_n 0, 1) := by decide +kernel
theorem d_MO_plan_116 : decode c_MO_plan 116 = .ok (.getfield 35, 3) := by decide +kernel
theorem d_MO_plan_119 : decode c_MO_plan 119 = .ok (.iload_n 1, 1) := by decide +kernel
theorem d_MO_plan_120 : decode c_MO_plan 120 = .ok (.iaload, 1) := by decide +kernel
theorem d_MO_plan_121 : decode c_MO_plan 121 = .ok (.iconst 1, 1) := by decide +kernel
theorem d_MO_plan_122 : decode c_MO_plan 122 = .ok (.if_icmp .ne 20, 3) := by decide +kernel
theorem d_MO_plan_125 : decode c_MO_plan 125 = .ok (.aload_n 0, 1) := by decide +kernel
theorem d_MO_plan_126 : decode c_MO_plan 126 = .ok (.iload_n 1, 1) := by decide +kernel
theorem d_MO_plan_127 : decode c_MO_plan 127 = .ok (.invokevirtual 120, 3) := by decide +kernel
theorem d_MO_plan_130 : decode c_MO_plan 130 = .ok (.aload_n 0, 1) := by decide +kernel
theorem d_MO_plan_131 : decode c_MO_plan 131 = .ok (.getfield 93, 3) := by decide +kernel
theorem d_MO_plan_134 : decode c_MO_plan 134 = .ok (.if_icmp .le 8, 3) := by decide +kernel
theorem d_MO_plan_137 : decode c_MO_plan 137 = .ok (.aload_n 0, 1) := by decide +kernel
theorem d_MO_plan_138 : decode c_MO_plan 138 = .ok (.iload_n 1, 1) := by decide +kernel
theorem d_MO_plan_139 : decode c_MO_plan 139 = .ok (.invokevirtual 132, 3) := by decide +kernel
theorem d_MO_plan_142 : decode c_MO_plan 142 = .ok (.iinc 1 1, 3) := by decide +kernel
theorem d_MO_plan_145 : decode c_MO_plan 145 = .ok (.goto (-38), 3) := by decide +kernel
theorem d_MO_plan_148 : decode c_MO_plan 148 = .ok (.aload_n 0, 1) := by decide +kernel
theorem d_MO_plan_149 : decode c_MO_plan 149 = .ok (.iconst 1, 1) := by decide +kernel
theorem d_MO_plan_150 : decode c_MO_plan 150 = .ok (.invokevirtual 138, 3) := by decide +kernel
theorem d_MO_plan_153 : decode c_MO_plan 153 = .ok (.return_, 1) := by decide +kernel
theorem d_MO_ran_0 : decode c_MO_ran 0 = .ok (.aload_n 0, 1) := by decide +kernel
theorem d_MO_ran_1 : decode c_MO_ran 1 = .ok (.getfield 35, 3) := by decide +kernel
theorem d_MO_ran_4 : decode c_MO_ran 4 = .ok (.iload_n 1, 1) := by decide +kernel
theorem d_MO_ran_5 : decode c_MO_ran 5 = .ok (.iaload, 1) := by decide +kernel
theorem d_MO_ran_6 : decode c_MO_ran 6 = .ok (.iconst 1, 1) := by decide +kernel
theorem d_MO_ran_7 : decode c_MO_ran 7 = .ok (.if_icmp .eq 23, 3) := by decide +kernel
theorem d_MO_ran_10 : decode c_MO_ran 10 = .ok (.aload_n 0, 1) := by decide +kernel
theorem d_MO_ran_11 : decode c_MO_ran 11 = .ok (.getfield 35, 3) := by decide +kernel
theorem d_MO_ran_14 : decode c_MO_ran 14 = .ok (.iload_n 1, 1) := by decide +kernel
theorem d_MO_ran_15 : decode c_MO_ran 15 = .ok (.iaload, 1) := by decide +kernel
theorem d_MO_ran_16 : decode c_MO_ran 16 = .ok (.iconst 2, 1) := by decide +kernel
theorem d_MO_ran_17 : decode c_MO_ran 17 = .ok (.if_icmp .eq 13, 3) := by decide +kernel
theorem d_MO_ran_20 : decode c_MO_ran 20 = .ok (.aload_n 0, 1) := by decide +kernel
theorem d_MO_ran_21 : decode c_MO_ran 21 = .ok (.getfield 35, 3) := by decide +kernel
theorem d_MO_ran_24 : decode c_MO_ran 24 = .ok (.iload_n 1, 1) := by decide +kernel
theorem d_MO_ran_25 : decode c_MO_ran 25 = .ok (.iaload, 1) := by decide +kernel
theorem d_MO_ran_26 : decode c_MO_ran 26 = .ok (.iconst 5, 1) := by decide +kernel
theorem d_MO_ran_27 : decode c_MO_ran 27 = .ok (.if_icmp .ne 7, 3) := by decide +kernel
theorem d_MO_ran_30 : decode c_MO_ran 30 = .ok (.iconst 1, 1) := by decide +kernel
theorem d_MO_ran_31 : decode c_MO_ran 31 = .ok (.goto 4, 3) := by decide +kernel
theorem d_MO_ran_34 : decode c_MO_ran 34 = .ok (.iconst 0, 1) := by decide +kernel
theorem d_MO_ran_35 : decode c_MO_ran 35 = .ok (.ireturn, 1) := by decide +kernel
theorem d_MO_segmentsOf_0 : decode c_MO_segmentsOf 0 = .ok (.iconst 0, 1) := by decide +kernel
theorem d_MO_segmentsOf_1 : decode c_MO_segmentsOf 1 = .ok (.istore_n 2, 1) := by decide +kernel
theorem d_MO_segmentsOf_2 : decode c_MO_segmentsOf 2 = .ok (.iconst 0, 1) := by decide +kernel
theorem d_MO_segmentsOf_3 : decode c_MO_segmentsOf 3 = .ok (.istore_n 3, 1) := by decide +kernel
theorem d_MO_segmentsOf_4 : decode c_MO_segmentsOf 4 = .ok (.iload_n 3, 1) := by decide +kernel
theorem d_MO_segmentsOf_5 : decode c_MO_segmentsOf 5 = .ok (.bipush 25, 2) := by decide +kernel
theorem d_MO_segmentsOf_7 : decode c_MO_segmentsOf 7 = .ok (.if_icmp .ge 31, 3) := by decide +kernel
theorem d_MO_segmentsOf_10 : decode c_MO_segmentsOf 10 = .ok (.aload_n 0, 1) := by decide +kernel
theorem d_MO_segmentsOf_11 : decode c_MO_segmentsOf 11 = .ok (.getfield 63, 3) := by decide +kernel
theorem d_MO_segmentsOf_14 : decode c_MO_segmentsOf 14 = .ok (.bipush 25, 2) := by decide +kernel
theorem d_MO_segmentsOf_16 : decode c_MO_segmentsOf 16 = .ok (.iload_n 1, 1) := by decide +kernel
theorem d_MO_segmentsOf_17 : decode c_MO_segmentsOf 17 = .ok (.imul, 1) := by decide +kernel
theorem d_MO_segmentsOf_18 : decode c_MO_segmentsOf 18 = .ok (.iload_n 3, 1) := by decide +kernel
theorem d_MO_segmentsOf_19 : decode c_MO_segmentsOf 19 = .ok (.iadd, 1) := by decide +kernel
theorem d_MO_segmentsOf_20 : decode c_MO_segmentsOf 20 = .ok (.baload, 1) := by decide +kernel
theorem d_MO_segmentsOf_21 : decode c_MO_segmentsOf 21 = .ok (.ifCond .eq 9, 3) := by decide +kernel
theorem d_MO_segmentsOf_24 : decode c_MO_segmentsOf 24 = .ok (.iload_n 2, 1) := by decide +kernel
theorem d_MO_segmentsOf_25 : decode c_MO_segmentsOf 25 = .ok (.iconst 1, 1) := by decide +kernel
theorem d_MO_segmentsOf_26 : decode c_MO_segmentsOf 26 = .ok (.iadd, 1) := by decide +kernel
theorem d_MO_segmentsOf_27 : decode c_MO_segmentsOf 27 = .ok (.goto 4, 3) := by decide +kernel
theorem d_MO_segmentsOf_30 : decode c_MO_segmentsOf 30 = .ok (.iload_n 2, 1) := by decide +kernel
theorem d_MO_segmentsOf_31 : decode c_MO_segmentsOf 31 = .ok (.istore_n 2, 1) := by decide +kernel
theorem d_MO_segmentsOf_32 : decode c_MO_segmentsOf 32 = .ok (.iinc 3 1, 3) := by decide +kernel
theorem d_MO_segmentsOf_35 : decode c_MO_segmentsOf 35 = .ok (.goto (-31), 3) := by decide +kernel
theorem d_MO_segmentsOf_38 : decode c_MO_segmentsOf 38 = .ok (.iload_n 2, 1) := by decide +kernel
theorem d_MO_segmentsOf_39 : decode c_MO_segmentsOf 39 = .ok (.ireturn, 1) := by decide +kernel
set_option maxHeartbeats 8000000 in
set_option maxRecDepth 100000 in
theorem t_MO_plan (l : Launch) (dC : Nat → ClassId) (dI : Nat → Nat → Nat) (g0 : Nat) (ad : Nat → Nat) (kI kZ : ClassId) (sc : Nat → Int32) (ia : Nat → Nat → Int32) (sz Bd : Nat) (T : Int) (N : Nat) (hI : MI T N sc ia) : Met l y_MO_plan w_MO_plan ({ frames := 4, cells := 0, slots := 0, locals := 96 }) (frP (dC, dI) (MOW g0 ad kI kZ sc ia) (MOT kI kZ) sz Bd [.ref g0]) (tQ (dC, dI) (mW g0 ad kI kZ) (va_A (MOW g0 ad kI kZ sc ia) sz) vN (fun r u => same [21] sc u.1 ∧ same [22, 23, 24, 25, 26, 27] ia u.2 ∧ QP N u.1 u.2)) 0 0 (va_A (MOW g0 ad kI kZ sc ia) sz) := by
  refine Met.ofW (cc := c_MO_plan) (maxL := 3) (ret := none) (by decide) rfl ?_
  intro p e s m args below meth c s₁ B hml hv
  obtain ⟨rfl, ⟨hsz, hBs⟩, hP, hK, hD0, hV⟩ := hv
  have hx := B.exec
  have hb := B.bytes
  have hr := B.returns
  have ht : ∀ w ∈ tb_, w.before _ s = true := fun w h => atoms_spec (ws := w_MO_plan) B.pre w (List.mem_cons_of_mem _ h)
  have hown : s.vm.findClass R_MO = some m.cls := findClass_of_methodNamed B.named
  have hlocks := B.notSynchronized
  subst hsz
  have hD := hD0.self (sz := s.heap.size)
  have hAB : ∀ q, va_A (MOW g0 ad kI kZ sc ia) s.heap.size q → Bd ≤ q := fr_AB hD0 hBs
  generalize hAe : va_A (MOW g0 ad kI kZ sc ia) s.heap.size = A at hD hAB ⊢
  have hA : ∀ q : Nat, s.heap.size ≤ q → A q := fun q h => by rw [← hAe]; exact Or.inr h
  have hS : va_S A s.heap s.heap [] := va_S.rf
  have hs : same [21] sc sc := same.rf
  have hi : same [22, 23, 24, 25, 26, 27] ia ia := same.rf
  have hP : va_P (dC, dI) cls_ (MOW g0 ad kI kZ sc ia) s.heap := hP
  have hl := lv_entry ([.ref g0]) (n := 3) (Nat.le_of_ble_eq_true rfl)
  rw [lg_entry_eq]
  generalize (lg_sl ([.ref g0]) ++ List.replicate (3 - (lg_sl ([.ref g0])).length) Slot.unset).toArray = ls at hl ⊢
  have hl : lv_has ls 3 [(0, .ref g0)] := hl
  have e4 := hI.e4
  have hN := hI.hN
  have hT := hI.T
  refine lv_aload_n hx hb d_MO_plan_0 rfl (lv_at hl 0 rfl) ?_
  refine lv_iconst (v := 0) hx hb d_MO_plan_1 (by decide) ?_
  refine va_put (D := (dC, dI)) (ci := 5) (v := .int 0) (ty := .int) (C := R_MO) (T := F_MO) (N := 30) hx hb ht in_MO t_MO t_MO_ok n_MO hown hK hP hD hS 0 rfl rfl 21 (by decide) (ht _ tb_652) (fun _ h9 => h9) rfl (by decide +kernel) rfl rfl (Nat.le_of_ble_eq_true rfl) d_MO_plan_2 (fun H locs hP hD hS => ?_)
  have hP : va_P (dC, dI) cls_ (MOW g0 ad kI kZ (va_up sc 21 0) ia) H := hP
  have hD : va_D A (MOW g0 ad kI kZ (va_up sc 21 0) ia) := hD
  obtain ⟨sc1, esc1⟩ : ∃ q9_, q9_ = va_up sc 21 0 := ⟨_, rfl⟩
  rw [← esc1] at hP hD
  have hs : same [21] sc sc1 := by rw [esc1]; exact hs.up (by decide)
  refine lv_iconst (v := 0) hx hb d_MO_plan_5 (by decide) ?_
  refine lv_istore_n hx hb d_MO_plan_6 rfl hl (by decide) rfl (fun ls hl => ?_)
  have hl : lv_has ls 3 [(1, .int 0), (0, .ref g0)] := hl
  have J_7 : ∀ (n_7 : Nat) (k : Nat) (sc_7 : Nat → Int32) (ia_7 : Nat → Nat → Int32) (H : Heap) (locs : List Loc) (ls : Array Slot), N - k < n_7 → k ≤ N → same [21] sc sc_7 → same [22, 23, 24, 25, 26, 27] ia ia_7 → QP k sc_7 ia_7 → sc_7 21 = nI (ct 1 (ia 11) k) → lv_has ls 3 [(1, .int (nI k)), (0, .ref g0)] → va_P (dC, dI) cls_ (MOW g0 ad kI kZ sc_7 ia_7) H → va_D A (MOW g0 ad kI kZ sc_7 ia_7) → va_S A s.heap H locs → W p l e (headSpec w_MO_plan ({ frames := 4, cells := 0, slots := 0, locals := 96 })).room s m (([.ref g0] : List Value).toArray) below meth c H locs 0 0 (MQ below (tQ (dC, dI) (mW g0 ad kI kZ) A vN (fun r u => same [21] sc u.1 ∧ same [22, 23, 24, 25, 26, 27] ia u.2 ∧ QP N u.1 u.2)) (([.ref g0] : List Value).toArray) s 0 0 A) (F0 m 7 ls []) := by
    intro n_7
    induction n_7 with
    | zero => intro k sc_7 ia_7 H locs ls hmu hc7_0 hs hi hQ7 hK7 hl hP hD hS; exact absurd hmu (by omega)
    | succ n_7 ih_7 =>
      intro k sc_7 ia_7 H locs ls hmu hc7_0 hs hi hQ7 hK7 hl hP hD hS
      have hs7 := hs
      have hi7 := hi
      refine lv_iload_n hx hb d_MO_plan_7 rfl (lv_at hl 0 rfl) ?_
      refine lv_aload_n hx hb d_MO_plan_8 rfl (lv_at hl 1 rfl) ?_
      refine va_get (D := (dC, dI)) (ci := 5) (v := .int (sc_7 4)) (C := R_MO) (T := F_MO) (N := 30) hx hb ht in_MO hown hK hP 0 rfl rfl 4 (by decide) (ht _ tb_635) (fun _ h9 => h9) rfl d_MO_plan_9 ?_
      refine W.eq (g2 := F0 m 12 ls [.int (nI N), .int (nI k)]) (by rw [show sc_7 4 = nI N from (hs 4 (by decide)).trans e4]) ?_
      refine lv_icmp_ge (tgt := 100) hx hb d_MO_plan_12 (by decide) (fun h12_1 => ?_) (fun h12_1 => ?_)
      · have h12_1 := h12_1
        have i12_1 := ti_le h12_1
        (try rw [nI_toInt (show k < 2 ^ 31 by omega)] at i12_1)
        (try rw [nI_toInt (show N < 2 ^ 31 by omega)] at i12_1)
        refine lv_aload_n hx hb d_MO_plan_100 rfl (lv_at hl 1 rfl) ?_
        refine lv_iconst (v := 0) hx hb d_MO_plan_101 (by decide) ?_
        refine t_call (u0 := (sc_7, ia_7)) (va_runV (C := R_MO) (As := [.int 0]) (rest := []) ⟨hx, hb, hml, hown, ht⟩ (t_MO_round0 l dC dI g0 ad kI kZ sc_7 ia_7 H.size Bd T N (hI.same (hs.wk (by decide)) (hi.wk (by decide))) (ct 1 (ia 11) N) (by rw [hK7, show k = N by omega]) (by rw [hi 11 (by decide)]; have h_oc := oc_ct (ia 11) N; have h_12 := hI.2.2.2.2.2.1; have h_ck := ct_le (v := 1) (f := ia 11) (show k ≤ N by omega); omega) (fun i h => hQ7 i (by omega))) (cwV 1 ht (gV tb_764 tb_766 ts_28 tb_5 tb_767) rfl rfl rfl (by decide +kernel) ⟨Nat.le_of_ble_eq_true rfl, Nat.le_of_ble_eq_true rfl⟩) ⟨frP_blind, va_recv (q := (R_MO, F_MO, 30)) hK hP rfl (show (MOW g0 ad kI kZ sc_7 ia_7 : va_W)[0]? = some _ from rfl), fr_pre hP hK hD hAB hBs hS hV⟩ rfl rfl hl.1 rfl (lv_room (Nat.le_of_ble_eq_true rfl)) d_MO_plan_102 ⟨Nat.le_of_ble_eq_true rfl, Nat.le_of_ble_eq_true rfl⟩) hD hS hA (fun r2 u H locs hu hP hD hS => ?_)
        obtain ⟨sc3, ia4⟩ := u
        obtain ⟨hu2_0, hu2_1, hu2_2, hu2_3⟩ := hu
        have hu2_0 : same [21] sc_7 sc3 := hu2_0
        have hu2_1 : same [22, 23, 24, 25, 26, 27] ia_7 ia4 := hu2_1
        have hu2_2 : (∃ Kz, Kz ≤ (ct 1 (ia 11) N) + 2 * ct 0 (ia_7 11) N ∧ sc3 21 = nI Kz) := hu2_2
        have hu2_3 : QP N sc3 ia4 := hu2_3
        have hP : va_P (dC, dI) cls_ (MOW g0 ad kI kZ sc3 ia4) H := hP
        have hD : va_D A (MOW g0 ad kI kZ sc3 ia4) := hD
        have hs : same [21] sc sc3 := hs.tr (hu2_0.wk (by decide))
        have hi : same [22, 23, 24, 25, 26, 27] ia ia4 := hi.tr (hu2_1.wk (by decide))
        refine W.eq (g2 := F0 m 105 ls []) rfl ?_
        refine W.cs (cells' := 0) (slots' := 0) rfl rfl ?_
        rw [hi7 11 (by decide)] at hu2_2
        obtain ⟨Kr, hKra, hKrb⟩ := hu2_2
        refine lv_iconst (v := 0) hx hb d_MO_plan_105 (by decide) ?_
        refine lv_istore_n hx hb d_MO_plan_106 rfl hl (by decide) rfl (fun ls hl => ?_)
        have hl : lv_has ls 3 [(1, .int 0), (0, .ref g0)] := hl
        have J_107 : ∀ (n_107 : Nat) (k : Nat) (K3 : Nat) (sc_107 : Nat → Int32) (ia_107 : Nat → Nat → Int32) (H : Heap) (locs : List Loc) (ls : Array Slot), N - k < n_107 → k ≤ N → K3 ≤ ct 1 (ia 11) N + 2 * ct 0 (ia 11) N + ct 1 (ia 11) k → same [21] sc sc_107 → same [22, 23, 24, 25, 26, 27] ia ia_107 → QP N sc_107 ia_107 → sc_107 21 = nI K3 → lv_has ls 3 [(1, .int (nI k)), (0, .ref g0)] → va_P (dC, dI) cls_ (MOW g0 ad kI kZ sc_107 ia_107) H → va_D A (MOW g0 ad kI kZ sc_107 ia_107) → va_S A s.heap H locs → W p l e (headSpec w_MO_plan ({ frames := 4, cells := 0, slots := 0, locals := 96 })).room s m (([.ref g0] : List Value).toArray) below meth c H locs 0 0 (MQ below (tQ (dC, dI) (mW g0 ad kI kZ) A vN (fun r u => same [21] sc u.1 ∧ same [22, 23, 24, 25, 26, 27] ia u.2 ∧ QP N u.1 u.2)) (([.ref g0] : List Value).toArray) s 0 0 A) (F0 m 107 ls []) := by
          intro n_107
          induction n_107 with
          | zero => intro k K3 sc_107 ia_107 H locs ls hmu hc107_0 hc107_1 hs hi hQ3 hK3 hl hP hD hS; exact absurd hmu (by omega)
          | succ n_107 ih_107 =>
            intro k K3 sc_107 ia_107 H locs ls hmu hc107_0 hc107_1 hs hi hQ3 hK3 hl hP hD hS
            refine lv_iload_n hx hb d_MO_plan_107 rfl (lv_at hl 0 rfl) ?_
            refine lv_aload_n hx hb d_MO_plan_108 rfl (lv_at hl 1 rfl) ?_
            refine va_get (D := (dC, dI)) (ci := 5) (v := .int (sc_107 4)) (C := R_MO) (T := F_MO) (N := 30) hx hb ht in_MO hown hK hP 0 rfl rfl 4 (by decide) (ht _ tb_635) (fun _ h9 => h9) rfl d_MO_plan_109 ?_
            refine W.eq (g2 := F0 m 112 ls [.int (nI N), .int (nI k)]) (by rw [show sc_107 4 = nI N from (hs 4 (by decide)).trans e4]) ?_
            refine lv_icmp_ge (tgt := 148) hx hb d_MO_plan_112 (by decide) (fun h112_2 => ?_) (fun h112_2 => ?_)
            · have h112_2 := h112_2
              have i112_2 := ti_le h112_2
              (try rw [nI_toInt (show k < 2 ^ 31 by omega)] at i112_2)
              (try rw [nI_toInt (show N < 2 ^ 31 by omega)] at i112_2)
              refine lv_aload_n hx hb d_MO_plan_148 rfl (lv_at hl 1 rfl) ?_
              refine lv_iconst (v := 1) hx hb d_MO_plan_149 (by decide) ?_
              refine t_call (u0 := (sc_107, ia_107)) (va_runV (C := R_MO) (As := [.int 1]) (rest := []) ⟨hx, hb, hml, hown, ht⟩ (t_MO_round1 l dC dI g0 ad kI kZ sc_107 ia_107 H.size Bd T N (hI.same (hs.wk (by decide)) (hi.wk (by decide))) K3 hK3 (by rw [hi 11 (by decide)]; have h_oc := oc_ct (ia 11) N; have h_12 := hI.2.2.2.2.2.1; have h_ck := ct_le (v := 1) (f := ia 11) (show k ≤ N by omega); omega) hQ3) (cwV 1 ht (gV tb_764 tb_766 ts_28 tb_5 tb_767) rfl rfl rfl (by decide +kernel) ⟨Nat.le_of_ble_eq_true rfl, Nat.le_of_ble_eq_true rfl⟩) ⟨frP_blind, va_recv (q := (R_MO, F_MO, 30)) hK hP rfl (show (MOW g0 ad kI kZ sc_107 ia_107 : va_W)[0]? = some _ from rfl), fr_pre hP hK hD hAB hBs hS hV⟩ rfl rfl hl.1 rfl (lv_room (Nat.le_of_ble_eq_true rfl)) d_MO_plan_150 ⟨Nat.le_of_ble_eq_true rfl, Nat.le_of_ble_eq_true rfl⟩) hD hS hA (fun r5 u H locs hu hP hD hS => ?_)
              obtain ⟨sc6, ia7⟩ := u
              obtain ⟨hu5_0, hu5_1, hu5_2, hu5_3⟩ := hu
              have hu5_0 : same [21] sc_107 sc6 := hu5_0
              have hu5_1 : same [22, 23, 24, 25, 26, 27] ia_107 ia7 := hu5_1
              have hu5_2 : (∃ Kz, Kz ≤ K3 + 2 * ct 0 (ia_107 11) N ∧ sc6 21 = nI Kz) := hu5_2
              have hu5_3 : QP N sc6 ia7 := hu5_3
              have hP : va_P (dC, dI) cls_ (MOW g0 ad kI kZ sc6 ia7) H := hP
              have hD : va_D A (MOW g0 ad kI kZ sc6 ia7) := hD
              have hs : same [21] sc sc6 := hs.tr (hu5_0.wk (by decide))
              have hi : same [22, 23, 24, 25, 26, 27] ia ia7 := hi.tr (hu5_1.wk (by decide))
              refine W.eq (g2 := F0 m 153 ls []) rfl ?_
              refine W.cs (cells' := 0) (slots' := 0) rfl rfl ?_
              have hz0 : QP N sc6 ia7 := hu5_3
              exact W.vret hx hb hr (fun t ht9 hW => ⟨⟨(), (sc6, ia7), rfl, ⟨hs, hi, hz0⟩, by rw [ht9]; exact hP, hD⟩, hS.F ht9⟩) hS.2.2 d_MO_plan_153
            · have h112_2 := h112_2
              have i112_2 := ti_nle h112_2
              (try rw [nI_toInt (show k < 2 ^ 31 by omega)] at i112_2)
              (try rw [nI_toInt (show N < 2 ^ 31 by omega)] at i112_2)
              refine lv_aload_n hx hb d_MO_plan_115 rfl (lv_at hl 1 rfl) ?_
              refine va_get (D := (dC, dI)) (ci := 5) (v := .ref (ad 11)) (C := R_MO) (T := F_MO) (N := 30) hx hb ht in_MO hown hK hP 0 rfl rfl 11 (by decide) (ht _ tb_642) (fun _ h9 => h9) rfl d_MO_plan_116 ?_
              refine lv_iload_n hx hb d_MO_plan_119 rfl (lv_at hl 0 rfl) ?_
              refine va_iald hx hb hK hP 8 0 rfl rfl (vp_in_nI (show k < 40 by omega) (by decide)) d_MO_plan_120 ?_
              refine W.eq (g2 := F0 m 121 ls [.int (ia 11 k)]) (by rw [nI_clamp (show k < 2 ^ 31 by omega), hi 11 (by decide)]) ?_
              refine lv_iconst (v := 1) hx hb d_MO_plan_121 (by decide) ?_
              refine lv_icmp_ne (tgt := 142) hx hb d_MO_plan_122 (by decide) (fun h122_3 => ?_) (fun h122_3 => ?_)
              · have h122_3 := h122_3
                have i122_3 := ti_ne h122_3
                (try rw [l_1] at i122_3)
                refine lv_iinc (k := 0) (v := nI (k + 1)) hx hb d_MO_plan_142 hl rfl ((nI_succ k).symm) (by decide) rfl (fun ls hl => ?_)
                have hl : lv_has ls 3 [(1, .int (nI (k + 1))), (0, .ref g0)] := hl
                refine lv_goto (tgt := 107) hx hb d_MO_plan_145 (by decide) ?_
                have e9 := ct_le (v := 1) (f := ia 11) (show k ≤ k + 1 by omega)
                exact ih_107 (k + 1) K3 sc_107 ia_107 H _ ls (by omega) (by omega) (by omega) hs hi (hQ3) (hK3) hl hP hD hS
              · have h122_3 := h122_3
                have i122_3 := ti_eq h122_3
                (try rw [l_1] at i122_3)
                refine lv_aload_n hx hb d_MO_plan_125 rfl (lv_at hl 1 rfl) ?_
                refine lv_iload_n hx hb d_MO_plan_126 rfl (lv_at hl 0 rfl) ?_
                refine r_call (va_runV (C := R_MO) (As := [.int (nI k)]) (rest := []) ⟨hx, hb, hml, hown, ht⟩ (t_MO_coreEnd l dC dI g0 ad kI kZ sc_107 ia_107 k (show k < 40 by omega)) (cwV 1 ht (gV tb_756 tb_758 ts_26 tb_5 tb_759) rfl rfl rfl (by decide +kernel) ⟨Nat.le_of_ble_eq_true rfl, Nat.le_of_ble_eq_true rfl⟩) ⟨rdP_blind, va_recv (q := (R_MO, F_MO, 30)) hK hP rfl (show (MOW g0 ad kI kZ sc_107 ia_107 : va_W)[0]? = some _ from rfl), rd_pre hP hK⟩ rfl rfl hl.1 rfl (lv_room (Nat.le_of_ble_eq_true rfl)) d_MO_plan_127 ⟨Nat.le_of_ble_eq_true rfl, Nat.le_of_ble_eq_true rfl⟩) (fun r8 hu => ?_)
                have hu8_0 := hu
                have hu8_0 : r8 = ia_107 6 k + ia_107 7 k := hu8_0
                refine W.eq (g2 := F0 m 130 ls [.int r8]) rfl ?_
                rw [hi 6 (by decide)] at hu8_0
                rw [hi 7 (by decide)] at hu8_0
                refine lv_aload_n hx hb d_MO_plan_130 rfl (lv_at hl 1 rfl) ?_
                refine va_get (D := (dC, dI)) (ci := 5) (v := .int (sc_107 1)) (C := R_MO) (T := F_MO) (N := 30) hx hb ht in_MO hown hK hP 0 rfl rfl 1 (by decide) (ht _ tb_632) (fun _ h9 => h9) rfl d_MO_plan_131 ?_
                refine W.eq (g2 := F0 m 134 ls [.int (sc 1), .int r8]) (by rw [hs 1 (by decide)]) ?_
                refine lv_icmp_le (tgt := 142) hx hb d_MO_plan_134 (by decide) (fun h134_4 => ?_) (fun h134_4 => ?_)
                · have h134_4 := h134_4
                  have i134_4 := ti_le h134_4
                  refine lv_iinc (k := 0) (v := nI (k + 1)) hx hb d_MO_plan_142 hl rfl ((nI_succ k).symm) (by decide) rfl (fun ls hl => ?_)
                  have hl : lv_has ls 3 [(1, .int (nI (k + 1))), (0, .ref g0)] := hl
                  refine lv_goto (tgt := 107) hx hb d_MO_plan_145 (by decide) ?_
                  have e9 := ct_le (v := 1) (f := ia 11) (show k ≤ k + 1 by omega)
                  exact ih_107 (k + 1) K3 sc_107 ia_107 H _ ls (by omega) (by omega) (by omega) hs hi (hQ3) (hK3) hl hP hD hS
                · have h134_4 := h134_4
                  have i134_4 := ti_nle h134_4
                  refine lv_aload_n hx hb d_MO_plan_137 rfl (lv_at hl 1 rfl) ?_
                  refine lv_iload_n hx hb d_MO_plan_138 rfl (lv_at hl 0 rfl) ?_
                  have hcore := hI.core (show k < N by omega)
                  rw [hu8_0, hcore] at i134_4
                  refine t_call (u0 := (sc_107, ia_107)) (va_runV (C := R_MO) (As := [.int (nI k)]) (rest := []) ⟨hx, hb, hml, hown, ht⟩ (t_MO_planAfter l dC dI g0 ad kI kZ sc_107 ia_107 H.size Bd T N (hI.same (hs.wk (by decide)) (hi.wk (by decide))) K3 hK3 (by have h_oc := oc_ct (ia 11) N; have h_12 := hI.2.2.2.2.2.1; have h_ck := ct_le (v := 1) (f := ia 11) (show k ≤ N by omega); omega) k (by omega) (fun _ => by rw [hs 1 (by decide), hi 6 (by decide), hi 7 (by decide)]; omega) hQ3) (cwV 1 ht (gV tb_780 tb_782 ts_32 tb_5 tb_783) rfl rfl rfl (by decide +kernel) ⟨Nat.le_of_ble_eq_true rfl, Nat.le_of_ble_eq_true rfl⟩) ⟨frP_blind, va_recv (q := (R_MO, F_MO, 30)) hK hP rfl (show (MOW g0 ad kI kZ sc_107 ia_107 : va_W)[0]? = some _ from rfl), fr_pre hP hK hD hAB hBs hS hV⟩ rfl rfl hl.1 rfl (lv_room (Nat.le_of_ble_eq_true rfl)) d_MO_plan_139 ⟨Nat.le_of_ble_eq_true rfl, Nat.le_of_ble_eq_true rfl⟩) hD hS hA (fun r9 u H locs hu hP hD hS => ?_)
                  obtain ⟨sc10, ia11⟩ := u
                  obtain ⟨hu9_0, hu9_1, hu9_2, hu9_3⟩ := hu
                  have hu9_0 : same [21] sc_107 sc10 := hu9_0
                  have hu9_1 : same [22, 23, 24, 25, 26, 27] ia_107 ia11 := hu9_1
                  have hu9_2 : (∃ Kz, K3 ≤ Kz ∧ Kz ≤ K3 + 1 ∧ sc10 21 = nI Kz) := hu9_2
                  have hu9_3 : QP N sc10 ia11 := hu9_3
                  have hP : va_P (dC, dI) cls_ (MOW g0 ad kI kZ sc10 ia11) H := hP
                  have hD : va_D A (MOW g0 ad kI kZ sc10 ia11) := hD
                  have hs : same [21] sc sc10 := hs.tr (hu9_0.wk (by decide))
                  have hi : same [22, 23, 24, 25, 26, 27] ia ia11 := hi.tr (hu9_1.wk (by decide))
                  refine W.eq (g2 := F0 m 142 ls []) rfl ?_
                  refine W.cs (cells' := 0) (slots' := 0) rfl rfl ?_
                  obtain ⟨K4, hK4a, hK4b, hK4c⟩ := hu9_2
                  refine lv_iinc (k := 0) (v := nI (k + 1)) hx hb d_MO_plan_142 hl rfl ((nI_succ k).symm) (by decide) rfl (fun ls hl => ?_)
                  have hl : lv_has ls 3 [(1, .int (nI (k + 1))), (0, .ref g0)] := hl
                  refine lv_goto (tgt := 107) hx hb d_MO_plan_145 (by decide) ?_
                  have e9 : ct 1 (ia 11) (k + 1) = ct 1 (ia 11) k + 1 := by show _ + _ = _; rw [if_pos h122_3]
                  exact ih_107 (k + 1) K4 sc10 ia11 H _ ls (by omega) (by omega) (by omega) hs hi (hu9_3) (hK4c) hl hP hD hS
        have hl := lv_sub hl [0, 1] (l' := [(1, .int 0), (0, .ref g0)]) rfl
        have hl : lv_has ls 3 [(1, .int (nI 0)), (0, .ref g0)] := hl
        exact J_107 ((N - 0) + 1) 0 Kr sc3 ia4 H _ ls (by omega) (by omega) (by omega) hs hi (hu2_3) (hKrb) hl hP hD hS
      · have h12_1 := h12_1
        have i12_1 := ti_nle h12_1
        (try rw [nI_toInt (show k < 2 ^ 31 by omega)] at i12_1)
        (try rw [nI_toInt (show N < 2 ^ 31 by omega)] at i12_1)
        refine lv_aload_n hx hb d_MO_plan_15 rfl (lv_at hl 1 rfl) ?_
        refine va_get (D := (dC, dI)) (ci := 5) (v := .ref (ad 25)) (C := R_MO) (T := F_MO) (N := 30) hx hb ht in_MO hown hK hP 0 rfl rfl 25 (by decide) (ht _ tb_656) (fun _ h9 => h9) rfl d_MO_plan_16 ?_
        refine lv_iload_n hx hb d_MO_plan_19 rfl (lv_at hl 0 rfl) ?_
        refine lv_iconst (v := 0) hx hb d_MO_plan_20 (by decide) ?_
        refine va_zast hx hb hK hP hD hS 21 1 rfl rfl (vp_in_nI (show k < 40 by omega) (by decide)) d_MO_plan_21 (fun H locs hP hD hS => ?_)
        rw [nI_clamp (show k < 2 ^ 31 by omega)] at hP hD
        have hP : va_P (dC, dI) cls_ (MOW g0 ad kI kZ sc_7 (va_up ia_7 25 (upd (ia_7 25) k (vp_nar .boolean 0)))) H := hP
        have hD : va_D A (MOW g0 ad kI kZ sc_7 (va_up ia_7 25 (upd (ia_7 25) k (vp_nar .boolean 0)))) := hD
        obtain ⟨ia12, eia12⟩ : ∃ q9_, q9_ = va_up ia_7 25 (upd (ia_7 25) k (vp_nar .boolean 0)) := ⟨_, rfl⟩
        rw [← eia12] at hP hD
        have hi : same [22, 23, 24, 25, 26, 27] ia ia12 := by rw [eia12]; exact hi.up (by decide)
        refine lv_aload_n hx hb d_MO_plan_22 rfl (lv_at hl 1 rfl) ?_
        refine va_get (D := (dC, dI)) (ci := 5) (v := .ref (ad 11)) (C := R_MO) (T := F_MO) (N := 30) hx hb ht in_MO hown hK hP 0 rfl rfl 11 (by decide) (ht _ tb_642) (fun _ h9 => h9) rfl d_MO_plan_23 ?_
        refine lv_iload_n hx hb d_MO_plan_26 rfl (lv_at hl 0 rfl) ?_
        refine va_iald hx hb hK hP 8 0 rfl rfl (vp_in_nI (show k < 40 by omega) (by decide)) d_MO_plan_27 ?_
        refine W.eq (g2 := F0 m 28 ls [.int (ia 11 k)]) (by rw [nI_clamp (show k < 2 ^ 31 by omega), hi 11 (by decide)]) ?_
        refine lv_iconst (v := 1) hx hb d_MO_plan_28 (by decide) ?_
        refine lv_icmp_ne (tgt := 94) hx hb d_MO_plan_29 (by decide) (fun h29_5 => ?_) (fun h29_5 => ?_)
        · have h29_5 := h29_5
          have i29_5 := ti_ne h29_5
          (try rw [l_1] at i29_5)
          refine lv_iinc (k := 0) (v := nI (k + 1)) hx hb d_MO_plan_94 hl rfl ((nI_succ k).symm) (by decide) rfl (fun ls hl => ?_)
          have hl : lv_has ls 3 [(1, .int (nI (k + 1))), (0, .ref g0)] := hl
          refine lv_goto (tgt := 7) hx hb d_MO_plan_97 (by decide) ?_
          have f25 : ia12 25 k = vp_nar .boolean 0 := (show ia12 25 k = vp_nar .boolean 0 by rw [eia12]; show upd (ia_7 25) k (vp_nar .boolean 0) k = _; exact pk_us)
          have f27 : ia12 27 k = ia_7 27 k := (show ia12 27 k = ia_7 27 k by rw [eia12]; rfl)
          have hq : qP (sc 1).toInt (ia 6 k) (ia 7 k) (ia 11 k) (ia12 25 k) (ia12 26 k) (ia12 27 k) := by
            exact ⟨fun q => absurd q h29_5, fun _ q => absurd (f25.trans (by decide)) q⟩
          exact ih_7 (k + 1) sc_7 ia12 H _ ls (by omega) (by omega) hs hi (QP.step (j := k) hQ7 (fun i h h9 => by omega) ((hs 1 (by decide)).trans (hs7 1 (by decide)).symm) ((hi 6 (by decide)).trans (hi7 6 (by decide)).symm) ((hi 7 (by decide)).trans (hi7 7 (by decide)).symm) ((hi 11 (by decide)).trans (hi7 11 (by decide)).symm) (fun i h9 => (show ia12 25 i = ia_7 25 i by rw [eia12]; show upd (ia_7 25) k (vp_nar .boolean 0) i = _; exact pk_un h9)) (fun i h9 => (show ia12 26 i = ia_7 26 i by rw [eia12]; rfl)) (fun i h9 => (show ia12 27 i = ia_7 27 i by rw [eia12]; rfl)) (fun _ => by rw [hs7 1 (by decide), hi7 6 (by decide), hi7 7 (by decide), hi7 11 (by decide)]; exact hq)) (by rw [hK7]; show nI _ = nI (ct 1 (ia 11) k + (if ia 11 k = 1 then 1 else 0)); rw [if_neg h29_5, Nat.add_zero]) hl hP hD hS
        · have h29_5 := h29_5
          have i29_5 := ti_eq h29_5
          (try rw [l_1] at i29_5)
          refine lv_aload_n hx hb d_MO_plan_32 rfl (lv_at hl 1 rfl) ?_
          refine lv_iload_n hx hb d_MO_plan_33 rfl (lv_at hl 0 rfl) ?_
          refine r_call (va_runV (C := R_MO) (As := [.int (nI k)]) (rest := []) ⟨hx, hb, hml, hown, ht⟩ (t_MO_coreEnd l dC dI g0 ad kI kZ sc_7 ia12 k (show k < 40 by omega)) (cwV 1 ht (gV tb_756 tb_758 ts_26 tb_5 tb_759) rfl rfl rfl (by decide +kernel) ⟨Nat.le_of_ble_eq_true rfl, Nat.le_of_ble_eq_true rfl⟩) ⟨rdP_blind, va_recv (q := (R_MO, F_MO, 30)) hK hP rfl (show (MOW g0 ad kI kZ sc_7 ia12 : va_W)[0]? = some _ from rfl), rd_pre hP hK⟩ rfl rfl hl.1 rfl (lv_room (Nat.le_of_ble_eq_true rfl)) d_MO_plan_34 ⟨Nat.le_of_ble_eq_true rfl, Nat.le_of_ble_eq_true rfl⟩) (fun r13 hu => ?_)
          have hu13_0 := hu
          have hu13_0 : r13 = ia12 6 k + ia12 7 k := hu13_0
          refine W.eq (g2 := F0 m 37 ls [.int r13]) rfl ?_
          rw [hi 6 (by decide)] at hu13_0
          rw [hi 7 (by decide)] at hu13_0
          refine lv_aload_n hx hb d_MO_plan_37 rfl (lv_at hl 1 rfl) ?_
          refine va_get (D := (dC, dI)) (ci := 5) (v := .int (sc_7 1)) (C := R_MO) (T := F_MO) (N := 30) hx hb ht in_MO hown hK hP 0 rfl rfl 1 (by decide) (ht _ tb_632) (fun _ h9 => h9) rfl d_MO_plan_38 ?_
          refine W.eq (g2 := F0 m 41 ls [.int (sc 1), .int r13]) (by rw [hs 1 (by decide)]) ?_
          refine lv_icmp_le (tgt := 48) hx hb d_MO_plan_41 (by decide) (fun h41_6 => ?_) (fun h41_6 => ?_)
          · have h41_6 := h41_6
            have i41_6 := ti_le h41_6
            refine lv_iconst (v := 0) hx hb d_MO_plan_48 (by decide) ?_
            refine lv_istore_n hx hb d_MO_plan_49 rfl hl (by decide) rfl (fun ls hl => ?_)
            have hl : lv_has ls 3 [(2, .int 0), (1, .int (nI k)), (0, .ref g0)] := hl
            refine lv_aload_n hx hb d_MO_plan_50 rfl (lv_at hl 2 rfl) ?_
            refine va_get (D := (dC, dI)) (ci := 5) (v := .ref (ad 27)) (C := R_MO) (T := F_MO) (N := 30) hx hb ht in_MO hown hK hP 0 rfl rfl 27 (by decide) (ht _ tb_658) (fun _ h9 => h9) rfl d_MO_plan_51 ?_
            refine lv_iload_n hx hb d_MO_plan_54 rfl (lv_at hl 1 rfl) ?_
            refine lv_iload_n hx hb d_MO_plan_55 rfl (lv_at hl 0 rfl) ?_
            refine lv_if_eq (tgt := 67) hx hb d_MO_plan_56 (by decide) (fun _ => ?_) (fun h9 => absurd (by decide) h9)
            refine lv_aload_n hx hb d_MO_plan_67 rfl (lv_at hl 2 rfl) ?_
            refine va_get (D := (dC, dI)) (ci := 5) (v := .ref (ad 13)) (C := R_MO) (T := F_MO) (N := 30) hx hb ht in_MO hown hK hP 0 rfl rfl 13 (by decide) (ht _ tb_644) (fun _ h9 => h9) rfl d_MO_plan_68 ?_
            refine lv_iload_n hx hb d_MO_plan_71 rfl (lv_at hl 1 rfl) ?_
            refine va_iald hx hb hK hP 10 0 rfl rfl (vp_in_nI (show k < 40 by omega) (by decide)) d_MO_plan_72 ?_
            refine W.eq (g2 := F0 m 73 ls [.int (ia 13 k), .int (nI k), .ref (ad 27)]) (by rw [nI_clamp (show k < 2 ^ 31 by omega), hi 13 (by decide)]) ?_
            refine va_iast hx hb hK hP hD hS 23 0 rfl rfl (vp_in_nI (show k < 40 by omega) (by decide)) d_MO_plan_73 (fun H locs hP hD hS => ?_)
            rw [nI_clamp (show k < 2 ^ 31 by omega)] at hP hD
            have hP : va_P (dC, dI) cls_ (MOW g0 ad kI kZ sc_7 (va_up ia12 27 (upd (ia12 27) k (ia 13 k)))) H := hP
            have hD : va_D A (MOW g0 ad kI kZ sc_7 (va_up ia12 27 (upd (ia12 27) k (ia 13 k)))) := hD
            obtain ⟨ia14, eia14⟩ : ∃ q9_, q9_ = va_up ia12 27 (upd (ia12 27) k (ia 13 k)) := ⟨_, rfl⟩
            rw [← eia14] at hP hD
            have hi : same [22, 23, 24, 25, 26, 27] ia ia14 := by rw [eia14]; exact hi.up (by decide)
            refine lv_aload_n hx hb d_MO_plan_74 rfl (lv_at hl 2 rfl) ?_
            refine lv_aload_n hx hb d_MO_plan_75 rfl (lv_at hl 2 rfl) ?_
            refine va_get (D := (dC, dI)) (ci := 5) (v := .ref (ad 5)) (C := R_MO) (T := F_MO) (N := 30) hx hb ht in_MO hown hK hP 0 rfl rfl 5 (by decide) (ht _ tb_636) (fun _ h9 => h9) rfl d_MO_plan_76 ?_
            refine lv_iload_n hx hb d_MO_plan_79 rfl (lv_at hl 1 rfl) ?_
            refine va_iald hx hb hK hP 2 0 rfl rfl (vp_in_nI (show k < 40 by omega) (by decide)) d_MO_plan_80 ?_
            refine W.eq (g2 := F0 m 81 ls [.int (ia 5 k), .ref g0]) (by rw [nI_clamp (show k < 2 ^ 31 by omega), hi 5 (by decide)]) ?_
            refine lv_aload_n hx hb d_MO_plan_81 rfl (lv_at hl 2 rfl) ?_
            refine va_get (D := (dC, dI)) (ci := 5) (v := .int (sc_7 1)) (C := R_MO) (T := F_MO) (N := 30) hx hb ht in_MO hown hK hP 0 rfl rfl 1 (by decide) (ht _ tb_632) (fun _ h9 => h9) rfl d_MO_plan_82 ?_
            refine W.eq (g2 := F0 m 85 ls [.int (sc 1), .int (ia 5 k), .ref g0]) (by rw [hs 1 (by decide)]) ?_
            refine lv_aload_n hx hb d_MO_plan_85 rfl (lv_at hl 2 rfl) ?_
            refine va_get (D := (dC, dI)) (ci := 5) (v := .ref (ad 27)) (C := R_MO) (T := F_MO) (N := 30) hx hb ht in_MO hown hK hP 0 rfl rfl 27 (by decide) (ht _ tb_658) (fun _ h9 => h9) rfl d_MO_plan_86 ?_
            refine lv_iload_n hx hb d_MO_plan_89 rfl (lv_at hl 1 rfl) ?_
            refine va_iald hx hb hK hP 23 0 rfl rfl (vp_in_nI (show k < 40 by omega) (by decide)) d_MO_plan_90 ?_
            refine W.eq (g2 := F0 m 91 ls [.int (ia 13 k), .int (sc 1), .int (ia 5 k), .ref g0]) (by rw [nI_clamp (show k < 2 ^ 31 by omega), (show ia14 27 k = ia 13 k by rw [eia14]; show upd (ia12 27) k (ia 13 k) k = _; exact pk_us)]) ?_
            refine t_call (u0 := (sc_7, ia14)) (va_runV (C := R_MO) (As := [.int (ia 5 k), .int (sc 1), .int (ia 13 k)]) (rest := []) ⟨hx, hb, hml, hown, ht⟩ (t_MO_take l dC dI g0 ad kI kZ sc_7 ia14 H.size Bd (ct 1 (ia 11) k) hK7 (by have h_oc := oc_ct (ia 11) N; have h_12 := hI.2.2.2.2.2.1; have h_ck := ct_le (v := 1) (f := ia 11) (show k ≤ N by omega); omega) (ia 5 k) (sc 1) (ia 13 k)) (cwV 3 ht (gV tb_760 tb_762 ts_27 tb_5 tb_763) rfl rfl rfl (by decide +kernel) ⟨Nat.le_of_ble_eq_true rfl, Nat.le_of_ble_eq_true rfl⟩) ⟨frP_blind, va_recv (q := (R_MO, F_MO, 30)) hK hP rfl (show (MOW g0 ad kI kZ sc_7 ia14 : va_W)[0]? = some _ from rfl), fr_pre hP hK hD hAB hBs hS hV⟩ rfl rfl hl.1 rfl (lv_room (Nat.le_of_ble_eq_true rfl)) d_MO_plan_91 ⟨Nat.le_of_ble_eq_true rfl, Nat.le_of_ble_eq_true rfl⟩) hD hS hA (fun r15 u H locs hu hP hD hS => ?_)
            obtain ⟨sc16, ia17⟩ := u
            obtain ⟨hu15_0, hu15_1, hu15_2⟩ := hu
            have hu15_0 : same [21] sc_7 sc16 := hu15_0
            have hu15_1 : same [22, 23, 24] ia14 ia17 := hu15_1
            have hu15_2 : sc16 21 = nI ((ct 1 (ia 11) k) + 1) := hu15_2
            have hP : va_P (dC, dI) cls_ (MOW g0 ad kI kZ sc16 ia17) H := hP
            have hD : va_D A (MOW g0 ad kI kZ sc16 ia17) := hD
            have hs : same [21] sc sc16 := hs.tr (hu15_0.wk (by decide))
            have hi : same [22, 23, 24, 25, 26, 27] ia ia17 := hi.tr (hu15_1.wk (by decide))
            refine W.eq (g2 := F0 m 94 ls []) rfl ?_
            refine W.cs (cells' := 0) (slots' := 0) rfl rfl ?_
            refine lv_iinc (k := 1) (v := nI (k + 1)) hx hb d_MO_plan_94 hl rfl ((nI_succ k).symm) (by decide) rfl (fun ls hl => ?_)
            have hl : lv_has ls 3 [(1, .int (nI (k + 1))), (2, .int 0), (0, .ref g0)] := hl
            refine lv_goto (tgt := 7) hx hb d_MO_plan_97 (by decide) ?_
            have hl := lv_sub hl [0, 2] (l' := [(1, .int (nI (k + 1))), (0, .ref g0)]) rfl
            have f25 : ia17 25 k = vp_nar .boolean 0 := (((congrFun (hu15_1 25 (by decide)) k)).trans (show ia14 25 k = ia12 25 k by rw [eia14]; rfl)).trans (show ia12 25 k = vp_nar .boolean 0 by rw [eia12]; show upd (ia_7 25) k (vp_nar .boolean 0) k = _; exact pk_us)
            have f27 : ia17 27 k = ia 13 k := ((congrFun (hu15_1 27 (by decide)) k)).trans (show ia14 27 k = ia 13 k by rw [eia14]; show upd (ia12 27) k (ia 13 k) k = _; exact pk_us)
            have hq : qP (sc 1).toInt (ia 6 k) (ia 7 k) (ia 11 k) (ia17 25 k) (ia17 26 k) (ia17 27 k) := by
              have hcore := hI.core (show k < N by omega)
              obtain ⟨-, m1, m2, -, -, m3⟩ := hI.at (show k < N by omega)
              have m4 := m3 h29_5
              exact ⟨fun _ => by rw [f27]; omega, fun q => absurd (q.symm.trans h29_5) (by decide)⟩
            exact ih_7 (k + 1) sc16 ia17 H _ ls (by omega) (by omega) hs hi (QP.step (j := k) hQ7 (fun i h h9 => by omega) ((hs 1 (by decide)).trans (hs7 1 (by decide)).symm) ((hi 6 (by decide)).trans (hi7 6 (by decide)).symm) ((hi 7 (by decide)).trans (hi7 7 (by decide)).symm) ((hi 11 (by decide)).trans (hi7 11 (by decide)).symm) (fun i h9 => (((congrFun (hu15_1 25 (by decide)) i)).trans (show ia14 25 i = ia12 25 i by rw [eia14]; rfl)).trans (show ia12 25 i = ia_7 25 i by rw [eia12]; show upd (ia_7 25) k (vp_nar .boolean 0) i = _; exact pk_un h9)) (fun i h9 => (((congrFun (hu15_1 26 (by decide)) i)).trans (show ia14 26 i = ia12 26 i by rw [eia14]; rfl)).trans (show ia12 26 i = ia_7 26 i by rw [eia12]; rfl)) (fun i h9 => (((congrFun (hu15_1 27 (by decide)) i)).trans (show ia14 27 i = ia12 27 i by rw [eia14]; show upd (ia12 27) k (ia 13 k) i = _; exact pk_un h9)).trans (show ia12 27 i = ia_7 27 i by rw [eia12]; rfl)) (fun _ => by rw [hs7 1 (by decide), hi7 6 (by decide), hi7 7 (by decide), hi7 11 (by decide)]; exact hq)) (by rw [hu15_2]; show nI _ = nI (ct 1 (ia 11) k + (if ia 11 k = 1 then 1 else 0)); rw [if_pos h29_5]) hl hP hD hS
          · have h41_6 := h41_6
            have i41_6 := ti_nle h41_6
            refine lv_iconst (v := 1) hx hb d_MO_plan_44 (by decide) ?_
            refine lv_goto (tgt := 49) hx hb d_MO_plan_45 (by decide) ?_
            refine lv_istore_n hx hb d_MO_plan_49 rfl hl (by decide) rfl (fun ls hl => ?_)
            have hl : lv_has ls 3 [(2, .int 1), (1, .int (nI k)), (0, .ref g0)] := hl
            refine lv_aload_n hx hb d_MO_plan_50 rfl (lv_at hl 2 rfl) ?_
            refine va_get (D := (dC, dI)) (ci := 5) (v := .ref (ad 27)) (C := R_MO) (T := F_MO) (N := 30) hx hb ht in_MO hown hK hP 0 rfl rfl 27 (by decide) (ht _ tb_658) (fun _ h9 => h9) rfl d_MO_plan_51 ?_
            refine lv_iload_n hx hb d_MO_plan_54 rfl (lv_at hl 1 rfl) ?_
            refine lv_iload_n hx hb d_MO_plan_55 rfl (lv_at hl 0 rfl) ?_
            refine lv_if_eq (tgt := 67) hx hb d_MO_plan_56 (by decide) (fun h9 => absurd h9 (by decide)) (fun _ => ?_)
            refine lv_aload_n hx hb d_MO_plan_59 rfl (lv_at hl 2 rfl) ?_
            refine lv_iload_n hx hb d_MO_plan_60 rfl (lv_at hl 1 rfl) ?_
            refine r_call (va_runV (C := R_MO) (As := [.int (nI k)]) (rest := [.int (nI k), .ref (ad 27)]) ⟨hx, hb, hml, hown, ht⟩ (t_MO_coreEnd l dC dI g0 ad kI kZ sc_7 ia12 k (show k < 40 by omega)) (cwV 1 ht (gV tb_756 tb_758 ts_26 tb_5 tb_759) rfl rfl rfl (by decide +kernel) ⟨Nat.le_of_ble_eq_true rfl, Nat.le_of_ble_eq_true rfl⟩) ⟨rdP_blind, va_recv (q := (R_MO, F_MO, 30)) hK hP rfl (show (MOW g0 ad kI kZ sc_7 ia12 : va_W)[0]? = some _ from rfl), rd_pre hP hK⟩ rfl rfl hl.1 rfl (lv_room (Nat.le_of_ble_eq_true rfl)) d_MO_plan_61 ⟨Nat.le_of_ble_eq_true rfl, Nat.le_of_ble_eq_true rfl⟩) (fun r18 hu => ?_)
            have hu18_0 := hu
            have hu18_0 : r18 = ia12 6 k + ia12 7 k := hu18_0
            refine W.eq (g2 := F0 m 64 ls [.int r18, .int (nI k), .ref (ad 27)]) rfl ?_
            rw [hi 6 (by decide)] at hu18_0
            rw [hi 7 (by decide)] at hu18_0
            refine lv_goto (tgt := 73) hx hb d_MO_plan_64 (by decide) ?_
            refine va_iast hx hb hK hP hD hS 23 0 rfl rfl (vp_in_nI (show k < 40 by omega) (by decide)) d_MO_plan_73 (fun H locs hP hD hS => ?_)
            rw [nI_clamp (show k < 2 ^ 31 by omega)] at hP hD
            have hP : va_P (dC, dI) cls_ (MOW g0 ad kI kZ sc_7 (va_up ia12 27 (upd (ia12 27) k r18))) H := hP
            have hD : va_D A (MOW g0 ad kI kZ sc_7 (va_up ia12 27 (upd (ia12 27) k r18))) := hD
            obtain ⟨ia19, eia19⟩ : ∃ q9_, q9_ = va_up ia12 27 (upd (ia12 27) k r18) := ⟨_, rfl⟩
            rw [← eia19] at hP hD
            have hi : same [22, 23, 24, 25, 26, 27] ia ia19 := by rw [eia19]; exact hi.up (by decide)
            refine lv_aload_n hx hb d_MO_plan_74 rfl (lv_at hl 2 rfl) ?_
            refine lv_aload_n hx hb d_MO_plan_75 rfl (lv_at hl 2 rfl) ?_
            refine va_get (D := (dC, dI)) (ci := 5) (v := .ref (ad 5)) (C := R_MO) (T := F_MO) (N := 30) hx hb ht in_MO hown hK hP 0 rfl rfl 5 (by decide) (ht _ tb_636) (fun _ h9 => h9) rfl d_MO_plan_76 ?_
            refine lv_iload_n hx hb d_MO_plan_79 rfl (lv_at hl 1 rfl) ?_
            refine va_iald hx hb hK hP 2 0 rfl rfl (vp_in_nI (show k < 40 by omega) (by decide)) d_MO_plan_80 ?_
            refine W.eq (g2 := F0 m 81 ls [.int (ia 5 k), .ref g0]) (by rw [nI_clamp (show k < 2 ^ 31 by omega), hi 5 (by decide)]) ?_
            refine lv_aload_n hx hb d_MO_plan_81 rfl (lv_at hl 2 rfl) ?_
            refine va_get (D := (dC, dI)) (ci := 5) (v := .int (sc_7 1)) (C := R_MO) (T := F_MO) (N := 30) hx hb ht in_MO hown hK hP 0 rfl rfl 1 (by decide) (ht _ tb_632) (fun _ h9 => h9) rfl d_MO_plan_82 ?_
            refine W.eq (g2 := F0 m 85 ls [.int (sc 1), .int (ia 5 k), .ref g0]) (by rw [hs 1 (by decide)]) ?_
            refine lv_aload_n hx hb d_MO_plan_85 rfl (lv_at hl 2 rfl) ?_
            refine va_get (D := (dC, dI)) (ci := 5) (v := .ref (ad 27)) (C := R_MO) (T := F_MO) (N := 30) hx hb ht in_MO hown hK hP 0 rfl rfl 27 (by decide) (ht _ tb_658) (fun _ h9 => h9) rfl d_MO_plan_86 ?_
            refine lv_iload_n hx hb d_MO_plan_89 rfl (lv_at hl 1 rfl) ?_
            refine va_iald hx hb hK hP 23 0 rfl rfl (vp_in_nI (show k < 40 by omega) (by decide)) d_MO_plan_90 ?_
            refine W.eq (g2 := F0 m 91 ls [.int r18, .int (sc 1), .int (ia 5 k), .ref g0]) (by rw [nI_clamp (show k < 2 ^ 31 by omega), (show ia19 27 k = r18 by rw [eia19]; show upd (ia12 27) k r18 k = _; exact pk_us)]) ?_
            refine t_call (u0 := (sc_7, ia19)) (va_runV (C := R_MO) (As := [.int (ia 5 k), .int (sc 1), .int r18]) (rest := []) ⟨hx, hb, hml, hown, ht⟩ (t_MO_take l dC dI g0 ad kI kZ sc_7 ia19 H.size Bd (ct 1 (ia 11) k) hK7 (by have h_oc := oc_ct (ia 11) N; have h_12 := hI.2.2.2.2.2.1; have h_ck := ct_le (v := 1) (f := ia 11) (show k ≤ N by omega); omega) (ia 5 k) (sc 1) r18) (cwV 3 ht (gV tb_760 tb_762 ts_27 tb_5 tb_763) rfl rfl rfl (by decide +kernel) ⟨Nat.le_of_ble_eq_true rfl, Nat.le_of_ble_eq_true rfl⟩) ⟨frP_blind, va_recv (q := (R_MO, F_MO, 30)) hK hP rfl (show (MOW g0 ad kI kZ sc_7 ia19 : va_W)[0]? = some _ from rfl), fr_pre hP hK hD hAB hBs hS hV⟩ rfl rfl hl.1 rfl (lv_room (Nat.le_of_ble_eq_true rfl)) d_MO_plan_91 ⟨Nat.le_of_ble_eq_true rfl, Nat.le_of_ble_eq_true rfl⟩) hD hS hA (fun r20 u H locs hu hP hD hS => ?_)
            obtain ⟨sc21, ia22⟩ := u
            obtain ⟨hu20_0, hu20_1, hu20_2⟩ := hu
            have hu20_0 : same [21] sc_7 sc21 := hu20_0
            have hu20_1 : same [22, 23, 24] ia19 ia22 := hu20_1
            have hu20_2 : sc21 21 = nI ((ct 1 (ia 11) k) + 1) := hu20_2
            have hP : va_P (dC, dI) cls_ (MOW g0 ad kI kZ sc21 ia22) H := hP
            have hD : va_D A (MOW g0 ad kI kZ sc21 ia22) := hD
            have hs : same [21] sc sc21 := hs.tr (hu20_0.wk (by decide))
            have hi : same [22, 23, 24, 25, 26, 27] ia ia22 := hi.tr (hu20_1.wk (by decide))
            refine W.eq (g2 := F0 m 94 ls []) rfl ?_
            refine W.cs (cells' := 0) (slots' := 0) rfl rfl ?_
            refine lv_iinc (k := 1) (v := nI (k + 1)) hx hb d_MO_plan_94 hl rfl ((nI_succ k).symm) (by decide) rfl (fun ls hl => ?_)
            have hl : lv_has ls 3 [(1, .int (nI (k + 1))), (2, .int 1), (0, .ref g0)] := hl
            refine lv_goto (tgt := 7) hx hb d_MO_plan_97 (by decide) ?_
            have hl := lv_sub hl [0, 2] (l' := [(1, .int (nI (k + 1))), (0, .ref g0)]) rfl
            have f25 : ia22 25 k = vp_nar .boolean 0 := (((congrFun (hu20_1 25 (by decide)) k)).trans (show ia19 25 k = ia12 25 k by rw [eia19]; rfl)).trans (show ia12 25 k = vp_nar .boolean 0 by rw [eia12]; show upd (ia_7 25) k (vp_nar .boolean 0) k = _; exact pk_us)
            have f27 : ia22 27 k = r18 := ((congrFun (hu20_1 27 (by decide)) k)).trans (show ia19 27 k = r18 by rw [eia19]; show upd (ia12 27) k r18 k = _; exact pk_us)
            have hq : qP (sc 1).toInt (ia 6 k) (ia 7 k) (ia 11 k) (ia22 25 k) (ia22 26 k) (ia22 27 k) := by
              have hcore := hI.core (show k < N by omega)
              obtain ⟨-, m1, m2, -, -, m3⟩ := hI.at (show k < N by omega)
              have m4 := m3 h29_5
              rw [hu13_0, hcore] at i41_6
              exact ⟨fun _ => by rw [f27, hu18_0, hcore]; omega, fun q => absurd (q.symm.trans h29_5) (by decide)⟩
            exact ih_7 (k + 1) sc21 ia22 H _ ls (by omega) (by omega) hs hi (QP.step (j := k) hQ7 (fun i h h9 => by omega) ((hs 1 (by decide)).trans (hs7 1 (by decide)).symm) ((hi 6 (by decide)).trans (hi7 6 (by decide)).symm) ((hi 7 (by decide)).trans (hi7 7 (by decide)).symm) ((hi 11 (by decide)).trans (hi7 11 (by decide)).symm) (fun i h9 => (((congrFun (hu20_1 25 (by decide)) i)).trans (show ia19 25 i = ia12 25 i by rw [eia19]; rfl)).trans (show ia12 25 i = ia_7 25 i by rw [eia12]; show upd (ia_7 25) k (vp_nar .boolean 0) i = _; exact pk_un h9)) (fun i h9 => (((congrFun (hu20_1 26 (by decide)) i)).trans (show ia19 26 i = ia12 26 i by rw [eia19]; rfl)).trans (show ia12 26 i = ia_7 26 i by rw [eia12]; rfl)) (fun i h9 => (((congrFun (hu20_1 27 (by decide)) i)).trans (show ia19 27 i = ia12 27 i by rw [eia19]; show upd (ia12 27) k r18 i = _; exact pk_un h9)).trans (show ia12 27 i = ia_7 27 i by rw [eia12]; rfl)) (fun _ => by rw [hs7 1 (by decide), hi7 6 (by decide), hi7 7 (by decide), hi7 11 (by decide)]; exact hq)) (by rw [hu20_2]; show nI _ = nI (ct 1 (ia 11) k + (if ia 11 k = 1 then 1 else 0)); rw [if_pos h29_5]) hl hP hD hS
  have hl := lv_sub hl [0, 1] (l' := [(1, .int 0), (0, .ref g0)]) rfl
  have hl : lv_has ls 3 [(1, .int (nI 0)), (0, .ref g0)] := hl
  exact J_7 ((N - 0) + 1) 0 sc1 ia H _ ls (by omega) (by omega) hs hi (fun i h => absurd h (by omega)) (by rw [esc1]; rfl) hl hP hD hS
set_option maxHeartbeats 8000000 in
set_option maxRecDepth 100000 in
theorem t_MO_ran (l : Launch) (dC : Nat → ClassId) (dI : Nat → Nat → Nat) (g0 : Nat) (ad : Nat → Nat) (kI kZ : ClassId) (sc : Nat → Int32) (ia : Nat → Nat → Int32) (j : Nat) (hj : j < 40) : Met l y_MO_ran w_MO_ran ({ frames := 0, cells := 0, slots := 0, locals := 0 }) (rdP (dC, dI) (MOW g0 ad kI kZ sc ia) (MOT kI kZ) [.ref g0, .int (nI j)]) (rQ vI (fun r => True)) 0 0 (fun _ => False) := by
  refine Met.ofW (cc := c_MO_ran) (maxL := 2) (ret := (some .boolean)) (by decide) rfl ?_
  intro p e s m args below meth c s₁ B hml hv
  obtain ⟨rfl, hP, hK⟩ := hv
  have hx := B.exec
  have hb := B.bytes
  have hr := B.returns
  have ht : ∀ w ∈ tb_, w.before _ s = true := fun w h => atoms_spec (ws := w_MO_ran) B.pre w (List.mem_cons_of_mem _ h)
  have hown : s.vm.findClass R_MO = some m.cls := findClass_of_methodNamed B.named
  have hlocks := B.notSynchronized
  have hP : va_P (dC, dI) cls_ (MOW g0 ad kI kZ sc ia) s.heap := hP
  have hl := lv_entry ([.ref g0, .int (nI j)]) (n := 2) (Nat.le_of_ble_eq_true rfl)
  rw [lg_entry_eq]
  generalize (lg_sl ([.ref g0, .int (nI j)]) ++ List.replicate (2 - (lg_sl ([.ref g0, .int (nI j)])).length) Slot.unset).toArray = ls at hl ⊢
  have hl : lv_has ls 2 [(0, .ref g0), (1, .int (nI j))] := hl
  refine lv_aload_n hx hb d_MO_ran_0 rfl (lv_at hl 0 rfl) ?_
  refine va_get (D := (dC, dI)) (ci := 5) (v := .ref (ad 11)) (C := R_MO) (T := F_MO) (N := 30) hx hb ht in_MO hown hK hP 0 rfl rfl 11 (by decide) (ht _ tb_642) (fun _ h9 => h9) rfl d_MO_ran_1 ?_
  refine lv_iload_n hx hb d_MO_ran_4 rfl (lv_at hl 1 rfl) ?_
  refine va_iald hx hb hK hP 8 0 rfl rfl (vp_in_nI (show j < 40 by omega) (by decide)) d_MO_ran_5 ?_
  refine W.eq (g2 := F0 m 6 ls [.int (ia 11 j)]) (by rw [nI_clamp (show j < 2 ^ 31 by omega)]) ?_
  refine lv_iconst (v := 1) hx hb d_MO_ran_6 (by decide) ?_
  refine lv_icmp_eq (tgt := 30) hx hb d_MO_ran_7 (by decide) (fun h7_1 => ?_) (fun h7_1 => ?_)
  · have h7_1 := h7_1
    have i7_1 := ti_eq h7_1
    (try rw [l_1] at i7_1)
    refine lv_iconst (v := 1) hx hb d_MO_ran_30 (by decide) ?_
    refine lv_goto (tgt := 35) hx hb d_MO_ran_31 (by decide) ?_
    exact W.zret (v := 1) hx hb hr rfl (fun t ht9 hW => ⟨1, rfl, trivial, ht9⟩) (fun q h => by cases h) d_MO_ran_35
  · have h7_1 := h7_1
    have i7_1 := ti_ne h7_1
    (try rw [l_1] at i7_1)
    refine lv_aload_n hx hb d_MO_ran_10 rfl (lv_at hl 0 rfl) ?_
    refine va_get (D := (dC, dI)) (ci := 5) (v := .ref (ad 11)) (C := R_MO) (T := F_MO) (N := 30) hx hb ht in_MO hown hK hP 0 rfl rfl 11 (by decide) (ht _ tb_642) (fun _ h9 => h9) rfl d_MO_ran_11 ?_
    refine lv_iload_n hx hb d_MO_ran_14 rfl (lv_at hl 1 rfl) ?_
    refine va_iald hx hb hK hP 8 0 rfl rfl (vp_in_nI (show j < 40 by omega) (by decide)) d_MO_ran_15 ?_
    refine W.eq (g2 := F0 m 16 ls [.int (ia 11 j)]) (by rw [nI_clamp (show j < 2 ^ 31 by omega)]) ?_
    refine lv_iconst (v := 2) hx hb d_MO_ran_16 (by decide) ?_
    refine lv_icmp_eq (tgt := 30) hx hb d_MO_ran_17 (by decide) (fun h17_2 => ?_) (fun h17_2 => ?_)
    · have h17_2 := h17_2
      have i17_2 := ti_eq h17_2
      (try rw [l_2] at i17_2)
      refine lv_iconst (v := 1) hx hb d_MO_ran_30 (by decide) ?_
      refine lv_goto (tgt := 35) hx hb d_MO_ran_31 (by decide) ?_
      exact W.zret (v := 1) hx hb hr rfl (fun t ht9 hW => ⟨1, rfl, trivial, ht9⟩) (fun q h => by cases h) d_MO_ran_35
    · have h17_2 := h17_2
      have i17_2 := ti_ne h17_2
      (try rw [l_2] at i17_2)
      refine lv_aload_n hx hb d_MO_ran_20 rfl (lv_at hl 0 rfl) ?_
      refine va_get (D := (dC, dI)) (ci := 5) (v := .ref (ad 11)) (C := R_MO) (T := F_MO) (N := 30) hx hb ht in_MO hown hK hP 0 rfl rfl 11 (by decide) (ht _ tb_642) (fun _ h9 => h9) rfl d_MO_ran_21 ?_
      refine lv_iload_n hx hb d_MO_ran_24 rfl (lv_at hl 1 rfl) ?_
      refine va_iald hx hb hK hP 8 0 rfl rfl (vp_in_nI (show j < 40 by omega) (by decide)) d_MO_ran_25 ?_
      refine W.eq (g2 := F0 m 26 ls [.int (ia 11 j)]) (by rw [nI_clamp (show j < 2 ^ 31 by omega)]) ?_
      refine lv_iconst (v := 5) hx hb d_MO_ran_26 (by decide) ?_
      refine lv_icmp_ne (tgt := 34) hx hb d_MO_ran_27 (by decide) (fun h27_3 => ?_) (fun h27_3 => ?_)
      · have h27_3 := h27_3
        have i27_3 := ti_ne h27_3
        (try rw [show (5 : Int32).toInt = 5 from by decide] at i27_3)
        refine lv_iconst (v := 0) hx hb d_MO_ran_34 (by decide) ?_
        exact W.zret (v := 0) hx hb hr rfl (fun t ht9 hW => ⟨0, rfl, trivial, ht9⟩) (fun q h => by cases h) d_MO_ran_35
      · have h27_3 := h27_3
        have i27_3 := ti_eq h27_3
        (try rw [show (5 : Int32).toInt = 5 from by decide] at i27_3)
        refine lv_iconst (v := 1) hx hb d_MO_ran_30 (by decide) ?_
        refine lv_goto (tgt := 35) hx hb d_MO_ran_31 (by decide) ?_
        exact W.zret (v := 1) hx hb hr rfl (fun t ht9 hW => ⟨1, rfl, trivial, ht9⟩) (fun q h => by cases h) d_MO_ran_35
set_option maxHeartbeats 8000000 in
set_option maxRecDepth 100000 in
theorem t_MO_isKept (l : Launch) (dC : Nat → ClassId) (dI : Nat → Nat → Nat) (g0 : Nat) (ad : Nat → Nat) (kI kZ : ClassId) (sc : Nat → Int32) (ia : Nat → Nat → Int32) (j : Nat) (hj : j < 40) : Met l y_MO_isKept w_MO_isKept ({ frames := 0, cells := 0, slots := 0, locals := 0 }) (rdP (dC, dI) (MOW g0 ad kI kZ sc ia) (MOT kI kZ) [.ref g0, .int (nI j)]) (rQ vI (fun r => True)) 0 0 (fun _ => False) := by
  refine Met.ofW (cc := c_MO_isKept) (maxL := 2) (ret := (some .boolean)) (by decide) rfl ?_
  intro p e s m args below meth c s₁ B hml hv
  obtain ⟨rfl, hP, hK⟩ := hv
  have hx := B.exec
  have hb := B.bytes
  have hr := B.returns
  have ht : ∀ w ∈ tb_, w.before _ s = true := fun w h => atoms_spec (ws := w_MO_isKept) B.pre w (List.mem_cons_of_mem _ h)
  have hown : s.vm.findClass R_MO = some m.cls := findClass_of_methodNamed B.named
  have hlocks := B.notSynchronized
  have hP : va_P (dC, dI) cls_ (MOW g0 ad kI kZ sc ia) s.heap := hP
  have hl := lv_entry ([.ref g0, .int (nI j)]) (n := 2) (Nat.le_of_ble_eq_true rfl)
  rw [lg_entry_eq]
  generalize (lg_sl ([.ref g0, .int (nI j)]) ++ List.replicate (2 - (lg_sl ([.ref g0, .int (nI j)])).length) Slot.unset).toArray = ls at hl ⊢
  have hl : lv_has ls 2 [(0, .ref g0), (1, .int (nI j))] := hl
  refine lv_aload_n hx hb d_MO_isKept_0 rfl (lv_at hl 0 rfl) ?_
  refine va_get (D := (dC, dI)) (ci := 5) (v := .ref (ad 11)) (C := R_MO) (T := F_MO) (N := 30) hx hb ht in_MO hown hK hP 0 rfl rfl 11 (by decide) (ht _ tb_642) (fun _ h9 => h9) rfl d_MO_isKept_1 ?_
  refine lv_iload_n hx hb d_MO_isKept_4 rfl (lv_at hl 1 rfl) ?_
  refine va_iald hx hb hK hP 8 0 rfl rfl (vp_in_nI (show j < 40 by omega) (by decide)) d_MO_isKept_5 ?_
  refine W.eq (g2 := F0 m 6 ls [.int (ia 11 j)]) (by rw [nI_clamp (show j < 2 ^ 31 by omega)]) ?_
  refine lv_iconst (v := 1) hx hb d_MO_isKept_6 (by decide) ?_
  refine lv_icmp_eq (tgt := 20) hx hb d_MO_isKept_7 (by decide) (fun h7_1 => ?_) (fun h7_1 => ?_)
  · have h7_1 := h7_1
    have i7_1 := ti_eq h7_1
    (try rw [l_1] at i7_1)
    refine lv_iconst (v := 1) hx hb d_MO_isKept_20 (by decide) ?_
    refine lv_goto (tgt := 25) hx hb d_MO_isKept_21 (by decide) ?_
    exact W.zret (v := 1) hx hb hr rfl (fun t ht9 hW => ⟨1, rfl, trivial, ht9⟩) (fun q h => by cases h) d_MO_isKept_25
  · have h7_1 := h7_1
    have i7_1 := ti_ne h7_1
    (try rw [l_1] at i7_1)
    refine lv_aload_n hx hb d_MO_isKept_10 rfl (lv_at hl 0 rfl) ?_
    refine va_get (D := (dC, dI)) (ci := 5) (v := .ref (ad 11)) (C := R_MO) (T := F_MO) (N := 30) hx hb ht in_MO hown hK hP 0 rfl rfl 11 (by decide) (ht _ tb_642) (fun _ h9 => h9) rfl d_MO_isKept_11 ?_
    refine lv_iload_n hx hb d_MO_isKept_14 rfl (lv_at hl 1 rfl) ?_
    refine va_iald hx hb hK hP 8 0 rfl rfl (vp_in_nI (show j < 40 by omega) (by decide)) d_MO_isKept_15 ?_
    refine W.eq (g2 := F0 m 16 ls [.int (ia 11 j)]) (by rw [nI_clamp (show j < 2 ^ 31 by omega)]) ?_
    refine lv_iconst (v := 2) hx hb d_MO_isKept_16 (by decide) ?_
    refine lv_icmp_ne (tgt := 24) hx hb d_MO_isKept_17 (by decide) (fun h17_2 => ?_) (fun h17_2 => ?_)
    · have h17_2 := h17_2
      have i17_2 := ti_ne h17_2
      (try rw [l_2] at i17_2)
      refine lv_iconst (v := 0) hx hb d_MO_isKept_24 (by decide) ?_
      exact W.zret (v := 0) hx hb hr rfl (fun t ht9 hW => ⟨0, rfl, trivial, ht9⟩) (fun q h => by cases h) d_MO_isKept_25
    · have h17_2 := h17_2
      have i17_2 := ti_eq h17_2
      (try rw [l_2] at i17_2)
      refine lv_iconst (v := 1) hx hb d_MO_isKept_20 (by decide) ?_
      refine lv_goto (tgt := 25) hx hb d_MO_isKept_21 (by decide) ?_
      exact W.zret (v := 1) hx hb hr rfl (fun t ht9 hW => ⟨1, rfl, trivial, ht9⟩) (fun q h => by cases h) d_MO_isKept_25
set_option maxHeartbeats 8000000 in
set_option maxRecDepth 100000 in
theorem t_MO_segmentsOf (l : Launch) (dC : Nat → ClassId) (dI : Nat → Nat → Nat) (g0 : Nat) (ad : Nat → Nat) (kI kZ : ClassId) (sc : Nat → Int32) (ia : Nat → Nat → Int32) (j : Nat) (hj : j < 40) : Met l y_MO_segmentsOf w_MO_segmentsOf ({ frames := 0, cells := 0, slots := 0, locals := 0 }) (rdP (dC, dI) (MOW g0 ad kI kZ sc ia) (MOT kI kZ) [.ref g0, .int (nI j)]) (rQ vI (fun r => True)) 0 0 (fun _ => False) := by
  refine Met.ofW (cc := c_MO_segmentsOf) (maxL := 4) (ret := (some .int)) (by decide) rfl ?_
  intro p e s m args below meth c s₁ B hml hv
  obtain ⟨rfl, hP, hK⟩ := hv
  have hx := B.exec
  have hb := B.bytes
  have hr := B.returns
  have ht : ∀ w ∈ tb_, w.before _ s = true := fun w h => atoms_spec (ws := w_MO_segmentsOf) B.pre w (List.mem_cons_of_mem _ h)
  have hown : s.vm.findClass R_MO = some m.cls := findClass_of_methodNamed B.named
  have hlocks := B.notSynchronized
  have hP : va_P (dC, dI) cls_ (MOW g0 ad kI kZ sc ia) s.heap := hP
  have hl := lv_entry ([.ref g0, .int (nI j)]) (n := 4) (Nat.le_of_ble_eq_true rfl)
  rw [lg_entry_eq]
  generalize (lg_sl ([.ref g0, .int (nI j)]) ++ List.replicate (4 - (lg_sl ([.ref g0, .int (nI j)])).length) Slot.unset).toArray = ls at hl ⊢
  have hl : lv_has ls 4 [(0, .ref g0), (1, .int (nI j))] := hl
  refine lv_iconst (v := 0) hx hb d_MO_segmentsOf_0 (by decide) ?_
  refine lv_istore_n hx hb d_MO_segmentsOf_1 rfl hl (by decide) rfl (fun ls hl => ?_)
  have hl : lv_has ls 4 [(2, .int 0), (0, .ref g0), (1, .int (nI j))] := hl
  refine lv_iconst (v := 0) hx hb d_MO_segmentsOf_2 (by decide) ?_
  refine lv_istore_n hx hb d_MO_segmentsOf_3 rfl hl (by decide) rfl (fun ls hl => ?_)
  have hl : lv_has ls 4 [(3, .int 0), (2, .int 0), (0, .ref g0), (1, .int (nI j))] := hl
  have J_4 : ∀ (n_4 : Nat) (k : Nat) (q : Int32)  (ls : Array Slot), 25 - k < n_4 → k ≤ 25 → lv_has ls 4 [(3, .int (nI k)), (2, .int q), (1, .int (nI j)), (0, .ref g0)] → W p l e (headSpec w_MO_segmentsOf ({ frames := 0, cells := 0, slots := 0, locals := 0 })).room s m (([.ref g0, .int (nI j)] : List Value).toArray) below meth c s.heap [] 0 0 (MQ below (rQ vI (fun r => True)) (([.ref g0, .int (nI j)] : List Value).toArray) s 0 0 (fun _ => False)) (F0 m 4 ls []) := by
    intro n_4
    induction n_4 with
    | zero => intro k q ls hmu hc4_0 hl; exact absurd hmu (by omega)
    | succ n_4 ih_4 =>
      intro k q ls hmu hc4_0 hl
      refine lv_iload_n hx hb d_MO_segmentsOf_4 rfl (lv_at hl 0 rfl) ?_
      refine lv_bipush (v := 25) hx hb d_MO_segmentsOf_5 (by decide) ?_
      refine lv_icmp_ge (tgt := 38) hx hb d_MO_segmentsOf_7 (by decide) (fun h7_1 => ?_) (fun h7_1 => ?_)
      · have h7_1 := h7_1
        have i7_1 := ti_le h7_1
        (try rw [nI_toInt (show k < 2 ^ 31 by omega)] at i7_1)
        (try rw [show (25 : Int32).toInt = 25 from by decide] at i7_1)
        refine lv_iload_n hx hb d_MO_segmentsOf_38 rfl (lv_at hl 1 rfl) ?_
        exact W.iret (v := q) hx hb hr (fun t ht9 hW => ⟨q, rfl, trivial, ht9⟩) (fun q h => by cases h) d_MO_segmentsOf_39
      · have h7_1 := h7_1
        have i7_1 := ti_nle h7_1
        (try rw [nI_toInt (show k < 2 ^ 31 by omega)] at i7_1)
        (try rw [show (25 : Int32).toInt = 25 from by decide] at i7_1)
        refine lv_aload_n hx hb d_MO_segmentsOf_10 rfl (lv_at hl 3 rfl) ?_
        refine va_get (D := (dC, dI)) (ci := 5) (v := .ref (ad 20)) (C := R_MO) (T := F_MO) (N := 30) hx hb ht in_MO hown hK hP 0 rfl rfl 20 (by decide) (ht _ tb_651) (fun _ h9 => h9) rfl d_MO_segmentsOf_11 ?_
        refine lv_bipush (v := 25) hx hb d_MO_segmentsOf_14 (by decide) ?_
        refine lv_iload_n hx hb d_MO_segmentsOf_16 rfl (lv_at hl 2 rfl) ?_
        refine lv_imul hx hb d_MO_segmentsOf_17 ?_
        refine lv_topi (fun v1 ev1 => ?_)
        obtain rfl : v1 = nI (25 * j) := ev1.trans (by rw [show (25 : Int32) = nI 25 from rfl, pk_mul])
        refine lv_iload_n hx hb d_MO_segmentsOf_18 rfl (lv_at hl 0 rfl) ?_
        refine lv_iadd hx hb d_MO_segmentsOf_19 ?_
        refine lv_topi (fun v2 ev2 => ?_)
        obtain rfl : v2 = nI ((25 * j) + k) := ev2.trans (by rw [nI_add])
        refine va_zald hx hb hK hP 17 1 rfl rfl (vp_in_nI (show (25 * j) + k < 1000 by omega) (by decide)) d_MO_segmentsOf_20 ?_
        refine W.eq (g2 := F0 m 21 ls [.int (ia 20 ((25 * j) + k))]) (by rw [nI_clamp (show (25 * j) + k < 2 ^ 31 by omega)]) ?_
        refine lv_if_eq (tgt := 30) hx hb d_MO_segmentsOf_21 (by decide) (fun h21_2 => ?_) (fun h21_2 => ?_)
        · have h21_2 := h21_2
          have i21_2 := ti_eq h21_2
          (try rw [l_0] at i21_2)
          refine lv_iload_n hx hb d_MO_segmentsOf_30 rfl (lv_at hl 1 rfl) ?_
          refine lv_istore_n hx hb d_MO_segmentsOf_31 rfl hl (by decide) rfl (fun ls hl => ?_)
          have hl : lv_has ls 4 [(2, .int q), (3, .int (nI k)), (1, .int (nI j)), (0, .ref g0)] := hl
          refine lv_iinc (k := 1) (v := nI (k + 1)) hx hb d_MO_segmentsOf_32 hl rfl ((nI_succ k).symm) (by decide) rfl (fun ls hl => ?_)
          have hl : lv_has ls 4 [(3, .int (nI (k + 1))), (2, .int q), (1, .int (nI j)), (0, .ref g0)] := hl
          refine lv_goto (tgt := 4) hx hb d_MO_segmentsOf_35 (by decide) ?_
          exact ih_4 (k + 1) q ls (by omega) (by omega) hl
        · have h21_2 := h21_2
          have i21_2 := ti_ne h21_2
          (try rw [l_0] at i21_2)
          refine lv_iload_n hx hb d_MO_segmentsOf_24 rfl (lv_at hl 1 rfl) ?_
          refine lv_iconst (v := 1) hx hb d_MO_segmentsOf_25 (by decide) ?_
          refine lv_iadd hx hb d_MO_segmentsOf_26 ?_
          refine lv_goto (tgt := 31) hx hb d_MO_segmentsOf_27 (by decide) ?_
          refine lv_istore_n hx hb d_MO_segmentsOf_31 rfl hl (by decide) rfl (fun ls hl => ?_)
          have hl : lv_has ls 4 [(2, .int (q + 1)), (3, .int (nI k)), (1, .int (nI j)), (0, .ref g0)] := hl
          refine lv_iinc (k := 1) (v := nI (k + 1)) hx hb d_MO_segmentsOf_32 hl rfl ((nI_succ k).symm) (by decide) rfl (fun ls hl => ?_)
          have hl : lv_has ls 4 [(3, .int (nI (k + 1))), (2, .int (q + 1)), (1, .int (nI j)), (0, .ref g0)] := hl
          refine lv_goto (tgt := 4) hx hb d_MO_segmentsOf_35 (by decide) ?_
          exact ih_4 (k + 1) (q + 1) ls (by omega) (by omega) hl
  have hl := lv_sub hl [0, 1, 3, 2] (l' := [(3, .int 0), (2, .int 0), (1, .int (nI j)), (0, .ref g0)]) rfl
  have hl : lv_has ls 4 [(3, .int (nI 0)), (2, .int 0), (1, .int (nI j)), (0, .ref g0)] := hl
  exact J_4 ((25 - 0) + 1) 0 0 ls (by omega) (by omega) hl
