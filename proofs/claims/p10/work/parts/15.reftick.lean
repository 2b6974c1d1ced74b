abbrev c_MO_begin : ByteArray := prog_7_method_28_code
abbrev y_MO_begin : MethodName := ⟨"TwinTunersModel", "begin", "()V"⟩
def w_MO_begin : List Cond := .code y_MO_begin c_MO_begin 2 none :: tb_
abbrev c_MO_end : ByteArray := prog_7_method_32_code
abbrev y_MO_end : MethodName := ⟨"TwinTunersModel", "end", "()V"⟩
def w_MO_end : List Cond := .code y_MO_end c_MO_end 2 none :: tb_
abbrev c_MO_tick : ByteArray := prog_7_method_33_code
abbrev y_MO_tick : MethodName := ⟨"TwinTunersModel", "tick", "()I"⟩
def w_MO_tick : List Cond := .code y_MO_tick c_MO_tick 2 (some .int) :: tb_
abbrev c_MO_ticks : ByteArray := prog_7_method_34_code
abbrev y_MO_ticks : MethodName := ⟨"TwinTunersModel", "ticks", "(I)I"⟩
def w_MO_ticks : List Cond := .code y_MO_ticks c_MO_ticks 5 (some .int) :: tb_
set_option maxRecDepth 100000 in
theorem tb_732 : (.methodLink "TwinTunersModel" 102 ⟨"TwinTunersModel", "refused", "(I)Z"⟩ : Cond) ∈ tb_ := tb_w 732 rfl rfl
set_option maxRecDepth 100000 in
theorem tb_734 : (.instanceMethod ⟨"TwinTunersModel", "refused", "(I)Z"⟩ : Cond) ∈ tb_ := tb_w 734 rfl rfl
set_option maxRecDepth 100000 in
theorem tb_752 : (.methodLink "TwinTunersModel" 141 ⟨"TwinTunersModel", "plan", "()V"⟩ : Cond) ∈ tb_ := tb_w 752 rfl rfl
set_option maxRecDepth 100000 in
theorem tb_754 : (.instanceMethod ⟨"TwinTunersModel", "plan", "()V"⟩ : Cond) ∈ tb_ := tb_w 754 rfl rfl
set_option maxRecDepth 100000 in
theorem tb_803 : (.code ⟨"TwinTunersModel", "tick", "()I"⟩ prog_7_method_33_code 2 (some .int) : Cond) ∈ tb_ := tb_w 803 rfl rfl
set_option maxRecDepth 100000 in
theorem tb_804 : (.methodLink "TwinTunersModel" 168 ⟨"TwinTunersModel", "begin", "()V"⟩ : Cond) ∈ tb_ := tb_w 804 rfl rfl
set_option maxRecDepth 100000 in
theorem tb_806 : (.instanceMethod ⟨"TwinTunersModel", "begin", "()V"⟩ : Cond) ∈ tb_ := tb_w 806 rfl rfl
set_option maxRecDepth 100000 in
theorem tb_807 : (.code ⟨"TwinTunersModel", "begin", "()V"⟩ prog_7_method_28_code 2 none : Cond) ∈ tb_ := tb_w 807 rfl rfl
set_option maxRecDepth 100000 in
theorem tb_808 : (.methodLink "TwinTunersModel" 171 ⟨"TwinTunersModel", "tuned", "()I"⟩ : Cond) ∈ tb_ := tb_w 808 rfl rfl
set_option maxRecDepth 100000 in
theorem tb_810 : (.instanceMethod ⟨"TwinTunersModel", "tuned", "()I"⟩ : Cond) ∈ tb_ := tb_w 810 rfl rfl
set_option maxRecDepth 100000 in
theorem tb_812 : (.methodLink "TwinTunersModel" 174 ⟨"TwinTunersModel", "recordAll", "()I"⟩ : Cond) ∈ tb_ := tb_w 812 rfl rfl
set_option maxRecDepth 100000 in
theorem tb_814 : (.instanceMethod ⟨"TwinTunersModel", "recordAll", "()I"⟩ : Cond) ∈ tb_ := tb_w 814 rfl rfl
set_option maxRecDepth 100000 in
theorem tb_840 : (.methodLink "TwinTunersModel" 177 ⟨"TwinTunersModel", "keepBack", "(I)V"⟩ : Cond) ∈ tb_ := tb_w 840 rfl rfl
set_option maxRecDepth 100000 in
theorem tb_842 : (.instanceMethod ⟨"TwinTunersModel", "keepBack", "(I)V"⟩ : Cond) ∈ tb_ := tb_w 842 rfl rfl
set_option maxRecDepth 100000 in
theorem tb_844 : (.methodLink "TwinTunersModel" 180 ⟨"TwinTunersModel", "end", "()V"⟩ : Cond) ∈ tb_ := tb_w 844 rfl rfl
set_option maxRecDepth 100000 in
theorem tb_846 : (.instanceMethod ⟨"TwinTunersModel", "end", "()V"⟩ : Cond) ∈ tb_ := tb_w 846 rfl rfl
set_option maxRecDepth 100000 in
theorem tb_847 : (.code ⟨"TwinTunersModel", "end", "()V"⟩ prog_7_method_32_code 2 none : Cond) ∈ tb_ := tb_w 847 rfl rfl
set_option maxRecDepth 100000 in
theorem tb_851 : (.code ⟨"TwinTunersModel", "ticks", "(I)I"⟩ prog_7_method_34_code 5 (some .int) : Cond) ∈ tb_ := tb_w 851 rfl rfl
theorem ts_23 : (.selects "TwinTunersModel" ⟨"TwinTunersModel", "refused", "(I)Z"⟩ ⟨"TwinTunersModel", "refused", "(I)Z"⟩ : Cond) ∈ tb_ := ts_w 23 rfl rfl
theorem ts_25 : (.selects "TwinTunersModel" ⟨"TwinTunersModel", "plan", "()V"⟩ ⟨"TwinTunersModel", "plan", "()V"⟩ : Cond) ∈ tb_ := ts_w 25 rfl rfl
theorem ts_35 : (.selects "TwinTunersModel" ⟨"TwinTunersModel", "begin", "()V"⟩ ⟨"TwinTunersModel", "begin", "()V"⟩ : Cond) ∈ tb_ := ts_w 35 rfl rfl
theorem ts_36 : (.selects "TwinTunersModel" ⟨"TwinTunersModel", "tuned", "()I"⟩ ⟨"TwinTunersModel", "tuned", "()I"⟩ : Cond) ∈ tb_ := ts_w 36 rfl rfl
theorem ts_37 : (.selects "TwinTunersModel" ⟨"TwinTunersModel", "recordAll", "()I"⟩ ⟨"TwinTunersModel", "recordAll", "()I"⟩ : Cond) ∈ tb_ := ts_w 37 rfl rfl
theorem ts_44 : (.selects "TwinTunersModel" ⟨"TwinTunersModel", "keepBack", "(I)V"⟩ ⟨"TwinTunersModel", "keepBack", "(I)V"⟩ : Cond) ∈ tb_ := ts_w 44 rfl rfl
theorem ts_45 : (.selects "TwinTunersModel" ⟨"TwinTunersModel", "end", "()V"⟩ ⟨"TwinTunersModel", "end", "()V"⟩ : Cond) ∈ tb_ := ts_w 45 rfl rfl
theorem d_MO_begin_0 : decode c_MO_begin 0 = .ok (.aload_n 0, 1) := by decide +kernel
theorem d_MO_begin_1 : decode c_MO_begin 1 = .ok (.invokevirtual 141, 3) := by decide +kernel
theorem d_MO_begin_4 : decode c_MO_begin 4 = .ok (.iconst 0, 1) := by decide +kernel
theorem d_MO_begin_5 : decode c_MO_begin 5 = .ok (.istore_n 1, 1) := by decide +kernel
theorem d_MO_begin_6 : decode c_MO_begin 6 = .ok (.iload_n 1, 1) := by decide +kernel
theorem d_MO_begin_7 : decode c_MO_begin 7 = .ok (.aload_n 0, 1) := by decide +kernel
theorem d_MO_begin_8 : decode c_MO_begin 8 = .ok (.getfield 90, 3) := by decide +kernel
theorem d_MO_begin_11 : decode c_MO_begin 11 = .ok (.if_icmp .ge 129, 3) := by decide +kernel
theorem d_MO_begin_14 : decode c_MO_begin 14 = .ok (.aload_n 0, 1) := by decide +kernel
theorem d_MO_begin_15 : decode c_MO_begin 15 = .ok (.getfield 35, 3) := by decide +kernel
theorem d_MO_begin_18 : decode c_MO_begin 18 = .ok (.iload_n 1, 1) := by decide +kernel
theorem d_MO_begin_19 : decode c_MO_begin 19 = .ok (.iaload, 1) := by decide +kernel
theorem d_MO_begin_20 : decode c_MO_begin 20 = .ok (.iconst 1, 1) := by decide +kernel
theorem d_MO_begin_21 : decode c_MO_begin 21 = .ok (.if_icmp .ne 15, 3) := by decide +kernel
theorem d_MO_begin_24 : decode c_MO_begin 24 = .ok (.aload_n 0, 1) := by decide +kernel
theorem d_MO_begin_25 : decode c_MO_begin 25 = .ok (.getfield 41, 3) := by decide +kernel
theorem d_MO_begin_28 : decode c_MO_begin 28 = .ok (.iload_n 1, 1) := by decide +kernel
theorem d_MO_begin_29 : decode c_MO_begin 29 = .ok (.aload_n 0, 1) := by decide +kernel
theorem d_MO_begin_30 : decode c_MO_begin 30 = .ok (.getfield 81, 3) := by decide +kernel
theorem d_MO_begin_33 : decode c_MO_begin 33 = .ok (.iload_n 1, 1) := by decide +kernel
theorem d_MO_begin_34 : decode c_MO_begin 34 = .ok (.iaload, 1) := by decide +kernel
theorem d_MO_begin_35 : decode c_MO_begin 35 = .ok (.iastore, 1) := by decide +kernel
theorem d_MO_begin_36 : decode c_MO_begin 36 = .ok (.aload_n 0, 1) := by decide +kernel
theorem d_MO_begin_37 : decode c_MO_begin 37 = .ok (.getfield 35, 3) := by decide +kernel
theorem d_MO_begin_40 : decode c_MO_begin 40 = .ok (.iload_n 1, 1) := by decide +kernel
theorem d_MO_begin_41 : decode c_MO_begin 41 = .ok (.iaload, 1) := by decide +kernel
theorem d_MO_begin_42 : decode c_MO_begin 42 = .ok (.ifCond .ne 54, 3) := by decide +kernel
theorem d_MO_begin_45 : decode c_MO_begin 45 = .ok (.aload_n 0, 1) := by decide +kernel
theorem d_MO_begin_46 : decode c_MO_begin 46 = .ok (.getfield 75, 3) := by decide +kernel
theorem d_MO_begin_49 : decode c_MO_begin 49 = .ok (.iload_n 1, 1) := by decide +kernel
theorem d_MO_begin_50 : decode c_MO_begin 50 = .ok (.baload, 1) := by decide +kernel
theorem d_MO_begin_51 : decode c_MO_begin 51 = .ok (.ifCond .eq 45, 3) := by decide +kernel
theorem d_MO_begin_54 : decode c_MO_begin 54 = .ok (.aload_n 0, 1) := by decide +kernel
theorem d_MO_begin_55 : decode c_MO_begin 55 = .ok (.getfield 78, 3) := by decide +kernel
theorem d_MO_begin_58 : decode c_MO_begin 58 = .ok (.iload_n 1, 1) := by decide +kernel
theorem d_MO_begin_59 : decode c_MO_begin 59 = .ok (.iaload, 1) := by decide +kernel
theorem d_MO_begin_60 : decode c_MO_begin 60 = .ok (.aload_n 0, 1) := by decide +kernel
theorem d_MO_begin_61 : decode c_MO_begin 61 = .ok (.getfield 93, 3) := by decide +kernel
theorem d_MO_begin_64 : decode c_MO_begin 64 = .ok (.if_icmp .ne 32, 3) := by decide +kernel
theorem d_MO_begin_67 : decode c_MO_begin 67 = .ok (.aload_n 0, 1) := by decide +kernel
theorem d_MO_begin_68 : decode c_MO_begin 68 = .ok (.getfield 35, 3) := by decide +kernel
theorem d_MO_begin_71 : decode c_MO_begin 71 = .ok (.iload_n 1, 1) := by decide +kernel
theorem d_MO_begin_72 : decode c_MO_begin 72 = .ok (.iconst 1, 1) := by decide +kernel
theorem d_MO_begin_73 : decode c_MO_begin 73 = .ok (.iastore, 1) := by decide +kernel
theorem d_MO_begin_74 : decode c_MO_begin 74 = .ok (.aload_n 0, 1) := by decide +kernel
theorem d_MO_begin_75 : decode c_MO_begin 75 = .ok (.getfield 38, 3) := by decide +kernel
theorem d_MO_begin_78 : decode c_MO_begin 78 = .ok (.iload_n 1, 1) := by decide +kernel
theorem d_MO_begin_79 : decode c_MO_begin 79 = .ok (.aload_n 0, 1) := by decide +kernel
theorem d_MO_begin_80 : decode c_MO_begin 80 = .ok (.getfield 93, 3) := by decide +kernel
theorem d_MO_begin_83 : decode c_MO_begin 83 = .ok (.iastore, 1) := by decide +kernel
theorem d_MO_begin_84 : decode c_MO_begin 84 = .ok (.aload_n 0, 1) := by decide +kernel
theorem d_MO_begin_85 : decode c_MO_begin 85 = .ok (.getfield 41, 3) := by decide +kernel
theorem d_MO_begin_88 : decode c_MO_begin 88 = .ok (.iload_n 1, 1) := by decide +kernel
theorem d_MO_begin_89 : decode c_MO_begin 89 = .ok (.aload_n 0, 1) := by decide +kernel
theorem d_MO_begin_90 : decode c_MO_begin 90 = .ok (.getfield 81, 3) := by decide +kernel
theorem d_MO_begin_93 : decode c_MO_begin 93 = .ok (.iload_n 1, 1) := by decide +kernel
theorem d_MO_begin_94 : decode c_MO_begin 94 = .ok (.iaload, 1) := by decide +kernel
theorem d_MO_begin_95 : decode c_MO_begin 95 = .ok (.iastore, 1) := by decide +kernel
theorem d_MO_begin_96 : decode c_MO_begin 96 = .ok (.aload_n 0, 1) := by decide +kernel
theorem d_MO_begin_97 : decode c_MO_begin 97 = .ok (.getfield 35, 3) := by decide +kernel
theorem d_MO_begin_100 : decode c_MO_begin 100 = .ok (.iload_n 1, 1) := by decide +kernel
theorem d_MO_begin_101 : decode c_MO_begin 101 = .ok (.iaload, 1) := by decide +kernel
theorem d_MO_begin_102 : decode c_MO_begin 102 = .ok (.ifCond .ne 32, 3) := by decide +kernel
theorem d_MO_begin_105 : decode c_MO_begin 105 = .ok (.aload_n 0, 1) := by decide +kernel
theorem d_MO_begin_106 : decode c_MO_begin 106 = .ok (.getfield 75, 3) := by decide +kernel
theorem d_MO_begin_109 : decode c_MO_begin 109 = .ok (.iload_n 1, 1) := by decide +kernel
theorem d_MO_begin_110 : decode c_MO_begin 110 = .ok (.baload, 1) := by decide +kernel
theorem d_MO_begin_111 : decode c_MO_begin 111 = .ok (.ifCond .ne 23, 3) := by decide +kernel
theorem d_MO_begin_114 : decode c_MO_begin 114 = .ok (.aload_n 0, 1) := by decide +kernel
theorem d_MO_begin_115 : decode c_MO_begin 115 = .ok (.getfield 20, 3) := by decide +kernel
theorem d_MO_begin_118 : decode c_MO_begin 118 = .ok (.iload_n 1, 1) := by decide +kernel
theorem d_MO_begin_119 : decode c_MO_begin 119 = .ok (.iaload, 1) := by decide +kernel
theorem d_MO_begin_120 : decode c_MO_begin 120 = .ok (.aload_n 0, 1) := by decide +kernel
theorem d_MO_begin_121 : decode c_MO_begin 121 = .ok (.getfield 93, 3) := by decide +kernel
theorem d_MO_begin_124 : decode c_MO_begin 124 = .ok (.if_icmp .ne 10, 3) := by decide +kernel
theorem d_MO_begin_127 : decode c_MO_begin 127 = .ok (.aload_n 0, 1) := by decide +kernel
theorem d_MO_begin_128 : decode c_MO_begin 128 = .ok (.getfield 35, 3) := by decide +kernel
theorem d_MO_begin_131 : decode c_MO_begin 131 = .ok (.iload_n 1, 1) := by decide +kernel
theorem d_MO_begin_132 : decode c_MO_begin 132 = .ok (.iconst 3, 1) := by decide +kernel
theorem d_MO_begin_133 : decode c_MO_begin 133 = .ok (.iastore, 1) := by decide +kernel
theorem d_MO_begin_134 : decode c_MO_begin 134 = .ok (.iinc 1 1, 3) := by decide +kernel
theorem d_MO_begin_137 : decode c_MO_begin 137 = .ok (.goto (-131), 3) := by decide +kernel
theorem d_MO_begin_140 : decode c_MO_begin 140 = .ok (.return_, 1) := by decide +kernel
theorem d_MO_end_0 : decode c_MO_end 0 = .ok (.aload_n 0, 1) := by decide +kernel
theorem d_MO_end_1 : decode c_MO_end 1 = .ok (.dup, 1) := by decide +kernel
theorem d_MO_end_2 : decode c_MO_end 2 = .ok (.getfield 93, 3) := by decide +kernel
theorem d_MO_end_5 : decode c_MO_end 5 = .ok (.iconst 1, 1) := by decide +kernel
theorem d_MO_end_6 : decode c_MO_end 6 = .ok (.iadd, 1) := by decide +kernel
theorem d_MO_end_7 : decode c_MO_end 7 = .ok (.putfield 93, 3) := by decide +kernel
theorem d_MO_end_10 : decode c_MO_end 10 = .ok (.iconst 0, 1) := by decide +kernel
theorem d_MO_end_11 : decode c_MO_end 11 = .ok (.istore_n 1, 1) := by decide +kernel
theorem d_MO_end_12 : decode c_MO_end 12 = .ok (.iload_n 1, 1) := by decide +kernel
theorem d_MO_end_13 : decode c_MO_end 13 = .ok (.aload_n 0, 1) := by decide +kernel
theorem d_MO_end_14 : decode c_MO_end 14 = .ok (.getfield 90, 3) := by decide +kernel
theorem d_MO_end_17 : decode c_MO_end 17 = .ok (.if_icmp .ge 48, 3) := by decide +kernel
theorem d_MO_end_20 : decode c_MO_end 20 = .ok (.aload_n 0, 1) := by decide +kernel
theorem d_MO_end_21 : decode c_MO_end 21 = .ok (.getfield 35, 3) := by decide +kernel
theorem d_MO_end_24 : decode c_MO_end 24 = .ok (.iload_n 1, 1) := by decide +kernel
theorem d_MO_end_25 : decode c_MO_end 25 = .ok (.aload_n 0, 1) := by decide +kernel
theorem d_MO_end_26 : decode c_MO_end 26 = .ok (.getfield 35, 3) := by decide +kernel
theorem d_MO_end_29 : decode c_MO_end 29 = .ok (.iload_n 1, 1) := by decide +kernel
theorem d_MO_end_30 : decode c_MO_end 30 = .ok (.iaload, 1) := by decide +kernel
theorem d_MO_end_31 : decode c_MO_end 31 = .ok (.iconst 1, 1) := by decide +kernel
theorem d_MO_end_32 : decode c_MO_end 32 = .ok (.if_icmp .ne 20, 3) := by decide +kernel
theorem d_MO_end_35 : decode c_MO_end 35 = .ok (.aload_n 0, 1) := by decide +kernel
theorem d_MO_end_36 : decode c_MO_end 36 = .ok (.getfield 41, 3) := by decide +kernel
theorem d_MO_end_39 : decode c_MO_end 39 = .ok (.iload_n 1, 1) := by decide +kernel
theorem d_MO_end_40 : decode c_MO_end 40 = .ok (.iaload, 1) := by decide +kernel
theorem d_MO_end_41 : decode c_MO_end 41 = .ok (.aload_n 0, 1) := by decide +kernel
theorem d_MO_end_42 : decode c_MO_end 42 = .ok (.getfield 93, 3) := by decide +kernel
theorem d_MO_end_45 : decode c_MO_end 45 = .ok (.if_icmp .ne 7, 3) := by decide +kernel
theorem d_MO_end_48 : decode c_MO_end 48 = .ok (.iconst 2, 1) := by decide +kernel
theorem d_MO_end_49 : decode c_MO_end 49 = .ok (.goto 9, 3) := by decide +kernel
theorem d_MO_end_52 : decode c_MO_end 52 = .ok (.aload_n 0, 1) := by decide +kernel
theorem d_MO_end_53 : decode c_MO_end 53 = .ok (.getfield 35, 3) := by decide +kernel
theorem d_MO_end_56 : decode c_MO_end 56 = .ok (.iload_n 1, 1) := by decide +kernel
theorem d_MO_end_57 : decode c_MO_end 57 = .ok (.iaload, 1) := by decide +kernel
theorem d_MO_end_58 : decode c_MO_end 58 = .ok (.iastore, 1) := by decide +kernel
theorem d_MO_end_59 : decode c_MO_end 59 = .ok (.iinc 1 1, 3) := by decide +kernel
theorem d_MO_end_62 : decode c_MO_end 62 = .ok (.goto (-50), 3) := by decide +kernel
theorem d_MO_end_65 : decode c_MO_end 65 = .ok (.return_, 1) := by decide +kernel
theorem d_MO_tick_0 : decode c_MO_tick 0 = .ok (.aload_n 0, 1) := by decide +kernel
theorem d_MO_tick_1 : decode c_MO_tick 1 = .ok (.iconst 0, 1) := by decide +kernel
theorem d_MO_tick_2 : decode c_MO_tick 2 = .ok (.putfield 87, 3) := by decide +kernel
theorem d_MO_tick_5 : decode c_MO_tick 5 = .ok (.aload_n 0, 1) := by decide +kernel
theorem d_MO_tick_6 : decode c_MO_tick 6 = .ok (.invokevirtual 168, 3) := by decide +kernel
theorem d_MO_tick_9 : decode c_MO_tick 9 = .ok (.aload_n 0, 1) := by decide +kernel
theorem d_MO_tick_10 : decode c_MO_tick 10 = .ok (.invokevirtual 171, 3) := by decide +kernel
theorem d_MO_tick_13 : decode c_MO_tick 13 = .ok (.istore_n 1, 1) := by decide +kernel
theorem d_MO_tick_14 : decode c_MO_tick 14 = .ok (.aload_n 0, 1) := by decide +kernel
theorem d_MO_tick_15 : decode c_MO_tick 15 = .ok (.invokevirtual 174, 3) := by decide +kernel
theorem d_MO_tick_18 : decode c_MO_tick 18 = .ok (.pop, 1) := by decide +kernel
theorem d_MO_tick_19 : decode c_MO_tick 19 = .ok (.aload_n 0, 1) := by decide +kernel
theorem d_MO_tick_20 : decode c_MO_tick 20 = .ok (.iload_n 1, 1) := by decide +kernel
theorem d_MO_tick_21 : decode c_MO_tick 21 = .ok (.invokevirtual 177, 3) := by decide +kernel
theorem d_MO_tick_24 : decode c_MO_tick 24 = .ok (.aload_n 0, 1) := by decide +kernel
theorem d_MO_tick_25 : decode c_MO_tick 25 = .ok (.invokevirtual 180, 3) := by decide +kernel
theorem d_MO_tick_28 : decode c_MO_tick 28 = .ok (.iload_n 1, 1) := by decide +kernel
theorem d_MO_tick_29 : decode c_MO_tick 29 = .ok (.ireturn, 1) := by decide +kernel
theorem d_MO_ticks_0 : decode c_MO_ticks 0 = .ok (.aload_n 0, 1) := by decide +kernel
theorem d_MO_ticks_1 : decode c_MO_ticks 1 = .ok (.iload_n 1, 1) := by decide +kernel
theorem d_MO_ticks_2 : decode c_MO_ticks 2 = .ok (.iconst 1, 1) := by decide +kernel
theorem d_MO_ticks_3 : decode c_MO_ticks 3 = .ok (.if_icmp .lt 9, 3) := by decide +kernel
theorem d_MO_ticks_6 : decode c_MO_ticks 6 = .ok (.iload_n 1, 1) := by decide +kernel
theorem d_MO_ticks_7 : decode c_MO_ticks 7 = .ok (.bipush 100, 2) := by decide +kernel
theorem d_MO_ticks_9 : decode c_MO_ticks 9 = .ok (.if_icmp .le 7, 3) := by decide +kernel
theorem d_MO_ticks_12 : decode c_MO_ticks 12 = .ok (.iconst 1, 1) := by decide +kernel
theorem d_MO_ticks_13 : decode c_MO_ticks 13 = .ok (.goto 4, 3) := by decide +kernel
theorem d_MO_ticks_16 : decode c_MO_ticks 16 = .ok (.iconst 0, 1) := by decide +kernel
theorem d_MO_ticks_17 : decode c_MO_ticks 17 = .ok (.invokevirtual 102, 3) := by decide +kernel
theorem d_MO_ticks_20 : decode c_MO_ticks 20 = .ok (.ifCond .eq 5, 3) := by decide +kernel
theorem d_MO_ticks_23 : decode c_MO_ticks 23 = .ok (.iconst 0, 1) := by decide +kernel
theorem d_MO_ticks_24 : decode c_MO_ticks 24 = .ok (.ireturn, 1) := by decide +kernel
theorem d_MO_ticks_25 : decode c_MO_ticks 25 = .ok (.iconst 0, 1) := by decide +kernel
theorem d_MO_ticks_26 : decode c_MO_ticks 26 = .ok (.istore_n 2, 1) := by decide +kernel
theorem d_MO_ticks_27 : decode c_MO_ticks 27 = .ok (.iconst 0, 1) := by decide +kernel
theorem d_MO_ticks_28 : decode c_MO_ticks 28 = .ok (.istore_n 3, 1) := by decide +kernel
theorem d_MO_ticks_29 : decode c_MO_ticks 29 = .ok (.iload_n 3, 1) := by decide +kernel
theorem d_MO_ticks_30 : decode c_MO_ticks 30 = .ok (.iload_n 1, 1) := by decide +kernel
theorem d_MO_ticks_31 : decode c_MO_ticks 31 = .ok (.if_icmp .ge 36, 3) := by decide +kernel
theorem d_MO_ticks_34 : decode c_MO_ticks 34 = .ok (.aload_n 0, 1) := by decide +kernel
theorem d_MO_ticks_35 : decode c_MO_ticks 35 = .ok (.invokevirtual 168, 3) := by decide +kernel
theorem d_MO_ticks_38 : decode c_MO_ticks 38 = .ok (.aload_n 0, 1) := by decide +kernel
theorem d_MO_ticks_39 : decode c_MO_ticks 39 = .ok (.invokevirtual 171, 3) := by decide +kernel
theorem d_MO_ticks_42 : decode c_MO_ticks 42 = .ok (.istore 4, 2) := by decide +kernel
theorem d_MO_ticks_44 : decode c_MO_ticks 44 = .ok (.iload_n 2, 1) := by decide +kernel
theorem d_MO_ticks_45 : decode c_MO_ticks 45 = .ok (.aload_n 0, 1) := by decide +kernel
theorem d_MO_ticks_46 : decode c_MO_ticks 46 = .ok (.invokevirtual 174, 3) := by decide +kernel
theorem d_MO_ticks_49 : decode c_MO_ticks 49 = .ok (.iadd, 1) := by decide +kernel
theorem d_MO_ticks_50 : decode c_MO_ticks 50 = .ok (.istore_n 2, 1) := by decide +kernel
theorem d_MO_ticks_51 : decode c_MO_ticks 51 = .ok (.aload_n 0, 1) := by decide +kernel
theorem d_MO_ticks_52 : decode c_MO_ticks 52 = .ok (.iload 4, 2) := by decide +kernel
theorem d_MO_ticks_54 : decode c_MO_ticks 54 = .ok (.invokevirtual 177, 3) := by decide +kernel
theorem d_MO_ticks_57 : decode c_MO_ticks 57 = .ok (.aload_n 0, 1) := by decide +kernel
theorem d_MO_ticks_58 : decode c_MO_ticks 58 = .ok (.invokevirtual 180, 3) := by decide +kernel
theorem d_MO_ticks_61 : decode c_MO_ticks 61 = .ok (.iinc 3 1, 3) := by decide +kernel
theorem d_MO_ticks_64 : decode c_MO_ticks 64 = .ok (.goto (-35), 3) := by decide +kernel
theorem d_MO_ticks_67 : decode c_MO_ticks 67 = .ok (.iload_n 2, 1) := by decide +kernel
theorem d_MO_ticks_68 : decode c_MO_ticks 68 = .ok (.ireturn, 1) := by decide +kernel
theorem oc_set {f g : Nat → Int32} {j : Nat} (h : ∀ i, i ≠ j → g i = f i) (ho : (g j = 0 ∨ g j = 1) → (f j = 0 ∨ f j = 1)) : ∀ n, oc g n ≤ oc f n := by
  intro n
  induction n with
  | zero => exact Nat.le_refl _
  | succ n ih =>
    show oc g n + _ ≤ oc f n + _
    by_cases e : n = j
    · subst e
      by_cases q : g n = 0 ∨ g n = 1
      · rw [if_pos q, if_pos (ho q)]; omega
      · rw [if_neg q]; omega
    · rw [h n e]; omega
theorem MI_step {T : Int} {N j : Nat} {sc sc' : Nat → Int32} {ia ia' : Nat → Nat → Int32} (h : MI T N sc ia) (hj : j < N) (hs : same [0, 21] sc sc') (hi : same [3, 8, 11, 12, 13, 14, 15, 16, 17, 18, 19, 20, 22, 23, 24, 25, 26, 27, 29] ia ia')
    (h11 : ∀ i, i ≠ j → ia' 11 i = ia 11 i) (h12 : ∀ i, i ≠ j → ia' 12 i = ia 12 i) (h13 : ∀ i, i ≠ j → ia' 13 i = ia 13 i) (ho : (ia' 11 j = 0 ∨ ia' 11 j = 1) → (ia 11 j = 0 ∨ ia 11 j = 1))
    (hr : ia' 11 j = 1 → (ia' 12 j).toInt ≤ (sc 1).toInt ∧ (sc 1).toInt < (ia' 13 j).toInt ∧ (ia 6 j).toInt ≤ (ia' 12 j).toInt + 9 ∧ (ia 6 j).toInt + (ia 7 j).toInt ≤ (ia' 13 j).toInt ∧ (ia' 13 j).toInt ≤ (ia 6 j).toInt + (ia 7 j).toInt + 9) : MI T N sc' ia' := by
  show mI T N (sc' 1) (sc' 4) (sc' 2) (sc' 28) (ia' 5) (ia' 6) (ia' 7) (ia' 9) (ia' 10) (ia' 11) (ia' 12) (ia' 13)
  rw [hs 1 (by decide), hs 4 (by decide), hs 2 (by decide), hs 28 (by decide), hi 5 (by decide), hi 6 (by decide), hi 7 (by decide), hi 9 (by decide), hi 10 (by decide)]
  obtain ⟨a1, a2, a3, a4, a5, a6, a7, a8⟩ := h
  refine ⟨a1, a2, a3, a4, a5, Nat.le_trans (oc_set h11 ho N) a6, fun i hi9 => ?_, fun i hi9 => ?_⟩
  · rw [h11 i (by omega)]; exact a7 i hi9
  · obtain ⟨b1, b2, b3, b4, b5, b6⟩ := a8 i hi9
    refine ⟨b1, b2, b3, b4, b5, ?_⟩
    by_cases e : i = j
    · subst e; exact hr
    · rw [h11 i e, h12 i e, h13 i e]; exact b6
theorem QP_step2 {N j : Nat} {sc sc' : Nat → Int32} {ia ia' : Nat → Nat → Int32} (hQ : QP N sc ia) (hs : same [0, 21] sc sc') (hi : same [3, 8, 11, 12, 13, 14, 15, 16, 17, 18, 19, 20, 22, 23, 24, 29] ia ia') (h11 : ∀ i, i ≠ j → ia' 11 i = ia 11 i)
    (hj : qP (sc 1).toInt (ia 6 j) (ia 7 j) (ia' 11 j) (ia 25 j) (ia 26 j) (ia 27 j)) : QP N sc' ia' := by
  intro i h
  rw [hs 1 (by decide), hi 6 (by decide), hi 7 (by decide), hi 25 (by decide), hi 26 (by decide), hi 27 (by decide)]
  by_cases e : i = j
  · subst e; exact hj
  · rw [h11 i e]; exact hQ i h
theorem MI_bk {T : Int} {N : Nat} {sc sc' : Nat → Int32} {ia ia' : Nat → Nat → Int32} (h : MI T N sc ia) (hs : same [28] sc sc') (hi : same [29] ia ia') (hb : 0 ≤ (sc' 28).toInt ∧ (sc' 28).toInt ≤ 30) : MI T N sc' ia' := by
  show mI T N (sc' 1) (sc' 4) (sc' 2) (sc' 28) (ia' 5) (ia' 6) (ia' 7) (ia' 9) (ia' 10) (ia' 11) (ia' 12) (ia' 13)
  rw [hs 1 (by decide), hs 4 (by decide), hs 2 (by decide), hi 5 (by decide), hi 6 (by decide), hi 7 (by decide), hi 9 (by decide), hi 10 (by decide), hi 11 (by decide), hi 12 (by decide), hi 13 (by decide)]
  obtain ⟨a1, a2, a3, a4, a5, a6, a7, a8⟩ := h
  exact ⟨a1, a2, a3, a4, hb, a6, a7, a8⟩
theorem MI_wk {T T' : Int} {N : Nat} {sc : Nat → Int32} {ia : Nat → Nat → Int32} (h : MI T N sc ia) (h1 : T ≤ T') (h2 : T' ≤ 1000000) : MI T' N sc ia := by
  obtain ⟨a1, a2, a3, a4, a5, a6, a7, a8⟩ := h
  exact ⟨⟨by omega, h2⟩, ⟨a2.1, by omega⟩, a3, a4, a5, a6, a7, fun i hi9 => by
    obtain ⟨b1, b2, b3⟩ := a8 i hi9
    exact ⟨b1, ⟨b2.1, by omega⟩, b3⟩⟩
/-- states behind a second: the same, or RUNNING and now FINISHED -/
def stF (f g : Nat → Int32) : Prop := ∀ i : Nat, g i = f i ∨ (f i = 1 ∧ g i = 2)
theorem stF.one {f g : Nat → Int32} (a : stF f g) {i : Nat} (h : g i = 1) : f i = 1 := by
  rcases a i with x | x
  · exact x.symm.trans h
  · exact absurd (h.symm.trans x.2) (by decide)
theorem stF_oc {f g : Nat → Int32} (a : stF f g) : ∀ n, oc g n ≤ oc f n := by
  intro n
  induction n with
  | zero => exact Nat.le_refl _
  | succ n ih =>
    show oc g n + _ ≤ oc f n + _
    rcases a n with x | x
    · rw [x]; omega
    · rw [x.2, if_neg (by decide)]; omega
theorem MI_end {T : Int} {N : Nat} {sc sc' : Nat → Int32} {ia ia' : Nat → Nat → Int32} (h : MI T N sc ia) (hT1 : (sc 1).toInt + 1 ≤ T) (h1 : sc' 1 = sc 1 + 1) (hs : same [1] sc sc') (hi : same [11] ia ia') (hF : stF (ia 11) (ia' 11)) (hG : ∀ i, i < N → ia' 11 i = 1 → ¬ ia 13 i = sc 1 + 1) : MI T N sc' ia' := by
  show mI T N (sc' 1) (sc' 4) (sc' 2) (sc' 28) (ia' 5) (ia' 6) (ia' 7) (ia' 9) (ia' 10) (ia' 11) (ia' 12) (ia' 13)
  rw [h1, hs 4 (by decide), hs 2 (by decide), hs 28 (by decide), hi 5 (by decide), hi 6 (by decide), hi 7 (by decide), hi 9 (by decide), hi 10 (by decide), hi 12 (by decide), hi 13 (by decide)]
  obtain ⟨a1, a2, a3, a4, a5, a6, a7, a8⟩ := h
  have e : (sc 1 + 1).toInt = (sc 1).toInt + 1 := by rw [ti_add (by rw [l_1]; omega) (by rw [l_1]; omega), l_1]
  refine ⟨a1, ⟨by omega, by omega⟩, a3, a4, a5, Nat.le_trans (stF_oc hF N) a6, fun i hi9 => ?_, fun i hi9 => ?_⟩
  · have a9 := a7 i hi9
    rcases hF i with x | x
    · exact x.trans a9
    · exact absurd (a9.symm.trans x.1) (by decide)
  · obtain ⟨b1, b2, b3, b4, b5, b6⟩ := a8 i hi9
    refine ⟨b1, b2, b3, b4, b5, fun q => ?_⟩
    have b7 := b6 (hF.one q)
    have b8 := ti_ne (hG i hi9 q)
    rw [e] at b8 ⊢
    omega
set_option maxHeartbeats 8000000 in
set_option maxRecDepth 100000 in
theorem t_MO_begin (l : Launch) (dC : Nat → ClassId) (dI : Nat → Nat → Nat) (g0 : Nat) (ad : Nat → Nat) (kI kZ : ClassId) (sc : Nat → Int32) (ia : Nat → Nat → Int32) (sz Bd : Nat) (T : Int) (N : Nat) (hI : MI T N sc ia) : Met l y_MO_begin w_MO_begin ({ frames := 5, cells := 0, slots := 0, locals := 118 }) (frP (dC, dI) (MOW g0 ad kI kZ sc ia) (MOT kI kZ) sz Bd [.ref g0]) (tQ (dC, dI) (mW g0 ad kI kZ) (va_A (MOW g0 ad kI kZ sc ia) sz) vN (fun r u => same [21] sc u.1 ∧ same [11, 12, 13, 22, 23, 24, 25, 26, 27] ia u.2 ∧ MI T N u.1 u.2)) 0 0 (va_A (MOW g0 ad kI kZ sc ia) sz) := by
  refine Met.ofW (cc := c_MO_begin) (maxL := 2) (ret := none) (by decide) rfl ?_
  intro p e s m args below meth c s₁ B hml hv
  obtain ⟨rfl, ⟨hsz, hBs⟩, hP, hK, hD0, hV⟩ := hv
  have hx := B.exec
  have hb := B.bytes
  have hr := B.returns
  have ht : ∀ w ∈ tb_, w.before _ s = true := fun w h => atoms_spec (ws := w_MO_begin) B.pre w (List.mem_cons_of_mem _ h)
  have hown : s.vm.findClass R_MO = some m.cls := findClass_of_methodNamed B.named
  have hlocks := B.notSynchronized
  subst hsz
  have hD := hD0.self (sz := s.heap.size)
  have hAB : ∀ q, va_A (MOW g0 ad kI kZ sc ia) s.heap.size q → Bd ≤ q := fr_AB hD0 hBs
  generalize hAe : va_A (MOW g0 ad kI kZ sc ia) s.heap.size = A at hD hAB ⊢
  have hA : ∀ q : Nat, s.heap.size ≤ q → A q := fun q h => by rw [← hAe]; exact Or.inr h
  have hS : va_S A s.heap s.heap [] := va_S.rf
  have hs : same [21] sc sc := same.rf
  have hi : same [11, 12, 13, 22, 23, 24, 25, 26, 27] ia ia := same.rf
  have hP : va_P (dC, dI) cls_ (MOW g0 ad kI kZ sc ia) s.heap := hP
  have hl := lv_entry ([.ref g0]) (n := 2) (Nat.le_of_ble_eq_true rfl)
  rw [lg_entry_eq]
  generalize (lg_sl ([.ref g0]) ++ List.replicate (2 - (lg_sl ([.ref g0])).length) Slot.unset).toArray = ls at hl ⊢
  have hl : lv_has ls 2 [(0, .ref g0)] := hl
  have e4 := hI.e4
  have hN := hI.hN
  have hT := hI.T
  refine lv_aload_n hx hb d_MO_begin_0 rfl (lv_at hl 0 rfl) ?_
  refine t_call (u0 := (sc, ia)) (va_runV (C := R_MO) (As := []) (rest := []) ⟨hx, hb, hml, hown, ht⟩ (t_MO_plan l dC dI g0 ad kI kZ sc ia s.heap.size Bd T N hI) (cwV 0 ht (gV tb_752 tb_754 ts_25 tb_5 tb_755) rfl rfl rfl (by decide +kernel) ⟨Nat.le_of_ble_eq_true rfl, Nat.le_of_ble_eq_true rfl⟩) ⟨frP_blind, va_recv (q := (R_MO, F_MO, 30)) hK hP rfl (show (MOW g0 ad kI kZ sc ia : va_W)[0]? = some _ from rfl), fr_pre hP hK hD hAB hBs hS hV⟩ rfl rfl hl.1 rfl (lv_room (Nat.le_of_ble_eq_true rfl)) d_MO_begin_1 ⟨Nat.le_of_ble_eq_true rfl, Nat.le_of_ble_eq_true rfl⟩) hD hS hA (fun r1 u H locs hu hP hD hS => ?_)
  obtain ⟨sc2, ia3⟩ := u
  obtain ⟨hu1_0, hu1_1, hu1_2⟩ := hu
  have hu1_0 : same [21] sc sc2 := hu1_0
  have hu1_1 : same [22, 23, 24, 25, 26, 27] ia ia3 := hu1_1
  have hu1_2 : QP N sc2 ia3 := hu1_2
  have hP : va_P (dC, dI) cls_ (MOW g0 ad kI kZ sc2 ia3) H := hP
  have hD : va_D A (MOW g0 ad kI kZ sc2 ia3) := hD
  have hs : same [21] sc sc2 := hs.tr (hu1_0.wk (by decide))
  have hi : same [11, 12, 13, 22, 23, 24, 25, 26, 27] ia ia3 := hi.tr (hu1_1.wk (by decide))
  refine W.eq (g2 := F0 m 4 ls []) rfl ?_
  refine W.cs (cells' := 0) (slots' := 0) rfl rfl ?_
  refine lv_iconst (v := 0) hx hb d_MO_begin_4 (by decide) ?_
  refine lv_istore_n hx hb d_MO_begin_5 rfl hl (by decide) rfl (fun ls hl => ?_)
  have hl : lv_has ls 2 [(1, .int 0), (0, .ref g0)] := hl
  have J_6 : ∀ (n_6 : Nat) (k : Nat) (sc_6 : Nat → Int32) (ia_6 : Nat → Nat → Int32) (H : Heap) (locs : List Loc) (ls : Array Slot), N - k < n_6 → k ≤ N → same [21] sc sc_6 → same [11, 12, 13, 22, 23, 24, 25, 26, 27] ia ia_6 → MI T N sc_6 ia_6 → QP N sc_6 ia_6 → lv_has ls 2 [(1, .int (nI k)), (0, .ref g0)] → va_P (dC, dI) cls_ (MOW g0 ad kI kZ sc_6 ia_6) H → va_D A (MOW g0 ad kI kZ sc_6 ia_6) → va_S A s.heap H locs → W p l e (headSpec w_MO_begin ({ frames := 5, cells := 0, slots := 0, locals := 118 })).room s m (([.ref g0] : List Value).toArray) below meth c H locs 0 0 (MQ below (tQ (dC, dI) (mW g0 ad kI kZ) A vN (fun r u => same [21] sc u.1 ∧ same [11, 12, 13, 22, 23, 24, 25, 26, 27] ia u.2 ∧ MI T N u.1 u.2)) (([.ref g0] : List Value).toArray) s 0 0 A) (F0 m 6 ls []) := by
    intro n_6
    induction n_6 with
    | zero => intro k sc_6 ia_6 H locs ls hmu hc6_0 hs hi hI6 hQ6 hl hP hD hS; exact absurd hmu (by omega)
    | succ n_6 ih_6 =>
      intro k sc_6 ia_6 H locs ls hmu hc6_0 hs hi hI6 hQ6 hl hP hD hS
      have hs6 := hs
      refine lv_iload_n hx hb d_MO_begin_6 rfl (lv_at hl 0 rfl) ?_
      refine lv_aload_n hx hb d_MO_begin_7 rfl (lv_at hl 1 rfl) ?_
      refine va_get (D := (dC, dI)) (ci := 5) (v := .int (sc_6 4)) (C := R_MO) (T := F_MO) (N := 30) hx hb ht in_MO hown hK hP 0 rfl rfl 4 (by decide) (ht _ tb_635) (fun _ h9 => h9) rfl d_MO_begin_8 ?_
      refine W.eq (g2 := F0 m 11 ls [.int (nI N), .int (nI k)]) (by rw [show sc_6 4 = nI N from (hs 4 (by decide)).trans e4]) ?_
      refine lv_icmp_ge (tgt := 140) hx hb d_MO_begin_11 (by decide) (fun h11_1 => ?_) (fun h11_1 => ?_)
      · have h11_1 := h11_1
        have i11_1 := ti_le h11_1
        (try rw [nI_toInt (show k < 2 ^ 31 by omega)] at i11_1)
        (try rw [nI_toInt (show N < 2 ^ 31 by omega)] at i11_1)
        have hz0 : MI T N sc_6 ia_6 := hI6
        exact W.vret hx hb hr (fun t ht9 hW => ⟨⟨(), (sc_6, ia_6), rfl, ⟨hs, hi, hz0⟩, by rw [ht9]; exact hP, hD⟩, hS.F ht9⟩) hS.2.2 d_MO_begin_140
      · have h11_1 := h11_1
        have i11_1 := ti_nle h11_1
        (try rw [nI_toInt (show k < 2 ^ 31 by omega)] at i11_1)
        (try rw [nI_toInt (show N < 2 ^ 31 by omega)] at i11_1)
        refine lv_aload_n hx hb d_MO_begin_14 rfl (lv_at hl 1 rfl) ?_
        refine va_get (D := (dC, dI)) (ci := 5) (v := .ref (ad 11)) (C := R_MO) (T := F_MO) (N := 30) hx hb ht in_MO hown hK hP 0 rfl rfl 11 (by decide) (ht _ tb_642) (fun _ h9 => h9) rfl d_MO_begin_15 ?_
        refine lv_iload_n hx hb d_MO_begin_18 rfl (lv_at hl 0 rfl) ?_
        refine va_iald hx hb hK hP 8 0 rfl rfl (vp_in_nI (show k < 40 by omega) (by decide)) d_MO_begin_19 ?_
        refine W.eq (g2 := F0 m 20 ls [.int (ia_6 11 k)]) (by rw [nI_clamp (show k < 2 ^ 31 by omega)]) ?_
        refine lv_iconst (v := 1) hx hb d_MO_begin_20 (by decide) ?_
        refine lv_icmp_ne (tgt := 36) hx hb d_MO_begin_21 (by decide) (fun h21_2 => ?_) (fun h21_2 => ?_)
        · have h21_2 := h21_2
          have i21_2 := ti_ne h21_2
          (try rw [l_1] at i21_2)
          refine lv_aload_n hx hb d_MO_begin_36 rfl (lv_at hl 1 rfl) ?_
          refine va_get (D := (dC, dI)) (ci := 5) (v := .ref (ad 11)) (C := R_MO) (T := F_MO) (N := 30) hx hb ht in_MO hown hK hP 0 rfl rfl 11 (by decide) (ht _ tb_642) (fun _ h9 => h9) rfl d_MO_begin_37 ?_
          refine lv_iload_n hx hb d_MO_begin_40 rfl (lv_at hl 0 rfl) ?_
          refine va_iald hx hb hK hP 8 0 rfl rfl (vp_in_nI (show k < 40 by omega) (by decide)) d_MO_begin_41 ?_
          refine W.eq (g2 := F0 m 42 ls [.int (ia_6 11 k)]) (by rw [nI_clamp (show k < 2 ^ 31 by omega)]) ?_
          refine lv_if_ne (tgt := 96) hx hb d_MO_begin_42 (by decide) (fun h42_3 => ?_) (fun h42_3 => ?_)
          · have h42_3 := h42_3
            have i42_3 := ti_ne h42_3
            (try rw [l_0] at i42_3)
            refine lv_aload_n hx hb d_MO_begin_96 rfl (lv_at hl 1 rfl) ?_
            refine va_get (D := (dC, dI)) (ci := 5) (v := .ref (ad 11)) (C := R_MO) (T := F_MO) (N := 30) hx hb ht in_MO hown hK hP 0 rfl rfl 11 (by decide) (ht _ tb_642) (fun _ h9 => h9) rfl d_MO_begin_97 ?_
            refine lv_iload_n hx hb d_MO_begin_100 rfl (lv_at hl 0 rfl) ?_
            refine va_iald hx hb hK hP 8 0 rfl rfl (vp_in_nI (show k < 40 by omega) (by decide)) d_MO_begin_101 ?_
            refine W.eq (g2 := F0 m 102 ls [.int (ia_6 11 k)]) (by rw [nI_clamp (show k < 2 ^ 31 by omega)]) ?_
            refine lv_if_ne (tgt := 134) hx hb d_MO_begin_102 (by decide) (fun _ => ?_) (fun h9 => absurd h9 (h42_3))
            refine lv_iinc (k := 0) (v := nI (k + 1)) hx hb d_MO_begin_134 hl rfl ((nI_succ k).symm) (by decide) rfl (fun ls hl => ?_)
            have hl : lv_has ls 2 [(1, .int (nI (k + 1))), (0, .ref g0)] := hl
            refine lv_goto (tgt := 6) hx hb d_MO_begin_137 (by decide) ?_
            exact ih_6 (k + 1) sc_6 ia_6 H _ ls (by omega) (by omega) hs hi (hI6) (hQ6) hl hP hD hS
          · have h42_3 := h42_3
            have i42_3 := ti_eq h42_3
            (try rw [l_0] at i42_3)
            refine lv_aload_n hx hb d_MO_begin_45 rfl (lv_at hl 1 rfl) ?_
            refine va_get (D := (dC, dI)) (ci := 5) (v := .ref (ad 25)) (C := R_MO) (T := F_MO) (N := 30) hx hb ht in_MO hown hK hP 0 rfl rfl 25 (by decide) (ht _ tb_656) (fun _ h9 => h9) rfl d_MO_begin_46 ?_
            refine lv_iload_n hx hb d_MO_begin_49 rfl (lv_at hl 0 rfl) ?_
            refine va_zald hx hb hK hP 21 1 rfl rfl (vp_in_nI (show k < 40 by omega) (by decide)) d_MO_begin_50 ?_
            refine W.eq (g2 := F0 m 51 ls [.int (ia_6 25 k)]) (by rw [nI_clamp (show k < 2 ^ 31 by omega)]) ?_
            refine lv_if_eq (tgt := 96) hx hb d_MO_begin_51 (by decide) (fun h51_4 => ?_) (fun h51_4 => ?_)
            · have h51_4 := h51_4
              have i51_4 := ti_eq h51_4
              (try rw [l_0] at i51_4)
              refine lv_aload_n hx hb d_MO_begin_96 rfl (lv_at hl 1 rfl) ?_
              refine va_get (D := (dC, dI)) (ci := 5) (v := .ref (ad 11)) (C := R_MO) (T := F_MO) (N := 30) hx hb ht in_MO hown hK hP 0 rfl rfl 11 (by decide) (ht _ tb_642) (fun _ h9 => h9) rfl d_MO_begin_97 ?_
              refine lv_iload_n hx hb d_MO_begin_100 rfl (lv_at hl 0 rfl) ?_
              refine va_iald hx hb hK hP 8 0 rfl rfl (vp_in_nI (show k < 40 by omega) (by decide)) d_MO_begin_101 ?_
              refine W.eq (g2 := F0 m 102 ls [.int (ia_6 11 k)]) (by rw [nI_clamp (show k < 2 ^ 31 by omega)]) ?_
              refine lv_if_ne (tgt := 134) hx hb d_MO_begin_102 (by decide) (fun h9 => absurd (h42_3) h9) (fun _ => ?_)
              refine lv_aload_n hx hb d_MO_begin_105 rfl (lv_at hl 1 rfl) ?_
              refine va_get (D := (dC, dI)) (ci := 5) (v := .ref (ad 25)) (C := R_MO) (T := F_MO) (N := 30) hx hb ht in_MO hown hK hP 0 rfl rfl 25 (by decide) (ht _ tb_656) (fun _ h9 => h9) rfl d_MO_begin_106 ?_
              refine lv_iload_n hx hb d_MO_begin_109 rfl (lv_at hl 0 rfl) ?_
              refine va_zald hx hb hK hP 21 1 rfl rfl (vp_in_nI (show k < 40 by omega) (by decide)) d_MO_begin_110 ?_
              refine W.eq (g2 := F0 m 111 ls [.int (ia_6 25 k)]) (by rw [nI_clamp (show k < 2 ^ 31 by omega)]) ?_
              refine lv_if_ne (tgt := 134) hx hb d_MO_begin_111 (by decide) (fun h9 => absurd (h51_4) h9) (fun _ => ?_)
              refine lv_aload_n hx hb d_MO_begin_114 rfl (lv_at hl 1 rfl) ?_
              refine va_get (D := (dC, dI)) (ci := 5) (v := .ref (ad 6)) (C := R_MO) (T := F_MO) (N := 30) hx hb ht in_MO hown hK hP 0 rfl rfl 6 (by decide) (ht _ tb_637) (fun _ h9 => h9) rfl d_MO_begin_115 ?_
              refine lv_iload_n hx hb d_MO_begin_118 rfl (lv_at hl 0 rfl) ?_
              refine va_iald hx hb hK hP 3 0 rfl rfl (vp_in_nI (show k < 40 by omega) (by decide)) d_MO_begin_119 ?_
              refine W.eq (g2 := F0 m 120 ls [.int (ia 6 k)]) (by rw [nI_clamp (show k < 2 ^ 31 by omega), hi 6 (by decide)]) ?_
              refine lv_aload_n hx hb d_MO_begin_120 rfl (lv_at hl 1 rfl) ?_
              refine va_get (D := (dC, dI)) (ci := 5) (v := .int (sc_6 1)) (C := R_MO) (T := F_MO) (N := 30) hx hb ht in_MO hown hK hP 0 rfl rfl 1 (by decide) (ht _ tb_632) (fun _ h9 => h9) rfl d_MO_begin_121 ?_
              refine W.eq (g2 := F0 m 124 ls [.int (sc 1), .int (ia 6 k)]) (by rw [hs 1 (by decide)]) ?_
              refine lv_icmp_ne (tgt := 134) hx hb d_MO_begin_124 (by decide) (fun h124_5 => ?_) (fun h124_5 => ?_)
              · have h124_5 := h124_5
                have i124_5 := ti_ne h124_5
                refine lv_iinc (k := 0) (v := nI (k + 1)) hx hb d_MO_begin_134 hl rfl ((nI_succ k).symm) (by decide) rfl (fun ls hl => ?_)
                have hl : lv_has ls 2 [(1, .int (nI (k + 1))), (0, .ref g0)] := hl
                refine lv_goto (tgt := 6) hx hb d_MO_begin_137 (by decide) ?_
                exact ih_6 (k + 1) sc_6 ia_6 H _ ls (by omega) (by omega) hs hi (hI6) (hQ6) hl hP hD hS
              · have h124_5 := h124_5
                have i124_5 := ti_eq h124_5
                refine lv_aload_n hx hb d_MO_begin_127 rfl (lv_at hl 1 rfl) ?_
                refine va_get (D := (dC, dI)) (ci := 5) (v := .ref (ad 11)) (C := R_MO) (T := F_MO) (N := 30) hx hb ht in_MO hown hK hP 0 rfl rfl 11 (by decide) (ht _ tb_642) (fun _ h9 => h9) rfl d_MO_begin_128 ?_
                refine lv_iload_n hx hb d_MO_begin_131 rfl (lv_at hl 0 rfl) ?_
                refine lv_iconst (v := 3) hx hb d_MO_begin_132 (by decide) ?_
                refine va_iast hx hb hK hP hD hS 8 0 rfl rfl (vp_in_nI (show k < 40 by omega) (by decide)) d_MO_begin_133 (fun H locs hP hD hS => ?_)
                rw [nI_clamp (show k < 2 ^ 31 by omega)] at hP hD
                have hP : va_P (dC, dI) cls_ (MOW g0 ad kI kZ sc_6 (va_up ia_6 11 (upd (ia_6 11) k 3))) H := hP
                have hD : va_D A (MOW g0 ad kI kZ sc_6 (va_up ia_6 11 (upd (ia_6 11) k 3))) := hD
                obtain ⟨ia4, eia4⟩ : ∃ q9_, q9_ = va_up ia_6 11 (upd (ia_6 11) k 3) := ⟨_, rfl⟩
                rw [← eia4] at hP hD
                have hi : same [11, 12, 13, 22, 23, 24, 25, 26, 27] ia ia4 := by rw [eia4]; exact hi.up (by decide)
                refine lv_iinc (k := 0) (v := nI (k + 1)) hx hb d_MO_begin_134 hl rfl ((nI_succ k).symm) (by decide) rfl (fun ls hl => ?_)
                have hl : lv_has ls 2 [(1, .int (nI (k + 1))), (0, .ref g0)] := hl
                refine lv_goto (tgt := 6) hx hb d_MO_begin_137 (by decide) ?_
                have f11 : ia4 11 k = 3 := (show ia4 11 k = 3 by rw [eia4]; show upd (ia_6 11) k 3 k = _; exact pk_us)
                have f12 : ia4 12 k = ia_6 12 k := (show ia4 12 k = ia_6 12 k by rw [eia4]; rfl)
                have f13 : ia4 13 k = ia_6 13 k := (show ia4 13 k = ia_6 13 k by rw [eia4]; rfl)
                have m9 := hI6.at (show k < N by omega)
                rw [hs6 1 (by decide)] at m9
                obtain ⟨-, m1, m2, -, -, m3⟩ := m9
                have q9 := hQ6 k (by omega)
                rw [hs6 1 (by decide)] at q9
                obtain ⟨q1, q2⟩ := q9
                exact ih_6 (k + 1) sc_6 ia4 H _ ls (by omega) (by omega) hs hi (MI_step (j := k) hI6 (by omega) same.rf ((show same [3, 8, 11, 12, 13, 14, 15, 16, 17, 18, 19, 20, 22, 23, 24, 25, 26, 27, 29] _ ia4 from by rw [eia4]; exact (same.rf).up (by decide))) (fun i h9 => (show ia4 11 i = ia_6 11 i by rw [eia4]; show upd (ia_6 11) k 3 i = _; exact pk_un h9)) (fun i h9 => (show ia4 12 i = ia_6 12 i by rw [eia4]; rfl)) (fun i h9 => (show ia4 13 i = ia_6 13 i by rw [eia4]; rfl)) (by rw [f11]; exact fun q => absurd q (by decide)) (by rw [f11]; exact fun q => absurd q (by decide))) (QP_step2 (j := k) hQ6 same.rf ((show same [3, 8, 11, 12, 13, 14, 15, 16, 17, 18, 19, 20, 22, 23, 24, 29] _ ia4 from by rw [eia4]; exact (same.rf).up (by decide))) (fun i h9 => (show ia4 11 i = ia_6 11 i by rw [eia4]; show upd (ia_6 11) k 3 i = _; exact pk_un h9)) (by rw [f11]; exact ⟨fun q => absurd q (by decide), fun q => absurd q (by decide)⟩)) hl hP hD hS
            · have h51_4 := h51_4
              have i51_4 := ti_ne h51_4
              (try rw [l_0] at i51_4)
              refine lv_aload_n hx hb d_MO_begin_54 rfl (lv_at hl 1 rfl) ?_
              refine va_get (D := (dC, dI)) (ci := 5) (v := .ref (ad 26)) (C := R_MO) (T := F_MO) (N := 30) hx hb ht in_MO hown hK hP 0 rfl rfl 26 (by decide) (ht _ tb_657) (fun _ h9 => h9) rfl d_MO_begin_55 ?_
              refine lv_iload_n hx hb d_MO_begin_58 rfl (lv_at hl 0 rfl) ?_
              refine va_iald hx hb hK hP 22 0 rfl rfl (vp_in_nI (show k < 40 by omega) (by decide)) d_MO_begin_59 ?_
              refine W.eq (g2 := F0 m 60 ls [.int (ia_6 26 k)]) (by rw [nI_clamp (show k < 2 ^ 31 by omega)]) ?_
              refine lv_aload_n hx hb d_MO_begin_60 rfl (lv_at hl 1 rfl) ?_
              refine va_get (D := (dC, dI)) (ci := 5) (v := .int (sc_6 1)) (C := R_MO) (T := F_MO) (N := 30) hx hb ht in_MO hown hK hP 0 rfl rfl 1 (by decide) (ht _ tb_632) (fun _ h9 => h9) rfl d_MO_begin_61 ?_
              refine W.eq (g2 := F0 m 64 ls [.int (sc 1), .int (ia_6 26 k)]) (by rw [hs 1 (by decide)]) ?_
              refine lv_icmp_ne (tgt := 96) hx hb d_MO_begin_64 (by decide) (fun h64_6 => ?_) (fun h64_6 => ?_)
              · have h64_6 := h64_6
                have i64_6 := ti_ne h64_6
                refine lv_aload_n hx hb d_MO_begin_96 rfl (lv_at hl 1 rfl) ?_
                refine va_get (D := (dC, dI)) (ci := 5) (v := .ref (ad 11)) (C := R_MO) (T := F_MO) (N := 30) hx hb ht in_MO hown hK hP 0 rfl rfl 11 (by decide) (ht _ tb_642) (fun _ h9 => h9) rfl d_MO_begin_97 ?_
                refine lv_iload_n hx hb d_MO_begin_100 rfl (lv_at hl 0 rfl) ?_
                refine va_iald hx hb hK hP 8 0 rfl rfl (vp_in_nI (show k < 40 by omega) (by decide)) d_MO_begin_101 ?_
                refine W.eq (g2 := F0 m 102 ls [.int (ia_6 11 k)]) (by rw [nI_clamp (show k < 2 ^ 31 by omega)]) ?_
                refine lv_if_ne (tgt := 134) hx hb d_MO_begin_102 (by decide) (fun h9 => absurd (h42_3) h9) (fun _ => ?_)
                refine lv_aload_n hx hb d_MO_begin_105 rfl (lv_at hl 1 rfl) ?_
                refine va_get (D := (dC, dI)) (ci := 5) (v := .ref (ad 25)) (C := R_MO) (T := F_MO) (N := 30) hx hb ht in_MO hown hK hP 0 rfl rfl 25 (by decide) (ht _ tb_656) (fun _ h9 => h9) rfl d_MO_begin_106 ?_
                refine lv_iload_n hx hb d_MO_begin_109 rfl (lv_at hl 0 rfl) ?_
                refine va_zald hx hb hK hP 21 1 rfl rfl (vp_in_nI (show k < 40 by omega) (by decide)) d_MO_begin_110 ?_
                refine W.eq (g2 := F0 m 111 ls [.int (ia_6 25 k)]) (by rw [nI_clamp (show k < 2 ^ 31 by omega)]) ?_
                refine lv_if_ne (tgt := 134) hx hb d_MO_begin_111 (by decide) (fun _ => ?_) (fun h9 => absurd h9 (h51_4))
                refine lv_iinc (k := 0) (v := nI (k + 1)) hx hb d_MO_begin_134 hl rfl ((nI_succ k).symm) (by decide) rfl (fun ls hl => ?_)
                have hl : lv_has ls 2 [(1, .int (nI (k + 1))), (0, .ref g0)] := hl
                refine lv_goto (tgt := 6) hx hb d_MO_begin_137 (by decide) ?_
                exact ih_6 (k + 1) sc_6 ia_6 H _ ls (by omega) (by omega) hs hi (hI6) (hQ6) hl hP hD hS
              · have h64_6 := h64_6
                have i64_6 := ti_eq h64_6
                refine lv_aload_n hx hb d_MO_begin_67 rfl (lv_at hl 1 rfl) ?_
                refine va_get (D := (dC, dI)) (ci := 5) (v := .ref (ad 11)) (C := R_MO) (T := F_MO) (N := 30) hx hb ht in_MO hown hK hP 0 rfl rfl 11 (by decide) (ht _ tb_642) (fun _ h9 => h9) rfl d_MO_begin_68 ?_
                refine lv_iload_n hx hb d_MO_begin_71 rfl (lv_at hl 0 rfl) ?_
                refine lv_iconst (v := 1) hx hb d_MO_begin_72 (by decide) ?_
                refine va_iast hx hb hK hP hD hS 8 0 rfl rfl (vp_in_nI (show k < 40 by omega) (by decide)) d_MO_begin_73 (fun H locs hP hD hS => ?_)
                rw [nI_clamp (show k < 2 ^ 31 by omega)] at hP hD
                have hP : va_P (dC, dI) cls_ (MOW g0 ad kI kZ sc_6 (va_up ia_6 11 (upd (ia_6 11) k 1))) H := hP
                have hD : va_D A (MOW g0 ad kI kZ sc_6 (va_up ia_6 11 (upd (ia_6 11) k 1))) := hD
                obtain ⟨ia5, eia5⟩ : ∃ q9_, q9_ = va_up ia_6 11 (upd (ia_6 11) k 1) := ⟨_, rfl⟩
                rw [← eia5] at hP hD
                have hi : same [11, 12, 13, 22, 23, 24, 25, 26, 27] ia ia5 := by rw [eia5]; exact hi.up (by decide)
                refine lv_aload_n hx hb d_MO_begin_74 rfl (lv_at hl 1 rfl) ?_
                refine va_get (D := (dC, dI)) (ci := 5) (v := .ref (ad 12)) (C := R_MO) (T := F_MO) (N := 30) hx hb ht in_MO hown hK hP 0 rfl rfl 12 (by decide) (ht _ tb_643) (fun _ h9 => h9) rfl d_MO_begin_75 ?_
                refine lv_iload_n hx hb d_MO_begin_78 rfl (lv_at hl 0 rfl) ?_
                refine lv_aload_n hx hb d_MO_begin_79 rfl (lv_at hl 1 rfl) ?_
                refine va_get (D := (dC, dI)) (ci := 5) (v := .int (sc_6 1)) (C := R_MO) (T := F_MO) (N := 30) hx hb ht in_MO hown hK hP 0 rfl rfl 1 (by decide) (ht _ tb_632) (fun _ h9 => h9) rfl d_MO_begin_80 ?_
                refine W.eq (g2 := F0 m 83 ls [.int (sc 1), .int (nI k), .ref (ad 12)]) (by rw [hs 1 (by decide)]) ?_
                refine va_iast hx hb hK hP hD hS 9 0 rfl rfl (vp_in_nI (show k < 40 by omega) (by decide)) d_MO_begin_83 (fun H locs hP hD hS => ?_)
                rw [nI_clamp (show k < 2 ^ 31 by omega)] at hP hD
                have hP : va_P (dC, dI) cls_ (MOW g0 ad kI kZ sc_6 (va_up ia5 12 (upd (ia5 12) k (sc 1)))) H := hP
                have hD : va_D A (MOW g0 ad kI kZ sc_6 (va_up ia5 12 (upd (ia5 12) k (sc 1)))) := hD
                obtain ⟨ia6, eia6⟩ : ∃ q9_, q9_ = va_up ia5 12 (upd (ia5 12) k (sc 1)) := ⟨_, rfl⟩
                rw [← eia6] at hP hD
                have hi : same [11, 12, 13, 22, 23, 24, 25, 26, 27] ia ia6 := by rw [eia6]; exact hi.up (by decide)
                refine lv_aload_n hx hb d_MO_begin_84 rfl (lv_at hl 1 rfl) ?_
                refine va_get (D := (dC, dI)) (ci := 5) (v := .ref (ad 13)) (C := R_MO) (T := F_MO) (N := 30) hx hb ht in_MO hown hK hP 0 rfl rfl 13 (by decide) (ht _ tb_644) (fun _ h9 => h9) rfl d_MO_begin_85 ?_
                refine lv_iload_n hx hb d_MO_begin_88 rfl (lv_at hl 0 rfl) ?_
                refine lv_aload_n hx hb d_MO_begin_89 rfl (lv_at hl 1 rfl) ?_
                refine va_get (D := (dC, dI)) (ci := 5) (v := .ref (ad 27)) (C := R_MO) (T := F_MO) (N := 30) hx hb ht in_MO hown hK hP 0 rfl rfl 27 (by decide) (ht _ tb_658) (fun _ h9 => h9) rfl d_MO_begin_90 ?_
                refine lv_iload_n hx hb d_MO_begin_93 rfl (lv_at hl 0 rfl) ?_
                refine va_iald hx hb hK hP 23 0 rfl rfl (vp_in_nI (show k < 40 by omega) (by decide)) d_MO_begin_94 ?_
                refine W.eq (g2 := F0 m 95 ls [.int (ia_6 27 k), .int (nI k), .ref (ad 13)]) (by rw [nI_clamp (show k < 2 ^ 31 by omega), ((show ia6 27 k = ia5 27 k by rw [eia6]; rfl)).trans (show ia5 27 k = ia_6 27 k by rw [eia5]; rfl)]) ?_
                refine va_iast hx hb hK hP hD hS 10 0 rfl rfl (vp_in_nI (show k < 40 by omega) (by decide)) d_MO_begin_95 (fun H locs hP hD hS => ?_)
                rw [nI_clamp (show k < 2 ^ 31 by omega)] at hP hD
                have hP : va_P (dC, dI) cls_ (MOW g0 ad kI kZ sc_6 (va_up ia6 13 (upd (ia6 13) k (ia_6 27 k)))) H := hP
                have hD : va_D A (MOW g0 ad kI kZ sc_6 (va_up ia6 13 (upd (ia6 13) k (ia_6 27 k)))) := hD
                obtain ⟨ia7, eia7⟩ : ∃ q9_, q9_ = va_up ia6 13 (upd (ia6 13) k (ia_6 27 k)) := ⟨_, rfl⟩
                rw [← eia7] at hP hD
                have hi : same [11, 12, 13, 22, 23, 24, 25, 26, 27] ia ia7 := by rw [eia7]; exact hi.up (by decide)
                refine lv_aload_n hx hb d_MO_begin_96 rfl (lv_at hl 1 rfl) ?_
                refine va_get (D := (dC, dI)) (ci := 5) (v := .ref (ad 11)) (C := R_MO) (T := F_MO) (N := 30) hx hb ht in_MO hown hK hP 0 rfl rfl 11 (by decide) (ht _ tb_642) (fun _ h9 => h9) rfl d_MO_begin_97 ?_
                refine lv_iload_n hx hb d_MO_begin_100 rfl (lv_at hl 0 rfl) ?_
                refine va_iald hx hb hK hP 8 0 rfl rfl (vp_in_nI (show k < 40 by omega) (by decide)) d_MO_begin_101 ?_
                refine W.eq (g2 := F0 m 102 ls [.int 1]) (by rw [nI_clamp (show k < 2 ^ 31 by omega), (((show ia7 11 k = ia6 11 k by rw [eia7]; rfl)).trans (show ia6 11 k = ia5 11 k by rw [eia6]; rfl)).trans (show ia5 11 k = 1 by rw [eia5]; show upd (ia_6 11) k 1 k = _; exact pk_us)]) ?_
                refine lv_if_ne (tgt := 134) hx hb d_MO_begin_102 (by decide) (fun _ => ?_) (fun h9 => absurd h9 (by decide))
                refine lv_iinc (k := 0) (v := nI (k + 1)) hx hb d_MO_begin_134 hl rfl ((nI_succ k).symm) (by decide) rfl (fun ls hl => ?_)
                have hl : lv_has ls 2 [(1, .int (nI (k + 1))), (0, .ref g0)] := hl
                refine lv_goto (tgt := 6) hx hb d_MO_begin_137 (by decide) ?_
                have f11 : ia7 11 k = 1 := (((show ia7 11 k = ia6 11 k by rw [eia7]; rfl)).trans (show ia6 11 k = ia5 11 k by rw [eia6]; rfl)).trans (show ia5 11 k = 1 by rw [eia5]; show upd (ia_6 11) k 1 k = _; exact pk_us)
                have f12 : ia7 12 k = sc 1 := ((show ia7 12 k = ia6 12 k by rw [eia7]; rfl)).trans (show ia6 12 k = sc 1 by rw [eia6]; show upd (ia5 12) k (sc 1) k = _; exact pk_us)
                have f13 : ia7 13 k = ia_6 27 k := (show ia7 13 k = ia_6 27 k by rw [eia7]; show upd (ia6 13) k (ia_6 27 k) k = _; exact pk_us)
                have m9 := hI6.at (show k < N by omega)
                rw [hs6 1 (by decide)] at m9
                obtain ⟨-, m1, m2, -, -, m3⟩ := m9
                have q9 := hQ6 k (by omega)
                rw [hs6 1 (by decide)] at q9
                obtain ⟨q1, q2⟩ := q9
                have q3 := q2 h42_3 h51_4
                exact ih_6 (k + 1) sc_6 ia7 H _ ls (by omega) (by omega) hs hi (MI_step (j := k) hI6 (by omega) same.rf ((show same [3, 8, 11, 12, 13, 14, 15, 16, 17, 18, 19, 20, 22, 23, 24, 25, 26, 27, 29] _ ia7 from by rw [eia7]; exact ((show same [3, 8, 11, 12, 13, 14, 15, 16, 17, 18, 19, 20, 22, 23, 24, 25, 26, 27, 29] _ ia6 from by rw [eia6]; exact ((show same [3, 8, 11, 12, 13, 14, 15, 16, 17, 18, 19, 20, 22, 23, 24, 25, 26, 27, 29] _ ia5 from by rw [eia5]; exact (same.rf).up (by decide))).up (by decide))).up (by decide))) (fun i h9 => (((show ia7 11 i = ia6 11 i by rw [eia7]; rfl)).trans (show ia6 11 i = ia5 11 i by rw [eia6]; rfl)).trans (show ia5 11 i = ia_6 11 i by rw [eia5]; show upd (ia_6 11) k 1 i = _; exact pk_un h9)) (fun i h9 => (((show ia7 12 i = ia6 12 i by rw [eia7]; rfl)).trans (show ia6 12 i = ia5 12 i by rw [eia6]; show upd (ia5 12) k (sc 1) i = _; exact pk_un h9)).trans (show ia5 12 i = ia_6 12 i by rw [eia5]; rfl)) (fun i h9 => (((show ia7 13 i = ia6 13 i by rw [eia7]; show upd (ia6 13) k (ia_6 27 k) i = _; exact pk_un h9)).trans (show ia6 13 i = ia5 13 i by rw [eia6]; rfl)).trans (show ia5 13 i = ia_6 13 i by rw [eia5]; rfl)) (fun _ => Or.inl h42_3) (fun _ => by rw [hs6 1 (by decide), f12, f13]; omega)) (QP_step2 (j := k) hQ6 same.rf ((show same [3, 8, 11, 12, 13, 14, 15, 16, 17, 18, 19, 20, 22, 23, 24, 29] _ ia7 from by rw [eia7]; exact ((show same [3, 8, 11, 12, 13, 14, 15, 16, 17, 18, 19, 20, 22, 23, 24, 29] _ ia6 from by rw [eia6]; exact ((show same [3, 8, 11, 12, 13, 14, 15, 16, 17, 18, 19, 20, 22, 23, 24, 29] _ ia5 from by rw [eia5]; exact (same.rf).up (by decide))).up (by decide))).up (by decide))) (fun i h9 => (((show ia7 11 i = ia6 11 i by rw [eia7]; rfl)).trans (show ia6 11 i = ia5 11 i by rw [eia6]; rfl)).trans (show ia5 11 i = ia_6 11 i by rw [eia5]; show upd (ia_6 11) k 1 i = _; exact pk_un h9)) (by rw [hs6 1 (by decide), f11]; exact ⟨fun _ => by omega, fun q => absurd q (by decide)⟩)) hl hP hD hS
        · have h21_2 := h21_2
          have i21_2 := ti_eq h21_2
          (try rw [l_1] at i21_2)
          refine lv_aload_n hx hb d_MO_begin_24 rfl (lv_at hl 1 rfl) ?_
          refine va_get (D := (dC, dI)) (ci := 5) (v := .ref (ad 13)) (C := R_MO) (T := F_MO) (N := 30) hx hb ht in_MO hown hK hP 0 rfl rfl 13 (by decide) (ht _ tb_644) (fun _ h9 => h9) rfl d_MO_begin_25 ?_
          refine lv_iload_n hx hb d_MO_begin_28 rfl (lv_at hl 0 rfl) ?_
          refine lv_aload_n hx hb d_MO_begin_29 rfl (lv_at hl 1 rfl) ?_
          refine va_get (D := (dC, dI)) (ci := 5) (v := .ref (ad 27)) (C := R_MO) (T := F_MO) (N := 30) hx hb ht in_MO hown hK hP 0 rfl rfl 27 (by decide) (ht _ tb_658) (fun _ h9 => h9) rfl d_MO_begin_30 ?_
          refine lv_iload_n hx hb d_MO_begin_33 rfl (lv_at hl 0 rfl) ?_
          refine va_iald hx hb hK hP 23 0 rfl rfl (vp_in_nI (show k < 40 by omega) (by decide)) d_MO_begin_34 ?_
          refine W.eq (g2 := F0 m 35 ls [.int (ia_6 27 k), .int (nI k), .ref (ad 13)]) (by rw [nI_clamp (show k < 2 ^ 31 by omega)]) ?_
          refine va_iast hx hb hK hP hD hS 10 0 rfl rfl (vp_in_nI (show k < 40 by omega) (by decide)) d_MO_begin_35 (fun H locs hP hD hS => ?_)
          rw [nI_clamp (show k < 2 ^ 31 by omega)] at hP hD
          have hP : va_P (dC, dI) cls_ (MOW g0 ad kI kZ sc_6 (va_up ia_6 13 (upd (ia_6 13) k (ia_6 27 k)))) H := hP
          have hD : va_D A (MOW g0 ad kI kZ sc_6 (va_up ia_6 13 (upd (ia_6 13) k (ia_6 27 k)))) := hD
          obtain ⟨ia8, eia8⟩ : ∃ q9_, q9_ = va_up ia_6 13 (upd (ia_6 13) k (ia_6 27 k)) := ⟨_, rfl⟩
          rw [← eia8] at hP hD
          have hi : same [11, 12, 13, 22, 23, 24, 25, 26, 27] ia ia8 := by rw [eia8]; exact hi.up (by decide)
          refine lv_aload_n hx hb d_MO_begin_36 rfl (lv_at hl 1 rfl) ?_
          refine va_get (D := (dC, dI)) (ci := 5) (v := .ref (ad 11)) (C := R_MO) (T := F_MO) (N := 30) hx hb ht in_MO hown hK hP 0 rfl rfl 11 (by decide) (ht _ tb_642) (fun _ h9 => h9) rfl d_MO_begin_37 ?_
          refine lv_iload_n hx hb d_MO_begin_40 rfl (lv_at hl 0 rfl) ?_
          refine va_iald hx hb hK hP 8 0 rfl rfl (vp_in_nI (show k < 40 by omega) (by decide)) d_MO_begin_41 ?_
          refine W.eq (g2 := F0 m 42 ls [.int (ia_6 11 k)]) (by rw [nI_clamp (show k < 2 ^ 31 by omega), (show ia8 11 k = ia_6 11 k by rw [eia8]; rfl)]) ?_
          refine lv_if_ne (tgt := 96) hx hb d_MO_begin_42 (by decide) (fun _ => ?_) (fun h9 => absurd h9 (by rw [h21_2]; decide))
          refine lv_aload_n hx hb d_MO_begin_96 rfl (lv_at hl 1 rfl) ?_
          refine va_get (D := (dC, dI)) (ci := 5) (v := .ref (ad 11)) (C := R_MO) (T := F_MO) (N := 30) hx hb ht in_MO hown hK hP 0 rfl rfl 11 (by decide) (ht _ tb_642) (fun _ h9 => h9) rfl d_MO_begin_97 ?_
          refine lv_iload_n hx hb d_MO_begin_100 rfl (lv_at hl 0 rfl) ?_
          refine va_iald hx hb hK hP 8 0 rfl rfl (vp_in_nI (show k < 40 by omega) (by decide)) d_MO_begin_101 ?_
          refine W.eq (g2 := F0 m 102 ls [.int (ia_6 11 k)]) (by rw [nI_clamp (show k < 2 ^ 31 by omega), (show ia8 11 k = ia_6 11 k by rw [eia8]; rfl)]) ?_
          refine lv_if_ne (tgt := 134) hx hb d_MO_begin_102 (by decide) (fun _ => ?_) (fun h9 => absurd h9 (by rw [h21_2]; decide))
          refine lv_iinc (k := 0) (v := nI (k + 1)) hx hb d_MO_begin_134 hl rfl ((nI_succ k).symm) (by decide) rfl (fun ls hl => ?_)
          have hl : lv_has ls 2 [(1, .int (nI (k + 1))), (0, .ref g0)] := hl
          refine lv_goto (tgt := 6) hx hb d_MO_begin_137 (by decide) ?_
          have f11 : ia8 11 k = ia_6 11 k := (show ia8 11 k = ia_6 11 k by rw [eia8]; rfl)
          have f12 : ia8 12 k = ia_6 12 k := (show ia8 12 k = ia_6 12 k by rw [eia8]; rfl)
          have f13 : ia8 13 k = ia_6 27 k := (show ia8 13 k = ia_6 27 k by rw [eia8]; show upd (ia_6 13) k (ia_6 27 k) k = _; exact pk_us)
          have m9 := hI6.at (show k < N by omega)
          rw [hs6 1 (by decide)] at m9
          obtain ⟨-, m1, m2, -, -, m3⟩ := m9
          have q9 := hQ6 k (by omega)
          rw [hs6 1 (by decide)] at q9
          obtain ⟨q1, q2⟩ := q9
          exact ih_6 (k + 1) sc_6 ia8 H _ ls (by omega) (by omega) hs hi (MI_step (j := k) hI6 (by omega) same.rf ((show same [3, 8, 11, 12, 13, 14, 15, 16, 17, 18, 19, 20, 22, 23, 24, 25, 26, 27, 29] _ ia8 from by rw [eia8]; exact (same.rf).up (by decide))) (fun i h9 => (show ia8 11 i = ia_6 11 i by rw [eia8]; rfl)) (fun i h9 => (show ia8 12 i = ia_6 12 i by rw [eia8]; rfl)) (fun i h9 => (show ia8 13 i = ia_6 13 i by rw [eia8]; show upd (ia_6 13) k (ia_6 27 k) i = _; exact pk_un h9)) (by rw [f11]; exact id) (fun _ => by have := m3 h21_2; have := q1 h21_2; rw [hs6 1 (by decide), f12, f13]; omega)) (QP_step2 (j := k) hQ6 same.rf ((show same [3, 8, 11, 12, 13, 14, 15, 16, 17, 18, 19, 20, 22, 23, 24, 29] _ ia8 from by rw [eia8]; exact (same.rf).up (by decide))) (fun i h9 => (show ia8 11 i = ia_6 11 i by rw [eia8]; rfl)) (by rw [hs6 1 (by decide), f11]; exact ⟨q1, q2⟩)) hl hP hD hS
  have hl := lv_sub hl [0, 1] (l' := [(1, .int 0), (0, .ref g0)]) rfl
  have hl : lv_has ls 2 [(1, .int (nI 0)), (0, .ref g0)] := hl
  exact J_6 ((N - 0) + 1) 0 sc2 ia3 H _ ls (by omega) (by omega) hs hi (hI.same (hu1_0.wk (by decide)) (hu1_1.wk (by decide))) (hu1_2) hl hP hD hS
set_option maxHeartbeats 8000000 in
set_option maxRecDepth 100000 in
theorem t_MO_end (l : Launch) (dC : Nat → ClassId) (dI : Nat → Nat → Nat) (g0 : Nat) (ad : Nat → Nat) (kI kZ : ClassId) (sc : Nat → Int32) (ia : Nat → Nat → Int32) (sz Bd : Nat) (T : Int) (N : Nat) (hI : MI T N sc ia) (hT1 : (sc 1).toInt + 1 ≤ T) : Met l y_MO_end w_MO_end ({ frames := 0, cells := 0, slots := 0, locals := 0 }) (frP (dC, dI) (MOW g0 ad kI kZ sc ia) (MOT kI kZ) sz Bd [.ref g0]) (tQ (dC, dI) (mW g0 ad kI kZ) (va_A (MOW g0 ad kI kZ sc ia) sz) vN (fun r u => same [1] sc u.1 ∧ same [11] ia u.2 ∧ MI T N u.1 u.2 ∧ u.1 1 = sc 1 + 1)) 0 0 (va_A (MOW g0 ad kI kZ sc ia) sz) := by
  refine Met.ofW (cc := c_MO_end) (maxL := 2) (ret := none) (by decide) rfl ?_
  intro p e s m args below meth c s₁ B hml hv
  obtain ⟨rfl, ⟨hsz, hBs⟩, hP, hK, hD0, hV⟩ := hv
  have hx := B.exec
  have hb := B.bytes
  have hr := B.returns
  have ht : ∀ w ∈ tb_, w.before _ s = true := fun w h => atoms_spec (ws := w_MO_end) B.pre w (List.mem_cons_of_mem _ h)
  have hown : s.vm.findClass R_MO = some m.cls := findClass_of_methodNamed B.named
  have hlocks := B.notSynchronized
  subst hsz
  have hD := hD0.self (sz := s.heap.size)
  have hAB : ∀ q, va_A (MOW g0 ad kI kZ sc ia) s.heap.size q → Bd ≤ q := fr_AB hD0 hBs
  generalize hAe : va_A (MOW g0 ad kI kZ sc ia) s.heap.size = A at hD hAB ⊢
  have hA : ∀ q : Nat, s.heap.size ≤ q → A q := fun q h => by rw [← hAe]; exact Or.inr h
  have hS : va_S A s.heap s.heap [] := va_S.rf
  have hs : same [1] sc sc := same.rf
  have hi : same [11] ia ia := same.rf
  have hP : va_P (dC, dI) cls_ (MOW g0 ad kI kZ sc ia) s.heap := hP
  have hl := lv_entry ([.ref g0]) (n := 2) (Nat.le_of_ble_eq_true rfl)
  rw [lg_entry_eq]
  generalize (lg_sl ([.ref g0]) ++ List.replicate (2 - (lg_sl ([.ref g0])).length) Slot.unset).toArray = ls at hl ⊢
  have hl : lv_has ls 2 [(0, .ref g0)] := hl
  have e4 := hI.e4
  have hN := hI.hN
  have hT := hI.T
  refine lv_aload_n hx hb d_MO_end_0 rfl (lv_at hl 0 rfl) ?_
  refine lv_dup hx hb d_MO_end_1 rfl ?_
  refine va_get (D := (dC, dI)) (ci := 5) (v := .int (sc 1)) (C := R_MO) (T := F_MO) (N := 30) hx hb ht in_MO hown hK hP 0 rfl rfl 1 (by decide) (ht _ tb_632) (fun _ h9 => h9) rfl d_MO_end_2 ?_
  refine lv_iconst (v := 1) hx hb d_MO_end_5 (by decide) ?_
  refine lv_iadd hx hb d_MO_end_6 ?_
  refine va_put (D := (dC, dI)) (ci := 5) (v := .int ((sc 1) + 1)) (ty := .int) (C := R_MO) (T := F_MO) (N := 30) hx hb ht in_MO t_MO t_MO_ok n_MO hown hK hP hD hS 0 rfl rfl 1 (by decide) (ht _ tb_632) (fun _ h9 => h9) rfl (by decide +kernel) rfl rfl (Nat.le_of_ble_eq_true rfl) d_MO_end_7 (fun H locs hP hD hS => ?_)
  have hP : va_P (dC, dI) cls_ (MOW g0 ad kI kZ (va_up sc 1 ((sc 1) + 1)) ia) H := hP
  have hD : va_D A (MOW g0 ad kI kZ (va_up sc 1 ((sc 1) + 1)) ia) := hD
  obtain ⟨sc1, esc1⟩ : ∃ q9_, q9_ = va_up sc 1 ((sc 1) + 1) := ⟨_, rfl⟩
  rw [← esc1] at hP hD
  have hs : same [1] sc sc1 := by rw [esc1]; exact hs.up (by decide)
  refine lv_iconst (v := 0) hx hb d_MO_end_10 (by decide) ?_
  refine lv_istore_n hx hb d_MO_end_11 rfl hl (by decide) rfl (fun ls hl => ?_)
  have hl : lv_has ls 2 [(1, .int 0), (0, .ref g0)] := hl
  have J_12 : ∀ (n_12 : Nat) (k : Nat) (sc_12 : Nat → Int32) (ia_12 : Nat → Nat → Int32) (H : Heap) (locs : List Loc) (ls : Array Slot), N - k < n_12 → k ≤ N → same [1] sc sc_12 → same [11] ia ia_12 → sc_12 1 = sc 1 + 1 → stF (ia 11) (ia_12 11) → (∀ i, i < k → ia_12 11 i = 1 → ¬ ia 13 i = sc 1 + 1) → lv_has ls 2 [(1, .int (nI k)), (0, .ref g0)] → va_P (dC, dI) cls_ (MOW g0 ad kI kZ sc_12 ia_12) H → va_D A (MOW g0 ad kI kZ sc_12 ia_12) → va_S A s.heap H locs → W p l e (headSpec w_MO_end ({ frames := 0, cells := 0, slots := 0, locals := 0 })).room s m (([.ref g0] : List Value).toArray) below meth c H locs 0 0 (MQ below (tQ (dC, dI) (mW g0 ad kI kZ) A vN (fun r u => same [1] sc u.1 ∧ same [11] ia u.2 ∧ MI T N u.1 u.2 ∧ u.1 1 = sc 1 + 1)) (([.ref g0] : List Value).toArray) s 0 0 A) (F0 m 12 ls []) := by
    intro n_12
    induction n_12 with
    | zero => intro k sc_12 ia_12 H locs ls hmu hc12_0 hs hi h1 hF hG hl hP hD hS; exact absurd hmu (by omega)
    | succ n_12 ih_12 =>
      intro k sc_12 ia_12 H locs ls hmu hc12_0 hs hi h1 hF hG hl hP hD hS
      refine lv_iload_n hx hb d_MO_end_12 rfl (lv_at hl 0 rfl) ?_
      refine lv_aload_n hx hb d_MO_end_13 rfl (lv_at hl 1 rfl) ?_
      refine va_get (D := (dC, dI)) (ci := 5) (v := .int (sc_12 4)) (C := R_MO) (T := F_MO) (N := 30) hx hb ht in_MO hown hK hP 0 rfl rfl 4 (by decide) (ht _ tb_635) (fun _ h9 => h9) rfl d_MO_end_14 ?_
      refine W.eq (g2 := F0 m 17 ls [.int (nI N), .int (nI k)]) (by rw [show sc_12 4 = nI N from (hs 4 (by decide)).trans e4]) ?_
      refine lv_icmp_ge (tgt := 65) hx hb d_MO_end_17 (by decide) (fun h17_1 => ?_) (fun h17_1 => ?_)
      · have h17_1 := h17_1
        have i17_1 := ti_le h17_1
        (try rw [nI_toInt (show k < 2 ^ 31 by omega)] at i17_1)
        (try rw [nI_toInt (show N < 2 ^ 31 by omega)] at i17_1)
        have hz0 : MI T N sc_12 ia_12 := MI_end hI hT1 h1 hs hi hF (fun i h => hG i (by omega))
        have hz1 : sc_12 1 = sc 1 + 1 := h1
        exact W.vret hx hb hr (fun t ht9 hW => ⟨⟨(), (sc_12, ia_12), rfl, ⟨hs, hi, hz0, hz1⟩, by rw [ht9]; exact hP, hD⟩, hS.F ht9⟩) hS.2.2 d_MO_end_65
      · have h17_1 := h17_1
        have i17_1 := ti_nle h17_1
        (try rw [nI_toInt (show k < 2 ^ 31 by omega)] at i17_1)
        (try rw [nI_toInt (show N < 2 ^ 31 by omega)] at i17_1)
        refine lv_aload_n hx hb d_MO_end_20 rfl (lv_at hl 1 rfl) ?_
        refine va_get (D := (dC, dI)) (ci := 5) (v := .ref (ad 11)) (C := R_MO) (T := F_MO) (N := 30) hx hb ht in_MO hown hK hP 0 rfl rfl 11 (by decide) (ht _ tb_642) (fun _ h9 => h9) rfl d_MO_end_21 ?_
        refine lv_iload_n hx hb d_MO_end_24 rfl (lv_at hl 0 rfl) ?_
        refine lv_aload_n hx hb d_MO_end_25 rfl (lv_at hl 1 rfl) ?_
        refine va_get (D := (dC, dI)) (ci := 5) (v := .ref (ad 11)) (C := R_MO) (T := F_MO) (N := 30) hx hb ht in_MO hown hK hP 0 rfl rfl 11 (by decide) (ht _ tb_642) (fun _ h9 => h9) rfl d_MO_end_26 ?_
        refine lv_iload_n hx hb d_MO_end_29 rfl (lv_at hl 0 rfl) ?_
        refine va_iald hx hb hK hP 8 0 rfl rfl (vp_in_nI (show k < 40 by omega) (by decide)) d_MO_end_30 ?_
        refine W.eq (g2 := F0 m 31 ls [.int (ia_12 11 k), .int (nI k), .ref (ad 11)]) (by rw [nI_clamp (show k < 2 ^ 31 by omega)]) ?_
        refine lv_iconst (v := 1) hx hb d_MO_end_31 (by decide) ?_
        refine lv_icmp_ne (tgt := 52) hx hb d_MO_end_32 (by decide) (fun h32_2 => ?_) (fun h32_2 => ?_)
        · have h32_2 := h32_2
          have i32_2 := ti_ne h32_2
          (try rw [l_1] at i32_2)
          refine lv_aload_n hx hb d_MO_end_52 rfl (lv_at hl 1 rfl) ?_
          refine va_get (D := (dC, dI)) (ci := 5) (v := .ref (ad 11)) (C := R_MO) (T := F_MO) (N := 30) hx hb ht in_MO hown hK hP 0 rfl rfl 11 (by decide) (ht _ tb_642) (fun _ h9 => h9) rfl d_MO_end_53 ?_
          refine lv_iload_n hx hb d_MO_end_56 rfl (lv_at hl 0 rfl) ?_
          refine va_iald hx hb hK hP 8 0 rfl rfl (vp_in_nI (show k < 40 by omega) (by decide)) d_MO_end_57 ?_
          refine W.eq (g2 := F0 m 58 ls [.int (ia_12 11 k), .int (nI k), .ref (ad 11)]) (by rw [nI_clamp (show k < 2 ^ 31 by omega)]) ?_
          refine va_iast hx hb hK hP hD hS 8 0 rfl rfl (vp_in_nI (show k < 40 by omega) (by decide)) d_MO_end_58 (fun H locs hP hD hS => ?_)
          rw [nI_clamp (show k < 2 ^ 31 by omega)] at hP hD
          have hP : va_P (dC, dI) cls_ (MOW g0 ad kI kZ sc_12 (va_up ia_12 11 (upd (ia_12 11) k (ia_12 11 k)))) H := hP
          have hD : va_D A (MOW g0 ad kI kZ sc_12 (va_up ia_12 11 (upd (ia_12 11) k (ia_12 11 k)))) := hD
          obtain ⟨ia2, eia2⟩ : ∃ q9_, q9_ = va_up ia_12 11 (upd (ia_12 11) k (ia_12 11 k)) := ⟨_, rfl⟩
          rw [← eia2] at hP hD
          have hi : same [11] ia ia2 := by rw [eia2]; exact hi.up (by decide)
          refine lv_iinc (k := 0) (v := nI (k + 1)) hx hb d_MO_end_59 hl rfl ((nI_succ k).symm) (by decide) rfl (fun ls hl => ?_)
          have hl : lv_has ls 2 [(1, .int (nI (k + 1))), (0, .ref g0)] := hl
          refine lv_goto (tgt := 12) hx hb d_MO_end_62 (by decide) ?_
          have f11 : ia2 11 k = ia_12 11 k := (show ia2 11 k = ia_12 11 k by rw [eia2]; show upd (ia_12 11) k (ia_12 11 k) k = _; exact pk_us)
          exact ih_12 (k + 1) sc_12 ia2 H _ ls (by omega) (by omega) hs hi (h1) (fun i => by by_cases h9 : i = k; { rw [h9]; exact by rw [f11]; exact hF k }; { rw [(show ia2 11 i = ia_12 11 i by rw [eia2]; show upd (ia_12 11) k (ia_12 11 k) i = _; exact pk_un h9)]; exact hF i }) (fun i h q => by by_cases h9 : i = k; { rw [h9] at q ⊢; exact absurd (f11.symm.trans q) h32_2 }; { rw [(show ia2 11 i = ia_12 11 i by rw [eia2]; show upd (ia_12 11) k (ia_12 11 k) i = _; exact pk_un h9)] at q; exact hG i (by omega) q }) hl hP hD hS
        · have h32_2 := h32_2
          have i32_2 := ti_eq h32_2
          (try rw [l_1] at i32_2)
          refine lv_aload_n hx hb d_MO_end_35 rfl (lv_at hl 1 rfl) ?_
          refine va_get (D := (dC, dI)) (ci := 5) (v := .ref (ad 13)) (C := R_MO) (T := F_MO) (N := 30) hx hb ht in_MO hown hK hP 0 rfl rfl 13 (by decide) (ht _ tb_644) (fun _ h9 => h9) rfl d_MO_end_36 ?_
          refine lv_iload_n hx hb d_MO_end_39 rfl (lv_at hl 0 rfl) ?_
          refine va_iald hx hb hK hP 10 0 rfl rfl (vp_in_nI (show k < 40 by omega) (by decide)) d_MO_end_40 ?_
          refine W.eq (g2 := F0 m 41 ls [.int (ia 13 k), .int (nI k), .ref (ad 11)]) (by rw [nI_clamp (show k < 2 ^ 31 by omega), hi 13 (by decide)]) ?_
          refine lv_aload_n hx hb d_MO_end_41 rfl (lv_at hl 1 rfl) ?_
          refine va_get (D := (dC, dI)) (ci := 5) (v := .int (sc_12 1)) (C := R_MO) (T := F_MO) (N := 30) hx hb ht in_MO hown hK hP 0 rfl rfl 1 (by decide) (ht _ tb_632) (fun _ h9 => h9) rfl d_MO_end_42 ?_
          refine W.eq (g2 := F0 m 45 ls [.int (sc 1 + 1), .int (ia 13 k), .int (nI k), .ref (ad 11)]) (by rw [show sc_12 1 = sc 1 + 1 from h1]) ?_
          refine lv_icmp_ne (tgt := 52) hx hb d_MO_end_45 (by decide) (fun h45_3 => ?_) (fun h45_3 => ?_)
          · have h45_3 := h45_3
            have i45_3 := ti_ne h45_3
            refine lv_aload_n hx hb d_MO_end_52 rfl (lv_at hl 1 rfl) ?_
            refine va_get (D := (dC, dI)) (ci := 5) (v := .ref (ad 11)) (C := R_MO) (T := F_MO) (N := 30) hx hb ht in_MO hown hK hP 0 rfl rfl 11 (by decide) (ht _ tb_642) (fun _ h9 => h9) rfl d_MO_end_53 ?_
            refine lv_iload_n hx hb d_MO_end_56 rfl (lv_at hl 0 rfl) ?_
            refine va_iald hx hb hK hP 8 0 rfl rfl (vp_in_nI (show k < 40 by omega) (by decide)) d_MO_end_57 ?_
            refine W.eq (g2 := F0 m 58 ls [.int (ia_12 11 k), .int (nI k), .ref (ad 11)]) (by rw [nI_clamp (show k < 2 ^ 31 by omega)]) ?_
            refine va_iast hx hb hK hP hD hS 8 0 rfl rfl (vp_in_nI (show k < 40 by omega) (by decide)) d_MO_end_58 (fun H locs hP hD hS => ?_)
            rw [nI_clamp (show k < 2 ^ 31 by omega)] at hP hD
            have hP : va_P (dC, dI) cls_ (MOW g0 ad kI kZ sc_12 (va_up ia_12 11 (upd (ia_12 11) k (ia_12 11 k)))) H := hP
            have hD : va_D A (MOW g0 ad kI kZ sc_12 (va_up ia_12 11 (upd (ia_12 11) k (ia_12 11 k)))) := hD
            obtain ⟨ia3, eia3⟩ : ∃ q9_, q9_ = va_up ia_12 11 (upd (ia_12 11) k (ia_12 11 k)) := ⟨_, rfl⟩
            rw [← eia3] at hP hD
            have hi : same [11] ia ia3 := by rw [eia3]; exact hi.up (by decide)
            refine lv_iinc (k := 0) (v := nI (k + 1)) hx hb d_MO_end_59 hl rfl ((nI_succ k).symm) (by decide) rfl (fun ls hl => ?_)
            have hl : lv_has ls 2 [(1, .int (nI (k + 1))), (0, .ref g0)] := hl
            refine lv_goto (tgt := 12) hx hb d_MO_end_62 (by decide) ?_
            have f11 : ia3 11 k = ia_12 11 k := (show ia3 11 k = ia_12 11 k by rw [eia3]; show upd (ia_12 11) k (ia_12 11 k) k = _; exact pk_us)
            exact ih_12 (k + 1) sc_12 ia3 H _ ls (by omega) (by omega) hs hi (h1) (fun i => by by_cases h9 : i = k; { rw [h9]; exact by rw [f11]; exact hF k }; { rw [(show ia3 11 i = ia_12 11 i by rw [eia3]; show upd (ia_12 11) k (ia_12 11 k) i = _; exact pk_un h9)]; exact hF i }) (fun i h q => by by_cases h9 : i = k; { rw [h9] at q ⊢; exact h45_3 }; { rw [(show ia3 11 i = ia_12 11 i by rw [eia3]; show upd (ia_12 11) k (ia_12 11 k) i = _; exact pk_un h9)] at q; exact hG i (by omega) q }) hl hP hD hS
          · have h45_3 := h45_3
            have i45_3 := ti_eq h45_3
            refine lv_iconst (v := 2) hx hb d_MO_end_48 (by decide) ?_
            refine lv_goto (tgt := 58) hx hb d_MO_end_49 (by decide) ?_
            refine va_iast hx hb hK hP hD hS 8 0 rfl rfl (vp_in_nI (show k < 40 by omega) (by decide)) d_MO_end_58 (fun H locs hP hD hS => ?_)
            rw [nI_clamp (show k < 2 ^ 31 by omega)] at hP hD
            have hP : va_P (dC, dI) cls_ (MOW g0 ad kI kZ sc_12 (va_up ia_12 11 (upd (ia_12 11) k 2))) H := hP
            have hD : va_D A (MOW g0 ad kI kZ sc_12 (va_up ia_12 11 (upd (ia_12 11) k 2))) := hD
            obtain ⟨ia4, eia4⟩ : ∃ q9_, q9_ = va_up ia_12 11 (upd (ia_12 11) k 2) := ⟨_, rfl⟩
            rw [← eia4] at hP hD
            have hi : same [11] ia ia4 := by rw [eia4]; exact hi.up (by decide)
            refine lv_iinc (k := 0) (v := nI (k + 1)) hx hb d_MO_end_59 hl rfl ((nI_succ k).symm) (by decide) rfl (fun ls hl => ?_)
            have hl : lv_has ls 2 [(1, .int (nI (k + 1))), (0, .ref g0)] := hl
            refine lv_goto (tgt := 12) hx hb d_MO_end_62 (by decide) ?_
            have f11 : ia4 11 k = 2 := (show ia4 11 k = 2 by rw [eia4]; show upd (ia_12 11) k 2 k = _; exact pk_us)
            exact ih_12 (k + 1) sc_12 ia4 H _ ls (by omega) (by omega) hs hi (h1) (fun i => by by_cases h9 : i = k; { rw [h9]; exact Or.inr ⟨hF.one h32_2, f11⟩ }; { rw [(show ia4 11 i = ia_12 11 i by rw [eia4]; show upd (ia_12 11) k 2 i = _; exact pk_un h9)]; exact hF i }) (fun i h q => by by_cases h9 : i = k; { rw [h9] at q ⊢; exact absurd (f11.symm.trans q) (by decide) }; { rw [(show ia4 11 i = ia_12 11 i by rw [eia4]; show upd (ia_12 11) k 2 i = _; exact pk_un h9)] at q; exact hG i (by omega) q }) hl hP hD hS
  have hl := lv_sub hl [0, 1] (l' := [(1, .int 0), (0, .ref g0)]) rfl
  have hl : lv_has ls 2 [(1, .int (nI 0)), (0, .ref g0)] := hl
  exact J_12 ((N - 0) + 1) 0 sc1 ia H _ ls (by omega) (by omega) hs hi ((show sc1 1 = (sc 1) + 1 by rw [esc1]; rfl)) (fun i => Or.inl rfl) (fun i h => absurd h (by omega)) hl hP hD hS
set_option maxHeartbeats 8000000 in
set_option maxRecDepth 100000 in
theorem t_MO_tick (l : Launch) (dC : Nat → ClassId) (dI : Nat → Nat → Nat) (g0 : Nat) (ad : Nat → Nat) (kI kZ : ClassId) (sc : Nat → Int32) (ia : Nat → Nat → Int32) (sz Bd : Nat) (T : Int) (N : Nat) (hI : MI T N sc ia) (hT1 : (sc 1).toInt + 1 ≤ T) : Met l y_MO_tick w_MO_tick ({ frames := 6, cells := 0, slots := 0, locals := 139 }) (frP (dC, dI) (MOW g0 ad kI kZ sc ia) (MOT kI kZ) sz Bd [.ref g0]) (tQ (dC, dI) (mW g0 ad kI kZ) (va_A (MOW g0 ad kI kZ sc ia) sz) vI (fun r u => same [0, 1, 21, 28] sc u.1 ∧ same [11, 12, 13, 14, 15, 16, 17, 18, 19, 20, 22, 23, 24, 25, 26, 27, 29] ia u.2 ∧ MI T N u.1 u.2 ∧ u.1 1 = sc 1 + 1 ∧ u.1 0 = 0)) 0 0 (va_A (MOW g0 ad kI kZ sc ia) sz) := by
  refine Met.ofW (cc := c_MO_tick) (maxL := 2) (ret := (some .int)) (by decide) rfl ?_
  intro p e s m args below meth c s₁ B hml hv
  obtain ⟨rfl, ⟨hsz, hBs⟩, hP, hK, hD0, hV⟩ := hv
  have hx := B.exec
  have hb := B.bytes
  have hr := B.returns
  have ht : ∀ w ∈ tb_, w.before _ s = true := fun w h => atoms_spec (ws := w_MO_tick) B.pre w (List.mem_cons_of_mem _ h)
  have hown : s.vm.findClass R_MO = some m.cls := findClass_of_methodNamed B.named
  have hlocks := B.notSynchronized
  subst hsz
  have hD := hD0.self (sz := s.heap.size)
  have hAB : ∀ q, va_A (MOW g0 ad kI kZ sc ia) s.heap.size q → Bd ≤ q := fr_AB hD0 hBs
  generalize hAe : va_A (MOW g0 ad kI kZ sc ia) s.heap.size = A at hD hAB ⊢
  have hA : ∀ q : Nat, s.heap.size ≤ q → A q := fun q h => by rw [← hAe]; exact Or.inr h
  have hS : va_S A s.heap s.heap [] := va_S.rf
  have hs : same [0, 1, 21, 28] sc sc := same.rf
  have hi : same [11, 12, 13, 14, 15, 16, 17, 18, 19, 20, 22, 23, 24, 25, 26, 27, 29] ia ia := same.rf
  have hP : va_P (dC, dI) cls_ (MOW g0 ad kI kZ sc ia) s.heap := hP
  have hl := lv_entry ([.ref g0]) (n := 2) (Nat.le_of_ble_eq_true rfl)
  rw [lg_entry_eq]
  generalize (lg_sl ([.ref g0]) ++ List.replicate (2 - (lg_sl ([.ref g0])).length) Slot.unset).toArray = ls at hl ⊢
  have hl : lv_has ls 2 [(0, .ref g0)] := hl
  have e4 := hI.e4
  have hN := hI.hN
  have hT := hI.T
  refine lv_aload_n hx hb d_MO_tick_0 rfl (lv_at hl 0 rfl) ?_
  refine lv_iconst (v := 0) hx hb d_MO_tick_1 (by decide) ?_
  refine va_put (D := (dC, dI)) (ci := 5) (v := .int 0) (ty := .int) (C := R_MO) (T := F_MO) (N := 30) hx hb ht in_MO t_MO t_MO_ok n_MO hown hK hP hD hS 0 rfl rfl 0 (by decide) (ht _ tb_631) (fun _ h9 => h9) rfl (by decide +kernel) rfl rfl (Nat.le_of_ble_eq_true rfl) d_MO_tick_2 (fun H locs hP hD hS => ?_)
  have hP : va_P (dC, dI) cls_ (MOW g0 ad kI kZ (va_up sc 0 0) ia) H := hP
  have hD : va_D A (MOW g0 ad kI kZ (va_up sc 0 0) ia) := hD
  obtain ⟨sc1, esc1⟩ : ∃ q9_, q9_ = va_up sc 0 0 := ⟨_, rfl⟩
  rw [← esc1] at hP hD
  have hs : same [0, 1, 21, 28] sc sc1 := by rw [esc1]; exact hs.up (by decide)
  have hJ : MI T N sc1 ia := hI.same (by rw [esc1]; exact same.rf.up (by decide)) same.rf
  refine lv_aload_n hx hb d_MO_tick_5 rfl (lv_at hl 0 rfl) ?_
  refine t_call (u0 := (sc1, ia)) (va_runV (C := R_MO) (As := []) (rest := []) ⟨hx, hb, hml, hown, ht⟩ (t_MO_begin l dC dI g0 ad kI kZ sc1 ia H.size Bd T N hJ) (cwV 0 ht (gV tb_804 tb_806 ts_35 tb_5 tb_807) rfl rfl rfl (by decide +kernel) ⟨Nat.le_of_ble_eq_true rfl, Nat.le_of_ble_eq_true rfl⟩) ⟨frP_blind, va_recv (q := (R_MO, F_MO, 30)) hK hP rfl (show (MOW g0 ad kI kZ sc1 ia : va_W)[0]? = some _ from rfl), fr_pre hP hK hD hAB hBs hS hV⟩ rfl rfl hl.1 rfl (lv_room (Nat.le_of_ble_eq_true rfl)) d_MO_tick_6 ⟨Nat.le_of_ble_eq_true rfl, Nat.le_of_ble_eq_true rfl⟩) hD hS hA (fun r2 u H locs hu hP hD hS => ?_)
  obtain ⟨sc3, ia4⟩ := u
  obtain ⟨hu2_0, hu2_1, hu2_2⟩ := hu
  have hu2_0 : same [21] sc1 sc3 := hu2_0
  have hu2_1 : same [11, 12, 13, 22, 23, 24, 25, 26, 27] ia ia4 := hu2_1
  have hu2_2 : MI T N sc3 ia4 := hu2_2
  have hP : va_P (dC, dI) cls_ (MOW g0 ad kI kZ sc3 ia4) H := hP
  have hD : va_D A (MOW g0 ad kI kZ sc3 ia4) := hD
  have hs : same [0, 1, 21, 28] sc sc3 := hs.tr (hu2_0.wk (by decide))
  have hi : same [11, 12, 13, 14, 15, 16, 17, 18, 19, 20, 22, 23, 24, 25, 26, 27, 29] ia ia4 := hi.tr (hu2_1.wk (by decide))
  refine W.eq (g2 := F0 m 9 ls []) rfl ?_
  refine W.cs (cells' := 0) (slots' := 0) rfl rfl ?_
  have hJ : MI T N sc3 ia4 := hu2_2
  refine lv_aload_n hx hb d_MO_tick_9 rfl (lv_at hl 0 rfl) ?_
  refine r_call (va_runV (C := R_MO) (As := []) (rest := []) ⟨hx, hb, hml, hown, ht⟩ (t_MO_tuned l dC dI g0 ad kI kZ sc3 ia4 N hJ.e4 hN) (cwV 0 ht (gV tb_808 tb_810 ts_36 tb_5 tb_811) rfl rfl rfl (by decide +kernel) ⟨Nat.le_of_ble_eq_true rfl, Nat.le_of_ble_eq_true rfl⟩) ⟨rdP_blind, va_recv (q := (R_MO, F_MO, 30)) hK hP rfl (show (MOW g0 ad kI kZ sc3 ia4 : va_W)[0]? = some _ from rfl), rd_pre hP hK⟩ rfl rfl hl.1 rfl (lv_room (Nat.le_of_ble_eq_true rfl)) d_MO_tick_10 ⟨Nat.le_of_ble_eq_true rfl, Nat.le_of_ble_eq_true rfl⟩) (fun r5 hu => ?_)
  clear hu
  refine W.eq (g2 := F0 m 13 ls [.int r5]) rfl ?_
  refine lv_istore_n hx hb d_MO_tick_13 rfl hl (by decide) rfl (fun ls hl => ?_)
  have hl : lv_has ls 2 [(1, .int r5), (0, .ref g0)] := hl
  refine lv_aload_n hx hb d_MO_tick_14 rfl (lv_at hl 1 rfl) ?_
  refine t_call (u0 := (sc3, ia4)) (va_runV (C := R_MO) (As := []) (rest := []) ⟨hx, hb, hml, hown, ht⟩ (t_MO_recordAll l dC dI g0 ad kI kZ sc3 ia4 H.size Bd T N hJ) (cwV 0 ht (gV tb_812 tb_814 ts_37 tb_5 tb_815) rfl rfl rfl (by decide +kernel) ⟨Nat.le_of_ble_eq_true rfl, Nat.le_of_ble_eq_true rfl⟩) ⟨frP_blind, va_recv (q := (R_MO, F_MO, 30)) hK hP rfl (show (MOW g0 ad kI kZ sc3 ia4 : va_W)[0]? = some _ from rfl), fr_pre hP hK hD hAB hBs hS hV⟩ rfl rfl hl.1 rfl (lv_room (Nat.le_of_ble_eq_true rfl)) d_MO_tick_15 ⟨Nat.le_of_ble_eq_true rfl, Nat.le_of_ble_eq_true rfl⟩) hD hS hA (fun r6 u H locs hu hP hD hS => ?_)
  obtain ⟨sc7, ia8⟩ := u
  obtain ⟨hu6_0, hu6_1, hu6_2⟩ := hu
  have hu6_0 : same [] sc3 sc7 := hu6_0
  have hu6_1 : same [11, 14, 15, 16, 17, 18, 19, 20] ia4 ia8 := hu6_1
  have hu6_2 : stE (ia4 11) (ia8 11) := hu6_2
  have hP : va_P (dC, dI) cls_ (MOW g0 ad kI kZ sc7 ia8) H := hP
  have hD : va_D A (MOW g0 ad kI kZ sc7 ia8) := hD
  have hs : same [0, 1, 21, 28] sc sc7 := hs.tr (hu6_0.wk (by decide))
  have hi : same [11, 12, 13, 14, 15, 16, 17, 18, 19, 20, 22, 23, 24, 25, 26, 27, 29] ia ia8 := hi.tr (hu6_1.wk (by decide))
  refine W.eq (g2 := F0 m 18 ls [.int r6]) rfl ?_
  refine W.cs (cells' := 0) (slots' := 0) rfl rfl ?_
  have hJ : MI T N sc7 ia8 := MI_er hJ (hu6_0.wk (by decide)) (hu6_1.wk (by decide)) hu6_2
  refine lv_pop hx hb d_MO_tick_18 rfl ?_
  refine lv_aload_n hx hb d_MO_tick_19 rfl (lv_at hl 1 rfl) ?_
  refine lv_iload_n hx hb d_MO_tick_20 rfl (lv_at hl 0 rfl) ?_
  refine t_call (u0 := (sc7, ia8)) (va_runV (C := R_MO) (As := [.int r5]) (rest := []) ⟨hx, hb, hml, hown, ht⟩ (t_MO_keepBack l dC dI g0 ad kI kZ sc7 ia8 H.size Bd T N hJ r5) (cwV 1 ht (gV tb_840 tb_842 ts_44 tb_5 tb_843) rfl rfl rfl (by decide +kernel) ⟨Nat.le_of_ble_eq_true rfl, Nat.le_of_ble_eq_true rfl⟩) ⟨frP_blind, va_recv (q := (R_MO, F_MO, 30)) hK hP rfl (show (MOW g0 ad kI kZ sc7 ia8 : va_W)[0]? = some _ from rfl), fr_pre hP hK hD hAB hBs hS hV⟩ rfl rfl hl.1 rfl (lv_room (Nat.le_of_ble_eq_true rfl)) d_MO_tick_21 ⟨Nat.le_of_ble_eq_true rfl, Nat.le_of_ble_eq_true rfl⟩) hD hS hA (fun r9 u H locs hu hP hD hS => ?_)
  obtain ⟨sc10, ia11⟩ := u
  obtain ⟨hu9_0, hu9_1, hu9_2⟩ := hu
  have hu9_0 : same [28] sc7 sc10 := hu9_0
  have hu9_1 : same [29] ia8 ia11 := hu9_1
  have hu9_2 : (0 ≤ (sc10 28).toInt ∧ (sc10 28).toInt ≤ 30) := hu9_2
  have hP : va_P (dC, dI) cls_ (MOW g0 ad kI kZ sc10 ia11) H := hP
  have hD : va_D A (MOW g0 ad kI kZ sc10 ia11) := hD
  have hs : same [0, 1, 21, 28] sc sc10 := hs.tr (hu9_0.wk (by decide))
  have hi : same [11, 12, 13, 14, 15, 16, 17, 18, 19, 20, 22, 23, 24, 25, 26, 27, 29] ia ia11 := hi.tr (hu9_1.wk (by decide))
  refine W.eq (g2 := F0 m 24 ls []) rfl ?_
  refine W.cs (cells' := 0) (slots' := 0) rfl rfl ?_
  have hJ : MI T N sc10 ia11 := MI_bk hJ hu9_0 hu9_1 hu9_2
  refine lv_aload_n hx hb d_MO_tick_24 rfl (lv_at hl 1 rfl) ?_
  have h1b : sc10 1 = sc 1 := ((((hu9_0 1 (by decide))).trans (hu6_0 1 (by decide))).trans (hu2_0 1 (by decide))).trans (show sc1 1 = sc 1 by rw [esc1]; rfl)
  refine t_call (u0 := (sc10, ia11)) (va_runV (C := R_MO) (As := []) (rest := []) ⟨hx, hb, hml, hown, ht⟩ (t_MO_end l dC dI g0 ad kI kZ sc10 ia11 H.size Bd T N hJ (by rw [h1b]; exact hT1)) (cwV 0 ht (gV tb_844 tb_846 ts_45 tb_5 tb_847) rfl rfl rfl (by decide +kernel) ⟨Nat.le_of_ble_eq_true rfl, Nat.le_of_ble_eq_true rfl⟩) ⟨frP_blind, va_recv (q := (R_MO, F_MO, 30)) hK hP rfl (show (MOW g0 ad kI kZ sc10 ia11 : va_W)[0]? = some _ from rfl), fr_pre hP hK hD hAB hBs hS hV⟩ rfl rfl hl.1 rfl (lv_room (Nat.le_of_ble_eq_true rfl)) d_MO_tick_25 ⟨Nat.le_of_ble_eq_true rfl, Nat.le_of_ble_eq_true rfl⟩) hD hS hA (fun r12 u H locs hu hP hD hS => ?_)
  obtain ⟨sc13, ia14⟩ := u
  obtain ⟨hu12_0, hu12_1, hu12_2, hu12_3⟩ := hu
  have hu12_0 : same [1] sc10 sc13 := hu12_0
  have hu12_1 : same [11] ia11 ia14 := hu12_1
  have hu12_2 : MI T N sc13 ia14 := hu12_2
  have hu12_3 : sc13 1 = sc10 1 + 1 := hu12_3
  have hP : va_P (dC, dI) cls_ (MOW g0 ad kI kZ sc13 ia14) H := hP
  have hD : va_D A (MOW g0 ad kI kZ sc13 ia14) := hD
  have hs : same [0, 1, 21, 28] sc sc13 := hs.tr (hu12_0.wk (by decide))
  have hi : same [11, 12, 13, 14, 15, 16, 17, 18, 19, 20, 22, 23, 24, 25, 26, 27, 29] ia ia14 := hi.tr (hu12_1.wk (by decide))
  refine W.eq (g2 := F0 m 28 ls []) rfl ?_
  refine W.cs (cells' := 0) (slots' := 0) rfl rfl ?_
  have hJ : MI T N sc13 ia14 := hu12_2
  refine lv_iload_n hx hb d_MO_tick_28 rfl (lv_at hl 0 rfl) ?_
  have hz0 : MI T N sc13 ia14 := hJ
  have hz1 : sc13 1 = sc 1 + 1 := hu12_3.trans (by rw [h1b])
  have hz2 : sc13 0 = 0 := (((((hu12_0 0 (by decide))).trans (hu9_0 0 (by decide))).trans (hu6_0 0 (by decide))).trans (hu2_0 0 (by decide))).trans (show sc1 0 = 0 by rw [esc1]; rfl)
  exact W.iret (v := r5) hx hb hr (fun t ht9 hW => ⟨⟨r5, (sc13, ia14), rfl, ⟨hs, hi, hz0, hz1, hz2⟩, by rw [ht9]; exact hP, hD⟩, hS.F ht9⟩) hS.2.2 d_MO_tick_29
set_option maxHeartbeats 8000000 in
set_option maxRecDepth 100000 in
theorem t_MO_ticks_ok (l : Launch) (dC : Nat → ClassId) (dI : Nat → Nat → Nat) (g0 : Nat) (ad : Nat → Nat) (kI kZ : ClassId) (sc : Nat → Int32) (ia : Nat → Nat → Int32) (sz Bd : Nat) (T : Int) (N : Nat) (hI : MI T N sc ia) (M : Nat) (hM : 1 ≤ M ∧ M ≤ 100) (hT1 : (sc 1).toInt + 100 ≤ T) : Met l y_MO_ticks w_MO_ticks ({ frames := 6, cells := 0, slots := 0, locals := 139 }) (frP (dC, dI) (MOW g0 ad kI kZ sc ia) (MOT kI kZ) sz Bd [.ref g0, .int (nI M)]) (tQ (dC, dI) (mW g0 ad kI kZ) (va_A (MOW g0 ad kI kZ sc ia) sz) vI (fun r u => same [0, 1, 21, 28] sc u.1 ∧ same [11, 12, 13, 14, 15, 16, 17, 18, 19, 20, 22, 23, 24, 25, 26, 27, 29] ia u.2 ∧ MI T N u.1 u.2 ∧ u.1 1 = sc 1 + nI M ∧ u.1 0 = 0)) 0 0 (va_A (MOW g0 ad kI kZ sc ia) sz) := by
  refine Met.ofW (cc := c_MO_ticks) (maxL := 5) (ret := (some .int)) (by decide) rfl ?_
  intro p e s m args below meth c s₁ B hml hv
  obtain ⟨rfl, ⟨hsz, hBs⟩, hP, hK, hD0, hV⟩ := hv
  have hx := B.exec
  have hb := B.bytes
  have hr := B.returns
  have ht : ∀ w ∈ tb_, w.before _ s = true := fun w h => atoms_spec (ws := w_MO_ticks) B.pre w (List.mem_cons_of_mem _ h)
  have hown : s.vm.findClass R_MO = some m.cls := findClass_of_methodNamed B.named
  have hlocks := B.notSynchronized
  subst hsz
  have hD := hD0.self (sz := s.heap.size)
  have hAB : ∀ q, va_A (MOW g0 ad kI kZ sc ia) s.heap.size q → Bd ≤ q := fr_AB hD0 hBs
  generalize hAe : va_A (MOW g0 ad kI kZ sc ia) s.heap.size = A at hD hAB ⊢
  have hA : ∀ q : Nat, s.heap.size ≤ q → A q := fun q h => by rw [← hAe]; exact Or.inr h
  have hS : va_S A s.heap s.heap [] := va_S.rf
  have hs : same [0, 1, 21, 28] sc sc := same.rf
  have hi : same [11, 12, 13, 14, 15, 16, 17, 18, 19, 20, 22, 23, 24, 25, 26, 27, 29] ia ia := same.rf
  have hP : va_P (dC, dI) cls_ (MOW g0 ad kI kZ sc ia) s.heap := hP
  have hl := lv_entry ([.ref g0, .int (nI M)]) (n := 5) (Nat.le_of_ble_eq_true rfl)
  rw [lg_entry_eq]
  generalize (lg_sl ([.ref g0, .int (nI M)]) ++ List.replicate (5 - (lg_sl ([.ref g0, .int (nI M)])).length) Slot.unset).toArray = ls at hl ⊢
  have hl : lv_has ls 5 [(0, .ref g0), (1, .int (nI M))] := hl
  have e4 := hI.e4
  have hN := hI.hN
  have hT := hI.T
  refine lv_aload_n hx hb d_MO_ticks_0 rfl (lv_at hl 0 rfl) ?_
  refine lv_iload_n hx hb d_MO_ticks_1 rfl (lv_at hl 1 rfl) ?_
  refine lv_iconst (v := 1) hx hb d_MO_ticks_2 (by decide) ?_
  refine lv_icmp_lt (tgt := 12) hx hb d_MO_ticks_3 (by decide) (fun h3_1 => ?_) (fun h3_1 => ?_)
  · have h3_1 := h3_1
    have i3_1 := ti_lt h3_1
    (try rw [nI_toInt (show M < 2 ^ 31 by omega)] at i3_1)
    (try rw [l_1] at i3_1)
    exact absurd i3_1 (by omega)
  · have h3_1 := h3_1
    have i3_1 := ti_nlt h3_1
    (try rw [nI_toInt (show M < 2 ^ 31 by omega)] at i3_1)
    (try rw [l_1] at i3_1)
    refine lv_iload_n hx hb d_MO_ticks_6 rfl (lv_at hl 1 rfl) ?_
    refine lv_bipush (v := 100) hx hb d_MO_ticks_7 (by decide) ?_
    refine lv_icmp_le (tgt := 16) hx hb d_MO_ticks_9 (by decide) (fun h9_2 => ?_) (fun h9_2 => ?_)
    · have h9_2 := h9_2
      have i9_2 := ti_le h9_2
      (try rw [nI_toInt (show M < 2 ^ 31 by omega)] at i9_2)
      (try rw [l_100] at i9_2)
      refine lv_iconst (v := 0) hx hb d_MO_ticks_16 (by decide) ?_
      refine t_call (u0 := (sc, ia)) (va_runV (C := R_MO) (As := [.int 0]) (rest := []) ⟨hx, hb, hml, hown, ht⟩ (t_MO_refused l dC dI g0 ad kI kZ sc ia s.heap.size Bd 0) (cwV 1 ht (gV tb_732 tb_734 ts_23 tb_5 tb_735) rfl rfl rfl (by decide +kernel) ⟨Nat.le_of_ble_eq_true rfl, Nat.le_of_ble_eq_true rfl⟩) ⟨frP_blind, va_recv (q := (R_MO, F_MO, 30)) hK hP rfl (show (MOW g0 ad kI kZ sc ia : va_W)[0]? = some _ from rfl), fr_pre hP hK hD hAB hBs hS hV⟩ rfl rfl hl.1 rfl (lv_room (Nat.le_of_ble_eq_true rfl)) d_MO_ticks_17 ⟨Nat.le_of_ble_eq_true rfl, Nat.le_of_ble_eq_true rfl⟩) hD hS hA (fun r1 u H locs hu hP hD hS => ?_)
      obtain ⟨sc2, ia3⟩ := u
      obtain ⟨hu1_0, hu1_1, hu1_2, hu1_3⟩ := hu
      have hu1_0 : same [0] sc sc2 := hu1_0
      have hu1_1 : same [] ia ia3 := hu1_1
      have hu1_2 : sc2 0 = 0 := hu1_2
      have hu1_3 : ((0 : Int32) < 0 ∧ r1 = 1 ∨ ¬ (0 : Int32) < 0 ∧ r1 = 0) := hu1_3
      have hP : va_P (dC, dI) cls_ (MOW g0 ad kI kZ sc2 ia3) H := hP
      have hD : va_D A (MOW g0 ad kI kZ sc2 ia3) := hD
      have hs : same [0, 1, 21, 28] sc sc2 := hs.tr (hu1_0.wk (by decide))
      have hi : same [11, 12, 13, 14, 15, 16, 17, 18, 19, 20, 22, 23, 24, 25, 26, 27, 29] ia ia3 := hi.tr (hu1_1.wk (by decide))
      refine W.eq (g2 := F0 m 20 ls [.int r1]) rfl ?_
      refine W.cs (cells' := 0) (slots' := 0) rfl rfl ?_
      have hJ : MI T N sc2 ia3 := hI.same (hu1_0.wk (by decide)) (hu1_1.wk (by decide))
      obtain rfl : r1 = 0 := by rcases hu1_3 with ⟨q, _⟩ | ⟨_, q⟩; { exact absurd q (by decide) }; { exact q }
      refine lv_if_eq (tgt := 25) hx hb d_MO_ticks_20 (by decide) (fun _ => ?_) (fun h9 => absurd (by decide) h9)
      refine lv_iconst (v := 0) hx hb d_MO_ticks_25 (by decide) ?_
      refine lv_istore_n hx hb d_MO_ticks_26 rfl hl (by decide) rfl (fun ls hl => ?_)
      have hl : lv_has ls 5 [(2, .int 0), (0, .ref g0), (1, .int (nI M))] := hl
      refine lv_iconst (v := 0) hx hb d_MO_ticks_27 (by decide) ?_
      refine lv_istore_n hx hb d_MO_ticks_28 rfl hl (by decide) rfl (fun ls hl => ?_)
      have hl : lv_has ls 5 [(3, .int 0), (2, .int 0), (0, .ref g0), (1, .int (nI M))] := hl
      have J_29 : ∀ (n_29 : Nat) (k : Nat) (q : Int32) (sc_29 : Nat → Int32) (ia_29 : Nat → Nat → Int32) (H : Heap) (locs : List Loc) (ls : Array Slot), M - k < n_29 → k ≤ M → same [0, 1, 21, 28] sc sc_29 → same [11, 12, 13, 14, 15, 16, 17, 18, 19, 20, 22, 23, 24, 25, 26, 27, 29] ia ia_29 → MI T N sc_29 ia_29 → sc_29 1 = sc 1 + nI k → sc_29 0 = 0 → lv_has ls 5 [(3, .int (nI k)), (2, .int q), (1, .int (nI M)), (0, .ref g0)] → va_P (dC, dI) cls_ (MOW g0 ad kI kZ sc_29 ia_29) H → va_D A (MOW g0 ad kI kZ sc_29 ia_29) → va_S A s.heap H locs → W p l e (headSpec w_MO_ticks ({ frames := 6, cells := 0, slots := 0, locals := 139 })).room s m (([.ref g0, .int (nI M)] : List Value).toArray) below meth c H locs 0 0 (MQ below (tQ (dC, dI) (mW g0 ad kI kZ) A vI (fun r u => same [0, 1, 21, 28] sc u.1 ∧ same [11, 12, 13, 14, 15, 16, 17, 18, 19, 20, 22, 23, 24, 25, 26, 27, 29] ia u.2 ∧ MI T N u.1 u.2 ∧ u.1 1 = sc 1 + nI M ∧ u.1 0 = 0)) (([.ref g0, .int (nI M)] : List Value).toArray) s 0 0 A) (F0 m 29 ls []) := by
        intro n_29
        induction n_29 with
        | zero => intro k q sc_29 ia_29 H locs ls hmu hc29_0 hs hi hJ h29 h0 hl hP hD hS; exact absurd hmu (by omega)
        | succ n_29 ih_29 =>
          intro k q sc_29 ia_29 H locs ls hmu hc29_0 hs hi hJ h29 h0 hl hP hD hS
          refine lv_iload_n hx hb d_MO_ticks_29 rfl (lv_at hl 0 rfl) ?_
          refine lv_iload_n hx hb d_MO_ticks_30 rfl (lv_at hl 2 rfl) ?_
          refine lv_icmp_ge (tgt := 67) hx hb d_MO_ticks_31 (by decide) (fun h31_3 => ?_) (fun h31_3 => ?_)
          · have h31_3 := h31_3
            have i31_3 := ti_le h31_3
            (try rw [nI_toInt (show k < 2 ^ 31 by omega)] at i31_3)
            (try rw [nI_toInt (show M < 2 ^ 31 by omega)] at i31_3)
            refine lv_iload_n hx hb d_MO_ticks_67 rfl (lv_at hl 1 rfl) ?_
            have hz0 : MI T N sc_29 ia_29 := hJ
            have hz1 : sc_29 1 = sc 1 + nI M := by rw [h29, show k = M by omega]
            have hz2 : sc_29 0 = 0 := h0
            exact W.iret (v := q) hx hb hr (fun t ht9 hW => ⟨⟨q, (sc_29, ia_29), rfl, ⟨hs, hi, hz0, hz1, hz2⟩, by rw [ht9]; exact hP, hD⟩, hS.F ht9⟩) hS.2.2 d_MO_ticks_68
          · have h31_3 := h31_3
            have i31_3 := ti_nle h31_3
            (try rw [nI_toInt (show k < 2 ^ 31 by omega)] at i31_3)
            (try rw [nI_toInt (show M < 2 ^ 31 by omega)] at i31_3)
            refine lv_aload_n hx hb d_MO_ticks_34 rfl (lv_at hl 3 rfl) ?_
            refine t_call (u0 := (sc_29, ia_29)) (va_runV (C := R_MO) (As := []) (rest := []) ⟨hx, hb, hml, hown, ht⟩ (t_MO_begin l dC dI g0 ad kI kZ sc_29 ia_29 H.size Bd T N hJ) (cwV 0 ht (gV tb_804 tb_806 ts_35 tb_5 tb_807) rfl rfl rfl (by decide +kernel) ⟨Nat.le_of_ble_eq_true rfl, Nat.le_of_ble_eq_true rfl⟩) ⟨frP_blind, va_recv (q := (R_MO, F_MO, 30)) hK hP rfl (show (MOW g0 ad kI kZ sc_29 ia_29 : va_W)[0]? = some _ from rfl), fr_pre hP hK hD hAB hBs hS hV⟩ rfl rfl hl.1 rfl (lv_room (Nat.le_of_ble_eq_true rfl)) d_MO_ticks_35 ⟨Nat.le_of_ble_eq_true rfl, Nat.le_of_ble_eq_true rfl⟩) hD hS hA (fun r4 u H locs hu hP hD hS => ?_)
            obtain ⟨sc5, ia6⟩ := u
            obtain ⟨hu4_0, hu4_1, hu4_2⟩ := hu
            have hu4_0 : same [21] sc_29 sc5 := hu4_0
            have hu4_1 : same [11, 12, 13, 22, 23, 24, 25, 26, 27] ia_29 ia6 := hu4_1
            have hu4_2 : MI T N sc5 ia6 := hu4_2
            have hP : va_P (dC, dI) cls_ (MOW g0 ad kI kZ sc5 ia6) H := hP
            have hD : va_D A (MOW g0 ad kI kZ sc5 ia6) := hD
            have hs : same [0, 1, 21, 28] sc sc5 := hs.tr (hu4_0.wk (by decide))
            have hi : same [11, 12, 13, 14, 15, 16, 17, 18, 19, 20, 22, 23, 24, 25, 26, 27, 29] ia ia6 := hi.tr (hu4_1.wk (by decide))
            refine W.eq (g2 := F0 m 38 ls []) rfl ?_
            refine W.cs (cells' := 0) (slots' := 0) rfl rfl ?_
            have hJ : MI T N sc5 ia6 := hu4_2
            refine lv_aload_n hx hb d_MO_ticks_38 rfl (lv_at hl 3 rfl) ?_
            refine r_call (va_runV (C := R_MO) (As := []) (rest := []) ⟨hx, hb, hml, hown, ht⟩ (t_MO_tuned l dC dI g0 ad kI kZ sc5 ia6 N hJ.e4 hN) (cwV 0 ht (gV tb_808 tb_810 ts_36 tb_5 tb_811) rfl rfl rfl (by decide +kernel) ⟨Nat.le_of_ble_eq_true rfl, Nat.le_of_ble_eq_true rfl⟩) ⟨rdP_blind, va_recv (q := (R_MO, F_MO, 30)) hK hP rfl (show (MOW g0 ad kI kZ sc5 ia6 : va_W)[0]? = some _ from rfl), rd_pre hP hK⟩ rfl rfl hl.1 rfl (lv_room (Nat.le_of_ble_eq_true rfl)) d_MO_ticks_39 ⟨Nat.le_of_ble_eq_true rfl, Nat.le_of_ble_eq_true rfl⟩) (fun r7 hu => ?_)
            clear hu
            refine W.eq (g2 := F0 m 42 ls [.int r7]) rfl ?_
            refine lv_istore hx hb d_MO_ticks_42 hl (by decide) rfl (fun ls hl => ?_)
            have hl : lv_has ls 5 [(4, .int r7), (3, .int (nI k)), (2, .int q), (1, .int (nI M)), (0, .ref g0)] := hl
            refine lv_iload_n hx hb d_MO_ticks_44 rfl (lv_at hl 2 rfl) ?_
            refine lv_aload_n hx hb d_MO_ticks_45 rfl (lv_at hl 4 rfl) ?_
            refine t_call (u0 := (sc5, ia6)) (va_runV (C := R_MO) (As := []) (rest := [.int q]) ⟨hx, hb, hml, hown, ht⟩ (t_MO_recordAll l dC dI g0 ad kI kZ sc5 ia6 H.size Bd T N hJ) (cwV 0 ht (gV tb_812 tb_814 ts_37 tb_5 tb_815) rfl rfl rfl (by decide +kernel) ⟨Nat.le_of_ble_eq_true rfl, Nat.le_of_ble_eq_true rfl⟩) ⟨frP_blind, va_recv (q := (R_MO, F_MO, 30)) hK hP rfl (show (MOW g0 ad kI kZ sc5 ia6 : va_W)[0]? = some _ from rfl), fr_pre hP hK hD hAB hBs hS hV⟩ rfl rfl hl.1 rfl (lv_room (Nat.le_of_ble_eq_true rfl)) d_MO_ticks_46 ⟨Nat.le_of_ble_eq_true rfl, Nat.le_of_ble_eq_true rfl⟩) hD hS hA (fun r8 u H locs hu hP hD hS => ?_)
            obtain ⟨sc9, ia10⟩ := u
            obtain ⟨hu8_0, hu8_1, hu8_2⟩ := hu
            have hu8_0 : same [] sc5 sc9 := hu8_0
            have hu8_1 : same [11, 14, 15, 16, 17, 18, 19, 20] ia6 ia10 := hu8_1
            have hu8_2 : stE (ia6 11) (ia10 11) := hu8_2
            have hP : va_P (dC, dI) cls_ (MOW g0 ad kI kZ sc9 ia10) H := hP
            have hD : va_D A (MOW g0 ad kI kZ sc9 ia10) := hD
            have hs : same [0, 1, 21, 28] sc sc9 := hs.tr (hu8_0.wk (by decide))
            have hi : same [11, 12, 13, 14, 15, 16, 17, 18, 19, 20, 22, 23, 24, 25, 26, 27, 29] ia ia10 := hi.tr (hu8_1.wk (by decide))
            refine W.eq (g2 := F0 m 49 ls [.int r8, .int q]) rfl ?_
            refine W.cs (cells' := 0) (slots' := 0) rfl rfl ?_
            have hJ : MI T N sc9 ia10 := MI_er hJ (hu8_0.wk (by decide)) (hu8_1.wk (by decide)) hu8_2
            refine lv_iadd hx hb d_MO_ticks_49 ?_
            refine lv_istore_n hx hb d_MO_ticks_50 rfl hl (by decide) rfl (fun ls hl => ?_)
            have hl : lv_has ls 5 [(2, .int (q + r8)), (4, .int r7), (3, .int (nI k)), (1, .int (nI M)), (0, .ref g0)] := hl
            refine lv_aload_n hx hb d_MO_ticks_51 rfl (lv_at hl 4 rfl) ?_
            refine lv_iload hx hb d_MO_ticks_52 (lv_at hl 1 rfl) ?_
            refine t_call (u0 := (sc9, ia10)) (va_runV (C := R_MO) (As := [.int r7]) (rest := []) ⟨hx, hb, hml, hown, ht⟩ (t_MO_keepBack l dC dI g0 ad kI kZ sc9 ia10 H.size Bd T N hJ r7) (cwV 1 ht (gV tb_840 tb_842 ts_44 tb_5 tb_843) rfl rfl rfl (by decide +kernel) ⟨Nat.le_of_ble_eq_true rfl, Nat.le_of_ble_eq_true rfl⟩) ⟨frP_blind, va_recv (q := (R_MO, F_MO, 30)) hK hP rfl (show (MOW g0 ad kI kZ sc9 ia10 : va_W)[0]? = some _ from rfl), fr_pre hP hK hD hAB hBs hS hV⟩ rfl rfl hl.1 rfl (lv_room (Nat.le_of_ble_eq_true rfl)) d_MO_ticks_54 ⟨Nat.le_of_ble_eq_true rfl, Nat.le_of_ble_eq_true rfl⟩) hD hS hA (fun r11 u H locs hu hP hD hS => ?_)
            obtain ⟨sc12, ia13⟩ := u
            obtain ⟨hu11_0, hu11_1, hu11_2⟩ := hu
            have hu11_0 : same [28] sc9 sc12 := hu11_0
            have hu11_1 : same [29] ia10 ia13 := hu11_1
            have hu11_2 : (0 ≤ (sc12 28).toInt ∧ (sc12 28).toInt ≤ 30) := hu11_2
            have hP : va_P (dC, dI) cls_ (MOW g0 ad kI kZ sc12 ia13) H := hP
            have hD : va_D A (MOW g0 ad kI kZ sc12 ia13) := hD
            have hs : same [0, 1, 21, 28] sc sc12 := hs.tr (hu11_0.wk (by decide))
            have hi : same [11, 12, 13, 14, 15, 16, 17, 18, 19, 20, 22, 23, 24, 25, 26, 27, 29] ia ia13 := hi.tr (hu11_1.wk (by decide))
            refine W.eq (g2 := F0 m 57 ls []) rfl ?_
            refine W.cs (cells' := 0) (slots' := 0) rfl rfl ?_
            have hJ : MI T N sc12 ia13 := MI_bk hJ hu11_0 hu11_1 hu11_2
            refine lv_aload_n hx hb d_MO_ticks_57 rfl (lv_at hl 4 rfl) ?_
            have h1b : sc12 1 = sc_29 1 := (((hu11_0 1 (by decide))).trans (hu8_0 1 (by decide))).trans (hu4_0 1 (by decide))
            refine t_call (u0 := (sc12, ia13)) (va_runV (C := R_MO) (As := []) (rest := []) ⟨hx, hb, hml, hown, ht⟩ (t_MO_end l dC dI g0 ad kI kZ sc12 ia13 H.size Bd T N hJ (by rw [h1b, h29, ti_add (by rw [nI_toInt (by omega)]; omega) (by rw [nI_toInt (by omega)]; omega), nI_toInt (by omega)]; omega)) (cwV 0 ht (gV tb_844 tb_846 ts_45 tb_5 tb_847) rfl rfl rfl (by decide +kernel) ⟨Nat.le_of_ble_eq_true rfl, Nat.le_of_ble_eq_true rfl⟩) ⟨frP_blind, va_recv (q := (R_MO, F_MO, 30)) hK hP rfl (show (MOW g0 ad kI kZ sc12 ia13 : va_W)[0]? = some _ from rfl), fr_pre hP hK hD hAB hBs hS hV⟩ rfl rfl hl.1 rfl (lv_room (Nat.le_of_ble_eq_true rfl)) d_MO_ticks_58 ⟨Nat.le_of_ble_eq_true rfl, Nat.le_of_ble_eq_true rfl⟩) hD hS hA (fun r14 u H locs hu hP hD hS => ?_)
            obtain ⟨sc15, ia16⟩ := u
            obtain ⟨hu14_0, hu14_1, hu14_2, hu14_3⟩ := hu
            have hu14_0 : same [1] sc12 sc15 := hu14_0
            have hu14_1 : same [11] ia13 ia16 := hu14_1
            have hu14_2 : MI T N sc15 ia16 := hu14_2
            have hu14_3 : sc15 1 = sc12 1 + 1 := hu14_3
            have hP : va_P (dC, dI) cls_ (MOW g0 ad kI kZ sc15 ia16) H := hP
            have hD : va_D A (MOW g0 ad kI kZ sc15 ia16) := hD
            have hs : same [0, 1, 21, 28] sc sc15 := hs.tr (hu14_0.wk (by decide))
            have hi : same [11, 12, 13, 14, 15, 16, 17, 18, 19, 20, 22, 23, 24, 25, 26, 27, 29] ia ia16 := hi.tr (hu14_1.wk (by decide))
            refine W.eq (g2 := F0 m 61 ls []) rfl ?_
            refine W.cs (cells' := 0) (slots' := 0) rfl rfl ?_
            have hJ : MI T N sc15 ia16 := hu14_2
            refine lv_iinc (k := 2) (v := nI (k + 1)) hx hb d_MO_ticks_61 hl rfl ((nI_succ k).symm) (by decide) rfl (fun ls hl => ?_)
            have hl : lv_has ls 5 [(3, .int (nI (k + 1))), (2, .int (q + r8)), (4, .int r7), (1, .int (nI M)), (0, .ref g0)] := hl
            refine lv_goto (tgt := 29) hx hb d_MO_ticks_64 (by decide) ?_
            have hl := lv_sub hl [0, 1, 3, 4] (l' := [(3, .int (nI (k + 1))), (2, .int (q + r8)), (1, .int (nI M)), (0, .ref g0)]) rfl
            exact ih_29 (k + 1) (q + r8) sc15 ia16 H _ ls (by omega) (by omega) hs hi (hJ) (by rw [show sc15 1 = sc_29 1 + 1 from hu14_3.trans (by rw [h1b]), h29, nI_succ, Int32.add_assoc]) ((((((hu14_0 0 (by decide))).trans (hu11_0 0 (by decide))).trans (hu8_0 0 (by decide))).trans (hu4_0 0 (by decide))).trans h0) hl hP hD hS
      have hl := lv_sub hl [0, 1, 3, 2] (l' := [(3, .int 0), (2, .int 0), (1, .int (nI M)), (0, .ref g0)]) rfl
      have hl : lv_has ls 5 [(3, .int (nI 0)), (2, .int 0), (1, .int (nI M)), (0, .ref g0)] := hl
      exact J_29 ((M - 0) + 1) 0 0 sc2 ia3 H _ ls (by omega) (by omega) hs hi (hJ) (by rw [show sc2 1 = sc 1 from (hu1_0 1 (by decide))]; exact (Int32.add_zero _).symm) (hu1_2) hl hP hD hS
    · have h9_2 := h9_2
      have i9_2 := ti_nle h9_2
      (try rw [nI_toInt (show M < 2 ^ 31 by omega)] at i9_2)
      (try rw [l_100] at i9_2)
      exact absurd i9_2 (by omega)
set_option maxHeartbeats 8000000 in
set_option maxRecDepth 100000 in
theorem t_MO_ticks_bad (l : Launch) (dC : Nat → ClassId) (dI : Nat → Nat → Nat) (g0 : Nat) (ad : Nat → Nat) (kI kZ : ClassId) (sc : Nat → Int32) (ia : Nat → Nat → Int32) (sz Bd : Nat) (T : Int) (N : Nat) (hI : MI T N sc ia) (x : Int32) (hx9 : ¬ (1 ≤ x.toInt ∧ x.toInt ≤ 100)) : Met l y_MO_ticks w_MO_ticks ({ frames := 1, cells := 0, slots := 0, locals := 21 }) (frP (dC, dI) (MOW g0 ad kI kZ sc ia) (MOT kI kZ) sz Bd [.ref g0, .int x]) (tQ (dC, dI) (mW g0 ad kI kZ) (va_A (MOW g0 ad kI kZ sc ia) sz) vI (fun r u => same [0] sc u.1 ∧ same [] ia u.2 ∧ MI T N u.1 u.2 ∧ u.1 0 = 1)) 0 0 (va_A (MOW g0 ad kI kZ sc ia) sz) := by
  refine Met.ofW (cc := c_MO_ticks) (maxL := 5) (ret := (some .int)) (by decide) rfl ?_
  intro p e s m args below meth c s₁ B hml hv
  obtain ⟨rfl, ⟨hsz, hBs⟩, hP, hK, hD0, hV⟩ := hv
  have hx := B.exec
  have hb := B.bytes
  have hr := B.returns
  have ht : ∀ w ∈ tb_, w.before _ s = true := fun w h => atoms_spec (ws := w_MO_ticks) B.pre w (List.mem_cons_of_mem _ h)
  have hown : s.vm.findClass R_MO = some m.cls := findClass_of_methodNamed B.named
  have hlocks := B.notSynchronized
  subst hsz
  have hD := hD0.self (sz := s.heap.size)
  have hAB : ∀ q, va_A (MOW g0 ad kI kZ sc ia) s.heap.size q → Bd ≤ q := fr_AB hD0 hBs
  generalize hAe : va_A (MOW g0 ad kI kZ sc ia) s.heap.size = A at hD hAB ⊢
  have hA : ∀ q : Nat, s.heap.size ≤ q → A q := fun q h => by rw [← hAe]; exact Or.inr h
  have hS : va_S A s.heap s.heap [] := va_S.rf
  have hs : same [0] sc sc := same.rf
  have hi : same [] ia ia := same.rf
  have hP : va_P (dC, dI) cls_ (MOW g0 ad kI kZ sc ia) s.heap := hP
  have hl := lv_entry ([.ref g0, .int x]) (n := 5) (Nat.le_of_ble_eq_true rfl)
  rw [lg_entry_eq]
  generalize (lg_sl ([.ref g0, .int x]) ++ List.replicate (5 - (lg_sl ([.ref g0, .int x])).length) Slot.unset).toArray = ls at hl ⊢
  have hl : lv_has ls 5 [(0, .ref g0), (1, .int x)] := hl
  have e4 := hI.e4
  have hN := hI.hN
  have hT := hI.T
  refine lv_aload_n hx hb d_MO_ticks_0 rfl (lv_at hl 0 rfl) ?_
  refine lv_iload_n hx hb d_MO_ticks_1 rfl (lv_at hl 1 rfl) ?_
  refine lv_iconst (v := 1) hx hb d_MO_ticks_2 (by decide) ?_
  refine lv_icmp_lt (tgt := 12) hx hb d_MO_ticks_3 (by decide) (fun h3_1 => ?_) (fun h3_1 => ?_)
  · have h3_1 := h3_1
    have i3_1 := ti_lt h3_1
    (try rw [l_1] at i3_1)
    refine lv_iconst (v := 1) hx hb d_MO_ticks_12 (by decide) ?_
    refine lv_goto (tgt := 17) hx hb d_MO_ticks_13 (by decide) ?_
    refine t_call (u0 := (sc, ia)) (va_runV (C := R_MO) (As := [.int 1]) (rest := []) ⟨hx, hb, hml, hown, ht⟩ (t_MO_refused l dC dI g0 ad kI kZ sc ia s.heap.size Bd 1) (cwV 1 ht (gV tb_732 tb_734 ts_23 tb_5 tb_735) rfl rfl rfl (by decide +kernel) ⟨Nat.le_of_ble_eq_true rfl, Nat.le_of_ble_eq_true rfl⟩) ⟨frP_blind, va_recv (q := (R_MO, F_MO, 30)) hK hP rfl (show (MOW g0 ad kI kZ sc ia : va_W)[0]? = some _ from rfl), fr_pre hP hK hD hAB hBs hS hV⟩ rfl rfl hl.1 rfl (lv_room (Nat.le_of_ble_eq_true rfl)) d_MO_ticks_17 ⟨Nat.le_of_ble_eq_true rfl, Nat.le_of_ble_eq_true rfl⟩) hD hS hA (fun r1 u H locs hu hP hD hS => ?_)
    obtain ⟨sc2, ia3⟩ := u
    obtain ⟨hu1_0, hu1_1, hu1_2, hu1_3⟩ := hu
    have hu1_0 : same [0] sc sc2 := hu1_0
    have hu1_1 : same [] ia ia3 := hu1_1
    have hu1_2 : sc2 0 = 1 := hu1_2
    have hu1_3 : ((0 : Int32) < 1 ∧ r1 = 1 ∨ ¬ (0 : Int32) < 1 ∧ r1 = 0) := hu1_3
    have hP : va_P (dC, dI) cls_ (MOW g0 ad kI kZ sc2 ia3) H := hP
    have hD : va_D A (MOW g0 ad kI kZ sc2 ia3) := hD
    have hs : same [0] sc sc2 := hs.tr (hu1_0.wk (by decide))
    have hi : same [] ia ia3 := hi.tr (hu1_1.wk (by decide))
    refine W.eq (g2 := F0 m 20 ls [.int r1]) rfl ?_
    refine W.cs (cells' := 0) (slots' := 0) rfl rfl ?_
    have hJ : MI T N sc2 ia3 := hI.same (hu1_0.wk (by decide)) (hu1_1.wk (by decide))
    obtain rfl : r1 = 1 := by rcases hu1_3 with ⟨_, q⟩ | ⟨q, _⟩; { exact q }; { exact absurd (by decide) q }
    refine lv_if_eq (tgt := 25) hx hb d_MO_ticks_20 (by decide) (fun h9 => absurd h9 (by decide)) (fun _ => ?_)
    refine lv_iconst (v := 0) hx hb d_MO_ticks_23 (by decide) ?_
    have hz0 : MI T N sc2 ia3 := hJ
    have hz1 : sc2 0 = 1 := hu1_2
    exact W.iret (v := 0) hx hb hr (fun t ht9 hW => ⟨⟨0, (sc2, ia3), rfl, ⟨hs, hi, hz0, hz1⟩, by rw [ht9]; exact hP, hD⟩, hS.F ht9⟩) hS.2.2 d_MO_ticks_24
  · have h3_1 := h3_1
    have i3_1 := ti_nlt h3_1
    (try rw [l_1] at i3_1)
    refine lv_iload_n hx hb d_MO_ticks_6 rfl (lv_at hl 1 rfl) ?_
    refine lv_bipush (v := 100) hx hb d_MO_ticks_7 (by decide) ?_
    refine lv_icmp_le (tgt := 16) hx hb d_MO_ticks_9 (by decide) (fun h9_2 => ?_) (fun h9_2 => ?_)
    · have h9_2 := h9_2
      have i9_2 := ti_le h9_2
      (try rw [l_100] at i9_2)
      exact absurd ⟨by omega, by omega⟩ hx9
    · have h9_2 := h9_2
      have i9_2 := ti_nle h9_2
      (try rw [l_100] at i9_2)
      refine lv_iconst (v := 1) hx hb d_MO_ticks_12 (by decide) ?_
      refine lv_goto (tgt := 17) hx hb d_MO_ticks_13 (by decide) ?_
      refine t_call (u0 := (sc, ia)) (va_runV (C := R_MO) (As := [.int 1]) (rest := []) ⟨hx, hb, hml, hown, ht⟩ (t_MO_refused l dC dI g0 ad kI kZ sc ia s.heap.size Bd 1) (cwV 1 ht (gV tb_732 tb_734 ts_23 tb_5 tb_735) rfl rfl rfl (by decide +kernel) ⟨Nat.le_of_ble_eq_true rfl, Nat.le_of_ble_eq_true rfl⟩) ⟨frP_blind, va_recv (q := (R_MO, F_MO, 30)) hK hP rfl (show (MOW g0 ad kI kZ sc ia : va_W)[0]? = some _ from rfl), fr_pre hP hK hD hAB hBs hS hV⟩ rfl rfl hl.1 rfl (lv_room (Nat.le_of_ble_eq_true rfl)) d_MO_ticks_17 ⟨Nat.le_of_ble_eq_true rfl, Nat.le_of_ble_eq_true rfl⟩) hD hS hA (fun r4 u H locs hu hP hD hS => ?_)
      obtain ⟨sc5, ia6⟩ := u
      obtain ⟨hu4_0, hu4_1, hu4_2, hu4_3⟩ := hu
      have hu4_0 : same [0] sc sc5 := hu4_0
      have hu4_1 : same [] ia ia6 := hu4_1
      have hu4_2 : sc5 0 = 1 := hu4_2
      have hu4_3 : ((0 : Int32) < 1 ∧ r4 = 1 ∨ ¬ (0 : Int32) < 1 ∧ r4 = 0) := hu4_3
      have hP : va_P (dC, dI) cls_ (MOW g0 ad kI kZ sc5 ia6) H := hP
      have hD : va_D A (MOW g0 ad kI kZ sc5 ia6) := hD
      have hs : same [0] sc sc5 := hs.tr (hu4_0.wk (by decide))
      have hi : same [] ia ia6 := hi.tr (hu4_1.wk (by decide))
      refine W.eq (g2 := F0 m 20 ls [.int r4]) rfl ?_
      refine W.cs (cells' := 0) (slots' := 0) rfl rfl ?_
      have hJ : MI T N sc5 ia6 := hI.same (hu4_0.wk (by decide)) (hu4_1.wk (by decide))
      obtain rfl : r4 = 1 := by rcases hu4_3 with ⟨_, q⟩ | ⟨q, _⟩; { exact q }; { exact absurd (by decide) q }
      refine lv_if_eq (tgt := 25) hx hb d_MO_ticks_20 (by decide) (fun h9 => absurd h9 (by decide)) (fun _ => ?_)
      refine lv_iconst (v := 0) hx hb d_MO_ticks_23 (by decide) ?_
      have hz0 : MI T N sc5 ia6 := hJ
      have hz1 : sc5 0 = 1 := hu4_2
      exact W.iret (v := 0) hx hb hr (fun t ht9 hW => ⟨⟨0, (sc5, ia6), rfl, ⟨hs, hi, hz0, hz1⟩, by rw [ht9]; exact hP, hD⟩, hS.F ht9⟩) hS.2.2 d_MO_ticks_24
