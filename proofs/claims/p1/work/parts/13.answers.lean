abbrev c_PL_takeRunning : ByteArray := prog_3_method_4_code
abbrev y_PL_takeRunning : MethodName := ⟨"TwinTuners$Plan", "takeRunning", "(I)V"⟩
def w_PL_takeRunning : List Cond := .code y_PL_takeRunning c_PL_takeRunning 4 none :: tb_
abbrev c_PL_takeCores : ByteArray := prog_3_method_5_code
abbrev y_PL_takeCores : MethodName := ⟨"TwinTuners$Plan", "takeCores", "()V"⟩
def w_PL_takeCores : List Cond := .code y_PL_takeCores c_PL_takeCores 3 none :: tb_
abbrev c_PL_padRunning : ByteArray := prog_3_method_6_code
abbrev y_PL_padRunning : MethodName := ⟨"TwinTuners$Plan", "padRunning", "(I)V"⟩
def w_PL_padRunning : List Cond := .code y_PL_padRunning c_PL_padRunning 3 none :: tb_
abbrev c_PL_padWaiting : ByteArray := prog_3_method_7_code
abbrev y_PL_padWaiting : MethodName := ⟨"TwinTuners$Plan", "padWaiting", "(I)V"⟩
def w_PL_padWaiting : List Cond := .code y_PL_padWaiting c_PL_padWaiting 4 none :: tb_
abbrev c_PL_make : ByteArray := prog_3_method_2_code
abbrev y_PL_make : MethodName := ⟨"TwinTuners$Plan", "make", "([LTwinTuners$Request;II)V"⟩
def w_PL_make : List Cond := .code y_PL_make c_PL_make 5 none :: tb_
abbrev c_TT_tune : ByteArray := prog_1_method_29_code
abbrev y_TT_tune : MethodName := ⟨"TwinTuners", "tune", "()I"⟩
def w_TT_tune : List Cond := .code y_TT_tune c_TT_tune 4 (some .int) :: tb_
abbrev c_TT_passSecond : ByteArray := prog_1_method_30_code
abbrev y_TT_passSecond : MethodName := ⟨"TwinTuners", "passSecond", "(I)I"⟩
def w_TT_passSecond : List Cond := .code y_TT_passSecond c_TT_passSecond 4 (some .int) :: tb_
abbrev c_TT_tick : ByteArray := prog_1_method_8_code
abbrev y_TT_tick : MethodName := ⟨"TwinTuners", "tick", "()I"⟩
def w_TT_tick : List Cond := .code y_TT_tick c_TT_tick 2 (some .int) :: tb_
abbrev c_RW_forget : ByteArray := prog_5_method_2_code
abbrev y_RW_forget : MethodName := ⟨"TwinTuners$Rewind", "forget", "()V"⟩
def w_RW_forget : List Cond := .code y_RW_forget c_RW_forget 1 none :: tb_
abbrev c_RW_secondsAgo : ByteArray := prog_5_method_4_code
abbrev y_RW_secondsAgo : MethodName := ⟨"TwinTuners$Rewind", "secondsAgo", "(I)J"⟩
def w_RW_secondsAgo : List Cond := .code y_RW_secondsAgo c_RW_secondsAgo 2 (some .long) :: tb_
abbrev c_TT_back : ByteArray := prog_1_method_12_code
abbrev y_TT_back : MethodName := ⟨"TwinTuners", "back", "(I)J"⟩
def w_TT_back : List Cond := .code y_TT_back c_TT_back 2 (some .long) :: tb_
abbrev c_DK_segmentsOf : ByteArray := prog_2_method_3_code
abbrev y_DK_segmentsOf : MethodName := ⟨"TwinTuners$Disk", "segmentsOf", "(I)I"⟩
def w_DK_segmentsOf : List Cond := .code y_DK_segmentsOf c_DK_segmentsOf 4 (some .int) :: tb_
abbrev c_DK_freeSegments : ByteArray := prog_2_method_2_code
abbrev y_DK_freeSegments : MethodName := ⟨"TwinTuners$Disk", "freeSegments", "()I"⟩
def w_DK_freeSegments : List Cond := .code y_DK_freeSegments c_DK_freeSegments 1 (some .int) :: tb_
abbrev c_TT_free : ByteArray := prog_1_method_19_code
abbrev y_TT_free : MethodName := ⟨"TwinTuners", "free", "()I"⟩
def w_TT_free : List Cond := .code y_TT_free c_TT_free 1 (some .int) :: tb_
set_option maxRecDepth 100000 in
theorem tb_11 : (.initialized "TwinTuners$Request" : Cond) ∈ tb_ := tb_w 11 rfl rfl
set_option maxRecDepth 100000 in
theorem tb_103 : (.code ⟨"TwinTuners", "tick", "()I"⟩ prog_1_method_8_code 2 (some .int) : Cond) ∈ tb_ := tb_w 103 rfl rfl
set_option maxRecDepth 100000 in
theorem tb_104 : (.methodLink "TwinTuners" 121 ⟨"TwinTuners", "tune", "()I"⟩ : Cond) ∈ tb_ := tb_w 104 rfl rfl
set_option maxRecDepth 100000 in
theorem tb_106 : (.instanceMethod ⟨"TwinTuners", "tune", "()I"⟩ : Cond) ∈ tb_ := tb_w 106 rfl rfl
set_option maxRecDepth 100000 in
theorem tb_107 : (.code ⟨"TwinTuners", "tune", "()I"⟩ prog_1_method_29_code 4 (some .int) : Cond) ∈ tb_ := tb_w 107 rfl rfl
set_option maxRecDepth 100000 in
theorem tb_108 : (.methodLink "TwinTuners" 97 ⟨"TwinTuners$Plan", "make", "([LTwinTuners$Request;II)V"⟩ : Cond) ∈ tb_ := tb_w 108 rfl rfl
set_option maxRecDepth 100000 in
theorem tb_109 : (.instanceMethod ⟨"TwinTuners$Plan", "make", "([LTwinTuners$Request;II)V"⟩ : Cond) ∈ tb_ := tb_w 109 rfl rfl
set_option maxRecDepth 100000 in
theorem tb_110 : (.selects "TwinTuners$Plan" ⟨"TwinTuners$Plan", "make", "([LTwinTuners$Request;II)V"⟩ ⟨"TwinTuners$Plan", "make", "([LTwinTuners$Request;II)V"⟩ : Cond) ∈ tb_ := tb_w 110 rfl rfl
set_option maxRecDepth 100000 in
theorem tb_111 : (.code ⟨"TwinTuners$Plan", "make", "([LTwinTuners$Request;II)V"⟩ prog_3_method_2_code 5 none : Cond) ∈ tb_ := tb_w 111 rfl rfl
set_option maxRecDepth 100000 in
theorem tb_124 : (.methodLink "TwinTuners$Plan" 29 ⟨"TwinTuners$Plan", "takeRunning", "(I)V"⟩ : Cond) ∈ tb_ := tb_w 124 rfl rfl
set_option maxRecDepth 100000 in
theorem tb_126 : (.instanceMethod ⟨"TwinTuners$Plan", "takeRunning", "(I)V"⟩ : Cond) ∈ tb_ := tb_w 126 rfl rfl
set_option maxRecDepth 100000 in
theorem tb_127 : (.code ⟨"TwinTuners$Plan", "takeRunning", "(I)V"⟩ prog_3_method_4_code 4 none : Cond) ∈ tb_ := tb_w 127 rfl rfl
set_option maxRecDepth 100000 in
theorem tb_128 : (.methodLink "TwinTuners$Plan" 33 ⟨"TwinTuners$Plan", "takeCores", "()V"⟩ : Cond) ∈ tb_ := tb_w 128 rfl rfl
set_option maxRecDepth 100000 in
theorem tb_130 : (.instanceMethod ⟨"TwinTuners$Plan", "takeCores", "()V"⟩ : Cond) ∈ tb_ := tb_w 130 rfl rfl
set_option maxRecDepth 100000 in
theorem tb_131 : (.code ⟨"TwinTuners$Plan", "takeCores", "()V"⟩ prog_3_method_5_code 3 none : Cond) ∈ tb_ := tb_w 131 rfl rfl
set_option maxRecDepth 100000 in
theorem tb_146 : (.methodLink "TwinTuners$Plan" 36 ⟨"TwinTuners$Plan", "padRunning", "(I)V"⟩ : Cond) ∈ tb_ := tb_w 146 rfl rfl
set_option maxRecDepth 100000 in
theorem tb_148 : (.instanceMethod ⟨"TwinTuners$Plan", "padRunning", "(I)V"⟩ : Cond) ∈ tb_ := tb_w 148 rfl rfl
set_option maxRecDepth 100000 in
theorem tb_149 : (.code ⟨"TwinTuners$Plan", "padRunning", "(I)V"⟩ prog_3_method_6_code 3 none : Cond) ∈ tb_ := tb_w 149 rfl rfl
set_option maxRecDepth 100000 in
theorem tb_154 : (.methodLink "TwinTuners$Plan" 39 ⟨"TwinTuners$Plan", "padWaiting", "(I)V"⟩ : Cond) ∈ tb_ := tb_w 154 rfl rfl
set_option maxRecDepth 100000 in
theorem tb_156 : (.instanceMethod ⟨"TwinTuners$Plan", "padWaiting", "(I)V"⟩ : Cond) ∈ tb_ := tb_w 156 rfl rfl
set_option maxRecDepth 100000 in
theorem tb_157 : (.code ⟨"TwinTuners$Plan", "padWaiting", "(I)V"⟩ prog_3_method_7_code 4 none : Cond) ∈ tb_ := tb_w 157 rfl rfl
set_option maxRecDepth 100000 in
theorem tb_172 : (.methodLink "TwinTuners" 124 ⟨"TwinTuners", "passSecond", "(I)I"⟩ : Cond) ∈ tb_ := tb_w 172 rfl rfl
set_option maxRecDepth 100000 in
theorem tb_174 : (.instanceMethod ⟨"TwinTuners", "passSecond", "(I)I"⟩ : Cond) ∈ tb_ := tb_w 174 rfl rfl
set_option maxRecDepth 100000 in
theorem tb_175 : (.code ⟨"TwinTuners", "passSecond", "(I)I"⟩ prog_1_method_30_code 4 (some .int) : Cond) ∈ tb_ := tb_w 175 rfl rfl
set_option maxRecDepth 100000 in
theorem tb_188 : (.methodLink "TwinTuners" 166 ⟨"TwinTuners$Disk", "freeSegments", "()I"⟩ : Cond) ∈ tb_ := tb_w 188 rfl rfl
set_option maxRecDepth 100000 in
theorem tb_189 : (.instanceMethod ⟨"TwinTuners$Disk", "freeSegments", "()I"⟩ : Cond) ∈ tb_ := tb_w 189 rfl rfl
set_option maxRecDepth 100000 in
theorem tb_190 : (.selects "TwinTuners$Disk" ⟨"TwinTuners$Disk", "freeSegments", "()I"⟩ ⟨"TwinTuners$Disk", "freeSegments", "()I"⟩ : Cond) ∈ tb_ := tb_w 190 rfl rfl
set_option maxRecDepth 100000 in
theorem tb_191 : (.code ⟨"TwinTuners$Disk", "freeSegments", "()I"⟩ prog_2_method_2_code 1 (some .int) : Cond) ∈ tb_ := tb_w 191 rfl rfl
set_option maxRecDepth 100000 in
theorem tb_192 : (.methodLink "TwinTuners$Disk" 24 ⟨"TwinTuners$Disk", "segmentsOf", "(I)I"⟩ : Cond) ∈ tb_ := tb_w 192 rfl rfl
set_option maxRecDepth 100000 in
theorem tb_193 : (.instanceMethod ⟨"TwinTuners$Disk", "segmentsOf", "(I)I"⟩ : Cond) ∈ tb_ := tb_w 193 rfl rfl
set_option maxRecDepth 100000 in
theorem tb_194 : (.selects "TwinTuners$Disk" ⟨"TwinTuners$Disk", "segmentsOf", "(I)I"⟩ ⟨"TwinTuners$Disk", "segmentsOf", "(I)I"⟩ : Cond) ∈ tb_ := tb_w 194 rfl rfl
set_option maxRecDepth 100000 in
theorem tb_195 : (.code ⟨"TwinTuners$Disk", "segmentsOf", "(I)I"⟩ prog_2_method_3_code 4 (some .int) : Cond) ∈ tb_ := tb_w 195 rfl rfl
set_option maxRecDepth 100000 in
theorem tb_239 : (.methodLink "TwinTuners" 130 ⟨"TwinTuners$Rewind", "forget", "()V"⟩ : Cond) ∈ tb_ := tb_w 239 rfl rfl
set_option maxRecDepth 100000 in
theorem tb_240 : (.instanceMethod ⟨"TwinTuners$Rewind", "forget", "()V"⟩ : Cond) ∈ tb_ := tb_w 240 rfl rfl
set_option maxRecDepth 100000 in
theorem tb_241 : (.selects "TwinTuners$Rewind" ⟨"TwinTuners$Rewind", "forget", "()V"⟩ ⟨"TwinTuners$Rewind", "forget", "()V"⟩ : Cond) ∈ tb_ := tb_w 241 rfl rfl
set_option maxRecDepth 100000 in
theorem tb_242 : (.code ⟨"TwinTuners$Rewind", "forget", "()V"⟩ prog_5_method_2_code 1 none : Cond) ∈ tb_ := tb_w 242 rfl rfl
set_option maxRecDepth 100000 in
theorem tb_250 : (.code ⟨"TwinTuners", "back", "(I)J"⟩ prog_1_method_12_code 2 (some .long) : Cond) ∈ tb_ := tb_w 250 rfl rfl
set_option maxRecDepth 100000 in
theorem tb_251 : (.methodLink "TwinTuners" 133 ⟨"TwinTuners$Rewind", "secondsAgo", "(I)J"⟩ : Cond) ∈ tb_ := tb_w 251 rfl rfl
set_option maxRecDepth 100000 in
theorem tb_252 : (.instanceMethod ⟨"TwinTuners$Rewind", "secondsAgo", "(I)J"⟩ : Cond) ∈ tb_ := tb_w 252 rfl rfl
set_option maxRecDepth 100000 in
theorem tb_253 : (.selects "TwinTuners$Rewind" ⟨"TwinTuners$Rewind", "secondsAgo", "(I)J"⟩ ⟨"TwinTuners$Rewind", "secondsAgo", "(I)J"⟩ : Cond) ∈ tb_ := tb_w 253 rfl rfl
set_option maxRecDepth 100000 in
theorem tb_254 : (.code ⟨"TwinTuners$Rewind", "secondsAgo", "(I)J"⟩ prog_5_method_4_code 2 (some .long) : Cond) ∈ tb_ := tb_w 254 rfl rfl
set_option maxRecDepth 100000 in
theorem tb_255 : (.constantLong "TwinTuners$Rewind" 28 (-1) : Cond) ∈ tb_ := tb_w 255 rfl rfl
set_option maxRecDepth 100000 in
theorem tb_260 : (.code ⟨"TwinTuners", "free", "()I"⟩ prog_1_method_19_code 1 (some .int) : Cond) ∈ tb_ := tb_w 260 rfl rfl
set_option maxRecDepth 100000 in
theorem tb_346 : (.methodLink "TwinTuners" 68 ⟨"TwinTuners", "openRequests", "()I"⟩ : Cond) ∈ tb_ := tb_w 346 rfl rfl
set_option maxRecDepth 100000 in
theorem tb_348 : (.instanceMethod ⟨"TwinTuners", "openRequests", "()I"⟩ : Cond) ∈ tb_ := tb_w 348 rfl rfl
set_option maxRecDepth 100000 in
theorem tb_367 : (.instantiable "TwinTuners$Request" 17 : Cond) ∈ tb_ := tb_w 367 rfl rfl
set_option maxRecDepth 100000 in
theorem tb_368 : (.methodLink "TwinTuners" 77 ⟨"TwinTuners$Request", "<init>", "(IIIIII)V"⟩ : Cond) ∈ tb_ := tb_w 368 rfl rfl
set_option maxRecDepth 100000 in
theorem tb_369 : (.instanceMethod ⟨"TwinTuners$Request", "<init>", "(IIIIII)V"⟩ : Cond) ∈ tb_ := tb_w 369 rfl rfl
theorem ts_0 : (.selects "TwinTuners" ⟨"TwinTuners", "tune", "()I"⟩ ⟨"TwinTuners", "tune", "()I"⟩ : Cond) ∈ tb_ := ts_w 0 rfl rfl
theorem ts_2 : (.selects "TwinTuners$Plan" ⟨"TwinTuners$Plan", "takeRunning", "(I)V"⟩ ⟨"TwinTuners$Plan", "takeRunning", "(I)V"⟩ : Cond) ∈ tb_ := ts_w 2 rfl rfl
theorem ts_3 : (.selects "TwinTuners$Plan" ⟨"TwinTuners$Plan", "takeCores", "()V"⟩ ⟨"TwinTuners$Plan", "takeCores", "()V"⟩ : Cond) ∈ tb_ := ts_w 3 rfl rfl
theorem ts_6 : (.selects "TwinTuners$Plan" ⟨"TwinTuners$Plan", "padRunning", "(I)V"⟩ ⟨"TwinTuners$Plan", "padRunning", "(I)V"⟩ : Cond) ∈ tb_ := ts_w 6 rfl rfl
theorem ts_8 : (.selects "TwinTuners$Plan" ⟨"TwinTuners$Plan", "padWaiting", "(I)V"⟩ ⟨"TwinTuners$Plan", "padWaiting", "(I)V"⟩ : Cond) ∈ tb_ := ts_w 8 rfl rfl
theorem ts_10 : (.selects "TwinTuners" ⟨"TwinTuners", "passSecond", "(I)I"⟩ ⟨"TwinTuners", "passSecond", "(I)I"⟩ : Cond) ∈ tb_ := ts_w 10 rfl rfl
theorem ts_19 : (.selects "TwinTuners" ⟨"TwinTuners", "openRequests", "()I"⟩ ⟨"TwinTuners", "openRequests", "()I"⟩ : Cond) ∈ tb_ := ts_w 19 rfl rfl
theorem d_DK_freeSegments_0 : decode c_DK_freeSegments 0 = .ok (.aload_n 0, 1) := by decide +kernel
theorem d_DK_freeSegments_1 : decode c_DK_freeSegments 1 = .ok (.iconst (-1), 1) := by decide +kernel
theorem d_DK_freeSegments_2 : decode c_DK_freeSegments 2 = .ok (.invokevirtual 24, 3) := by decide +kernel
theorem d_DK_freeSegments_5 : decode c_DK_freeSegments 5 = .ok (.ireturn, 1) := by decide +kernel
theorem d_DK_segmentsOf_0 : decode c_DK_segmentsOf 0 = .ok (.iconst 0, 1) := by decide +kernel
theorem d_DK_segmentsOf_1 : decode c_DK_segmentsOf 1 = .ok (.istore_n 2, 1) := by decide +kernel
theorem d_DK_segmentsOf_2 : decode c_DK_segmentsOf 2 = .ok (.iconst 0, 1) := by decide +kernel
theorem d_DK_segmentsOf_3 : decode c_DK_segmentsOf 3 = .ok (.istore_n 3, 1) := by decide +kernel
theorem d_DK_segmentsOf_4 : decode c_DK_segmentsOf 4 = .ok (.iload_n 3, 1) := by decide +kernel
theorem d_DK_segmentsOf_5 : decode c_DK_segmentsOf 5 = .ok (.bipush 24, 2) := by decide +kernel
theorem d_DK_segmentsOf_7 : decode c_DK_segmentsOf 7 = .ok (.if_icmp .ge 22, 3) := by decide +kernel
theorem d_DK_segmentsOf_10 : decode c_DK_segmentsOf 10 = .ok (.aload_n 0, 1) := by decide +kernel
theorem d_DK_segmentsOf_11 : decode c_DK_segmentsOf 11 = .ok (.getfield 9, 3) := by decide +kernel
theorem d_DK_segmentsOf_14 : decode c_DK_segmentsOf 14 = .ok (.iload_n 3, 1) := by decide +kernel
theorem d_DK_segmentsOf_15 : decode c_DK_segmentsOf 15 = .ok (.iaload, 1) := by decide +kernel
theorem d_DK_segmentsOf_16 : decode c_DK_segmentsOf 16 = .ok (.iload_n 1, 1) := by decide +kernel
theorem d_DK_segmentsOf_17 : decode c_DK_segmentsOf 17 = .ok (.if_icmp .ne 6, 3) := by decide +kernel
theorem d_DK_segmentsOf_20 : decode c_DK_segmentsOf 20 = .ok (.iinc 2 1, 3) := by decide +kernel
theorem d_DK_segmentsOf_23 : decode c_DK_segmentsOf 23 = .ok (.iinc 3 1, 3) := by decide +kernel
theorem d_DK_segmentsOf_26 : decode c_DK_segmentsOf 26 = .ok (.goto (-22), 3) := by decide +kernel
theorem d_DK_segmentsOf_29 : decode c_DK_segmentsOf 29 = .ok (.iload_n 2, 1) := by decide +kernel
theorem d_DK_segmentsOf_30 : decode c_DK_segmentsOf 30 = .ok (.ireturn, 1) := by decide +kernel
theorem d_PL_make_0 : decode c_PL_make 0 = .ok (.aload_n 0, 1) := by decide +kernel
theorem d_PL_make_1 : decode c_PL_make 1 = .ok (.iconst 0, 1) := by decide +kernel
theorem d_PL_make_2 : decode c_PL_make 2 = .ok (.putfield 17, 3) := by decide +kernel
theorem d_PL_make_5 : decode c_PL_make 5 = .ok (.iconst 0, 1) := by decide +kernel
theorem d_PL_make_6 : decode c_PL_make 6 = .ok (.istore 4, 2) := by decide +kernel
theorem d_PL_make_8 : decode c_PL_make 8 = .ok (.iload 4, 2) := by decide +kernel
theorem d_PL_make_10 : decode c_PL_make 10 = .ok (.iload_n 2, 1) := by decide +kernel
theorem d_PL_make_11 : decode c_PL_make 11 = .ok (.if_icmp .ge 27, 3) := by decide +kernel
theorem d_PL_make_38 : decode c_PL_make 38 = .ok (.aload_n 0, 1) := by decide +kernel
theorem d_PL_make_39 : decode c_PL_make 39 = .ok (.iload_n 3, 1) := by decide +kernel
theorem d_PL_make_40 : decode c_PL_make 40 = .ok (.invokevirtual 29, 3) := by decide +kernel
theorem d_PL_make_43 : decode c_PL_make 43 = .ok (.aload_n 0, 1) := by decide +kernel
theorem d_PL_make_44 : decode c_PL_make 44 = .ok (.invokevirtual 33, 3) := by decide +kernel
theorem d_PL_make_47 : decode c_PL_make 47 = .ok (.aload_n 0, 1) := by decide +kernel
theorem d_PL_make_48 : decode c_PL_make 48 = .ok (.iload_n 3, 1) := by decide +kernel
theorem d_PL_make_49 : decode c_PL_make 49 = .ok (.invokevirtual 36, 3) := by decide +kernel
theorem d_PL_make_52 : decode c_PL_make 52 = .ok (.aload_n 0, 1) := by decide +kernel
theorem d_PL_make_53 : decode c_PL_make 53 = .ok (.iload_n 3, 1) := by decide +kernel
theorem d_PL_make_54 : decode c_PL_make 54 = .ok (.invokevirtual 39, 3) := by decide +kernel
theorem d_PL_make_57 : decode c_PL_make 57 = .ok (.return_, 1) := by decide +kernel
theorem d_PL_padRunning_0 : decode c_PL_padRunning 0 = .ok (.iconst 0, 1) := by decide +kernel
theorem d_PL_padRunning_1 : decode c_PL_padRunning 1 = .ok (.istore_n 2, 1) := by decide +kernel
theorem d_PL_padRunning_2 : decode c_PL_padRunning 2 = .ok (.iload_n 2, 1) := by decide +kernel
theorem d_PL_padRunning_3 : decode c_PL_padRunning 3 = .ok (.aload_n 0, 1) := by decide +kernel
theorem d_PL_padRunning_4 : decode c_PL_padRunning 4 = .ok (.getfield 17, 3) := by decide +kernel
theorem d_PL_padRunning_7 : decode c_PL_padRunning 7 = .ok (.if_icmp .ge 45, 3) := by decide +kernel
theorem d_PL_padRunning_52 : decode c_PL_padRunning 52 = .ok (.return_, 1) := by decide +kernel
theorem d_PL_padWaiting_0 : decode c_PL_padWaiting 0 = .ok (.iconst 0, 1) := by decide +kernel
theorem d_PL_padWaiting_1 : decode c_PL_padWaiting 1 = .ok (.istore_n 2, 1) := by decide +kernel
theorem d_PL_padWaiting_2 : decode c_PL_padWaiting 2 = .ok (.iload_n 2, 1) := by decide +kernel
theorem d_PL_padWaiting_3 : decode c_PL_padWaiting 3 = .ok (.aload_n 0, 1) := by decide +kernel
theorem d_PL_padWaiting_4 : decode c_PL_padWaiting 4 = .ok (.getfield 17, 3) := by decide +kernel
theorem d_PL_padWaiting_7 : decode c_PL_padWaiting 7 = .ok (.if_icmp .ge 41, 3) := by decide +kernel
theorem d_PL_padWaiting_48 : decode c_PL_padWaiting 48 = .ok (.return_, 1) := by decide +kernel
theorem d_PL_takeCores_0 : decode c_PL_takeCores 0 = .ok (.iconst 0, 1) := by decide +kernel
theorem d_PL_takeCores_1 : decode c_PL_takeCores 1 = .ok (.istore_n 1, 1) := by decide +kernel
theorem d_PL_takeCores_2 : decode c_PL_takeCores 2 = .ok (.iload_n 1, 1) := by decide +kernel
theorem d_PL_takeCores_3 : decode c_PL_takeCores 3 = .ok (.aload_n 0, 1) := by decide +kernel
theorem d_PL_takeCores_4 : decode c_PL_takeCores 4 = .ok (.getfield 17, 3) := by decide +kernel
theorem d_PL_takeCores_7 : decode c_PL_takeCores 7 = .ok (.if_icmp .ge 54, 3) := by decide +kernel
theorem d_PL_takeCores_61 : decode c_PL_takeCores 61 = .ok (.return_, 1) := by decide +kernel
theorem d_PL_takeRunning_0 : decode c_PL_takeRunning 0 = .ok (.iconst 0, 1) := by decide +kernel
theorem d_PL_takeRunning_1 : decode c_PL_takeRunning 1 = .ok (.istore_n 2, 1) := by decide +kernel
theorem d_PL_takeRunning_2 : decode c_PL_takeRunning 2 = .ok (.iload_n 2, 1) := by decide +kernel
theorem d_PL_takeRunning_3 : decode c_PL_takeRunning 3 = .ok (.aload_n 0, 1) := by decide +kernel
theorem d_PL_takeRunning_4 : decode c_PL_takeRunning 4 = .ok (.getfield 17, 3) := by decide +kernel
theorem d_PL_takeRunning_7 : decode c_PL_takeRunning 7 = .ok (.if_icmp .ge 48, 3) := by decide +kernel
theorem d_PL_takeRunning_55 : decode c_PL_takeRunning 55 = .ok (.return_, 1) := by decide +kernel
theorem d_RW_forget_0 : decode c_RW_forget 0 = .ok (.aload_n 0, 1) := by decide +kernel
theorem d_RW_forget_1 : decode c_RW_forget 1 = .ok (.iconst 0, 1) := by decide +kernel
theorem d_RW_forget_2 : decode c_RW_forget 2 = .ok (.putfield 19, 3) := by decide +kernel
theorem d_RW_forget_5 : decode c_RW_forget 5 = .ok (.return_, 1) := by decide +kernel
theorem d_RW_secondsAgo_0 : decode c_RW_secondsAgo 0 = .ok (.iload_n 1, 1) := by decide +kernel
theorem d_RW_secondsAgo_1 : decode c_RW_secondsAgo 1 = .ok (.iconst 1, 1) := by decide +kernel
theorem d_RW_secondsAgo_2 : decode c_RW_secondsAgo 2 = .ok (.if_icmp .lt 11, 3) := by decide +kernel
theorem d_RW_secondsAgo_5 : decode c_RW_secondsAgo 5 = .ok (.iload_n 1, 1) := by decide +kernel
theorem d_RW_secondsAgo_6 : decode c_RW_secondsAgo 6 = .ok (.aload_n 0, 1) := by decide +kernel
theorem d_RW_secondsAgo_7 : decode c_RW_secondsAgo 7 = .ok (.getfield 19, 3) := by decide +kernel
theorem d_RW_secondsAgo_10 : decode c_RW_secondsAgo 10 = .ok (.if_icmp .le 7, 3) := by decide +kernel
theorem d_RW_secondsAgo_13 : decode c_RW_secondsAgo 13 = .ok (.ldc2_w 28, 3) := by decide +kernel
theorem d_RW_secondsAgo_16 : decode c_RW_secondsAgo 16 = .ok (.lreturn, 1) := by decide +kernel
theorem d_TT_air_17 : decode c_TT_air 17 = .ok (.aload_n 0, 1) := by decide +kernel
theorem d_TT_air_18 : decode c_TT_air 18 = .ok (.getfield 15, 3) := by decide +kernel
theorem d_TT_air_21 : decode c_TT_air 21 = .ok (.iload_n 1, 1) := by decide +kernel
theorem d_TT_air_22 : decode c_TT_air 22 = .ok (.iload_n 2, 1) := by decide +kernel
theorem d_TT_air_23 : decode c_TT_air 23 = .ok (.iastore, 1) := by decide +kernel
theorem d_TT_air_24 : decode c_TT_air 24 = .ok (.return_, 1) := by decide +kernel
theorem d_TT_back_0 : decode c_TT_back 0 = .ok (.aload_n 0, 1) := by decide +kernel
theorem d_TT_back_1 : decode c_TT_back 1 = .ok (.getfield 36, 3) := by decide +kernel
theorem d_TT_back_4 : decode c_TT_back 4 = .ok (.iload_n 1, 1) := by decide +kernel
theorem d_TT_back_5 : decode c_TT_back 5 = .ok (.invokevirtual 133, 3) := by decide +kernel
theorem d_TT_back_8 : decode c_TT_back 8 = .ok (.lreturn, 1) := by decide +kernel
theorem d_TT_cut_18 : decode c_TT_cut 18 = .ok (.iconst 0, 1) := by decide +kernel
theorem d_TT_cut_19 : decode c_TT_cut 19 = .ok (.istore_n 2, 1) := by decide +kernel
theorem d_TT_cut_20 : decode c_TT_cut 20 = .ok (.iconst 0, 1) := by decide +kernel
theorem d_TT_cut_21 : decode c_TT_cut 21 = .ok (.istore_n 3, 1) := by decide +kernel
theorem d_TT_cut_22 : decode c_TT_cut 22 = .ok (.iload_n 3, 1) := by decide +kernel
theorem d_TT_cut_23 : decode c_TT_cut 23 = .ok (.aload_n 0, 1) := by decide +kernel
theorem d_TT_cut_24 : decode c_TT_cut 24 = .ok (.getfield 40, 3) := by decide +kernel
theorem d_TT_cut_27 : decode c_TT_cut 27 = .ok (.if_icmp .ge 105, 3) := by decide +kernel
theorem d_TT_cut_132 : decode c_TT_cut 132 = .ok (.aload_n 0, 1) := by decide +kernel
theorem d_TT_cut_133 : decode c_TT_cut 133 = .ok (.getfield 36, 3) := by decide +kernel
theorem d_TT_cut_136 : decode c_TT_cut 136 = .ok (.invokevirtual 130, 3) := by decide +kernel
theorem d_TT_cut_139 : decode c_TT_cut 139 = .ok (.aload_n 0, 1) := by decide +kernel
theorem d_TT_cut_140 : decode c_TT_cut 140 = .ok (.iload_n 1, 1) := by decide +kernel
theorem d_TT_cut_141 : decode c_TT_cut 141 = .ok (.putfield 44, 3) := by decide +kernel
theorem d_TT_cut_144 : decode c_TT_cut 144 = .ok (.iload_n 2, 1) := by decide +kernel
theorem d_TT_cut_145 : decode c_TT_cut 145 = .ok (.ireturn, 1) := by decide +kernel
theorem d_TT_free_0 : decode c_TT_free 0 = .ok (.aload_n 0, 1) := by decide +kernel
theorem d_TT_free_1 : decode c_TT_free 1 = .ok (.getfield 29, 3) := by decide +kernel
theorem d_TT_free_4 : decode c_TT_free 4 = .ok (.invokevirtual 166, 3) := by decide +kernel
theorem d_TT_free_7 : decode c_TT_free 7 = .ok (.ireturn, 1) := by decide +kernel
theorem d_TT_passSecond_0 : decode c_TT_passSecond 0 = .ok (.iconst 0, 1) := by decide +kernel
theorem d_TT_passSecond_1 : decode c_TT_passSecond 1 = .ok (.istore_n 2, 1) := by decide +kernel
theorem d_TT_passSecond_2 : decode c_TT_passSecond 2 = .ok (.iconst 0, 1) := by decide +kernel
theorem d_TT_passSecond_3 : decode c_TT_passSecond 3 = .ok (.istore_n 3, 1) := by decide +kernel
theorem d_TT_passSecond_4 : decode c_TT_passSecond 4 = .ok (.iload_n 3, 1) := by decide +kernel
theorem d_TT_passSecond_5 : decode c_TT_passSecond 5 = .ok (.aload_n 0, 1) := by decide +kernel
theorem d_TT_passSecond_6 : decode c_TT_passSecond 6 = .ok (.getfield 40, 3) := by decide +kernel
theorem d_TT_passSecond_9 : decode c_TT_passSecond 9 = .ok (.if_icmp .ge 38, 3) := by decide +kernel
theorem d_TT_passSecond_47 : decode c_TT_passSecond 47 = .ok (.aload_n 0, 1) := by decide +kernel
theorem d_TT_passSecond_48 : decode c_TT_passSecond 48 = .ok (.getfield 47, 3) := by decide +kernel
theorem d_TT_passSecond_51 : decode c_TT_passSecond 51 = .ok (.iconst (-1), 1) := by decide +kernel
theorem d_TT_passSecond_52 : decode c_TT_passSecond 52 = .ok (.if_icmp .eq 23, 3) := by decide +kernel
theorem d_TT_passSecond_75 : decode c_TT_passSecond 75 = .ok (.aload_n 0, 1) := by decide +kernel
theorem d_TT_passSecond_76 : decode c_TT_passSecond 76 = .ok (.dup, 1) := by decide +kernel
theorem d_TT_passSecond_77 : decode c_TT_passSecond 77 = .ok (.getfield 44, 3) := by decide +kernel
theorem d_TT_passSecond_80 : decode c_TT_passSecond 80 = .ok (.iconst 1, 1) := by decide +kernel
theorem d_TT_passSecond_81 : decode c_TT_passSecond 81 = .ok (.iadd, 1) := by decide +kernel
theorem d_TT_passSecond_82 : decode c_TT_passSecond 82 = .ok (.putfield 44, 3) := by decide +kernel
theorem d_TT_passSecond_85 : decode c_TT_passSecond 85 = .ok (.iconst 0, 1) := by decide +kernel
theorem d_TT_passSecond_86 : decode c_TT_passSecond 86 = .ok (.istore_n 3, 1) := by decide +kernel
theorem d_TT_passSecond_87 : decode c_TT_passSecond 87 = .ok (.iload_n 3, 1) := by decide +kernel
theorem d_TT_passSecond_88 : decode c_TT_passSecond 88 = .ok (.aload_n 0, 1) := by decide +kernel
theorem d_TT_passSecond_89 : decode c_TT_passSecond 89 = .ok (.getfield 40, 3) := by decide +kernel
theorem d_TT_passSecond_92 : decode c_TT_passSecond 92 = .ok (.if_icmp .ge 48, 3) := by decide +kernel
theorem d_TT_passSecond_140 : decode c_TT_passSecond 140 = .ok (.iload_n 2, 1) := by decide +kernel
theorem d_TT_passSecond_141 : decode c_TT_passSecond 141 = .ok (.ireturn, 1) := by decide +kernel
theorem d_TT_request_57 : decode c_TT_request 57 = .ok (.aload_n 0, 1) := by decide +kernel
theorem d_TT_request_58 : decode c_TT_request 58 = .ok (.getfield 40, 3) := by decide +kernel
theorem d_TT_request_61 : decode c_TT_request 61 = .ok (.bipush 40, 2) := by decide +kernel
theorem d_TT_request_63 : decode c_TT_request 63 = .ok (.if_icmp .ge 12, 3) := by decide +kernel
theorem d_TT_request_66 : decode c_TT_request 66 = .ok (.aload_n 0, 1) := by decide +kernel
theorem d_TT_request_67 : decode c_TT_request 67 = .ok (.invokevirtual 68, 3) := by decide +kernel
theorem d_TT_request_70 : decode c_TT_request 70 = .ok (.bipush 12, 2) := by decide +kernel
theorem d_TT_request_72 : decode c_TT_request 72 = .ok (.if_icmp .lt 13, 3) := by decide +kernel
theorem d_TT_request_85 : decode c_TT_request 85 = .ok (.aload_n 0, 1) := by decide +kernel
theorem d_TT_request_86 : decode c_TT_request 86 = .ok (.getfield 40, 3) := by decide +kernel
theorem d_TT_request_89 : decode c_TT_request 89 = .ok (.istore 6, 2) := by decide +kernel
theorem d_TT_request_91 : decode c_TT_request 91 = .ok (.aload_n 0, 1) := by decide +kernel
theorem d_TT_request_92 : decode c_TT_request 92 = .ok (.getfield 11, 3) := by decide +kernel
theorem d_TT_request_95 : decode c_TT_request 95 = .ok (.iload 6, 2) := by decide +kernel
theorem d_TT_request_97 : decode c_TT_request 97 = .ok (.new 9, 3) := by decide +kernel
theorem d_TT_request_100 : decode c_TT_request 100 = .ok (.dup, 1) := by decide +kernel
theorem d_TT_request_101 : decode c_TT_request 101 = .ok (.iload 6, 2) := by decide +kernel
theorem d_TT_request_103 : decode c_TT_request 103 = .ok (.iload_n 1, 1) := by decide +kernel
theorem d_TT_request_104 : decode c_TT_request 104 = .ok (.iload_n 2, 1) := by decide +kernel
theorem d_TT_request_105 : decode c_TT_request 105 = .ok (.iload_n 3, 1) := by decide +kernel
theorem d_TT_request_106 : decode c_TT_request 106 = .ok (.iload 4, 2) := by decide +kernel
theorem d_TT_request_108 : decode c_TT_request 108 = .ok (.iload 5, 2) := by decide +kernel
theorem d_TT_request_110 : decode c_TT_request 110 = .ok (.invokespecial 77, 3) := by decide +kernel
theorem d_TT_request_113 : decode c_TT_request 113 = .ok (.aastore, 1) := by decide +kernel
theorem d_TT_request_114 : decode c_TT_request 114 = .ok (.aload_n 0, 1) := by decide +kernel
theorem d_TT_request_115 : decode c_TT_request 115 = .ok (.dup, 1) := by decide +kernel
theorem d_TT_request_116 : decode c_TT_request 116 = .ok (.getfield 40, 3) := by decide +kernel
theorem d_TT_request_119 : decode c_TT_request 119 = .ok (.iconst 1, 1) := by decide +kernel
theorem d_TT_request_120 : decode c_TT_request 120 = .ok (.iadd, 1) := by decide +kernel
theorem d_TT_request_121 : decode c_TT_request 121 = .ok (.putfield 40, 3) := by decide +kernel
theorem d_TT_request_124 : decode c_TT_request 124 = .ok (.iload 6, 2) := by decide +kernel
theorem d_TT_request_126 : decode c_TT_request 126 = .ok (.ireturn, 1) := by decide +kernel
theorem d_TT_tick_0 : decode c_TT_tick 0 = .ok (.aload_n 0, 1) := by decide +kernel
theorem d_TT_tick_1 : decode c_TT_tick 1 = .ok (.invokevirtual 121, 3) := by decide +kernel
theorem d_TT_tick_4 : decode c_TT_tick 4 = .ok (.istore_n 1, 1) := by decide +kernel
theorem d_TT_tick_5 : decode c_TT_tick 5 = .ok (.aload_n 0, 1) := by decide +kernel
theorem d_TT_tick_6 : decode c_TT_tick 6 = .ok (.iload_n 1, 1) := by decide +kernel
theorem d_TT_tick_7 : decode c_TT_tick 7 = .ok (.invokevirtual 124, 3) := by decide +kernel
theorem d_TT_tick_10 : decode c_TT_tick 10 = .ok (.pop, 1) := by decide +kernel
theorem d_TT_tick_11 : decode c_TT_tick 11 = .ok (.iload_n 1, 1) := by decide +kernel
theorem d_TT_tick_12 : decode c_TT_tick 12 = .ok (.ireturn, 1) := by decide +kernel
theorem d_TT_ticks_20 : decode c_TT_ticks 20 = .ok (.iconst 0, 1) := by decide +kernel
theorem d_TT_ticks_21 : decode c_TT_ticks 21 = .ok (.istore_n 2, 1) := by decide +kernel
theorem d_TT_ticks_22 : decode c_TT_ticks 22 = .ok (.iconst 0, 1) := by decide +kernel
theorem d_TT_ticks_23 : decode c_TT_ticks 23 = .ok (.istore_n 3, 1) := by decide +kernel
theorem d_TT_ticks_24 : decode c_TT_ticks 24 = .ok (.iload_n 3, 1) := by decide +kernel
theorem d_TT_ticks_25 : decode c_TT_ticks 25 = .ok (.iload_n 1, 1) := by decide +kernel
theorem d_TT_ticks_26 : decode c_TT_ticks 26 = .ok (.if_icmp .ge 20, 3) := by decide +kernel
theorem d_TT_ticks_29 : decode c_TT_ticks 29 = .ok (.iload_n 2, 1) := by decide +kernel
theorem d_TT_ticks_30 : decode c_TT_ticks 30 = .ok (.aload_n 0, 1) := by decide +kernel
theorem d_TT_ticks_31 : decode c_TT_ticks 31 = .ok (.aload_n 0, 1) := by decide +kernel
theorem d_TT_ticks_32 : decode c_TT_ticks 32 = .ok (.invokevirtual 121, 3) := by decide +kernel
theorem d_TT_ticks_35 : decode c_TT_ticks 35 = .ok (.invokevirtual 124, 3) := by decide +kernel
theorem d_TT_ticks_38 : decode c_TT_ticks 38 = .ok (.iadd, 1) := by decide +kernel
theorem d_TT_ticks_39 : decode c_TT_ticks 39 = .ok (.istore_n 2, 1) := by decide +kernel
theorem d_TT_ticks_40 : decode c_TT_ticks 40 = .ok (.iinc 3 1, 3) := by decide +kernel
theorem d_TT_ticks_43 : decode c_TT_ticks 43 = .ok (.goto (-19), 3) := by decide +kernel
theorem d_TT_ticks_46 : decode c_TT_ticks 46 = .ok (.iload_n 2, 1) := by decide +kernel
theorem d_TT_ticks_47 : decode c_TT_ticks 47 = .ok (.ireturn, 1) := by decide +kernel
theorem d_TT_tune_0 : decode c_TT_tune 0 = .ok (.aload_n 0, 1) := by decide +kernel
theorem d_TT_tune_1 : decode c_TT_tune 1 = .ok (.getfield 22, 3) := by decide +kernel
theorem d_TT_tune_4 : decode c_TT_tune 4 = .ok (.aload_n 0, 1) := by decide +kernel
theorem d_TT_tune_5 : decode c_TT_tune 5 = .ok (.getfield 11, 3) := by decide +kernel
theorem d_TT_tune_8 : decode c_TT_tune 8 = .ok (.aload_n 0, 1) := by decide +kernel
theorem d_TT_tune_9 : decode c_TT_tune 9 = .ok (.getfield 40, 3) := by decide +kernel
theorem d_TT_tune_12 : decode c_TT_tune 12 = .ok (.aload_n 0, 1) := by decide +kernel
theorem d_TT_tune_13 : decode c_TT_tune 13 = .ok (.getfield 44, 3) := by decide +kernel
theorem d_TT_tune_16 : decode c_TT_tune 16 = .ok (.invokevirtual 97, 3) := by decide +kernel
theorem d_TT_tune_19 : decode c_TT_tune 19 = .ok (.iconst 0, 1) := by decide +kernel
theorem d_TT_tune_20 : decode c_TT_tune 20 = .ok (.istore_n 1, 1) := by decide +kernel
theorem d_TT_tune_21 : decode c_TT_tune 21 = .ok (.iconst 0, 1) := by decide +kernel
theorem d_TT_tune_22 : decode c_TT_tune 22 = .ok (.istore_n 2, 1) := by decide +kernel
theorem d_TT_tune_23 : decode c_TT_tune 23 = .ok (.iload_n 2, 1) := by decide +kernel
theorem d_TT_tune_24 : decode c_TT_tune 24 = .ok (.aload_n 0, 1) := by decide +kernel
theorem d_TT_tune_25 : decode c_TT_tune 25 = .ok (.getfield 40, 3) := by decide +kernel
theorem d_TT_tune_28 : decode c_TT_tune 28 = .ok (.if_icmp .ge 41, 3) := by decide +kernel
theorem d_TT_tune_69 : decode c_TT_tune 69 = .ok (.aload_n 0, 1) := by decide +kernel
theorem d_TT_tune_70 : decode c_TT_tune 70 = .ok (.getfield 47, 3) := by decide +kernel
theorem d_TT_tune_73 : decode c_TT_tune 73 = .ok (.iconst (-1), 1) := by decide +kernel
theorem d_TT_tune_74 : decode c_TT_tune 74 = .ok (.if_icmp .eq 20, 3) := by decide +kernel
theorem d_TT_tune_94 : decode c_TT_tune 94 = .ok (.iload_n 1, 1) := by decide +kernel
theorem d_TT_tune_95 : decode c_TT_tune 95 = .ok (.ireturn, 1) := by decide +kernel
theorem d_TT_watch_22 : decode c_TT_watch 22 = .ok (.aload_n 0, 1) := by decide +kernel
theorem d_TT_watch_23 : decode c_TT_watch 23 = .ok (.getfield 47, 3) := by decide +kernel
theorem d_TT_watch_26 : decode c_TT_watch 26 = .ok (.istore_n 2, 1) := by decide +kernel
theorem d_TT_watch_27 : decode c_TT_watch 27 = .ok (.aload_n 0, 1) := by decide +kernel
theorem d_TT_watch_28 : decode c_TT_watch 28 = .ok (.iload_n 1, 1) := by decide +kernel
theorem d_TT_watch_29 : decode c_TT_watch 29 = .ok (.putfield 47, 3) := by decide +kernel
theorem d_TT_watch_32 : decode c_TT_watch 32 = .ok (.aload_n 0, 1) := by decide +kernel
theorem d_TT_watch_33 : decode c_TT_watch 33 = .ok (.getfield 36, 3) := by decide +kernel
theorem d_TT_watch_36 : decode c_TT_watch 36 = .ok (.invokevirtual 130, 3) := by decide +kernel
theorem d_TT_watch_39 : decode c_TT_watch 39 = .ok (.iload_n 2, 1) := by decide +kernel
theorem d_TT_watch_40 : decode c_TT_watch 40 = .ok (.ireturn, 1) := by decide +kernel
theorem in_8 {x : Int32} (h1 : 0 ≤ x) (h2 : x ≤ 7) : vp_in x 8 := by
  have a1 := Int32.le_iff_toInt_le.mp h1
  have a2 := Int32.le_iff_toInt_le.mp h2
  have e0 : (0 : Int32).toInt = 0 := by decide
  have e7 : (7 : Int32).toInt = 7 := by decide
  exact vp_in_iff.mpr ⟨by omega, by omega⟩
theorem ch_0 {x : Int32} (h : -1 ≤ x) (hn : ¬ x = -1) : 0 ≤ x := by
  have a1 := Int32.le_iff_toInt_le.mp h
  have e0 : (0 : Int32).toInt = 0 := by decide
  have e1 : (-1 : Int32).toInt = -1 := by decide
  have hn' : ¬ x.toInt = -1 := fun q => hn (Int32.toInt_inj.mp (by rw [e1]; exact q))
  exact Int32.le_iff_toInt_le.mpr (by omega)
theorem ch_n {x : Int32} (h : ¬ (-1 ≤ x ∧ x ≤ 7)) : ¬ x = -1 ∧ ¬ (0 ≤ x ∧ x ≤ 7) := by
  refine ⟨fun e => h (by rw [e]; decide), fun q => h ⟨?_, q.2⟩⟩
  exact Int32.le_trans (by decide) q.1
theorem of_100 {x : Int32} (h1 : 1 ≤ x) (h2 : x ≤ 100) : ∃ N : Nat, 1 ≤ N ∧ N ≤ 100 ∧ x = nI N := by
  obtain ⟨j, hj, e⟩ := nI_of2 (n := 100) (M := 100) (by decide) (x := x) (fun q => Int32.not_lt.mpr (Int32.le_trans (by decide) h1) q) h2
  refine ⟨j, ?_, hj, e⟩
  rcases Nat.eq_zero_or_pos j with hz | hz
  · subst hz; subst e; exact absurd h1 (by decide)
  · exact hz
set_option maxHeartbeats 4000000 in
set_option maxRecDepth 100000 in
theorem c_TT_request_ok (l : Launch) (dC : Nat → ClassId) (dI : Nat → Nat → Nat) (sz Bd : Nat) (h0 rq oa pl dk rw : Nat) (k1 : ClassId) (ch st ln pr pd : Int32) (h : ((0 ≤ ch ∧ ch ≤ 7) ∧ (0 ≤ st ∧ st ≤ 1000) ∧ (1 ≤ ln ∧ ln ≤ 60) ∧ (1 ≤ pr ∧ pr ≤ 9) ∧ (0 ≤ pd ∧ pd ≤ 99))) : Met l y_TT_request w_TT_request ({ frames := 2, cells := 2, slots := 23, locals := 46 }) (frP (dC, dI) [(h0, .inr (0, [.ref rq, .ref oa, .ref pl, .ref dk, .ref rw, .int 0, .int 0, .int (-1)])), (rq, .inl (k1, 40, .inr (.inr (.inr (.inr (fun _ => none))))))] [(k1, .object "TwinTuners$Request")] sz Bd [.ref h0, .int ch, .int st, .int ln, .int pr, .int pd]) (frQ (some (.int 0)) (fun t => va_P (dC, dI) cls_ [] t.heap ∧ va_K (dC, dI) cls_ [] t ∧ va_D (va_A [(h0, .inr (0, [.ref rq, .ref oa, .ref pl, .ref dk, .ref rw, .int 0, .int 0, .int (-1)])), (rq, .inl (k1, 40, .inr (.inr (.inr (.inr (fun _ => none))))))] sz) []) (va_A [(h0, .inr (0, [.ref rq, .ref oa, .ref pl, .ref dk, .ref rw, .int 0, .int 0, .int (-1)])), (rq, .inl (k1, 40, .inr (.inr (.inr (.inr (fun _ => none))))))] sz)) 2 23 (va_A [(h0, .inr (0, [.ref rq, .ref oa, .ref pl, .ref dk, .ref rw, .int 0, .int 0, .int (-1)])), (rq, .inl (k1, 40, .inr (.inr (.inr (.inr (fun _ => none))))))] sz) := by
  refine Met.ofW (cc := c_TT_request) (maxL := 7) (ret := (some .int)) (by decide) rfl ?_
  intro p e s m args below meth c s₁ B hml hv
  obtain ⟨rfl, ⟨hsz, hBs⟩, hP, hK, hD0, hV⟩ := hv
  have hx := B.exec
  have hb := B.bytes
  have hr := B.returns
  have ht : ∀ w ∈ tb_, w.before _ s = true := fun w h => atoms_spec (ws := w_TT_request) B.pre w (List.mem_cons_of_mem _ h)
  have hown : s.vm.findClass R_TT = some m.cls := findClass_of_methodNamed B.named
  have hlocks := B.notSynchronized
  subst hsz
  have hD := hD0.self (sz := s.heap.size)
  have hAB : ∀ q, va_A [(h0, .inr (0, [.ref rq, .ref oa, .ref pl, .ref dk, .ref rw, .int 0, .int 0, .int (-1)])), (rq, .inl (k1, 40, .inr (.inr (.inr (.inr (fun _ => none))))))] s.heap.size q → Bd ≤ q := fr_AB hD0 hBs
  generalize hAe : va_A [(h0, .inr (0, [.ref rq, .ref oa, .ref pl, .ref dk, .ref rw, .int 0, .int 0, .int (-1)])), (rq, .inl (k1, 40, .inr (.inr (.inr (.inr (fun _ => none))))))] s.heap.size = A at hD hAB ⊢
  have hA : ∀ q : Nat, s.heap.size ≤ q → A q := fun q h => by rw [← hAe]; exact Or.inr h
  have hS : va_S A s.heap s.heap [] := va_S.rf
  have hAO := hV.2.2.2.1
  have hN_PL := hV.2.2.1.1
  have hN_RW := hV.2.2.1.2
  have hP : va_P (dC, dI) cls_ [(h0, .inr (0, [.ref rq, .ref oa, .ref pl, .ref dk, .ref rw, .int 0, .int 0, .int (-1)])), (rq, .inl (k1, 40, .inr (.inr (.inr (.inr (fun _ => none))))))] s.heap := hP
  have hl := lv_entry ([.ref h0, .int ch, .int st, .int ln, .int pr, .int pd]) (n := 7) (Nat.le_of_ble_eq_true rfl)
  rw [lg_entry_eq]
  generalize (lg_sl ([.ref h0, .int ch, .int st, .int ln, .int pr, .int pd]) ++ List.replicate (7 - (lg_sl ([.ref h0, .int ch, .int st, .int ln, .int pr, .int pd])).length) Slot.unset).toArray = ls at hl ⊢
  have hl : lv_has ls 7 [(0, .ref h0), (1, .int ch), (2, .int st), (3, .int ln), (4, .int pr), (5, .int pd)] := hl
  refine lv_iload_n hx hb d_TT_request_0 rfl (lv_at hl 1 rfl) ?_
  have hPc := hP.sub (ws' := []) [] rfl
  have hKc := hK.sub (tys' := []) [] rfl
  refine rd_call (va_runS (As := [.int ch]) (rest := []) ⟨hx, hb, hml, hown, ht⟩ (c_TT_isChannel_yes l dC dI ch h.1.1 h.1.2) (va_cwS 1 ht (gS tb_270 tb_271 tb_1 tb_272) rfl rfl rfl (by decide +kernel) ⟨Nat.le_of_ble_eq_true rfl, Nat.le_of_ble_eq_true rfl⟩) ⟨rdP_blind, rd_pre hPc hKc⟩ rfl rfl hl.1 rfl (lv_room (Nat.le_of_ble_eq_true rfl)) d_TT_request_1 ⟨Nat.le_of_ble_eq_true rfl, Nat.le_of_ble_eq_true rfl⟩) ?_
  refine W.eq (g2 := F0 m 4 ls [.int 1]) rfl ?_
  refine lv_if_eq (tgt := 47) hx hb d_TT_request_4 (by decide) (fun h9 => absurd h9 (by decide)) (fun _ => ?_)
  refine lv_aload_n hx hb d_TT_request_7 rfl (lv_at hl 0 rfl) ?_
  refine lv_iload_n hx hb d_TT_request_8 rfl (lv_at hl 2 rfl) ?_
  have hPc := hP.sub (ws' := [(h0, .inr (0, [.ref rq, .ref oa, .ref pl, .ref dk, .ref rw, .int 0, .int 0, .int (-1)]))]) [0] rfl
  have hKc := hK.sub (tys' := []) [] rfl
  refine rd_call (va_runV (C := R_TT) (As := [.int st]) (rest := []) ⟨hx, hb, hml, hown, ht⟩ (c_TT_isAhead_yes l dC dI h0 rq oa pl dk rw st h.2.1.1 h.2.1.2) (cwV 1 ht (gV tb_274 tb_276 ts_17 tb_1 tb_277) rfl rfl rfl (by decide +kernel) ⟨Nat.le_of_ble_eq_true rfl, Nat.le_of_ble_eq_true rfl⟩) ⟨rdP_blind, va_recv (q := (R_TT, F_TT, 8)) hK hP rfl (show ([(h0, .inr (0, [.ref rq, .ref oa, .ref pl, .ref dk, .ref rw, .int 0, .int 0, .int (-1)])), (rq, .inl (k1, 40, .inr (.inr (.inr (.inr (fun _ => none))))))] : va_W)[0]? = some (h0, .inr (0, [.ref rq, .ref oa, .ref pl, .ref dk, .ref rw, .int 0, .int 0, .int (-1)])) from rfl), rd_pre hPc hKc⟩ rfl rfl hl.1 rfl (lv_room (Nat.le_of_ble_eq_true rfl)) d_TT_request_9 ⟨Nat.le_of_ble_eq_true rfl, Nat.le_of_ble_eq_true rfl⟩) ?_
  refine W.eq (g2 := F0 m 12 ls [.int 1]) rfl ?_
  refine lv_if_eq (tgt := 47) hx hb d_TT_request_12 (by decide) (fun h9 => absurd h9 (by decide)) (fun _ => ?_)
  refine lv_iload_n hx hb d_TT_request_15 rfl (lv_at hl 3 rfl) ?_
  refine lv_iconst (v := 1) hx hb d_TT_request_16 (by decide) ?_
  refine lv_bipush (v := 60) hx hb d_TT_request_17 (by decide) ?_
  have hPc := hP.sub (ws' := []) [] rfl
  have hKc := hK.sub (tys' := []) [] rfl
  refine rd_call (va_runS (As := [.int ln, .int 1, .int 60]) (rest := []) ⟨hx, hb, hml, hown, ht⟩ (c_TT_isWithin_yes l dC dI ln 1 60 h.2.2.1.1 h.2.2.1.2) (va_cwS 3 ht (gS tb_273 tb_226 tb_1 tb_227) rfl rfl rfl (by decide +kernel) ⟨Nat.le_of_ble_eq_true rfl, Nat.le_of_ble_eq_true rfl⟩) ⟨rdP_blind, rd_pre hPc hKc⟩ rfl rfl hl.1 rfl (lv_room (Nat.le_of_ble_eq_true rfl)) d_TT_request_19 ⟨Nat.le_of_ble_eq_true rfl, Nat.le_of_ble_eq_true rfl⟩) ?_
  refine W.eq (g2 := F0 m 22 ls [.int 1]) rfl ?_
  refine lv_if_eq (tgt := 47) hx hb d_TT_request_22 (by decide) (fun h9 => absurd h9 (by decide)) (fun _ => ?_)
  refine lv_iload hx hb d_TT_request_25 (lv_at hl 4 rfl) ?_
  refine lv_iconst (v := 1) hx hb d_TT_request_27 (by decide) ?_
  refine lv_bipush (v := 9) hx hb d_TT_request_28 (by decide) ?_
  have hPc := hP.sub (ws' := []) [] rfl
  have hKc := hK.sub (tys' := []) [] rfl
  refine rd_call (va_runS (As := [.int pr, .int 1, .int 9]) (rest := []) ⟨hx, hb, hml, hown, ht⟩ (c_TT_isWithin_yes l dC dI pr 1 9 h.2.2.2.1.1 h.2.2.2.1.2) (va_cwS 3 ht (gS tb_273 tb_226 tb_1 tb_227) rfl rfl rfl (by decide +kernel) ⟨Nat.le_of_ble_eq_true rfl, Nat.le_of_ble_eq_true rfl⟩) ⟨rdP_blind, rd_pre hPc hKc⟩ rfl rfl hl.1 rfl (lv_room (Nat.le_of_ble_eq_true rfl)) d_TT_request_30 ⟨Nat.le_of_ble_eq_true rfl, Nat.le_of_ble_eq_true rfl⟩) ?_
  refine W.eq (g2 := F0 m 33 ls [.int 1]) rfl ?_
  refine lv_if_eq (tgt := 47) hx hb d_TT_request_33 (by decide) (fun h9 => absurd h9 (by decide)) (fun _ => ?_)
  refine lv_iload hx hb d_TT_request_36 (lv_at hl 5 rfl) ?_
  refine lv_iconst (v := 0) hx hb d_TT_request_38 (by decide) ?_
  refine lv_bipush (v := 99) hx hb d_TT_request_39 (by decide) ?_
  have hPc := hP.sub (ws' := []) [] rfl
  have hKc := hK.sub (tys' := []) [] rfl
  refine rd_call (va_runS (As := [.int pd, .int 0, .int 99]) (rest := []) ⟨hx, hb, hml, hown, ht⟩ (c_TT_isWithin_yes l dC dI pd 0 99 h.2.2.2.2.1 h.2.2.2.2.2) (va_cwS 3 ht (gS tb_273 tb_226 tb_1 tb_227) rfl rfl rfl (by decide +kernel) ⟨Nat.le_of_ble_eq_true rfl, Nat.le_of_ble_eq_true rfl⟩) ⟨rdP_blind, rd_pre hPc hKc⟩ rfl rfl hl.1 rfl (lv_room (Nat.le_of_ble_eq_true rfl)) d_TT_request_41 ⟨Nat.le_of_ble_eq_true rfl, Nat.le_of_ble_eq_true rfl⟩) ?_
  refine W.eq (g2 := F0 m 44 ls [.int 1]) rfl ?_
  refine lv_if_ne (tgt := 57) hx hb d_TT_request_44 (by decide) (fun _ => ?_) (fun h9 => absurd h9 (by decide))
  refine lv_aload_n hx hb d_TT_request_57 rfl (lv_at hl 0 rfl) ?_
  refine va_get (D := (dC, dI)) (ci := 0) (v := .int 0) (C := R_TT) (T := F_TT) (N := 8) hx hb ht in_TT hown hK hP 0 rfl rfl 5 (by decide) (ht _ tb_80) (fun _ h9 => h9) rfl d_TT_request_58 ?_
  refine lv_bipush (v := 40) hx hb d_TT_request_61 (by decide) ?_
  refine lv_icmp_ge (tgt := 75) hx hb d_TT_request_63 (by decide) (fun h9 => absurd h9 (by decide)) (fun _ => ?_)
  refine lv_aload_n hx hb d_TT_request_66 rfl (lv_at hl 0 rfl) ?_
  have hPc := hP.sub (ws' := [(h0, .inr (0, [.ref rq, .ref oa, .ref pl, .ref dk, .ref rw, .int 0, .int 0, .int (-1)]))]) [0] rfl
  have hKc := hK.sub (tys' := []) [] rfl
  refine rd_call (va_runV (C := R_TT) (As := []) (rest := []) ⟨hx, hb, hml, hown, ht⟩ (c_TT_openRequests_0 l dC dI h0 rq oa pl dk rw) (cwV 0 ht (gV tb_346 tb_348 ts_19 tb_1 tb_349) rfl rfl rfl (by decide +kernel) ⟨Nat.le_of_ble_eq_true rfl, Nat.le_of_ble_eq_true rfl⟩) ⟨rdP_blind, va_recv (q := (R_TT, F_TT, 8)) hK hP rfl (show ([(h0, .inr (0, [.ref rq, .ref oa, .ref pl, .ref dk, .ref rw, .int 0, .int 0, .int (-1)])), (rq, .inl (k1, 40, .inr (.inr (.inr (.inr (fun _ => none))))))] : va_W)[0]? = some (h0, .inr (0, [.ref rq, .ref oa, .ref pl, .ref dk, .ref rw, .int 0, .int 0, .int (-1)])) from rfl), rd_pre hPc hKc⟩ rfl rfl hl.1 rfl (lv_room (Nat.le_of_ble_eq_true rfl)) d_TT_request_67 ⟨Nat.le_of_ble_eq_true rfl, Nat.le_of_ble_eq_true rfl⟩) ?_
  refine W.eq (g2 := F0 m 70 ls [.int 0]) rfl ?_
  refine lv_bipush (v := 12) hx hb d_TT_request_70 (by decide) ?_
  refine lv_icmp_lt (tgt := 85) hx hb d_TT_request_72 (by decide) (fun _ => ?_) (fun h9 => absurd (by decide) h9)
  refine lv_aload_n hx hb d_TT_request_85 rfl (lv_at hl 0 rfl) ?_
  refine va_get (D := (dC, dI)) (ci := 0) (v := .int 0) (C := R_TT) (T := F_TT) (N := 8) hx hb ht in_TT hown hK hP 0 rfl rfl 5 (by decide) (ht _ tb_80) (fun _ h9 => h9) rfl d_TT_request_86 ?_
  refine lv_istore hx hb d_TT_request_89 hl (by decide) rfl (fun ls hl => ?_)
  have hl : lv_has ls 7 [(6, .int 0), (0, .ref h0), (1, .int ch), (2, .int st), (3, .int ln), (4, .int pr), (5, .int pd)] := hl
  refine lv_aload_n hx hb d_TT_request_91 rfl (lv_at hl 1 rfl) ?_
  refine va_get (D := (dC, dI)) (ci := 0) (v := .ref rq) (C := R_TT) (T := F_TT) (N := 8) hx hb ht in_TT hown hK hP 0 rfl rfl 0 (by decide) (ht _ tb_75) (fun _ h9 => h9) rfl d_TT_request_92 ?_
  refine lv_iload hx hb d_TT_request_95 (lv_at hl 0 rfl) ?_
  refine va_new (ci := 4) (fs := [.int 0, .int 0, .int 0, .int 0, .int 0, .int 0, .int 0, .null, .int 0, .int 0, .int 0, .int 0, .int 0, .int 0, .int 0, .int 0, .int 0]) (C := R_RQ) (T := F_RQ) (N := 17) hx hb ht in_RQ t_RQ t_RQ_ok hown (ht _ tb_23) (ht _ tb_367) (ht _ tb_11) hK hP hD hS hA rfl (fun j hj => fs_RQ j hj) (Nat.le_of_ble_eq_true rfl) (Nat.le_of_ble_eq_true rfl) d_TT_request_97 (fun q1 H hP hD hS => ?_)
  have hP : va_P (dC, dI) cls_ [(h0, .inr (0, [.ref rq, .ref oa, .ref pl, .ref dk, .ref rw, .int 0, .int 0, .int (-1)])), (rq, .inl (k1, 40, .inr (.inr (.inr (.inr (fun _ => none)))))), (q1, .inr (4, [.int 0, .int 0, .int 0, .int 0, .int 0, .int 0, .int 0, .null, .int 0, .int 0, .int 0, .int 0, .int 0, .int 0, .int 0, .int 0, .int 0]))] H := hP
  have hD : va_D A [(h0, .inr (0, [.ref rq, .ref oa, .ref pl, .ref dk, .ref rw, .int 0, .int 0, .int (-1)])), (rq, .inl (k1, 40, .inr (.inr (.inr (.inr (fun _ => none)))))), (q1, .inr (4, [.int 0, .int 0, .int 0, .int 0, .int 0, .int 0, .int 0, .null, .int 0, .int 0, .int 0, .int 0, .int 0, .int 0, .int 0, .int 0, .int 0]))] := hD
  refine W.cs (cells' := 1) (slots' := 17) rfl rfl ?_
  refine lv_dup hx hb d_TT_request_100 rfl ?_
  refine lv_iload hx hb d_TT_request_101 (lv_at hl 0 rfl) ?_
  refine lv_iload_n hx hb d_TT_request_103 rfl (lv_at hl 2 rfl) ?_
  refine lv_iload_n hx hb d_TT_request_104 rfl (lv_at hl 3 rfl) ?_
  refine lv_iload_n hx hb d_TT_request_105 rfl (lv_at hl 4 rfl) ?_
  refine lv_iload hx hb d_TT_request_106 (lv_at hl 5 rfl) ?_
  refine lv_iload hx hb d_TT_request_108 (lv_at hl 6 rfl) ?_
  have hPc := hP.sub (ws' := [(q1, .inr (4, [.int 0, .int 0, .int 0, .int 0, .int 0, .int 0, .int 0, .null, .int 0, .int 0, .int 0, .int 0, .int 0, .int 0, .int 0, .int 0, .int 0]))]) [2] rfl
  have hKc := hK.sub (tys' := []) [] rfl
  have hDc := hD.sub (ws' := [(q1, .inr (4, [.int 0, .int 0, .int 0, .int 0, .int 0, .int 0, .int 0, .null, .int 0, .int 0, .int 0, .int 0, .int 0, .int 0, .int 0, .int 0, .int 0]))]) [2] (by decide) rfl
  have hFc := va_free (wc := [(q1, .inr (4, [.int 0, .int 0, .int 0, .int 0, .int 0, .int 0, .int 0, .null, .int 0, .int 0, .int 0, .int 0, .int 0, .int 0, .int 0, .int 0, .int 0]))]) hD hS hA [2] rfl
  refine fr_call (va_runI (As := [.int 0, .int ch, .int st, .int ln, .int pr, .int pd]) (rest := [.ref q1, .int 0, .ref rq]) ⟨hx, hb, hml, hown, ht⟩ (c_RQ_init_mk l dC dI H.size Bd q1 0 ch st ln pr pd) (cwI 6 ht (gI tb_370) rfl rfl rfl (ht _ tb_11) (ht _ tb_368) (ht _ tb_369) rfl (by decide +kernel) ⟨Nat.le_of_ble_eq_true rfl, Nat.le_of_ble_eq_true rfl⟩) ⟨frP_blind, fr_pre hPc hKc hDc hAB hBs hS hV⟩ rfl rfl hl.1 rfl (lv_room (Nat.le_of_ble_eq_true rfl)) d_TT_request_110 ⟨Nat.le_of_ble_eq_true rfl, Nat.le_of_ble_eq_true rfl⟩) hS (fun q _ h => hFc q h) hFc (fun t H1 locs ht1 hvm hB1 hz1 hk1 hS => ?_)
  obtain ⟨q2, hP1, hK1, hD1⟩ := hB1
  rw [ht1] at hP1
  have hK1 := va_K.moved hvm.symm hK1
  obtain ⟨hP, hD⟩ := va_join (wr := [(h0, .inr (0, [.ref rq, .ref oa, .ref pl, .ref dk, .ref rw, .int 0, .int 0, .int (-1)])), (rq, .inl (k1, 40, .inr (.inr (.inr (.inr (fun _ => none))))))]) (w1 := [(q1, .inr (4, [.int 0, .int ch, .int st, .int (st + ln), .int pr, .int (pd / 10), .int (pd - pd / 10 * 10), .ref q2, .int 0, .int (-1), .int (-1), .int 0, .int 0, .int 0, .int 0, .int 0, .int 0]))]) hP hD [2] [0, 1] rfl rfl (by decide) (by decide) hk1 hFc hP1 hD1
  have hK := hK.app hK1
  generalize H1 = H at hP hS ⊢
  have hP : va_P (dC, dI) cls_ [(h0, .inr (0, [.ref rq, .ref oa, .ref pl, .ref dk, .ref rw, .int 0, .int 0, .int (-1)])), (rq, .inl (k1, 40, .inr (.inr (.inr (.inr (fun _ => none)))))), (q1, .inr (4, [.int 0, .int ch, .int st, .int (st + ln), .int pr, .int (pd / 10), .int (pd - pd / 10 * 10), .ref q2, .int 0, .int (-1), .int (-1), .int 0, .int 0, .int 0, .int 0, .int 0, .int 0]))] H := hP
  have hD : va_D A [(h0, .inr (0, [.ref rq, .ref oa, .ref pl, .ref dk, .ref rw, .int 0, .int 0, .int (-1)])), (rq, .inl (k1, 40, .inr (.inr (.inr (.inr (fun _ => none)))))), (q1, .inr (4, [.int 0, .int ch, .int st, .int (st + ln), .int pr, .int (pd / 10), .int (pd - pd / 10 * 10), .ref q2, .int 0, .int (-1), .int (-1), .int 0, .int 0, .int 0, .int 0, .int 0, .int 0]))] := hD
  have hK : va_K (dC, dI) cls_ [(k1, .object "TwinTuners$Request")] s := hK
  refine W.eq (g2 := F0 m 113 ls [.ref q1, .int 0, .ref rq]) rfl ?_
  refine W.cs (cells' := 2) (slots' := 23) rfl rfl ?_
  refine va_astq (r := (R_RQ, F_RQ, 17)) hx hb hK hP hD hS 1 0 2 4 rfl rfl rfl rfl (show vp_in (nI 0) 40 from vp_in_nI (by decide) (by decide)) d_TT_request_113 (fun H locs hP hD hS => ?_)
  have hP : va_P (dC, dI) cls_ [(h0, .inr (0, [.ref rq, .ref oa, .ref pl, .ref dk, .ref rw, .int 0, .int 0, .int (-1)])), (rq, .inl (k1, 40, .inr (.inr (.inr (.inr (va_up (fun _ => none) (0 : Int32).toNatClampNeg (some q1))))))), (q1, .inr (4, [.int 0, .int ch, .int st, .int (st + ln), .int pr, .int (pd / 10), .int (pd - pd / 10 * 10), .ref q2, .int 0, .int (-1), .int (-1), .int 0, .int 0, .int 0, .int 0, .int 0, .int 0]))] H := hP
  have hD : va_D A [(h0, .inr (0, [.ref rq, .ref oa, .ref pl, .ref dk, .ref rw, .int 0, .int 0, .int (-1)])), (rq, .inl (k1, 40, .inr (.inr (.inr (.inr (va_up (fun _ => none) (0 : Int32).toNatClampNeg (some q1))))))), (q1, .inr (4, [.int 0, .int ch, .int st, .int (st + ln), .int pr, .int (pd / 10), .int (pd - pd / 10 * 10), .ref q2, .int 0, .int (-1), .int (-1), .int 0, .int 0, .int 0, .int 0, .int 0, .int 0]))] := hD
  refine lv_aload_n hx hb d_TT_request_114 rfl (lv_at hl 1 rfl) ?_
  refine lv_dup hx hb d_TT_request_115 rfl ?_
  refine va_get (D := (dC, dI)) (ci := 0) (v := .int 0) (C := R_TT) (T := F_TT) (N := 8) hx hb ht in_TT hown hK hP 0 rfl rfl 5 (by decide) (ht _ tb_80) (fun _ h9 => h9) rfl d_TT_request_116 ?_
  refine lv_iconst (v := 1) hx hb d_TT_request_119 (by decide) ?_
  refine lv_iadd hx hb d_TT_request_120 ?_
  refine va_put (D := (dC, dI)) (ci := 0) (v := .int (0 + 1)) (ty := .int) (C := R_TT) (T := F_TT) (N := 8) hx hb ht in_TT t_TT t_TT_ok n_TT hown hK hP hD hS 0 rfl rfl 5 (by decide) (ht _ tb_80) (fun _ h9 => h9) rfl (by decide +kernel) rfl rfl (Nat.le_of_ble_eq_true rfl) d_TT_request_121 (fun H locs hP hD hS => ?_)
  have hP : va_P (dC, dI) cls_ [(h0, .inr (0, [.ref rq, .ref oa, .ref pl, .ref dk, .ref rw, .int (0 + 1), .int 0, .int (-1)])), (rq, .inl (k1, 40, .inr (.inr (.inr (.inr (va_up (fun _ => none) (0 : Int32).toNatClampNeg (some q1))))))), (q1, .inr (4, [.int 0, .int ch, .int st, .int (st + ln), .int pr, .int (pd / 10), .int (pd - pd / 10 * 10), .ref q2, .int 0, .int (-1), .int (-1), .int 0, .int 0, .int 0, .int 0, .int 0, .int 0]))] H := hP
  have hD : va_D A [(h0, .inr (0, [.ref rq, .ref oa, .ref pl, .ref dk, .ref rw, .int (0 + 1), .int 0, .int (-1)])), (rq, .inl (k1, 40, .inr (.inr (.inr (.inr (va_up (fun _ => none) (0 : Int32).toNatClampNeg (some q1))))))), (q1, .inr (4, [.int 0, .int ch, .int st, .int (st + ln), .int pr, .int (pd / 10), .int (pd - pd / 10 * 10), .ref q2, .int 0, .int (-1), .int (-1), .int 0, .int 0, .int 0, .int 0, .int 0, .int 0]))] := hD
  refine lv_iload hx hb d_TT_request_124 (lv_at hl 0 rfl) ?_
  have hP9 := hP.sub (ws' := []) [] rfl
  have hD9 := hD.sub (ws' := []) [] (by decide) rfl
  have hK9 := hK.sub (tys' := []) [] rfl
  exact W.iret (v := 0) hx hb hr (fun t ht9 hW => ⟨rfl, ⟨by rw [ht9]; exact hP9, va_K.moved hW.alike hK9, hD9⟩, hS.F ht9⟩) hS.2.2 d_TT_request_126
set_option maxHeartbeats 4000000 in
set_option maxRecDepth 100000 in
theorem c_TT_air_ok (l : Launch) (dC : Nat → ClassId) (dI : Nat → Nat → Nat) (sz Bd : Nat) (h0 rq oa pl dk rw : Nat) (k2 : ClassId) (x y : Int32) (h : 0 ≤ x ∧ x ≤ 7) : Met l y_TT_air w_TT_air ({ frames := 2, cells := 0, slots := 0, locals := 42 }) (frP (dC, dI) [(h0, .inr (0, [.ref rq, .ref oa, .ref pl, .ref dk, .ref rw, .int 0, .int 0, .int (-1)])), (oa, .inl (k2, 8, .inl (fun _ => 0)))] [(k2, .int)] sz Bd [.ref h0, .int x, .int y]) (frQ none (fun t => va_P (dC, dI) cls_ [] t.heap ∧ va_K (dC, dI) cls_ [] t ∧ va_D (va_A [(h0, .inr (0, [.ref rq, .ref oa, .ref pl, .ref dk, .ref rw, .int 0, .int 0, .int (-1)])), (oa, .inl (k2, 8, .inl (fun _ => 0)))] sz) []) (va_A [(h0, .inr (0, [.ref rq, .ref oa, .ref pl, .ref dk, .ref rw, .int 0, .int 0, .int (-1)])), (oa, .inl (k2, 8, .inl (fun _ => 0)))] sz)) 0 0 (va_A [(h0, .inr (0, [.ref rq, .ref oa, .ref pl, .ref dk, .ref rw, .int 0, .int 0, .int (-1)])), (oa, .inl (k2, 8, .inl (fun _ => 0)))] sz) := by
  refine Met.ofW (cc := c_TT_air) (maxL := 3) (ret := none) (by decide) rfl ?_
  intro p e s m args below meth c s₁ B hml hv
  obtain ⟨rfl, ⟨hsz, hBs⟩, hP, hK, hD0, hV⟩ := hv
  have hx := B.exec
  have hb := B.bytes
  have hr := B.returns
  have ht : ∀ w ∈ tb_, w.before _ s = true := fun w h => atoms_spec (ws := w_TT_air) B.pre w (List.mem_cons_of_mem _ h)
  have hown : s.vm.findClass R_TT = some m.cls := findClass_of_methodNamed B.named
  have hlocks := B.notSynchronized
  subst hsz
  have hD := hD0.self (sz := s.heap.size)
  have hAB : ∀ q, va_A [(h0, .inr (0, [.ref rq, .ref oa, .ref pl, .ref dk, .ref rw, .int 0, .int 0, .int (-1)])), (oa, .inl (k2, 8, .inl (fun _ => 0)))] s.heap.size q → Bd ≤ q := fr_AB hD0 hBs
  generalize hAe : va_A [(h0, .inr (0, [.ref rq, .ref oa, .ref pl, .ref dk, .ref rw, .int 0, .int 0, .int (-1)])), (oa, .inl (k2, 8, .inl (fun _ => 0)))] s.heap.size = A at hD hAB ⊢
  have hA : ∀ q : Nat, s.heap.size ≤ q → A q := fun q h => by rw [← hAe]; exact Or.inr h
  have hS : va_S A s.heap s.heap [] := va_S.rf
  have hAO := hV.2.2.2.1
  have hN_PL := hV.2.2.1.1
  have hN_RW := hV.2.2.1.2
  have hP : va_P (dC, dI) cls_ [(h0, .inr (0, [.ref rq, .ref oa, .ref pl, .ref dk, .ref rw, .int 0, .int 0, .int (-1)])), (oa, .inl (k2, 8, .inl (fun _ => 0)))] s.heap := hP
  have hl := lv_entry ([.ref h0, .int x, .int y]) (n := 3) (Nat.le_of_ble_eq_true rfl)
  rw [lg_entry_eq]
  generalize (lg_sl ([.ref h0, .int x, .int y]) ++ List.replicate (3 - (lg_sl ([.ref h0, .int x, .int y])).length) Slot.unset).toArray = ls at hl ⊢
  have hl : lv_has ls 3 [(0, .ref h0), (1, .int x), (2, .int y)] := hl
  refine lv_iload_n hx hb d_TT_air_0 rfl (lv_at hl 1 rfl) ?_
  have hPc := hP.sub (ws' := []) [] rfl
  have hKc := hK.sub (tys' := []) [] rfl
  refine rd_call (va_runS (As := [.int x]) (rest := []) ⟨hx, hb, hml, hown, ht⟩ (c_TT_isChannel_yes l dC dI x h.1 h.2) (va_cwS 1 ht (gS tb_270 tb_271 tb_1 tb_272) rfl rfl rfl (by decide +kernel) ⟨Nat.le_of_ble_eq_true rfl, Nat.le_of_ble_eq_true rfl⟩) ⟨rdP_blind, rd_pre hPc hKc⟩ rfl rfl hl.1 rfl (lv_room (Nat.le_of_ble_eq_true rfl)) d_TT_air_1 ⟨Nat.le_of_ble_eq_true rfl, Nat.le_of_ble_eq_true rfl⟩) ?_
  refine W.eq (g2 := F0 m 4 ls [.int 1]) rfl ?_
  refine lv_if_ne (tgt := 17) hx hb d_TT_air_4 (by decide) (fun _ => ?_) (fun h9 => absurd h9 (by decide))
  refine lv_aload_n hx hb d_TT_air_17 rfl (lv_at hl 0 rfl) ?_
  refine va_get (D := (dC, dI)) (ci := 0) (v := .ref oa) (C := R_TT) (T := F_TT) (N := 8) hx hb ht in_TT hown hK hP 0 rfl rfl 1 (by decide) (ht _ tb_76) (fun _ h9 => h9) rfl d_TT_air_18 ?_
  refine lv_iload_n hx hb d_TT_air_21 rfl (lv_at hl 1 rfl) ?_
  refine lv_iload_n hx hb d_TT_air_22 rfl (lv_at hl 2 rfl) ?_
  refine va_iast hx hb hK hP hD hS 1 0 rfl rfl (in_8 h.1 h.2) d_TT_air_23 (fun H locs hP hD hS => ?_)
  have hP : va_P (dC, dI) cls_ [(h0, .inr (0, [.ref rq, .ref oa, .ref pl, .ref dk, .ref rw, .int 0, .int 0, .int (-1)])), (oa, .inl (k2, 8, .inl (upd (fun _ => 0) x.toNatClampNeg y)))] H := hP
  have hD : va_D A [(h0, .inr (0, [.ref rq, .ref oa, .ref pl, .ref dk, .ref rw, .int 0, .int 0, .int (-1)])), (oa, .inl (k2, 8, .inl (upd (fun _ => 0) x.toNatClampNeg y)))] := hD
  have hP9 := hP.sub (ws' := []) [] rfl
  have hD9 := hD.sub (ws' := []) [] (by decide) rfl
  have hK9 := hK.sub (tys' := []) [] rfl
  exact W.vret hx hb hr (fun t ht9 hW => ⟨rfl, ⟨by rw [ht9]; exact hP9, va_K.moved hW.alike hK9, hD9⟩, hS.F ht9⟩) hS.2.2 d_TT_air_24
set_option maxHeartbeats 4000000 in
set_option maxRecDepth 100000 in
theorem c_PL_takeRunning_0 (l : Launch) (dC : Nat → ClassId) (dI : Nat → Nat → Nat) (pl q9 : Nat) (x : Int32) : Met l y_PL_takeRunning w_PL_takeRunning ({ frames := 0, cells := 0, slots := 0, locals := 0 }) (rdP (dC, dI) [(pl, .inr (1, [.ref q9, .int 0]))] [] [.ref pl, .int x]) (rd_Q none) 0 0 (fun _ => False) := by
  refine Met.ofW (cc := c_PL_takeRunning) (maxL := 4) (ret := none) (by decide) rfl ?_
  intro p e s m args below meth c s₁ B hml hv
  obtain ⟨rfl, hP, hK⟩ := hv
  have hx := B.exec
  have hb := B.bytes
  have hr := B.returns
  have ht : ∀ w ∈ tb_, w.before _ s = true := fun w h => atoms_spec (ws := w_PL_takeRunning) B.pre w (List.mem_cons_of_mem _ h)
  have hown : s.vm.findClass R_PL = some m.cls := findClass_of_methodNamed B.named
  have hlocks := B.notSynchronized
  have hP : va_P (dC, dI) cls_ [(pl, .inr (1, [.ref q9, .int 0]))] s.heap := hP
  have hl := lv_entry ([.ref pl, .int x]) (n := 4) (Nat.le_of_ble_eq_true rfl)
  rw [lg_entry_eq]
  generalize (lg_sl ([.ref pl, .int x]) ++ List.replicate (4 - (lg_sl ([.ref pl, .int x])).length) Slot.unset).toArray = ls at hl ⊢
  have hl : lv_has ls 4 [(0, .ref pl), (1, .int x)] := hl
  refine lv_iconst (v := 0) hx hb d_PL_takeRunning_0 (by decide) ?_
  refine lv_istore_n hx hb d_PL_takeRunning_1 rfl hl (by decide) rfl (fun ls hl => ?_)
  have hl : lv_has ls 4 [(2, .int 0), (0, .ref pl), (1, .int x)] := hl
  refine lv_iload_n hx hb d_PL_takeRunning_2 rfl (lv_at hl 0 rfl) ?_
  refine lv_aload_n hx hb d_PL_takeRunning_3 rfl (lv_at hl 1 rfl) ?_
  refine va_get (D := (dC, dI)) (ci := 1) (v := .int 0) (C := R_PL) (T := F_PL) (N := 2) hx hb ht in_PL hown hK hP 0 rfl rfl 1 (by decide) (ht _ tb_33) (fun _ h9 => h9) rfl d_PL_takeRunning_4 ?_
  refine lv_icmp_ge (tgt := 55) hx hb d_PL_takeRunning_7 (by decide) (fun _ => ?_) (fun h9 => absurd (by decide) h9)
  exact W.vret hx hb hr (fun t ht9 hW => ⟨rfl, ht9⟩) (fun q h => by cases h) d_PL_takeRunning_55
set_option maxHeartbeats 4000000 in
set_option maxRecDepth 100000 in
theorem c_PL_takeCores_0 (l : Launch) (dC : Nat → ClassId) (dI : Nat → Nat → Nat) (pl q9 : Nat) : Met l y_PL_takeCores w_PL_takeCores ({ frames := 0, cells := 0, slots := 0, locals := 0 }) (rdP (dC, dI) [(pl, .inr (1, [.ref q9, .int 0]))] [] [.ref pl]) (rd_Q none) 0 0 (fun _ => False) := by
  refine Met.ofW (cc := c_PL_takeCores) (maxL := 3) (ret := none) (by decide) rfl ?_
  intro p e s m args below meth c s₁ B hml hv
  obtain ⟨rfl, hP, hK⟩ := hv
  have hx := B.exec
  have hb := B.bytes
  have hr := B.returns
  have ht : ∀ w ∈ tb_, w.before _ s = true := fun w h => atoms_spec (ws := w_PL_takeCores) B.pre w (List.mem_cons_of_mem _ h)
  have hown : s.vm.findClass R_PL = some m.cls := findClass_of_methodNamed B.named
  have hlocks := B.notSynchronized
  have hP : va_P (dC, dI) cls_ [(pl, .inr (1, [.ref q9, .int 0]))] s.heap := hP
  have hl := lv_entry ([.ref pl]) (n := 3) (Nat.le_of_ble_eq_true rfl)
  rw [lg_entry_eq]
  generalize (lg_sl ([.ref pl]) ++ List.replicate (3 - (lg_sl ([.ref pl])).length) Slot.unset).toArray = ls at hl ⊢
  have hl : lv_has ls 3 [(0, .ref pl)] := hl
  refine lv_iconst (v := 0) hx hb d_PL_takeCores_0 (by decide) ?_
  refine lv_istore_n hx hb d_PL_takeCores_1 rfl hl (by decide) rfl (fun ls hl => ?_)
  have hl : lv_has ls 3 [(1, .int 0), (0, .ref pl)] := hl
  refine lv_iload_n hx hb d_PL_takeCores_2 rfl (lv_at hl 0 rfl) ?_
  refine lv_aload_n hx hb d_PL_takeCores_3 rfl (lv_at hl 1 rfl) ?_
  refine va_get (D := (dC, dI)) (ci := 1) (v := .int 0) (C := R_PL) (T := F_PL) (N := 2) hx hb ht in_PL hown hK hP 0 rfl rfl 1 (by decide) (ht _ tb_33) (fun _ h9 => h9) rfl d_PL_takeCores_4 ?_
  refine lv_icmp_ge (tgt := 61) hx hb d_PL_takeCores_7 (by decide) (fun _ => ?_) (fun h9 => absurd (by decide) h9)
  exact W.vret hx hb hr (fun t ht9 hW => ⟨rfl, ht9⟩) (fun q h => by cases h) d_PL_takeCores_61
set_option maxHeartbeats 4000000 in
set_option maxRecDepth 100000 in
theorem c_PL_padRunning_0 (l : Launch) (dC : Nat → ClassId) (dI : Nat → Nat → Nat) (pl q9 : Nat) (x : Int32) : Met l y_PL_padRunning w_PL_padRunning ({ frames := 0, cells := 0, slots := 0, locals := 0 }) (rdP (dC, dI) [(pl, .inr (1, [.ref q9, .int 0]))] [] [.ref pl, .int x]) (rd_Q none) 0 0 (fun _ => False) := by
  refine Met.ofW (cc := c_PL_padRunning) (maxL := 3) (ret := none) (by decide) rfl ?_
  intro p e s m args below meth c s₁ B hml hv
  obtain ⟨rfl, hP, hK⟩ := hv
  have hx := B.exec
  have hb := B.bytes
  have hr := B.returns
  have ht : ∀ w ∈ tb_, w.before _ s = true := fun w h => atoms_spec (ws := w_PL_padRunning) B.pre w (List.mem_cons_of_mem _ h)
  have hown : s.vm.findClass R_PL = some m.cls := findClass_of_methodNamed B.named
  have hlocks := B.notSynchronized
  have hP : va_P (dC, dI) cls_ [(pl, .inr (1, [.ref q9, .int 0]))] s.heap := hP
  have hl := lv_entry ([.ref pl, .int x]) (n := 3) (Nat.le_of_ble_eq_true rfl)
  rw [lg_entry_eq]
  generalize (lg_sl ([.ref pl, .int x]) ++ List.replicate (3 - (lg_sl ([.ref pl, .int x])).length) Slot.unset).toArray = ls at hl ⊢
  have hl : lv_has ls 3 [(0, .ref pl), (1, .int x)] := hl
  refine lv_iconst (v := 0) hx hb d_PL_padRunning_0 (by decide) ?_
  refine lv_istore_n hx hb d_PL_padRunning_1 rfl hl (by decide) rfl (fun ls hl => ?_)
  have hl : lv_has ls 3 [(2, .int 0), (0, .ref pl), (1, .int x)] := hl
  refine lv_iload_n hx hb d_PL_padRunning_2 rfl (lv_at hl 0 rfl) ?_
  refine lv_aload_n hx hb d_PL_padRunning_3 rfl (lv_at hl 1 rfl) ?_
  refine va_get (D := (dC, dI)) (ci := 1) (v := .int 0) (C := R_PL) (T := F_PL) (N := 2) hx hb ht in_PL hown hK hP 0 rfl rfl 1 (by decide) (ht _ tb_33) (fun _ h9 => h9) rfl d_PL_padRunning_4 ?_
  refine lv_icmp_ge (tgt := 52) hx hb d_PL_padRunning_7 (by decide) (fun _ => ?_) (fun h9 => absurd (by decide) h9)
  exact W.vret hx hb hr (fun t ht9 hW => ⟨rfl, ht9⟩) (fun q h => by cases h) d_PL_padRunning_52
set_option maxHeartbeats 4000000 in
set_option maxRecDepth 100000 in
theorem c_PL_padWaiting_0 (l : Launch) (dC : Nat → ClassId) (dI : Nat → Nat → Nat) (pl q9 : Nat) (x : Int32) : Met l y_PL_padWaiting w_PL_padWaiting ({ frames := 0, cells := 0, slots := 0, locals := 0 }) (rdP (dC, dI) [(pl, .inr (1, [.ref q9, .int 0]))] [] [.ref pl, .int x]) (rd_Q none) 0 0 (fun _ => False) := by
  refine Met.ofW (cc := c_PL_padWaiting) (maxL := 4) (ret := none) (by decide) rfl ?_
  intro p e s m args below meth c s₁ B hml hv
  obtain ⟨rfl, hP, hK⟩ := hv
  have hx := B.exec
  have hb := B.bytes
  have hr := B.returns
  have ht : ∀ w ∈ tb_, w.before _ s = true := fun w h => atoms_spec (ws := w_PL_padWaiting) B.pre w (List.mem_cons_of_mem _ h)
  have hown : s.vm.findClass R_PL = some m.cls := findClass_of_methodNamed B.named
  have hlocks := B.notSynchronized
  have hP : va_P (dC, dI) cls_ [(pl, .inr (1, [.ref q9, .int 0]))] s.heap := hP
  have hl := lv_entry ([.ref pl, .int x]) (n := 4) (Nat.le_of_ble_eq_true rfl)
  rw [lg_entry_eq]
  generalize (lg_sl ([.ref pl, .int x]) ++ List.replicate (4 - (lg_sl ([.ref pl, .int x])).length) Slot.unset).toArray = ls at hl ⊢
  have hl : lv_has ls 4 [(0, .ref pl), (1, .int x)] := hl
  refine lv_iconst (v := 0) hx hb d_PL_padWaiting_0 (by decide) ?_
  refine lv_istore_n hx hb d_PL_padWaiting_1 rfl hl (by decide) rfl (fun ls hl => ?_)
  have hl : lv_has ls 4 [(2, .int 0), (0, .ref pl), (1, .int x)] := hl
  refine lv_iload_n hx hb d_PL_padWaiting_2 rfl (lv_at hl 0 rfl) ?_
  refine lv_aload_n hx hb d_PL_padWaiting_3 rfl (lv_at hl 1 rfl) ?_
  refine va_get (D := (dC, dI)) (ci := 1) (v := .int 0) (C := R_PL) (T := F_PL) (N := 2) hx hb ht in_PL hown hK hP 0 rfl rfl 1 (by decide) (ht _ tb_33) (fun _ h9 => h9) rfl d_PL_padWaiting_4 ?_
  refine lv_icmp_ge (tgt := 48) hx hb d_PL_padWaiting_7 (by decide) (fun _ => ?_) (fun h9 => absurd (by decide) h9)
  exact W.vret hx hb hr (fun t ht9 hW => ⟨rfl, ht9⟩) (fun q h => by cases h) d_PL_padWaiting_48
set_option maxHeartbeats 4000000 in
set_option maxRecDepth 100000 in
theorem c_PL_make_0 (l : Launch) (dC : Nat → ClassId) (dI : Nat → Nat → Nat) (sz Bd : Nat) (pl q9 rq : Nat) (x : Int32) : Met l y_PL_make w_PL_make ({ frames := 1, cells := 0, slots := 0, locals := 23 }) (frP (dC, dI) [(pl, .inr (1, [.ref q9, .int 0]))] [] sz Bd [.ref pl, .ref rq, .int 0, .int x]) (frQ none (fun t => va_P (dC, dI) cls_ [(pl, .inr (1, [.ref q9, .int 0]))] t.heap ∧ va_K (dC, dI) cls_ [] t ∧ va_D (va_A [(pl, .inr (1, [.ref q9, .int 0]))] sz) [(pl, .inr (1, [.ref q9, .int 0]))]) (va_A [(pl, .inr (1, [.ref q9, .int 0]))] sz)) 0 0 (va_A [(pl, .inr (1, [.ref q9, .int 0]))] sz) := by
  refine Met.ofW (cc := c_PL_make) (maxL := 5) (ret := none) (by decide) rfl ?_
  intro p e s m args below meth c s₁ B hml hv
  obtain ⟨rfl, ⟨hsz, hBs⟩, hP, hK, hD0, hV⟩ := hv
  have hx := B.exec
  have hb := B.bytes
  have hr := B.returns
  have ht : ∀ w ∈ tb_, w.before _ s = true := fun w h => atoms_spec (ws := w_PL_make) B.pre w (List.mem_cons_of_mem _ h)
  have hown : s.vm.findClass R_PL = some m.cls := findClass_of_methodNamed B.named
  have hlocks := B.notSynchronized
  subst hsz
  have hD := hD0.self (sz := s.heap.size)
  have hAB : ∀ q, va_A [(pl, .inr (1, [.ref q9, .int 0]))] s.heap.size q → Bd ≤ q := fr_AB hD0 hBs
  generalize hAe : va_A [(pl, .inr (1, [.ref q9, .int 0]))] s.heap.size = A at hD hAB ⊢
  have hA : ∀ q : Nat, s.heap.size ≤ q → A q := fun q h => by rw [← hAe]; exact Or.inr h
  have hS : va_S A s.heap s.heap [] := va_S.rf
  have hAO := hV.2.2.2.1
  have hN_PL := hV.2.2.1.1
  have hN_RW := hV.2.2.1.2
  have hP : va_P (dC, dI) cls_ [(pl, .inr (1, [.ref q9, .int 0]))] s.heap := hP
  have hl := lv_entry ([.ref pl, .ref rq, .int 0, .int x]) (n := 5) (Nat.le_of_ble_eq_true rfl)
  rw [lg_entry_eq]
  generalize (lg_sl ([.ref pl, .ref rq, .int 0, .int x]) ++ List.replicate (5 - (lg_sl ([.ref pl, .ref rq, .int 0, .int x])).length) Slot.unset).toArray = ls at hl ⊢
  have hl : lv_has ls 5 [(0, .ref pl), (1, .ref rq), (2, .int 0), (3, .int x)] := hl
  refine lv_aload_n hx hb d_PL_make_0 rfl (lv_at hl 0 rfl) ?_
  refine lv_iconst (v := 0) hx hb d_PL_make_1 (by decide) ?_
  refine va_put (D := (dC, dI)) (ci := 1) (v := .int 0) (ty := .int) (C := R_PL) (T := F_PL) (N := 2) hx hb ht in_PL t_PL t_PL_ok n_PL hown hK hP hD hS 0 rfl rfl 1 (by decide) (ht _ tb_33) (fun _ h9 => h9) rfl (by decide +kernel) rfl rfl (Nat.le_of_ble_eq_true rfl) d_PL_make_2 (fun H locs hP hD hS => ?_)
  have hP : va_P (dC, dI) cls_ [(pl, .inr (1, [.ref q9, .int 0]))] H := hP
  have hD : va_D A [(pl, .inr (1, [.ref q9, .int 0]))] := hD
  refine lv_iconst (v := 0) hx hb d_PL_make_5 (by decide) ?_
  refine lv_istore hx hb d_PL_make_6 hl (by decide) rfl (fun ls hl => ?_)
  have hl : lv_has ls 5 [(4, .int 0), (0, .ref pl), (1, .ref rq), (2, .int 0), (3, .int x)] := hl
  refine lv_iload hx hb d_PL_make_8 (lv_at hl 0 rfl) ?_
  refine lv_iload_n hx hb d_PL_make_10 rfl (lv_at hl 3 rfl) ?_
  refine lv_icmp_ge (tgt := 38) hx hb d_PL_make_11 (by decide) (fun _ => ?_) (fun h9 => absurd (by decide) h9)
  refine lv_aload_n hx hb d_PL_make_38 rfl (lv_at hl 1 rfl) ?_
  refine lv_iload_n hx hb d_PL_make_39 rfl (lv_at hl 4 rfl) ?_
  have hPc := hP.sub (ws' := [(pl, .inr (1, [.ref q9, .int 0]))]) [0] rfl
  have hKc := hK.sub (tys' := []) [] rfl
  refine rd_call (va_runV (C := R_PL) (As := [.int x]) (rest := []) ⟨hx, hb, hml, hown, ht⟩ (c_PL_takeRunning_0 l dC dI pl q9 x) (cwV 1 ht (gV tb_124 tb_126 ts_2 tb_2 tb_127) rfl rfl rfl (by decide +kernel) ⟨Nat.le_of_ble_eq_true rfl, Nat.le_of_ble_eq_true rfl⟩) ⟨rdP_blind, va_recv (q := (R_PL, F_PL, 2)) hK hP rfl (show ([(pl, .inr (1, [.ref q9, .int 0]))] : va_W)[0]? = some (pl, .inr (1, [.ref q9, .int 0])) from rfl), rd_pre hPc hKc⟩ rfl rfl hl.1 rfl (lv_room (Nat.le_of_ble_eq_true rfl)) d_PL_make_40 ⟨Nat.le_of_ble_eq_true rfl, Nat.le_of_ble_eq_true rfl⟩) ?_
  refine W.eq (g2 := F0 m 43 ls []) rfl ?_
  refine lv_aload_n hx hb d_PL_make_43 rfl (lv_at hl 1 rfl) ?_
  have hPc := hP.sub (ws' := [(pl, .inr (1, [.ref q9, .int 0]))]) [0] rfl
  have hKc := hK.sub (tys' := []) [] rfl
  refine rd_call (va_runV (C := R_PL) (As := []) (rest := []) ⟨hx, hb, hml, hown, ht⟩ (c_PL_takeCores_0 l dC dI pl q9) (cwV 0 ht (gV tb_128 tb_130 ts_3 tb_2 tb_131) rfl rfl rfl (by decide +kernel) ⟨Nat.le_of_ble_eq_true rfl, Nat.le_of_ble_eq_true rfl⟩) ⟨rdP_blind, va_recv (q := (R_PL, F_PL, 2)) hK hP rfl (show ([(pl, .inr (1, [.ref q9, .int 0]))] : va_W)[0]? = some (pl, .inr (1, [.ref q9, .int 0])) from rfl), rd_pre hPc hKc⟩ rfl rfl hl.1 rfl (lv_room (Nat.le_of_ble_eq_true rfl)) d_PL_make_44 ⟨Nat.le_of_ble_eq_true rfl, Nat.le_of_ble_eq_true rfl⟩) ?_
  refine W.eq (g2 := F0 m 47 ls []) rfl ?_
  refine lv_aload_n hx hb d_PL_make_47 rfl (lv_at hl 1 rfl) ?_
  refine lv_iload_n hx hb d_PL_make_48 rfl (lv_at hl 4 rfl) ?_
  have hPc := hP.sub (ws' := [(pl, .inr (1, [.ref q9, .int 0]))]) [0] rfl
  have hKc := hK.sub (tys' := []) [] rfl
  refine rd_call (va_runV (C := R_PL) (As := [.int x]) (rest := []) ⟨hx, hb, hml, hown, ht⟩ (c_PL_padRunning_0 l dC dI pl q9 x) (cwV 1 ht (gV tb_146 tb_148 ts_6 tb_2 tb_149) rfl rfl rfl (by decide +kernel) ⟨Nat.le_of_ble_eq_true rfl, Nat.le_of_ble_eq_true rfl⟩) ⟨rdP_blind, va_recv (q := (R_PL, F_PL, 2)) hK hP rfl (show ([(pl, .inr (1, [.ref q9, .int 0]))] : va_W)[0]? = some (pl, .inr (1, [.ref q9, .int 0])) from rfl), rd_pre hPc hKc⟩ rfl rfl hl.1 rfl (lv_room (Nat.le_of_ble_eq_true rfl)) d_PL_make_49 ⟨Nat.le_of_ble_eq_true rfl, Nat.le_of_ble_eq_true rfl⟩) ?_
  refine W.eq (g2 := F0 m 52 ls []) rfl ?_
  refine lv_aload_n hx hb d_PL_make_52 rfl (lv_at hl 1 rfl) ?_
  refine lv_iload_n hx hb d_PL_make_53 rfl (lv_at hl 4 rfl) ?_
  have hPc := hP.sub (ws' := [(pl, .inr (1, [.ref q9, .int 0]))]) [0] rfl
  have hKc := hK.sub (tys' := []) [] rfl
  refine rd_call (va_runV (C := R_PL) (As := [.int x]) (rest := []) ⟨hx, hb, hml, hown, ht⟩ (c_PL_padWaiting_0 l dC dI pl q9 x) (cwV 1 ht (gV tb_154 tb_156 ts_8 tb_2 tb_157) rfl rfl rfl (by decide +kernel) ⟨Nat.le_of_ble_eq_true rfl, Nat.le_of_ble_eq_true rfl⟩) ⟨rdP_blind, va_recv (q := (R_PL, F_PL, 2)) hK hP rfl (show ([(pl, .inr (1, [.ref q9, .int 0]))] : va_W)[0]? = some (pl, .inr (1, [.ref q9, .int 0])) from rfl), rd_pre hPc hKc⟩ rfl rfl hl.1 rfl (lv_room (Nat.le_of_ble_eq_true rfl)) d_PL_make_54 ⟨Nat.le_of_ble_eq_true rfl, Nat.le_of_ble_eq_true rfl⟩) ?_
  refine W.eq (g2 := F0 m 57 ls []) rfl ?_
  have hP9 := hP.sub (ws' := [(pl, .inr (1, [.ref q9, .int 0]))]) [0] rfl
  have hD9 := hD.sub (ws' := [(pl, .inr (1, [.ref q9, .int 0]))]) [0] (by decide) rfl
  have hK9 := hK.sub (tys' := []) [] rfl
  exact W.vret hx hb hr (fun t ht9 hW => ⟨rfl, ⟨by rw [ht9]; exact hP9, va_K.moved hW.alike hK9, hD9⟩, hS.F ht9⟩) hS.2.2 d_PL_make_57
set_option maxHeartbeats 4000000 in
set_option maxRecDepth 100000 in
theorem c_TT_tune_0 (l : Launch) (dC : Nat → ClassId) (dI : Nat → Nat → Nat) (sz Bd : Nat) (h0 rq oa pl dk rw : Nat) (q9 : Nat) (sc : Int32) : Met l y_TT_tune w_TT_tune ({ frames := 2, cells := 0, slots := 0, locals := 47 }) (frP (dC, dI) [(h0, .inr (0, [.ref rq, .ref oa, .ref pl, .ref dk, .ref rw, .int 0, .int sc, .int (-1)])), (pl, .inr (1, [.ref q9, .int 0]))] [] sz Bd [.ref h0]) (frQ (some (.int 0)) (fun t => va_P (dC, dI) cls_ [(h0, .inr (0, [.ref rq, .ref oa, .ref pl, .ref dk, .ref rw, .int 0, .int sc, .int (-1)])), (pl, .inr (1, [.ref q9, .int 0]))] t.heap ∧ va_K (dC, dI) cls_ [] t ∧ va_D (va_A [(h0, .inr (0, [.ref rq, .ref oa, .ref pl, .ref dk, .ref rw, .int 0, .int sc, .int (-1)])), (pl, .inr (1, [.ref q9, .int 0]))] sz) [(h0, .inr (0, [.ref rq, .ref oa, .ref pl, .ref dk, .ref rw, .int 0, .int sc, .int (-1)])), (pl, .inr (1, [.ref q9, .int 0]))]) (va_A [(h0, .inr (0, [.ref rq, .ref oa, .ref pl, .ref dk, .ref rw, .int 0, .int sc, .int (-1)])), (pl, .inr (1, [.ref q9, .int 0]))] sz)) 0 0 (va_A [(h0, .inr (0, [.ref rq, .ref oa, .ref pl, .ref dk, .ref rw, .int 0, .int sc, .int (-1)])), (pl, .inr (1, [.ref q9, .int 0]))] sz) := by
  refine Met.ofW (cc := c_TT_tune) (maxL := 4) (ret := (some .int)) (by decide) rfl ?_
  intro p e s m args below meth c s₁ B hml hv
  obtain ⟨rfl, ⟨hsz, hBs⟩, hP, hK, hD0, hV⟩ := hv
  have hx := B.exec
  have hb := B.bytes
  have hr := B.returns
  have ht : ∀ w ∈ tb_, w.before _ s = true := fun w h => atoms_spec (ws := w_TT_tune) B.pre w (List.mem_cons_of_mem _ h)
  have hown : s.vm.findClass R_TT = some m.cls := findClass_of_methodNamed B.named
  have hlocks := B.notSynchronized
  subst hsz
  have hD := hD0.self (sz := s.heap.size)
  have hAB : ∀ q, va_A [(h0, .inr (0, [.ref rq, .ref oa, .ref pl, .ref dk, .ref rw, .int 0, .int sc, .int (-1)])), (pl, .inr (1, [.ref q9, .int 0]))] s.heap.size q → Bd ≤ q := fr_AB hD0 hBs
  generalize hAe : va_A [(h0, .inr (0, [.ref rq, .ref oa, .ref pl, .ref dk, .ref rw, .int 0, .int sc, .int (-1)])), (pl, .inr (1, [.ref q9, .int 0]))] s.heap.size = A at hD hAB ⊢
  have hA : ∀ q : Nat, s.heap.size ≤ q → A q := fun q h => by rw [← hAe]; exact Or.inr h
  have hS : va_S A s.heap s.heap [] := va_S.rf
  have hAO := hV.2.2.2.1
  have hN_PL := hV.2.2.1.1
  have hN_RW := hV.2.2.1.2
  have hP : va_P (dC, dI) cls_ [(h0, .inr (0, [.ref rq, .ref oa, .ref pl, .ref dk, .ref rw, .int 0, .int sc, .int (-1)])), (pl, .inr (1, [.ref q9, .int 0]))] s.heap := hP
  have hl := lv_entry ([.ref h0]) (n := 4) (Nat.le_of_ble_eq_true rfl)
  rw [lg_entry_eq]
  generalize (lg_sl ([.ref h0]) ++ List.replicate (4 - (lg_sl ([.ref h0])).length) Slot.unset).toArray = ls at hl ⊢
  have hl : lv_has ls 4 [(0, .ref h0)] := hl
  refine lv_aload_n hx hb d_TT_tune_0 rfl (lv_at hl 0 rfl) ?_
  refine va_get (D := (dC, dI)) (ci := 0) (v := .ref pl) (C := R_TT) (T := F_TT) (N := 8) hx hb ht in_TT hown hK hP 0 rfl rfl 2 (by decide) (ht _ tb_77) (fun _ h9 => h9) rfl d_TT_tune_1 ?_
  refine lv_aload_n hx hb d_TT_tune_4 rfl (lv_at hl 0 rfl) ?_
  refine va_get (D := (dC, dI)) (ci := 0) (v := .ref rq) (C := R_TT) (T := F_TT) (N := 8) hx hb ht in_TT hown hK hP 0 rfl rfl 0 (by decide) (ht _ tb_75) (fun _ h9 => h9) rfl d_TT_tune_5 ?_
  refine lv_aload_n hx hb d_TT_tune_8 rfl (lv_at hl 0 rfl) ?_
  refine va_get (D := (dC, dI)) (ci := 0) (v := .int 0) (C := R_TT) (T := F_TT) (N := 8) hx hb ht in_TT hown hK hP 0 rfl rfl 5 (by decide) (ht _ tb_80) (fun _ h9 => h9) rfl d_TT_tune_9 ?_
  refine lv_aload_n hx hb d_TT_tune_12 rfl (lv_at hl 0 rfl) ?_
  refine va_get (D := (dC, dI)) (ci := 0) (v := .int sc) (C := R_TT) (T := F_TT) (N := 8) hx hb ht in_TT hown hK hP 0 rfl rfl 6 (by decide) (ht _ tb_81) (fun _ h9 => h9) rfl d_TT_tune_13 ?_
  have hPc := hP.sub (ws' := [(pl, .inr (1, [.ref q9, .int 0]))]) [1] rfl
  have hKc := hK.sub (tys' := []) [] rfl
  have hDc := hD.sub (ws' := [(pl, .inr (1, [.ref q9, .int 0]))]) [1] (by decide) rfl
  have hFc := va_free (wc := [(pl, .inr (1, [.ref q9, .int 0]))]) hD hS hA [1] rfl
  refine fr_call (va_runV (C := R_PL) (As := [.ref rq, .int 0, .int sc]) (rest := []) ⟨hx, hb, hml, hown, ht⟩ (c_PL_make_0 l dC dI s.heap.size Bd pl q9 rq sc) (cwV 3 ht (gV tb_108 tb_109 tb_110 tb_2 tb_111) rfl rfl rfl (by decide +kernel) ⟨Nat.le_of_ble_eq_true rfl, Nat.le_of_ble_eq_true rfl⟩) ⟨frP_blind, va_recv (q := (R_PL, F_PL, 2)) hK hP rfl (show ([(h0, .inr (0, [.ref rq, .ref oa, .ref pl, .ref dk, .ref rw, .int 0, .int sc, .int (-1)])), (pl, .inr (1, [.ref q9, .int 0]))] : va_W)[1]? = some (pl, .inr (1, [.ref q9, .int 0])) from rfl), fr_pre hPc hKc hDc hAB hBs hS hV⟩ rfl rfl hl.1 rfl (lv_room (Nat.le_of_ble_eq_true rfl)) d_TT_tune_16 ⟨Nat.le_of_ble_eq_true rfl, Nat.le_of_ble_eq_true rfl⟩) hS (fun q _ h => hFc q h) hFc (fun t H1 locs ht1 hvm hB1 hz1 hk1 hS => ?_)
  obtain ⟨hP1, hK1, hD1⟩ := hB1
  rw [ht1] at hP1
  have hK1 := va_K.moved hvm.symm hK1
  obtain ⟨hP, hD⟩ := va_join (wr := [(h0, .inr (0, [.ref rq, .ref oa, .ref pl, .ref dk, .ref rw, .int 0, .int sc, .int (-1)]))]) (w1 := [(pl, .inr (1, [.ref q9, .int 0]))]) hP hD [1] [0] rfl rfl (by decide) (by decide) hk1 hFc hP1 hD1
  have hK := hK.app hK1
  generalize H1 = H at hP hS ⊢
  have hP : va_P (dC, dI) cls_ [(h0, .inr (0, [.ref rq, .ref oa, .ref pl, .ref dk, .ref rw, .int 0, .int sc, .int (-1)])), (pl, .inr (1, [.ref q9, .int 0]))] H := hP
  have hD : va_D A [(h0, .inr (0, [.ref rq, .ref oa, .ref pl, .ref dk, .ref rw, .int 0, .int sc, .int (-1)])), (pl, .inr (1, [.ref q9, .int 0]))] := hD
  have hK : va_K (dC, dI) cls_ [] s := hK
  refine W.eq (g2 := F0 m 19 ls []) rfl ?_
  refine W.cs (cells' := 0) (slots' := 0) rfl rfl ?_
  refine lv_iconst (v := 0) hx hb d_TT_tune_19 (by decide) ?_
  refine lv_istore_n hx hb d_TT_tune_20 rfl hl (by decide) rfl (fun ls hl => ?_)
  have hl : lv_has ls 4 [(1, .int 0), (0, .ref h0)] := hl
  refine lv_iconst (v := 0) hx hb d_TT_tune_21 (by decide) ?_
  refine lv_istore_n hx hb d_TT_tune_22 rfl hl (by decide) rfl (fun ls hl => ?_)
  have hl : lv_has ls 4 [(2, .int 0), (1, .int 0), (0, .ref h0)] := hl
  refine lv_iload_n hx hb d_TT_tune_23 rfl (lv_at hl 0 rfl) ?_
  refine lv_aload_n hx hb d_TT_tune_24 rfl (lv_at hl 2 rfl) ?_
  refine va_get (D := (dC, dI)) (ci := 0) (v := .int 0) (C := R_TT) (T := F_TT) (N := 8) hx hb ht in_TT hown hK hP 0 rfl rfl 5 (by decide) (ht _ tb_80) (fun _ h9 => h9) rfl d_TT_tune_25 ?_
  refine lv_icmp_ge (tgt := 69) hx hb d_TT_tune_28 (by decide) (fun _ => ?_) (fun h9 => absurd (by decide) h9)
  refine lv_aload_n hx hb d_TT_tune_69 rfl (lv_at hl 2 rfl) ?_
  refine va_get (D := (dC, dI)) (ci := 0) (v := .int (-1)) (C := R_TT) (T := F_TT) (N := 8) hx hb ht in_TT hown hK hP 0 rfl rfl 7 (by decide) (ht _ tb_82) (fun _ h9 => h9) rfl d_TT_tune_70 ?_
  refine lv_iconst (v := -1) hx hb d_TT_tune_73 (by decide) ?_
  refine lv_icmp_eq (tgt := 94) hx hb d_TT_tune_74 (by decide) (fun _ => ?_) (fun h9 => absurd (rfl) h9)
  refine lv_iload_n hx hb d_TT_tune_94 rfl (lv_at hl 1 rfl) ?_
  have hP9 := hP.sub (ws' := [(h0, .inr (0, [.ref rq, .ref oa, .ref pl, .ref dk, .ref rw, .int 0, .int sc, .int (-1)])), (pl, .inr (1, [.ref q9, .int 0]))]) [0, 1] rfl
  have hD9 := hD.sub (ws' := [(h0, .inr (0, [.ref rq, .ref oa, .ref pl, .ref dk, .ref rw, .int 0, .int sc, .int (-1)])), (pl, .inr (1, [.ref q9, .int 0]))]) [0, 1] (by decide) rfl
  have hK9 := hK.sub (tys' := []) [] rfl
  exact W.iret (v := 0) hx hb hr (fun t ht9 hW => ⟨rfl, ⟨by rw [ht9]; exact hP9, va_K.moved hW.alike hK9, hD9⟩, hS.F ht9⟩) hS.2.2 d_TT_tune_95
set_option maxHeartbeats 4000000 in
set_option maxRecDepth 100000 in
theorem c_TT_passSecond_0 (l : Launch) (dC : Nat → ClassId) (dI : Nat → Nat → Nat) (sz Bd : Nat) (h0 rq oa pl dk rw : Nat) (sc tn : Int32) : Met l y_TT_passSecond w_TT_passSecond ({ frames := 0, cells := 0, slots := 0, locals := 0 }) (frP (dC, dI) [(h0, .inr (0, [.ref rq, .ref oa, .ref pl, .ref dk, .ref rw, .int 0, .int sc, .int (-1)]))] [] sz Bd [.ref h0, .int tn]) (frQ (some (.int 0)) (fun t => va_P (dC, dI) cls_ [(h0, .inr (0, [.ref rq, .ref oa, .ref pl, .ref dk, .ref rw, .int 0, .int (sc + 1), .int (-1)]))] t.heap ∧ va_K (dC, dI) cls_ [] t ∧ va_D (va_A [(h0, .inr (0, [.ref rq, .ref oa, .ref pl, .ref dk, .ref rw, .int 0, .int sc, .int (-1)]))] sz) [(h0, .inr (0, [.ref rq, .ref oa, .ref pl, .ref dk, .ref rw, .int 0, .int (sc + 1), .int (-1)]))]) (va_A [(h0, .inr (0, [.ref rq, .ref oa, .ref pl, .ref dk, .ref rw, .int 0, .int sc, .int (-1)]))] sz)) 0 0 (va_A [(h0, .inr (0, [.ref rq, .ref oa, .ref pl, .ref dk, .ref rw, .int 0, .int sc, .int (-1)]))] sz) := by
  refine Met.ofW (cc := c_TT_passSecond) (maxL := 4) (ret := (some .int)) (by decide) rfl ?_
  intro p e s m args below meth c s₁ B hml hv
  obtain ⟨rfl, ⟨hsz, hBs⟩, hP, hK, hD0, hV⟩ := hv
  have hx := B.exec
  have hb := B.bytes
  have hr := B.returns
  have ht : ∀ w ∈ tb_, w.before _ s = true := fun w h => atoms_spec (ws := w_TT_passSecond) B.pre w (List.mem_cons_of_mem _ h)
  have hown : s.vm.findClass R_TT = some m.cls := findClass_of_methodNamed B.named
  have hlocks := B.notSynchronized
  subst hsz
  have hD := hD0.self (sz := s.heap.size)
  have hAB : ∀ q, va_A [(h0, .inr (0, [.ref rq, .ref oa, .ref pl, .ref dk, .ref rw, .int 0, .int sc, .int (-1)]))] s.heap.size q → Bd ≤ q := fr_AB hD0 hBs
  generalize hAe : va_A [(h0, .inr (0, [.ref rq, .ref oa, .ref pl, .ref dk, .ref rw, .int 0, .int sc, .int (-1)]))] s.heap.size = A at hD hAB ⊢
  have hA : ∀ q : Nat, s.heap.size ≤ q → A q := fun q h => by rw [← hAe]; exact Or.inr h
  have hS : va_S A s.heap s.heap [] := va_S.rf
  have hAO := hV.2.2.2.1
  have hN_PL := hV.2.2.1.1
  have hN_RW := hV.2.2.1.2
  have hP : va_P (dC, dI) cls_ [(h0, .inr (0, [.ref rq, .ref oa, .ref pl, .ref dk, .ref rw, .int 0, .int sc, .int (-1)]))] s.heap := hP
  have hl := lv_entry ([.ref h0, .int tn]) (n := 4) (Nat.le_of_ble_eq_true rfl)
  rw [lg_entry_eq]
  generalize (lg_sl ([.ref h0, .int tn]) ++ List.replicate (4 - (lg_sl ([.ref h0, .int tn])).length) Slot.unset).toArray = ls at hl ⊢
  have hl : lv_has ls 4 [(0, .ref h0), (1, .int tn)] := hl
  refine lv_iconst (v := 0) hx hb d_TT_passSecond_0 (by decide) ?_
  refine lv_istore_n hx hb d_TT_passSecond_1 rfl hl (by decide) rfl (fun ls hl => ?_)
  have hl : lv_has ls 4 [(2, .int 0), (0, .ref h0), (1, .int tn)] := hl
  refine lv_iconst (v := 0) hx hb d_TT_passSecond_2 (by decide) ?_
  refine lv_istore_n hx hb d_TT_passSecond_3 rfl hl (by decide) rfl (fun ls hl => ?_)
  have hl : lv_has ls 4 [(3, .int 0), (2, .int 0), (0, .ref h0), (1, .int tn)] := hl
  refine lv_iload_n hx hb d_TT_passSecond_4 rfl (lv_at hl 0 rfl) ?_
  refine lv_aload_n hx hb d_TT_passSecond_5 rfl (lv_at hl 2 rfl) ?_
  refine va_get (D := (dC, dI)) (ci := 0) (v := .int 0) (C := R_TT) (T := F_TT) (N := 8) hx hb ht in_TT hown hK hP 0 rfl rfl 5 (by decide) (ht _ tb_80) (fun _ h9 => h9) rfl d_TT_passSecond_6 ?_
  refine lv_icmp_ge (tgt := 47) hx hb d_TT_passSecond_9 (by decide) (fun _ => ?_) (fun h9 => absurd (by decide) h9)
  refine lv_aload_n hx hb d_TT_passSecond_47 rfl (lv_at hl 2 rfl) ?_
  refine va_get (D := (dC, dI)) (ci := 0) (v := .int (-1)) (C := R_TT) (T := F_TT) (N := 8) hx hb ht in_TT hown hK hP 0 rfl rfl 7 (by decide) (ht _ tb_82) (fun _ h9 => h9) rfl d_TT_passSecond_48 ?_
  refine lv_iconst (v := -1) hx hb d_TT_passSecond_51 (by decide) ?_
  refine lv_icmp_eq (tgt := 75) hx hb d_TT_passSecond_52 (by decide) (fun _ => ?_) (fun h9 => absurd (rfl) h9)
  refine lv_aload_n hx hb d_TT_passSecond_75 rfl (lv_at hl 2 rfl) ?_
  refine lv_dup hx hb d_TT_passSecond_76 rfl ?_
  refine va_get (D := (dC, dI)) (ci := 0) (v := .int sc) (C := R_TT) (T := F_TT) (N := 8) hx hb ht in_TT hown hK hP 0 rfl rfl 6 (by decide) (ht _ tb_81) (fun _ h9 => h9) rfl d_TT_passSecond_77 ?_
  refine lv_iconst (v := 1) hx hb d_TT_passSecond_80 (by decide) ?_
  refine lv_iadd hx hb d_TT_passSecond_81 ?_
  refine va_put (D := (dC, dI)) (ci := 0) (v := .int (sc + 1)) (ty := .int) (C := R_TT) (T := F_TT) (N := 8) hx hb ht in_TT t_TT t_TT_ok n_TT hown hK hP hD hS 0 rfl rfl 6 (by decide) (ht _ tb_81) (fun _ h9 => h9) rfl (by decide +kernel) rfl rfl (Nat.le_of_ble_eq_true rfl) d_TT_passSecond_82 (fun H locs hP hD hS => ?_)
  have hP : va_P (dC, dI) cls_ [(h0, .inr (0, [.ref rq, .ref oa, .ref pl, .ref dk, .ref rw, .int 0, .int (sc + 1), .int (-1)]))] H := hP
  have hD : va_D A [(h0, .inr (0, [.ref rq, .ref oa, .ref pl, .ref dk, .ref rw, .int 0, .int (sc + 1), .int (-1)]))] := hD
  refine lv_iconst (v := 0) hx hb d_TT_passSecond_85 (by decide) ?_
  refine lv_istore_n hx hb d_TT_passSecond_86 rfl hl (by decide) rfl (fun ls hl => ?_)
  have hl : lv_has ls 4 [(3, .int 0), (2, .int 0), (0, .ref h0), (1, .int tn)] := hl
  refine lv_iload_n hx hb d_TT_passSecond_87 rfl (lv_at hl 0 rfl) ?_
  refine lv_aload_n hx hb d_TT_passSecond_88 rfl (lv_at hl 2 rfl) ?_
  refine va_get (D := (dC, dI)) (ci := 0) (v := .int 0) (C := R_TT) (T := F_TT) (N := 8) hx hb ht in_TT hown hK hP 0 rfl rfl 5 (by decide) (ht _ tb_80) (fun _ h9 => h9) rfl d_TT_passSecond_89 ?_
  refine lv_icmp_ge (tgt := 140) hx hb d_TT_passSecond_92 (by decide) (fun _ => ?_) (fun h9 => absurd (by decide) h9)
  refine lv_iload_n hx hb d_TT_passSecond_140 rfl (lv_at hl 1 rfl) ?_
  have hP9 := hP.sub (ws' := [(h0, .inr (0, [.ref rq, .ref oa, .ref pl, .ref dk, .ref rw, .int 0, .int (sc + 1), .int (-1)]))]) [0] rfl
  have hD9 := hD.sub (ws' := [(h0, .inr (0, [.ref rq, .ref oa, .ref pl, .ref dk, .ref rw, .int 0, .int (sc + 1), .int (-1)]))]) [0] (by decide) rfl
  have hK9 := hK.sub (tys' := []) [] rfl
  exact W.iret (v := 0) hx hb hr (fun t ht9 hW => ⟨rfl, ⟨by rw [ht9]; exact hP9, va_K.moved hW.alike hK9, hD9⟩, hS.F ht9⟩) hS.2.2 d_TT_passSecond_141
set_option maxHeartbeats 4000000 in
set_option maxRecDepth 100000 in
theorem c_TT_tick_0 (l : Launch) (dC : Nat → ClassId) (dI : Nat → Nat → Nat) (sz Bd : Nat) (h0 rq oa pl dk rw : Nat) (q9 : Nat) (sc : Int32) : Met l y_TT_tick w_TT_tick ({ frames := 3, cells := 0, slots := 0, locals := 70 }) (frP (dC, dI) [(h0, .inr (0, [.ref rq, .ref oa, .ref pl, .ref dk, .ref rw, .int 0, .int sc, .int (-1)])), (pl, .inr (1, [.ref q9, .int 0]))] [] sz Bd [.ref h0]) (frQ (some (.int 0)) (fun t => va_P (dC, dI) cls_ [] t.heap ∧ va_K (dC, dI) cls_ [] t ∧ va_D (va_A [(h0, .inr (0, [.ref rq, .ref oa, .ref pl, .ref dk, .ref rw, .int 0, .int sc, .int (-1)])), (pl, .inr (1, [.ref q9, .int 0]))] sz) []) (va_A [(h0, .inr (0, [.ref rq, .ref oa, .ref pl, .ref dk, .ref rw, .int 0, .int sc, .int (-1)])), (pl, .inr (1, [.ref q9, .int 0]))] sz)) 0 0 (va_A [(h0, .inr (0, [.ref rq, .ref oa, .ref pl, .ref dk, .ref rw, .int 0, .int sc, .int (-1)])), (pl, .inr (1, [.ref q9, .int 0]))] sz) := by
  refine Met.ofW (cc := c_TT_tick) (maxL := 2) (ret := (some .int)) (by decide) rfl ?_
  intro p e s m args below meth c s₁ B hml hv
  obtain ⟨rfl, ⟨hsz, hBs⟩, hP, hK, hD0, hV⟩ := hv
  have hx := B.exec
  have hb := B.bytes
  have hr := B.returns
  have ht : ∀ w ∈ tb_, w.before _ s = true := fun w h => atoms_spec (ws := w_TT_tick) B.pre w (List.mem_cons_of_mem _ h)
  have hown : s.vm.findClass R_TT = some m.cls := findClass_of_methodNamed B.named
  have hlocks := B.notSynchronized
  subst hsz
  have hD := hD0.self (sz := s.heap.size)
  have hAB : ∀ q, va_A [(h0, .inr (0, [.ref rq, .ref oa, .ref pl, .ref dk, .ref rw, .int 0, .int sc, .int (-1)])), (pl, .inr (1, [.ref q9, .int 0]))] s.heap.size q → Bd ≤ q := fr_AB hD0 hBs
  generalize hAe : va_A [(h0, .inr (0, [.ref rq, .ref oa, .ref pl, .ref dk, .ref rw, .int 0, .int sc, .int (-1)])), (pl, .inr (1, [.ref q9, .int 0]))] s.heap.size = A at hD hAB ⊢
  have hA : ∀ q : Nat, s.heap.size ≤ q → A q := fun q h => by rw [← hAe]; exact Or.inr h
  have hS : va_S A s.heap s.heap [] := va_S.rf
  have hAO := hV.2.2.2.1
  have hN_PL := hV.2.2.1.1
  have hN_RW := hV.2.2.1.2
  have hP : va_P (dC, dI) cls_ [(h0, .inr (0, [.ref rq, .ref oa, .ref pl, .ref dk, .ref rw, .int 0, .int sc, .int (-1)])), (pl, .inr (1, [.ref q9, .int 0]))] s.heap := hP
  have hl := lv_entry ([.ref h0]) (n := 2) (Nat.le_of_ble_eq_true rfl)
  rw [lg_entry_eq]
  generalize (lg_sl ([.ref h0]) ++ List.replicate (2 - (lg_sl ([.ref h0])).length) Slot.unset).toArray = ls at hl ⊢
  have hl : lv_has ls 2 [(0, .ref h0)] := hl
  refine lv_aload_n hx hb d_TT_tick_0 rfl (lv_at hl 0 rfl) ?_
  have hPc := hP.sub (ws' := [(h0, .inr (0, [.ref rq, .ref oa, .ref pl, .ref dk, .ref rw, .int 0, .int sc, .int (-1)])), (pl, .inr (1, [.ref q9, .int 0]))]) [0, 1] rfl
  have hKc := hK.sub (tys' := []) [] rfl
  have hDc := hD.sub (ws' := [(h0, .inr (0, [.ref rq, .ref oa, .ref pl, .ref dk, .ref rw, .int 0, .int sc, .int (-1)])), (pl, .inr (1, [.ref q9, .int 0]))]) [0, 1] (by decide) rfl
  have hFc := va_free (wc := [(h0, .inr (0, [.ref rq, .ref oa, .ref pl, .ref dk, .ref rw, .int 0, .int sc, .int (-1)])), (pl, .inr (1, [.ref q9, .int 0]))]) hD hS hA [0, 1] rfl
  refine fr_call (va_runV (C := R_TT) (As := []) (rest := []) ⟨hx, hb, hml, hown, ht⟩ (c_TT_tune_0 l dC dI s.heap.size Bd h0 rq oa pl dk rw q9 sc) (cwV 0 ht (gV tb_104 tb_106 ts_0 tb_1 tb_107) rfl rfl rfl (by decide +kernel) ⟨Nat.le_of_ble_eq_true rfl, Nat.le_of_ble_eq_true rfl⟩) ⟨frP_blind, va_recv (q := (R_TT, F_TT, 8)) hK hP rfl (show ([(h0, .inr (0, [.ref rq, .ref oa, .ref pl, .ref dk, .ref rw, .int 0, .int sc, .int (-1)])), (pl, .inr (1, [.ref q9, .int 0]))] : va_W)[0]? = some (h0, .inr (0, [.ref rq, .ref oa, .ref pl, .ref dk, .ref rw, .int 0, .int sc, .int (-1)])) from rfl), fr_pre hPc hKc hDc hAB hBs hS hV⟩ rfl rfl hl.1 rfl (lv_room (Nat.le_of_ble_eq_true rfl)) d_TT_tick_1 ⟨Nat.le_of_ble_eq_true rfl, Nat.le_of_ble_eq_true rfl⟩) hS (fun q _ h => hFc q h) hFc (fun t H1 locs ht1 hvm hB1 hz1 hk1 hS => ?_)
  obtain ⟨hP1, hK1, hD1⟩ := hB1
  rw [ht1] at hP1
  have hK1 := va_K.moved hvm.symm hK1
  obtain ⟨hP, hD⟩ := va_join (wr := []) (w1 := [(h0, .inr (0, [.ref rq, .ref oa, .ref pl, .ref dk, .ref rw, .int 0, .int sc, .int (-1)])), (pl, .inr (1, [.ref q9, .int 0]))]) hP hD [0, 1] [] rfl rfl (by decide) (by decide) hk1 hFc hP1 hD1
  have hK := hK.app hK1
  generalize H1 = H at hP hS ⊢
  have hP : va_P (dC, dI) cls_ [(h0, .inr (0, [.ref rq, .ref oa, .ref pl, .ref dk, .ref rw, .int 0, .int sc, .int (-1)])), (pl, .inr (1, [.ref q9, .int 0]))] H := hP
  have hD : va_D A [(h0, .inr (0, [.ref rq, .ref oa, .ref pl, .ref dk, .ref rw, .int 0, .int sc, .int (-1)])), (pl, .inr (1, [.ref q9, .int 0]))] := hD
  have hK : va_K (dC, dI) cls_ [] s := hK
  refine W.eq (g2 := F0 m 4 ls [.int 0]) rfl ?_
  refine W.cs (cells' := 0) (slots' := 0) rfl rfl ?_
  refine lv_istore_n hx hb d_TT_tick_4 rfl hl (by decide) rfl (fun ls hl => ?_)
  have hl : lv_has ls 2 [(1, .int 0), (0, .ref h0)] := hl
  refine lv_aload_n hx hb d_TT_tick_5 rfl (lv_at hl 1 rfl) ?_
  refine lv_iload_n hx hb d_TT_tick_6 rfl (lv_at hl 0 rfl) ?_
  have hPc := hP.sub (ws' := [(h0, .inr (0, [.ref rq, .ref oa, .ref pl, .ref dk, .ref rw, .int 0, .int sc, .int (-1)]))]) [0] rfl
  have hKc := hK.sub (tys' := []) [] rfl
  have hDc := hD.sub (ws' := [(h0, .inr (0, [.ref rq, .ref oa, .ref pl, .ref dk, .ref rw, .int 0, .int sc, .int (-1)]))]) [0] (by decide) rfl
  have hFc := va_free (wc := [(h0, .inr (0, [.ref rq, .ref oa, .ref pl, .ref dk, .ref rw, .int 0, .int sc, .int (-1)]))]) hD hS hA [0] rfl
  refine fr_call (va_runV (C := R_TT) (As := [.int 0]) (rest := []) ⟨hx, hb, hml, hown, ht⟩ (c_TT_passSecond_0 l dC dI H.size Bd h0 rq oa pl dk rw sc 0) (cwV 1 ht (gV tb_172 tb_174 ts_10 tb_1 tb_175) rfl rfl rfl (by decide +kernel) ⟨Nat.le_of_ble_eq_true rfl, Nat.le_of_ble_eq_true rfl⟩) ⟨frP_blind, va_recv (q := (R_TT, F_TT, 8)) hK hP rfl (show ([(h0, .inr (0, [.ref rq, .ref oa, .ref pl, .ref dk, .ref rw, .int 0, .int sc, .int (-1)])), (pl, .inr (1, [.ref q9, .int 0]))] : va_W)[0]? = some (h0, .inr (0, [.ref rq, .ref oa, .ref pl, .ref dk, .ref rw, .int 0, .int sc, .int (-1)])) from rfl), fr_pre hPc hKc hDc hAB hBs hS hV⟩ rfl rfl hl.1 rfl (lv_room (Nat.le_of_ble_eq_true rfl)) d_TT_tick_7 ⟨Nat.le_of_ble_eq_true rfl, Nat.le_of_ble_eq_true rfl⟩) hS (fun q _ h => hFc q h) hFc (fun t H1 locs ht1 hvm hB1 hz1 hk1 hS => ?_)
  obtain ⟨hP1, hK1, hD1⟩ := hB1
  rw [ht1] at hP1
  have hK1 := va_K.moved hvm.symm hK1
  obtain ⟨hP, hD⟩ := va_join (wr := [(pl, .inr (1, [.ref q9, .int 0]))]) (w1 := [(h0, .inr (0, [.ref rq, .ref oa, .ref pl, .ref dk, .ref rw, .int 0, .int (sc + 1), .int (-1)]))]) hP hD [0] [1] rfl rfl (by decide) (by decide) hk1 hFc hP1 hD1
  have hK := hK.app hK1
  generalize H1 = H at hP hS ⊢
  have hP : va_P (dC, dI) cls_ [(pl, .inr (1, [.ref q9, .int 0])), (h0, .inr (0, [.ref rq, .ref oa, .ref pl, .ref dk, .ref rw, .int 0, .int (sc + 1), .int (-1)]))] H := hP
  have hD : va_D A [(pl, .inr (1, [.ref q9, .int 0])), (h0, .inr (0, [.ref rq, .ref oa, .ref pl, .ref dk, .ref rw, .int 0, .int (sc + 1), .int (-1)]))] := hD
  have hK : va_K (dC, dI) cls_ [] s := hK
  refine W.eq (g2 := F0 m 10 ls [.int 0]) rfl ?_
  refine W.cs (cells' := 0) (slots' := 0) rfl rfl ?_
  refine lv_pop hx hb d_TT_tick_10 rfl ?_
  refine lv_iload_n hx hb d_TT_tick_11 rfl (lv_at hl 0 rfl) ?_
  have hP9 := hP.sub (ws' := []) [] rfl
  have hD9 := hD.sub (ws' := []) [] (by decide) rfl
  have hK9 := hK.sub (tys' := []) [] rfl
  exact W.iret (v := 0) hx hb hr (fun t ht9 hW => ⟨rfl, ⟨by rw [ht9]; exact hP9, va_K.moved hW.alike hK9, hD9⟩, hS.F ht9⟩) hS.2.2 d_TT_tick_12
set_option maxHeartbeats 4000000 in
set_option maxRecDepth 100000 in
theorem lp_TT_ticks {p : Program} {l : Launch} {e : Env} {s : State} {m : MethodId} {args : Array Value} {below : List Frame} {meth : Method} {c : Code} {Q : State → Prop} {A : Nat → Prop} (dC : Nat → ClassId) (dI : Nat → Nat → Nat) (Bd : Nat) (h0 rq oa pl dk rw q9 N : Nat) (hN : N ≤ 100) (hx : p.tables.exec = Jvm.exec) (hb : c.code = c_TT_ticks) (hml : c.maxLocals = 4) (ht : ∀ w ∈ tb_, w.before args s = true) (hown : s.vm.findClass R_TT = some m.cls) (hK : va_K (dC, dI) cls_ [] s) (hA : ∀ q : Nat, s.heap.size ≤ q → A q) (hAB : ∀ q, A q → Bd ≤ q) (hBs : Bd ≤ s.heap.size) (hV : tw_V Bd s s.heap)
    (kk : ∀ (sc : Int32) (H : Heap) (locs : List Loc) (ls : Array Slot), lv_has ls 4 [(3, .int (nI N)), (2, .int 0), (1, .int (nI N)), (0, .ref h0)] → va_P (dC, dI) cls_ [(h0, .inr (0, [.ref rq, .ref oa, .ref pl, .ref dk, .ref rw, .int 0, .int sc, .int (-1)])), (pl, .inr (1, [.ref q9, .int 0]))] H → va_D A [(h0, .inr (0, [.ref rq, .ref oa, .ref pl, .ref dk, .ref rw, .int 0, .int sc, .int (-1)])), (pl, .inr (1, [.ref q9, .int 0]))] → va_S A s.heap H locs → W p l e ({ frames := 3, cells := 0, slots := 0, locals := 70 } : Room) s m args below meth c H locs 0 0 Q (F0 m 46 ls [])) :
    ∀ (n k : Nat) (sc : Int32) (H : Heap) (locs : List Loc) (ls : Array Slot), k + n = N → lv_has ls 4 [(3, .int (nI k)), (2, .int 0), (1, .int (nI N)), (0, .ref h0)] → va_P (dC, dI) cls_ [(h0, .inr (0, [.ref rq, .ref oa, .ref pl, .ref dk, .ref rw, .int 0, .int sc, .int (-1)])), (pl, .inr (1, [.ref q9, .int 0]))] H → va_D A [(h0, .inr (0, [.ref rq, .ref oa, .ref pl, .ref dk, .ref rw, .int 0, .int sc, .int (-1)])), (pl, .inr (1, [.ref q9, .int 0]))] → va_S A s.heap H locs → W p l e ({ frames := 3, cells := 0, slots := 0, locals := 70 } : Room) s m args below meth c H locs 0 0 Q (F0 m 24 ls []) := by
  intro n
  induction n with
  | zero =>
    intro k sc H locs ls hn hl hP hD hS
    obtain rfl : k = N := by omega
    refine lv_iload_n hx hb d_TT_ticks_24 rfl (lv_at hl 0 rfl) ?_
    refine lv_iload_n hx hb d_TT_ticks_25 rfl (lv_at hl 2 rfl) ?_
    refine lv_icmp_ge (tgt := 46) hx hb d_TT_ticks_26 (by decide) (fun _ => ?_) (fun h9 => absurd (Int32.le_refl _) h9)
    exact kk sc H locs ls hl hP hD hS
  | succ n ih =>
    intro k sc H locs ls hn hl hP hD hS
    refine lv_iload_n hx hb d_TT_ticks_24 rfl (lv_at hl 0 rfl) ?_
    refine lv_iload_n hx hb d_TT_ticks_25 rfl (lv_at hl 2 rfl) ?_
    refine lv_icmp_ge (tgt := 46) hx hb d_TT_ticks_26 (by decide) (fun h9 => absurd h9 (nI_ge (show k < N by omega) (by omega))) (fun _ => ?_)
    refine lv_iload_n hx hb d_TT_ticks_29 rfl (lv_at hl 1 rfl) ?_
    refine lv_aload_n hx hb d_TT_ticks_30 rfl (lv_at hl 3 rfl) ?_
    refine lv_aload_n hx hb d_TT_ticks_31 rfl (lv_at hl 3 rfl) ?_
    have hPc := hP.sub (ws' := [(h0, .inr (0, [.ref rq, .ref oa, .ref pl, .ref dk, .ref rw, .int 0, .int sc, .int (-1)])), (pl, .inr (1, [.ref q9, .int 0]))]) [0, 1] rfl
    have hKc := hK.sub (tys' := []) [] rfl
    have hDc := hD.sub (ws' := [(h0, .inr (0, [.ref rq, .ref oa, .ref pl, .ref dk, .ref rw, .int 0, .int sc, .int (-1)])), (pl, .inr (1, [.ref q9, .int 0]))]) [0, 1] (by decide) rfl
    have hFc := va_free (wc := [(h0, .inr (0, [.ref rq, .ref oa, .ref pl, .ref dk, .ref rw, .int 0, .int sc, .int (-1)])), (pl, .inr (1, [.ref q9, .int 0]))]) hD hS hA [0, 1] rfl
    refine fr_call (va_runV (C := R_TT) (As := []) (rest := [.ref h0, .int 0]) ⟨hx, hb, hml, hown, ht⟩ (c_TT_tune_0 l dC dI H.size Bd h0 rq oa pl dk rw q9 sc) (cwV 0 ht (gV tb_104 tb_106 ts_0 tb_1 tb_107) rfl rfl rfl (by decide +kernel) ⟨Nat.le_of_ble_eq_true rfl, Nat.le_of_ble_eq_true rfl⟩) ⟨frP_blind, va_recv (q := (R_TT, F_TT, 8)) hK hP rfl (show ([(h0, .inr (0, [.ref rq, .ref oa, .ref pl, .ref dk, .ref rw, .int 0, .int sc, .int (-1)])), (pl, .inr (1, [.ref q9, .int 0]))] : va_W)[0]? = some (h0, .inr (0, [.ref rq, .ref oa, .ref pl, .ref dk, .ref rw, .int 0, .int sc, .int (-1)])) from rfl), fr_pre hPc hKc hDc hAB hBs hS hV⟩ rfl rfl hl.1 rfl (lv_room (Nat.le_of_ble_eq_true rfl)) d_TT_ticks_32 ⟨Nat.le_of_ble_eq_true rfl, Nat.le_of_ble_eq_true rfl⟩) hS (fun q _ h => hFc q h) hFc (fun t H1 locs ht1 hvm hB1 hz1 hk1 hS => ?_)
    obtain ⟨hP1, hK1, hD1⟩ := hB1
    rw [ht1] at hP1
    have hK1 := va_K.moved hvm.symm hK1
    obtain ⟨hP, hD⟩ := va_join (wr := []) (w1 := [(h0, .inr (0, [.ref rq, .ref oa, .ref pl, .ref dk, .ref rw, .int 0, .int sc, .int (-1)])), (pl, .inr (1, [.ref q9, .int 0]))]) hP hD [0, 1] [] rfl rfl (by decide) (by decide) hk1 hFc hP1 hD1
    have hK := hK.app hK1
    generalize H1 = H at hP hS ⊢
    have hP : va_P (dC, dI) cls_ [(h0, .inr (0, [.ref rq, .ref oa, .ref pl, .ref dk, .ref rw, .int 0, .int sc, .int (-1)])), (pl, .inr (1, [.ref q9, .int 0]))] H := hP
    have hD : va_D A [(h0, .inr (0, [.ref rq, .ref oa, .ref pl, .ref dk, .ref rw, .int 0, .int sc, .int (-1)])), (pl, .inr (1, [.ref q9, .int 0]))] := hD
    have hK : va_K (dC, dI) cls_ [] s := hK
    refine W.eq (g2 := F0 m 35 ls [.int 0, .ref h0, .int 0]) rfl ?_
    refine W.cs (cells' := 0) (slots' := 0) rfl rfl ?_
    have hPc := hP.sub (ws' := [(h0, .inr (0, [.ref rq, .ref oa, .ref pl, .ref dk, .ref rw, .int 0, .int sc, .int (-1)]))]) [0] rfl
    have hKc := hK.sub (tys' := []) [] rfl
    have hDc := hD.sub (ws' := [(h0, .inr (0, [.ref rq, .ref oa, .ref pl, .ref dk, .ref rw, .int 0, .int sc, .int (-1)]))]) [0] (by decide) rfl
    have hFc := va_free (wc := [(h0, .inr (0, [.ref rq, .ref oa, .ref pl, .ref dk, .ref rw, .int 0, .int sc, .int (-1)]))]) hD hS hA [0] rfl
    refine fr_call (va_runV (C := R_TT) (As := [.int 0]) (rest := [.int 0]) ⟨hx, hb, hml, hown, ht⟩ (c_TT_passSecond_0 l dC dI H.size Bd h0 rq oa pl dk rw sc 0) (cwV 1 ht (gV tb_172 tb_174 ts_10 tb_1 tb_175) rfl rfl rfl (by decide +kernel) ⟨Nat.le_of_ble_eq_true rfl, Nat.le_of_ble_eq_true rfl⟩) ⟨frP_blind, va_recv (q := (R_TT, F_TT, 8)) hK hP rfl (show ([(h0, .inr (0, [.ref rq, .ref oa, .ref pl, .ref dk, .ref rw, .int 0, .int sc, .int (-1)])), (pl, .inr (1, [.ref q9, .int 0]))] : va_W)[0]? = some (h0, .inr (0, [.ref rq, .ref oa, .ref pl, .ref dk, .ref rw, .int 0, .int sc, .int (-1)])) from rfl), fr_pre hPc hKc hDc hAB hBs hS hV⟩ rfl rfl hl.1 rfl (lv_room (Nat.le_of_ble_eq_true rfl)) d_TT_ticks_35 ⟨Nat.le_of_ble_eq_true rfl, Nat.le_of_ble_eq_true rfl⟩) hS (fun q _ h => hFc q h) hFc (fun t H1 locs ht1 hvm hB1 hz1 hk1 hS => ?_)
    obtain ⟨hP1, hK1, hD1⟩ := hB1
    rw [ht1] at hP1
    have hK1 := va_K.moved hvm.symm hK1
    obtain ⟨hP, hD⟩ := va_join (wr := [(pl, .inr (1, [.ref q9, .int 0]))]) (w1 := [(h0, .inr (0, [.ref rq, .ref oa, .ref pl, .ref dk, .ref rw, .int 0, .int (sc + 1), .int (-1)]))]) hP hD [0] [1] rfl rfl (by decide) (by decide) hk1 hFc hP1 hD1
    have hK := hK.app hK1
    generalize H1 = H at hP hS ⊢
    have hP : va_P (dC, dI) cls_ [(pl, .inr (1, [.ref q9, .int 0])), (h0, .inr (0, [.ref rq, .ref oa, .ref pl, .ref dk, .ref rw, .int 0, .int (sc + 1), .int (-1)]))] H := hP
    have hD : va_D A [(pl, .inr (1, [.ref q9, .int 0])), (h0, .inr (0, [.ref rq, .ref oa, .ref pl, .ref dk, .ref rw, .int 0, .int (sc + 1), .int (-1)]))] := hD
    have hK : va_K (dC, dI) cls_ [] s := hK
    refine W.eq (g2 := F0 m 38 ls [.int 0, .int 0]) rfl ?_
    refine W.cs (cells' := 0) (slots' := 0) rfl rfl ?_
    refine lv_iadd hx hb d_TT_ticks_38 ?_
    refine lv_topi (fun v1 ev1 => ?_)
    obtain rfl : v1 = 0 := ev1.trans (by decide)
    refine lv_istore_n hx hb d_TT_ticks_39 rfl hl (by decide) rfl (fun ls hl => ?_)
    have hl : lv_has ls 4 [(2, .int 0), (3, .int (nI k)), (1, .int (nI N)), (0, .ref h0)] := hl
    refine lv_iinc (k := 1) (v := nI (k + 1)) hx hb d_TT_ticks_40 hl rfl ((nI_succ k).symm) (by decide) rfl (fun ls hl => ?_)
    have hl : lv_has ls 4 [(3, .int (nI (k + 1))), (2, .int 0), (1, .int (nI N)), (0, .ref h0)] := hl
    refine lv_goto (tgt := 24) hx hb d_TT_ticks_43 (by decide) ?_
    have hl := lv_sub hl [0, 1, 2, 3] (l' := [(3, .int (nI (k + 1))), (2, .int 0), (1, .int (nI N)), (0, .ref h0)]) rfl
    have hP := hP.sub (ws' := [(h0, .inr (0, [.ref rq, .ref oa, .ref pl, .ref dk, .ref rw, .int 0, .int (sc + 1), .int (-1)])), (pl, .inr (1, [.ref q9, .int 0]))]) [1, 0] rfl
    have hD := hD.sub (ws' := [(h0, .inr (0, [.ref rq, .ref oa, .ref pl, .ref dk, .ref rw, .int 0, .int (sc + 1), .int (-1)])), (pl, .inr (1, [.ref q9, .int 0]))]) [1, 0] (by decide) rfl
    exact ih (k + 1) (sc + 1) H locs ls (by omega) hl hP hD hS
set_option maxHeartbeats 4000000 in
set_option maxRecDepth 100000 in
theorem c_TT_ticks_ok (l : Launch) (dC : Nat → ClassId) (dI : Nat → Nat → Nat) (sz Bd : Nat) (h0 rq oa pl dk rw : Nat) (q9 N : Nat) (h : 1 ≤ N ∧ N ≤ 100) : Met l y_TT_ticks w_TT_ticks ({ frames := 3, cells := 0, slots := 0, locals := 70 }) (frP (dC, dI) [(h0, .inr (0, [.ref rq, .ref oa, .ref pl, .ref dk, .ref rw, .int 0, .int 0, .int (-1)])), (pl, .inr (1, [.ref q9, .int 0]))] [] sz Bd [.ref h0, .int (nI N)]) (frQ (some (.int 0)) (fun t => va_P (dC, dI) cls_ [] t.heap ∧ va_K (dC, dI) cls_ [] t ∧ va_D (va_A [(h0, .inr (0, [.ref rq, .ref oa, .ref pl, .ref dk, .ref rw, .int 0, .int 0, .int (-1)])), (pl, .inr (1, [.ref q9, .int 0]))] sz) []) (va_A [(h0, .inr (0, [.ref rq, .ref oa, .ref pl, .ref dk, .ref rw, .int 0, .int 0, .int (-1)])), (pl, .inr (1, [.ref q9, .int 0]))] sz)) 0 0 (va_A [(h0, .inr (0, [.ref rq, .ref oa, .ref pl, .ref dk, .ref rw, .int 0, .int 0, .int (-1)])), (pl, .inr (1, [.ref q9, .int 0]))] sz) := by
  refine Met.ofW (cc := c_TT_ticks) (maxL := 4) (ret := (some .int)) (by decide) rfl ?_
  intro p e s m args below meth c s₁ B hml hv
  obtain ⟨rfl, ⟨hsz, hBs⟩, hP, hK, hD0, hV⟩ := hv
  have hx := B.exec
  have hb := B.bytes
  have hr := B.returns
  have ht : ∀ w ∈ tb_, w.before _ s = true := fun w h => atoms_spec (ws := w_TT_ticks) B.pre w (List.mem_cons_of_mem _ h)
  have hown : s.vm.findClass R_TT = some m.cls := findClass_of_methodNamed B.named
  have hlocks := B.notSynchronized
  subst hsz
  have hD := hD0.self (sz := s.heap.size)
  have hAB : ∀ q, va_A [(h0, .inr (0, [.ref rq, .ref oa, .ref pl, .ref dk, .ref rw, .int 0, .int 0, .int (-1)])), (pl, .inr (1, [.ref q9, .int 0]))] s.heap.size q → Bd ≤ q := fr_AB hD0 hBs
  generalize hAe : va_A [(h0, .inr (0, [.ref rq, .ref oa, .ref pl, .ref dk, .ref rw, .int 0, .int 0, .int (-1)])), (pl, .inr (1, [.ref q9, .int 0]))] s.heap.size = A at hD hAB ⊢
  have hA : ∀ q : Nat, s.heap.size ≤ q → A q := fun q h => by rw [← hAe]; exact Or.inr h
  have hS : va_S A s.heap s.heap [] := va_S.rf
  have hAO := hV.2.2.2.1
  have hN_PL := hV.2.2.1.1
  have hN_RW := hV.2.2.1.2
  have hP : va_P (dC, dI) cls_ [(h0, .inr (0, [.ref rq, .ref oa, .ref pl, .ref dk, .ref rw, .int 0, .int 0, .int (-1)])), (pl, .inr (1, [.ref q9, .int 0]))] s.heap := hP
  have hl := lv_entry ([.ref h0, .int (nI N)]) (n := 4) (Nat.le_of_ble_eq_true rfl)
  rw [lg_entry_eq]
  generalize (lg_sl ([.ref h0, .int (nI N)]) ++ List.replicate (4 - (lg_sl ([.ref h0, .int (nI N)])).length) Slot.unset).toArray = ls at hl ⊢
  have hl : lv_has ls 4 [(0, .ref h0), (1, .int (nI N))] := hl
  refine lv_iload_n hx hb d_TT_ticks_0 rfl (lv_at hl 1 rfl) ?_
  refine lv_iconst (v := 1) hx hb d_TT_ticks_1 (by decide) ?_
  refine lv_bipush (v := 100) hx hb d_TT_ticks_2 (by decide) ?_
  have hPc := hP.sub (ws' := []) [] rfl
  have hKc := hK.sub (tys' := []) [] rfl
  refine rd_call (va_runS (As := [.int (nI N), .int 1, .int 100]) (rest := []) ⟨hx, hb, hml, hown, ht⟩ (c_TT_isWithin_yes l dC dI (nI N) 1 100 (show nI 1 ≤ nI N from nI_le h.1 (by omega)) (show nI N ≤ nI 100 from nI_le h.2 (by decide))) (va_cwS 3 ht (gS tb_273 tb_226 tb_1 tb_227) rfl rfl rfl (by decide +kernel) ⟨Nat.le_of_ble_eq_true rfl, Nat.le_of_ble_eq_true rfl⟩) ⟨rdP_blind, rd_pre hPc hKc⟩ rfl rfl hl.1 rfl (lv_room (Nat.le_of_ble_eq_true rfl)) d_TT_ticks_4 ⟨Nat.le_of_ble_eq_true rfl, Nat.le_of_ble_eq_true rfl⟩) ?_
  refine W.eq (g2 := F0 m 7 ls [.int 1]) rfl ?_
  refine lv_if_ne (tgt := 20) hx hb d_TT_ticks_7 (by decide) (fun _ => ?_) (fun h9 => absurd h9 (by decide))
  refine lv_iconst (v := 0) hx hb d_TT_ticks_20 (by decide) ?_
  refine lv_istore_n hx hb d_TT_ticks_21 rfl hl (by decide) rfl (fun ls hl => ?_)
  have hl : lv_has ls 4 [(2, .int 0), (0, .ref h0), (1, .int (nI N))] := hl
  refine lv_iconst (v := 0) hx hb d_TT_ticks_22 (by decide) ?_
  refine lv_istore_n hx hb d_TT_ticks_23 rfl hl (by decide) rfl (fun ls hl => ?_)
  have hl : lv_has ls 4 [(3, .int 0), (2, .int 0), (0, .ref h0), (1, .int (nI N))] := hl
  have hl := lv_sub hl [0, 1, 3, 2] (l' := [(3, .int 0), (2, .int 0), (1, .int (nI N)), (0, .ref h0)]) rfl
  refine lp_TT_ticks dC dI Bd h0 rq oa pl dk rw q9 N h.2 hx hb hml ht hown hK hA hAB hBs hV (fun sc H locs ls hl hP hD hS => ?_) N 0 0 _ _ _ (Nat.zero_add N) (by rw [nI_0]; exact hl) hP hD hS
  refine lv_iload_n hx hb d_TT_ticks_46 rfl (lv_at hl 1 rfl) ?_
  have hP9 := hP.sub (ws' := []) [] rfl
  have hD9 := hD.sub (ws' := []) [] (by decide) rfl
  have hK9 := hK.sub (tys' := []) [] rfl
  exact W.iret (v := 0) hx hb hr (fun t ht9 hW => ⟨rfl, ⟨by rw [ht9]; exact hP9, va_K.moved hW.alike hK9, hD9⟩, hS.F ht9⟩) hS.2.2 d_TT_ticks_47
set_option maxHeartbeats 4000000 in
set_option maxRecDepth 100000 in
theorem c_RW_forget_0 (l : Launch) (dC : Nat → ClassId) (dI : Nat → Nat → Nat) (sz Bd : Nat) (rw r1 : Nat) : Met l y_RW_forget w_RW_forget ({ frames := 0, cells := 0, slots := 0, locals := 0 }) (frP (dC, dI) [(rw, .inr (3, [.ref r1, .int 0, .int 0]))] [] sz Bd [.ref rw]) (frQ none (fun t => va_P (dC, dI) cls_ [(rw, .inr (3, [.ref r1, .int 0, .int 0]))] t.heap ∧ va_K (dC, dI) cls_ [] t ∧ va_D (va_A [(rw, .inr (3, [.ref r1, .int 0, .int 0]))] sz) [(rw, .inr (3, [.ref r1, .int 0, .int 0]))]) (va_A [(rw, .inr (3, [.ref r1, .int 0, .int 0]))] sz)) 0 0 (va_A [(rw, .inr (3, [.ref r1, .int 0, .int 0]))] sz) := by
  refine Met.ofW (cc := c_RW_forget) (maxL := 1) (ret := none) (by decide) rfl ?_
  intro p e s m args below meth c s₁ B hml hv
  obtain ⟨rfl, ⟨hsz, hBs⟩, hP, hK, hD0, hV⟩ := hv
  have hx := B.exec
  have hb := B.bytes
  have hr := B.returns
  have ht : ∀ w ∈ tb_, w.before _ s = true := fun w h => atoms_spec (ws := w_RW_forget) B.pre w (List.mem_cons_of_mem _ h)
  have hown : s.vm.findClass R_RW = some m.cls := findClass_of_methodNamed B.named
  have hlocks := B.notSynchronized
  subst hsz
  have hD := hD0.self (sz := s.heap.size)
  have hAB : ∀ q, va_A [(rw, .inr (3, [.ref r1, .int 0, .int 0]))] s.heap.size q → Bd ≤ q := fr_AB hD0 hBs
  generalize hAe : va_A [(rw, .inr (3, [.ref r1, .int 0, .int 0]))] s.heap.size = A at hD hAB ⊢
  have hA : ∀ q : Nat, s.heap.size ≤ q → A q := fun q h => by rw [← hAe]; exact Or.inr h
  have hS : va_S A s.heap s.heap [] := va_S.rf
  have hAO := hV.2.2.2.1
  have hN_PL := hV.2.2.1.1
  have hN_RW := hV.2.2.1.2
  have hP : va_P (dC, dI) cls_ [(rw, .inr (3, [.ref r1, .int 0, .int 0]))] s.heap := hP
  have hl := lv_entry ([.ref rw]) (n := 1) (Nat.le_of_ble_eq_true rfl)
  rw [lg_entry_eq]
  generalize (lg_sl ([.ref rw]) ++ List.replicate (1 - (lg_sl ([.ref rw])).length) Slot.unset).toArray = ls at hl ⊢
  have hl : lv_has ls 1 [(0, .ref rw)] := hl
  refine lv_aload_n hx hb d_RW_forget_0 rfl (lv_at hl 0 rfl) ?_
  refine lv_iconst (v := 0) hx hb d_RW_forget_1 (by decide) ?_
  refine va_put (D := (dC, dI)) (ci := 3) (v := .int 0) (ty := .int) (C := R_RW) (T := F_RW) (N := 3) hx hb ht in_RW t_RW t_RW_ok n_RW hown hK hP hD hS 0 rfl rfl 2 (by decide) (ht _ tb_67) (fun _ h9 => h9) rfl (by decide +kernel) rfl rfl (Nat.le_of_ble_eq_true rfl) d_RW_forget_2 (fun H locs hP hD hS => ?_)
  have hP : va_P (dC, dI) cls_ [(rw, .inr (3, [.ref r1, .int 0, .int 0]))] H := hP
  have hD : va_D A [(rw, .inr (3, [.ref r1, .int 0, .int 0]))] := hD
  have hP9 := hP.sub (ws' := [(rw, .inr (3, [.ref r1, .int 0, .int 0]))]) [0] rfl
  have hD9 := hD.sub (ws' := [(rw, .inr (3, [.ref r1, .int 0, .int 0]))]) [0] (by decide) rfl
  have hK9 := hK.sub (tys' := []) [] rfl
  exact W.vret hx hb hr (fun t ht9 hW => ⟨rfl, ⟨by rw [ht9]; exact hP9, va_K.moved hW.alike hK9, hD9⟩, hS.F ht9⟩) hS.2.2 d_RW_forget_5
set_option maxHeartbeats 4000000 in
set_option maxRecDepth 100000 in
theorem c_TT_watch_ok (l : Launch) (dC : Nat → ClassId) (dI : Nat → Nat → Nat) (sz Bd : Nat) (h0 rq oa pl dk rw : Nat) (r1 : Nat) (x : Int32) (h : -1 ≤ x ∧ x ≤ 7) : Met l y_TT_watch w_TT_watch ({ frames := 2, cells := 0, slots := 0, locals := 42 }) (frP (dC, dI) [(h0, .inr (0, [.ref rq, .ref oa, .ref pl, .ref dk, .ref rw, .int 0, .int 0, .int (-1)])), (rw, .inr (3, [.ref r1, .int 0, .int 0]))] [] sz Bd [.ref h0, .int x]) (frQ (some (.int (-1))) (fun t => va_P (dC, dI) cls_ [] t.heap ∧ va_K (dC, dI) cls_ [] t ∧ va_D (va_A [(h0, .inr (0, [.ref rq, .ref oa, .ref pl, .ref dk, .ref rw, .int 0, .int 0, .int (-1)])), (rw, .inr (3, [.ref r1, .int 0, .int 0]))] sz) []) (va_A [(h0, .inr (0, [.ref rq, .ref oa, .ref pl, .ref dk, .ref rw, .int 0, .int 0, .int (-1)])), (rw, .inr (3, [.ref r1, .int 0, .int 0]))] sz)) 0 0 (va_A [(h0, .inr (0, [.ref rq, .ref oa, .ref pl, .ref dk, .ref rw, .int 0, .int 0, .int (-1)])), (rw, .inr (3, [.ref r1, .int 0, .int 0]))] sz) := by
  refine Met.ofW (cc := c_TT_watch) (maxL := 3) (ret := (some .int)) (by decide) rfl ?_
  intro p e s m args below meth c s₁ B hml hv
  obtain ⟨rfl, ⟨hsz, hBs⟩, hP, hK, hD0, hV⟩ := hv
  have hx := B.exec
  have hb := B.bytes
  have hr := B.returns
  have ht : ∀ w ∈ tb_, w.before _ s = true := fun w h => atoms_spec (ws := w_TT_watch) B.pre w (List.mem_cons_of_mem _ h)
  have hown : s.vm.findClass R_TT = some m.cls := findClass_of_methodNamed B.named
  have hlocks := B.notSynchronized
  subst hsz
  have hD := hD0.self (sz := s.heap.size)
  have hAB : ∀ q, va_A [(h0, .inr (0, [.ref rq, .ref oa, .ref pl, .ref dk, .ref rw, .int 0, .int 0, .int (-1)])), (rw, .inr (3, [.ref r1, .int 0, .int 0]))] s.heap.size q → Bd ≤ q := fr_AB hD0 hBs
  generalize hAe : va_A [(h0, .inr (0, [.ref rq, .ref oa, .ref pl, .ref dk, .ref rw, .int 0, .int 0, .int (-1)])), (rw, .inr (3, [.ref r1, .int 0, .int 0]))] s.heap.size = A at hD hAB ⊢
  have hA : ∀ q : Nat, s.heap.size ≤ q → A q := fun q h => by rw [← hAe]; exact Or.inr h
  have hS : va_S A s.heap s.heap [] := va_S.rf
  have hAO := hV.2.2.2.1
  have hN_PL := hV.2.2.1.1
  have hN_RW := hV.2.2.1.2
  have hP : va_P (dC, dI) cls_ [(h0, .inr (0, [.ref rq, .ref oa, .ref pl, .ref dk, .ref rw, .int 0, .int 0, .int (-1)])), (rw, .inr (3, [.ref r1, .int 0, .int 0]))] s.heap := hP
  have hl := lv_entry ([.ref h0, .int x]) (n := 3) (Nat.le_of_ble_eq_true rfl)
  rw [lg_entry_eq]
  generalize (lg_sl ([.ref h0, .int x]) ++ List.replicate (3 - (lg_sl ([.ref h0, .int x])).length) Slot.unset).toArray = ls at hl ⊢
  have hl : lv_has ls 3 [(0, .ref h0), (1, .int x)] := hl
  refine lv_iload_n hx hb d_TT_watch_0 rfl (lv_at hl 1 rfl) ?_
  refine lv_iconst (v := -1) hx hb d_TT_watch_1 (by decide) ?_
  refine lv_icmp_eq (tgt := 22) hx hb d_TT_watch_2 (by decide) (fun e9 => ?_) (fun e9 => ?_)
  · refine lv_aload_n hx hb d_TT_watch_22 rfl (lv_at hl 0 rfl) ?_
    refine va_get (D := (dC, dI)) (ci := 0) (v := .int (-1)) (C := R_TT) (T := F_TT) (N := 8) hx hb ht in_TT hown hK hP 0 rfl rfl 7 (by decide) (ht _ tb_82) (fun _ h9 => h9) rfl d_TT_watch_23 ?_
    refine lv_istore_n hx hb d_TT_watch_26 rfl hl (by decide) rfl (fun ls hl => ?_)
    have hl : lv_has ls 3 [(2, .int (-1)), (0, .ref h0), (1, .int x)] := hl
    refine lv_aload_n hx hb d_TT_watch_27 rfl (lv_at hl 1 rfl) ?_
    refine lv_iload_n hx hb d_TT_watch_28 rfl (lv_at hl 2 rfl) ?_
    refine va_put (D := (dC, dI)) (ci := 0) (v := .int x) (ty := .int) (C := R_TT) (T := F_TT) (N := 8) hx hb ht in_TT t_TT t_TT_ok n_TT hown hK hP hD hS 0 rfl rfl 7 (by decide) (ht _ tb_82) (fun _ h9 => h9) rfl (by decide +kernel) rfl rfl (Nat.le_of_ble_eq_true rfl) d_TT_watch_29 (fun H locs hP hD hS => ?_)
    have hP : va_P (dC, dI) cls_ [(h0, .inr (0, [.ref rq, .ref oa, .ref pl, .ref dk, .ref rw, .int 0, .int 0, .int x])), (rw, .inr (3, [.ref r1, .int 0, .int 0]))] H := hP
    have hD : va_D A [(h0, .inr (0, [.ref rq, .ref oa, .ref pl, .ref dk, .ref rw, .int 0, .int 0, .int x])), (rw, .inr (3, [.ref r1, .int 0, .int 0]))] := hD
    refine lv_aload_n hx hb d_TT_watch_32 rfl (lv_at hl 1 rfl) ?_
    refine va_get (D := (dC, dI)) (ci := 0) (v := .ref rw) (C := R_TT) (T := F_TT) (N := 8) hx hb ht in_TT hown hK hP 0 rfl rfl 4 (by decide) (ht _ tb_79) (fun _ h9 => h9) rfl d_TT_watch_33 ?_
    have hPc := hP.sub (ws' := [(rw, .inr (3, [.ref r1, .int 0, .int 0]))]) [1] rfl
    have hKc := hK.sub (tys' := []) [] rfl
    have hDc := hD.sub (ws' := [(rw, .inr (3, [.ref r1, .int 0, .int 0]))]) [1] (by decide) rfl
    have hFc := va_free (wc := [(rw, .inr (3, [.ref r1, .int 0, .int 0]))]) hD hS hA [1] rfl
    refine fr_call (va_runV (C := R_RW) (As := []) (rest := []) ⟨hx, hb, hml, hown, ht⟩ (c_RW_forget_0 l dC dI H.size Bd rw r1) (cwV 0 ht (gV tb_239 tb_240 tb_241 tb_4 tb_242) rfl rfl rfl (by decide +kernel) ⟨Nat.le_of_ble_eq_true rfl, Nat.le_of_ble_eq_true rfl⟩) ⟨frP_blind, va_recv (q := (R_RW, F_RW, 3)) hK hP rfl (show ([(h0, .inr (0, [.ref rq, .ref oa, .ref pl, .ref dk, .ref rw, .int 0, .int 0, .int x])), (rw, .inr (3, [.ref r1, .int 0, .int 0]))] : va_W)[1]? = some (rw, .inr (3, [.ref r1, .int 0, .int 0])) from rfl), fr_pre hPc hKc hDc hAB hBs hS hV⟩ rfl rfl hl.1 rfl (lv_room (Nat.le_of_ble_eq_true rfl)) d_TT_watch_36 ⟨Nat.le_of_ble_eq_true rfl, Nat.le_of_ble_eq_true rfl⟩) hS (fun q _ h => hFc q h) hFc (fun t H1 locs ht1 hvm hB1 hz1 hk1 hS => ?_)
    obtain ⟨hP1, hK1, hD1⟩ := hB1
    rw [ht1] at hP1
    have hK1 := va_K.moved hvm.symm hK1
    obtain ⟨hP, hD⟩ := va_join (wr := [(h0, .inr (0, [.ref rq, .ref oa, .ref pl, .ref dk, .ref rw, .int 0, .int 0, .int x]))]) (w1 := [(rw, .inr (3, [.ref r1, .int 0, .int 0]))]) hP hD [1] [0] rfl rfl (by decide) (by decide) hk1 hFc hP1 hD1
    have hK := hK.app hK1
    generalize H1 = H at hP hS ⊢
    have hP : va_P (dC, dI) cls_ [(h0, .inr (0, [.ref rq, .ref oa, .ref pl, .ref dk, .ref rw, .int 0, .int 0, .int x])), (rw, .inr (3, [.ref r1, .int 0, .int 0]))] H := hP
    have hD : va_D A [(h0, .inr (0, [.ref rq, .ref oa, .ref pl, .ref dk, .ref rw, .int 0, .int 0, .int x])), (rw, .inr (3, [.ref r1, .int 0, .int 0]))] := hD
    have hK : va_K (dC, dI) cls_ [] s := hK
    refine W.eq (g2 := F0 m 39 ls []) rfl ?_
    refine W.cs (cells' := 0) (slots' := 0) rfl rfl ?_
    refine lv_iload_n hx hb d_TT_watch_39 rfl (lv_at hl 0 rfl) ?_
    have hP9 := hP.sub (ws' := []) [] rfl
    have hD9 := hD.sub (ws' := []) [] (by decide) rfl
    have hK9 := hK.sub (tys' := []) [] rfl
    exact W.iret (v := -1) hx hb hr (fun t ht9 hW => ⟨rfl, ⟨by rw [ht9]; exact hP9, va_K.moved hW.alike hK9, hD9⟩, hS.F ht9⟩) hS.2.2 d_TT_watch_40
  · refine lv_iload_n hx hb d_TT_watch_5 rfl (lv_at hl 1 rfl) ?_
    have hPc := hP.sub (ws' := []) [] rfl
    have hKc := hK.sub (tys' := []) [] rfl
    refine rd_call (va_runS (As := [.int x]) (rest := []) ⟨hx, hb, hml, hown, ht⟩ (c_TT_isChannel_yes l dC dI x (ch_0 h.1 e9) h.2) (va_cwS 1 ht (gS tb_270 tb_271 tb_1 tb_272) rfl rfl rfl (by decide +kernel) ⟨Nat.le_of_ble_eq_true rfl, Nat.le_of_ble_eq_true rfl⟩) ⟨rdP_blind, rd_pre hPc hKc⟩ rfl rfl hl.1 rfl (lv_room (Nat.le_of_ble_eq_true rfl)) d_TT_watch_6 ⟨Nat.le_of_ble_eq_true rfl, Nat.le_of_ble_eq_true rfl⟩) ?_
    refine W.eq (g2 := F0 m 9 ls [.int 1]) rfl ?_
    refine lv_if_ne (tgt := 22) hx hb d_TT_watch_9 (by decide) (fun _ => ?_) (fun h9 => absurd h9 (by decide))
    refine lv_aload_n hx hb d_TT_watch_22 rfl (lv_at hl 0 rfl) ?_
    refine va_get (D := (dC, dI)) (ci := 0) (v := .int (-1)) (C := R_TT) (T := F_TT) (N := 8) hx hb ht in_TT hown hK hP 0 rfl rfl 7 (by decide) (ht _ tb_82) (fun _ h9 => h9) rfl d_TT_watch_23 ?_
    refine lv_istore_n hx hb d_TT_watch_26 rfl hl (by decide) rfl (fun ls hl => ?_)
    have hl : lv_has ls 3 [(2, .int (-1)), (0, .ref h0), (1, .int x)] := hl
    refine lv_aload_n hx hb d_TT_watch_27 rfl (lv_at hl 1 rfl) ?_
    refine lv_iload_n hx hb d_TT_watch_28 rfl (lv_at hl 2 rfl) ?_
    refine va_put (D := (dC, dI)) (ci := 0) (v := .int x) (ty := .int) (C := R_TT) (T := F_TT) (N := 8) hx hb ht in_TT t_TT t_TT_ok n_TT hown hK hP hD hS 0 rfl rfl 7 (by decide) (ht _ tb_82) (fun _ h9 => h9) rfl (by decide +kernel) rfl rfl (Nat.le_of_ble_eq_true rfl) d_TT_watch_29 (fun H locs hP hD hS => ?_)
    have hP : va_P (dC, dI) cls_ [(h0, .inr (0, [.ref rq, .ref oa, .ref pl, .ref dk, .ref rw, .int 0, .int 0, .int x])), (rw, .inr (3, [.ref r1, .int 0, .int 0]))] H := hP
    have hD : va_D A [(h0, .inr (0, [.ref rq, .ref oa, .ref pl, .ref dk, .ref rw, .int 0, .int 0, .int x])), (rw, .inr (3, [.ref r1, .int 0, .int 0]))] := hD
    refine lv_aload_n hx hb d_TT_watch_32 rfl (lv_at hl 1 rfl) ?_
    refine va_get (D := (dC, dI)) (ci := 0) (v := .ref rw) (C := R_TT) (T := F_TT) (N := 8) hx hb ht in_TT hown hK hP 0 rfl rfl 4 (by decide) (ht _ tb_79) (fun _ h9 => h9) rfl d_TT_watch_33 ?_
    have hPc := hP.sub (ws' := [(rw, .inr (3, [.ref r1, .int 0, .int 0]))]) [1] rfl
    have hKc := hK.sub (tys' := []) [] rfl
    have hDc := hD.sub (ws' := [(rw, .inr (3, [.ref r1, .int 0, .int 0]))]) [1] (by decide) rfl
    have hFc := va_free (wc := [(rw, .inr (3, [.ref r1, .int 0, .int 0]))]) hD hS hA [1] rfl
    refine fr_call (va_runV (C := R_RW) (As := []) (rest := []) ⟨hx, hb, hml, hown, ht⟩ (c_RW_forget_0 l dC dI H.size Bd rw r1) (cwV 0 ht (gV tb_239 tb_240 tb_241 tb_4 tb_242) rfl rfl rfl (by decide +kernel) ⟨Nat.le_of_ble_eq_true rfl, Nat.le_of_ble_eq_true rfl⟩) ⟨frP_blind, va_recv (q := (R_RW, F_RW, 3)) hK hP rfl (show ([(h0, .inr (0, [.ref rq, .ref oa, .ref pl, .ref dk, .ref rw, .int 0, .int 0, .int x])), (rw, .inr (3, [.ref r1, .int 0, .int 0]))] : va_W)[1]? = some (rw, .inr (3, [.ref r1, .int 0, .int 0])) from rfl), fr_pre hPc hKc hDc hAB hBs hS hV⟩ rfl rfl hl.1 rfl (lv_room (Nat.le_of_ble_eq_true rfl)) d_TT_watch_36 ⟨Nat.le_of_ble_eq_true rfl, Nat.le_of_ble_eq_true rfl⟩) hS (fun q _ h => hFc q h) hFc (fun t H1 locs ht1 hvm hB1 hz1 hk1 hS => ?_)
    obtain ⟨hP1, hK1, hD1⟩ := hB1
    rw [ht1] at hP1
    have hK1 := va_K.moved hvm.symm hK1
    obtain ⟨hP, hD⟩ := va_join (wr := [(h0, .inr (0, [.ref rq, .ref oa, .ref pl, .ref dk, .ref rw, .int 0, .int 0, .int x]))]) (w1 := [(rw, .inr (3, [.ref r1, .int 0, .int 0]))]) hP hD [1] [0] rfl rfl (by decide) (by decide) hk1 hFc hP1 hD1
    have hK := hK.app hK1
    generalize H1 = H at hP hS ⊢
    have hP : va_P (dC, dI) cls_ [(h0, .inr (0, [.ref rq, .ref oa, .ref pl, .ref dk, .ref rw, .int 0, .int 0, .int x])), (rw, .inr (3, [.ref r1, .int 0, .int 0]))] H := hP
    have hD : va_D A [(h0, .inr (0, [.ref rq, .ref oa, .ref pl, .ref dk, .ref rw, .int 0, .int 0, .int x])), (rw, .inr (3, [.ref r1, .int 0, .int 0]))] := hD
    have hK : va_K (dC, dI) cls_ [] s := hK
    refine W.eq (g2 := F0 m 39 ls []) rfl ?_
    refine W.cs (cells' := 0) (slots' := 0) rfl rfl ?_
    refine lv_iload_n hx hb d_TT_watch_39 rfl (lv_at hl 0 rfl) ?_
    have hP9 := hP.sub (ws' := []) [] rfl
    have hD9 := hD.sub (ws' := []) [] (by decide) rfl
    have hK9 := hK.sub (tys' := []) [] rfl
    exact W.iret (v := -1) hx hb hr (fun t ht9 hW => ⟨rfl, ⟨by rw [ht9]; exact hP9, va_K.moved hW.alike hK9, hD9⟩, hS.F ht9⟩) hS.2.2 d_TT_watch_40
set_option maxHeartbeats 4000000 in
set_option maxRecDepth 100000 in
theorem c_TT_cut_ok (l : Launch) (dC : Nat → ClassId) (dI : Nat → Nat → Nat) (sz Bd : Nat) (h0 rq oa pl dk rw : Nat) (r1 : Nat) (x : Int32) (h : 0 ≤ x ∧ x ≤ 1000) : Met l y_TT_cut w_TT_cut ({ frames := 2, cells := 0, slots := 0, locals := 43 }) (frP (dC, dI) [(h0, .inr (0, [.ref rq, .ref oa, .ref pl, .ref dk, .ref rw, .int 0, .int 0, .int (-1)])), (rw, .inr (3, [.ref r1, .int 0, .int 0]))] [] sz Bd [.ref h0, .int x]) (frQ (some (.int 0)) (fun t => va_P (dC, dI) cls_ [] t.heap ∧ va_K (dC, dI) cls_ [] t ∧ va_D (va_A [(h0, .inr (0, [.ref rq, .ref oa, .ref pl, .ref dk, .ref rw, .int 0, .int 0, .int (-1)])), (rw, .inr (3, [.ref r1, .int 0, .int 0]))] sz) []) (va_A [(h0, .inr (0, [.ref rq, .ref oa, .ref pl, .ref dk, .ref rw, .int 0, .int 0, .int (-1)])), (rw, .inr (3, [.ref r1, .int 0, .int 0]))] sz)) 0 0 (va_A [(h0, .inr (0, [.ref rq, .ref oa, .ref pl, .ref dk, .ref rw, .int 0, .int 0, .int (-1)])), (rw, .inr (3, [.ref r1, .int 0, .int 0]))] sz) := by
  refine Met.ofW (cc := c_TT_cut) (maxL := 5) (ret := (some .int)) (by decide) rfl ?_
  intro p e s m args below meth c s₁ B hml hv
  obtain ⟨rfl, ⟨hsz, hBs⟩, hP, hK, hD0, hV⟩ := hv
  have hx := B.exec
  have hb := B.bytes
  have hr := B.returns
  have ht : ∀ w ∈ tb_, w.before _ s = true := fun w h => atoms_spec (ws := w_TT_cut) B.pre w (List.mem_cons_of_mem _ h)
  have hown : s.vm.findClass R_TT = some m.cls := findClass_of_methodNamed B.named
  have hlocks := B.notSynchronized
  subst hsz
  have hD := hD0.self (sz := s.heap.size)
  have hAB : ∀ q, va_A [(h0, .inr (0, [.ref rq, .ref oa, .ref pl, .ref dk, .ref rw, .int 0, .int 0, .int (-1)])), (rw, .inr (3, [.ref r1, .int 0, .int 0]))] s.heap.size q → Bd ≤ q := fr_AB hD0 hBs
  generalize hAe : va_A [(h0, .inr (0, [.ref rq, .ref oa, .ref pl, .ref dk, .ref rw, .int 0, .int 0, .int (-1)])), (rw, .inr (3, [.ref r1, .int 0, .int 0]))] s.heap.size = A at hD hAB ⊢
  have hA : ∀ q : Nat, s.heap.size ≤ q → A q := fun q h => by rw [← hAe]; exact Or.inr h
  have hS : va_S A s.heap s.heap [] := va_S.rf
  have hAO := hV.2.2.2.1
  have hN_PL := hV.2.2.1.1
  have hN_RW := hV.2.2.1.2
  have hP : va_P (dC, dI) cls_ [(h0, .inr (0, [.ref rq, .ref oa, .ref pl, .ref dk, .ref rw, .int 0, .int 0, .int (-1)])), (rw, .inr (3, [.ref r1, .int 0, .int 0]))] s.heap := hP
  have hl := lv_entry ([.ref h0, .int x]) (n := 5) (Nat.le_of_ble_eq_true rfl)
  rw [lg_entry_eq]
  generalize (lg_sl ([.ref h0, .int x]) ++ List.replicate (5 - (lg_sl ([.ref h0, .int x])).length) Slot.unset).toArray = ls at hl ⊢
  have hl : lv_has ls 5 [(0, .ref h0), (1, .int x)] := hl
  refine lv_aload_n hx hb d_TT_cut_0 rfl (lv_at hl 0 rfl) ?_
  refine lv_iload_n hx hb d_TT_cut_1 rfl (lv_at hl 1 rfl) ?_
  have hPc := hP.sub (ws' := [(h0, .inr (0, [.ref rq, .ref oa, .ref pl, .ref dk, .ref rw, .int 0, .int 0, .int (-1)]))]) [0] rfl
  have hKc := hK.sub (tys' := []) [] rfl
  refine rd_call (va_runV (C := R_TT) (As := [.int x]) (rest := []) ⟨hx, hb, hml, hown, ht⟩ (c_TT_isAhead_yes l dC dI h0 rq oa pl dk rw x h.1 h.2) (cwV 1 ht (gV tb_274 tb_276 ts_17 tb_1 tb_277) rfl rfl rfl (by decide +kernel) ⟨Nat.le_of_ble_eq_true rfl, Nat.le_of_ble_eq_true rfl⟩) ⟨rdP_blind, va_recv (q := (R_TT, F_TT, 8)) hK hP rfl (show ([(h0, .inr (0, [.ref rq, .ref oa, .ref pl, .ref dk, .ref rw, .int 0, .int 0, .int (-1)])), (rw, .inr (3, [.ref r1, .int 0, .int 0]))] : va_W)[0]? = some (h0, .inr (0, [.ref rq, .ref oa, .ref pl, .ref dk, .ref rw, .int 0, .int 0, .int (-1)])) from rfl), rd_pre hPc hKc⟩ rfl rfl hl.1 rfl (lv_room (Nat.le_of_ble_eq_true rfl)) d_TT_cut_2 ⟨Nat.le_of_ble_eq_true rfl, Nat.le_of_ble_eq_true rfl⟩) ?_
  refine W.eq (g2 := F0 m 5 ls [.int 1]) rfl ?_
  refine lv_if_ne (tgt := 18) hx hb d_TT_cut_5 (by decide) (fun _ => ?_) (fun h9 => absurd h9 (by decide))
  refine lv_iconst (v := 0) hx hb d_TT_cut_18 (by decide) ?_
  refine lv_istore_n hx hb d_TT_cut_19 rfl hl (by decide) rfl (fun ls hl => ?_)
  have hl : lv_has ls 5 [(2, .int 0), (0, .ref h0), (1, .int x)] := hl
  refine lv_iconst (v := 0) hx hb d_TT_cut_20 (by decide) ?_
  refine lv_istore_n hx hb d_TT_cut_21 rfl hl (by decide) rfl (fun ls hl => ?_)
  have hl : lv_has ls 5 [(3, .int 0), (2, .int 0), (0, .ref h0), (1, .int x)] := hl
  refine lv_iload_n hx hb d_TT_cut_22 rfl (lv_at hl 0 rfl) ?_
  refine lv_aload_n hx hb d_TT_cut_23 rfl (lv_at hl 2 rfl) ?_
  refine va_get (D := (dC, dI)) (ci := 0) (v := .int 0) (C := R_TT) (T := F_TT) (N := 8) hx hb ht in_TT hown hK hP 0 rfl rfl 5 (by decide) (ht _ tb_80) (fun _ h9 => h9) rfl d_TT_cut_24 ?_
  refine lv_icmp_ge (tgt := 132) hx hb d_TT_cut_27 (by decide) (fun _ => ?_) (fun h9 => absurd (by decide) h9)
  refine lv_aload_n hx hb d_TT_cut_132 rfl (lv_at hl 2 rfl) ?_
  refine va_get (D := (dC, dI)) (ci := 0) (v := .ref rw) (C := R_TT) (T := F_TT) (N := 8) hx hb ht in_TT hown hK hP 0 rfl rfl 4 (by decide) (ht _ tb_79) (fun _ h9 => h9) rfl d_TT_cut_133 ?_
  have hPc := hP.sub (ws' := [(rw, .inr (3, [.ref r1, .int 0, .int 0]))]) [1] rfl
  have hKc := hK.sub (tys' := []) [] rfl
  have hDc := hD.sub (ws' := [(rw, .inr (3, [.ref r1, .int 0, .int 0]))]) [1] (by decide) rfl
  have hFc := va_free (wc := [(rw, .inr (3, [.ref r1, .int 0, .int 0]))]) hD hS hA [1] rfl
  refine fr_call (va_runV (C := R_RW) (As := []) (rest := []) ⟨hx, hb, hml, hown, ht⟩ (c_RW_forget_0 l dC dI s.heap.size Bd rw r1) (cwV 0 ht (gV tb_239 tb_240 tb_241 tb_4 tb_242) rfl rfl rfl (by decide +kernel) ⟨Nat.le_of_ble_eq_true rfl, Nat.le_of_ble_eq_true rfl⟩) ⟨frP_blind, va_recv (q := (R_RW, F_RW, 3)) hK hP rfl (show ([(h0, .inr (0, [.ref rq, .ref oa, .ref pl, .ref dk, .ref rw, .int 0, .int 0, .int (-1)])), (rw, .inr (3, [.ref r1, .int 0, .int 0]))] : va_W)[1]? = some (rw, .inr (3, [.ref r1, .int 0, .int 0])) from rfl), fr_pre hPc hKc hDc hAB hBs hS hV⟩ rfl rfl hl.1 rfl (lv_room (Nat.le_of_ble_eq_true rfl)) d_TT_cut_136 ⟨Nat.le_of_ble_eq_true rfl, Nat.le_of_ble_eq_true rfl⟩) hS (fun q _ h => hFc q h) hFc (fun t H1 locs ht1 hvm hB1 hz1 hk1 hS => ?_)
  obtain ⟨hP1, hK1, hD1⟩ := hB1
  rw [ht1] at hP1
  have hK1 := va_K.moved hvm.symm hK1
  obtain ⟨hP, hD⟩ := va_join (wr := [(h0, .inr (0, [.ref rq, .ref oa, .ref pl, .ref dk, .ref rw, .int 0, .int 0, .int (-1)]))]) (w1 := [(rw, .inr (3, [.ref r1, .int 0, .int 0]))]) hP hD [1] [0] rfl rfl (by decide) (by decide) hk1 hFc hP1 hD1
  have hK := hK.app hK1
  generalize H1 = H at hP hS ⊢
  have hP : va_P (dC, dI) cls_ [(h0, .inr (0, [.ref rq, .ref oa, .ref pl, .ref dk, .ref rw, .int 0, .int 0, .int (-1)])), (rw, .inr (3, [.ref r1, .int 0, .int 0]))] H := hP
  have hD : va_D A [(h0, .inr (0, [.ref rq, .ref oa, .ref pl, .ref dk, .ref rw, .int 0, .int 0, .int (-1)])), (rw, .inr (3, [.ref r1, .int 0, .int 0]))] := hD
  have hK : va_K (dC, dI) cls_ [] s := hK
  refine W.eq (g2 := F0 m 139 ls []) rfl ?_
  refine W.cs (cells' := 0) (slots' := 0) rfl rfl ?_
  refine lv_aload_n hx hb d_TT_cut_139 rfl (lv_at hl 2 rfl) ?_
  refine lv_iload_n hx hb d_TT_cut_140 rfl (lv_at hl 3 rfl) ?_
  refine va_put (D := (dC, dI)) (ci := 0) (v := .int x) (ty := .int) (C := R_TT) (T := F_TT) (N := 8) hx hb ht in_TT t_TT t_TT_ok n_TT hown hK hP hD hS 0 rfl rfl 6 (by decide) (ht _ tb_81) (fun _ h9 => h9) rfl (by decide +kernel) rfl rfl (Nat.le_of_ble_eq_true rfl) d_TT_cut_141 (fun H locs hP hD hS => ?_)
  have hP : va_P (dC, dI) cls_ [(h0, .inr (0, [.ref rq, .ref oa, .ref pl, .ref dk, .ref rw, .int 0, .int x, .int (-1)])), (rw, .inr (3, [.ref r1, .int 0, .int 0]))] H := hP
  have hD : va_D A [(h0, .inr (0, [.ref rq, .ref oa, .ref pl, .ref dk, .ref rw, .int 0, .int x, .int (-1)])), (rw, .inr (3, [.ref r1, .int 0, .int 0]))] := hD
  refine lv_iload_n hx hb d_TT_cut_144 rfl (lv_at hl 1 rfl) ?_
  have hP9 := hP.sub (ws' := []) [] rfl
  have hD9 := hD.sub (ws' := []) [] (by decide) rfl
  have hK9 := hK.sub (tys' := []) [] rfl
  exact W.iret (v := 0) hx hb hr (fun t ht9 hW => ⟨rfl, ⟨by rw [ht9]; exact hP9, va_K.moved hW.alike hK9, hD9⟩, hS.F ht9⟩) hS.2.2 d_TT_cut_145
set_option maxHeartbeats 4000000 in
set_option maxRecDepth 100000 in
theorem c_RW_secondsAgo_0 (l : Launch) (dC : Nat → ClassId) (dI : Nat → Nat → Nat) (rw r1 : Nat) (x : Int32) : Met l y_RW_secondsAgo w_RW_secondsAgo ({ frames := 0, cells := 0, slots := 0, locals := 0 }) (rdP (dC, dI) [(rw, .inr (3, [.ref r1, .int 0, .int 0]))] [] [.ref rw, .int x]) (rd_Q (some (.long (-1)))) 0 0 (fun _ => False) := by
  refine Met.ofW (cc := c_RW_secondsAgo) (maxL := 2) (ret := (some .long)) (by decide) rfl ?_
  intro p e s m args below meth c s₁ B hml hv
  obtain ⟨rfl, hP, hK⟩ := hv
  have hx := B.exec
  have hb := B.bytes
  have hr := B.returns
  have ht : ∀ w ∈ tb_, w.before _ s = true := fun w h => atoms_spec (ws := w_RW_secondsAgo) B.pre w (List.mem_cons_of_mem _ h)
  have hown : s.vm.findClass R_RW = some m.cls := findClass_of_methodNamed B.named
  have hlocks := B.notSynchronized
  have hP : va_P (dC, dI) cls_ [(rw, .inr (3, [.ref r1, .int 0, .int 0]))] s.heap := hP
  have hl := lv_entry ([.ref rw, .int x]) (n := 2) (Nat.le_of_ble_eq_true rfl)
  rw [lg_entry_eq]
  generalize (lg_sl ([.ref rw, .int x]) ++ List.replicate (2 - (lg_sl ([.ref rw, .int x])).length) Slot.unset).toArray = ls at hl ⊢
  have hl : lv_has ls 2 [(0, .ref rw), (1, .int x)] := hl
  refine lv_iload_n hx hb d_RW_secondsAgo_0 rfl (lv_at hl 1 rfl) ?_
  refine lv_iconst (v := 1) hx hb d_RW_secondsAgo_1 (by decide) ?_
  refine lv_icmp_lt (tgt := 13) hx hb d_RW_secondsAgo_2 (by decide) (fun h1 => ?_) (fun h1 => ?_)
  · refine lv_ldc2 (v := (-1)) hx hb hown (ht _ tb_255) d_RW_secondsAgo_13 ?_
    exact W.lret (v := -1) hx hb hr (fun t ht9 hW => ⟨rfl, ht9⟩) (fun q h => by cases h) d_RW_secondsAgo_16
  · refine lv_iload_n hx hb d_RW_secondsAgo_5 rfl (lv_at hl 1 rfl) ?_
    refine lv_aload_n hx hb d_RW_secondsAgo_6 rfl (lv_at hl 0 rfl) ?_
    refine va_get (D := (dC, dI)) (ci := 3) (v := .int 0) (C := R_RW) (T := F_RW) (N := 3) hx hb ht in_RW hown hK hP 0 rfl rfl 2 (by decide) (ht _ tb_67) (fun _ h9 => h9) rfl d_RW_secondsAgo_7 ?_
    refine lv_icmp_le (tgt := 17) hx hb d_RW_secondsAgo_10 (by decide) (fun h9 => absurd h9 (fun q => h1 (Int32.lt_of_le_of_lt q (by decide)))) (fun _ => ?_)
    refine lv_ldc2 (v := (-1)) hx hb hown (ht _ tb_255) d_RW_secondsAgo_13 ?_
    exact W.lret (v := -1) hx hb hr (fun t ht9 hW => ⟨rfl, ht9⟩) (fun q h => by cases h) d_RW_secondsAgo_16
set_option maxHeartbeats 4000000 in
set_option maxRecDepth 100000 in
theorem c_TT_back_0 (l : Launch) (dC : Nat → ClassId) (dI : Nat → Nat → Nat) (h0 rq oa pl dk rw : Nat) (r1 : Nat) (x : Int32) : Met l y_TT_back w_TT_back ({ frames := 1, cells := 0, slots := 0, locals := 21 }) (rdP (dC, dI) [(h0, .inr (0, [.ref rq, .ref oa, .ref pl, .ref dk, .ref rw, .int 0, .int 0, .int (-1)])), (rw, .inr (3, [.ref r1, .int 0, .int 0]))] [] [.ref h0, .int x]) (rd_Q (some (.long (-1)))) 0 0 (fun _ => False) := by
  refine Met.ofW (cc := c_TT_back) (maxL := 2) (ret := (some .long)) (by decide) rfl ?_
  intro p e s m args below meth c s₁ B hml hv
  obtain ⟨rfl, hP, hK⟩ := hv
  have hx := B.exec
  have hb := B.bytes
  have hr := B.returns
  have ht : ∀ w ∈ tb_, w.before _ s = true := fun w h => atoms_spec (ws := w_TT_back) B.pre w (List.mem_cons_of_mem _ h)
  have hown : s.vm.findClass R_TT = some m.cls := findClass_of_methodNamed B.named
  have hlocks := B.notSynchronized
  have hP : va_P (dC, dI) cls_ [(h0, .inr (0, [.ref rq, .ref oa, .ref pl, .ref dk, .ref rw, .int 0, .int 0, .int (-1)])), (rw, .inr (3, [.ref r1, .int 0, .int 0]))] s.heap := hP
  have hl := lv_entry ([.ref h0, .int x]) (n := 2) (Nat.le_of_ble_eq_true rfl)
  rw [lg_entry_eq]
  generalize (lg_sl ([.ref h0, .int x]) ++ List.replicate (2 - (lg_sl ([.ref h0, .int x])).length) Slot.unset).toArray = ls at hl ⊢
  have hl : lv_has ls 2 [(0, .ref h0), (1, .int x)] := hl
  refine lv_aload_n hx hb d_TT_back_0 rfl (lv_at hl 0 rfl) ?_
  refine va_get (D := (dC, dI)) (ci := 0) (v := .ref rw) (C := R_TT) (T := F_TT) (N := 8) hx hb ht in_TT hown hK hP 0 rfl rfl 4 (by decide) (ht _ tb_79) (fun _ h9 => h9) rfl d_TT_back_1 ?_
  refine lv_iload_n hx hb d_TT_back_4 rfl (lv_at hl 1 rfl) ?_
  have hPc := hP.sub (ws' := [(rw, .inr (3, [.ref r1, .int 0, .int 0]))]) [1] rfl
  have hKc := hK.sub (tys' := []) [] rfl
  refine rd_call (va_runV (C := R_RW) (As := [.int x]) (rest := []) ⟨hx, hb, hml, hown, ht⟩ (c_RW_secondsAgo_0 l dC dI rw r1 x) (cwV 1 ht (gV tb_251 tb_252 tb_253 tb_4 tb_254) rfl rfl rfl (by decide +kernel) ⟨Nat.le_of_ble_eq_true rfl, Nat.le_of_ble_eq_true rfl⟩) ⟨rdP_blind, va_recv (q := (R_RW, F_RW, 3)) hK hP rfl (show ([(h0, .inr (0, [.ref rq, .ref oa, .ref pl, .ref dk, .ref rw, .int 0, .int 0, .int (-1)])), (rw, .inr (3, [.ref r1, .int 0, .int 0]))] : va_W)[1]? = some (rw, .inr (3, [.ref r1, .int 0, .int 0])) from rfl), rd_pre hPc hKc⟩ rfl rfl hl.1 rfl (lv_room (Nat.le_of_ble_eq_true rfl)) d_TT_back_5 ⟨Nat.le_of_ble_eq_true rfl, Nat.le_of_ble_eq_true rfl⟩) ?_
  refine W.eq (g2 := F0 m 8 ls [.long (-1)]) rfl ?_
  exact W.lret (v := -1) hx hb hr (fun t ht9 hW => ⟨rfl, ht9⟩) (fun q h => by cases h) d_TT_back_8
set_option maxHeartbeats 4000000 in
set_option maxRecDepth 100000 in
theorem lp_DK_seg {p : Program} {l : Launch} {e : Env} {R : Room} {s : State} {m : MethodId} {args : Array Value} {below : List Frame} {meth : Method} {c : Code} {Q : State → Prop} {cells slots : Nat} {H : Heap} {locs : List Loc} (dC : Nat → ClassId) (dI : Nat → Nat → Nat) (dk d1 d2 d3 d4 : Nat) (k3 : ClassId) (hx : p.tables.exec = Jvm.exec) (hb : c.code = c_DK_segmentsOf) (hml : c.maxLocals = 4) (ht : ∀ w ∈ tb_, w.before args s = true) (hown : s.vm.findClass R_DK = some m.cls) (hK : va_K (dC, dI) cls_ [(k3, .int)] s) (hP : va_P (dC, dI) cls_ [(dk, .inr (2, [.ref d1, .ref d2, .ref d3, .ref d4])), (d1, .inl (k3, 24, .inl (fun _ => -1)))] H)
    (kk : ∀  (ls : Array Slot), lv_has ls 4 [(3, .int (nI 24)), (2, .int (nI 24)), (1, .int (-1)), (0, .ref dk)] → W p l e R s m args below meth c H locs cells slots Q (F0 m 29 ls [])) :
    ∀ (n k : Nat)  (ls : Array Slot), k + n = 24 → lv_has ls 4 [(3, .int (nI k)), (2, .int (nI k)), (1, .int (-1)), (0, .ref dk)] → W p l e R s m args below meth c H locs cells slots Q (F0 m 4 ls []) := by
  intro n
  induction n with
  | zero =>
    intro k  ls hn hl
    obtain rfl : k = 24 := by omega
    refine lv_iload_n hx hb d_DK_segmentsOf_4 rfl (lv_at hl 0 rfl) ?_
    refine lv_bipush (v := 24) hx hb d_DK_segmentsOf_5 (by decide) ?_
    refine lv_icmp_ge (tgt := 29) hx hb d_DK_segmentsOf_7 (by decide) (fun _ => ?_) (fun h9 => absurd (show (24 : Int32) ≤ nI 24 by decide) h9)
    exact kk ls hl
  | succ n ih =>
    intro k  ls hn hl
    refine lv_iload_n hx hb d_DK_segmentsOf_4 rfl (lv_at hl 0 rfl) ?_
    refine lv_bipush (v := 24) hx hb d_DK_segmentsOf_5 (by decide) ?_
    refine lv_icmp_ge (tgt := 29) hx hb d_DK_segmentsOf_7 (by decide) (fun h9 => absurd h9 (show ¬ nI 24 ≤ nI k from nI_ge (by omega) (by decide))) (fun _ => ?_)
    refine lv_aload_n hx hb d_DK_segmentsOf_10 rfl (lv_at hl 3 rfl) ?_
    refine va_get (D := (dC, dI)) (ci := 2) (v := .ref d1) (C := R_DK) (T := F_DK) (N := 4) hx hb ht in_DK hown hK hP 0 rfl rfl 0 (by decide) (ht _ tb_46) (fun _ h9 => h9) rfl d_DK_segmentsOf_11 ?_
    refine lv_iload_n hx hb d_DK_segmentsOf_14 rfl (lv_at hl 0 rfl) ?_
    refine va_iald hx hb hK hP 1 0 rfl rfl (vp_in_nI (by omega) (by decide)) d_DK_segmentsOf_15 ?_
    refine W.eq (g2 := F0 m 16 ls [.int (-1)]) rfl ?_
    refine lv_iload_n hx hb d_DK_segmentsOf_16 rfl (lv_at hl 2 rfl) ?_
    refine lv_icmp_ne (tgt := 23) hx hb d_DK_segmentsOf_17 (by decide) (fun h9 => absurd (rfl) h9) (fun _ => ?_)
    refine lv_iinc (k := 1) (v := nI (k + 1)) hx hb d_DK_segmentsOf_20 hl rfl ((nI_succ k).symm) (by decide) rfl (fun ls hl => ?_)
    have hl : lv_has ls 4 [(2, .int (nI (k + 1))), (3, .int (nI k)), (1, .int (-1)), (0, .ref dk)] := hl
    refine lv_iinc (k := 1) (v := nI (k + 1)) hx hb d_DK_segmentsOf_23 hl rfl ((nI_succ k).symm) (by decide) rfl (fun ls hl => ?_)
    have hl : lv_has ls 4 [(3, .int (nI (k + 1))), (2, .int (nI (k + 1))), (1, .int (-1)), (0, .ref dk)] := hl
    refine lv_goto (tgt := 4) hx hb d_DK_segmentsOf_26 (by decide) ?_
    have hl := lv_sub hl [0, 1, 2, 3] (l' := [(3, .int (nI (k + 1))), (2, .int (nI (k + 1))), (1, .int (-1)), (0, .ref dk)]) rfl
    exact ih (k + 1) ls (by omega) hl
set_option maxHeartbeats 4000000 in
set_option maxRecDepth 100000 in
theorem c_DK_segmentsOf_free (l : Launch) (dC : Nat → ClassId) (dI : Nat → Nat → Nat) (dk d1 d2 d3 d4 : Nat) (k3 : ClassId) : Met l y_DK_segmentsOf w_DK_segmentsOf ({ frames := 0, cells := 0, slots := 0, locals := 0 }) (rdP (dC, dI) [(dk, .inr (2, [.ref d1, .ref d2, .ref d3, .ref d4])), (d1, .inl (k3, 24, .inl (fun _ => -1)))] [(k3, .int)] [.ref dk, .int (-1)]) (rd_Q (some (.int (nI 24)))) 0 0 (fun _ => False) := by
  refine Met.ofW (cc := c_DK_segmentsOf) (maxL := 4) (ret := (some .int)) (by decide) rfl ?_
  intro p e s m args below meth c s₁ B hml hv
  obtain ⟨rfl, hP, hK⟩ := hv
  have hx := B.exec
  have hb := B.bytes
  have hr := B.returns
  have ht : ∀ w ∈ tb_, w.before _ s = true := fun w h => atoms_spec (ws := w_DK_segmentsOf) B.pre w (List.mem_cons_of_mem _ h)
  have hown : s.vm.findClass R_DK = some m.cls := findClass_of_methodNamed B.named
  have hlocks := B.notSynchronized
  have hP : va_P (dC, dI) cls_ [(dk, .inr (2, [.ref d1, .ref d2, .ref d3, .ref d4])), (d1, .inl (k3, 24, .inl (fun _ => -1)))] s.heap := hP
  have hl := lv_entry ([.ref dk, .int (-1)]) (n := 4) (Nat.le_of_ble_eq_true rfl)
  rw [lg_entry_eq]
  generalize (lg_sl ([.ref dk, .int (-1)]) ++ List.replicate (4 - (lg_sl ([.ref dk, .int (-1)])).length) Slot.unset).toArray = ls at hl ⊢
  have hl : lv_has ls 4 [(0, .ref dk), (1, .int (-1))] := hl
  refine lv_iconst (v := 0) hx hb d_DK_segmentsOf_0 (by decide) ?_
  refine lv_istore_n hx hb d_DK_segmentsOf_1 rfl hl (by decide) rfl (fun ls hl => ?_)
  have hl : lv_has ls 4 [(2, .int 0), (0, .ref dk), (1, .int (-1))] := hl
  refine lv_iconst (v := 0) hx hb d_DK_segmentsOf_2 (by decide) ?_
  refine lv_istore_n hx hb d_DK_segmentsOf_3 rfl hl (by decide) rfl (fun ls hl => ?_)
  have hl : lv_has ls 4 [(3, .int 0), (2, .int 0), (0, .ref dk), (1, .int (-1))] := hl
  have hl := lv_sub hl [0, 1, 3, 2] (l' := [(3, .int 0), (2, .int 0), (1, .int (-1)), (0, .ref dk)]) rfl
  refine lp_DK_seg dC dI dk d1 d2 d3 d4 k3 hx hb hml ht hown hK hP (fun ls hl => ?_) 24 0 _ rfl (by rw [nI_0]; exact hl)
  refine lv_iload_n hx hb d_DK_segmentsOf_29 rfl (lv_at hl 1 rfl) ?_
  exact W.iret (v := nI 24) hx hb hr (fun t ht9 hW => ⟨rfl, ht9⟩) (fun q h => by cases h) d_DK_segmentsOf_30
set_option maxHeartbeats 4000000 in
set_option maxRecDepth 100000 in
theorem c_DK_freeSegments_0 (l : Launch) (dC : Nat → ClassId) (dI : Nat → Nat → Nat) (dk d1 d2 d3 d4 : Nat) (k3 : ClassId) : Met l y_DK_freeSegments w_DK_freeSegments ({ frames := 1, cells := 0, slots := 0, locals := 23 }) (rdP (dC, dI) [(dk, .inr (2, [.ref d1, .ref d2, .ref d3, .ref d4])), (d1, .inl (k3, 24, .inl (fun _ => -1)))] [(k3, .int)] [.ref dk]) (rd_Q (some (.int (nI 24)))) 0 0 (fun _ => False) := by
  refine Met.ofW (cc := c_DK_freeSegments) (maxL := 1) (ret := (some .int)) (by decide) rfl ?_
  intro p e s m args below meth c s₁ B hml hv
  obtain ⟨rfl, hP, hK⟩ := hv
  have hx := B.exec
  have hb := B.bytes
  have hr := B.returns
  have ht : ∀ w ∈ tb_, w.before _ s = true := fun w h => atoms_spec (ws := w_DK_freeSegments) B.pre w (List.mem_cons_of_mem _ h)
  have hown : s.vm.findClass R_DK = some m.cls := findClass_of_methodNamed B.named
  have hlocks := B.notSynchronized
  have hP : va_P (dC, dI) cls_ [(dk, .inr (2, [.ref d1, .ref d2, .ref d3, .ref d4])), (d1, .inl (k3, 24, .inl (fun _ => -1)))] s.heap := hP
  have hl := lv_entry ([.ref dk]) (n := 1) (Nat.le_of_ble_eq_true rfl)
  rw [lg_entry_eq]
  generalize (lg_sl ([.ref dk]) ++ List.replicate (1 - (lg_sl ([.ref dk])).length) Slot.unset).toArray = ls at hl ⊢
  have hl : lv_has ls 1 [(0, .ref dk)] := hl
  refine lv_aload_n hx hb d_DK_freeSegments_0 rfl (lv_at hl 0 rfl) ?_
  refine lv_iconst (v := -1) hx hb d_DK_freeSegments_1 (by decide) ?_
  have hPc := hP.sub (ws' := [(dk, .inr (2, [.ref d1, .ref d2, .ref d3, .ref d4])), (d1, .inl (k3, 24, .inl (fun _ => -1)))]) [0, 1] rfl
  have hKc := hK.sub (tys' := [(k3, .int)]) [0] rfl
  refine rd_call (va_runV (C := R_DK) (As := [.int (-1)]) (rest := []) ⟨hx, hb, hml, hown, ht⟩ (c_DK_segmentsOf_free l dC dI dk d1 d2 d3 d4 k3) (cwV 1 ht (gV tb_192 tb_193 tb_194 tb_3 tb_195) rfl rfl rfl (by decide +kernel) ⟨Nat.le_of_ble_eq_true rfl, Nat.le_of_ble_eq_true rfl⟩) ⟨rdP_blind, va_recv (q := (R_DK, F_DK, 4)) hK hP rfl (show ([(dk, .inr (2, [.ref d1, .ref d2, .ref d3, .ref d4])), (d1, .inl (k3, 24, .inl (fun _ => -1)))] : va_W)[0]? = some (dk, .inr (2, [.ref d1, .ref d2, .ref d3, .ref d4])) from rfl), rd_pre hPc hKc⟩ rfl rfl hl.1 rfl (lv_room (Nat.le_of_ble_eq_true rfl)) d_DK_freeSegments_2 ⟨Nat.le_of_ble_eq_true rfl, Nat.le_of_ble_eq_true rfl⟩) ?_
  refine W.eq (g2 := F0 m 5 ls [.int (nI 24)]) rfl ?_
  exact W.iret (v := nI 24) hx hb hr (fun t ht9 hW => ⟨rfl, ht9⟩) (fun q h => by cases h) d_DK_freeSegments_5
set_option maxHeartbeats 4000000 in
set_option maxRecDepth 100000 in
theorem c_TT_free_0 (l : Launch) (dC : Nat → ClassId) (dI : Nat → Nat → Nat) (h0 rq oa pl rw : Nat) (dk d1 d2 d3 d4 : Nat) (k3 : ClassId) : Met l y_TT_free w_TT_free ({ frames := 2, cells := 0, slots := 0, locals := 43 }) (rdP (dC, dI) [(h0, .inr (0, [.ref rq, .ref oa, .ref pl, .ref dk, .ref rw, .int 0, .int 0, .int (-1)])), (dk, .inr (2, [.ref d1, .ref d2, .ref d3, .ref d4])), (d1, .inl (k3, 24, .inl (fun _ => -1)))] [(k3, .int)] [.ref h0]) (rd_Q (some (.int (nI 24)))) 0 0 (fun _ => False) := by
  refine Met.ofW (cc := c_TT_free) (maxL := 1) (ret := (some .int)) (by decide) rfl ?_
  intro p e s m args below meth c s₁ B hml hv
  obtain ⟨rfl, hP, hK⟩ := hv
  have hx := B.exec
  have hb := B.bytes
  have hr := B.returns
  have ht : ∀ w ∈ tb_, w.before _ s = true := fun w h => atoms_spec (ws := w_TT_free) B.pre w (List.mem_cons_of_mem _ h)
  have hown : s.vm.findClass R_TT = some m.cls := findClass_of_methodNamed B.named
  have hlocks := B.notSynchronized
  have hP : va_P (dC, dI) cls_ [(h0, .inr (0, [.ref rq, .ref oa, .ref pl, .ref dk, .ref rw, .int 0, .int 0, .int (-1)])), (dk, .inr (2, [.ref d1, .ref d2, .ref d3, .ref d4])), (d1, .inl (k3, 24, .inl (fun _ => -1)))] s.heap := hP
  have hl := lv_entry ([.ref h0]) (n := 1) (Nat.le_of_ble_eq_true rfl)
  rw [lg_entry_eq]
  generalize (lg_sl ([.ref h0]) ++ List.replicate (1 - (lg_sl ([.ref h0])).length) Slot.unset).toArray = ls at hl ⊢
  have hl : lv_has ls 1 [(0, .ref h0)] := hl
  refine lv_aload_n hx hb d_TT_free_0 rfl (lv_at hl 0 rfl) ?_
  refine va_get (D := (dC, dI)) (ci := 0) (v := .ref dk) (C := R_TT) (T := F_TT) (N := 8) hx hb ht in_TT hown hK hP 0 rfl rfl 3 (by decide) (ht _ tb_78) (fun _ h9 => h9) rfl d_TT_free_1 ?_
  have hPc := hP.sub (ws' := [(dk, .inr (2, [.ref d1, .ref d2, .ref d3, .ref d4])), (d1, .inl (k3, 24, .inl (fun _ => -1)))]) [1, 2] rfl
  have hKc := hK.sub (tys' := [(k3, .int)]) [0] rfl
  refine rd_call (va_runV (C := R_DK) (As := []) (rest := []) ⟨hx, hb, hml, hown, ht⟩ (c_DK_freeSegments_0 l dC dI dk d1 d2 d3 d4 k3) (cwV 0 ht (gV tb_188 tb_189 tb_190 tb_3 tb_191) rfl rfl rfl (by decide +kernel) ⟨Nat.le_of_ble_eq_true rfl, Nat.le_of_ble_eq_true rfl⟩) ⟨rdP_blind, va_recv (q := (R_DK, F_DK, 4)) hK hP rfl (show ([(h0, .inr (0, [.ref rq, .ref oa, .ref pl, .ref dk, .ref rw, .int 0, .int 0, .int (-1)])), (dk, .inr (2, [.ref d1, .ref d2, .ref d3, .ref d4])), (d1, .inl (k3, 24, .inl (fun _ => -1)))] : va_W)[1]? = some (dk, .inr (2, [.ref d1, .ref d2, .ref d3, .ref d4])) from rfl), rd_pre hPc hKc⟩ rfl rfl hl.1 rfl (lv_room (Nat.le_of_ble_eq_true rfl)) d_TT_free_4 ⟨Nat.le_of_ble_eq_true rfl, Nat.le_of_ble_eq_true rfl⟩) ?_
  refine W.eq (g2 := F0 m 7 ls [.int (nI 24)]) rfl ?_
  exact W.iret (v := nI 24) hx hb hr (fun t ht9 hW => ⟨rfl, ht9⟩) (fun q h => by cases h) d_TT_free_7
