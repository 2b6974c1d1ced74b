abbrev c_DK_write : ByteArray := prog_2_method_7_code
abbrev y_DK_write : MethodName := ⟨"TwinTuners$Disk", "write", "(III)V"⟩
def w_DK_write : List Cond := .code y_DK_write c_DK_write 4 none :: tb_
abbrev c_DK_wordOf : ByteArray := prog_2_method_8_code
abbrev y_DK_wordOf : MethodName := ⟨"TwinTuners$Disk", "wordOf", "(II)J"⟩
def w_DK_wordOf : List Cond := .code y_DK_wordOf c_DK_wordOf 5 (some .long) :: tb_
abbrev c_RW_forget : ByteArray := prog_5_method_2_code
abbrev y_RW_forget : MethodName := ⟨"TwinTuners$Rewind", "forget", "()V"⟩
def w_RW_forget : List Cond := .code y_RW_forget c_RW_forget 1 none :: tb_
abbrev c_RW_keep : ByteArray := prog_5_method_3_code
abbrev y_RW_keep : MethodName := ⟨"TwinTuners$Rewind", "keep", "(I)V"⟩
def w_RW_keep : List Cond := .code y_RW_keep c_RW_keep 2 none :: tb_
abbrev c_RW_secondsAgo : ByteArray := prog_5_method_4_code
abbrev y_RW_secondsAgo : MethodName := ⟨"TwinTuners$Rewind", "secondsAgo", "(I)J"⟩
def w_RW_secondsAgo : List Cond := .code y_RW_secondsAgo c_RW_secondsAgo 2 (some .long) :: tb_
abbrev c_PL_isCrowded : ByteArray := prog_3_method_11_code
abbrev y_PL_isCrowded : MethodName := ⟨"TwinTuners$Plan", "isCrowded", "(II)Z"⟩
def w_PL_isCrowded : List Cond := .code y_PL_isCrowded c_PL_isCrowded 6 (some .boolean) :: tb_
abbrev c_PL_fits : ByteArray := prog_3_method_10_code
abbrev y_PL_fits : MethodName := ⟨"TwinTuners$Plan", "fits", "(III)Z"⟩
def w_PL_fits : List Cond := .code y_PL_fits c_PL_fits 6 (some .boolean) :: tb_
abbrev c_PL_takeAfter : ByteArray := prog_3_method_8_code
abbrev y_PL_takeAfter : MethodName := ⟨"TwinTuners$Plan", "takeAfter", "(LTwinTuners$Request;)V"⟩
def w_PL_takeAfter : List Cond := .code y_PL_takeAfter c_PL_takeAfter 3 none :: tb_
abbrev c_PL_takeBefore : ByteArray := prog_3_method_9_code
abbrev y_PL_takeBefore : MethodName := ⟨"TwinTuners$Plan", "takeBefore", "(LTwinTuners$Request;I)V"⟩
def w_PL_takeBefore : List Cond := .code y_PL_takeBefore c_PL_takeBefore 4 none :: tb_
abbrev c_PL_takeRunning : ByteArray := prog_3_method_4_code
abbrev y_PL_takeRunning : MethodName := ⟨"TwinTuners$Plan", "takeRunning", "(I)V"⟩
def w_PL_takeRunning : List Cond := .code y_PL_takeRunning c_PL_takeRunning 4 none :: tb_
abbrev c_PL_takeCores : ByteArray := prog_3_method_5_code
abbrev y_PL_takeCores : MethodName := ⟨"TwinTuners$Plan", "takeCores", "()V"⟩
def w_PL_takeCores : List Cond := .code y_PL_takeCores c_PL_takeCores 3 none :: tb_
abbrev c_PL_padRunning : ByteArray := prog_3_method_6_code
abbrev y_PL_padRunning : MethodName := ⟨"TwinTuners$Plan", "padRunning", "(I)V"⟩
def w_PL_padRunning : List Cond := .code y_PL_padRunning c_PL_padRunning 3 none :: tb_
abbrev c_PL_padWaiting : ByteArray := prog_3_method_7_code
abbrev y_PL_padWaiting : MethodName := ⟨"TwinTuners$Plan", "padWaiting", "(I)V"⟩
def w_PL_padWaiting : List Cond := .code y_PL_padWaiting c_PL_padWaiting 4 none :: tb_
set_option maxRecDepth 100000 in
theorem tb_2 : (.initialized "TwinTuners$Plan" : Cond) ∈ tb_ := tb_w 2 rfl rfl
set_option maxRecDepth 100000 in
theorem tb_14 : (.initialized "java/lang/Math" : Cond) ∈ tb_ := tb_w 14 rfl rfl
set_option maxRecDepth 100000 in
theorem tb_32 : (.fieldLink "TwinTuners$Plan" 11 "TwinTuners$Plan" "order" "[LTwinTuners$Request;" : Cond) ∈ tb_ := tb_w 32 rfl rfl
set_option maxRecDepth 100000 in
theorem tb_33 : (.fieldLink "TwinTuners$Plan" 17 "TwinTuners$Plan" "size" "I" : Cond) ∈ tb_ := tb_w 33 rfl rfl
set_option maxRecDepth 100000 in
theorem tb_49 : (.fieldLink "TwinTuners$Disk" 21 "TwinTuners$Disk" "words" "[I" : Cond) ∈ tb_ := tb_w 49 rfl rfl
set_option maxRecDepth 100000 in
theorem tb_65 : (.fieldLink "TwinTuners$Rewind" 9 "TwinTuners$Rewind" "ring" "[I" : Cond) ∈ tb_ := tb_w 65 rfl rfl
set_option maxRecDepth 100000 in
theorem tb_66 : (.fieldLink "TwinTuners$Rewind" 15 "TwinTuners$Rewind" "next" "I" : Cond) ∈ tb_ := tb_w 66 rfl rfl
set_option maxRecDepth 100000 in
theorem tb_67 : (.fieldLink "TwinTuners$Rewind" 19 "TwinTuners$Rewind" "size" "I" : Cond) ∈ tb_ := tb_w 67 rfl rfl
set_option maxRecDepth 100000 in
theorem tb_120 : (.methodLink "TwinTuners$Plan" 42 ⟨"TwinTuners$Request", "takeStretch", "(II)V"⟩ : Cond) ∈ tb_ := tb_w 120 rfl rfl
set_option maxRecDepth 100000 in
theorem tb_121 : (.instanceMethod ⟨"TwinTuners$Request", "takeStretch", "(II)V"⟩ : Cond) ∈ tb_ := tb_w 121 rfl rfl
set_option maxRecDepth 100000 in
theorem tb_122 : (.selects "TwinTuners$Request" ⟨"TwinTuners$Request", "takeStretch", "(II)V"⟩ ⟨"TwinTuners$Request", "takeStretch", "(II)V"⟩ : Cond) ∈ tb_ := tb_w 122 rfl rfl
set_option maxRecDepth 100000 in
theorem tb_127 : (.code ⟨"TwinTuners$Plan", "takeRunning", "(I)V"⟩ prog_3_method_4_code 4 none : Cond) ∈ tb_ := tb_w 127 rfl rfl
set_option maxRecDepth 100000 in
theorem tb_131 : (.code ⟨"TwinTuners$Plan", "takeCores", "()V"⟩ prog_3_method_5_code 3 none : Cond) ∈ tb_ := tb_w 131 rfl rfl
set_option maxRecDepth 100000 in
theorem tb_132 : (.methodLink "TwinTuners$Plan" 64 ⟨"TwinTuners$Plan", "fits", "(III)Z"⟩ : Cond) ∈ tb_ := tb_w 132 rfl rfl
set_option maxRecDepth 100000 in
theorem tb_134 : (.instanceMethod ⟨"TwinTuners$Plan", "fits", "(III)Z"⟩ : Cond) ∈ tb_ := tb_w 134 rfl rfl
set_option maxRecDepth 100000 in
theorem tb_135 : (.code ⟨"TwinTuners$Plan", "fits", "(III)Z"⟩ prog_3_method_10_code 6 (some .boolean) : Cond) ∈ tb_ := tb_w 135 rfl rfl
set_option maxRecDepth 100000 in
theorem tb_136 : (.methodLink "TwinTuners$Plan" 90 ⟨"TwinTuners$Plan", "isCrowded", "(II)Z"⟩ : Cond) ∈ tb_ := tb_w 136 rfl rfl
set_option maxRecDepth 100000 in
theorem tb_138 : (.instanceMethod ⟨"TwinTuners$Plan", "isCrowded", "(II)Z"⟩ : Cond) ∈ tb_ := tb_w 138 rfl rfl
set_option maxRecDepth 100000 in
theorem tb_139 : (.code ⟨"TwinTuners$Plan", "isCrowded", "(II)Z"⟩ prog_3_method_11_code 6 (some .boolean) : Cond) ∈ tb_ := tb_w 139 rfl rfl
set_option maxRecDepth 100000 in
theorem tb_140 : (.methodLink "TwinTuners$Plan" 94 ⟨"java/lang/Integer", "bitCount", "(I)I"⟩ : Cond) ∈ tb_ := tb_w 140 rfl rfl
set_option maxRecDepth 100000 in
theorem tb_149 : (.code ⟨"TwinTuners$Plan", "padRunning", "(I)V"⟩ prog_3_method_6_code 3 none : Cond) ∈ tb_ := tb_w 149 rfl rfl
set_option maxRecDepth 100000 in
theorem tb_150 : (.methodLink "TwinTuners$Plan" 68 ⟨"TwinTuners$Plan", "takeAfter", "(LTwinTuners$Request;)V"⟩ : Cond) ∈ tb_ := tb_w 150 rfl rfl
set_option maxRecDepth 100000 in
theorem tb_152 : (.instanceMethod ⟨"TwinTuners$Plan", "takeAfter", "(LTwinTuners$Request;)V"⟩ : Cond) ∈ tb_ := tb_w 152 rfl rfl
set_option maxRecDepth 100000 in
theorem tb_153 : (.code ⟨"TwinTuners$Plan", "takeAfter", "(LTwinTuners$Request;)V"⟩ prog_3_method_8_code 3 none : Cond) ∈ tb_ := tb_w 153 rfl rfl
set_option maxRecDepth 100000 in
theorem tb_157 : (.code ⟨"TwinTuners$Plan", "padWaiting", "(I)V"⟩ prog_3_method_7_code 4 none : Cond) ∈ tb_ := tb_w 157 rfl rfl
set_option maxRecDepth 100000 in
theorem tb_158 : (.methodLink "TwinTuners$Plan" 71 ⟨"TwinTuners$Request", "isPlanned", "()Z"⟩ : Cond) ∈ tb_ := tb_w 158 rfl rfl
set_option maxRecDepth 100000 in
theorem tb_162 : (.methodLink "TwinTuners$Plan" 74 ⟨"TwinTuners$Plan", "takeBefore", "(LTwinTuners$Request;I)V"⟩ : Cond) ∈ tb_ := tb_w 162 rfl rfl
set_option maxRecDepth 100000 in
theorem tb_164 : (.instanceMethod ⟨"TwinTuners$Plan", "takeBefore", "(LTwinTuners$Request;I)V"⟩ : Cond) ∈ tb_ := tb_w 164 rfl rfl
set_option maxRecDepth 100000 in
theorem tb_165 : (.code ⟨"TwinTuners$Plan", "takeBefore", "(LTwinTuners$Request;I)V"⟩ prog_3_method_9_code 4 none : Cond) ∈ tb_ := tb_w 165 rfl rfl
set_option maxRecDepth 100000 in
theorem tb_224 : (.code ⟨"TwinTuners$Disk", "write", "(III)V"⟩ prog_2_method_7_code 4 none : Cond) ∈ tb_ := tb_w 224 rfl rfl
set_option maxRecDepth 100000 in
theorem tb_235 : (.code ⟨"TwinTuners$Rewind", "keep", "(I)V"⟩ prog_5_method_3_code 2 none : Cond) ∈ tb_ := tb_w 235 rfl rfl
set_option maxRecDepth 100000 in
theorem tb_236 : (.methodLink "TwinTuners$Rewind" 22 ⟨"java/lang/Math", "min", "(II)I"⟩ : Cond) ∈ tb_ := tb_w 236 rfl rfl
set_option maxRecDepth 100000 in
theorem tb_237 : (.static ⟨"java/lang/Math", "min", "(II)I"⟩ : Cond) ∈ tb_ := tb_w 237 rfl rfl
set_option maxRecDepth 100000 in
theorem tb_238 : (.code ⟨"java/lang/Math", "min", "(II)I"⟩ prog_13_method_69_code 2 (some .int) : Cond) ∈ tb_ := tb_w 238 rfl rfl
set_option maxRecDepth 100000 in
theorem tb_242 : (.code ⟨"TwinTuners$Rewind", "forget", "()V"⟩ prog_5_method_2_code 1 none : Cond) ∈ tb_ := tb_w 242 rfl rfl
set_option maxRecDepth 100000 in
theorem tb_254 : (.code ⟨"TwinTuners$Rewind", "secondsAgo", "(I)J"⟩ prog_5_method_4_code 2 (some .long) : Cond) ∈ tb_ := tb_w 254 rfl rfl
set_option maxRecDepth 100000 in
theorem tb_255 : (.constantLong "TwinTuners$Rewind" 28 (-1) : Cond) ∈ tb_ := tb_w 255 rfl rfl
set_option maxRecDepth 100000 in
theorem tb_256 : (.constantLong "TwinTuners$Rewind" 30 (4294967295) : Cond) ∈ tb_ := tb_w 256 rfl rfl
set_option maxRecDepth 100000 in
theorem tb_375 : (.fieldLink "TwinTuners$Plan" 58 "TwinTuners$Request" "channel" "I" : Cond) ∈ tb_ := tb_w 375 rfl rfl
set_option maxRecDepth 100000 in
theorem tb_378 : (.fieldLink "TwinTuners$Plan" 61 "TwinTuners$Request" "start" "I" : Cond) ∈ tb_ := tb_w 378 rfl rfl
set_option maxRecDepth 100000 in
theorem tb_381 : (.fieldLink "TwinTuners$Plan" 52 "TwinTuners$Request" "coreEnd" "I" : Cond) ∈ tb_ := tb_w 381 rfl rfl
set_option maxRecDepth 100000 in
theorem tb_386 : (.fieldLink "TwinTuners$Plan" 84 "TwinTuners$Request" "padBefore" "I" : Cond) ∈ tb_ := tb_w 386 rfl rfl
set_option maxRecDepth 100000 in
theorem tb_388 : (.fieldLink "TwinTuners$Plan" 78 "TwinTuners$Request" "padAfter" "I" : Cond) ∈ tb_ := tb_w 388 rfl rfl
set_option maxRecDepth 100000 in
theorem tb_393 : (.fieldLink "TwinTuners$Plan" 49 "TwinTuners$Request" "phase" "I" : Cond) ∈ tb_ := tb_w 393 rfl rfl
set_option maxRecDepth 100000 in
theorem tb_397 : (.fieldLink "TwinTuners$Plan" 55 "TwinTuners$Request" "end" "I" : Cond) ∈ tb_ := tb_w 397 rfl rfl
set_option maxRecDepth 100000 in
theorem tb_401 : (.fieldLink "TwinTuners$Plan" 87 "TwinTuners$Request" "takenFrom" "I" : Cond) ∈ tb_ := tb_w 401 rfl rfl
set_option maxRecDepth 100000 in
theorem tb_404 : (.fieldLink "TwinTuners$Plan" 81 "TwinTuners$Request" "takenTo" "I" : Cond) ∈ tb_ := tb_w 404 rfl rfl
set_option maxRecDepth 100000 in
theorem tb_536 : (.code ⟨"TwinTuners$Disk", "wordOf", "(II)J"⟩ prog_2_method_8_code 5 (some .long) : Cond) ∈ tb_ := tb_w 536 rfl rfl
set_option maxRecDepth 100000 in
theorem tb_537 : (.constantLong "TwinTuners$Disk" 37 (-1) : Cond) ∈ tb_ := tb_w 537 rfl rfl
set_option maxRecDepth 100000 in
theorem tb_539 : (.constantLong "TwinTuners$Disk" 43 (4294967295) : Cond) ∈ tb_ := tb_w 539 rfl rfl
theorem ts_4 : (.selects "TwinTuners$Plan" ⟨"TwinTuners$Plan", "fits", "(III)Z"⟩ ⟨"TwinTuners$Plan", "fits", "(III)Z"⟩ : Cond) ∈ tb_ := ts_w 4 rfl rfl
theorem ts_5 : (.selects "TwinTuners$Plan" ⟨"TwinTuners$Plan", "isCrowded", "(II)Z"⟩ ⟨"TwinTuners$Plan", "isCrowded", "(II)Z"⟩ : Cond) ∈ tb_ := ts_w 5 rfl rfl
theorem ts_7 : (.selects "TwinTuners$Plan" ⟨"TwinTuners$Plan", "takeAfter", "(LTwinTuners$Request;)V"⟩ ⟨"TwinTuners$Plan", "takeAfter", "(LTwinTuners$Request;)V"⟩ : Cond) ∈ tb_ := ts_w 7 rfl rfl
theorem ts_9 : (.selects "TwinTuners$Plan" ⟨"TwinTuners$Plan", "takeBefore", "(LTwinTuners$Request;I)V"⟩ ⟨"TwinTuners$Plan", "takeBefore", "(LTwinTuners$Request;I)V"⟩ : Cond) ∈ tb_ := ts_w 9 rfl rfl
theorem d_DK_wordOf_0 : decode c_DK_wordOf 0 = .ok (.iload_n 2, 1) := by decide +kernel
theorem d_DK_wordOf_1 : decode c_DK_wordOf 1 = .ok (.ifCond .ge 7, 3) := by decide +kernel
theorem d_DK_wordOf_4 : decode c_DK_wordOf 4 = .ok (.ldc2_w 37, 3) := by decide +kernel
theorem d_DK_wordOf_7 : decode c_DK_wordOf 7 = .ok (.lreturn, 1) := by decide +kernel
theorem d_DK_wordOf_8 : decode c_DK_wordOf 8 = .ok (.aload_n 0, 1) := by decide +kernel
theorem d_DK_wordOf_9 : decode c_DK_wordOf 9 = .ok (.iload_n 1, 1) := by decide +kernel
theorem d_DK_wordOf_10 : decode c_DK_wordOf 10 = .ok (.iload_n 2, 1) := by decide +kernel
theorem d_DK_wordOf_11 : decode c_DK_wordOf 11 = .ok (.iconst 4, 1) := by decide +kernel
theorem d_DK_wordOf_12 : decode c_DK_wordOf 12 = .ok (.idiv, 1) := by decide +kernel
theorem d_DK_wordOf_13 : decode c_DK_wordOf 13 = .ok (.invokevirtual 39, 3) := by decide +kernel
theorem d_DK_wordOf_16 : decode c_DK_wordOf 16 = .ok (.istore_n 3, 1) := by decide +kernel
theorem d_DK_wordOf_17 : decode c_DK_wordOf 17 = .ok (.iload_n 2, 1) := by decide +kernel
theorem d_DK_wordOf_18 : decode c_DK_wordOf 18 = .ok (.iconst 4, 1) := by decide +kernel
theorem d_DK_wordOf_19 : decode c_DK_wordOf 19 = .ok (.irem, 1) := by decide +kernel
theorem d_DK_wordOf_20 : decode c_DK_wordOf 20 = .ok (.istore 4, 2) := by decide +kernel
theorem d_DK_wordOf_22 : decode c_DK_wordOf 22 = .ok (.iload_n 3, 1) := by decide +kernel
theorem d_DK_wordOf_23 : decode c_DK_wordOf 23 = .ok (.iconst (-1), 1) := by decide +kernel
theorem d_DK_wordOf_24 : decode c_DK_wordOf 24 = .ok (.if_icmp .eq 17, 3) := by decide +kernel
theorem d_DK_wordOf_27 : decode c_DK_wordOf 27 = .ok (.aload_n 0, 1) := by decide +kernel
theorem d_DK_wordOf_28 : decode c_DK_wordOf 28 = .ok (.getfield 18, 3) := by decide +kernel
theorem d_DK_wordOf_31 : decode c_DK_wordOf 31 = .ok (.iload_n 3, 1) := by decide +kernel
theorem d_DK_wordOf_32 : decode c_DK_wordOf 32 = .ok (.iaload, 1) := by decide +kernel
theorem d_DK_wordOf_33 : decode c_DK_wordOf 33 = .ok (.iload 4, 2) := by decide +kernel
theorem d_DK_wordOf_35 : decode c_DK_wordOf 35 = .ok (.ishr, 1) := by decide +kernel
theorem d_DK_wordOf_36 : decode c_DK_wordOf 36 = .ok (.iconst 1, 1) := by decide +kernel
theorem d_DK_wordOf_37 : decode c_DK_wordOf 37 = .ok (.iand, 1) := by decide +kernel
theorem d_DK_wordOf_38 : decode c_DK_wordOf 38 = .ok (.ifCond .ne 7, 3) := by decide +kernel
theorem d_DK_wordOf_41 : decode c_DK_wordOf 41 = .ok (.ldc2_w 37, 3) := by decide +kernel
theorem d_DK_wordOf_44 : decode c_DK_wordOf 44 = .ok (.lreturn, 1) := by decide +kernel
theorem d_DK_wordOf_45 : decode c_DK_wordOf 45 = .ok (.aload_n 0, 1) := by decide +kernel
theorem d_DK_wordOf_46 : decode c_DK_wordOf 46 = .ok (.getfield 21, 3) := by decide +kernel
theorem d_DK_wordOf_49 : decode c_DK_wordOf 49 = .ok (.iload_n 3, 1) := by decide +kernel
theorem d_DK_wordOf_50 : decode c_DK_wordOf 50 = .ok (.iconst 4, 1) := by decide +kernel
theorem d_DK_wordOf_51 : decode c_DK_wordOf 51 = .ok (.imul, 1) := by decide +kernel
theorem d_DK_wordOf_52 : decode c_DK_wordOf 52 = .ok (.iload 4, 2) := by decide +kernel
theorem d_DK_wordOf_54 : decode c_DK_wordOf 54 = .ok (.iadd, 1) := by decide +kernel
theorem d_DK_wordOf_55 : decode c_DK_wordOf 55 = .ok (.iaload, 1) := by decide +kernel
theorem d_DK_wordOf_56 : decode c_DK_wordOf 56 = .ok (.i2l, 1) := by decide +kernel
theorem d_DK_wordOf_57 : decode c_DK_wordOf 57 = .ok (.ldc2_w 43, 3) := by decide +kernel
theorem d_DK_wordOf_60 : decode c_DK_wordOf 60 = .ok (.land, 1) := by decide +kernel
theorem d_DK_wordOf_61 : decode c_DK_wordOf 61 = .ok (.lreturn, 1) := by decide +kernel
theorem d_DK_write_0 : decode c_DK_write 0 = .ok (.iload_n 1, 1) := by decide +kernel
theorem d_DK_write_1 : decode c_DK_write 1 = .ok (.iconst 0, 1) := by decide +kernel
theorem d_DK_write_2 : decode c_DK_write 2 = .ok (.bipush 23, 2) := by decide +kernel
theorem d_DK_write_4 : decode c_DK_write 4 = .ok (.invokestatic 33, 3) := by decide +kernel
theorem d_DK_write_7 : decode c_DK_write 7 = .ok (.ifCond .eq 35, 3) := by decide +kernel
theorem d_DK_write_10 : decode c_DK_write 10 = .ok (.iload_n 2, 1) := by decide +kernel
theorem d_DK_write_11 : decode c_DK_write 11 = .ok (.iconst 0, 1) := by decide +kernel
theorem d_DK_write_12 : decode c_DK_write 12 = .ok (.iconst 3, 1) := by decide +kernel
theorem d_DK_write_13 : decode c_DK_write 13 = .ok (.invokestatic 33, 3) := by decide +kernel
theorem d_DK_write_16 : decode c_DK_write 16 = .ok (.ifCond .eq 26, 3) := by decide +kernel
theorem d_DK_write_19 : decode c_DK_write 19 = .ok (.aload_n 0, 1) := by decide +kernel
theorem d_DK_write_20 : decode c_DK_write 20 = .ok (.getfield 21, 3) := by decide +kernel
theorem d_DK_write_23 : decode c_DK_write 23 = .ok (.iload_n 1, 1) := by decide +kernel
theorem d_DK_write_24 : decode c_DK_write 24 = .ok (.iconst 4, 1) := by decide +kernel
theorem d_DK_write_25 : decode c_DK_write 25 = .ok (.imul, 1) := by decide +kernel
theorem d_DK_write_26 : decode c_DK_write 26 = .ok (.iload_n 2, 1) := by decide +kernel
theorem d_DK_write_27 : decode c_DK_write 27 = .ok (.iadd, 1) := by decide +kernel
theorem d_DK_write_28 : decode c_DK_write 28 = .ok (.iload_n 3, 1) := by decide +kernel
theorem d_DK_write_29 : decode c_DK_write 29 = .ok (.iastore, 1) := by decide +kernel
theorem d_DK_write_30 : decode c_DK_write 30 = .ok (.aload_n 0, 1) := by decide +kernel
theorem d_DK_write_31 : decode c_DK_write 31 = .ok (.getfield 18, 3) := by decide +kernel
theorem d_DK_write_34 : decode c_DK_write 34 = .ok (.iload_n 1, 1) := by decide +kernel
theorem d_DK_write_35 : decode c_DK_write 35 = .ok (.dup2, 1) := by decide +kernel
theorem d_DK_write_36 : decode c_DK_write 36 = .ok (.iaload, 1) := by decide +kernel
theorem d_DK_write_37 : decode c_DK_write 37 = .ok (.iconst 1, 1) := by decide +kernel
theorem d_DK_write_38 : decode c_DK_write 38 = .ok (.iload_n 2, 1) := by decide +kernel
theorem d_DK_write_39 : decode c_DK_write 39 = .ok (.ishl, 1) := by decide +kernel
theorem d_DK_write_40 : decode c_DK_write 40 = .ok (.ior, 1) := by decide +kernel
theorem d_DK_write_41 : decode c_DK_write 41 = .ok (.iastore, 1) := by decide +kernel
theorem d_DK_write_42 : decode c_DK_write 42 = .ok (.return_, 1) := by decide +kernel
theorem d_PL_fits_0 : decode c_PL_fits 0 = .ok (.iload_n 2, 1) := by decide +kernel
theorem d_PL_fits_1 : decode c_PL_fits 1 = .ok (.iload_n 3, 1) := by decide +kernel
theorem d_PL_fits_2 : decode c_PL_fits 2 = .ok (.if_icmp .ge 14, 3) := by decide +kernel
theorem d_PL_fits_5 : decode c_PL_fits 5 = .ok (.aload_n 0, 1) := by decide +kernel
theorem d_PL_fits_6 : decode c_PL_fits 6 = .ok (.iload_n 1, 1) := by decide +kernel
theorem d_PL_fits_7 : decode c_PL_fits 7 = .ok (.iload_n 2, 1) := by decide +kernel
theorem d_PL_fits_8 : decode c_PL_fits 8 = .ok (.invokevirtual 90, 3) := by decide +kernel
theorem d_PL_fits_11 : decode c_PL_fits 11 = .ok (.ifCond .eq 5, 3) := by decide +kernel
theorem d_PL_fits_14 : decode c_PL_fits 14 = .ok (.iconst 0, 1) := by decide +kernel
theorem d_PL_fits_15 : decode c_PL_fits 15 = .ok (.ireturn, 1) := by decide +kernel
theorem d_PL_fits_16 : decode c_PL_fits 16 = .ok (.iconst 0, 1) := by decide +kernel
theorem d_PL_fits_17 : decode c_PL_fits 17 = .ok (.istore 4, 2) := by decide +kernel
theorem d_PL_fits_19 : decode c_PL_fits 19 = .ok (.iload 4, 2) := by decide +kernel
theorem d_PL_fits_21 : decode c_PL_fits 21 = .ok (.aload_n 0, 1) := by decide +kernel
theorem d_PL_fits_22 : decode c_PL_fits 22 = .ok (.getfield 17, 3) := by decide +kernel
theorem d_PL_fits_25 : decode c_PL_fits 25 = .ok (.if_icmp .ge 45, 3) := by decide +kernel
theorem d_PL_fits_28 : decode c_PL_fits 28 = .ok (.aload_n 0, 1) := by decide +kernel
theorem d_PL_fits_29 : decode c_PL_fits 29 = .ok (.getfield 11, 3) := by decide +kernel
theorem d_PL_fits_32 : decode c_PL_fits 32 = .ok (.iload 4, 2) := by decide +kernel
theorem d_PL_fits_34 : decode c_PL_fits 34 = .ok (.aaload, 1) := by decide +kernel
theorem d_PL_fits_35 : decode c_PL_fits 35 = .ok (.getfield 87, 3) := by decide +kernel
theorem d_PL_fits_38 : decode c_PL_fits 38 = .ok (.istore 5, 2) := by decide +kernel
theorem d_PL_fits_40 : decode c_PL_fits 40 = .ok (.iload 5, 2) := by decide +kernel
theorem d_PL_fits_42 : decode c_PL_fits 42 = .ok (.iload_n 2, 1) := by decide +kernel
theorem d_PL_fits_43 : decode c_PL_fits 43 = .ok (.if_icmp .le 21, 3) := by decide +kernel
theorem d_PL_fits_46 : decode c_PL_fits 46 = .ok (.iload 5, 2) := by decide +kernel
theorem d_PL_fits_48 : decode c_PL_fits 48 = .ok (.iload_n 3, 1) := by decide +kernel
theorem d_PL_fits_49 : decode c_PL_fits 49 = .ok (.if_icmp .ge 15, 3) := by decide +kernel
theorem d_PL_fits_52 : decode c_PL_fits 52 = .ok (.aload_n 0, 1) := by decide +kernel
theorem d_PL_fits_53 : decode c_PL_fits 53 = .ok (.iload_n 1, 1) := by decide +kernel
theorem d_PL_fits_54 : decode c_PL_fits 54 = .ok (.iload 5, 2) := by decide +kernel
theorem d_PL_fits_56 : decode c_PL_fits 56 = .ok (.invokevirtual 90, 3) := by decide +kernel
theorem d_PL_fits_59 : decode c_PL_fits 59 = .ok (.ifCond .eq 5, 3) := by decide +kernel
theorem d_PL_fits_62 : decode c_PL_fits 62 = .ok (.iconst 0, 1) := by decide +kernel
theorem d_PL_fits_63 : decode c_PL_fits 63 = .ok (.ireturn, 1) := by decide +kernel
theorem d_PL_fits_64 : decode c_PL_fits 64 = .ok (.iinc 4 1, 3) := by decide +kernel
theorem d_PL_fits_67 : decode c_PL_fits 67 = .ok (.goto (-48), 3) := by decide +kernel
theorem d_PL_fits_70 : decode c_PL_fits 70 = .ok (.iconst 1, 1) := by decide +kernel
theorem d_PL_fits_71 : decode c_PL_fits 71 = .ok (.ireturn, 1) := by decide +kernel
theorem d_PL_isCrowded_0 : decode c_PL_isCrowded 0 = .ok (.iconst 1, 1) := by decide +kernel
theorem d_PL_isCrowded_1 : decode c_PL_isCrowded 1 = .ok (.iload_n 1, 1) := by decide +kernel
theorem d_PL_isCrowded_2 : decode c_PL_isCrowded 2 = .ok (.ishl, 1) := by decide +kernel
theorem d_PL_isCrowded_3 : decode c_PL_isCrowded 3 = .ok (.istore_n 3, 1) := by decide +kernel
theorem d_PL_isCrowded_4 : decode c_PL_isCrowded 4 = .ok (.iconst 0, 1) := by decide +kernel
theorem d_PL_isCrowded_5 : decode c_PL_isCrowded 5 = .ok (.istore 4, 2) := by decide +kernel
theorem d_PL_isCrowded_7 : decode c_PL_isCrowded 7 = .ok (.iload 4, 2) := by decide +kernel
theorem d_PL_isCrowded_9 : decode c_PL_isCrowded 9 = .ok (.aload_n 0, 1) := by decide +kernel
theorem d_PL_isCrowded_10 : decode c_PL_isCrowded 10 = .ok (.getfield 17, 3) := by decide +kernel
theorem d_PL_isCrowded_13 : decode c_PL_isCrowded 13 = .ok (.if_icmp .ge 46, 3) := by decide +kernel
theorem d_PL_isCrowded_16 : decode c_PL_isCrowded 16 = .ok (.aload_n 0, 1) := by decide +kernel
theorem d_PL_isCrowded_17 : decode c_PL_isCrowded 17 = .ok (.getfield 11, 3) := by decide +kernel
theorem d_PL_isCrowded_20 : decode c_PL_isCrowded 20 = .ok (.iload 4, 2) := by decide +kernel
theorem d_PL_isCrowded_22 : decode c_PL_isCrowded 22 = .ok (.aaload, 1) := by decide +kernel
theorem d_PL_isCrowded_23 : decode c_PL_isCrowded 23 = .ok (.astore 5, 2) := by decide +kernel
theorem d_PL_isCrowded_25 : decode c_PL_isCrowded 25 = .ok (.aload 5, 2) := by decide +kernel
theorem d_PL_isCrowded_27 : decode c_PL_isCrowded 27 = .ok (.getfield 87, 3) := by decide +kernel
theorem d_PL_isCrowded_30 : decode c_PL_isCrowded 30 = .ok (.iload_n 2, 1) := by decide +kernel
theorem d_PL_isCrowded_31 : decode c_PL_isCrowded 31 = .ok (.if_icmp .gt 22, 3) := by decide +kernel
theorem d_PL_isCrowded_34 : decode c_PL_isCrowded 34 = .ok (.iload_n 2, 1) := by decide +kernel
theorem d_PL_isCrowded_35 : decode c_PL_isCrowded 35 = .ok (.aload 5, 2) := by decide +kernel
theorem d_PL_isCrowded_37 : decode c_PL_isCrowded 37 = .ok (.getfield 81, 3) := by decide +kernel
theorem d_PL_isCrowded_40 : decode c_PL_isCrowded 40 = .ok (.if_icmp .ge 13, 3) := by decide +kernel
theorem d_PL_isCrowded_43 : decode c_PL_isCrowded 43 = .ok (.iload_n 3, 1) := by decide +kernel
theorem d_PL_isCrowded_44 : decode c_PL_isCrowded 44 = .ok (.iconst 1, 1) := by decide +kernel
theorem d_PL_isCrowded_45 : decode c_PL_isCrowded 45 = .ok (.aload 5, 2) := by decide +kernel
theorem d_PL_isCrowded_47 : decode c_PL_isCrowded 47 = .ok (.getfield 58, 3) := by decide +kernel
theorem d_PL_isCrowded_50 : decode c_PL_isCrowded 50 = .ok (.ishl, 1) := by decide +kernel
theorem d_PL_isCrowded_51 : decode c_PL_isCrowded 51 = .ok (.ior, 1) := by decide +kernel
theorem d_PL_isCrowded_52 : decode c_PL_isCrowded 52 = .ok (.istore_n 3, 1) := by decide +kernel
theorem d_PL_isCrowded_53 : decode c_PL_isCrowded 53 = .ok (.iinc 4 1, 3) := by decide +kernel
theorem d_PL_isCrowded_56 : decode c_PL_isCrowded 56 = .ok (.goto (-49), 3) := by decide +kernel
theorem d_PL_isCrowded_59 : decode c_PL_isCrowded 59 = .ok (.iload_n 3, 1) := by decide +kernel
theorem d_PL_isCrowded_60 : decode c_PL_isCrowded 60 = .ok (.invokestatic 94, 3) := by decide +kernel
theorem d_PL_isCrowded_63 : decode c_PL_isCrowded 63 = .ok (.iconst 2, 1) := by decide +kernel
theorem d_PL_isCrowded_64 : decode c_PL_isCrowded 64 = .ok (.if_icmp .le 7, 3) := by decide +kernel
theorem d_PL_isCrowded_67 : decode c_PL_isCrowded 67 = .ok (.iconst 1, 1) := by decide +kernel
theorem d_PL_isCrowded_68 : decode c_PL_isCrowded 68 = .ok (.goto 4, 3) := by decide +kernel
theorem d_PL_isCrowded_71 : decode c_PL_isCrowded 71 = .ok (.iconst 0, 1) := by decide +kernel
theorem d_PL_isCrowded_72 : decode c_PL_isCrowded 72 = .ok (.ireturn, 1) := by decide +kernel
theorem d_PL_padRunning_0 : decode c_PL_padRunning 0 = .ok (.iconst 0, 1) := by decide +kernel
theorem d_PL_padRunning_1 : decode c_PL_padRunning 1 = .ok (.istore_n 2, 1) := by decide +kernel
theorem d_PL_padRunning_2 : decode c_PL_padRunning 2 = .ok (.iload_n 2, 1) := by decide +kernel
theorem d_PL_padRunning_3 : decode c_PL_padRunning 3 = .ok (.aload_n 0, 1) := by decide +kernel
theorem d_PL_padRunning_4 : decode c_PL_padRunning 4 = .ok (.getfield 17, 3) := by decide +kernel
theorem d_PL_padRunning_7 : decode c_PL_padRunning 7 = .ok (.if_icmp .ge 45, 3) := by decide +kernel
theorem d_PL_padRunning_10 : decode c_PL_padRunning 10 = .ok (.aload_n 0, 1) := by decide +kernel
theorem d_PL_padRunning_11 : decode c_PL_padRunning 11 = .ok (.getfield 11, 3) := by decide +kernel
theorem d_PL_padRunning_14 : decode c_PL_padRunning 14 = .ok (.iload_n 2, 1) := by decide +kernel
theorem d_PL_padRunning_15 : decode c_PL_padRunning 15 = .ok (.aaload, 1) := by decide +kernel
theorem d_PL_padRunning_16 : decode c_PL_padRunning 16 = .ok (.getfield 49, 3) := by decide +kernel
theorem d_PL_padRunning_19 : decode c_PL_padRunning 19 = .ok (.iconst 1, 1) := by decide +kernel
theorem d_PL_padRunning_20 : decode c_PL_padRunning 20 = .ok (.if_icmp .ne 26, 3) := by decide +kernel
theorem d_PL_padRunning_23 : decode c_PL_padRunning 23 = .ok (.aload_n 0, 1) := by decide +kernel
theorem d_PL_padRunning_24 : decode c_PL_padRunning 24 = .ok (.getfield 11, 3) := by decide +kernel
theorem d_PL_padRunning_27 : decode c_PL_padRunning 27 = .ok (.iload_n 2, 1) := by decide +kernel
theorem d_PL_padRunning_28 : decode c_PL_padRunning 28 = .ok (.aaload, 1) := by decide +kernel
theorem d_PL_padRunning_29 : decode c_PL_padRunning 29 = .ok (.getfield 52, 3) := by decide +kernel
theorem d_PL_padRunning_32 : decode c_PL_padRunning 32 = .ok (.iload_n 1, 1) := by decide +kernel
theorem d_PL_padRunning_33 : decode c_PL_padRunning 33 = .ok (.if_icmp .le 13, 3) := by decide +kernel
theorem d_PL_padRunning_36 : decode c_PL_padRunning 36 = .ok (.aload_n 0, 1) := by decide +kernel
theorem d_PL_padRunning_37 : decode c_PL_padRunning 37 = .ok (.aload_n 0, 1) := by decide +kernel
theorem d_PL_padRunning_38 : decode c_PL_padRunning 38 = .ok (.getfield 11, 3) := by decide +kernel
theorem d_PL_padRunning_41 : decode c_PL_padRunning 41 = .ok (.iload_n 2, 1) := by decide +kernel
theorem d_PL_padRunning_42 : decode c_PL_padRunning 42 = .ok (.aaload, 1) := by decide +kernel
theorem d_PL_padRunning_43 : decode c_PL_padRunning 43 = .ok (.invokevirtual 68, 3) := by decide +kernel
theorem d_PL_padRunning_46 : decode c_PL_padRunning 46 = .ok (.iinc 2 1, 3) := by decide +kernel
theorem d_PL_padRunning_49 : decode c_PL_padRunning 49 = .ok (.goto (-47), 3) := by decide +kernel
theorem d_PL_padRunning_52 : decode c_PL_padRunning 52 = .ok (.return_, 1) := by decide +kernel
theorem d_PL_padWaiting_0 : decode c_PL_padWaiting 0 = .ok (.iconst 0, 1) := by decide +kernel
theorem d_PL_padWaiting_1 : decode c_PL_padWaiting 1 = .ok (.istore_n 2, 1) := by decide +kernel
theorem d_PL_padWaiting_2 : decode c_PL_padWaiting 2 = .ok (.iload_n 2, 1) := by decide +kernel
theorem d_PL_padWaiting_3 : decode c_PL_padWaiting 3 = .ok (.aload_n 0, 1) := by decide +kernel
theorem d_PL_padWaiting_4 : decode c_PL_padWaiting 4 = .ok (.getfield 17, 3) := by decide +kernel
theorem d_PL_padWaiting_7 : decode c_PL_padWaiting 7 = .ok (.if_icmp .ge 41, 3) := by decide +kernel
theorem d_PL_padWaiting_10 : decode c_PL_padWaiting 10 = .ok (.aload_n 0, 1) := by decide +kernel
theorem d_PL_padWaiting_11 : decode c_PL_padWaiting 11 = .ok (.getfield 11, 3) := by decide +kernel
theorem d_PL_padWaiting_14 : decode c_PL_padWaiting 14 = .ok (.iload_n 2, 1) := by decide +kernel
theorem d_PL_padWaiting_15 : decode c_PL_padWaiting 15 = .ok (.aaload, 1) := by decide +kernel
theorem d_PL_padWaiting_16 : decode c_PL_padWaiting 16 = .ok (.astore_n 3, 1) := by decide +kernel
theorem d_PL_padWaiting_17 : decode c_PL_padWaiting 17 = .ok (.aload_n 3, 1) := by decide +kernel
theorem d_PL_padWaiting_18 : decode c_PL_padWaiting 18 = .ok (.getfield 49, 3) := by decide +kernel
theorem d_PL_padWaiting_21 : decode c_PL_padWaiting 21 = .ok (.ifCond .ne 21, 3) := by decide +kernel
theorem d_PL_padWaiting_24 : decode c_PL_padWaiting 24 = .ok (.aload_n 3, 1) := by decide +kernel
theorem d_PL_padWaiting_25 : decode c_PL_padWaiting 25 = .ok (.invokevirtual 71, 3) := by decide +kernel
theorem d_PL_padWaiting_28 : decode c_PL_padWaiting 28 = .ok (.ifCond .eq 14, 3) := by decide +kernel
theorem d_PL_padWaiting_31 : decode c_PL_padWaiting 31 = .ok (.aload_n 0, 1) := by decide +kernel
theorem d_PL_padWaiting_32 : decode c_PL_padWaiting 32 = .ok (.aload_n 3, 1) := by decide +kernel
theorem d_PL_padWaiting_33 : decode c_PL_padWaiting 33 = .ok (.invokevirtual 68, 3) := by decide +kernel
theorem d_PL_padWaiting_36 : decode c_PL_padWaiting 36 = .ok (.aload_n 0, 1) := by decide +kernel
theorem d_PL_padWaiting_37 : decode c_PL_padWaiting 37 = .ok (.aload_n 3, 1) := by decide +kernel
theorem d_PL_padWaiting_38 : decode c_PL_padWaiting 38 = .ok (.iload_n 1, 1) := by decide +kernel
theorem d_PL_padWaiting_39 : decode c_PL_padWaiting 39 = .ok (.invokevirtual 74, 3) := by decide +kernel
theorem d_PL_padWaiting_42 : decode c_PL_padWaiting 42 = .ok (.iinc 2 1, 3) := by decide +kernel
theorem d_PL_padWaiting_45 : decode c_PL_padWaiting 45 = .ok (.goto (-43), 3) := by decide +kernel
theorem d_PL_padWaiting_48 : decode c_PL_padWaiting 48 = .ok (.return_, 1) := by decide +kernel
theorem d_PL_takeAfter_0 : decode c_PL_takeAfter 0 = .ok (.aload_n 1, 1) := by decide +kernel
theorem d_PL_takeAfter_1 : decode c_PL_takeAfter 1 = .ok (.getfield 52, 3) := by decide +kernel
theorem d_PL_takeAfter_4 : decode c_PL_takeAfter 4 = .ok (.aload_n 1, 1) := by decide +kernel
theorem d_PL_takeAfter_5 : decode c_PL_takeAfter 5 = .ok (.getfield 78, 3) := by decide +kernel
theorem d_PL_takeAfter_8 : decode c_PL_takeAfter 8 = .ok (.iadd, 1) := by decide +kernel
theorem d_PL_takeAfter_9 : decode c_PL_takeAfter 9 = .ok (.istore_n 2, 1) := by decide +kernel
theorem d_PL_takeAfter_10 : decode c_PL_takeAfter 10 = .ok (.aload_n 0, 1) := by decide +kernel
theorem d_PL_takeAfter_11 : decode c_PL_takeAfter 11 = .ok (.aload_n 1, 1) := by decide +kernel
theorem d_PL_takeAfter_12 : decode c_PL_takeAfter 12 = .ok (.getfield 58, 3) := by decide +kernel
theorem d_PL_takeAfter_15 : decode c_PL_takeAfter 15 = .ok (.aload_n 1, 1) := by decide +kernel
theorem d_PL_takeAfter_16 : decode c_PL_takeAfter 16 = .ok (.getfield 52, 3) := by decide +kernel
theorem d_PL_takeAfter_19 : decode c_PL_takeAfter 19 = .ok (.iload_n 2, 1) := by decide +kernel
theorem d_PL_takeAfter_20 : decode c_PL_takeAfter 20 = .ok (.invokevirtual 64, 3) := by decide +kernel
theorem d_PL_takeAfter_23 : decode c_PL_takeAfter 23 = .ok (.ifCond .eq 8, 3) := by decide +kernel
theorem d_PL_takeAfter_26 : decode c_PL_takeAfter 26 = .ok (.aload_n 1, 1) := by decide +kernel
theorem d_PL_takeAfter_27 : decode c_PL_takeAfter 27 = .ok (.iload_n 2, 1) := by decide +kernel
theorem d_PL_takeAfter_28 : decode c_PL_takeAfter 28 = .ok (.putfield 81, 3) := by decide +kernel
theorem d_PL_takeAfter_31 : decode c_PL_takeAfter 31 = .ok (.return_, 1) := by decide +kernel
theorem d_PL_takeBefore_0 : decode c_PL_takeBefore 0 = .ok (.aload_n 1, 1) := by decide +kernel
theorem d_PL_takeBefore_1 : decode c_PL_takeBefore 1 = .ok (.getfield 61, 3) := by decide +kernel
theorem d_PL_takeBefore_4 : decode c_PL_takeBefore 4 = .ok (.aload_n 1, 1) := by decide +kernel
theorem d_PL_takeBefore_5 : decode c_PL_takeBefore 5 = .ok (.getfield 84, 3) := by decide +kernel
theorem d_PL_takeBefore_8 : decode c_PL_takeBefore 8 = .ok (.isub, 1) := by decide +kernel
theorem d_PL_takeBefore_9 : decode c_PL_takeBefore 9 = .ok (.istore_n 3, 1) := by decide +kernel
theorem d_PL_takeBefore_10 : decode c_PL_takeBefore 10 = .ok (.iload_n 3, 1) := by decide +kernel
theorem d_PL_takeBefore_11 : decode c_PL_takeBefore 11 = .ok (.iload_n 2, 1) := by decide +kernel
theorem d_PL_takeBefore_12 : decode c_PL_takeBefore 12 = .ok (.if_icmp .lt 24, 3) := by decide +kernel
theorem d_PL_takeBefore_15 : decode c_PL_takeBefore 15 = .ok (.aload_n 0, 1) := by decide +kernel
theorem d_PL_takeBefore_16 : decode c_PL_takeBefore 16 = .ok (.aload_n 1, 1) := by decide +kernel
theorem d_PL_takeBefore_17 : decode c_PL_takeBefore 17 = .ok (.getfield 58, 3) := by decide +kernel
theorem d_PL_takeBefore_20 : decode c_PL_takeBefore 20 = .ok (.iload_n 3, 1) := by decide +kernel
theorem d_PL_takeBefore_21 : decode c_PL_takeBefore 21 = .ok (.aload_n 1, 1) := by decide +kernel
theorem d_PL_takeBefore_22 : decode c_PL_takeBefore 22 = .ok (.getfield 61, 3) := by decide +kernel
theorem d_PL_takeBefore_25 : decode c_PL_takeBefore 25 = .ok (.invokevirtual 64, 3) := by decide +kernel
theorem d_PL_takeBefore_28 : decode c_PL_takeBefore 28 = .ok (.ifCond .eq 8, 3) := by decide +kernel
theorem d_PL_takeBefore_31 : decode c_PL_takeBefore 31 = .ok (.aload_n 1, 1) := by decide +kernel
theorem d_PL_takeBefore_32 : decode c_PL_takeBefore 32 = .ok (.iload_n 3, 1) := by decide +kernel
theorem d_PL_takeBefore_33 : decode c_PL_takeBefore 33 = .ok (.putfield 87, 3) := by decide +kernel
theorem d_PL_takeBefore_36 : decode c_PL_takeBefore 36 = .ok (.return_, 1) := by decide +kernel
theorem d_PL_takeCores_0 : decode c_PL_takeCores 0 = .ok (.iconst 0, 1) := by decide +kernel
theorem d_PL_takeCores_1 : decode c_PL_takeCores 1 = .ok (.istore_n 1, 1) := by decide +kernel
theorem d_PL_takeCores_2 : decode c_PL_takeCores 2 = .ok (.iload_n 1, 1) := by decide +kernel
theorem d_PL_takeCores_3 : decode c_PL_takeCores 3 = .ok (.aload_n 0, 1) := by decide +kernel
theorem d_PL_takeCores_4 : decode c_PL_takeCores 4 = .ok (.getfield 17, 3) := by decide +kernel
theorem d_PL_takeCores_7 : decode c_PL_takeCores 7 = .ok (.if_icmp .ge 54, 3) := by decide +kernel
theorem d_PL_takeCores_10 : decode c_PL_takeCores 10 = .ok (.aload_n 0, 1) := by decide +kernel
theorem d_PL_takeCores_11 : decode c_PL_takeCores 11 = .ok (.getfield 11, 3) := by decide +kernel
theorem d_PL_takeCores_14 : decode c_PL_takeCores 14 = .ok (.iload_n 1, 1) := by decide +kernel
theorem d_PL_takeCores_15 : decode c_PL_takeCores 15 = .ok (.aaload, 1) := by decide +kernel
theorem d_PL_takeCores_16 : decode c_PL_takeCores 16 = .ok (.astore_n 2, 1) := by decide +kernel
theorem d_PL_takeCores_17 : decode c_PL_takeCores 17 = .ok (.aload_n 2, 1) := by decide +kernel
theorem d_PL_takeCores_18 : decode c_PL_takeCores 18 = .ok (.getfield 49, 3) := by decide +kernel
theorem d_PL_takeCores_21 : decode c_PL_takeCores 21 = .ok (.ifCond .ne 34, 3) := by decide +kernel
theorem d_PL_takeCores_24 : decode c_PL_takeCores 24 = .ok (.aload_n 0, 1) := by decide +kernel
theorem d_PL_takeCores_25 : decode c_PL_takeCores 25 = .ok (.aload_n 2, 1) := by decide +kernel
theorem d_PL_takeCores_26 : decode c_PL_takeCores 26 = .ok (.getfield 58, 3) := by decide +kernel
theorem d_PL_takeCores_29 : decode c_PL_takeCores 29 = .ok (.aload_n 2, 1) := by decide +kernel
theorem d_PL_takeCores_30 : decode c_PL_takeCores 30 = .ok (.getfield 61, 3) := by decide +kernel
theorem d_PL_takeCores_33 : decode c_PL_takeCores 33 = .ok (.aload_n 2, 1) := by decide +kernel
theorem d_PL_takeCores_34 : decode c_PL_takeCores 34 = .ok (.getfield 52, 3) := by decide +kernel
theorem d_PL_takeCores_37 : decode c_PL_takeCores 37 = .ok (.invokevirtual 64, 3) := by decide +kernel
theorem d_PL_takeCores_40 : decode c_PL_takeCores 40 = .ok (.ifCond .eq 15, 3) := by decide +kernel
theorem d_PL_takeCores_43 : decode c_PL_takeCores 43 = .ok (.aload_n 2, 1) := by decide +kernel
theorem d_PL_takeCores_44 : decode c_PL_takeCores 44 = .ok (.aload_n 2, 1) := by decide +kernel
theorem d_PL_takeCores_45 : decode c_PL_takeCores 45 = .ok (.getfield 61, 3) := by decide +kernel
theorem d_PL_takeCores_48 : decode c_PL_takeCores 48 = .ok (.aload_n 2, 1) := by decide +kernel
theorem d_PL_takeCores_49 : decode c_PL_takeCores 49 = .ok (.getfield 52, 3) := by decide +kernel
theorem d_PL_takeCores_52 : decode c_PL_takeCores 52 = .ok (.invokevirtual 42, 3) := by decide +kernel
theorem d_PL_takeCores_55 : decode c_PL_takeCores 55 = .ok (.iinc 1 1, 3) := by decide +kernel
theorem d_PL_takeCores_58 : decode c_PL_takeCores 58 = .ok (.goto (-56), 3) := by decide +kernel
theorem d_PL_takeCores_61 : decode c_PL_takeCores 61 = .ok (.return_, 1) := by decide +kernel
theorem d_PL_takeRunning_0 : decode c_PL_takeRunning 0 = .ok (.iconst 0, 1) := by decide +kernel
theorem d_PL_takeRunning_1 : decode c_PL_takeRunning 1 = .ok (.istore_n 2, 1) := by decide +kernel
theorem d_PL_takeRunning_2 : decode c_PL_takeRunning 2 = .ok (.iload_n 2, 1) := by decide +kernel
theorem d_PL_takeRunning_3 : decode c_PL_takeRunning 3 = .ok (.aload_n 0, 1) := by decide +kernel
theorem d_PL_takeRunning_4 : decode c_PL_takeRunning 4 = .ok (.getfield 17, 3) := by decide +kernel
theorem d_PL_takeRunning_7 : decode c_PL_takeRunning 7 = .ok (.if_icmp .ge 48, 3) := by decide +kernel
theorem d_PL_takeRunning_10 : decode c_PL_takeRunning 10 = .ok (.aload_n 0, 1) := by decide +kernel
theorem d_PL_takeRunning_11 : decode c_PL_takeRunning 11 = .ok (.getfield 11, 3) := by decide +kernel
theorem d_PL_takeRunning_14 : decode c_PL_takeRunning 14 = .ok (.iload_n 2, 1) := by decide +kernel
theorem d_PL_takeRunning_15 : decode c_PL_takeRunning 15 = .ok (.aaload, 1) := by decide +kernel
theorem d_PL_takeRunning_16 : decode c_PL_takeRunning 16 = .ok (.astore_n 3, 1) := by decide +kernel
theorem d_PL_takeRunning_17 : decode c_PL_takeRunning 17 = .ok (.aload_n 3, 1) := by decide +kernel
theorem d_PL_takeRunning_18 : decode c_PL_takeRunning 18 = .ok (.getfield 49, 3) := by decide +kernel
theorem d_PL_takeRunning_21 : decode c_PL_takeRunning 21 = .ok (.iconst 1, 1) := by decide +kernel
theorem d_PL_takeRunning_22 : decode c_PL_takeRunning 22 = .ok (.if_icmp .ne 27, 3) := by decide +kernel
theorem d_PL_takeRunning_25 : decode c_PL_takeRunning 25 = .ok (.aload_n 3, 1) := by decide +kernel
theorem d_PL_takeRunning_26 : decode c_PL_takeRunning 26 = .ok (.iload_n 1, 1) := by decide +kernel
theorem d_PL_takeRunning_27 : decode c_PL_takeRunning 27 = .ok (.aload_n 3, 1) := by decide +kernel
theorem d_PL_takeRunning_28 : decode c_PL_takeRunning 28 = .ok (.getfield 52, 3) := by decide +kernel
theorem d_PL_takeRunning_31 : decode c_PL_takeRunning 31 = .ok (.iload_n 1, 1) := by decide +kernel
theorem d_PL_takeRunning_32 : decode c_PL_takeRunning 32 = .ok (.if_icmp .le 10, 3) := by decide +kernel
theorem d_PL_takeRunning_35 : decode c_PL_takeRunning 35 = .ok (.aload_n 3, 1) := by decide +kernel
theorem d_PL_takeRunning_36 : decode c_PL_takeRunning 36 = .ok (.getfield 52, 3) := by decide +kernel
theorem d_PL_takeRunning_39 : decode c_PL_takeRunning 39 = .ok (.goto 7, 3) := by decide +kernel
theorem d_PL_takeRunning_42 : decode c_PL_takeRunning 42 = .ok (.aload_n 3, 1) := by decide +kernel
theorem d_PL_takeRunning_43 : decode c_PL_takeRunning 43 = .ok (.getfield 55, 3) := by decide +kernel
theorem d_PL_takeRunning_46 : decode c_PL_takeRunning 46 = .ok (.invokevirtual 42, 3) := by decide +kernel
theorem d_PL_takeRunning_49 : decode c_PL_takeRunning 49 = .ok (.iinc 2 1, 3) := by decide +kernel
theorem d_PL_takeRunning_52 : decode c_PL_takeRunning 52 = .ok (.goto (-50), 3) := by decide +kernel
theorem d_PL_takeRunning_55 : decode c_PL_takeRunning 55 = .ok (.return_, 1) := by decide +kernel
theorem d_RW_forget_0 : decode c_RW_forget 0 = .ok (.aload_n 0, 1) := by decide +kernel
theorem d_RW_forget_1 : decode c_RW_forget 1 = .ok (.iconst 0, 1) := by decide +kernel
theorem d_RW_forget_2 : decode c_RW_forget 2 = .ok (.putfield 19, 3) := by decide +kernel
theorem d_RW_forget_5 : decode c_RW_forget 5 = .ok (.return_, 1) := by decide +kernel
theorem d_RW_keep_0 : decode c_RW_keep 0 = .ok (.aload_n 0, 1) := by decide +kernel
theorem d_RW_keep_1 : decode c_RW_keep 1 = .ok (.getfield 9, 3) := by decide +kernel
theorem d_RW_keep_4 : decode c_RW_keep 4 = .ok (.aload_n 0, 1) := by decide +kernel
theorem d_RW_keep_5 : decode c_RW_keep 5 = .ok (.getfield 15, 3) := by decide +kernel
theorem d_RW_keep_8 : decode c_RW_keep 8 = .ok (.iload_n 1, 1) := by decide +kernel
theorem d_RW_keep_9 : decode c_RW_keep 9 = .ok (.iastore, 1) := by decide +kernel
theorem d_RW_keep_10 : decode c_RW_keep 10 = .ok (.aload_n 0, 1) := by decide +kernel
theorem d_RW_keep_11 : decode c_RW_keep 11 = .ok (.aload_n 0, 1) := by decide +kernel
theorem d_RW_keep_12 : decode c_RW_keep 12 = .ok (.getfield 15, 3) := by decide +kernel
theorem d_RW_keep_15 : decode c_RW_keep 15 = .ok (.iconst 1, 1) := by decide +kernel
theorem d_RW_keep_16 : decode c_RW_keep 16 = .ok (.iadd, 1) := by decide +kernel
theorem d_RW_keep_17 : decode c_RW_keep 17 = .ok (.bipush 30, 2) := by decide +kernel
theorem d_RW_keep_19 : decode c_RW_keep 19 = .ok (.irem, 1) := by decide +kernel
theorem d_RW_keep_20 : decode c_RW_keep 20 = .ok (.putfield 15, 3) := by decide +kernel
theorem d_RW_keep_23 : decode c_RW_keep 23 = .ok (.aload_n 0, 1) := by decide +kernel
theorem d_RW_keep_24 : decode c_RW_keep 24 = .ok (.aload_n 0, 1) := by decide +kernel
theorem d_RW_keep_25 : decode c_RW_keep 25 = .ok (.getfield 19, 3) := by decide +kernel
theorem d_RW_keep_28 : decode c_RW_keep 28 = .ok (.iconst 1, 1) := by decide +kernel
theorem d_RW_keep_29 : decode c_RW_keep 29 = .ok (.iadd, 1) := by decide +kernel
theorem d_RW_keep_30 : decode c_RW_keep 30 = .ok (.bipush 30, 2) := by decide +kernel
theorem d_RW_keep_32 : decode c_RW_keep 32 = .ok (.invokestatic 22, 3) := by decide +kernel
theorem d_RW_keep_35 : decode c_RW_keep 35 = .ok (.putfield 19, 3) := by decide +kernel
theorem d_RW_keep_38 : decode c_RW_keep 38 = .ok (.return_, 1) := by decide +kernel
theorem d_RW_secondsAgo_0 : decode c_RW_secondsAgo 0 = .ok (.iload_n 1, 1) := by decide +kernel
theorem d_RW_secondsAgo_1 : decode c_RW_secondsAgo 1 = .ok (.iconst 1, 1) := by decide +kernel
theorem d_RW_secondsAgo_2 : decode c_RW_secondsAgo 2 = .ok (.if_icmp .lt 11, 3) := by decide +kernel
theorem d_RW_secondsAgo_5 : decode c_RW_secondsAgo 5 = .ok (.iload_n 1, 1) := by decide +kernel
theorem d_RW_secondsAgo_6 : decode c_RW_secondsAgo 6 = .ok (.aload_n 0, 1) := by decide +kernel
theorem d_RW_secondsAgo_7 : decode c_RW_secondsAgo 7 = .ok (.getfield 19, 3) := by decide +kernel
theorem d_RW_secondsAgo_10 : decode c_RW_secondsAgo 10 = .ok (.if_icmp .le 7, 3) := by decide +kernel
theorem d_RW_secondsAgo_13 : decode c_RW_secondsAgo 13 = .ok (.ldc2_w 28, 3) := by decide +kernel
theorem d_RW_secondsAgo_16 : decode c_RW_secondsAgo 16 = .ok (.lreturn, 1) := by decide +kernel
theorem d_RW_secondsAgo_17 : decode c_RW_secondsAgo 17 = .ok (.aload_n 0, 1) := by decide +kernel
theorem d_RW_secondsAgo_18 : decode c_RW_secondsAgo 18 = .ok (.getfield 9, 3) := by decide +kernel
theorem d_RW_secondsAgo_21 : decode c_RW_secondsAgo 21 = .ok (.aload_n 0, 1) := by decide +kernel
theorem d_RW_secondsAgo_22 : decode c_RW_secondsAgo 22 = .ok (.getfield 15, 3) := by decide +kernel
theorem d_RW_secondsAgo_25 : decode c_RW_secondsAgo 25 = .ok (.iload_n 1, 1) := by decide +kernel
theorem d_RW_secondsAgo_26 : decode c_RW_secondsAgo 26 = .ok (.isub, 1) := by decide +kernel
theorem d_RW_secondsAgo_27 : decode c_RW_secondsAgo 27 = .ok (.bipush 30, 2) := by decide +kernel
theorem d_RW_secondsAgo_29 : decode c_RW_secondsAgo 29 = .ok (.iadd, 1) := by decide +kernel
theorem d_RW_secondsAgo_30 : decode c_RW_secondsAgo 30 = .ok (.bipush 30, 2) := by decide +kernel
theorem d_RW_secondsAgo_32 : decode c_RW_secondsAgo 32 = .ok (.irem, 1) := by decide +kernel
theorem d_RW_secondsAgo_33 : decode c_RW_secondsAgo 33 = .ok (.iaload, 1) := by decide +kernel
theorem d_RW_secondsAgo_34 : decode c_RW_secondsAgo 34 = .ok (.i2l, 1) := by decide +kernel
theorem d_RW_secondsAgo_35 : decode c_RW_secondsAgo 35 = .ok (.ldc2_w 30, 3) := by decide +kernel
theorem d_RW_secondsAgo_38 : decode c_RW_secondsAgo 38 = .ok (.land, 1) := by decide +kernel
theorem d_RW_secondsAgo_39 : decode c_RW_secondsAgo 39 = .ok (.lreturn, 1) := by decide +kernel
set_option maxHeartbeats 8000000 in
set_option maxRecDepth 100000 in
theorem k_DK_write (l : Launch) (dC : Nat → ClassId) (dI : Nat → Nat → Nat) (cd : Nat → Nat) (kI kQ : ClassId) (L : List Nat) (isA : Nat → Bool) (bk : Nat → Nat) (sc : Nat → Int32) (ia : Nat → Nat → Int32) (qa : Nat → Nat → Option Nat) (rf ba : Nat → Nat → Int32) (sz Bd : Nat) (N : Nat) (hC : CI N L isA bk sc qa rf) (x y z : Int32) : Met l y_DK_write w_DK_write ({ frames := 1, cells := 0, slots := 0, locals := 22 }) (frP (dC, dI) (CW cd kI kQ L isA bk sc ia qa rf ba) (CT kI kQ) sz Bd [.ref (cd 5), .int x, .int y, .int z]) (tQ (dC, dI) (cW cd kI kQ L isA bk) (va_A (CW cd kI kQ L isA bk sc ia qa rf ba) sz) vN (fun r u => sc = u.1 ∧ qa = u.2.2.1 ∧ rf = u.2.2.2.1 ∧ ba = u.2.2.2.2 ∧ CI N L isA bk u.1 u.2.2.1 u.2.2.2.1)) 0 0 (va_A (CW cd kI kQ L isA bk sc ia qa rf ba) sz) := by
  refine Met.ofW (cc := c_DK_write) (maxL := 4) (ret := none) (by decide) rfl ?_
  intro p e s m args below meth c s₁ B hml hv
  obtain ⟨rfl, ⟨hsz, hBs⟩, hP, hK, hD0, hV⟩ := hv
  have hx := B.exec
  have hb := B.bytes
  have hr := B.returns
  have ht : ∀ w ∈ tb_, w.before _ s = true := fun w h => atoms_spec (ws := w_DK_write) B.pre w (List.mem_cons_of_mem _ h)
  have hown : s.vm.findClass R_DK = some m.cls := findClass_of_methodNamed B.named
  have hlocks := B.notSynchronized
  subst hsz
  have hD := hD0.self (sz := s.heap.size)
  have hAB : ∀ q, va_A (CW cd kI kQ L isA bk sc ia qa rf ba) s.heap.size q → Bd ≤ q := fr_AB hD0 hBs
  generalize hAe : va_A (CW cd kI kQ L isA bk sc ia qa rf ba) s.heap.size = A at hD hAB ⊢
  have hA : ∀ q : Nat, s.heap.size ≤ q → A q := fun q h => by rw [← hAe]; exact Or.inr h
  have hS : va_S A s.heap s.heap [] := va_S.rf
  have hs : same [] sc sc := same.rf
  have hP : va_P (dC, dI) cls_ (CW cd kI kQ L isA bk sc ia qa rf ba) s.heap := hP
  have hl := lv_entry ([.ref (cd 5), .int x, .int y, .int z]) (n := 4) (Nat.le_of_ble_eq_true rfl)
  rw [lg_entry_eq]
  generalize (lg_sl ([.ref (cd 5), .int x, .int y, .int z]) ++ List.replicate (4 - (lg_sl ([.ref (cd 5), .int x, .int y, .int z])).length) Slot.unset).toArray = ls at hl ⊢
  have hl : lv_has ls 4 [(0, .ref (cd 5)), (1, .int x), (2, .int y), (3, .int z)] := hl
  have hN := hC.1.1
  refine lv_iload_n hx hb d_DK_write_0 rfl (lv_at hl 1 rfl) ?_
  refine lv_iconst (v := 0) hx hb d_DK_write_1 (by decide) ?_
  refine lv_bipush (v := 23) hx hb d_DK_write_2 (by decide) ?_
  refine r_call (va_runSN (As := [.int x, .int 0, .int 23]) (rest := []) ⟨hx, hb, hml, hown, ht⟩ (k_TT_isWithin l dC dI x ((0 : Int32)) ((23 : Int32))) (⟨va_cnB 3 ht (gI tb_227) rfl rfl rfl hV.2.2.1.2.2 (ht _ tb_1) (by decide +kernel) ⟨Nat.le_of_ble_eq_true rfl, Nat.le_of_ble_eq_true rfl⟩, ht _ tb_226, trivial⟩) ⟨rdP_blind, rd_pre (W0 := []) (tys := []) (fun k q h => by cases h) ⟨hK.1, fun k q h => by cases h⟩⟩ rfl rfl hl.1 rfl (lv_room (Nat.le_of_ble_eq_true rfl)) d_DK_write_4 ⟨Nat.le_of_ble_eq_true rfl, Nat.le_of_ble_eq_true rfl⟩) (fun r1 hu => ?_)
  have hu1_0 := hu
  have hu1_0 : (((0 : Int32).toInt ≤ x.toInt ∧ x.toInt ≤ (23 : Int32).toInt) ∧ r1 = 1 ∨ ¬ ((0 : Int32).toInt ≤ x.toInt ∧ x.toInt ≤ (23 : Int32).toInt) ∧ r1 = 0) := hu1_0
  refine W.eq (g2 := F0 m 7 ls [.int r1]) rfl ?_
  rw [l_0, show (23 : Int32).toInt = 23 from by decide] at hu1_0
  rcases hu1_0 with ⟨hqa, rfl⟩ | ⟨hqa, rfl⟩
  · obtain ⟨d, hd, rfl⟩ := of_n (n := 23) (x := x) (by omega) (by omega)
    refine lv_if_eq (tgt := 42) hx hb d_DK_write_7 (by decide) (fun h9 => absurd h9 (by decide)) (fun _ => ?_)
    refine lv_iload_n hx hb d_DK_write_10 rfl (lv_at hl 2 rfl) ?_
    refine lv_iconst (v := 0) hx hb d_DK_write_11 (by decide) ?_
    refine lv_iconst (v := 3) hx hb d_DK_write_12 (by decide) ?_
    refine r_call (va_runSN (As := [.int y, .int 0, .int 3]) (rest := []) ⟨hx, hb, hml, hown, ht⟩ (k_TT_isWithin l dC dI y ((0 : Int32)) ((3 : Int32))) (⟨va_cnB 3 ht (gI tb_227) rfl rfl rfl hV.2.2.1.2.2 (ht _ tb_1) (by decide +kernel) ⟨Nat.le_of_ble_eq_true rfl, Nat.le_of_ble_eq_true rfl⟩, ht _ tb_226, trivial⟩) ⟨rdP_blind, rd_pre (W0 := []) (tys := []) (fun k q h => by cases h) ⟨hK.1, fun k q h => by cases h⟩⟩ rfl rfl hl.1 rfl (lv_room (Nat.le_of_ble_eq_true rfl)) d_DK_write_13 ⟨Nat.le_of_ble_eq_true rfl, Nat.le_of_ble_eq_true rfl⟩) (fun r2 hu => ?_)
    have hu2_0 := hu
    have hu2_0 : (((0 : Int32).toInt ≤ y.toInt ∧ y.toInt ≤ (3 : Int32).toInt) ∧ r2 = 1 ∨ ¬ ((0 : Int32).toInt ≤ y.toInt ∧ y.toInt ≤ (3 : Int32).toInt) ∧ r2 = 0) := hu2_0
    refine W.eq (g2 := F0 m 16 ls [.int r2]) rfl ?_
    rw [l_0, l_3] at hu2_0
    rcases hu2_0 with ⟨hqb, rfl⟩ | ⟨hqb, rfl⟩
    · obtain ⟨d2, hd2, rfl⟩ := of_n (n := 3) (x := y) (by omega) (by omega)
      refine lv_if_eq (tgt := 42) hx hb d_DK_write_16 (by decide) (fun h9 => absurd h9 (by decide)) (fun _ => ?_)
      refine lv_aload_n hx hb d_DK_write_19 rfl (lv_at hl 0 rfl) ?_
      refine va_get (D := (dC, dI)) (ci := 2) (v := .ref (cd 9)) (C := R_DK) (T := F_DK) (N := 4) hx hb ht in_DK hown hK hP 5 rfl rfl 3 (by decide) (ht _ tb_49) (fun _ h9 => h9) rfl d_DK_write_20 ?_
      refine lv_iload_n hx hb d_DK_write_23 rfl (lv_at hl 1 rfl) ?_
      refine lv_iconst (v := 4) hx hb d_DK_write_24 (by decide) ?_
      refine lv_imul hx hb d_DK_write_25 ?_
      refine lv_topi (fun v3 ev3 => ?_)
      obtain rfl : v3 = nI (d * 4) := ev3.trans (by rw [show (4 : Int32) = nI 4 from rfl, pk_mul])
      refine lv_iload_n hx hb d_DK_write_26 rfl (lv_at hl 2 rfl) ?_
      refine lv_iadd hx hb d_DK_write_27 ?_
      refine lv_topi (fun v4 ev4 => ?_)
      obtain rfl : v4 = nI ((d * 4) + d2) := ev4.trans (by rw [nI_add])
      refine lv_iload_n hx hb d_DK_write_28 rfl (lv_at hl 3 rfl) ?_
      have hD0 := hD
      refine va_iast hx hb hK hP hD hS 9 0 rfl rfl (vp_in_nI (show (d * 4) + d2 < 96 by omega) (by decide)) d_DK_write_29 (fun H locs hP hD hS => ?_)
      rw [nI_clamp (show (d * 4) + d2 < 2 ^ 31 by omega)] at hP hD
      have hP : va_P (dC, dI) cls_ (CW cd kI kQ L isA bk sc (va_up ia 4 (upd (ia 4) ((d * 4) + d2) z)) qa rf ba) H := hP
      have hD : va_D A (CW cd kI kQ L isA bk sc (va_up ia 4 (upd (ia 4) ((d * 4) + d2) z)) qa rf ba) := hD
      obtain ⟨ia5, eia5⟩ : ∃ q9_, q9_ = va_up ia 4 (upd (ia 4) ((d * 4) + d2) z) := ⟨_, rfl⟩
      rw [← eia5] at hP hD
      refine lv_aload_n hx hb d_DK_write_30 rfl (lv_at hl 0 rfl) ?_
      refine va_get (D := (dC, dI)) (ci := 2) (v := .ref (cd 8)) (C := R_DK) (T := F_DK) (N := 4) hx hb ht in_DK hown hK hP 5 rfl rfl 2 (by decide) (ht _ tb_48) (fun _ h9 => h9) rfl d_DK_write_31 ?_
      refine lv_iload_n hx hb d_DK_write_34 rfl (lv_at hl 1 rfl) ?_
      refine lv_dup2_11 hx hb d_DK_write_35 rfl rfl ?_
      refine va_iald hx hb hK hP 8 0 rfl rfl (vp_in_nI (show d < 24 by omega) (by decide)) d_DK_write_36 ?_
      refine W.eq (g2 := F0 m 37 ls [.int (ia5 3 d), .int (nI d), .ref (cd 8)]) (by rw [nI_clamp (show d < 2 ^ 31 by omega)]) ?_
      refine lv_iconst (v := 1) hx hb d_DK_write_37 (by decide) ?_
      refine lv_iload_n hx hb d_DK_write_38 rfl (lv_at hl 2 rfl) ?_
      refine lv_ishl hx hb d_DK_write_39 ?_
      refine lv_topi (fun z6 _ => ?_)
      refine lv_ior hx hb d_DK_write_40 ?_
      have hD0 := hD
      refine va_iast hx hb hK hP hD hS 8 0 rfl rfl (vp_in_nI (show d < 24 by omega) (by decide)) d_DK_write_41 (fun H locs hP hD hS => ?_)
      rw [nI_clamp (show d < 2 ^ 31 by omega)] at hP hD
      have hP : va_P (dC, dI) cls_ (CW cd kI kQ L isA bk sc (va_up ia5 3 (upd (ia5 3) d ((ia5 3 d) ||| z6))) qa rf ba) H := hP
      have hD : va_D A (CW cd kI kQ L isA bk sc (va_up ia5 3 (upd (ia5 3) d ((ia5 3 d) ||| z6))) qa rf ba) := hD
      obtain ⟨ia7, eia7⟩ : ∃ q9_, q9_ = va_up ia5 3 (upd (ia5 3) d ((ia5 3 d) ||| z6)) := ⟨_, rfl⟩
      rw [← eia7] at hP hD
      exact W.vret hx hb hr (fun t ht9 hW => ⟨⟨(), (sc, ia7, qa, rf, ba), rfl, ⟨rfl, rfl, rfl, rfl, hC⟩, by rw [ht9]; exact hP, hD⟩, hS.F ht9⟩) hS.2.2 d_DK_write_42
    · refine lv_if_eq (tgt := 42) hx hb d_DK_write_16 (by decide) (fun _ => ?_) (fun h9 => absurd (by decide) h9)
      exact W.vret hx hb hr (fun t ht9 hW => ⟨⟨(), (sc, ia, qa, rf, ba), rfl, ⟨rfl, rfl, rfl, rfl, hC⟩, by rw [ht9]; exact hP, hD⟩, hS.F ht9⟩) hS.2.2 d_DK_write_42
  · refine lv_if_eq (tgt := 42) hx hb d_DK_write_7 (by decide) (fun _ => ?_) (fun h9 => absurd (by decide) h9)
    exact W.vret hx hb hr (fun t ht9 hW => ⟨⟨(), (sc, ia, qa, rf, ba), rfl, ⟨rfl, rfl, rfl, rfl, hC⟩, by rw [ht9]; exact hP, hD⟩, hS.F ht9⟩) hS.2.2 d_DK_write_42
set_option maxHeartbeats 8000000 in
set_option maxRecDepth 100000 in
theorem k_DK_wordOf (l : Launch) (dC : Nat → ClassId) (dI : Nat → Nat → Nat) (cd : Nat → Nat) (kI kQ : ClassId) (L : List Nat) (isA : Nat → Bool) (bk : Nat → Nat) (sc : Nat → Int32) (ia : Nat → Nat → Int32) (qa : Nat → Nat → Option Nat) (rf ba : Nat → Nat → Int32) (N : Nat) (hC : CI N L isA bk sc qa rf) (x y : Int32) : Met l y_DK_wordOf w_DK_wordOf ({ frames := 1, cells := 0, slots := 0, locals := 23 }) (rdP (dC, dI) (CW cd kI kQ L isA bk sc ia qa rf ba) (CT kI kQ) [.ref (cd 5), .int x, .int y]) (rQ vJ (fun r => True)) 0 0 (fun _ => False) := by
  refine Met.ofW (cc := c_DK_wordOf) (maxL := 5) (ret := (some .long)) (by decide) rfl ?_
  intro p e s m args below meth c s₁ B hml hv
  obtain ⟨rfl, hP, hK⟩ := hv
  have hx := B.exec
  have hb := B.bytes
  have hr := B.returns
  have ht : ∀ w ∈ tb_, w.before _ s = true := fun w h => atoms_spec (ws := w_DK_wordOf) B.pre w (List.mem_cons_of_mem _ h)
  have hown : s.vm.findClass R_DK = some m.cls := findClass_of_methodNamed B.named
  have hlocks := B.notSynchronized
  have hP : va_P (dC, dI) cls_ (CW cd kI kQ L isA bk sc ia qa rf ba) s.heap := hP
  have hl := lv_entry ([.ref (cd 5), .int x, .int y]) (n := 5) (Nat.le_of_ble_eq_true rfl)
  rw [lg_entry_eq]
  generalize (lg_sl ([.ref (cd 5), .int x, .int y]) ++ List.replicate (5 - (lg_sl ([.ref (cd 5), .int x, .int y])).length) Slot.unset).toArray = ls at hl ⊢
  have hl : lv_has ls 5 [(0, .ref (cd 5)), (1, .int x), (2, .int y)] := hl
  have hN := hC.1.1
  refine lv_iload_n hx hb d_DK_wordOf_0 rfl (lv_at hl 2 rfl) ?_
  refine lv_if_ge (tgt := 8) hx hb d_DK_wordOf_1 (by decide) (fun h1_1 => ?_) (fun h1_1 => ?_)
  · have h1_1 := h1_1
    have i1_1 := ti_le h1_1
    (try rw [l_0] at i1_1)
    obtain ⟨d, hd, rfl⟩ : ∃ d : Nat, d < 2 ^ 31 ∧ y = nI d := nI_of (fun q => by have := ti_lt q; rw [l_0] at this; omega)
    refine lv_aload_n hx hb d_DK_wordOf_8 rfl (lv_at hl 0 rfl) ?_
    refine lv_iload_n hx hb d_DK_wordOf_9 rfl (lv_at hl 1 rfl) ?_
    refine lv_iload_n hx hb d_DK_wordOf_10 rfl (lv_at hl 2 rfl) ?_
    refine lv_iconst (v := 4) hx hb d_DK_wordOf_11 (by decide) ?_
    refine lv_idiv hx hb d_DK_wordOf_12 (by decide) ?_
    refine lv_topi (fun v1 ev1 => ?_)
    obtain rfl : v1 = nI (d / 4) := ev1.trans (by rw [show (4 : Int32) = nI 4 from rfl, pk_div (show d < 2 ^ 31 by omega) (by decide) (by decide)])
    refine r_call (va_runV (C := R_DK) (As := [.int x, .int (nI (d / 4))]) (rest := []) ⟨hx, hb, hml, hown, ht⟩ (k_DK_slotOf l dC dI cd kI kQ L isA bk sc ia qa rf ba N hC x (nI (d / 4))) (cwV 2 ht (gV tb_538 tb_185 tb_186 tb_3 tb_187) rfl rfl rfl (by decide +kernel) ⟨Nat.le_of_ble_eq_true rfl, Nat.le_of_ble_eq_true rfl⟩) ⟨rdP_blind, va_recv (q := (R_DK, F_DK, 4)) hK hP rfl (show (CW cd kI kQ L isA bk sc ia qa rf ba : va_W)[5]? = some _ from rfl), rd_pre hP hK⟩ rfl rfl hl.1 rfl (lv_room (Nat.le_of_ble_eq_true rfl)) d_DK_wordOf_13 ⟨Nat.le_of_ble_eq_true rfl, Nat.le_of_ble_eq_true rfl⟩) (fun r2 hu => ?_)
    have hu2_0 := hu
    have hu2_0 : (r2 = -1 ∨ ∃ kzz, kzz < 24 ∧ r2 = nI kzz) := hu2_0
    refine W.eq (g2 := F0 m 16 ls [.int r2]) rfl ?_
    rcases hu2_0 with rfl | ⟨kz, hkz, rfl⟩
    · refine lv_istore_n hx hb d_DK_wordOf_16 rfl hl (by decide) rfl (fun ls hl => ?_)
      have hl : lv_has ls 5 [(3, .int (-1)), (0, .ref (cd 5)), (1, .int x), (2, .int (nI d))] := hl
      refine lv_iload_n hx hb d_DK_wordOf_17 rfl (lv_at hl 3 rfl) ?_
      refine lv_iconst (v := 4) hx hb d_DK_wordOf_18 (by decide) ?_
      refine lv_irem hx hb d_DK_wordOf_19 (by decide) ?_
      refine lv_topi (fun v3 ev3 => ?_)
      obtain rfl : v3 = nI (d % 4) := ev3.trans (by rw [show (4 : Int32) = nI 4 from rfl, pk_rem (show d < 2 ^ 31 by omega) (by decide) (by decide)])
      refine lv_istore hx hb d_DK_wordOf_20 hl (by decide) rfl (fun ls hl => ?_)
      have hl : lv_has ls 5 [(4, .int (nI (d % 4))), (3, .int (-1)), (0, .ref (cd 5)), (1, .int x), (2, .int (nI d))] := hl
      refine lv_iload_n hx hb d_DK_wordOf_22 rfl (lv_at hl 1 rfl) ?_
      refine lv_iconst (v := -1) hx hb d_DK_wordOf_23 (by decide) ?_
      refine lv_icmp_eq (tgt := 41) hx hb d_DK_wordOf_24 (by decide) (fun _ => ?_) (fun h9 => absurd (rfl) h9)
      refine lv_ldc2 (v := (-1)) hx hb hown (ht _ tb_537) d_DK_wordOf_41 ?_
      exact W.lret (v := -1) hx hb hr (fun t ht9 hW => ⟨-1, rfl, trivial, ht9⟩) (fun q h => by cases h) d_DK_wordOf_44
    · refine lv_istore_n hx hb d_DK_wordOf_16 rfl hl (by decide) rfl (fun ls hl => ?_)
      have hl : lv_has ls 5 [(3, .int (nI kz)), (0, .ref (cd 5)), (1, .int x), (2, .int (nI d))] := hl
      refine lv_iload_n hx hb d_DK_wordOf_17 rfl (lv_at hl 3 rfl) ?_
      refine lv_iconst (v := 4) hx hb d_DK_wordOf_18 (by decide) ?_
      refine lv_irem hx hb d_DK_wordOf_19 (by decide) ?_
      refine lv_topi (fun v4 ev4 => ?_)
      obtain rfl : v4 = nI (d % 4) := ev4.trans (by rw [show (4 : Int32) = nI 4 from rfl, pk_rem (show d < 2 ^ 31 by omega) (by decide) (by decide)])
      refine lv_istore hx hb d_DK_wordOf_20 hl (by decide) rfl (fun ls hl => ?_)
      have hl : lv_has ls 5 [(4, .int (nI (d % 4))), (3, .int (nI kz)), (0, .ref (cd 5)), (1, .int x), (2, .int (nI d))] := hl
      refine lv_iload_n hx hb d_DK_wordOf_22 rfl (lv_at hl 1 rfl) ?_
      refine lv_iconst (v := -1) hx hb d_DK_wordOf_23 (by decide) ?_
      refine lv_icmp_eq (tgt := 41) hx hb d_DK_wordOf_24 (by decide) (fun h9 => absurd h9 (fun h9 => absurd (ti_eq h9) (by rw [nI_toInt (by omega), l_m1]; omega))) (fun _ => ?_)
      refine lv_aload_n hx hb d_DK_wordOf_27 rfl (lv_at hl 2 rfl) ?_
      refine va_get (D := (dC, dI)) (ci := 2) (v := .ref (cd 8)) (C := R_DK) (T := F_DK) (N := 4) hx hb ht in_DK hown hK hP 5 rfl rfl 2 (by decide) (ht _ tb_48) (fun _ h9 => h9) rfl d_DK_wordOf_28 ?_
      refine lv_iload_n hx hb d_DK_wordOf_31 rfl (lv_at hl 1 rfl) ?_
      refine va_iald hx hb hK hP 8 0 rfl rfl (vp_in_nI (show kz < 24 by omega) (by decide)) d_DK_wordOf_32 ?_
      refine W.eq (g2 := F0 m 33 ls [.int (ia 3 kz)]) (by rw [nI_clamp (show kz < 2 ^ 31 by omega)]) ?_
      refine lv_iload hx hb d_DK_wordOf_33 (lv_at hl 0 rfl) ?_
      refine lv_ishr hx hb d_DK_wordOf_35 ?_
      refine lv_topi (fun z5 _ => ?_)
      refine lv_iconst (v := 1) hx hb d_DK_wordOf_36 (by decide) ?_
      refine lv_iand hx hb d_DK_wordOf_37 ?_
      refine lv_if_ne (tgt := 45) hx hb d_DK_wordOf_38 (by decide) (fun h38_2 => ?_) (fun h38_2 => ?_)
      · have h38_2 := h38_2
        have i38_2 := ti_ne h38_2
        (try rw [l_0] at i38_2)
        refine lv_aload_n hx hb d_DK_wordOf_45 rfl (lv_at hl 2 rfl) ?_
        refine va_get (D := (dC, dI)) (ci := 2) (v := .ref (cd 9)) (C := R_DK) (T := F_DK) (N := 4) hx hb ht in_DK hown hK hP 5 rfl rfl 3 (by decide) (ht _ tb_49) (fun _ h9 => h9) rfl d_DK_wordOf_46 ?_
        refine lv_iload_n hx hb d_DK_wordOf_49 rfl (lv_at hl 1 rfl) ?_
        refine lv_iconst (v := 4) hx hb d_DK_wordOf_50 (by decide) ?_
        refine lv_imul hx hb d_DK_wordOf_51 ?_
        refine lv_topi (fun v6 ev6 => ?_)
        obtain rfl : v6 = nI (kz * 4) := ev6.trans (by rw [show (4 : Int32) = nI 4 from rfl, pk_mul])
        refine lv_iload hx hb d_DK_wordOf_52 (lv_at hl 0 rfl) ?_
        refine lv_iadd hx hb d_DK_wordOf_54 ?_
        refine lv_topi (fun v7 ev7 => ?_)
        obtain rfl : v7 = nI ((kz * 4) + (d % 4)) := ev7.trans (by rw [nI_add])
        refine va_iald hx hb hK hP 9 0 rfl rfl (vp_in_nI (show (kz * 4) + (d % 4) < 96 by omega) (by decide)) d_DK_wordOf_55 ?_
        refine W.eq (g2 := F0 m 56 ls [.int (ia 4 ((kz * 4) + (d % 4)))]) (by rw [nI_clamp (show (kz * 4) + (d % 4) < 2 ^ 31 by omega)]) ?_
        refine lv_i2l hx hb d_DK_wordOf_56 rfl ?_
        refine lv_ldc2 (v := 4294967295) hx hb hown (ht _ tb_539) d_DK_wordOf_57 ?_
        refine lv_land hx hb d_DK_wordOf_60 ?_
        exact W.lret (v := ((ia 4 ((kz * 4) + (d % 4))).toInt64) &&& 4294967295) hx hb hr (fun t ht9 hW => ⟨((ia 4 ((kz * 4) + (d % 4))).toInt64) &&& 4294967295, rfl, trivial, ht9⟩) (fun q h => by cases h) d_DK_wordOf_61
      · have h38_2 := h38_2
        have i38_2 := ti_eq h38_2
        (try rw [l_0] at i38_2)
        refine lv_ldc2 (v := (-1)) hx hb hown (ht _ tb_537) d_DK_wordOf_41 ?_
        exact W.lret (v := -1) hx hb hr (fun t ht9 hW => ⟨-1, rfl, trivial, ht9⟩) (fun q h => by cases h) d_DK_wordOf_44
  · have h1_1 := h1_1
    have i1_1 := ti_nle h1_1
    (try rw [l_0] at i1_1)
    refine lv_ldc2 (v := (-1)) hx hb hown (ht _ tb_537) d_DK_wordOf_4 ?_
    exact W.lret (v := -1) hx hb hr (fun t ht9 hW => ⟨-1, rfl, trivial, ht9⟩) (fun q h => by cases h) d_DK_wordOf_7
set_option maxHeartbeats 8000000 in
set_option maxRecDepth 100000 in
theorem k_RW_forget (l : Launch) (dC : Nat → ClassId) (dI : Nat → Nat → Nat) (cd : Nat → Nat) (kI kQ : ClassId) (L : List Nat) (isA : Nat → Bool) (bk : Nat → Nat) (sc : Nat → Int32) (ia : Nat → Nat → Int32) (qa : Nat → Nat → Option Nat) (rf ba : Nat → Nat → Int32) (sz Bd : Nat) (N : Nat) (hC : CI N L isA bk sc qa rf)  : Met l y_RW_forget w_RW_forget ({ frames := 0, cells := 0, slots := 0, locals := 0 }) (frP (dC, dI) (CW cd kI kQ L isA bk sc ia qa rf ba) (CT kI kQ) sz Bd [.ref (cd 10)]) (tQ (dC, dI) (cW cd kI kQ L isA bk) (va_A (CW cd kI kQ L isA bk sc ia qa rf ba) sz) vN (fun r u => same [5] sc u.1 ∧ ia = u.2.1 ∧ qa = u.2.2.1 ∧ rf = u.2.2.2.1 ∧ ba = u.2.2.2.2 ∧ CI N L isA bk u.1 u.2.2.1 u.2.2.2.1)) 0 0 (va_A (CW cd kI kQ L isA bk sc ia qa rf ba) sz) := by
  refine Met.ofW (cc := c_RW_forget) (maxL := 1) (ret := none) (by decide) rfl ?_
  intro p e s m args below meth c s₁ B hml hv
  obtain ⟨rfl, ⟨hsz, hBs⟩, hP, hK, hD0, hV⟩ := hv
  have hx := B.exec
  have hb := B.bytes
  have hr := B.returns
  have ht : ∀ w ∈ tb_, w.before _ s = true := fun w h => atoms_spec (ws := w_RW_forget) B.pre w (List.mem_cons_of_mem _ h)
  have hown : s.vm.findClass R_RW = some m.cls := findClass_of_methodNamed B.named
  have hlocks := B.notSynchronized
  subst hsz
  have hD := hD0.self (sz := s.heap.size)
  have hAB : ∀ q, va_A (CW cd kI kQ L isA bk sc ia qa rf ba) s.heap.size q → Bd ≤ q := fr_AB hD0 hBs
  generalize hAe : va_A (CW cd kI kQ L isA bk sc ia qa rf ba) s.heap.size = A at hD hAB ⊢
  have hA : ∀ q : Nat, s.heap.size ≤ q → A q := fun q h => by rw [← hAe]; exact Or.inr h
  have hS : va_S A s.heap s.heap [] := va_S.rf
  have hs : same [5] sc sc := same.rf
  have hP : va_P (dC, dI) cls_ (CW cd kI kQ L isA bk sc ia qa rf ba) s.heap := hP
  have hl := lv_entry ([.ref (cd 10)]) (n := 1) (Nat.le_of_ble_eq_true rfl)
  rw [lg_entry_eq]
  generalize (lg_sl ([.ref (cd 10)]) ++ List.replicate (1 - (lg_sl ([.ref (cd 10)])).length) Slot.unset).toArray = ls at hl ⊢
  have hl : lv_has ls 1 [(0, .ref (cd 10))] := hl
  have hN := hC.1.1
  refine lv_aload_n hx hb d_RW_forget_0 rfl (lv_at hl 0 rfl) ?_
  refine lv_iconst (v := 0) hx hb d_RW_forget_1 (by decide) ?_
  refine va_put (D := (dC, dI)) (ci := 3) (v := .int 0) (ty := .int) (C := R_RW) (T := F_RW) (N := 3) hx hb ht in_RW t_RW t_RW_ok n_RW hown hK hP hD hS 10 rfl rfl 2 (by decide) (ht _ tb_67) (fun _ h9 => h9) rfl (by decide +kernel) rfl rfl (Nat.le_of_ble_eq_true rfl) d_RW_forget_2 (fun H locs hP hD hS => ?_)
  have hP : va_P (dC, dI) cls_ (CW cd kI kQ L isA bk (va_up sc 5 0) ia qa rf ba) H := hP
  have hD : va_D A (CW cd kI kQ L isA bk (va_up sc 5 0) ia qa rf ba) := hD
  obtain ⟨sc1, esc1⟩ : ∃ q9_, q9_ = va_up sc 5 0 := ⟨_, rfl⟩
  rw [← esc1] at hP hD
  have hs : same [5] sc sc1 := by rw [esc1]; exact hs.up (by decide)
  have hC : CI N L isA bk sc1 qa rf := by rw [esc1]; exact CI_s5 hC (by rw [l_0]; omega)
  exact W.vret hx hb hr (fun t ht9 hW => ⟨⟨(), (sc1, ia, qa, rf, ba), rfl, ⟨hs, rfl, rfl, rfl, rfl, hC⟩, by rw [ht9]; exact hP, hD⟩, hS.F ht9⟩) hS.2.2 d_RW_forget_5
set_option maxHeartbeats 8000000 in
set_option maxRecDepth 100000 in
theorem k_RW_keep (l : Launch) (dC : Nat → ClassId) (dI : Nat → Nat → Nat) (cd : Nat → Nat) (kI kQ : ClassId) (L : List Nat) (isA : Nat → Bool) (bk : Nat → Nat) (sc : Nat → Int32) (ia : Nat → Nat → Int32) (qa : Nat → Nat → Option Nat) (rf ba : Nat → Nat → Int32) (sz Bd : Nat) (N : Nat) (hC : CI N L isA bk sc qa rf) (x : Int32) : Met l y_RW_keep w_RW_keep ({ frames := 1, cells := 0, slots := 0, locals := 30 }) (frP (dC, dI) (CW cd kI kQ L isA bk sc ia qa rf ba) (CT kI kQ) sz Bd [.ref (cd 10), .int x]) (tQ (dC, dI) (cW cd kI kQ L isA bk) (va_A (CW cd kI kQ L isA bk sc ia qa rf ba) sz) vN (fun r u => same [4, 5] sc u.1 ∧ qa = u.2.2.1 ∧ rf = u.2.2.2.1 ∧ ba = u.2.2.2.2 ∧ CI N L isA bk u.1 u.2.2.1 u.2.2.2.1)) 0 0 (va_A (CW cd kI kQ L isA bk sc ia qa rf ba) sz) := by
  refine Met.ofW (cc := c_RW_keep) (maxL := 2) (ret := none) (by decide) rfl ?_
  intro p e s m args below meth c s₁ B hml hv
  obtain ⟨rfl, ⟨hsz, hBs⟩, hP, hK, hD0, hV⟩ := hv
  have hx := B.exec
  have hb := B.bytes
  have hr := B.returns
  have ht : ∀ w ∈ tb_, w.before _ s = true := fun w h => atoms_spec (ws := w_RW_keep) B.pre w (List.mem_cons_of_mem _ h)
  have hown : s.vm.findClass R_RW = some m.cls := findClass_of_methodNamed B.named
  have hlocks := B.notSynchronized
  subst hsz
  have hD := hD0.self (sz := s.heap.size)
  have hAB : ∀ q, va_A (CW cd kI kQ L isA bk sc ia qa rf ba) s.heap.size q → Bd ≤ q := fr_AB hD0 hBs
  generalize hAe : va_A (CW cd kI kQ L isA bk sc ia qa rf ba) s.heap.size = A at hD hAB ⊢
  have hA : ∀ q : Nat, s.heap.size ≤ q → A q := fun q h => by rw [← hAe]; exact Or.inr h
  have hS : va_S A s.heap s.heap [] := va_S.rf
  have hs : same [4, 5] sc sc := same.rf
  have hP : va_P (dC, dI) cls_ (CW cd kI kQ L isA bk sc ia qa rf ba) s.heap := hP
  have hl := lv_entry ([.ref (cd 10), .int x]) (n := 2) (Nat.le_of_ble_eq_true rfl)
  rw [lg_entry_eq]
  generalize (lg_sl ([.ref (cd 10), .int x]) ++ List.replicate (2 - (lg_sl ([.ref (cd 10), .int x])).length) Slot.unset).toArray = ls at hl ⊢
  have hl : lv_has ls 2 [(0, .ref (cd 10)), (1, .int x)] := hl
  have hN := hC.1.1
  have h4 := hC.2.2.2.1
  have h5 := hC.2.2.2.2.1
  obtain ⟨w4, hw4, e4w⟩ := of_n (n := 29) (x := sc 4) (by omega) (by omega)
  obtain ⟨w5, hw5, e5w⟩ := of_n (n := 30) (x := sc 5) (by omega) (by omega)
  refine lv_aload_n hx hb d_RW_keep_0 rfl (lv_at hl 0 rfl) ?_
  refine va_get (D := (dC, dI)) (ci := 3) (v := .ref (cd 11)) (C := R_RW) (T := F_RW) (N := 3) hx hb ht in_RW hown hK hP 10 rfl rfl 0 (by decide) (ht _ tb_65) (fun _ h9 => h9) rfl d_RW_keep_1 ?_
  refine lv_aload_n hx hb d_RW_keep_4 rfl (lv_at hl 0 rfl) ?_
  refine va_get (D := (dC, dI)) (ci := 3) (v := .int (sc 4)) (C := R_RW) (T := F_RW) (N := 3) hx hb ht in_RW hown hK hP 10 rfl rfl 1 (by decide) (ht _ tb_66) (fun _ h9 => h9) rfl d_RW_keep_5 ?_
  refine W.eq (g2 := F0 m 8 ls [.int (nI w4), .ref (cd 11)]) (by rw [show sc 4 = nI w4 from e4w]) ?_
  refine lv_iload_n hx hb d_RW_keep_8 rfl (lv_at hl 1 rfl) ?_
  have hD0 := hD
  refine va_iast hx hb hK hP hD hS 11 0 rfl rfl (vp_in_nI (show w4 < 30 by omega) (by decide)) d_RW_keep_9 (fun H locs hP hD hS => ?_)
  rw [nI_clamp (show w4 < 2 ^ 31 by omega)] at hP hD
  have hP : va_P (dC, dI) cls_ (CW cd kI kQ L isA bk sc (va_up ia 5 (upd (ia 5) w4 x)) qa rf ba) H := hP
  have hD : va_D A (CW cd kI kQ L isA bk sc (va_up ia 5 (upd (ia 5) w4 x)) qa rf ba) := hD
  obtain ⟨ia1, eia1⟩ : ∃ q9_, q9_ = va_up ia 5 (upd (ia 5) w4 x) := ⟨_, rfl⟩
  rw [← eia1] at hP hD
  refine lv_aload_n hx hb d_RW_keep_10 rfl (lv_at hl 0 rfl) ?_
  refine lv_aload_n hx hb d_RW_keep_11 rfl (lv_at hl 0 rfl) ?_
  refine va_get (D := (dC, dI)) (ci := 3) (v := .int (sc 4)) (C := R_RW) (T := F_RW) (N := 3) hx hb ht in_RW hown hK hP 10 rfl rfl 1 (by decide) (ht _ tb_66) (fun _ h9 => h9) rfl d_RW_keep_12 ?_
  refine W.eq (g2 := F0 m 15 ls [.int (nI w4), .ref (cd 10)]) (by rw [show sc 4 = nI w4 from e4w]) ?_
  refine lv_iconst (v := 1) hx hb d_RW_keep_15 (by decide) ?_
  refine lv_iadd hx hb d_RW_keep_16 ?_
  refine lv_topi (fun v2 ev2 => ?_)
  obtain rfl : v2 = nI (w4 + 1) := ev2.trans (by rw [show (1 : Int32) = nI 1 from rfl, nI_add])
  refine lv_bipush (v := 30) hx hb d_RW_keep_17 (by decide) ?_
  refine lv_irem hx hb d_RW_keep_19 (by decide) ?_
  refine lv_topi (fun v3 ev3 => ?_)
  obtain rfl : v3 = nI ((w4 + 1) % 30) := ev3.trans (by rw [show (30 : Int32) = nI 30 from rfl, pk_rem (show w4 + 1 < 2 ^ 31 by omega) (by decide) (by decide)])
  refine va_put (D := (dC, dI)) (ci := 3) (v := .int (nI ((w4 + 1) % 30))) (ty := .int) (C := R_RW) (T := F_RW) (N := 3) hx hb ht in_RW t_RW t_RW_ok n_RW hown hK hP hD hS 10 rfl rfl 1 (by decide) (ht _ tb_66) (fun _ h9 => h9) rfl (by decide +kernel) rfl rfl (Nat.le_of_ble_eq_true rfl) d_RW_keep_20 (fun H locs hP hD hS => ?_)
  have hP : va_P (dC, dI) cls_ (CW cd kI kQ L isA bk (va_up sc 4 (nI ((w4 + 1) % 30))) ia1 qa rf ba) H := hP
  have hD : va_D A (CW cd kI kQ L isA bk (va_up sc 4 (nI ((w4 + 1) % 30))) ia1 qa rf ba) := hD
  obtain ⟨sc4, esc4⟩ : ∃ q9_, q9_ = va_up sc 4 (nI ((w4 + 1) % 30)) := ⟨_, rfl⟩
  rw [← esc4] at hP hD
  have hs : same [4, 5] sc sc4 := by rw [esc4]; exact hs.up (by decide)
  have hC : CI N L isA bk sc4 qa rf := by rw [esc4]; exact CI_s4 hC (by rw [nI_toInt (by omega)]; omega)
  refine lv_aload_n hx hb d_RW_keep_23 rfl (lv_at hl 0 rfl) ?_
  refine lv_aload_n hx hb d_RW_keep_24 rfl (lv_at hl 0 rfl) ?_
  refine va_get (D := (dC, dI)) (ci := 3) (v := .int (sc4 5)) (C := R_RW) (T := F_RW) (N := 3) hx hb ht in_RW hown hK hP 10 rfl rfl 2 (by decide) (ht _ tb_67) (fun _ h9 => h9) rfl d_RW_keep_25 ?_
  refine W.eq (g2 := F0 m 28 ls [.int (nI w5), .ref (cd 10)]) (by rw [show sc4 5 = nI w5 from ((show sc4 5 = sc 5 by rw [esc4]; rfl)).trans e5w]) ?_
  refine lv_iconst (v := 1) hx hb d_RW_keep_28 (by decide) ?_
  refine lv_iadd hx hb d_RW_keep_29 ?_
  refine lv_topi (fun v5 ev5 => ?_)
  obtain rfl : v5 = nI (w5 + 1) := ev5.trans (by rw [show (1 : Int32) = nI 1 from rfl, nI_add])
  refine lv_bipush (v := 30) hx hb d_RW_keep_30 (by decide) ?_
  refine va_mmin hx hb (hml.trans hl.1.symm) hown (ht _ tb_236) (ht _ tb_237) (ht _ tb_14) (show (Cond.code Lib.Math.min.name Lib.Math.min.code 2 (some .int)).before _ s = true from ht _ tb_238) (Nat.le_of_ble_eq_true rfl) (Nat.le_of_ble_eq_true rfl) (Nat.le_of_ble_eq_true rfl) (Nat.le_of_ble_eq_true rfl) d_RW_keep_32 ?_
  refine lv_topi (fun z6 ez6 => ?_)
  refine va_put (D := (dC, dI)) (ci := 3) (v := .int z6) (ty := .int) (C := R_RW) (T := F_RW) (N := 3) hx hb ht in_RW t_RW t_RW_ok n_RW hown hK hP hD hS 10 rfl rfl 2 (by decide) (ht _ tb_67) (fun _ h9 => h9) rfl (by decide +kernel) rfl rfl (Nat.le_of_ble_eq_true rfl) d_RW_keep_35 (fun H locs hP hD hS => ?_)
  have hP : va_P (dC, dI) cls_ (CW cd kI kQ L isA bk (va_up sc4 5 z6) ia1 qa rf ba) H := hP
  have hD : va_D A (CW cd kI kQ L isA bk (va_up sc4 5 z6) ia1 qa rf ba) := hD
  obtain ⟨sc7, esc7⟩ : ∃ q9_, q9_ = va_up sc4 5 z6 := ⟨_, rfl⟩
  rw [← esc7] at hP hD
  have hs : same [4, 5] sc sc7 := by rw [esc7]; exact hs.up (by decide)
  have h5z : 0 ≤ z6.toInt ∧ z6.toInt ≤ 30 := by rw [ez6]; split; { rw [l_30]; omega }; { rename_i h9; have h8 := ti_nlt h9; rw [l_30, nI_toInt (by omega)] at h8; rw [nI_toInt (by omega)]; omega }
  have hC : CI N L isA bk sc7 qa rf := by rw [esc7]; exact CI_s5 hC h5z
  exact W.vret hx hb hr (fun t ht9 hW => ⟨⟨(), (sc7, ia1, qa, rf, ba), rfl, ⟨hs, rfl, rfl, rfl, hC⟩, by rw [ht9]; exact hP, hD⟩, hS.F ht9⟩) hS.2.2 d_RW_keep_38
set_option maxHeartbeats 8000000 in
set_option maxRecDepth 100000 in
theorem k_RW_secondsAgo (l : Launch) (dC : Nat → ClassId) (dI : Nat → Nat → Nat) (cd : Nat → Nat) (kI kQ : ClassId) (L : List Nat) (isA : Nat → Bool) (bk : Nat → Nat) (sc : Nat → Int32) (ia : Nat → Nat → Int32) (qa : Nat → Nat → Option Nat) (rf ba : Nat → Nat → Int32) (N : Nat) (hC : CI N L isA bk sc qa rf) (x : Int32) : Met l y_RW_secondsAgo w_RW_secondsAgo ({ frames := 0, cells := 0, slots := 0, locals := 0 }) (rdP (dC, dI) (CW cd kI kQ L isA bk sc ia qa rf ba) (CT kI kQ) [.ref (cd 10), .int x]) (rQ vJ (fun r => True)) 0 0 (fun _ => False) := by
  refine Met.ofW (cc := c_RW_secondsAgo) (maxL := 2) (ret := (some .long)) (by decide) rfl ?_
  intro p e s m args below meth c s₁ B hml hv
  obtain ⟨rfl, hP, hK⟩ := hv
  have hx := B.exec
  have hb := B.bytes
  have hr := B.returns
  have ht : ∀ w ∈ tb_, w.before _ s = true := fun w h => atoms_spec (ws := w_RW_secondsAgo) B.pre w (List.mem_cons_of_mem _ h)
  have hown : s.vm.findClass R_RW = some m.cls := findClass_of_methodNamed B.named
  have hlocks := B.notSynchronized
  have hP : va_P (dC, dI) cls_ (CW cd kI kQ L isA bk sc ia qa rf ba) s.heap := hP
  have hl := lv_entry ([.ref (cd 10), .int x]) (n := 2) (Nat.le_of_ble_eq_true rfl)
  rw [lg_entry_eq]
  generalize (lg_sl ([.ref (cd 10), .int x]) ++ List.replicate (2 - (lg_sl ([.ref (cd 10), .int x])).length) Slot.unset).toArray = ls at hl ⊢
  have hl : lv_has ls 2 [(0, .ref (cd 10)), (1, .int x)] := hl
  have hN := hC.1.1
  refine lv_iload_n hx hb d_RW_secondsAgo_0 rfl (lv_at hl 1 rfl) ?_
  refine lv_iconst (v := 1) hx hb d_RW_secondsAgo_1 (by decide) ?_
  refine lv_icmp_lt (tgt := 13) hx hb d_RW_secondsAgo_2 (by decide) (fun h2_1 => ?_) (fun h2_1 => ?_)
  · have h2_1 := h2_1
    have i2_1 := ti_lt h2_1
    (try rw [l_1] at i2_1)
    refine lv_ldc2 (v := (-1)) hx hb hown (ht _ tb_255) d_RW_secondsAgo_13 ?_
    exact W.lret (v := -1) hx hb hr (fun t ht9 hW => ⟨-1, rfl, trivial, ht9⟩) (fun q h => by cases h) d_RW_secondsAgo_16
  · have h2_1 := h2_1
    have i2_1 := ti_nlt h2_1
    (try rw [l_1] at i2_1)
    refine lv_iload_n hx hb d_RW_secondsAgo_5 rfl (lv_at hl 1 rfl) ?_
    refine lv_aload_n hx hb d_RW_secondsAgo_6 rfl (lv_at hl 0 rfl) ?_
    refine va_get (D := (dC, dI)) (ci := 3) (v := .int (sc 5)) (C := R_RW) (T := F_RW) (N := 3) hx hb ht in_RW hown hK hP 10 rfl rfl 2 (by decide) (ht _ tb_67) (fun _ h9 => h9) rfl d_RW_secondsAgo_7 ?_
    refine lv_icmp_le (tgt := 17) hx hb d_RW_secondsAgo_10 (by decide) (fun h10_2 => ?_) (fun h10_2 => ?_)
    · have h10_2 := h10_2
      have i10_2 := ti_le h10_2
      have h4 := hC.2.2.2.1
      have h5 := hC.2.2.2.2.1
      obtain ⟨w4, hw4, e4w⟩ := of_n (n := 29) (x := sc 4) (by omega) (by omega)
      obtain ⟨d, hd, rfl⟩ := of_n (n := 30) (x := x) (by omega) (by omega)
      refine lv_aload_n hx hb d_RW_secondsAgo_17 rfl (lv_at hl 0 rfl) ?_
      refine va_get (D := (dC, dI)) (ci := 3) (v := .ref (cd 11)) (C := R_RW) (T := F_RW) (N := 3) hx hb ht in_RW hown hK hP 10 rfl rfl 0 (by decide) (ht _ tb_65) (fun _ h9 => h9) rfl d_RW_secondsAgo_18 ?_
      refine lv_aload_n hx hb d_RW_secondsAgo_21 rfl (lv_at hl 0 rfl) ?_
      refine va_get (D := (dC, dI)) (ci := 3) (v := .int (sc 4)) (C := R_RW) (T := F_RW) (N := 3) hx hb ht in_RW hown hK hP 10 rfl rfl 1 (by decide) (ht _ tb_66) (fun _ h9 => h9) rfl d_RW_secondsAgo_22 ?_
      refine W.eq (g2 := F0 m 25 ls [.int (nI w4), .ref (cd 11)]) (by rw [show sc 4 = nI w4 from e4w]) ?_
      refine lv_iload_n hx hb d_RW_secondsAgo_25 rfl (lv_at hl 1 rfl) ?_
      refine lv_isub hx hb d_RW_secondsAgo_26 ?_
      refine lv_bipush (v := 30) hx hb d_RW_secondsAgo_27 (by decide) ?_
      refine lv_iadd hx hb d_RW_secondsAgo_29 ?_
      refine lv_topi (fun v1 ev1 => ?_)
      obtain rfl : v1 = nI (w4 + 30 - d) := ev1.trans (by apply it_eq; rw [nI_toInt (show w4 + 30 - d < 2 ^ 31 by omega), ti_add (by rw [ti_sub (by rw [nI_toInt (by omega), nI_toInt (by omega)]; omega) (by rw [nI_toInt (by omega), nI_toInt (by omega)]; omega), nI_toInt (by omega), nI_toInt (by omega), l_30]; omega) (by rw [ti_sub (by rw [nI_toInt (by omega), nI_toInt (by omega)]; omega) (by rw [nI_toInt (by omega), nI_toInt (by omega)]; omega), nI_toInt (by omega), nI_toInt (by omega), l_30]; omega), ti_sub (by rw [nI_toInt (by omega), nI_toInt (by omega)]; omega) (by rw [nI_toInt (by omega), nI_toInt (by omega)]; omega), nI_toInt (by omega), nI_toInt (by omega), l_30]; omega)
      refine lv_bipush (v := 30) hx hb d_RW_secondsAgo_30 (by decide) ?_
      refine lv_irem hx hb d_RW_secondsAgo_32 (by decide) ?_
      refine lv_topi (fun v2 ev2 => ?_)
      obtain rfl : v2 = nI ((w4 + 30 - d) % 30) := ev2.trans (by rw [show (30 : Int32) = nI 30 from rfl, pk_rem (show w4 + 30 - d < 2 ^ 31 by omega) (by decide) (by decide)])
      refine va_iald hx hb hK hP 11 0 rfl rfl (vp_in_nI (show (w4 + 30 - d) % 30 < 30 by omega) (by decide)) d_RW_secondsAgo_33 ?_
      refine W.eq (g2 := F0 m 34 ls [.int (ia 5 ((w4 + 30 - d) % 30))]) (by rw [nI_clamp (show (w4 + 30 - d) % 30 < 2 ^ 31 by omega)]) ?_
      refine lv_i2l hx hb d_RW_secondsAgo_34 rfl ?_
      refine lv_ldc2 (v := 4294967295) hx hb hown (ht _ tb_256) d_RW_secondsAgo_35 ?_
      refine lv_land hx hb d_RW_secondsAgo_38 ?_
      exact W.lret (v := ((ia 5 ((w4 + 30 - d) % 30)).toInt64) &&& 4294967295) hx hb hr (fun t ht9 hW => ⟨((ia 5 ((w4 + 30 - d) % 30)).toInt64) &&& 4294967295, rfl, trivial, ht9⟩) (fun q h => by cases h) d_RW_secondsAgo_39
    · have h10_2 := h10_2
      have i10_2 := ti_nle h10_2
      refine lv_ldc2 (v := (-1)) hx hb hown (ht _ tb_255) d_RW_secondsAgo_13 ?_
      exact W.lret (v := -1) hx hb hr (fun t ht9 hW => ⟨-1, rfl, trivial, ht9⟩) (fun q h => by cases h) d_RW_secondsAgo_16
set_option maxHeartbeats 8000000 in
set_option maxRecDepth 100000 in
theorem k_PL_isCrowded (l : Launch) (dC : Nat → ClassId) (dI : Nat → Nat → Nat) (cd : Nat → Nat) (kI kQ : ClassId) (L : List Nat) (isA : Nat → Bool) (bk : Nat → Nat) (sc : Nat → Int32) (ia : Nat → Nat → Int32) (qa : Nat → Nat → Option Nat) (rf ba : Nat → Nat → Int32) (N : Nat) (hC : CI N L isA bk sc qa rf) (x y : Int32) : Met l y_PL_isCrowded w_PL_isCrowded ({ frames := 1, cells := 0, slots := 0, locals := 20 }) (rdP (dC, dI) (CW cd kI kQ L isA bk sc ia qa rf ba) (CT kI kQ) [.ref (cd 3), .int x, .int y]) (rQ vI (fun r => True)) 0 0 (fun _ => False) := by
  refine Met.ofW (cc := c_PL_isCrowded) (maxL := 6) (ret := (some .boolean)) (by decide) rfl ?_
  intro p e s m args below meth c s₁ B hml hv
  obtain ⟨rfl, hP, hK⟩ := hv
  have hx := B.exec
  have hb := B.bytes
  have hr := B.returns
  have ht : ∀ w ∈ tb_, w.before _ s = true := fun w h => atoms_spec (ws := w_PL_isCrowded) B.pre w (List.mem_cons_of_mem _ h)
  have hown : s.vm.findClass R_PL = some m.cls := findClass_of_methodNamed B.named
  have hlocks := B.notSynchronized
  have hP : va_P (dC, dI) cls_ (CW cd kI kQ L isA bk sc ia qa rf ba) s.heap := hP
  have hl := lv_entry ([.ref (cd 3), .int x, .int y]) (n := 6) (Nat.le_of_ble_eq_true rfl)
  rw [lg_entry_eq]
  generalize (lg_sl ([.ref (cd 3), .int x, .int y]) ++ List.replicate (6 - (lg_sl ([.ref (cd 3), .int x, .int y])).length) Slot.unset).toArray = ls at hl ⊢
  have hl : lv_has ls 6 [(0, .ref (cd 3)), (1, .int x), (2, .int y)] := hl
  have hN := hC.1.1
  obtain ⟨M, hM, e3, hO⟩ := hC.2.2.1
  refine lv_iconst (v := 1) hx hb d_PL_isCrowded_0 (by decide) ?_
  refine lv_iload_n hx hb d_PL_isCrowded_1 rfl (lv_at hl 1 rfl) ?_
  refine lv_ishl hx hb d_PL_isCrowded_2 ?_
  refine lv_topi (fun z1 _ => ?_)
  refine lv_istore_n hx hb d_PL_isCrowded_3 rfl hl (by decide) rfl (fun ls hl => ?_)
  have hl : lv_has ls 6 [(3, .int z1), (0, .ref (cd 3)), (1, .int x), (2, .int y)] := hl
  refine lv_iconst (v := 0) hx hb d_PL_isCrowded_4 (by decide) ?_
  refine lv_istore hx hb d_PL_isCrowded_5 hl (by decide) rfl (fun ls hl => ?_)
  have hl : lv_has ls 6 [(4, .int 0), (3, .int z1), (0, .ref (cd 3)), (1, .int x), (2, .int y)] := hl
  have J_7 : ∀ (n_7 : Nat) (k : Nat) (q : Int32)  (ls : Array Slot), M - k < n_7 → k ≤ M → lv_has ls 6 [(4, .int (nI k)), (3, .int q), (2, .int y), (1, .int x), (0, .ref (cd 3))] → W p l e (headSpec w_PL_isCrowded ({ frames := 1, cells := 0, slots := 0, locals := 20 })).room s m (([.ref (cd 3), .int x, .int y] : List Value).toArray) below meth c s.heap [] 0 0 (MQ below (rQ vI (fun r => True)) (([.ref (cd 3), .int x, .int y] : List Value).toArray) s 0 0 (fun _ => False)) (F0 m 7 ls []) := by
    intro n_7
    induction n_7 with
    | zero => intro k q ls hmu hc7_0 hl; exact absurd hmu (by omega)
    | succ n_7 ih_7 =>
      intro k q ls hmu hc7_0 hl
      refine lv_iload hx hb d_PL_isCrowded_7 (lv_at hl 0 rfl) ?_
      refine lv_aload_n hx hb d_PL_isCrowded_9 rfl (lv_at hl 4 rfl) ?_
      refine va_get (D := (dC, dI)) (ci := 1) (v := .int (sc 3)) (C := R_PL) (T := F_PL) (N := 2) hx hb ht in_PL hown hK hP 3 rfl rfl 1 (by decide) (ht _ tb_33) (fun _ h9 => h9) rfl d_PL_isCrowded_10 ?_
      refine W.eq (g2 := F0 m 13 ls [.int (nI M), .int (nI k)]) (by rw [show sc 3 = nI M from e3]) ?_
      refine lv_icmp_ge (tgt := 59) hx hb d_PL_isCrowded_13 (by decide) (fun h13_1 => ?_) (fun h13_1 => ?_)
      · have h13_1 := h13_1
        have i13_1 := ti_le h13_1
        (try rw [nI_toInt (show k < 2 ^ 31 by omega)] at i13_1)
        (try rw [nI_toInt (show M < 2 ^ 31 by omega)] at i13_1)
        refine lv_iload_n hx hb d_PL_isCrowded_59 rfl (lv_at hl 1 rfl) ?_
        refine r_call (va_runS (As := [.int q]) (rest := []) ⟨hx, hb, hml, hown, ht⟩ (k_JI_bitCount l dC dI q) (va_cwS 1 ht (gS tb_140 tb_141 tb_13 tb_142) rfl rfl rfl (by decide +kernel) ⟨Nat.le_of_ble_eq_true rfl, Nat.le_of_ble_eq_true rfl⟩) ⟨rdP_blind, rd_pre (W0 := []) (tys := []) (fun k q h => by cases h) ⟨hK.1, fun k q h => by cases h⟩⟩ rfl rfl hl.1 rfl (lv_room (Nat.le_of_ble_eq_true rfl)) d_PL_isCrowded_60 ⟨Nat.le_of_ble_eq_true rfl, Nat.le_of_ble_eq_true rfl⟩) (fun r2 hu => ?_)
        clear hu
        refine W.eq (g2 := F0 m 63 ls [.int r2]) rfl ?_
        refine lv_iconst (v := 2) hx hb d_PL_isCrowded_63 (by decide) ?_
        refine lv_icmp_le (tgt := 71) hx hb d_PL_isCrowded_64 (by decide) (fun h64_2 => ?_) (fun h64_2 => ?_)
        · have h64_2 := h64_2
          have i64_2 := ti_le h64_2
          (try rw [l_2] at i64_2)
          refine lv_iconst (v := 0) hx hb d_PL_isCrowded_71 (by decide) ?_
          exact W.zret (v := 0) hx hb hr rfl (fun t ht9 hW => ⟨0, rfl, trivial, ht9⟩) (fun q h => by cases h) d_PL_isCrowded_72
        · have h64_2 := h64_2
          have i64_2 := ti_nle h64_2
          (try rw [l_2] at i64_2)
          refine lv_iconst (v := 1) hx hb d_PL_isCrowded_67 (by decide) ?_
          refine lv_goto (tgt := 72) hx hb d_PL_isCrowded_68 (by decide) ?_
          exact W.zret (v := 1) hx hb hr rfl (fun t ht9 hW => ⟨1, rfl, trivial, ht9⟩) (fun q h => by cases h) d_PL_isCrowded_72
      · have h13_1 := h13_1
        have i13_1 := ti_nle h13_1
        (try rw [nI_toInt (show k < 2 ^ 31 by omega)] at i13_1)
        (try rw [nI_toInt (show M < 2 ^ 31 by omega)] at i13_1)
        refine lv_aload_n hx hb d_PL_isCrowded_16 rfl (lv_at hl 4 rfl) ?_
        refine va_get (D := (dC, dI)) (ci := 1) (v := .ref (cd 4)) (C := R_PL) (T := F_PL) (N := 2) hx hb ht in_PL hown hK hP 3 rfl rfl 0 (by decide) (ht _ tb_32) (fun _ h9 => h9) rfl d_PL_isCrowded_17 ?_
        refine lv_iload hx hb d_PL_isCrowded_20 (lv_at hl 0 rfl) ?_
        refine va_aldq (C := "TwinTuners$Request") hx hb hK hP 4 1 rfl rfl (vp_in_nI (show k < 12 by omega) (by decide)) d_PL_isCrowded_22 ?_
        obtain ⟨a3, ea3, haa3, hna3⟩ := hO k (by omega)
        refine W.eq (g2 := F0 m 23 ls [.ref a3]) (by rw [nI_clamp (show k < 2 ^ 31 by omega), ea3]; rfl) ?_
        refine lv_astore hx hb d_PL_isCrowded_23 hl (by decide) rfl (fun ls hl => ?_)
        have hl : lv_has ls 6 [(5, .ref a3), (4, .int (nI k)), (3, .int q), (2, .int y), (1, .int x), (0, .ref (cd 3))] := hl
        refine lv_aload hx hb d_PL_isCrowded_25 (lv_at hl 0 rfl) ?_
        obtain ⟨kq, hkq⟩ := pq_at (X := CX cd kI kQ sc ia qa) (kI := kI) (bk := bk) (rf := rf) (ba := ba) haa3 hna3
        refine va_get (D := (dC, dI)) (ci := 4) (v := .int (rf a3 11)) (C := R_RQ) (T := F_RQ) (N := 17) hx hb ht in_RQ hown hK hP kq hkq rfl 11 (by decide) (ht _ tb_401) (fun _ h9 => h9) rfl d_PL_isCrowded_27 ?_
        refine lv_iload_n hx hb d_PL_isCrowded_30 rfl (lv_at hl 3 rfl) ?_
        refine lv_icmp_gt (tgt := 53) hx hb d_PL_isCrowded_31 (by decide) (fun h31_3 => ?_) (fun h31_3 => ?_)
        · have h31_3 := h31_3
          have i31_3 := ti_lt h31_3
          refine lv_iinc (k := 1) (v := nI (k + 1)) hx hb d_PL_isCrowded_53 hl rfl ((nI_succ k).symm) (by decide) rfl (fun ls hl => ?_)
          have hl : lv_has ls 6 [(4, .int (nI (k + 1))), (5, .ref a3), (3, .int q), (2, .int y), (1, .int x), (0, .ref (cd 3))] := hl
          refine lv_goto (tgt := 7) hx hb d_PL_isCrowded_56 (by decide) ?_
          have hl := lv_sub hl [0, 2, 3, 4, 5] (l' := [(4, .int (nI (k + 1))), (3, .int q), (2, .int y), (1, .int x), (0, .ref (cd 3))]) rfl
          exact ih_7 (k + 1) q ls (by omega) (by omega) hl
        · have h31_3 := h31_3
          have i31_3 := ti_nlt h31_3
          refine lv_iload_n hx hb d_PL_isCrowded_34 rfl (lv_at hl 3 rfl) ?_
          refine lv_aload hx hb d_PL_isCrowded_35 (lv_at hl 0 rfl) ?_
          obtain ⟨kq, hkq⟩ := pq_at (X := CX cd kI kQ sc ia qa) (kI := kI) (bk := bk) (rf := rf) (ba := ba) haa3 hna3
          refine va_get (D := (dC, dI)) (ci := 4) (v := .int (rf a3 12)) (C := R_RQ) (T := F_RQ) (N := 17) hx hb ht in_RQ hown hK hP kq hkq rfl 12 (by decide) (ht _ tb_404) (fun _ h9 => h9) rfl d_PL_isCrowded_37 ?_
          refine lv_icmp_ge (tgt := 53) hx hb d_PL_isCrowded_40 (by decide) (fun h40_4 => ?_) (fun h40_4 => ?_)
          · have h40_4 := h40_4
            have i40_4 := ti_le h40_4
            refine lv_iinc (k := 1) (v := nI (k + 1)) hx hb d_PL_isCrowded_53 hl rfl ((nI_succ k).symm) (by decide) rfl (fun ls hl => ?_)
            have hl : lv_has ls 6 [(4, .int (nI (k + 1))), (5, .ref a3), (3, .int q), (2, .int y), (1, .int x), (0, .ref (cd 3))] := hl
            refine lv_goto (tgt := 7) hx hb d_PL_isCrowded_56 (by decide) ?_
            have hl := lv_sub hl [0, 2, 3, 4, 5] (l' := [(4, .int (nI (k + 1))), (3, .int q), (2, .int y), (1, .int x), (0, .ref (cd 3))]) rfl
            exact ih_7 (k + 1) q ls (by omega) (by omega) hl
          · have h40_4 := h40_4
            have i40_4 := ti_nle h40_4
            refine lv_iload_n hx hb d_PL_isCrowded_43 rfl (lv_at hl 2 rfl) ?_
            refine lv_iconst (v := 1) hx hb d_PL_isCrowded_44 (by decide) ?_
            refine lv_aload hx hb d_PL_isCrowded_45 (lv_at hl 0 rfl) ?_
            obtain ⟨kq, hkq⟩ := pq_at (X := CX cd kI kQ sc ia qa) (kI := kI) (bk := bk) (rf := rf) (ba := ba) haa3 hna3
            refine va_get (D := (dC, dI)) (ci := 4) (v := .int (rf a3 1)) (C := R_RQ) (T := F_RQ) (N := 17) hx hb ht in_RQ hown hK hP kq hkq rfl 1 (by decide) (ht _ tb_375) (fun _ h9 => h9) rfl d_PL_isCrowded_47 ?_
            refine lv_ishl hx hb d_PL_isCrowded_50 ?_
            refine lv_topi (fun z4 _ => ?_)
            refine lv_ior hx hb d_PL_isCrowded_51 ?_
            refine lv_istore_n hx hb d_PL_isCrowded_52 rfl hl (by decide) rfl (fun ls hl => ?_)
            have hl : lv_has ls 6 [(3, .int (q ||| z4)), (5, .ref a3), (4, .int (nI k)), (2, .int y), (1, .int x), (0, .ref (cd 3))] := hl
            refine lv_iinc (k := 2) (v := nI (k + 1)) hx hb d_PL_isCrowded_53 hl rfl ((nI_succ k).symm) (by decide) rfl (fun ls hl => ?_)
            have hl : lv_has ls 6 [(4, .int (nI (k + 1))), (3, .int (q ||| z4)), (5, .ref a3), (2, .int y), (1, .int x), (0, .ref (cd 3))] := hl
            refine lv_goto (tgt := 7) hx hb d_PL_isCrowded_56 (by decide) ?_
            have hl := lv_sub hl [0, 1, 3, 4, 5] (l' := [(4, .int (nI (k + 1))), (3, .int (q ||| z4)), (2, .int y), (1, .int x), (0, .ref (cd 3))]) rfl
            exact ih_7 (k + 1) (q ||| z4) ls (by omega) (by omega) hl
  have hl := lv_sub hl [0, 1, 4, 3, 2] (l' := [(4, .int 0), (3, .int z1), (2, .int y), (1, .int x), (0, .ref (cd 3))]) rfl
  have hl : lv_has ls 6 [(4, .int (nI 0)), (3, .int z1), (2, .int y), (1, .int x), (0, .ref (cd 3))] := hl
  exact J_7 ((M - 0) + 1) 0 z1 ls (by omega) (by omega) hl
set_option maxHeartbeats 8000000 in
set_option maxRecDepth 100000 in
theorem k_PL_fits (l : Launch) (dC : Nat → ClassId) (dI : Nat → Nat → Nat) (cd : Nat → Nat) (kI kQ : ClassId) (L : List Nat) (isA : Nat → Bool) (bk : Nat → Nat) (sc : Nat → Int32) (ia : Nat → Nat → Int32) (qa : Nat → Nat → Option Nat) (rf ba : Nat → Nat → Int32) (N : Nat) (hC : CI N L isA bk sc qa rf) (x y z : Int32) : Met l y_PL_fits w_PL_fits ({ frames := 2, cells := 0, slots := 0, locals := 45 }) (rdP (dC, dI) (CW cd kI kQ L isA bk sc ia qa rf ba) (CT kI kQ) [.ref (cd 3), .int x, .int y, .int z]) (rQ vI (fun r => True)) 0 0 (fun _ => False) := by
  refine Met.ofW (cc := c_PL_fits) (maxL := 6) (ret := (some .boolean)) (by decide) rfl ?_
  intro p e s m args below meth c s₁ B hml hv
  obtain ⟨rfl, hP, hK⟩ := hv
  have hx := B.exec
  have hb := B.bytes
  have hr := B.returns
  have ht : ∀ w ∈ tb_, w.before _ s = true := fun w h => atoms_spec (ws := w_PL_fits) B.pre w (List.mem_cons_of_mem _ h)
  have hown : s.vm.findClass R_PL = some m.cls := findClass_of_methodNamed B.named
  have hlocks := B.notSynchronized
  have hP : va_P (dC, dI) cls_ (CW cd kI kQ L isA bk sc ia qa rf ba) s.heap := hP
  have hl := lv_entry ([.ref (cd 3), .int x, .int y, .int z]) (n := 6) (Nat.le_of_ble_eq_true rfl)
  rw [lg_entry_eq]
  generalize (lg_sl ([.ref (cd 3), .int x, .int y, .int z]) ++ List.replicate (6 - (lg_sl ([.ref (cd 3), .int x, .int y, .int z])).length) Slot.unset).toArray = ls at hl ⊢
  have hl : lv_has ls 6 [(0, .ref (cd 3)), (1, .int x), (2, .int y), (3, .int z)] := hl
  have hN := hC.1.1
  obtain ⟨M, hM, e3, hO⟩ := hC.2.2.1
  refine lv_iload_n hx hb d_PL_fits_0 rfl (lv_at hl 2 rfl) ?_
  refine lv_iload_n hx hb d_PL_fits_1 rfl (lv_at hl 3 rfl) ?_
  refine lv_icmp_ge (tgt := 16) hx hb d_PL_fits_2 (by decide) (fun h2_1 => ?_) (fun h2_1 => ?_)
  · have h2_1 := h2_1
    have i2_1 := ti_le h2_1
    refine lv_iconst (v := 0) hx hb d_PL_fits_16 (by decide) ?_
    refine lv_istore hx hb d_PL_fits_17 hl (by decide) rfl (fun ls hl => ?_)
    have hl : lv_has ls 6 [(4, .int 0), (0, .ref (cd 3)), (1, .int x), (2, .int y), (3, .int z)] := hl
    have J_19 : ∀ (n_19 : Nat) (k : Nat)  (ls : Array Slot), M - k < n_19 → k ≤ M → lv_has ls 6 [(4, .int (nI k)), (3, .int z), (2, .int y), (1, .int x), (0, .ref (cd 3))] → W p l e (headSpec w_PL_fits ({ frames := 2, cells := 0, slots := 0, locals := 45 })).room s m (([.ref (cd 3), .int x, .int y, .int z] : List Value).toArray) below meth c s.heap [] 0 0 (MQ below (rQ vI (fun r => True)) (([.ref (cd 3), .int x, .int y, .int z] : List Value).toArray) s 0 0 (fun _ => False)) (F0 m 19 ls []) := by
      intro n_19
      induction n_19 with
      | zero => intro k ls hmu hc19_0 hl; exact absurd hmu (by omega)
      | succ n_19 ih_19 =>
        intro k ls hmu hc19_0 hl
        refine lv_iload hx hb d_PL_fits_19 (lv_at hl 0 rfl) ?_
        refine lv_aload_n hx hb d_PL_fits_21 rfl (lv_at hl 4 rfl) ?_
        refine va_get (D := (dC, dI)) (ci := 1) (v := .int (sc 3)) (C := R_PL) (T := F_PL) (N := 2) hx hb ht in_PL hown hK hP 3 rfl rfl 1 (by decide) (ht _ tb_33) (fun _ h9 => h9) rfl d_PL_fits_22 ?_
        refine W.eq (g2 := F0 m 25 ls [.int (nI M), .int (nI k)]) (by rw [show sc 3 = nI M from e3]) ?_
        refine lv_icmp_ge (tgt := 70) hx hb d_PL_fits_25 (by decide) (fun h25_2 => ?_) (fun h25_2 => ?_)
        · have h25_2 := h25_2
          have i25_2 := ti_le h25_2
          (try rw [nI_toInt (show k < 2 ^ 31 by omega)] at i25_2)
          (try rw [nI_toInt (show M < 2 ^ 31 by omega)] at i25_2)
          refine lv_iconst (v := 1) hx hb d_PL_fits_70 (by decide) ?_
          exact W.zret (v := 1) hx hb hr rfl (fun t ht9 hW => ⟨1, rfl, trivial, ht9⟩) (fun q h => by cases h) d_PL_fits_71
        · have h25_2 := h25_2
          have i25_2 := ti_nle h25_2
          (try rw [nI_toInt (show k < 2 ^ 31 by omega)] at i25_2)
          (try rw [nI_toInt (show M < 2 ^ 31 by omega)] at i25_2)
          refine lv_aload_n hx hb d_PL_fits_28 rfl (lv_at hl 4 rfl) ?_
          refine va_get (D := (dC, dI)) (ci := 1) (v := .ref (cd 4)) (C := R_PL) (T := F_PL) (N := 2) hx hb ht in_PL hown hK hP 3 rfl rfl 0 (by decide) (ht _ tb_32) (fun _ h9 => h9) rfl d_PL_fits_29 ?_
          refine lv_iload hx hb d_PL_fits_32 (lv_at hl 0 rfl) ?_
          refine va_aldq (C := "TwinTuners$Request") hx hb hK hP 4 1 rfl rfl (vp_in_nI (show k < 12 by omega) (by decide)) d_PL_fits_34 ?_
          obtain ⟨a1, ea1, haa1, hna1⟩ := hO k (by omega)
          refine W.eq (g2 := F0 m 35 ls [.ref a1]) (by rw [nI_clamp (show k < 2 ^ 31 by omega), ea1]; rfl) ?_
          obtain ⟨kq, hkq⟩ := pq_at (X := CX cd kI kQ sc ia qa) (kI := kI) (bk := bk) (rf := rf) (ba := ba) haa1 hna1
          refine va_get (D := (dC, dI)) (ci := 4) (v := .int (rf a1 11)) (C := R_RQ) (T := F_RQ) (N := 17) hx hb ht in_RQ hown hK hP kq hkq rfl 11 (by decide) (ht _ tb_401) (fun _ h9 => h9) rfl d_PL_fits_35 ?_
          refine lv_istore hx hb d_PL_fits_38 hl (by decide) rfl (fun ls hl => ?_)
          have hl : lv_has ls 6 [(5, .int (rf a1 11)), (4, .int (nI k)), (3, .int z), (2, .int y), (1, .int x), (0, .ref (cd 3))] := hl
          refine lv_iload hx hb d_PL_fits_40 (lv_at hl 0 rfl) ?_
          refine lv_iload_n hx hb d_PL_fits_42 rfl (lv_at hl 3 rfl) ?_
          refine lv_icmp_le (tgt := 64) hx hb d_PL_fits_43 (by decide) (fun h43_3 => ?_) (fun h43_3 => ?_)
          · have h43_3 := h43_3
            have i43_3 := ti_le h43_3
            refine lv_iinc (k := 1) (v := nI (k + 1)) hx hb d_PL_fits_64 hl rfl ((nI_succ k).symm) (by decide) rfl (fun ls hl => ?_)
            have hl : lv_has ls 6 [(4, .int (nI (k + 1))), (5, .int (rf a1 11)), (3, .int z), (2, .int y), (1, .int x), (0, .ref (cd 3))] := hl
            refine lv_goto (tgt := 19) hx hb d_PL_fits_67 (by decide) ?_
            have hl := lv_sub hl [0, 2, 3, 4, 5] (l' := [(4, .int (nI (k + 1))), (3, .int z), (2, .int y), (1, .int x), (0, .ref (cd 3))]) rfl
            exact ih_19 (k + 1) ls (by omega) (by omega) hl
          · have h43_3 := h43_3
            have i43_3 := ti_nle h43_3
            refine lv_iload hx hb d_PL_fits_46 (lv_at hl 0 rfl) ?_
            refine lv_iload_n hx hb d_PL_fits_48 rfl (lv_at hl 2 rfl) ?_
            refine lv_icmp_ge (tgt := 64) hx hb d_PL_fits_49 (by decide) (fun h49_4 => ?_) (fun h49_4 => ?_)
            · have h49_4 := h49_4
              have i49_4 := ti_le h49_4
              refine lv_iinc (k := 1) (v := nI (k + 1)) hx hb d_PL_fits_64 hl rfl ((nI_succ k).symm) (by decide) rfl (fun ls hl => ?_)
              have hl : lv_has ls 6 [(4, .int (nI (k + 1))), (5, .int (rf a1 11)), (3, .int z), (2, .int y), (1, .int x), (0, .ref (cd 3))] := hl
              refine lv_goto (tgt := 19) hx hb d_PL_fits_67 (by decide) ?_
              have hl := lv_sub hl [0, 2, 3, 4, 5] (l' := [(4, .int (nI (k + 1))), (3, .int z), (2, .int y), (1, .int x), (0, .ref (cd 3))]) rfl
              exact ih_19 (k + 1) ls (by omega) (by omega) hl
            · have h49_4 := h49_4
              have i49_4 := ti_nle h49_4
              refine lv_aload_n hx hb d_PL_fits_52 rfl (lv_at hl 5 rfl) ?_
              refine lv_iload_n hx hb d_PL_fits_53 rfl (lv_at hl 4 rfl) ?_
              refine lv_iload hx hb d_PL_fits_54 (lv_at hl 0 rfl) ?_
              refine r_call (va_runV (C := R_PL) (As := [.int x, .int (rf a1 11)]) (rest := []) ⟨hx, hb, hml, hown, ht⟩ (k_PL_isCrowded l dC dI cd kI kQ L isA bk sc ia qa rf ba N hC x (rf a1 11)) (cwV 2 ht (gV tb_136 tb_138 ts_5 tb_2 tb_139) rfl rfl rfl (by decide +kernel) ⟨Nat.le_of_ble_eq_true rfl, Nat.le_of_ble_eq_true rfl⟩) ⟨rdP_blind, va_recv (q := (R_PL, F_PL, 2)) hK hP rfl (show (CW cd kI kQ L isA bk sc ia qa rf ba : va_W)[3]? = some _ from rfl), rd_pre hP hK⟩ rfl rfl hl.1 rfl (lv_room (Nat.le_of_ble_eq_true rfl)) d_PL_fits_56 ⟨Nat.le_of_ble_eq_true rfl, Nat.le_of_ble_eq_true rfl⟩) (fun r2 hu => ?_)
              clear hu
              refine W.eq (g2 := F0 m 59 ls [.int r2]) rfl ?_
              refine lv_if_eq (tgt := 64) hx hb d_PL_fits_59 (by decide) (fun h59_5 => ?_) (fun h59_5 => ?_)
              · have h59_5 := h59_5
                have i59_5 := ti_eq h59_5
                (try rw [l_0] at i59_5)
                refine lv_iinc (k := 1) (v := nI (k + 1)) hx hb d_PL_fits_64 hl rfl ((nI_succ k).symm) (by decide) rfl (fun ls hl => ?_)
                have hl : lv_has ls 6 [(4, .int (nI (k + 1))), (5, .int (rf a1 11)), (3, .int z), (2, .int y), (1, .int x), (0, .ref (cd 3))] := hl
                refine lv_goto (tgt := 19) hx hb d_PL_fits_67 (by decide) ?_
                have hl := lv_sub hl [0, 2, 3, 4, 5] (l' := [(4, .int (nI (k + 1))), (3, .int z), (2, .int y), (1, .int x), (0, .ref (cd 3))]) rfl
                exact ih_19 (k + 1) ls (by omega) (by omega) hl
              · have h59_5 := h59_5
                have i59_5 := ti_ne h59_5
                (try rw [l_0] at i59_5)
                refine lv_iconst (v := 0) hx hb d_PL_fits_62 (by decide) ?_
                exact W.zret (v := 0) hx hb hr rfl (fun t ht9 hW => ⟨0, rfl, trivial, ht9⟩) (fun q h => by cases h) d_PL_fits_63
    have hl := lv_sub hl [0, 4, 3, 2, 1] (l' := [(4, .int 0), (3, .int z), (2, .int y), (1, .int x), (0, .ref (cd 3))]) rfl
    have hl : lv_has ls 6 [(4, .int (nI 0)), (3, .int z), (2, .int y), (1, .int x), (0, .ref (cd 3))] := hl
    exact J_19 ((M - 0) + 1) 0 ls (by omega) (by omega) hl
  · have h2_1 := h2_1
    have i2_1 := ti_nle h2_1
    refine lv_aload_n hx hb d_PL_fits_5 rfl (lv_at hl 0 rfl) ?_
    refine lv_iload_n hx hb d_PL_fits_6 rfl (lv_at hl 1 rfl) ?_
    refine lv_iload_n hx hb d_PL_fits_7 rfl (lv_at hl 2 rfl) ?_
    refine r_call (va_runV (C := R_PL) (As := [.int x, .int y]) (rest := []) ⟨hx, hb, hml, hown, ht⟩ (k_PL_isCrowded l dC dI cd kI kQ L isA bk sc ia qa rf ba N hC x y) (cwV 2 ht (gV tb_136 tb_138 ts_5 tb_2 tb_139) rfl rfl rfl (by decide +kernel) ⟨Nat.le_of_ble_eq_true rfl, Nat.le_of_ble_eq_true rfl⟩) ⟨rdP_blind, va_recv (q := (R_PL, F_PL, 2)) hK hP rfl (show (CW cd kI kQ L isA bk sc ia qa rf ba : va_W)[3]? = some _ from rfl), rd_pre hP hK⟩ rfl rfl hl.1 rfl (lv_room (Nat.le_of_ble_eq_true rfl)) d_PL_fits_8 ⟨Nat.le_of_ble_eq_true rfl, Nat.le_of_ble_eq_true rfl⟩) (fun r3 hu => ?_)
    clear hu
    refine W.eq (g2 := F0 m 11 ls [.int r3]) rfl ?_
    refine lv_if_eq (tgt := 16) hx hb d_PL_fits_11 (by decide) (fun h11_6 => ?_) (fun h11_6 => ?_)
    · have h11_6 := h11_6
      have i11_6 := ti_eq h11_6
      (try rw [l_0] at i11_6)
      refine lv_iconst (v := 0) hx hb d_PL_fits_16 (by decide) ?_
      refine lv_istore hx hb d_PL_fits_17 hl (by decide) rfl (fun ls hl => ?_)
      have hl : lv_has ls 6 [(4, .int 0), (0, .ref (cd 3)), (1, .int x), (2, .int y), (3, .int z)] := hl
      have J_19 : ∀ (n_19 : Nat) (k : Nat)  (ls : Array Slot), M - k < n_19 → k ≤ M → lv_has ls 6 [(4, .int (nI k)), (3, .int z), (2, .int y), (1, .int x), (0, .ref (cd 3))] → W p l e (headSpec w_PL_fits ({ frames := 2, cells := 0, slots := 0, locals := 45 })).room s m (([.ref (cd 3), .int x, .int y, .int z] : List Value).toArray) below meth c s.heap [] 0 0 (MQ below (rQ vI (fun r => True)) (([.ref (cd 3), .int x, .int y, .int z] : List Value).toArray) s 0 0 (fun _ => False)) (F0 m 19 ls []) := by
        intro n_19
        induction n_19 with
        | zero => intro k ls hmu hc19_0 hl; exact absurd hmu (by omega)
        | succ n_19 ih_19 =>
          intro k ls hmu hc19_0 hl
          refine lv_iload hx hb d_PL_fits_19 (lv_at hl 0 rfl) ?_
          refine lv_aload_n hx hb d_PL_fits_21 rfl (lv_at hl 4 rfl) ?_
          refine va_get (D := (dC, dI)) (ci := 1) (v := .int (sc 3)) (C := R_PL) (T := F_PL) (N := 2) hx hb ht in_PL hown hK hP 3 rfl rfl 1 (by decide) (ht _ tb_33) (fun _ h9 => h9) rfl d_PL_fits_22 ?_
          refine W.eq (g2 := F0 m 25 ls [.int (nI M), .int (nI k)]) (by rw [show sc 3 = nI M from e3]) ?_
          refine lv_icmp_ge (tgt := 70) hx hb d_PL_fits_25 (by decide) (fun h25_7 => ?_) (fun h25_7 => ?_)
          · have h25_7 := h25_7
            have i25_7 := ti_le h25_7
            (try rw [nI_toInt (show k < 2 ^ 31 by omega)] at i25_7)
            (try rw [nI_toInt (show M < 2 ^ 31 by omega)] at i25_7)
            refine lv_iconst (v := 1) hx hb d_PL_fits_70 (by decide) ?_
            exact W.zret (v := 1) hx hb hr rfl (fun t ht9 hW => ⟨1, rfl, trivial, ht9⟩) (fun q h => by cases h) d_PL_fits_71
          · have h25_7 := h25_7
            have i25_7 := ti_nle h25_7
            (try rw [nI_toInt (show k < 2 ^ 31 by omega)] at i25_7)
            (try rw [nI_toInt (show M < 2 ^ 31 by omega)] at i25_7)
            refine lv_aload_n hx hb d_PL_fits_28 rfl (lv_at hl 4 rfl) ?_
            refine va_get (D := (dC, dI)) (ci := 1) (v := .ref (cd 4)) (C := R_PL) (T := F_PL) (N := 2) hx hb ht in_PL hown hK hP 3 rfl rfl 0 (by decide) (ht _ tb_32) (fun _ h9 => h9) rfl d_PL_fits_29 ?_
            refine lv_iload hx hb d_PL_fits_32 (lv_at hl 0 rfl) ?_
            refine va_aldq (C := "TwinTuners$Request") hx hb hK hP 4 1 rfl rfl (vp_in_nI (show k < 12 by omega) (by decide)) d_PL_fits_34 ?_
            obtain ⟨a4, ea4, haa4, hna4⟩ := hO k (by omega)
            refine W.eq (g2 := F0 m 35 ls [.ref a4]) (by rw [nI_clamp (show k < 2 ^ 31 by omega), ea4]; rfl) ?_
            obtain ⟨kq, hkq⟩ := pq_at (X := CX cd kI kQ sc ia qa) (kI := kI) (bk := bk) (rf := rf) (ba := ba) haa4 hna4
            refine va_get (D := (dC, dI)) (ci := 4) (v := .int (rf a4 11)) (C := R_RQ) (T := F_RQ) (N := 17) hx hb ht in_RQ hown hK hP kq hkq rfl 11 (by decide) (ht _ tb_401) (fun _ h9 => h9) rfl d_PL_fits_35 ?_
            refine lv_istore hx hb d_PL_fits_38 hl (by decide) rfl (fun ls hl => ?_)
            have hl : lv_has ls 6 [(5, .int (rf a4 11)), (4, .int (nI k)), (3, .int z), (2, .int y), (1, .int x), (0, .ref (cd 3))] := hl
            refine lv_iload hx hb d_PL_fits_40 (lv_at hl 0 rfl) ?_
            refine lv_iload_n hx hb d_PL_fits_42 rfl (lv_at hl 3 rfl) ?_
            refine lv_icmp_le (tgt := 64) hx hb d_PL_fits_43 (by decide) (fun h43_8 => ?_) (fun h43_8 => ?_)
            · have h43_8 := h43_8
              have i43_8 := ti_le h43_8
              refine lv_iinc (k := 1) (v := nI (k + 1)) hx hb d_PL_fits_64 hl rfl ((nI_succ k).symm) (by decide) rfl (fun ls hl => ?_)
              have hl : lv_has ls 6 [(4, .int (nI (k + 1))), (5, .int (rf a4 11)), (3, .int z), (2, .int y), (1, .int x), (0, .ref (cd 3))] := hl
              refine lv_goto (tgt := 19) hx hb d_PL_fits_67 (by decide) ?_
              have hl := lv_sub hl [0, 2, 3, 4, 5] (l' := [(4, .int (nI (k + 1))), (3, .int z), (2, .int y), (1, .int x), (0, .ref (cd 3))]) rfl
              exact ih_19 (k + 1) ls (by omega) (by omega) hl
            · have h43_8 := h43_8
              have i43_8 := ti_nle h43_8
              refine lv_iload hx hb d_PL_fits_46 (lv_at hl 0 rfl) ?_
              refine lv_iload_n hx hb d_PL_fits_48 rfl (lv_at hl 2 rfl) ?_
              refine lv_icmp_ge (tgt := 64) hx hb d_PL_fits_49 (by decide) (fun h49_9 => ?_) (fun h49_9 => ?_)
              · have h49_9 := h49_9
                have i49_9 := ti_le h49_9
                refine lv_iinc (k := 1) (v := nI (k + 1)) hx hb d_PL_fits_64 hl rfl ((nI_succ k).symm) (by decide) rfl (fun ls hl => ?_)
                have hl : lv_has ls 6 [(4, .int (nI (k + 1))), (5, .int (rf a4 11)), (3, .int z), (2, .int y), (1, .int x), (0, .ref (cd 3))] := hl
                refine lv_goto (tgt := 19) hx hb d_PL_fits_67 (by decide) ?_
                have hl := lv_sub hl [0, 2, 3, 4, 5] (l' := [(4, .int (nI (k + 1))), (3, .int z), (2, .int y), (1, .int x), (0, .ref (cd 3))]) rfl
                exact ih_19 (k + 1) ls (by omega) (by omega) hl
              · have h49_9 := h49_9
                have i49_9 := ti_nle h49_9
                refine lv_aload_n hx hb d_PL_fits_52 rfl (lv_at hl 5 rfl) ?_
                refine lv_iload_n hx hb d_PL_fits_53 rfl (lv_at hl 4 rfl) ?_
                refine lv_iload hx hb d_PL_fits_54 (lv_at hl 0 rfl) ?_
                refine r_call (va_runV (C := R_PL) (As := [.int x, .int (rf a4 11)]) (rest := []) ⟨hx, hb, hml, hown, ht⟩ (k_PL_isCrowded l dC dI cd kI kQ L isA bk sc ia qa rf ba N hC x (rf a4 11)) (cwV 2 ht (gV tb_136 tb_138 ts_5 tb_2 tb_139) rfl rfl rfl (by decide +kernel) ⟨Nat.le_of_ble_eq_true rfl, Nat.le_of_ble_eq_true rfl⟩) ⟨rdP_blind, va_recv (q := (R_PL, F_PL, 2)) hK hP rfl (show (CW cd kI kQ L isA bk sc ia qa rf ba : va_W)[3]? = some _ from rfl), rd_pre hP hK⟩ rfl rfl hl.1 rfl (lv_room (Nat.le_of_ble_eq_true rfl)) d_PL_fits_56 ⟨Nat.le_of_ble_eq_true rfl, Nat.le_of_ble_eq_true rfl⟩) (fun r5 hu => ?_)
                clear hu
                refine W.eq (g2 := F0 m 59 ls [.int r5]) rfl ?_
                refine lv_if_eq (tgt := 64) hx hb d_PL_fits_59 (by decide) (fun h59_10 => ?_) (fun h59_10 => ?_)
                · have h59_10 := h59_10
                  have i59_10 := ti_eq h59_10
                  (try rw [l_0] at i59_10)
                  refine lv_iinc (k := 1) (v := nI (k + 1)) hx hb d_PL_fits_64 hl rfl ((nI_succ k).symm) (by decide) rfl (fun ls hl => ?_)
                  have hl : lv_has ls 6 [(4, .int (nI (k + 1))), (5, .int (rf a4 11)), (3, .int z), (2, .int y), (1, .int x), (0, .ref (cd 3))] := hl
                  refine lv_goto (tgt := 19) hx hb d_PL_fits_67 (by decide) ?_
                  have hl := lv_sub hl [0, 2, 3, 4, 5] (l' := [(4, .int (nI (k + 1))), (3, .int z), (2, .int y), (1, .int x), (0, .ref (cd 3))]) rfl
                  exact ih_19 (k + 1) ls (by omega) (by omega) hl
                · have h59_10 := h59_10
                  have i59_10 := ti_ne h59_10
                  (try rw [l_0] at i59_10)
                  refine lv_iconst (v := 0) hx hb d_PL_fits_62 (by decide) ?_
                  exact W.zret (v := 0) hx hb hr rfl (fun t ht9 hW => ⟨0, rfl, trivial, ht9⟩) (fun q h => by cases h) d_PL_fits_63
      have hl := lv_sub hl [0, 4, 3, 2, 1] (l' := [(4, .int 0), (3, .int z), (2, .int y), (1, .int x), (0, .ref (cd 3))]) rfl
      have hl : lv_has ls 6 [(4, .int (nI 0)), (3, .int z), (2, .int y), (1, .int x), (0, .ref (cd 3))] := hl
      exact J_19 ((M - 0) + 1) 0 ls (by omega) (by omega) hl
    · have h11_6 := h11_6
      have i11_6 := ti_ne h11_6
      (try rw [l_0] at i11_6)
      refine lv_iconst (v := 0) hx hb d_PL_fits_14 (by decide) ?_
      exact W.zret (v := 0) hx hb hr rfl (fun t ht9 hW => ⟨0, rfl, trivial, ht9⟩) (fun q h => by cases h) d_PL_fits_15
set_option maxHeartbeats 8000000 in
set_option maxRecDepth 100000 in
theorem k_PL_takeAfter (l : Launch) (dC : Nat → ClassId) (dI : Nat → Nat → Nat) (cd : Nat → Nat) (kI kQ : ClassId) (L : List Nat) (isA : Nat → Bool) (bk : Nat → Nat) (sc : Nat → Int32) (ia : Nat → Nat → Int32) (qa : Nat → Nat → Option Nat) (rf ba : Nat → Nat → Int32) (sz Bd : Nat) (N : Nat) (hC : CI N L isA bk sc qa rf) (a : Nat) (ha : a ∈ L) (hn : isA a = false)  : Met l y_PL_takeAfter w_PL_takeAfter ({ frames := 3, cells := 0, slots := 0, locals := 70 }) (frP (dC, dI) (CW cd kI kQ L isA bk sc ia qa rf ba) (CT kI kQ) sz Bd [.ref (cd 3), .ref a]) (tQ (dC, dI) (cW cd kI kQ L isA bk) (va_A (CW cd kI kQ L isA bk sc ia qa rf ba) sz) vN (fun r u => sc = u.1 ∧ ia = u.2.1 ∧ qa = u.2.2.1 ∧ ba = u.2.2.2.2 ∧ CI N L isA bk u.1 u.2.2.1 u.2.2.2.1)) 0 0 (va_A (CW cd kI kQ L isA bk sc ia qa rf ba) sz) := by
  refine Met.ofW (cc := c_PL_takeAfter) (maxL := 3) (ret := none) (by decide) rfl ?_
  intro p e s m args below meth c s₁ B hml hv
  obtain ⟨rfl, ⟨hsz, hBs⟩, hP, hK, hD0, hV⟩ := hv
  have hx := B.exec
  have hb := B.bytes
  have hr := B.returns
  have ht : ∀ w ∈ tb_, w.before _ s = true := fun w h => atoms_spec (ws := w_PL_takeAfter) B.pre w (List.mem_cons_of_mem _ h)
  have hown : s.vm.findClass R_PL = some m.cls := findClass_of_methodNamed B.named
  have hlocks := B.notSynchronized
  subst hsz
  have hD := hD0.self (sz := s.heap.size)
  have hAB : ∀ q, va_A (CW cd kI kQ L isA bk sc ia qa rf ba) s.heap.size q → Bd ≤ q := fr_AB hD0 hBs
  generalize hAe : va_A (CW cd kI kQ L isA bk sc ia qa rf ba) s.heap.size = A at hD hAB ⊢
  have hA : ∀ q : Nat, s.heap.size ≤ q → A q := fun q h => by rw [← hAe]; exact Or.inr h
  have hS : va_S A s.heap s.heap [] := va_S.rf
  have hs : same [] sc sc := same.rf
  have hP : va_P (dC, dI) cls_ (CW cd kI kQ L isA bk sc ia qa rf ba) s.heap := hP
  have hl := lv_entry ([.ref (cd 3), .ref a]) (n := 3) (Nat.le_of_ble_eq_true rfl)
  rw [lg_entry_eq]
  generalize (lg_sl ([.ref (cd 3), .ref a]) ++ List.replicate (3 - (lg_sl ([.ref (cd 3), .ref a])).length) Slot.unset).toArray = ls at hl ⊢
  have hl : lv_has ls 3 [(0, .ref (cd 3)), (1, .ref a)] := hl
  have hN := hC.1.1
  obtain ⟨M, hM, e3, hO⟩ := hC.2.2.1
  refine lv_aload_n hx hb d_PL_takeAfter_0 rfl (lv_at hl 1 rfl) ?_
  obtain ⟨kq, hkq⟩ := pq_at (X := CX cd kI kQ sc ia qa) (kI := kI) (bk := bk) (rf := rf) (ba := ba) ha hn
  refine va_get (D := (dC, dI)) (ci := 4) (v := .int (rf a 3)) (C := R_RQ) (T := F_RQ) (N := 17) hx hb ht in_RQ hown hK hP kq hkq rfl 3 (by decide) (ht _ tb_381) (fun _ h9 => h9) rfl d_PL_takeAfter_1 ?_
  refine lv_aload_n hx hb d_PL_takeAfter_4 rfl (lv_at hl 1 rfl) ?_
  obtain ⟨kq, hkq⟩ := pq_at (X := CX cd kI kQ sc ia qa) (kI := kI) (bk := bk) (rf := rf) (ba := ba) ha hn
  refine va_get (D := (dC, dI)) (ci := 4) (v := .int (rf a 6)) (C := R_RQ) (T := F_RQ) (N := 17) hx hb ht in_RQ hown hK hP kq hkq rfl 6 (by decide) (ht _ tb_388) (fun _ h9 => h9) rfl d_PL_takeAfter_5 ?_
  refine lv_iadd hx hb d_PL_takeAfter_8 ?_
  refine lv_istore_n hx hb d_PL_takeAfter_9 rfl hl (by decide) rfl (fun ls hl => ?_)
  have hl : lv_has ls 3 [(2, .int ((rf a 3) + (rf a 6))), (0, .ref (cd 3)), (1, .ref a)] := hl
  refine lv_aload_n hx hb d_PL_takeAfter_10 rfl (lv_at hl 1 rfl) ?_
  refine lv_aload_n hx hb d_PL_takeAfter_11 rfl (lv_at hl 2 rfl) ?_
  obtain ⟨kq, hkq⟩ := pq_at (X := CX cd kI kQ sc ia qa) (kI := kI) (bk := bk) (rf := rf) (ba := ba) ha hn
  refine va_get (D := (dC, dI)) (ci := 4) (v := .int (rf a 1)) (C := R_RQ) (T := F_RQ) (N := 17) hx hb ht in_RQ hown hK hP kq hkq rfl 1 (by decide) (ht _ tb_375) (fun _ h9 => h9) rfl d_PL_takeAfter_12 ?_
  refine lv_aload_n hx hb d_PL_takeAfter_15 rfl (lv_at hl 2 rfl) ?_
  obtain ⟨kq, hkq⟩ := pq_at (X := CX cd kI kQ sc ia qa) (kI := kI) (bk := bk) (rf := rf) (ba := ba) ha hn
  refine va_get (D := (dC, dI)) (ci := 4) (v := .int (rf a 3)) (C := R_RQ) (T := F_RQ) (N := 17) hx hb ht in_RQ hown hK hP kq hkq rfl 3 (by decide) (ht _ tb_381) (fun _ h9 => h9) rfl d_PL_takeAfter_16 ?_
  refine lv_iload_n hx hb d_PL_takeAfter_19 rfl (lv_at hl 0 rfl) ?_
  refine r_call (va_runV (C := R_PL) (As := [.int (rf a 1), .int (rf a 3), .int ((rf a 3) + (rf a 6))]) (rest := []) ⟨hx, hb, hml, hown, ht⟩ (k_PL_fits l dC dI cd kI kQ L isA bk sc ia qa rf ba N hC (rf a 1) (rf a 3) ((rf a 3) + (rf a 6))) (cwV 3 ht (gV tb_132 tb_134 ts_4 tb_2 tb_135) rfl rfl rfl (by decide +kernel) ⟨Nat.le_of_ble_eq_true rfl, Nat.le_of_ble_eq_true rfl⟩) ⟨rdP_blind, va_recv (q := (R_PL, F_PL, 2)) hK hP rfl (show (CW cd kI kQ L isA bk sc ia qa rf ba : va_W)[3]? = some _ from rfl), rd_pre hP hK⟩ rfl rfl hl.1 rfl (lv_room (Nat.le_of_ble_eq_true rfl)) d_PL_takeAfter_20 ⟨Nat.le_of_ble_eq_true rfl, Nat.le_of_ble_eq_true rfl⟩) (fun r1 hu => ?_)
  clear hu
  refine W.eq (g2 := F0 m 23 ls [.int r1]) rfl ?_
  refine lv_if_eq (tgt := 31) hx hb d_PL_takeAfter_23 (by decide) (fun h23_1 => ?_) (fun h23_1 => ?_)
  · have h23_1 := h23_1
    have i23_1 := ti_eq h23_1
    (try rw [l_0] at i23_1)
    exact W.vret hx hb hr (fun t ht9 hW => ⟨⟨(), (sc, ia, qa, rf, ba), rfl, ⟨rfl, rfl, rfl, rfl, hC⟩, by rw [ht9]; exact hP, hD⟩, hS.F ht9⟩) hS.2.2 d_PL_takeAfter_31
  · have h23_1 := h23_1
    have i23_1 := ti_ne h23_1
    (try rw [l_0] at i23_1)
    refine lv_aload_n hx hb d_PL_takeAfter_26 rfl (lv_at hl 2 rfl) ?_
    refine lv_iload_n hx hb d_PL_takeAfter_27 rfl (lv_at hl 0 rfl) ?_
    obtain ⟨kq, hkq⟩ := pq_at (X := CX cd kI kQ sc ia qa) (kI := kI) (bk := bk) (rf := rf) (ba := ba) ha hn
    have hD0 := hD
    refine va_put (D := (dC, dI)) (ci := 4) (v := .int ((rf a 3) + (rf a 6))) (ty := .int) (C := R_RQ) (T := F_RQ) (N := 17) hx hb ht in_RQ t_RQ t_RQ_ok n_RQ hown hK hP hD hS kq hkq rfl 12 (by decide) (ht _ tb_404) (fun _ h9 => h9) rfl (by decide +kernel) rfl rfl (Nat.le_of_ble_eq_true rfl) d_PL_takeAfter_28 (fun H locs hP hD hS => ?_)
    rw [pq_set hD0 ha hn hkq rfl] at hP hD
    have hP : va_P (dC, dI) cls_ (CW cd kI kQ L isA bk sc ia qa (va_up rf a (va_up (rf a) 12 ((rf a 3) + (rf a 6)))) ba) H := hP
    have hD : va_D A (CW cd kI kQ L isA bk sc ia qa (va_up rf a (va_up (rf a) 12 ((rf a 3) + (rf a 6)))) ba) := hD
    obtain ⟨rf2, erf2⟩ : ∃ q9_, q9_ = va_up rf a (va_up (rf a) 12 ((rf a 3) + (rf a 6))) := ⟨_, rfl⟩
    rw [← erf2] at hP hD
    have hC : CI N L isA bk sc qa rf2 := by rw [erf2]; exact CI_r hC (by decide) (Or.inl (by decide))
    exact W.vret hx hb hr (fun t ht9 hW => ⟨⟨(), (sc, ia, qa, rf2, ba), rfl, ⟨rfl, rfl, rfl, rfl, hC⟩, by rw [ht9]; exact hP, hD⟩, hS.F ht9⟩) hS.2.2 d_PL_takeAfter_31
set_option maxHeartbeats 8000000 in
set_option maxRecDepth 100000 in
theorem k_PL_takeBefore (l : Launch) (dC : Nat → ClassId) (dI : Nat → Nat → Nat) (cd : Nat → Nat) (kI kQ : ClassId) (L : List Nat) (isA : Nat → Bool) (bk : Nat → Nat) (sc : Nat → Int32) (ia : Nat → Nat → Int32) (qa : Nat → Nat → Option Nat) (rf ba : Nat → Nat → Int32) (sz Bd : Nat) (N : Nat) (hC : CI N L isA bk sc qa rf) (a : Nat) (ha : a ∈ L) (hn : isA a = false) (x : Int32) : Met l y_PL_takeBefore w_PL_takeBefore ({ frames := 3, cells := 0, slots := 0, locals := 70 }) (frP (dC, dI) (CW cd kI kQ L isA bk sc ia qa rf ba) (CT kI kQ) sz Bd [.ref (cd 3), .ref a, .int x]) (tQ (dC, dI) (cW cd kI kQ L isA bk) (va_A (CW cd kI kQ L isA bk sc ia qa rf ba) sz) vN (fun r u => sc = u.1 ∧ ia = u.2.1 ∧ qa = u.2.2.1 ∧ ba = u.2.2.2.2 ∧ CI N L isA bk u.1 u.2.2.1 u.2.2.2.1)) 0 0 (va_A (CW cd kI kQ L isA bk sc ia qa rf ba) sz) := by
  refine Met.ofW (cc := c_PL_takeBefore) (maxL := 4) (ret := none) (by decide) rfl ?_
  intro p e s m args below meth c s₁ B hml hv
  obtain ⟨rfl, ⟨hsz, hBs⟩, hP, hK, hD0, hV⟩ := hv
  have hx := B.exec
  have hb := B.bytes
  have hr := B.returns
  have ht : ∀ w ∈ tb_, w.before _ s = true := fun w h => atoms_spec (ws := w_PL_takeBefore) B.pre w (List.mem_cons_of_mem _ h)
  have hown : s.vm.findClass R_PL = some m.cls := findClass_of_methodNamed B.named
  have hlocks := B.notSynchronized
  subst hsz
  have hD := hD0.self (sz := s.heap.size)
  have hAB : ∀ q, va_A (CW cd kI kQ L isA bk sc ia qa rf ba) s.heap.size q → Bd ≤ q := fr_AB hD0 hBs
  generalize hAe : va_A (CW cd kI kQ L isA bk sc ia qa rf ba) s.heap.size = A at hD hAB ⊢
  have hA : ∀ q : Nat, s.heap.size ≤ q → A q := fun q h => by rw [← hAe]; exact Or.inr h
  have hS : va_S A s.heap s.heap [] := va_S.rf
  have hs : same [] sc sc := same.rf
  have hP : va_P (dC, dI) cls_ (CW cd kI kQ L isA bk sc ia qa rf ba) s.heap := hP
  have hl := lv_entry ([.ref (cd 3), .ref a, .int x]) (n := 4) (Nat.le_of_ble_eq_true rfl)
  rw [lg_entry_eq]
  generalize (lg_sl ([.ref (cd 3), .ref a, .int x]) ++ List.replicate (4 - (lg_sl ([.ref (cd 3), .ref a, .int x])).length) Slot.unset).toArray = ls at hl ⊢
  have hl : lv_has ls 4 [(0, .ref (cd 3)), (1, .ref a), (2, .int x)] := hl
  have hN := hC.1.1
  obtain ⟨M, hM, e3, hO⟩ := hC.2.2.1
  refine lv_aload_n hx hb d_PL_takeBefore_0 rfl (lv_at hl 1 rfl) ?_
  obtain ⟨kq, hkq⟩ := pq_at (X := CX cd kI kQ sc ia qa) (kI := kI) (bk := bk) (rf := rf) (ba := ba) ha hn
  refine va_get (D := (dC, dI)) (ci := 4) (v := .int (rf a 2)) (C := R_RQ) (T := F_RQ) (N := 17) hx hb ht in_RQ hown hK hP kq hkq rfl 2 (by decide) (ht _ tb_378) (fun _ h9 => h9) rfl d_PL_takeBefore_1 ?_
  refine lv_aload_n hx hb d_PL_takeBefore_4 rfl (lv_at hl 1 rfl) ?_
  obtain ⟨kq, hkq⟩ := pq_at (X := CX cd kI kQ sc ia qa) (kI := kI) (bk := bk) (rf := rf) (ba := ba) ha hn
  refine va_get (D := (dC, dI)) (ci := 4) (v := .int (rf a 5)) (C := R_RQ) (T := F_RQ) (N := 17) hx hb ht in_RQ hown hK hP kq hkq rfl 5 (by decide) (ht _ tb_386) (fun _ h9 => h9) rfl d_PL_takeBefore_5 ?_
  refine lv_isub hx hb d_PL_takeBefore_8 ?_
  refine lv_istore_n hx hb d_PL_takeBefore_9 rfl hl (by decide) rfl (fun ls hl => ?_)
  have hl : lv_has ls 4 [(3, .int ((rf a 2) - (rf a 5))), (0, .ref (cd 3)), (1, .ref a), (2, .int x)] := hl
  refine lv_iload_n hx hb d_PL_takeBefore_10 rfl (lv_at hl 0 rfl) ?_
  refine lv_iload_n hx hb d_PL_takeBefore_11 rfl (lv_at hl 3 rfl) ?_
  refine lv_icmp_lt (tgt := 36) hx hb d_PL_takeBefore_12 (by decide) (fun h12_1 => ?_) (fun h12_1 => ?_)
  · have h12_1 := h12_1
    have i12_1 := ti_lt h12_1
    exact W.vret hx hb hr (fun t ht9 hW => ⟨⟨(), (sc, ia, qa, rf, ba), rfl, ⟨rfl, rfl, rfl, rfl, hC⟩, by rw [ht9]; exact hP, hD⟩, hS.F ht9⟩) hS.2.2 d_PL_takeBefore_36
  · have h12_1 := h12_1
    have i12_1 := ti_nlt h12_1
    refine lv_aload_n hx hb d_PL_takeBefore_15 rfl (lv_at hl 1 rfl) ?_
    refine lv_aload_n hx hb d_PL_takeBefore_16 rfl (lv_at hl 2 rfl) ?_
    obtain ⟨kq, hkq⟩ := pq_at (X := CX cd kI kQ sc ia qa) (kI := kI) (bk := bk) (rf := rf) (ba := ba) ha hn
    refine va_get (D := (dC, dI)) (ci := 4) (v := .int (rf a 1)) (C := R_RQ) (T := F_RQ) (N := 17) hx hb ht in_RQ hown hK hP kq hkq rfl 1 (by decide) (ht _ tb_375) (fun _ h9 => h9) rfl d_PL_takeBefore_17 ?_
    refine lv_iload_n hx hb d_PL_takeBefore_20 rfl (lv_at hl 0 rfl) ?_
    refine lv_aload_n hx hb d_PL_takeBefore_21 rfl (lv_at hl 2 rfl) ?_
    obtain ⟨kq, hkq⟩ := pq_at (X := CX cd kI kQ sc ia qa) (kI := kI) (bk := bk) (rf := rf) (ba := ba) ha hn
    refine va_get (D := (dC, dI)) (ci := 4) (v := .int (rf a 2)) (C := R_RQ) (T := F_RQ) (N := 17) hx hb ht in_RQ hown hK hP kq hkq rfl 2 (by decide) (ht _ tb_378) (fun _ h9 => h9) rfl d_PL_takeBefore_22 ?_
    refine r_call (va_runV (C := R_PL) (As := [.int (rf a 1), .int ((rf a 2) - (rf a 5)), .int (rf a 2)]) (rest := []) ⟨hx, hb, hml, hown, ht⟩ (k_PL_fits l dC dI cd kI kQ L isA bk sc ia qa rf ba N hC (rf a 1) ((rf a 2) - (rf a 5)) (rf a 2)) (cwV 3 ht (gV tb_132 tb_134 ts_4 tb_2 tb_135) rfl rfl rfl (by decide +kernel) ⟨Nat.le_of_ble_eq_true rfl, Nat.le_of_ble_eq_true rfl⟩) ⟨rdP_blind, va_recv (q := (R_PL, F_PL, 2)) hK hP rfl (show (CW cd kI kQ L isA bk sc ia qa rf ba : va_W)[3]? = some _ from rfl), rd_pre hP hK⟩ rfl rfl hl.1 rfl (lv_room (Nat.le_of_ble_eq_true rfl)) d_PL_takeBefore_25 ⟨Nat.le_of_ble_eq_true rfl, Nat.le_of_ble_eq_true rfl⟩) (fun r1 hu => ?_)
    clear hu
    refine W.eq (g2 := F0 m 28 ls [.int r1]) rfl ?_
    refine lv_if_eq (tgt := 36) hx hb d_PL_takeBefore_28 (by decide) (fun h28_2 => ?_) (fun h28_2 => ?_)
    · have h28_2 := h28_2
      have i28_2 := ti_eq h28_2
      (try rw [l_0] at i28_2)
      exact W.vret hx hb hr (fun t ht9 hW => ⟨⟨(), (sc, ia, qa, rf, ba), rfl, ⟨rfl, rfl, rfl, rfl, hC⟩, by rw [ht9]; exact hP, hD⟩, hS.F ht9⟩) hS.2.2 d_PL_takeBefore_36
    · have h28_2 := h28_2
      have i28_2 := ti_ne h28_2
      (try rw [l_0] at i28_2)
      refine lv_aload_n hx hb d_PL_takeBefore_31 rfl (lv_at hl 2 rfl) ?_
      refine lv_iload_n hx hb d_PL_takeBefore_32 rfl (lv_at hl 0 rfl) ?_
      obtain ⟨kq, hkq⟩ := pq_at (X := CX cd kI kQ sc ia qa) (kI := kI) (bk := bk) (rf := rf) (ba := ba) ha hn
      have hD0 := hD
      refine va_put (D := (dC, dI)) (ci := 4) (v := .int ((rf a 2) - (rf a 5))) (ty := .int) (C := R_RQ) (T := F_RQ) (N := 17) hx hb ht in_RQ t_RQ t_RQ_ok n_RQ hown hK hP hD hS kq hkq rfl 11 (by decide) (ht _ tb_401) (fun _ h9 => h9) rfl (by decide +kernel) rfl rfl (Nat.le_of_ble_eq_true rfl) d_PL_takeBefore_33 (fun H locs hP hD hS => ?_)
      rw [pq_set hD0 ha hn hkq rfl] at hP hD
      have hP : va_P (dC, dI) cls_ (CW cd kI kQ L isA bk sc ia qa (va_up rf a (va_up (rf a) 11 ((rf a 2) - (rf a 5)))) ba) H := hP
      have hD : va_D A (CW cd kI kQ L isA bk sc ia qa (va_up rf a (va_up (rf a) 11 ((rf a 2) - (rf a 5)))) ba) := hD
      obtain ⟨rf2, erf2⟩ : ∃ q9_, q9_ = va_up rf a (va_up (rf a) 11 ((rf a 2) - (rf a 5))) := ⟨_, rfl⟩
      rw [← erf2] at hP hD
      have hC : CI N L isA bk sc qa rf2 := by rw [erf2]; exact CI_r hC (by decide) (Or.inl (by decide))
      exact W.vret hx hb hr (fun t ht9 hW => ⟨⟨(), (sc, ia, qa, rf2, ba), rfl, ⟨rfl, rfl, rfl, rfl, hC⟩, by rw [ht9]; exact hP, hD⟩, hS.F ht9⟩) hS.2.2 d_PL_takeBefore_36
set_option maxHeartbeats 8000000 in
set_option maxRecDepth 100000 in
theorem k_PL_takeRunning (l : Launch) (dC : Nat → ClassId) (dI : Nat → Nat → Nat) (cd : Nat → Nat) (kI kQ : ClassId) (L : List Nat) (isA : Nat → Bool) (bk : Nat → Nat) (sc : Nat → Int32) (ia : Nat → Nat → Int32) (qa : Nat → Nat → Option Nat) (rf ba : Nat → Nat → Int32) (sz Bd : Nat) (N : Nat) (hC : CI N L isA bk sc qa rf) (x : Int32) : Met l y_PL_takeRunning w_PL_takeRunning ({ frames := 1, cells := 0, slots := 0, locals := 22 }) (frP (dC, dI) (CW cd kI kQ L isA bk sc ia qa rf ba) (CT kI kQ) sz Bd [.ref (cd 3), .int x]) (tQ (dC, dI) (cW cd kI kQ L isA bk) (va_A (CW cd kI kQ L isA bk sc ia qa rf ba) sz) vN (fun r u => sc = u.1 ∧ ia = u.2.1 ∧ qa = u.2.2.1 ∧ ba = u.2.2.2.2 ∧ CI N L isA bk u.1 u.2.2.1 u.2.2.2.1)) 0 0 (va_A (CW cd kI kQ L isA bk sc ia qa rf ba) sz) := by
  refine Met.ofW (cc := c_PL_takeRunning) (maxL := 4) (ret := none) (by decide) rfl ?_
  intro p e s m args below meth c s₁ B hml hv
  obtain ⟨rfl, ⟨hsz, hBs⟩, hP, hK, hD0, hV⟩ := hv
  have hx := B.exec
  have hb := B.bytes
  have hr := B.returns
  have ht : ∀ w ∈ tb_, w.before _ s = true := fun w h => atoms_spec (ws := w_PL_takeRunning) B.pre w (List.mem_cons_of_mem _ h)
  have hown : s.vm.findClass R_PL = some m.cls := findClass_of_methodNamed B.named
  have hlocks := B.notSynchronized
  subst hsz
  have hD := hD0.self (sz := s.heap.size)
  have hAB : ∀ q, va_A (CW cd kI kQ L isA bk sc ia qa rf ba) s.heap.size q → Bd ≤ q := fr_AB hD0 hBs
  generalize hAe : va_A (CW cd kI kQ L isA bk sc ia qa rf ba) s.heap.size = A at hD hAB ⊢
  have hA : ∀ q : Nat, s.heap.size ≤ q → A q := fun q h => by rw [← hAe]; exact Or.inr h
  have hS : va_S A s.heap s.heap [] := va_S.rf
  have hs : same [] sc sc := same.rf
  have hP : va_P (dC, dI) cls_ (CW cd kI kQ L isA bk sc ia qa rf ba) s.heap := hP
  have hl := lv_entry ([.ref (cd 3), .int x]) (n := 4) (Nat.le_of_ble_eq_true rfl)
  rw [lg_entry_eq]
  generalize (lg_sl ([.ref (cd 3), .int x]) ++ List.replicate (4 - (lg_sl ([.ref (cd 3), .int x])).length) Slot.unset).toArray = ls at hl ⊢
  have hl : lv_has ls 4 [(0, .ref (cd 3)), (1, .int x)] := hl
  have hN := hC.1.1
  obtain ⟨M, hM, e3, hO⟩ := hC.2.2.1
  refine lv_iconst (v := 0) hx hb d_PL_takeRunning_0 (by decide) ?_
  refine lv_istore_n hx hb d_PL_takeRunning_1 rfl hl (by decide) rfl (fun ls hl => ?_)
  have hl : lv_has ls 4 [(2, .int 0), (0, .ref (cd 3)), (1, .int x)] := hl
  have J_2 : ∀ (n_2 : Nat) (k : Nat) (rf_2 : Nat → Nat → Int32) (H : Heap) (locs : List Loc) (ls : Array Slot), M - k < n_2 → k ≤ M → CI N L isA bk sc qa rf_2 → lv_has ls 4 [(2, .int (nI k)), (1, .int x), (0, .ref (cd 3))] → va_P (dC, dI) cls_ (CW cd kI kQ L isA bk sc ia qa rf_2 ba) H → va_D A (CW cd kI kQ L isA bk sc ia qa rf_2 ba) → va_S A s.heap H locs → W p l e (headSpec w_PL_takeRunning ({ frames := 1, cells := 0, slots := 0, locals := 22 })).room s m (([.ref (cd 3), .int x] : List Value).toArray) below meth c H locs 0 0 (MQ below (tQ (dC, dI) (cW cd kI kQ L isA bk) A vN (fun r u => sc = u.1 ∧ ia = u.2.1 ∧ qa = u.2.2.1 ∧ ba = u.2.2.2.2 ∧ CI N L isA bk u.1 u.2.2.1 u.2.2.2.1)) (([.ref (cd 3), .int x] : List Value).toArray) s 0 0 A) (F0 m 2 ls []) := by
    intro n_2
    induction n_2 with
    | zero => intro k rf_2 H locs ls hmu hc2_0 hC hl hP hD hS; exact absurd hmu (by omega)
    | succ n_2 ih_2 =>
      intro k rf_2 H locs ls hmu hc2_0 hC hl hP hD hS
      refine lv_iload_n hx hb d_PL_takeRunning_2 rfl (lv_at hl 0 rfl) ?_
      refine lv_aload_n hx hb d_PL_takeRunning_3 rfl (lv_at hl 2 rfl) ?_
      refine va_get (D := (dC, dI)) (ci := 1) (v := .int (sc 3)) (C := R_PL) (T := F_PL) (N := 2) hx hb ht in_PL hown hK hP 3 rfl rfl 1 (by decide) (ht _ tb_33) (fun _ h9 => h9) rfl d_PL_takeRunning_4 ?_
      refine W.eq (g2 := F0 m 7 ls [.int (nI M), .int (nI k)]) (by rw [show sc 3 = nI M from e3]) ?_
      refine lv_icmp_ge (tgt := 55) hx hb d_PL_takeRunning_7 (by decide) (fun h7_1 => ?_) (fun h7_1 => ?_)
      · have h7_1 := h7_1
        have i7_1 := ti_le h7_1
        (try rw [nI_toInt (show k < 2 ^ 31 by omega)] at i7_1)
        (try rw [nI_toInt (show M < 2 ^ 31 by omega)] at i7_1)
        exact W.vret hx hb hr (fun t ht9 hW => ⟨⟨(), (sc, ia, qa, rf_2, ba), rfl, ⟨rfl, rfl, rfl, rfl, hC⟩, by rw [ht9]; exact hP, hD⟩, hS.F ht9⟩) hS.2.2 d_PL_takeRunning_55
      · have h7_1 := h7_1
        have i7_1 := ti_nle h7_1
        (try rw [nI_toInt (show k < 2 ^ 31 by omega)] at i7_1)
        (try rw [nI_toInt (show M < 2 ^ 31 by omega)] at i7_1)
        refine lv_aload_n hx hb d_PL_takeRunning_10 rfl (lv_at hl 2 rfl) ?_
        refine va_get (D := (dC, dI)) (ci := 1) (v := .ref (cd 4)) (C := R_PL) (T := F_PL) (N := 2) hx hb ht in_PL hown hK hP 3 rfl rfl 0 (by decide) (ht _ tb_32) (fun _ h9 => h9) rfl d_PL_takeRunning_11 ?_
        refine lv_iload_n hx hb d_PL_takeRunning_14 rfl (lv_at hl 0 rfl) ?_
        refine va_aldq (C := "TwinTuners$Request") hx hb hK hP 4 1 rfl rfl (vp_in_nI (show k < 12 by omega) (by decide)) d_PL_takeRunning_15 ?_
        obtain ⟨a1, ea1, haa1, hna1⟩ := hO k (by omega)
        refine W.eq (g2 := F0 m 16 ls [.ref a1]) (by rw [nI_clamp (show k < 2 ^ 31 by omega), ea1]; rfl) ?_
        refine lv_astore_n hx hb d_PL_takeRunning_16 rfl hl (by decide) rfl (fun ls hl => ?_)
        have hl : lv_has ls 4 [(3, .ref a1), (2, .int (nI k)), (1, .int x), (0, .ref (cd 3))] := hl
        refine lv_aload_n hx hb d_PL_takeRunning_17 rfl (lv_at hl 0 rfl) ?_
        obtain ⟨kq, hkq⟩ := pq_at (X := CX cd kI kQ sc ia qa) (kI := kI) (bk := bk) (rf := rf_2) (ba := ba) haa1 hna1
        refine va_get (D := (dC, dI)) (ci := 4) (v := .int (rf_2 a1 8)) (C := R_RQ) (T := F_RQ) (N := 17) hx hb ht in_RQ hown hK hP kq hkq rfl 8 (by decide) (ht _ tb_393) (fun _ h9 => h9) rfl d_PL_takeRunning_18 ?_
        refine lv_iconst (v := 1) hx hb d_PL_takeRunning_21 (by decide) ?_
        refine lv_icmp_ne (tgt := 49) hx hb d_PL_takeRunning_22 (by decide) (fun h22_2 => ?_) (fun h22_2 => ?_)
        · have h22_2 := h22_2
          have i22_2 := ti_ne h22_2
          (try rw [l_1] at i22_2)
          refine lv_iinc (k := 1) (v := nI (k + 1)) hx hb d_PL_takeRunning_49 hl rfl ((nI_succ k).symm) (by decide) rfl (fun ls hl => ?_)
          have hl : lv_has ls 4 [(2, .int (nI (k + 1))), (3, .ref a1), (1, .int x), (0, .ref (cd 3))] := hl
          refine lv_goto (tgt := 2) hx hb d_PL_takeRunning_52 (by decide) ?_
          have hl := lv_sub hl [0, 2, 3] (l' := [(2, .int (nI (k + 1))), (1, .int x), (0, .ref (cd 3))]) rfl
          exact ih_2 (k + 1) rf_2 H _ ls (by omega) (by omega) hC hl hP hD hS
        · have h22_2 := h22_2
          have i22_2 := ti_eq h22_2
          (try rw [l_1] at i22_2)
          refine lv_aload_n hx hb d_PL_takeRunning_25 rfl (lv_at hl 0 rfl) ?_
          refine lv_iload_n hx hb d_PL_takeRunning_26 rfl (lv_at hl 2 rfl) ?_
          refine lv_aload_n hx hb d_PL_takeRunning_27 rfl (lv_at hl 0 rfl) ?_
          obtain ⟨kq, hkq⟩ := pq_at (X := CX cd kI kQ sc ia qa) (kI := kI) (bk := bk) (rf := rf_2) (ba := ba) haa1 hna1
          refine va_get (D := (dC, dI)) (ci := 4) (v := .int (rf_2 a1 3)) (C := R_RQ) (T := F_RQ) (N := 17) hx hb ht in_RQ hown hK hP kq hkq rfl 3 (by decide) (ht _ tb_381) (fun _ h9 => h9) rfl d_PL_takeRunning_28 ?_
          refine lv_iload_n hx hb d_PL_takeRunning_31 rfl (lv_at hl 2 rfl) ?_
          refine lv_icmp_le (tgt := 42) hx hb d_PL_takeRunning_32 (by decide) (fun h32_3 => ?_) (fun h32_3 => ?_)
          · have h32_3 := h32_3
            have i32_3 := ti_le h32_3
            refine lv_aload_n hx hb d_PL_takeRunning_42 rfl (lv_at hl 0 rfl) ?_
            obtain ⟨kq, hkq⟩ := pq_at (X := CX cd kI kQ sc ia qa) (kI := kI) (bk := bk) (rf := rf_2) (ba := ba) haa1 hna1
            refine va_get (D := (dC, dI)) (ci := 4) (v := .int (rf_2 a1 10)) (C := R_RQ) (T := F_RQ) (N := 17) hx hb ht in_RQ hown hK hP kq hkq rfl 10 (by decide) (ht _ tb_397) (fun _ h9 => h9) rfl d_PL_takeRunning_43 ?_
            obtain ⟨kq, hkq⟩ := pq_at (X := CX cd kI kQ sc ia qa) (kI := kI) (bk := bk) (rf := rf_2) (ba := ba) haa1 hna1
            refine t_call (u0 := (sc, ia, qa, rf_2, ba)) (va_runV (C := R_RQ) (As := [.int x, .int (rf_2 a1 10)]) (rest := []) ⟨hx, hb, hml, hown, ht⟩ (k_RQ_takeStretch l dC dI cd kI kQ L isA bk sc ia qa rf_2 ba H.size Bd N hC a1 haa1 hna1 x (rf_2 a1 10)) (cwV 2 ht (gV tb_120 tb_121 tb_122 tb_11 tb_123) rfl rfl rfl (by decide +kernel) ⟨Nat.le_of_ble_eq_true rfl, Nat.le_of_ble_eq_true rfl⟩) ⟨frP_blind, va_recv (q := (R_RQ, F_RQ, 17)) hK hP rfl hkq, fr_pre hP hK hD hAB hBs hS hV⟩ rfl rfl hl.1 rfl (lv_room (Nat.le_of_ble_eq_true rfl)) d_PL_takeRunning_46 ⟨Nat.le_of_ble_eq_true rfl, Nat.le_of_ble_eq_true rfl⟩) hD hS hA (fun r2 u H locs hu hP hD hS => ?_)
            obtain ⟨sc3, ia4, qa5, rf6, ba7⟩ := u
            obtain ⟨hu2_0, hu2_1, hu2_2, hu2_3, hu2_4⟩ := hu
            have hu2_0 : sc = sc3 := hu2_0
            have hu2_1 : ia = ia4 := hu2_1
            have hu2_2 : qa = qa5 := hu2_2
            have hu2_3 : ba = ba7 := hu2_3
            have hu2_4 : CI N L isA bk sc3 qa5 rf6 := hu2_4
            subst hu2_0
            subst hu2_1
            subst hu2_2
            subst hu2_3
            have hP : va_P (dC, dI) cls_ (CW cd kI kQ L isA bk sc ia qa rf6 ba) H := hP
            have hD : va_D A (CW cd kI kQ L isA bk sc ia qa rf6 ba) := hD
            have hC : CI N L isA bk sc qa rf6 := hu2_4
            refine W.eq (g2 := F0 m 49 ls []) rfl ?_
            refine W.cs (cells' := 0) (slots' := 0) rfl rfl ?_
            refine lv_iinc (k := 1) (v := nI (k + 1)) hx hb d_PL_takeRunning_49 hl rfl ((nI_succ k).symm) (by decide) rfl (fun ls hl => ?_)
            have hl : lv_has ls 4 [(2, .int (nI (k + 1))), (3, .ref a1), (1, .int x), (0, .ref (cd 3))] := hl
            refine lv_goto (tgt := 2) hx hb d_PL_takeRunning_52 (by decide) ?_
            have hl := lv_sub hl [0, 2, 3] (l' := [(2, .int (nI (k + 1))), (1, .int x), (0, .ref (cd 3))]) rfl
            exact ih_2 (k + 1) rf6 H _ ls (by omega) (by omega) hC hl hP hD hS
          · have h32_3 := h32_3
            have i32_3 := ti_nle h32_3
            refine lv_aload_n hx hb d_PL_takeRunning_35 rfl (lv_at hl 0 rfl) ?_
            obtain ⟨kq, hkq⟩ := pq_at (X := CX cd kI kQ sc ia qa) (kI := kI) (bk := bk) (rf := rf_2) (ba := ba) haa1 hna1
            refine va_get (D := (dC, dI)) (ci := 4) (v := .int (rf_2 a1 3)) (C := R_RQ) (T := F_RQ) (N := 17) hx hb ht in_RQ hown hK hP kq hkq rfl 3 (by decide) (ht _ tb_381) (fun _ h9 => h9) rfl d_PL_takeRunning_36 ?_
            refine lv_goto (tgt := 46) hx hb d_PL_takeRunning_39 (by decide) ?_
            obtain ⟨kq, hkq⟩ := pq_at (X := CX cd kI kQ sc ia qa) (kI := kI) (bk := bk) (rf := rf_2) (ba := ba) haa1 hna1
            refine t_call (u0 := (sc, ia, qa, rf_2, ba)) (va_runV (C := R_RQ) (As := [.int x, .int (rf_2 a1 3)]) (rest := []) ⟨hx, hb, hml, hown, ht⟩ (k_RQ_takeStretch l dC dI cd kI kQ L isA bk sc ia qa rf_2 ba H.size Bd N hC a1 haa1 hna1 x (rf_2 a1 3)) (cwV 2 ht (gV tb_120 tb_121 tb_122 tb_11 tb_123) rfl rfl rfl (by decide +kernel) ⟨Nat.le_of_ble_eq_true rfl, Nat.le_of_ble_eq_true rfl⟩) ⟨frP_blind, va_recv (q := (R_RQ, F_RQ, 17)) hK hP rfl hkq, fr_pre hP hK hD hAB hBs hS hV⟩ rfl rfl hl.1 rfl (lv_room (Nat.le_of_ble_eq_true rfl)) d_PL_takeRunning_46 ⟨Nat.le_of_ble_eq_true rfl, Nat.le_of_ble_eq_true rfl⟩) hD hS hA (fun r8 u H locs hu hP hD hS => ?_)
            obtain ⟨sc9, ia10, qa11, rf12, ba13⟩ := u
            obtain ⟨hu8_0, hu8_1, hu8_2, hu8_3, hu8_4⟩ := hu
            have hu8_0 : sc = sc9 := hu8_0
            have hu8_1 : ia = ia10 := hu8_1
            have hu8_2 : qa = qa11 := hu8_2
            have hu8_3 : ba = ba13 := hu8_3
            have hu8_4 : CI N L isA bk sc9 qa11 rf12 := hu8_4
            subst hu8_0
            subst hu8_1
            subst hu8_2
            subst hu8_3
            have hP : va_P (dC, dI) cls_ (CW cd kI kQ L isA bk sc ia qa rf12 ba) H := hP
            have hD : va_D A (CW cd kI kQ L isA bk sc ia qa rf12 ba) := hD
            have hC : CI N L isA bk sc qa rf12 := hu8_4
            refine W.eq (g2 := F0 m 49 ls []) rfl ?_
            refine W.cs (cells' := 0) (slots' := 0) rfl rfl ?_
            refine lv_iinc (k := 1) (v := nI (k + 1)) hx hb d_PL_takeRunning_49 hl rfl ((nI_succ k).symm) (by decide) rfl (fun ls hl => ?_)
            have hl : lv_has ls 4 [(2, .int (nI (k + 1))), (3, .ref a1), (1, .int x), (0, .ref (cd 3))] := hl
            refine lv_goto (tgt := 2) hx hb d_PL_takeRunning_52 (by decide) ?_
            have hl := lv_sub hl [0, 2, 3] (l' := [(2, .int (nI (k + 1))), (1, .int x), (0, .ref (cd 3))]) rfl
            exact ih_2 (k + 1) rf12 H _ ls (by omega) (by omega) hC hl hP hD hS
  have hl := lv_sub hl [0, 2, 1] (l' := [(2, .int 0), (1, .int x), (0, .ref (cd 3))]) rfl
  have hl : lv_has ls 4 [(2, .int (nI 0)), (1, .int x), (0, .ref (cd 3))] := hl
  exact J_2 ((M - 0) + 1) 0 rf s.heap _ ls (by omega) (by omega) hC hl hP hD hS
set_option maxHeartbeats 8000000 in
set_option maxRecDepth 100000 in
theorem k_PL_takeCores (l : Launch) (dC : Nat → ClassId) (dI : Nat → Nat → Nat) (cd : Nat → Nat) (kI kQ : ClassId) (L : List Nat) (isA : Nat → Bool) (bk : Nat → Nat) (sc : Nat → Int32) (ia : Nat → Nat → Int32) (qa : Nat → Nat → Option Nat) (rf ba : Nat → Nat → Int32) (sz Bd : Nat) (N : Nat) (hC : CI N L isA bk sc qa rf)  : Met l y_PL_takeCores w_PL_takeCores ({ frames := 3, cells := 0, slots := 0, locals := 70 }) (frP (dC, dI) (CW cd kI kQ L isA bk sc ia qa rf ba) (CT kI kQ) sz Bd [.ref (cd 3)]) (tQ (dC, dI) (cW cd kI kQ L isA bk) (va_A (CW cd kI kQ L isA bk sc ia qa rf ba) sz) vN (fun r u => sc = u.1 ∧ ia = u.2.1 ∧ qa = u.2.2.1 ∧ ba = u.2.2.2.2 ∧ CI N L isA bk u.1 u.2.2.1 u.2.2.2.1)) 0 0 (va_A (CW cd kI kQ L isA bk sc ia qa rf ba) sz) := by
  refine Met.ofW (cc := c_PL_takeCores) (maxL := 3) (ret := none) (by decide) rfl ?_
  intro p e s m args below meth c s₁ B hml hv
  obtain ⟨rfl, ⟨hsz, hBs⟩, hP, hK, hD0, hV⟩ := hv
  have hx := B.exec
  have hb := B.bytes
  have hr := B.returns
  have ht : ∀ w ∈ tb_, w.before _ s = true := fun w h => atoms_spec (ws := w_PL_takeCores) B.pre w (List.mem_cons_of_mem _ h)
  have hown : s.vm.findClass R_PL = some m.cls := findClass_of_methodNamed B.named
  have hlocks := B.notSynchronized
  subst hsz
  have hD := hD0.self (sz := s.heap.size)
  have hAB : ∀ q, va_A (CW cd kI kQ L isA bk sc ia qa rf ba) s.heap.size q → Bd ≤ q := fr_AB hD0 hBs
  generalize hAe : va_A (CW cd kI kQ L isA bk sc ia qa rf ba) s.heap.size = A at hD hAB ⊢
  have hA : ∀ q : Nat, s.heap.size ≤ q → A q := fun q h => by rw [← hAe]; exact Or.inr h
  have hS : va_S A s.heap s.heap [] := va_S.rf
  have hs : same [] sc sc := same.rf
  have hP : va_P (dC, dI) cls_ (CW cd kI kQ L isA bk sc ia qa rf ba) s.heap := hP
  have hl := lv_entry ([.ref (cd 3)]) (n := 3) (Nat.le_of_ble_eq_true rfl)
  rw [lg_entry_eq]
  generalize (lg_sl ([.ref (cd 3)]) ++ List.replicate (3 - (lg_sl ([.ref (cd 3)])).length) Slot.unset).toArray = ls at hl ⊢
  have hl : lv_has ls 3 [(0, .ref (cd 3))] := hl
  have hN := hC.1.1
  obtain ⟨M, hM, e3, hO⟩ := hC.2.2.1
  refine lv_iconst (v := 0) hx hb d_PL_takeCores_0 (by decide) ?_
  refine lv_istore_n hx hb d_PL_takeCores_1 rfl hl (by decide) rfl (fun ls hl => ?_)
  have hl : lv_has ls 3 [(1, .int 0), (0, .ref (cd 3))] := hl
  have J_2 : ∀ (n_2 : Nat) (k : Nat) (rf_2 : Nat → Nat → Int32) (H : Heap) (locs : List Loc) (ls : Array Slot), M - k < n_2 → k ≤ M → CI N L isA bk sc qa rf_2 → lv_has ls 3 [(1, .int (nI k)), (0, .ref (cd 3))] → va_P (dC, dI) cls_ (CW cd kI kQ L isA bk sc ia qa rf_2 ba) H → va_D A (CW cd kI kQ L isA bk sc ia qa rf_2 ba) → va_S A s.heap H locs → W p l e (headSpec w_PL_takeCores ({ frames := 3, cells := 0, slots := 0, locals := 70 })).room s m (([.ref (cd 3)] : List Value).toArray) below meth c H locs 0 0 (MQ below (tQ (dC, dI) (cW cd kI kQ L isA bk) A vN (fun r u => sc = u.1 ∧ ia = u.2.1 ∧ qa = u.2.2.1 ∧ ba = u.2.2.2.2 ∧ CI N L isA bk u.1 u.2.2.1 u.2.2.2.1)) (([.ref (cd 3)] : List Value).toArray) s 0 0 A) (F0 m 2 ls []) := by
    intro n_2
    induction n_2 with
    | zero => intro k rf_2 H locs ls hmu hc2_0 hC hl hP hD hS; exact absurd hmu (by omega)
    | succ n_2 ih_2 =>
      intro k rf_2 H locs ls hmu hc2_0 hC hl hP hD hS
      refine lv_iload_n hx hb d_PL_takeCores_2 rfl (lv_at hl 0 rfl) ?_
      refine lv_aload_n hx hb d_PL_takeCores_3 rfl (lv_at hl 1 rfl) ?_
      refine va_get (D := (dC, dI)) (ci := 1) (v := .int (sc 3)) (C := R_PL) (T := F_PL) (N := 2) hx hb ht in_PL hown hK hP 3 rfl rfl 1 (by decide) (ht _ tb_33) (fun _ h9 => h9) rfl d_PL_takeCores_4 ?_
      refine W.eq (g2 := F0 m 7 ls [.int (nI M), .int (nI k)]) (by rw [show sc 3 = nI M from e3]) ?_
      refine lv_icmp_ge (tgt := 61) hx hb d_PL_takeCores_7 (by decide) (fun h7_1 => ?_) (fun h7_1 => ?_)
      · have h7_1 := h7_1
        have i7_1 := ti_le h7_1
        (try rw [nI_toInt (show k < 2 ^ 31 by omega)] at i7_1)
        (try rw [nI_toInt (show M < 2 ^ 31 by omega)] at i7_1)
        exact W.vret hx hb hr (fun t ht9 hW => ⟨⟨(), (sc, ia, qa, rf_2, ba), rfl, ⟨rfl, rfl, rfl, rfl, hC⟩, by rw [ht9]; exact hP, hD⟩, hS.F ht9⟩) hS.2.2 d_PL_takeCores_61
      · have h7_1 := h7_1
        have i7_1 := ti_nle h7_1
        (try rw [nI_toInt (show k < 2 ^ 31 by omega)] at i7_1)
        (try rw [nI_toInt (show M < 2 ^ 31 by omega)] at i7_1)
        refine lv_aload_n hx hb d_PL_takeCores_10 rfl (lv_at hl 1 rfl) ?_
        refine va_get (D := (dC, dI)) (ci := 1) (v := .ref (cd 4)) (C := R_PL) (T := F_PL) (N := 2) hx hb ht in_PL hown hK hP 3 rfl rfl 0 (by decide) (ht _ tb_32) (fun _ h9 => h9) rfl d_PL_takeCores_11 ?_
        refine lv_iload_n hx hb d_PL_takeCores_14 rfl (lv_at hl 0 rfl) ?_
        refine va_aldq (C := "TwinTuners$Request") hx hb hK hP 4 1 rfl rfl (vp_in_nI (show k < 12 by omega) (by decide)) d_PL_takeCores_15 ?_
        obtain ⟨a1, ea1, haa1, hna1⟩ := hO k (by omega)
        refine W.eq (g2 := F0 m 16 ls [.ref a1]) (by rw [nI_clamp (show k < 2 ^ 31 by omega), ea1]; rfl) ?_
        refine lv_astore_n hx hb d_PL_takeCores_16 rfl hl (by decide) rfl (fun ls hl => ?_)
        have hl : lv_has ls 3 [(2, .ref a1), (1, .int (nI k)), (0, .ref (cd 3))] := hl
        refine lv_aload_n hx hb d_PL_takeCores_17 rfl (lv_at hl 0 rfl) ?_
        obtain ⟨kq, hkq⟩ := pq_at (X := CX cd kI kQ sc ia qa) (kI := kI) (bk := bk) (rf := rf_2) (ba := ba) haa1 hna1
        refine va_get (D := (dC, dI)) (ci := 4) (v := .int (rf_2 a1 8)) (C := R_RQ) (T := F_RQ) (N := 17) hx hb ht in_RQ hown hK hP kq hkq rfl 8 (by decide) (ht _ tb_393) (fun _ h9 => h9) rfl d_PL_takeCores_18 ?_
        refine lv_if_ne (tgt := 55) hx hb d_PL_takeCores_21 (by decide) (fun h21_2 => ?_) (fun h21_2 => ?_)
        · have h21_2 := h21_2
          have i21_2 := ti_ne h21_2
          (try rw [l_0] at i21_2)
          refine lv_iinc (k := 1) (v := nI (k + 1)) hx hb d_PL_takeCores_55 hl rfl ((nI_succ k).symm) (by decide) rfl (fun ls hl => ?_)
          have hl : lv_has ls 3 [(1, .int (nI (k + 1))), (2, .ref a1), (0, .ref (cd 3))] := hl
          refine lv_goto (tgt := 2) hx hb d_PL_takeCores_58 (by decide) ?_
          have hl := lv_sub hl [0, 2] (l' := [(1, .int (nI (k + 1))), (0, .ref (cd 3))]) rfl
          exact ih_2 (k + 1) rf_2 H _ ls (by omega) (by omega) hC hl hP hD hS
        · have h21_2 := h21_2
          have i21_2 := ti_eq h21_2
          (try rw [l_0] at i21_2)
          refine lv_aload_n hx hb d_PL_takeCores_24 rfl (lv_at hl 2 rfl) ?_
          refine lv_aload_n hx hb d_PL_takeCores_25 rfl (lv_at hl 0 rfl) ?_
          obtain ⟨kq, hkq⟩ := pq_at (X := CX cd kI kQ sc ia qa) (kI := kI) (bk := bk) (rf := rf_2) (ba := ba) haa1 hna1
          refine va_get (D := (dC, dI)) (ci := 4) (v := .int (rf_2 a1 1)) (C := R_RQ) (T := F_RQ) (N := 17) hx hb ht in_RQ hown hK hP kq hkq rfl 1 (by decide) (ht _ tb_375) (fun _ h9 => h9) rfl d_PL_takeCores_26 ?_
          refine lv_aload_n hx hb d_PL_takeCores_29 rfl (lv_at hl 0 rfl) ?_
          obtain ⟨kq, hkq⟩ := pq_at (X := CX cd kI kQ sc ia qa) (kI := kI) (bk := bk) (rf := rf_2) (ba := ba) haa1 hna1
          refine va_get (D := (dC, dI)) (ci := 4) (v := .int (rf_2 a1 2)) (C := R_RQ) (T := F_RQ) (N := 17) hx hb ht in_RQ hown hK hP kq hkq rfl 2 (by decide) (ht _ tb_378) (fun _ h9 => h9) rfl d_PL_takeCores_30 ?_
          refine lv_aload_n hx hb d_PL_takeCores_33 rfl (lv_at hl 0 rfl) ?_
          obtain ⟨kq, hkq⟩ := pq_at (X := CX cd kI kQ sc ia qa) (kI := kI) (bk := bk) (rf := rf_2) (ba := ba) haa1 hna1
          refine va_get (D := (dC, dI)) (ci := 4) (v := .int (rf_2 a1 3)) (C := R_RQ) (T := F_RQ) (N := 17) hx hb ht in_RQ hown hK hP kq hkq rfl 3 (by decide) (ht _ tb_381) (fun _ h9 => h9) rfl d_PL_takeCores_34 ?_
          refine r_call (va_runV (C := R_PL) (As := [.int (rf_2 a1 1), .int (rf_2 a1 2), .int (rf_2 a1 3)]) (rest := []) ⟨hx, hb, hml, hown, ht⟩ (k_PL_fits l dC dI cd kI kQ L isA bk sc ia qa rf_2 ba N hC (rf_2 a1 1) (rf_2 a1 2) (rf_2 a1 3)) (cwV 3 ht (gV tb_132 tb_134 ts_4 tb_2 tb_135) rfl rfl rfl (by decide +kernel) ⟨Nat.le_of_ble_eq_true rfl, Nat.le_of_ble_eq_true rfl⟩) ⟨rdP_blind, va_recv (q := (R_PL, F_PL, 2)) hK hP rfl (show (CW cd kI kQ L isA bk sc ia qa rf_2 ba : va_W)[3]? = some _ from rfl), rd_pre hP hK⟩ rfl rfl hl.1 rfl (lv_room (Nat.le_of_ble_eq_true rfl)) d_PL_takeCores_37 ⟨Nat.le_of_ble_eq_true rfl, Nat.le_of_ble_eq_true rfl⟩) (fun r2 hu => ?_)
          clear hu
          refine W.eq (g2 := F0 m 40 ls [.int r2]) rfl ?_
          refine lv_if_eq (tgt := 55) hx hb d_PL_takeCores_40 (by decide) (fun h40_3 => ?_) (fun h40_3 => ?_)
          · have h40_3 := h40_3
            have i40_3 := ti_eq h40_3
            (try rw [l_0] at i40_3)
            refine lv_iinc (k := 1) (v := nI (k + 1)) hx hb d_PL_takeCores_55 hl rfl ((nI_succ k).symm) (by decide) rfl (fun ls hl => ?_)
            have hl : lv_has ls 3 [(1, .int (nI (k + 1))), (2, .ref a1), (0, .ref (cd 3))] := hl
            refine lv_goto (tgt := 2) hx hb d_PL_takeCores_58 (by decide) ?_
            have hl := lv_sub hl [0, 2] (l' := [(1, .int (nI (k + 1))), (0, .ref (cd 3))]) rfl
            exact ih_2 (k + 1) rf_2 H _ ls (by omega) (by omega) hC hl hP hD hS
          · have h40_3 := h40_3
            have i40_3 := ti_ne h40_3
            (try rw [l_0] at i40_3)
            refine lv_aload_n hx hb d_PL_takeCores_43 rfl (lv_at hl 0 rfl) ?_
            refine lv_aload_n hx hb d_PL_takeCores_44 rfl (lv_at hl 0 rfl) ?_
            obtain ⟨kq, hkq⟩ := pq_at (X := CX cd kI kQ sc ia qa) (kI := kI) (bk := bk) (rf := rf_2) (ba := ba) haa1 hna1
            refine va_get (D := (dC, dI)) (ci := 4) (v := .int (rf_2 a1 2)) (C := R_RQ) (T := F_RQ) (N := 17) hx hb ht in_RQ hown hK hP kq hkq rfl 2 (by decide) (ht _ tb_378) (fun _ h9 => h9) rfl d_PL_takeCores_45 ?_
            refine lv_aload_n hx hb d_PL_takeCores_48 rfl (lv_at hl 0 rfl) ?_
            obtain ⟨kq, hkq⟩ := pq_at (X := CX cd kI kQ sc ia qa) (kI := kI) (bk := bk) (rf := rf_2) (ba := ba) haa1 hna1
            refine va_get (D := (dC, dI)) (ci := 4) (v := .int (rf_2 a1 3)) (C := R_RQ) (T := F_RQ) (N := 17) hx hb ht in_RQ hown hK hP kq hkq rfl 3 (by decide) (ht _ tb_381) (fun _ h9 => h9) rfl d_PL_takeCores_49 ?_
            obtain ⟨kq, hkq⟩ := pq_at (X := CX cd kI kQ sc ia qa) (kI := kI) (bk := bk) (rf := rf_2) (ba := ba) haa1 hna1
            refine t_call (u0 := (sc, ia, qa, rf_2, ba)) (va_runV (C := R_RQ) (As := [.int (rf_2 a1 2), .int (rf_2 a1 3)]) (rest := []) ⟨hx, hb, hml, hown, ht⟩ (k_RQ_takeStretch l dC dI cd kI kQ L isA bk sc ia qa rf_2 ba H.size Bd N hC a1 haa1 hna1 (rf_2 a1 2) (rf_2 a1 3)) (cwV 2 ht (gV tb_120 tb_121 tb_122 tb_11 tb_123) rfl rfl rfl (by decide +kernel) ⟨Nat.le_of_ble_eq_true rfl, Nat.le_of_ble_eq_true rfl⟩) ⟨frP_blind, va_recv (q := (R_RQ, F_RQ, 17)) hK hP rfl hkq, fr_pre hP hK hD hAB hBs hS hV⟩ rfl rfl hl.1 rfl (lv_room (Nat.le_of_ble_eq_true rfl)) d_PL_takeCores_52 ⟨Nat.le_of_ble_eq_true rfl, Nat.le_of_ble_eq_true rfl⟩) hD hS hA (fun r3 u H locs hu hP hD hS => ?_)
            obtain ⟨sc4, ia5, qa6, rf7, ba8⟩ := u
            obtain ⟨hu3_0, hu3_1, hu3_2, hu3_3, hu3_4⟩ := hu
            have hu3_0 : sc = sc4 := hu3_0
            have hu3_1 : ia = ia5 := hu3_1
            have hu3_2 : qa = qa6 := hu3_2
            have hu3_3 : ba = ba8 := hu3_3
            have hu3_4 : CI N L isA bk sc4 qa6 rf7 := hu3_4
            subst hu3_0
            subst hu3_1
            subst hu3_2
            subst hu3_3
            have hP : va_P (dC, dI) cls_ (CW cd kI kQ L isA bk sc ia qa rf7 ba) H := hP
            have hD : va_D A (CW cd kI kQ L isA bk sc ia qa rf7 ba) := hD
            have hC : CI N L isA bk sc qa rf7 := hu3_4
            refine W.eq (g2 := F0 m 55 ls []) rfl ?_
            refine W.cs (cells' := 0) (slots' := 0) rfl rfl ?_
            refine lv_iinc (k := 1) (v := nI (k + 1)) hx hb d_PL_takeCores_55 hl rfl ((nI_succ k).symm) (by decide) rfl (fun ls hl => ?_)
            have hl : lv_has ls 3 [(1, .int (nI (k + 1))), (2, .ref a1), (0, .ref (cd 3))] := hl
            refine lv_goto (tgt := 2) hx hb d_PL_takeCores_58 (by decide) ?_
            have hl := lv_sub hl [0, 2] (l' := [(1, .int (nI (k + 1))), (0, .ref (cd 3))]) rfl
            exact ih_2 (k + 1) rf7 H _ ls (by omega) (by omega) hC hl hP hD hS
  have hl := lv_sub hl [0, 1] (l' := [(1, .int 0), (0, .ref (cd 3))]) rfl
  have hl : lv_has ls 3 [(1, .int (nI 0)), (0, .ref (cd 3))] := hl
  exact J_2 ((M - 0) + 1) 0 rf s.heap _ ls (by omega) (by omega) hC hl hP hD hS
set_option maxHeartbeats 8000000 in
set_option maxRecDepth 100000 in
theorem k_PL_padRunning (l : Launch) (dC : Nat → ClassId) (dI : Nat → Nat → Nat) (cd : Nat → Nat) (kI kQ : ClassId) (L : List Nat) (isA : Nat → Bool) (bk : Nat → Nat) (sc : Nat → Int32) (ia : Nat → Nat → Int32) (qa : Nat → Nat → Option Nat) (rf ba : Nat → Nat → Int32) (sz Bd : Nat) (N : Nat) (hC : CI N L isA bk sc qa rf) (x : Int32) : Met l y_PL_padRunning w_PL_padRunning ({ frames := 4, cells := 0, slots := 0, locals := 92 }) (frP (dC, dI) (CW cd kI kQ L isA bk sc ia qa rf ba) (CT kI kQ) sz Bd [.ref (cd 3), .int x]) (tQ (dC, dI) (cW cd kI kQ L isA bk) (va_A (CW cd kI kQ L isA bk sc ia qa rf ba) sz) vN (fun r u => sc = u.1 ∧ ia = u.2.1 ∧ qa = u.2.2.1 ∧ ba = u.2.2.2.2 ∧ CI N L isA bk u.1 u.2.2.1 u.2.2.2.1)) 0 0 (va_A (CW cd kI kQ L isA bk sc ia qa rf ba) sz) := by
  refine Met.ofW (cc := c_PL_padRunning) (maxL := 3) (ret := none) (by decide) rfl ?_
  intro p e s m args below meth c s₁ B hml hv
  obtain ⟨rfl, ⟨hsz, hBs⟩, hP, hK, hD0, hV⟩ := hv
  have hx := B.exec
  have hb := B.bytes
  have hr := B.returns
  have ht : ∀ w ∈ tb_, w.before _ s = true := fun w h => atoms_spec (ws := w_PL_padRunning) B.pre w (List.mem_cons_of_mem _ h)
  have hown : s.vm.findClass R_PL = some m.cls := findClass_of_methodNamed B.named
  have hlocks := B.notSynchronized
  subst hsz
  have hD := hD0.self (sz := s.heap.size)
  have hAB : ∀ q, va_A (CW cd kI kQ L isA bk sc ia qa rf ba) s.heap.size q → Bd ≤ q := fr_AB hD0 hBs
  generalize hAe : va_A (CW cd kI kQ L isA bk sc ia qa rf ba) s.heap.size = A at hD hAB ⊢
  have hA : ∀ q : Nat, s.heap.size ≤ q → A q := fun q h => by rw [← hAe]; exact Or.inr h
  have hS : va_S A s.heap s.heap [] := va_S.rf
  have hs : same [] sc sc := same.rf
  have hP : va_P (dC, dI) cls_ (CW cd kI kQ L isA bk sc ia qa rf ba) s.heap := hP
  have hl := lv_entry ([.ref (cd 3), .int x]) (n := 3) (Nat.le_of_ble_eq_true rfl)
  rw [lg_entry_eq]
  generalize (lg_sl ([.ref (cd 3), .int x]) ++ List.replicate (3 - (lg_sl ([.ref (cd 3), .int x])).length) Slot.unset).toArray = ls at hl ⊢
  have hl : lv_has ls 3 [(0, .ref (cd 3)), (1, .int x)] := hl
  have hN := hC.1.1
  obtain ⟨M, hM, e3, hO⟩ := hC.2.2.1
  refine lv_iconst (v := 0) hx hb d_PL_padRunning_0 (by decide) ?_
  refine lv_istore_n hx hb d_PL_padRunning_1 rfl hl (by decide) rfl (fun ls hl => ?_)
  have hl : lv_has ls 3 [(2, .int 0), (0, .ref (cd 3)), (1, .int x)] := hl
  have J_2 : ∀ (n_2 : Nat) (k : Nat) (rf_2 : Nat → Nat → Int32) (H : Heap) (locs : List Loc) (ls : Array Slot), M - k < n_2 → k ≤ M → CI N L isA bk sc qa rf_2 → lv_has ls 3 [(2, .int (nI k)), (1, .int x), (0, .ref (cd 3))] → va_P (dC, dI) cls_ (CW cd kI kQ L isA bk sc ia qa rf_2 ba) H → va_D A (CW cd kI kQ L isA bk sc ia qa rf_2 ba) → va_S A s.heap H locs → W p l e (headSpec w_PL_padRunning ({ frames := 4, cells := 0, slots := 0, locals := 92 })).room s m (([.ref (cd 3), .int x] : List Value).toArray) below meth c H locs 0 0 (MQ below (tQ (dC, dI) (cW cd kI kQ L isA bk) A vN (fun r u => sc = u.1 ∧ ia = u.2.1 ∧ qa = u.2.2.1 ∧ ba = u.2.2.2.2 ∧ CI N L isA bk u.1 u.2.2.1 u.2.2.2.1)) (([.ref (cd 3), .int x] : List Value).toArray) s 0 0 A) (F0 m 2 ls []) := by
    intro n_2
    induction n_2 with
    | zero => intro k rf_2 H locs ls hmu hc2_0 hC hl hP hD hS; exact absurd hmu (by omega)
    | succ n_2 ih_2 =>
      intro k rf_2 H locs ls hmu hc2_0 hC hl hP hD hS
      refine lv_iload_n hx hb d_PL_padRunning_2 rfl (lv_at hl 0 rfl) ?_
      refine lv_aload_n hx hb d_PL_padRunning_3 rfl (lv_at hl 2 rfl) ?_
      refine va_get (D := (dC, dI)) (ci := 1) (v := .int (sc 3)) (C := R_PL) (T := F_PL) (N := 2) hx hb ht in_PL hown hK hP 3 rfl rfl 1 (by decide) (ht _ tb_33) (fun _ h9 => h9) rfl d_PL_padRunning_4 ?_
      refine W.eq (g2 := F0 m 7 ls [.int (nI M), .int (nI k)]) (by rw [show sc 3 = nI M from e3]) ?_
      refine lv_icmp_ge (tgt := 52) hx hb d_PL_padRunning_7 (by decide) (fun h7_1 => ?_) (fun h7_1 => ?_)
      · have h7_1 := h7_1
        have i7_1 := ti_le h7_1
        (try rw [nI_toInt (show k < 2 ^ 31 by omega)] at i7_1)
        (try rw [nI_toInt (show M < 2 ^ 31 by omega)] at i7_1)
        exact W.vret hx hb hr (fun t ht9 hW => ⟨⟨(), (sc, ia, qa, rf_2, ba), rfl, ⟨rfl, rfl, rfl, rfl, hC⟩, by rw [ht9]; exact hP, hD⟩, hS.F ht9⟩) hS.2.2 d_PL_padRunning_52
      · have h7_1 := h7_1
        have i7_1 := ti_nle h7_1
        (try rw [nI_toInt (show k < 2 ^ 31 by omega)] at i7_1)
        (try rw [nI_toInt (show M < 2 ^ 31 by omega)] at i7_1)
        refine lv_aload_n hx hb d_PL_padRunning_10 rfl (lv_at hl 2 rfl) ?_
        refine va_get (D := (dC, dI)) (ci := 1) (v := .ref (cd 4)) (C := R_PL) (T := F_PL) (N := 2) hx hb ht in_PL hown hK hP 3 rfl rfl 0 (by decide) (ht _ tb_32) (fun _ h9 => h9) rfl d_PL_padRunning_11 ?_
        refine lv_iload_n hx hb d_PL_padRunning_14 rfl (lv_at hl 0 rfl) ?_
        refine va_aldq (C := "TwinTuners$Request") hx hb hK hP 4 1 rfl rfl (vp_in_nI (show k < 12 by omega) (by decide)) d_PL_padRunning_15 ?_
        obtain ⟨a1, ea1, haa1, hna1⟩ := hO k (by omega)
        refine W.eq (g2 := F0 m 16 ls [.ref a1]) (by rw [nI_clamp (show k < 2 ^ 31 by omega), ea1]; rfl) ?_
        obtain ⟨kq, hkq⟩ := pq_at (X := CX cd kI kQ sc ia qa) (kI := kI) (bk := bk) (rf := rf_2) (ba := ba) haa1 hna1
        refine va_get (D := (dC, dI)) (ci := 4) (v := .int (rf_2 a1 8)) (C := R_RQ) (T := F_RQ) (N := 17) hx hb ht in_RQ hown hK hP kq hkq rfl 8 (by decide) (ht _ tb_393) (fun _ h9 => h9) rfl d_PL_padRunning_16 ?_
        refine lv_iconst (v := 1) hx hb d_PL_padRunning_19 (by decide) ?_
        refine lv_icmp_ne (tgt := 46) hx hb d_PL_padRunning_20 (by decide) (fun h20_2 => ?_) (fun h20_2 => ?_)
        · have h20_2 := h20_2
          have i20_2 := ti_ne h20_2
          (try rw [l_1] at i20_2)
          refine lv_iinc (k := 0) (v := nI (k + 1)) hx hb d_PL_padRunning_46 hl rfl ((nI_succ k).symm) (by decide) rfl (fun ls hl => ?_)
          have hl : lv_has ls 3 [(2, .int (nI (k + 1))), (1, .int x), (0, .ref (cd 3))] := hl
          refine lv_goto (tgt := 2) hx hb d_PL_padRunning_49 (by decide) ?_
          exact ih_2 (k + 1) rf_2 H _ ls (by omega) (by omega) hC hl hP hD hS
        · have h20_2 := h20_2
          have i20_2 := ti_eq h20_2
          (try rw [l_1] at i20_2)
          refine lv_aload_n hx hb d_PL_padRunning_23 rfl (lv_at hl 2 rfl) ?_
          refine va_get (D := (dC, dI)) (ci := 1) (v := .ref (cd 4)) (C := R_PL) (T := F_PL) (N := 2) hx hb ht in_PL hown hK hP 3 rfl rfl 0 (by decide) (ht _ tb_32) (fun _ h9 => h9) rfl d_PL_padRunning_24 ?_
          refine lv_iload_n hx hb d_PL_padRunning_27 rfl (lv_at hl 0 rfl) ?_
          refine va_aldq (C := "TwinTuners$Request") hx hb hK hP 4 1 rfl rfl (vp_in_nI (show k < 12 by omega) (by decide)) d_PL_padRunning_28 ?_
          obtain ⟨a2, ea2, haa2, hna2⟩ := hO k (by omega)
          refine W.eq (g2 := F0 m 29 ls [.ref a2]) (by rw [nI_clamp (show k < 2 ^ 31 by omega), ea2]; rfl) ?_
          obtain ⟨kq, hkq⟩ := pq_at (X := CX cd kI kQ sc ia qa) (kI := kI) (bk := bk) (rf := rf_2) (ba := ba) haa2 hna2
          refine va_get (D := (dC, dI)) (ci := 4) (v := .int (rf_2 a2 3)) (C := R_RQ) (T := F_RQ) (N := 17) hx hb ht in_RQ hown hK hP kq hkq rfl 3 (by decide) (ht _ tb_381) (fun _ h9 => h9) rfl d_PL_padRunning_29 ?_
          refine lv_iload_n hx hb d_PL_padRunning_32 rfl (lv_at hl 1 rfl) ?_
          refine lv_icmp_le (tgt := 46) hx hb d_PL_padRunning_33 (by decide) (fun h33_3 => ?_) (fun h33_3 => ?_)
          · have h33_3 := h33_3
            have i33_3 := ti_le h33_3
            refine lv_iinc (k := 0) (v := nI (k + 1)) hx hb d_PL_padRunning_46 hl rfl ((nI_succ k).symm) (by decide) rfl (fun ls hl => ?_)
            have hl : lv_has ls 3 [(2, .int (nI (k + 1))), (1, .int x), (0, .ref (cd 3))] := hl
            refine lv_goto (tgt := 2) hx hb d_PL_padRunning_49 (by decide) ?_
            exact ih_2 (k + 1) rf_2 H _ ls (by omega) (by omega) hC hl hP hD hS
          · have h33_3 := h33_3
            have i33_3 := ti_nle h33_3
            refine lv_aload_n hx hb d_PL_padRunning_36 rfl (lv_at hl 2 rfl) ?_
            refine lv_aload_n hx hb d_PL_padRunning_37 rfl (lv_at hl 2 rfl) ?_
            refine va_get (D := (dC, dI)) (ci := 1) (v := .ref (cd 4)) (C := R_PL) (T := F_PL) (N := 2) hx hb ht in_PL hown hK hP 3 rfl rfl 0 (by decide) (ht _ tb_32) (fun _ h9 => h9) rfl d_PL_padRunning_38 ?_
            refine lv_iload_n hx hb d_PL_padRunning_41 rfl (lv_at hl 0 rfl) ?_
            refine va_aldq (C := "TwinTuners$Request") hx hb hK hP 4 1 rfl rfl (vp_in_nI (show k < 12 by omega) (by decide)) d_PL_padRunning_42 ?_
            obtain ⟨a3, ea3, haa3, hna3⟩ := hO k (by omega)
            refine W.eq (g2 := F0 m 43 ls [.ref a3, .ref (cd 3)]) (by rw [nI_clamp (show k < 2 ^ 31 by omega), ea3]; rfl) ?_
            refine t_call (u0 := (sc, ia, qa, rf_2, ba)) (va_runV (C := R_PL) (As := [.ref a3]) (rest := []) ⟨hx, hb, hml, hown, ht⟩ (k_PL_takeAfter l dC dI cd kI kQ L isA bk sc ia qa rf_2 ba H.size Bd N hC a3 haa3 hna3) (cwV 1 ht (gV tb_150 tb_152 ts_7 tb_2 tb_153) rfl rfl rfl (by decide +kernel) ⟨Nat.le_of_ble_eq_true rfl, Nat.le_of_ble_eq_true rfl⟩) ⟨frP_blind, va_recv (q := (R_PL, F_PL, 2)) hK hP rfl (show (CW cd kI kQ L isA bk sc ia qa rf_2 ba : va_W)[3]? = some _ from rfl), fr_pre hP hK hD hAB hBs hS hV⟩ rfl rfl hl.1 rfl (lv_room (Nat.le_of_ble_eq_true rfl)) d_PL_padRunning_43 ⟨Nat.le_of_ble_eq_true rfl, Nat.le_of_ble_eq_true rfl⟩) hD hS hA (fun r4 u H locs hu hP hD hS => ?_)
            obtain ⟨sc5, ia6, qa7, rf8, ba9⟩ := u
            obtain ⟨hu4_0, hu4_1, hu4_2, hu4_3, hu4_4⟩ := hu
            have hu4_0 : sc = sc5 := hu4_0
            have hu4_1 : ia = ia6 := hu4_1
            have hu4_2 : qa = qa7 := hu4_2
            have hu4_3 : ba = ba9 := hu4_3
            have hu4_4 : CI N L isA bk sc5 qa7 rf8 := hu4_4
            subst hu4_0
            subst hu4_1
            subst hu4_2
            subst hu4_3
            have hP : va_P (dC, dI) cls_ (CW cd kI kQ L isA bk sc ia qa rf8 ba) H := hP
            have hD : va_D A (CW cd kI kQ L isA bk sc ia qa rf8 ba) := hD
            have hC : CI N L isA bk sc qa rf8 := hu4_4
            refine W.eq (g2 := F0 m 46 ls []) rfl ?_
            refine W.cs (cells' := 0) (slots' := 0) rfl rfl ?_
            refine lv_iinc (k := 0) (v := nI (k + 1)) hx hb d_PL_padRunning_46 hl rfl ((nI_succ k).symm) (by decide) rfl (fun ls hl => ?_)
            have hl : lv_has ls 3 [(2, .int (nI (k + 1))), (1, .int x), (0, .ref (cd 3))] := hl
            refine lv_goto (tgt := 2) hx hb d_PL_padRunning_49 (by decide) ?_
            exact ih_2 (k + 1) rf8 H _ ls (by omega) (by omega) hC hl hP hD hS
  have hl := lv_sub hl [0, 2, 1] (l' := [(2, .int 0), (1, .int x), (0, .ref (cd 3))]) rfl
  have hl : lv_has ls 3 [(2, .int (nI 0)), (1, .int x), (0, .ref (cd 3))] := hl
  exact J_2 ((M - 0) + 1) 0 rf s.heap _ ls (by omega) (by omega) hC hl hP hD hS
set_option maxHeartbeats 8000000 in
set_option maxRecDepth 100000 in
theorem k_PL_padWaiting (l : Launch) (dC : Nat → ClassId) (dI : Nat → Nat → Nat) (cd : Nat → Nat) (kI kQ : ClassId) (L : List Nat) (isA : Nat → Bool) (bk : Nat → Nat) (sc : Nat → Int32) (ia : Nat → Nat → Int32) (qa : Nat → Nat → Option Nat) (rf ba : Nat → Nat → Int32) (sz Bd : Nat) (N : Nat) (hC : CI N L isA bk sc qa rf) (x : Int32) : Met l y_PL_padWaiting w_PL_padWaiting ({ frames := 4, cells := 0, slots := 0, locals := 93 }) (frP (dC, dI) (CW cd kI kQ L isA bk sc ia qa rf ba) (CT kI kQ) sz Bd [.ref (cd 3), .int x]) (tQ (dC, dI) (cW cd kI kQ L isA bk) (va_A (CW cd kI kQ L isA bk sc ia qa rf ba) sz) vN (fun r u => sc = u.1 ∧ ia = u.2.1 ∧ qa = u.2.2.1 ∧ ba = u.2.2.2.2 ∧ CI N L isA bk u.1 u.2.2.1 u.2.2.2.1)) 0 0 (va_A (CW cd kI kQ L isA bk sc ia qa rf ba) sz) := by
  refine Met.ofW (cc := c_PL_padWaiting) (maxL := 4) (ret := none) (by decide) rfl ?_
  intro p e s m args below meth c s₁ B hml hv
  obtain ⟨rfl, ⟨hsz, hBs⟩, hP, hK, hD0, hV⟩ := hv
  have hx := B.exec
  have hb := B.bytes
  have hr := B.returns
  have ht : ∀ w ∈ tb_, w.before _ s = true := fun w h => atoms_spec (ws := w_PL_padWaiting) B.pre w (List.mem_cons_of_mem _ h)
  have hown : s.vm.findClass R_PL = some m.cls := findClass_of_methodNamed B.named
  have hlocks := B.notSynchronized
  subst hsz
  have hD := hD0.self (sz := s.heap.size)
  have hAB : ∀ q, va_A (CW cd kI kQ L isA bk sc ia qa rf ba) s.heap.size q → Bd ≤ q := fr_AB hD0 hBs
  generalize hAe : va_A (CW cd kI kQ L isA bk sc ia qa rf ba) s.heap.size = A at hD hAB ⊢
  have hA : ∀ q : Nat, s.heap.size ≤ q → A q := fun q h => by rw [← hAe]; exact Or.inr h
  have hS : va_S A s.heap s.heap [] := va_S.rf
  have hs : same [] sc sc := same.rf
  have hP : va_P (dC, dI) cls_ (CW cd kI kQ L isA bk sc ia qa rf ba) s.heap := hP
  have hl := lv_entry ([.ref (cd 3), .int x]) (n := 4) (Nat.le_of_ble_eq_true rfl)
  rw [lg_entry_eq]
  generalize (lg_sl ([.ref (cd 3), .int x]) ++ List.replicate (4 - (lg_sl ([.ref (cd 3), .int x])).length) Slot.unset).toArray = ls at hl ⊢
  have hl : lv_has ls 4 [(0, .ref (cd 3)), (1, .int x)] := hl
  have hN := hC.1.1
  obtain ⟨M, hM, e3, hO⟩ := hC.2.2.1
  refine lv_iconst (v := 0) hx hb d_PL_padWaiting_0 (by decide) ?_
  refine lv_istore_n hx hb d_PL_padWaiting_1 rfl hl (by decide) rfl (fun ls hl => ?_)
  have hl : lv_has ls 4 [(2, .int 0), (0, .ref (cd 3)), (1, .int x)] := hl
  have J_2 : ∀ (n_2 : Nat) (k : Nat) (rf_2 : Nat → Nat → Int32) (H : Heap) (locs : List Loc) (ls : Array Slot), M - k < n_2 → k ≤ M → CI N L isA bk sc qa rf_2 → lv_has ls 4 [(2, .int (nI k)), (1, .int x), (0, .ref (cd 3))] → va_P (dC, dI) cls_ (CW cd kI kQ L isA bk sc ia qa rf_2 ba) H → va_D A (CW cd kI kQ L isA bk sc ia qa rf_2 ba) → va_S A s.heap H locs → W p l e (headSpec w_PL_padWaiting ({ frames := 4, cells := 0, slots := 0, locals := 93 })).room s m (([.ref (cd 3), .int x] : List Value).toArray) below meth c H locs 0 0 (MQ below (tQ (dC, dI) (cW cd kI kQ L isA bk) A vN (fun r u => sc = u.1 ∧ ia = u.2.1 ∧ qa = u.2.2.1 ∧ ba = u.2.2.2.2 ∧ CI N L isA bk u.1 u.2.2.1 u.2.2.2.1)) (([.ref (cd 3), .int x] : List Value).toArray) s 0 0 A) (F0 m 2 ls []) := by
    intro n_2
    induction n_2 with
    | zero => intro k rf_2 H locs ls hmu hc2_0 hC hl hP hD hS; exact absurd hmu (by omega)
    | succ n_2 ih_2 =>
      intro k rf_2 H locs ls hmu hc2_0 hC hl hP hD hS
      refine lv_iload_n hx hb d_PL_padWaiting_2 rfl (lv_at hl 0 rfl) ?_
      refine lv_aload_n hx hb d_PL_padWaiting_3 rfl (lv_at hl 2 rfl) ?_
      refine va_get (D := (dC, dI)) (ci := 1) (v := .int (sc 3)) (C := R_PL) (T := F_PL) (N := 2) hx hb ht in_PL hown hK hP 3 rfl rfl 1 (by decide) (ht _ tb_33) (fun _ h9 => h9) rfl d_PL_padWaiting_4 ?_
      refine W.eq (g2 := F0 m 7 ls [.int (nI M), .int (nI k)]) (by rw [show sc 3 = nI M from e3]) ?_
      refine lv_icmp_ge (tgt := 48) hx hb d_PL_padWaiting_7 (by decide) (fun h7_1 => ?_) (fun h7_1 => ?_)
      · have h7_1 := h7_1
        have i7_1 := ti_le h7_1
        (try rw [nI_toInt (show k < 2 ^ 31 by omega)] at i7_1)
        (try rw [nI_toInt (show M < 2 ^ 31 by omega)] at i7_1)
        exact W.vret hx hb hr (fun t ht9 hW => ⟨⟨(), (sc, ia, qa, rf_2, ba), rfl, ⟨rfl, rfl, rfl, rfl, hC⟩, by rw [ht9]; exact hP, hD⟩, hS.F ht9⟩) hS.2.2 d_PL_padWaiting_48
      · have h7_1 := h7_1
        have i7_1 := ti_nle h7_1
        (try rw [nI_toInt (show k < 2 ^ 31 by omega)] at i7_1)
        (try rw [nI_toInt (show M < 2 ^ 31 by omega)] at i7_1)
        refine lv_aload_n hx hb d_PL_padWaiting_10 rfl (lv_at hl 2 rfl) ?_
        refine va_get (D := (dC, dI)) (ci := 1) (v := .ref (cd 4)) (C := R_PL) (T := F_PL) (N := 2) hx hb ht in_PL hown hK hP 3 rfl rfl 0 (by decide) (ht _ tb_32) (fun _ h9 => h9) rfl d_PL_padWaiting_11 ?_
        refine lv_iload_n hx hb d_PL_padWaiting_14 rfl (lv_at hl 0 rfl) ?_
        refine va_aldq (C := "TwinTuners$Request") hx hb hK hP 4 1 rfl rfl (vp_in_nI (show k < 12 by omega) (by decide)) d_PL_padWaiting_15 ?_
        obtain ⟨a1, ea1, haa1, hna1⟩ := hO k (by omega)
        refine W.eq (g2 := F0 m 16 ls [.ref a1]) (by rw [nI_clamp (show k < 2 ^ 31 by omega), ea1]; rfl) ?_
        refine lv_astore_n hx hb d_PL_padWaiting_16 rfl hl (by decide) rfl (fun ls hl => ?_)
        have hl : lv_has ls 4 [(3, .ref a1), (2, .int (nI k)), (1, .int x), (0, .ref (cd 3))] := hl
        refine lv_aload_n hx hb d_PL_padWaiting_17 rfl (lv_at hl 0 rfl) ?_
        obtain ⟨kq, hkq⟩ := pq_at (X := CX cd kI kQ sc ia qa) (kI := kI) (bk := bk) (rf := rf_2) (ba := ba) haa1 hna1
        refine va_get (D := (dC, dI)) (ci := 4) (v := .int (rf_2 a1 8)) (C := R_RQ) (T := F_RQ) (N := 17) hx hb ht in_RQ hown hK hP kq hkq rfl 8 (by decide) (ht _ tb_393) (fun _ h9 => h9) rfl d_PL_padWaiting_18 ?_
        refine lv_if_ne (tgt := 42) hx hb d_PL_padWaiting_21 (by decide) (fun h21_2 => ?_) (fun h21_2 => ?_)
        · have h21_2 := h21_2
          have i21_2 := ti_ne h21_2
          (try rw [l_0] at i21_2)
          refine lv_iinc (k := 1) (v := nI (k + 1)) hx hb d_PL_padWaiting_42 hl rfl ((nI_succ k).symm) (by decide) rfl (fun ls hl => ?_)
          have hl : lv_has ls 4 [(2, .int (nI (k + 1))), (3, .ref a1), (1, .int x), (0, .ref (cd 3))] := hl
          refine lv_goto (tgt := 2) hx hb d_PL_padWaiting_45 (by decide) ?_
          have hl := lv_sub hl [0, 2, 3] (l' := [(2, .int (nI (k + 1))), (1, .int x), (0, .ref (cd 3))]) rfl
          exact ih_2 (k + 1) rf_2 H _ ls (by omega) (by omega) hC hl hP hD hS
        · have h21_2 := h21_2
          have i21_2 := ti_eq h21_2
          (try rw [l_0] at i21_2)
          refine lv_aload_n hx hb d_PL_padWaiting_24 rfl (lv_at hl 0 rfl) ?_
          obtain ⟨kq, hkq⟩ := pq_at (X := CX cd kI kQ sc ia qa) (kI := kI) (bk := bk) (rf := rf_2) (ba := ba) haa1 hna1
          refine r_call (va_runV (C := R_RQ) (As := []) (rest := []) ⟨hx, hb, hml, hown, ht⟩ (k_RQ_isPlanned l dC dI cd kI kQ L isA bk sc ia qa rf_2 ba N hC a1 haa1 hna1) (cwV 0 ht (gV tb_158 tb_159 tb_160 tb_11 tb_161) rfl rfl rfl (by decide +kernel) ⟨Nat.le_of_ble_eq_true rfl, Nat.le_of_ble_eq_true rfl⟩) ⟨rdP_blind, va_recv (q := (R_RQ, F_RQ, 17)) hK hP rfl hkq, rd_pre hP hK⟩ rfl rfl hl.1 rfl (lv_room (Nat.le_of_ble_eq_true rfl)) d_PL_padWaiting_25 ⟨Nat.le_of_ble_eq_true rfl, Nat.le_of_ble_eq_true rfl⟩) (fun r2 hu => ?_)
          clear hu
          refine W.eq (g2 := F0 m 28 ls [.int r2]) rfl ?_
          refine lv_if_eq (tgt := 42) hx hb d_PL_padWaiting_28 (by decide) (fun h28_3 => ?_) (fun h28_3 => ?_)
          · have h28_3 := h28_3
            have i28_3 := ti_eq h28_3
            (try rw [l_0] at i28_3)
            refine lv_iinc (k := 1) (v := nI (k + 1)) hx hb d_PL_padWaiting_42 hl rfl ((nI_succ k).symm) (by decide) rfl (fun ls hl => ?_)
            have hl : lv_has ls 4 [(2, .int (nI (k + 1))), (3, .ref a1), (1, .int x), (0, .ref (cd 3))] := hl
            refine lv_goto (tgt := 2) hx hb d_PL_padWaiting_45 (by decide) ?_
            have hl := lv_sub hl [0, 2, 3] (l' := [(2, .int (nI (k + 1))), (1, .int x), (0, .ref (cd 3))]) rfl
            exact ih_2 (k + 1) rf_2 H _ ls (by omega) (by omega) hC hl hP hD hS
          · have h28_3 := h28_3
            have i28_3 := ti_ne h28_3
            (try rw [l_0] at i28_3)
            refine lv_aload_n hx hb d_PL_padWaiting_31 rfl (lv_at hl 3 rfl) ?_
            refine lv_aload_n hx hb d_PL_padWaiting_32 rfl (lv_at hl 0 rfl) ?_
            refine t_call (u0 := (sc, ia, qa, rf_2, ba)) (va_runV (C := R_PL) (As := [.ref a1]) (rest := []) ⟨hx, hb, hml, hown, ht⟩ (k_PL_takeAfter l dC dI cd kI kQ L isA bk sc ia qa rf_2 ba H.size Bd N hC a1 haa1 hna1) (cwV 1 ht (gV tb_150 tb_152 ts_7 tb_2 tb_153) rfl rfl rfl (by decide +kernel) ⟨Nat.le_of_ble_eq_true rfl, Nat.le_of_ble_eq_true rfl⟩) ⟨frP_blind, va_recv (q := (R_PL, F_PL, 2)) hK hP rfl (show (CW cd kI kQ L isA bk sc ia qa rf_2 ba : va_W)[3]? = some _ from rfl), fr_pre hP hK hD hAB hBs hS hV⟩ rfl rfl hl.1 rfl (lv_room (Nat.le_of_ble_eq_true rfl)) d_PL_padWaiting_33 ⟨Nat.le_of_ble_eq_true rfl, Nat.le_of_ble_eq_true rfl⟩) hD hS hA (fun r3 u H locs hu hP hD hS => ?_)
            obtain ⟨sc4, ia5, qa6, rf7, ba8⟩ := u
            obtain ⟨hu3_0, hu3_1, hu3_2, hu3_3, hu3_4⟩ := hu
            have hu3_0 : sc = sc4 := hu3_0
            have hu3_1 : ia = ia5 := hu3_1
            have hu3_2 : qa = qa6 := hu3_2
            have hu3_3 : ba = ba8 := hu3_3
            have hu3_4 : CI N L isA bk sc4 qa6 rf7 := hu3_4
            subst hu3_0
            subst hu3_1
            subst hu3_2
            subst hu3_3
            have hP : va_P (dC, dI) cls_ (CW cd kI kQ L isA bk sc ia qa rf7 ba) H := hP
            have hD : va_D A (CW cd kI kQ L isA bk sc ia qa rf7 ba) := hD
            have hC : CI N L isA bk sc qa rf7 := hu3_4
            refine W.eq (g2 := F0 m 36 ls []) rfl ?_
            refine W.cs (cells' := 0) (slots' := 0) rfl rfl ?_
            refine lv_aload_n hx hb d_PL_padWaiting_36 rfl (lv_at hl 3 rfl) ?_
            refine lv_aload_n hx hb d_PL_padWaiting_37 rfl (lv_at hl 0 rfl) ?_
            refine lv_iload_n hx hb d_PL_padWaiting_38 rfl (lv_at hl 2 rfl) ?_
            refine t_call (u0 := (sc, ia, qa, rf7, ba)) (va_runV (C := R_PL) (As := [.ref a1, .int x]) (rest := []) ⟨hx, hb, hml, hown, ht⟩ (k_PL_takeBefore l dC dI cd kI kQ L isA bk sc ia qa rf7 ba H.size Bd N hC a1 haa1 hna1 x) (cwV 2 ht (gV tb_162 tb_164 ts_9 tb_2 tb_165) rfl rfl rfl (by decide +kernel) ⟨Nat.le_of_ble_eq_true rfl, Nat.le_of_ble_eq_true rfl⟩) ⟨frP_blind, va_recv (q := (R_PL, F_PL, 2)) hK hP rfl (show (CW cd kI kQ L isA bk sc ia qa rf7 ba : va_W)[3]? = some _ from rfl), fr_pre hP hK hD hAB hBs hS hV⟩ rfl rfl hl.1 rfl (lv_room (Nat.le_of_ble_eq_true rfl)) d_PL_padWaiting_39 ⟨Nat.le_of_ble_eq_true rfl, Nat.le_of_ble_eq_true rfl⟩) hD hS hA (fun r9 u H locs hu hP hD hS => ?_)
            obtain ⟨sc10, ia11, qa12, rf13, ba14⟩ := u
            obtain ⟨hu9_0, hu9_1, hu9_2, hu9_3, hu9_4⟩ := hu
            have hu9_0 : sc = sc10 := hu9_0
            have hu9_1 : ia = ia11 := hu9_1
            have hu9_2 : qa = qa12 := hu9_2
            have hu9_3 : ba = ba14 := hu9_3
            have hu9_4 : CI N L isA bk sc10 qa12 rf13 := hu9_4
            subst hu9_0
            subst hu9_1
            subst hu9_2
            subst hu9_3
            have hP : va_P (dC, dI) cls_ (CW cd kI kQ L isA bk sc ia qa rf13 ba) H := hP
            have hD : va_D A (CW cd kI kQ L isA bk sc ia qa rf13 ba) := hD
            have hC : CI N L isA bk sc qa rf13 := hu9_4
            refine W.eq (g2 := F0 m 42 ls []) rfl ?_
            refine W.cs (cells' := 0) (slots' := 0) rfl rfl ?_
            refine lv_iinc (k := 1) (v := nI (k + 1)) hx hb d_PL_padWaiting_42 hl rfl ((nI_succ k).symm) (by decide) rfl (fun ls hl => ?_)
            have hl : lv_has ls 4 [(2, .int (nI (k + 1))), (3, .ref a1), (1, .int x), (0, .ref (cd 3))] := hl
            refine lv_goto (tgt := 2) hx hb d_PL_padWaiting_45 (by decide) ?_
            have hl := lv_sub hl [0, 2, 3] (l' := [(2, .int (nI (k + 1))), (1, .int x), (0, .ref (cd 3))]) rfl
            exact ih_2 (k + 1) rf13 H _ ls (by omega) (by omega) hC hl hP hD hS
  have hl := lv_sub hl [0, 2, 1] (l' := [(2, .int 0), (1, .int x), (0, .ref (cd 3))]) rfl
  have hl : lv_has ls 4 [(2, .int (nI 0)), (1, .int x), (0, .ref (cd 3))] := hl
  exact J_2 ((M - 0) + 1) 0 rf s.heap _ ls (by omega) (by omega) hC hl hP hD hS
