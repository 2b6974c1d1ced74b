abbrev c_TT_isWithin : ByteArray := prog_1_method_23_code
abbrev y_TT_isWithin : MethodName := ⟨"TwinTuners", "isWithin", "(III)Z"⟩
def w_TT_isWithin : List Cond := .code y_TT_isWithin c_TT_isWithin 3 (some .boolean) :: tb_
abbrev c_TT_isChannel : ByteArray := prog_1_method_24_code
abbrev y_TT_isChannel : MethodName := ⟨"TwinTuners", "isChannel", "(I)Z"⟩
def w_TT_isChannel : List Cond := .code y_TT_isChannel c_TT_isChannel 1 (some .boolean) :: tb_
abbrev c_JI_bitCount : ByteArray := prog_12_method_49_code
abbrev y_JI_bitCount : MethodName := ⟨"java/lang/Integer", "bitCount", "(I)I"⟩
def w_JI_bitCount : List Cond := .code y_JI_bitCount c_JI_bitCount 1 (some .int) :: tb_
abbrev c_RQ_isOpen : ByteArray := prog_4_method_2_code
abbrev y_RQ_isOpen : MethodName := ⟨"TwinTuners$Request", "isOpen", "()Z"⟩
def w_RQ_isOpen : List Cond := .code y_RQ_isOpen c_RQ_isOpen 1 (some .boolean) :: tb_
abbrev c_RQ_isRecording : ByteArray := prog_4_method_3_code
abbrev y_RQ_isRecording : MethodName := ⟨"TwinTuners$Request", "isRecording", "()Z"⟩
def w_RQ_isRecording : List Cond := .code y_RQ_isRecording c_RQ_isRecording 1 (some .boolean) :: tb_
abbrev c_RQ_isPlanned : ByteArray := prog_4_method_4_code
abbrev y_RQ_isPlanned : MethodName := ⟨"TwinTuners$Request", "isPlanned", "()Z"⟩
def w_RQ_isPlanned : List Cond := .code y_RQ_isPlanned c_RQ_isPlanned 1 (some .boolean) :: tb_
abbrev c_RQ_takeStretch : ByteArray := prog_4_method_5_code
abbrev y_RQ_takeStretch : MethodName := ⟨"TwinTuners$Request", "takeStretch", "(II)V"⟩
def w_RQ_takeStretch : List Cond := .code y_RQ_takeStretch c_RQ_takeStretch 3 none :: tb_
abbrev c_RQ_finishAt : ByteArray := prog_4_method_7_code
abbrev y_RQ_finishAt : MethodName := ⟨"TwinTuners$Request", "finishAt", "(I)V"⟩
def w_RQ_finishAt : List Cond := .code y_RQ_finishAt c_RQ_finishAt 2 none :: tb_
abbrev c_RQ_follow : ByteArray := prog_4_method_6_code
abbrev y_RQ_follow : MethodName := ⟨"TwinTuners$Request", "follow", "(I)V"⟩
def w_RQ_follow : List Cond := .code y_RQ_follow c_RQ_follow 2 none :: tb_
abbrev c_RQ_goesBefore : ByteArray := prog_4_method_8_code
abbrev y_RQ_goesBefore : MethodName := ⟨"TwinTuners$Request", "goesBefore", "(LTwinTuners$Request;)Z"⟩
def w_RQ_goesBefore : List Cond := .code y_RQ_goesBefore c_RQ_goesBefore 2 (some .boolean) :: tb_
abbrev c_DK_segmentsOf : ByteArray := prog_2_method_3_code
abbrev y_DK_segmentsOf : MethodName := ⟨"TwinTuners$Disk", "segmentsOf", "(I)I"⟩
def w_DK_segmentsOf : List Cond := .code y_DK_segmentsOf c_DK_segmentsOf 4 (some .int) :: tb_
abbrev c_DK_freeSegments : ByteArray := prog_2_method_2_code
abbrev y_DK_freeSegments : MethodName := ⟨"TwinTuners$Disk", "freeSegments", "()I"⟩
def w_DK_freeSegments : List Cond := .code y_DK_freeSegments c_DK_freeSegments 1 (some .int) :: tb_
abbrev c_DK_slotOf : ByteArray := prog_2_method_5_code
abbrev y_DK_slotOf : MethodName := ⟨"TwinTuners$Disk", "slotOf", "(II)I"⟩
def w_DK_slotOf : List Cond := .code y_DK_slotOf c_DK_slotOf 4 (some .int) :: tb_
abbrev c_DK_take : ByteArray := prog_2_method_6_code
abbrev y_DK_take : MethodName := ⟨"TwinTuners$Disk", "take", "(II)I"⟩
def w_DK_take : List Cond := .code y_DK_take c_DK_take 4 (some .int) :: tb_
abbrev c_DK_release : ByteArray := prog_2_method_9_code
abbrev y_DK_release : MethodName := ⟨"TwinTuners$Disk", "release", "(I)I"⟩
def w_DK_release : List Cond := .code y_DK_release c_DK_release 4 (some .int) :: tb_
abbrev c_DK_secondsOf : ByteArray := prog_2_method_4_code
abbrev y_DK_secondsOf : MethodName := ⟨"TwinTuners$Disk", "secondsOf", "(I)I"⟩
def w_DK_secondsOf : List Cond := .code y_DK_secondsOf c_DK_secondsOf 4 (some .int) :: tb_
abbrev c_DK_loseSegment : ByteArray := prog_2_method_10_code
abbrev y_DK_loseSegment : MethodName := ⟨"TwinTuners$Disk", "loseSegment", "(II)I"⟩
def w_DK_loseSegment : List Cond := .code y_DK_loseSegment c_DK_loseSegment 4 (some .int) :: tb_
set_option maxRecDepth 100000 in
theorem tb_1 : (.initialized "TwinTuners" : Cond) ∈ tb_ := tb_w 1 rfl rfl
set_option maxRecDepth 100000 in
theorem tb_3 : (.initialized "TwinTuners$Disk" : Cond) ∈ tb_ := tb_w 3 rfl rfl
set_option maxRecDepth 100000 in
theorem tb_11 : (.initialized "TwinTuners$Request" : Cond) ∈ tb_ := tb_w 11 rfl rfl
set_option maxRecDepth 100000 in
theorem tb_13 : (.initialized "java/lang/Integer" : Cond) ∈ tb_ := tb_w 13 rfl rfl
set_option maxRecDepth 100000 in
theorem tb_46 : (.fieldLink "TwinTuners$Disk" 9 "TwinTuners$Disk" "owner" "[I" : Cond) ∈ tb_ := tb_w 46 rfl rfl
set_option maxRecDepth 100000 in
theorem tb_47 : (.fieldLink "TwinTuners$Disk" 15 "TwinTuners$Disk" "segmentIn" "[I" : Cond) ∈ tb_ := tb_w 47 rfl rfl
set_option maxRecDepth 100000 in
theorem tb_48 : (.fieldLink "TwinTuners$Disk" 18 "TwinTuners$Disk" "filled" "[I" : Cond) ∈ tb_ := tb_w 48 rfl rfl
set_option maxRecDepth 100000 in
theorem tb_115 : (.code ⟨"TwinTuners$Request", "isOpen", "()Z"⟩ prog_4_method_2_code 1 (some .boolean) : Cond) ∈ tb_ := tb_w 115 rfl rfl
set_option maxRecDepth 100000 in
theorem tb_123 : (.code ⟨"TwinTuners$Request", "takeStretch", "(II)V"⟩ prog_4_method_5_code 3 none : Cond) ∈ tb_ := tb_w 123 rfl rfl
set_option maxRecDepth 100000 in
theorem tb_141 : (.static ⟨"java/lang/Integer", "bitCount", "(I)I"⟩ : Cond) ∈ tb_ := tb_w 141 rfl rfl
set_option maxRecDepth 100000 in
theorem tb_142 : (.code ⟨"java/lang/Integer", "bitCount", "(I)I"⟩ prog_12_method_49_code 1 (some .int) : Cond) ∈ tb_ := tb_w 142 rfl rfl
set_option maxRecDepth 100000 in
theorem tb_143 : (.constant "java/lang/Integer" 265 (1431655765) : Cond) ∈ tb_ := tb_w 143 rfl rfl
set_option maxRecDepth 100000 in
theorem tb_144 : (.constant "java/lang/Integer" 266 (858993459) : Cond) ∈ tb_ := tb_w 144 rfl rfl
set_option maxRecDepth 100000 in
theorem tb_145 : (.constant "java/lang/Integer" 267 (252645135) : Cond) ∈ tb_ := tb_w 145 rfl rfl
set_option maxRecDepth 100000 in
theorem tb_159 : (.instanceMethod ⟨"TwinTuners$Request", "isPlanned", "()Z"⟩ : Cond) ∈ tb_ := tb_w 159 rfl rfl
set_option maxRecDepth 100000 in
theorem tb_160 : (.selects "TwinTuners$Request" ⟨"TwinTuners$Request", "isPlanned", "()Z"⟩ ⟨"TwinTuners$Request", "isPlanned", "()Z"⟩ : Cond) ∈ tb_ := tb_w 160 rfl rfl
set_option maxRecDepth 100000 in
theorem tb_161 : (.code ⟨"TwinTuners$Request", "isPlanned", "()Z"⟩ prog_4_method_4_code 1 (some .boolean) : Cond) ∈ tb_ := tb_w 161 rfl rfl
set_option maxRecDepth 100000 in
theorem tb_169 : (.code ⟨"TwinTuners$Request", "follow", "(I)V"⟩ prog_4_method_6_code 2 none : Cond) ∈ tb_ := tb_w 169 rfl rfl
set_option maxRecDepth 100000 in
theorem tb_170 : (.methodLink "TwinTuners$Request" 65 ⟨"TwinTuners$Request", "isPlanned", "()Z"⟩ : Cond) ∈ tb_ := tb_w 170 rfl rfl
set_option maxRecDepth 100000 in
theorem tb_185 : (.instanceMethod ⟨"TwinTuners$Disk", "slotOf", "(II)I"⟩ : Cond) ∈ tb_ := tb_w 185 rfl rfl
set_option maxRecDepth 100000 in
theorem tb_186 : (.selects "TwinTuners$Disk" ⟨"TwinTuners$Disk", "slotOf", "(II)I"⟩ ⟨"TwinTuners$Disk", "slotOf", "(II)I"⟩ : Cond) ∈ tb_ := tb_w 186 rfl rfl
set_option maxRecDepth 100000 in
theorem tb_187 : (.code ⟨"TwinTuners$Disk", "slotOf", "(II)I"⟩ prog_2_method_5_code 4 (some .int) : Cond) ∈ tb_ := tb_w 187 rfl rfl
set_option maxRecDepth 100000 in
theorem tb_191 : (.code ⟨"TwinTuners$Disk", "freeSegments", "()I"⟩ prog_2_method_2_code 1 (some .int) : Cond) ∈ tb_ := tb_w 191 rfl rfl
set_option maxRecDepth 100000 in
theorem tb_192 : (.methodLink "TwinTuners$Disk" 24 ⟨"TwinTuners$Disk", "segmentsOf", "(I)I"⟩ : Cond) ∈ tb_ := tb_w 192 rfl rfl
set_option maxRecDepth 100000 in
theorem tb_193 : (.instanceMethod ⟨"TwinTuners$Disk", "segmentsOf", "(I)I"⟩ : Cond) ∈ tb_ := tb_w 193 rfl rfl
set_option maxRecDepth 100000 in
theorem tb_194 : (.selects "TwinTuners$Disk" ⟨"TwinTuners$Disk", "segmentsOf", "(I)I"⟩ ⟨"TwinTuners$Disk", "segmentsOf", "(I)I"⟩ : Cond) ∈ tb_ := tb_w 194 rfl rfl
set_option maxRecDepth 100000 in
theorem tb_195 : (.code ⟨"TwinTuners$Disk", "segmentsOf", "(I)I"⟩ prog_2_method_3_code 4 (some .int) : Cond) ∈ tb_ := tb_w 195 rfl rfl
set_option maxRecDepth 100000 in
theorem tb_208 : (.code ⟨"TwinTuners$Request", "goesBefore", "(LTwinTuners$Request;)Z"⟩ prog_4_method_8_code 2 (some .boolean) : Cond) ∈ tb_ := tb_w 208 rfl rfl
set_option maxRecDepth 100000 in
theorem tb_216 : (.code ⟨"TwinTuners$Disk", "release", "(I)I"⟩ prog_2_method_9_code 4 (some .int) : Cond) ∈ tb_ := tb_w 216 rfl rfl
set_option maxRecDepth 100000 in
theorem tb_220 : (.code ⟨"TwinTuners$Disk", "take", "(II)I"⟩ prog_2_method_6_code 4 (some .int) : Cond) ∈ tb_ := tb_w 220 rfl rfl
set_option maxRecDepth 100000 in
theorem tb_226 : (.static ⟨"TwinTuners", "isWithin", "(III)Z"⟩ : Cond) ∈ tb_ := tb_w 226 rfl rfl
set_option maxRecDepth 100000 in
theorem tb_227 : (.code ⟨"TwinTuners", "isWithin", "(III)Z"⟩ prog_1_method_23_code 3 (some .boolean) : Cond) ∈ tb_ := tb_w 227 rfl rfl
set_option maxRecDepth 100000 in
theorem tb_272 : (.code ⟨"TwinTuners", "isChannel", "(I)Z"⟩ prog_1_method_24_code 1 (some .boolean) : Cond) ∈ tb_ := tb_w 272 rfl rfl
set_option maxRecDepth 100000 in
theorem tb_273 : (.methodLink "TwinTuners" 57 ⟨"TwinTuners", "isWithin", "(III)Z"⟩ : Cond) ∈ tb_ := tb_w 273 rfl rfl
set_option maxRecDepth 100000 in
theorem tb_377 : (.fieldLink "TwinTuners$Request" 50 "TwinTuners$Request" "start" "I" : Cond) ∈ tb_ := tb_w 377 rfl rfl
set_option maxRecDepth 100000 in
theorem tb_383 : (.fieldLink "TwinTuners$Request" 56 "TwinTuners$Request" "priority" "I" : Cond) ∈ tb_ := tb_w 383 rfl rfl
set_option maxRecDepth 100000 in
theorem tb_391 : (.fieldLink "TwinTuners$Request" 15 "TwinTuners$Request" "phase" "I" : Cond) ∈ tb_ := tb_w 391 rfl rfl
set_option maxRecDepth 100000 in
theorem tb_394 : (.fieldLink "TwinTuners$Request" 19 "TwinTuners$Request" "from" "I" : Cond) ∈ tb_ := tb_w 394 rfl rfl
set_option maxRecDepth 100000 in
theorem tb_396 : (.fieldLink "TwinTuners$Request" 22 "TwinTuners$Request" "end" "I" : Cond) ∈ tb_ := tb_w 396 rfl rfl
set_option maxRecDepth 100000 in
theorem tb_399 : (.fieldLink "TwinTuners$Request" 25 "TwinTuners$Request" "takenFrom" "I" : Cond) ∈ tb_ := tb_w 399 rfl rfl
set_option maxRecDepth 100000 in
theorem tb_402 : (.fieldLink "TwinTuners$Request" 28 "TwinTuners$Request" "takenTo" "I" : Cond) ∈ tb_ := tb_w 402 rfl rfl
set_option maxRecDepth 100000 in
theorem tb_411 : (.fieldLink "TwinTuners$Request" 41 "TwinTuners$Request" "isSeen" "Z" : Cond) ∈ tb_ := tb_w 411 rfl rfl
set_option maxRecDepth 100000 in
theorem tb_480 : (.code ⟨"TwinTuners$Request", "finishAt", "(I)V"⟩ prog_4_method_7_code 2 none : Cond) ∈ tb_ := tb_w 480 rfl rfl
set_option maxRecDepth 100000 in
theorem tb_538 : (.methodLink "TwinTuners$Disk" 39 ⟨"TwinTuners$Disk", "slotOf", "(II)I"⟩ : Cond) ∈ tb_ := tb_w 538 rfl rfl
set_option maxRecDepth 100000 in
theorem tb_550 : (.code ⟨"TwinTuners$Disk", "secondsOf", "(I)I"⟩ prog_2_method_4_code 4 (some .int) : Cond) ∈ tb_ := tb_w 550 rfl rfl
set_option maxRecDepth 100000 in
theorem tb_551 : (.methodLink "TwinTuners$Disk" 28 ⟨"java/lang/Integer", "bitCount", "(I)I"⟩ : Cond) ∈ tb_ := tb_w 551 rfl rfl
set_option maxRecDepth 100000 in
theorem tb_573 : (.code ⟨"TwinTuners$Request", "isRecording", "()Z"⟩ prog_4_method_3_code 1 (some .boolean) : Cond) ∈ tb_ := tb_w 573 rfl rfl
set_option maxRecDepth 100000 in
theorem tb_621 : (.code ⟨"TwinTuners$Disk", "loseSegment", "(II)I"⟩ prog_2_method_10_code 4 (some .int) : Cond) ∈ tb_ := tb_w 621 rfl rfl
theorem d_DK_freeSegments_0 : decode c_DK_freeSegments 0 = .ok (.aload_n 0, 1) := by decide +kernel
theorem d_DK_freeSegments_1 : decode c_DK_freeSegments 1 = .ok (.iconst (-1), 1) := by decide +kernel
theorem d_DK_freeSegments_2 : decode c_DK_freeSegments 2 = .ok (.invokevirtual 24, 3) := by decide +kernel
theorem d_DK_freeSegments_5 : decode c_DK_freeSegments 5 = .ok (.ireturn, 1) := by decide +kernel
theorem d_DK_loseSegment_0 : decode c_DK_loseSegment 0 = .ok (.aload_n 0, 1) := by decide +kernel
theorem d_DK_loseSegment_1 : decode c_DK_loseSegment 1 = .ok (.iload_n 1, 1) := by decide +kernel
theorem d_DK_loseSegment_2 : decode c_DK_loseSegment 2 = .ok (.iload_n 2, 1) := by decide +kernel
theorem d_DK_loseSegment_3 : decode c_DK_loseSegment 3 = .ok (.invokevirtual 39, 3) := by decide +kernel
theorem d_DK_loseSegment_6 : decode c_DK_loseSegment 6 = .ok (.istore_n 3, 1) := by decide +kernel
theorem d_DK_loseSegment_7 : decode c_DK_loseSegment 7 = .ok (.iload_n 3, 1) := by decide +kernel
theorem d_DK_loseSegment_8 : decode c_DK_loseSegment 8 = .ok (.iconst (-1), 1) := by decide +kernel
theorem d_DK_loseSegment_9 : decode c_DK_loseSegment 9 = .ok (.if_icmp .ne 5, 3) := by decide +kernel
theorem d_DK_loseSegment_12 : decode c_DK_loseSegment 12 = .ok (.iconst 0, 1) := by decide +kernel
theorem d_DK_loseSegment_13 : decode c_DK_loseSegment 13 = .ok (.ireturn, 1) := by decide +kernel
theorem d_DK_loseSegment_14 : decode c_DK_loseSegment 14 = .ok (.aload_n 0, 1) := by decide +kernel
theorem d_DK_loseSegment_15 : decode c_DK_loseSegment 15 = .ok (.getfield 9, 3) := by decide +kernel
theorem d_DK_loseSegment_18 : decode c_DK_loseSegment 18 = .ok (.iload_n 3, 1) := by decide +kernel
theorem d_DK_loseSegment_19 : decode c_DK_loseSegment 19 = .ok (.iconst (-1), 1) := by decide +kernel
theorem d_DK_loseSegment_20 : decode c_DK_loseSegment 20 = .ok (.iastore, 1) := by decide +kernel
theorem d_DK_loseSegment_21 : decode c_DK_loseSegment 21 = .ok (.aload_n 0, 1) := by decide +kernel
theorem d_DK_loseSegment_22 : decode c_DK_loseSegment 22 = .ok (.getfield 18, 3) := by decide +kernel
theorem d_DK_loseSegment_25 : decode c_DK_loseSegment 25 = .ok (.iload_n 3, 1) := by decide +kernel
theorem d_DK_loseSegment_26 : decode c_DK_loseSegment 26 = .ok (.iaload, 1) := by decide +kernel
theorem d_DK_loseSegment_27 : decode c_DK_loseSegment 27 = .ok (.invokestatic 28, 3) := by decide +kernel
theorem d_DK_loseSegment_30 : decode c_DK_loseSegment 30 = .ok (.ireturn, 1) := by decide +kernel
theorem d_DK_release_0 : decode c_DK_release 0 = .ok (.iconst 0, 1) := by decide +kernel
theorem d_DK_release_1 : decode c_DK_release 1 = .ok (.istore_n 2, 1) := by decide +kernel
theorem d_DK_release_2 : decode c_DK_release 2 = .ok (.iconst 0, 1) := by decide +kernel
theorem d_DK_release_3 : decode c_DK_release 3 = .ok (.istore_n 3, 1) := by decide +kernel
theorem d_DK_release_4 : decode c_DK_release 4 = .ok (.iload_n 3, 1) := by decide +kernel
theorem d_DK_release_5 : decode c_DK_release 5 = .ok (.bipush 24, 2) := by decide +kernel
theorem d_DK_release_7 : decode c_DK_release 7 = .ok (.if_icmp .ge 29, 3) := by decide +kernel
theorem d_DK_release_10 : decode c_DK_release 10 = .ok (.aload_n 0, 1) := by decide +kernel
theorem d_DK_release_11 : decode c_DK_release 11 = .ok (.getfield 9, 3) := by decide +kernel
theorem d_DK_release_14 : decode c_DK_release 14 = .ok (.iload_n 3, 1) := by decide +kernel
theorem d_DK_release_15 : decode c_DK_release 15 = .ok (.iaload, 1) := by decide +kernel
theorem d_DK_release_16 : decode c_DK_release 16 = .ok (.iload_n 1, 1) := by decide +kernel
theorem d_DK_release_17 : decode c_DK_release 17 = .ok (.if_icmp .ne 13, 3) := by decide +kernel
theorem d_DK_release_20 : decode c_DK_release 20 = .ok (.aload_n 0, 1) := by decide +kernel
theorem d_DK_release_21 : decode c_DK_release 21 = .ok (.getfield 9, 3) := by decide +kernel
theorem d_DK_release_24 : decode c_DK_release 24 = .ok (.iload_n 3, 1) := by decide +kernel
theorem d_DK_release_25 : decode c_DK_release 25 = .ok (.iconst (-1), 1) := by decide +kernel
theorem d_DK_release_26 : decode c_DK_release 26 = .ok (.iastore, 1) := by decide +kernel
theorem d_DK_release_27 : decode c_DK_release 27 = .ok (.iinc 2 1, 3) := by decide +kernel
theorem d_DK_release_30 : decode c_DK_release 30 = .ok (.iinc 3 1, 3) := by decide +kernel
theorem d_DK_release_33 : decode c_DK_release 33 = .ok (.goto (-29), 3) := by decide +kernel
theorem d_DK_release_36 : decode c_DK_release 36 = .ok (.iload_n 2, 1) := by decide +kernel
theorem d_DK_release_37 : decode c_DK_release 37 = .ok (.ireturn, 1) := by decide +kernel
theorem d_DK_secondsOf_0 : decode c_DK_secondsOf 0 = .ok (.iconst 0, 1) := by decide +kernel
theorem d_DK_secondsOf_1 : decode c_DK_secondsOf 1 = .ok (.istore_n 2, 1) := by decide +kernel
theorem d_DK_secondsOf_2 : decode c_DK_secondsOf 2 = .ok (.iconst 0, 1) := by decide +kernel
theorem d_DK_secondsOf_3 : decode c_DK_secondsOf 3 = .ok (.istore_n 3, 1) := by decide +kernel
theorem d_DK_secondsOf_4 : decode c_DK_secondsOf 4 = .ok (.iload_n 3, 1) := by decide +kernel
theorem d_DK_secondsOf_5 : decode c_DK_secondsOf 5 = .ok (.bipush 24, 2) := by decide +kernel
theorem d_DK_secondsOf_7 : decode c_DK_secondsOf 7 = .ok (.if_icmp .ge 31, 3) := by decide +kernel
theorem d_DK_secondsOf_10 : decode c_DK_secondsOf 10 = .ok (.aload_n 0, 1) := by decide +kernel
theorem d_DK_secondsOf_11 : decode c_DK_secondsOf 11 = .ok (.getfield 9, 3) := by decide +kernel
theorem d_DK_secondsOf_14 : decode c_DK_secondsOf 14 = .ok (.iload_n 3, 1) := by decide +kernel
theorem d_DK_secondsOf_15 : decode c_DK_secondsOf 15 = .ok (.iaload, 1) := by decide +kernel
theorem d_DK_secondsOf_16 : decode c_DK_secondsOf 16 = .ok (.iload_n 1, 1) := by decide +kernel
theorem d_DK_secondsOf_17 : decode c_DK_secondsOf 17 = .ok (.if_icmp .ne 15, 3) := by decide +kernel
theorem d_DK_secondsOf_20 : decode c_DK_secondsOf 20 = .ok (.iload_n 2, 1) := by decide +kernel
theorem d_DK_secondsOf_21 : decode c_DK_secondsOf 21 = .ok (.aload_n 0, 1) := by decide +kernel
theorem d_DK_secondsOf_22 : decode c_DK_secondsOf 22 = .ok (.getfield 18, 3) := by decide +kernel
theorem d_DK_secondsOf_25 : decode c_DK_secondsOf 25 = .ok (.iload_n 3, 1) := by decide +kernel
theorem d_DK_secondsOf_26 : decode c_DK_secondsOf 26 = .ok (.iaload, 1) := by decide +kernel
theorem d_DK_secondsOf_27 : decode c_DK_secondsOf 27 = .ok (.invokestatic 28, 3) := by decide +kernel
theorem d_DK_secondsOf_30 : decode c_DK_secondsOf 30 = .ok (.iadd, 1) := by decide +kernel
theorem d_DK_secondsOf_31 : decode c_DK_secondsOf 31 = .ok (.istore_n 2, 1) := by decide +kernel
theorem d_DK_secondsOf_32 : decode c_DK_secondsOf 32 = .ok (.iinc 3 1, 3) := by decide +kernel
theorem d_DK_secondsOf_35 : decode c_DK_secondsOf 35 = .ok (.goto (-31), 3) := by decide +kernel
theorem d_DK_secondsOf_38 : decode c_DK_secondsOf 38 = .ok (.iload_n 2, 1) := by decide +kernel
theorem d_DK_secondsOf_39 : decode c_DK_secondsOf 39 = .ok (.ireturn, 1) := by decide +kernel
theorem d_DK_segmentsOf_0 : decode c_DK_segmentsOf 0 = .ok (.iconst 0, 1) := by decide +kernel
theorem d_DK_segmentsOf_1 : decode c_DK_segmentsOf 1 = .ok (.istore_n 2, 1) := by decide +kernel
theorem d_DK_segmentsOf_2 : decode c_DK_segmentsOf 2 = .ok (.iconst 0, 1) := by decide +kernel
theorem d_DK_segmentsOf_3 : decode c_DK_segmentsOf 3 = .ok (.istore_n 3, 1) := by decide +kernel
theorem d_DK_segmentsOf_4 : decode c_DK_segmentsOf 4 = .ok (.iload_n 3, 1) := by decide +kernel
theorem d_DK_segmentsOf_5 : decode c_DK_segmentsOf 5 = .ok (.bipush 24, 2) := by decide +kernel
theorem d_DK_segmentsOf_7 : decode c_DK_segmentsOf 7 = .ok (.if_icmp .ge 22, 3) := by decide +kernel
theorem d_DK_segmentsOf_10 : decode c_DK_segmentsOf 10 = .ok (.aload_n 0, 1) := by decide +kernel
theorem d_DK_segmentsOf_11 : decode c_DK_segmentsOf 11 = .ok (.getfield 9, 3) := by decide +kernel
theorem d_DK_segmentsOf_14 : decode c_DK_segmentsOf 14 = .ok (.iload_n 3, 1) := by decide +kernel
theorem d_DK_segmentsOf_15 : decode c_DK_segmentsOf 15 = .ok (.iaload, 1) := by decide +kernel
theorem d_DK_segmentsOf_16 : decode c_DK_segmentsOf 16 = .ok (.iload_n 1, 1) := by decide +kernel
theorem d_DK_segmentsOf_17 : decode c_DK_segmentsOf 17 = .ok (.if_icmp .ne 6, 3) := by decide +kernel
theorem d_DK_segmentsOf_20 : decode c_DK_segmentsOf 20 = .ok (.iinc 2 1, 3) := by decide +kernel
theorem d_DK_segmentsOf_23 : decode c_DK_segmentsOf 23 = .ok (.iinc 3 1, 3) := by decide +kernel
theorem d_DK_segmentsOf_26 : decode c_DK_segmentsOf 26 = .ok (.goto (-22), 3) := by decide +kernel
theorem d_DK_segmentsOf_29 : decode c_DK_segmentsOf 29 = .ok (.iload_n 2, 1) := by decide +kernel
theorem d_DK_segmentsOf_30 : decode c_DK_segmentsOf 30 = .ok (.ireturn, 1) := by decide +kernel
theorem d_DK_slotOf_0 : decode c_DK_slotOf 0 = .ok (.iconst 0, 1) := by decide +kernel
theorem d_DK_slotOf_1 : decode c_DK_slotOf 1 = .ok (.istore_n 3, 1) := by decide +kernel
theorem d_DK_slotOf_2 : decode c_DK_slotOf 2 = .ok (.iload_n 3, 1) := by decide +kernel
theorem d_DK_slotOf_3 : decode c_DK_slotOf 3 = .ok (.bipush 24, 2) := by decide +kernel
theorem d_DK_slotOf_5 : decode c_DK_slotOf 5 = .ok (.if_icmp .ge 31, 3) := by decide +kernel
theorem d_DK_slotOf_8 : decode c_DK_slotOf 8 = .ok (.aload_n 0, 1) := by decide +kernel
theorem d_DK_slotOf_9 : decode c_DK_slotOf 9 = .ok (.getfield 9, 3) := by decide +kernel
theorem d_DK_slotOf_12 : decode c_DK_slotOf 12 = .ok (.iload_n 3, 1) := by decide +kernel
theorem d_DK_slotOf_13 : decode c_DK_slotOf 13 = .ok (.iaload, 1) := by decide +kernel
theorem d_DK_slotOf_14 : decode c_DK_slotOf 14 = .ok (.iload_n 1, 1) := by decide +kernel
theorem d_DK_slotOf_15 : decode c_DK_slotOf 15 = .ok (.if_icmp .ne 15, 3) := by decide +kernel
theorem d_DK_slotOf_18 : decode c_DK_slotOf 18 = .ok (.aload_n 0, 1) := by decide +kernel
theorem d_DK_slotOf_19 : decode c_DK_slotOf 19 = .ok (.getfield 15, 3) := by decide +kernel
theorem d_DK_slotOf_22 : decode c_DK_slotOf 22 = .ok (.iload_n 3, 1) := by decide +kernel
theorem d_DK_slotOf_23 : decode c_DK_slotOf 23 = .ok (.iaload, 1) := by decide +kernel
theorem d_DK_slotOf_24 : decode c_DK_slotOf 24 = .ok (.iload_n 2, 1) := by decide +kernel
theorem d_DK_slotOf_25 : decode c_DK_slotOf 25 = .ok (.if_icmp .ne 5, 3) := by decide +kernel
theorem d_DK_slotOf_28 : decode c_DK_slotOf 28 = .ok (.iload_n 3, 1) := by decide +kernel
theorem d_DK_slotOf_29 : decode c_DK_slotOf 29 = .ok (.ireturn, 1) := by decide +kernel
theorem d_DK_slotOf_30 : decode c_DK_slotOf 30 = .ok (.iinc 3 1, 3) := by decide +kernel
theorem d_DK_slotOf_33 : decode c_DK_slotOf 33 = .ok (.goto (-31), 3) := by decide +kernel
theorem d_DK_slotOf_36 : decode c_DK_slotOf 36 = .ok (.iconst (-1), 1) := by decide +kernel
theorem d_DK_slotOf_37 : decode c_DK_slotOf 37 = .ok (.ireturn, 1) := by decide +kernel
theorem d_DK_take_0 : decode c_DK_take 0 = .ok (.iconst 0, 1) := by decide +kernel
theorem d_DK_take_1 : decode c_DK_take 1 = .ok (.istore_n 3, 1) := by decide +kernel
theorem d_DK_take_2 : decode c_DK_take 2 = .ok (.iload_n 3, 1) := by decide +kernel
theorem d_DK_take_3 : decode c_DK_take 3 = .ok (.bipush 24, 2) := by decide +kernel
theorem d_DK_take_5 : decode c_DK_take 5 = .ok (.if_icmp .ge 42, 3) := by decide +kernel
theorem d_DK_take_8 : decode c_DK_take 8 = .ok (.aload_n 0, 1) := by decide +kernel
theorem d_DK_take_9 : decode c_DK_take 9 = .ok (.getfield 9, 3) := by decide +kernel
theorem d_DK_take_12 : decode c_DK_take 12 = .ok (.iload_n 3, 1) := by decide +kernel
theorem d_DK_take_13 : decode c_DK_take 13 = .ok (.iaload, 1) := by decide +kernel
theorem d_DK_take_14 : decode c_DK_take 14 = .ok (.iconst (-1), 1) := by decide +kernel
theorem d_DK_take_15 : decode c_DK_take 15 = .ok (.if_icmp .ne 26, 3) := by decide +kernel
theorem d_DK_take_18 : decode c_DK_take 18 = .ok (.aload_n 0, 1) := by decide +kernel
theorem d_DK_take_19 : decode c_DK_take 19 = .ok (.getfield 9, 3) := by decide +kernel
theorem d_DK_take_22 : decode c_DK_take 22 = .ok (.iload_n 3, 1) := by decide +kernel
theorem d_DK_take_23 : decode c_DK_take 23 = .ok (.iload_n 1, 1) := by decide +kernel
theorem d_DK_take_24 : decode c_DK_take 24 = .ok (.iastore, 1) := by decide +kernel
theorem d_DK_take_25 : decode c_DK_take 25 = .ok (.aload_n 0, 1) := by decide +kernel
theorem d_DK_take_26 : decode c_DK_take 26 = .ok (.getfield 15, 3) := by decide +kernel
theorem d_DK_take_29 : decode c_DK_take 29 = .ok (.iload_n 3, 1) := by decide +kernel
theorem d_DK_take_30 : decode c_DK_take 30 = .ok (.iload_n 2, 1) := by decide +kernel
theorem d_DK_take_31 : decode c_DK_take 31 = .ok (.iastore, 1) := by decide +kernel
theorem d_DK_take_32 : decode c_DK_take 32 = .ok (.aload_n 0, 1) := by decide +kernel
theorem d_DK_take_33 : decode c_DK_take 33 = .ok (.getfield 18, 3) := by decide +kernel
theorem d_DK_take_36 : decode c_DK_take 36 = .ok (.iload_n 3, 1) := by decide +kernel
theorem d_DK_take_37 : decode c_DK_take 37 = .ok (.iconst 0, 1) := by decide +kernel
theorem d_DK_take_38 : decode c_DK_take 38 = .ok (.iastore, 1) := by decide +kernel
theorem d_DK_take_39 : decode c_DK_take 39 = .ok (.iload_n 3, 1) := by decide +kernel
theorem d_DK_take_40 : decode c_DK_take 40 = .ok (.ireturn, 1) := by decide +kernel
theorem d_DK_take_41 : decode c_DK_take 41 = .ok (.iinc 3 1, 3) := by decide +kernel
theorem d_DK_take_44 : decode c_DK_take 44 = .ok (.goto (-42), 3) := by decide +kernel
theorem d_DK_take_47 : decode c_DK_take 47 = .ok (.iconst (-1), 1) := by decide +kernel
theorem d_DK_take_48 : decode c_DK_take 48 = .ok (.ireturn, 1) := by decide +kernel
theorem d_JI_bitCount_0 : decode c_JI_bitCount 0 = .ok (.iload_n 0, 1) := by decide +kernel
theorem d_JI_bitCount_1 : decode c_JI_bitCount 1 = .ok (.iload_n 0, 1) := by decide +kernel
theorem d_JI_bitCount_2 : decode c_JI_bitCount 2 = .ok (.iconst 1, 1) := by decide +kernel
theorem d_JI_bitCount_3 : decode c_JI_bitCount 3 = .ok (.iushr, 1) := by decide +kernel
theorem d_JI_bitCount_4 : decode c_JI_bitCount 4 = .ok (.ldc_w 265, 3) := by decide +kernel
theorem d_JI_bitCount_7 : decode c_JI_bitCount 7 = .ok (.iand, 1) := by decide +kernel
theorem d_JI_bitCount_8 : decode c_JI_bitCount 8 = .ok (.isub, 1) := by decide +kernel
theorem d_JI_bitCount_9 : decode c_JI_bitCount 9 = .ok (.istore_n 0, 1) := by decide +kernel
theorem d_JI_bitCount_10 : decode c_JI_bitCount 10 = .ok (.iload_n 0, 1) := by decide +kernel
theorem d_JI_bitCount_11 : decode c_JI_bitCount 11 = .ok (.ldc_w 266, 3) := by decide +kernel
theorem d_JI_bitCount_14 : decode c_JI_bitCount 14 = .ok (.iand, 1) := by decide +kernel
theorem d_JI_bitCount_15 : decode c_JI_bitCount 15 = .ok (.iload_n 0, 1) := by decide +kernel
theorem d_JI_bitCount_16 : decode c_JI_bitCount 16 = .ok (.iconst 2, 1) := by decide +kernel
theorem d_JI_bitCount_17 : decode c_JI_bitCount 17 = .ok (.iushr, 1) := by decide +kernel
theorem d_JI_bitCount_18 : decode c_JI_bitCount 18 = .ok (.ldc_w 266, 3) := by decide +kernel
theorem d_JI_bitCount_21 : decode c_JI_bitCount 21 = .ok (.iand, 1) := by decide +kernel
theorem d_JI_bitCount_22 : decode c_JI_bitCount 22 = .ok (.iadd, 1) := by decide +kernel
theorem d_JI_bitCount_23 : decode c_JI_bitCount 23 = .ok (.istore_n 0, 1) := by decide +kernel
theorem d_JI_bitCount_24 : decode c_JI_bitCount 24 = .ok (.iload_n 0, 1) := by decide +kernel
theorem d_JI_bitCount_25 : decode c_JI_bitCount 25 = .ok (.iload_n 0, 1) := by decide +kernel
theorem d_JI_bitCount_26 : decode c_JI_bitCount 26 = .ok (.iconst 4, 1) := by decide +kernel
theorem d_JI_bitCount_27 : decode c_JI_bitCount 27 = .ok (.iushr, 1) := by decide +kernel
theorem d_JI_bitCount_28 : decode c_JI_bitCount 28 = .ok (.iadd, 1) := by decide +kernel
theorem d_JI_bitCount_29 : decode c_JI_bitCount 29 = .ok (.ldc_w 267, 3) := by decide +kernel
theorem d_JI_bitCount_32 : decode c_JI_bitCount 32 = .ok (.iand, 1) := by decide +kernel
theorem d_JI_bitCount_33 : decode c_JI_bitCount 33 = .ok (.istore_n 0, 1) := by decide +kernel
theorem d_JI_bitCount_34 : decode c_JI_bitCount 34 = .ok (.iload_n 0, 1) := by decide +kernel
theorem d_JI_bitCount_35 : decode c_JI_bitCount 35 = .ok (.iload_n 0, 1) := by decide +kernel
theorem d_JI_bitCount_36 : decode c_JI_bitCount 36 = .ok (.bipush 8, 2) := by decide +kernel
theorem d_JI_bitCount_38 : decode c_JI_bitCount 38 = .ok (.iushr, 1) := by decide +kernel
theorem d_JI_bitCount_39 : decode c_JI_bitCount 39 = .ok (.iadd, 1) := by decide +kernel
theorem d_JI_bitCount_40 : decode c_JI_bitCount 40 = .ok (.istore_n 0, 1) := by decide +kernel
theorem d_JI_bitCount_41 : decode c_JI_bitCount 41 = .ok (.iload_n 0, 1) := by decide +kernel
theorem d_JI_bitCount_42 : decode c_JI_bitCount 42 = .ok (.iload_n 0, 1) := by decide +kernel
theorem d_JI_bitCount_43 : decode c_JI_bitCount 43 = .ok (.bipush 16, 2) := by decide +kernel
theorem d_JI_bitCount_45 : decode c_JI_bitCount 45 = .ok (.iushr, 1) := by decide +kernel
theorem d_JI_bitCount_46 : decode c_JI_bitCount 46 = .ok (.iadd, 1) := by decide +kernel
theorem d_JI_bitCount_47 : decode c_JI_bitCount 47 = .ok (.istore_n 0, 1) := by decide +kernel
theorem d_JI_bitCount_48 : decode c_JI_bitCount 48 = .ok (.iload_n 0, 1) := by decide +kernel
theorem d_JI_bitCount_49 : decode c_JI_bitCount 49 = .ok (.bipush 63, 2) := by decide +kernel
theorem d_JI_bitCount_51 : decode c_JI_bitCount 51 = .ok (.iand, 1) := by decide +kernel
theorem d_JI_bitCount_52 : decode c_JI_bitCount 52 = .ok (.ireturn, 1) := by decide +kernel
theorem d_RQ_finishAt_0 : decode c_RQ_finishAt 0 = .ok (.aload_n 0, 1) := by decide +kernel
theorem d_RQ_finishAt_1 : decode c_RQ_finishAt 1 = .ok (.iconst 2, 1) := by decide +kernel
theorem d_RQ_finishAt_2 : decode c_RQ_finishAt 2 = .ok (.putfield 15, 3) := by decide +kernel
theorem d_RQ_finishAt_5 : decode c_RQ_finishAt 5 = .ok (.aload_n 0, 1) := by decide +kernel
theorem d_RQ_finishAt_6 : decode c_RQ_finishAt 6 = .ok (.iload_n 1, 1) := by decide +kernel
theorem d_RQ_finishAt_7 : decode c_RQ_finishAt 7 = .ok (.putfield 22, 3) := by decide +kernel
theorem d_RQ_finishAt_10 : decode c_RQ_finishAt 10 = .ok (.return_, 1) := by decide +kernel
theorem d_RQ_follow_0 : decode c_RQ_follow 0 = .ok (.aload_n 0, 1) := by decide +kernel
theorem d_RQ_follow_1 : decode c_RQ_follow 1 = .ok (.getfield 15, 3) := by decide +kernel
theorem d_RQ_follow_4 : decode c_RQ_follow 4 = .ok (.iconst 1, 1) := by decide +kernel
theorem d_RQ_follow_5 : decode c_RQ_follow 5 = .ok (.if_icmp .ne 14, 3) := by decide +kernel
theorem d_RQ_follow_8 : decode c_RQ_follow 8 = .ok (.aload_n 0, 1) := by decide +kernel
theorem d_RQ_follow_9 : decode c_RQ_follow 9 = .ok (.aload_n 0, 1) := by decide +kernel
theorem d_RQ_follow_10 : decode c_RQ_follow 10 = .ok (.getfield 28, 3) := by decide +kernel
theorem d_RQ_follow_13 : decode c_RQ_follow 13 = .ok (.putfield 22, 3) := by decide +kernel
theorem d_RQ_follow_16 : decode c_RQ_follow 16 = .ok (.goto 73, 3) := by decide +kernel
theorem d_RQ_follow_19 : decode c_RQ_follow 19 = .ok (.aload_n 0, 1) := by decide +kernel
theorem d_RQ_follow_20 : decode c_RQ_follow 20 = .ok (.getfield 15, 3) := by decide +kernel
theorem d_RQ_follow_23 : decode c_RQ_follow 23 = .ok (.ifCond .ne 39, 3) := by decide +kernel
theorem d_RQ_follow_26 : decode c_RQ_follow 26 = .ok (.aload_n 0, 1) := by decide +kernel
theorem d_RQ_follow_27 : decode c_RQ_follow 27 = .ok (.invokevirtual 65, 3) := by decide +kernel
theorem d_RQ_follow_30 : decode c_RQ_follow 30 = .ok (.ifCond .eq 32, 3) := by decide +kernel
theorem d_RQ_follow_33 : decode c_RQ_follow 33 = .ok (.aload_n 0, 1) := by decide +kernel
theorem d_RQ_follow_34 : decode c_RQ_follow 34 = .ok (.getfield 25, 3) := by decide +kernel
theorem d_RQ_follow_37 : decode c_RQ_follow 37 = .ok (.iload_n 1, 1) := by decide +kernel
theorem d_RQ_follow_38 : decode c_RQ_follow 38 = .ok (.if_icmp .ne 24, 3) := by decide +kernel
theorem d_RQ_follow_41 : decode c_RQ_follow 41 = .ok (.aload_n 0, 1) := by decide +kernel
theorem d_RQ_follow_42 : decode c_RQ_follow 42 = .ok (.iconst 1, 1) := by decide +kernel
theorem d_RQ_follow_43 : decode c_RQ_follow 43 = .ok (.putfield 15, 3) := by decide +kernel
theorem d_RQ_follow_46 : decode c_RQ_follow 46 = .ok (.aload_n 0, 1) := by decide +kernel
theorem d_RQ_follow_47 : decode c_RQ_follow 47 = .ok (.iload_n 1, 1) := by decide +kernel
theorem d_RQ_follow_48 : decode c_RQ_follow 48 = .ok (.putfield 19, 3) := by decide +kernel
theorem d_RQ_follow_51 : decode c_RQ_follow 51 = .ok (.aload_n 0, 1) := by decide +kernel
theorem d_RQ_follow_52 : decode c_RQ_follow 52 = .ok (.aload_n 0, 1) := by decide +kernel
theorem d_RQ_follow_53 : decode c_RQ_follow 53 = .ok (.getfield 28, 3) := by decide +kernel
theorem d_RQ_follow_56 : decode c_RQ_follow 56 = .ok (.putfield 22, 3) := by decide +kernel
theorem d_RQ_follow_59 : decode c_RQ_follow 59 = .ok (.goto 30, 3) := by decide +kernel
theorem d_RQ_follow_62 : decode c_RQ_follow 62 = .ok (.aload_n 0, 1) := by decide +kernel
theorem d_RQ_follow_63 : decode c_RQ_follow 63 = .ok (.getfield 15, 3) := by decide +kernel
theorem d_RQ_follow_66 : decode c_RQ_follow 66 = .ok (.ifCond .ne 23, 3) := by decide +kernel
theorem d_RQ_follow_69 : decode c_RQ_follow 69 = .ok (.aload_n 0, 1) := by decide +kernel
theorem d_RQ_follow_70 : decode c_RQ_follow 70 = .ok (.invokevirtual 65, 3) := by decide +kernel
theorem d_RQ_follow_73 : decode c_RQ_follow 73 = .ok (.ifCond .ne 16, 3) := by decide +kernel
theorem d_RQ_follow_76 : decode c_RQ_follow 76 = .ok (.aload_n 0, 1) := by decide +kernel
theorem d_RQ_follow_77 : decode c_RQ_follow 77 = .ok (.getfield 50, 3) := by decide +kernel
theorem d_RQ_follow_80 : decode c_RQ_follow 80 = .ok (.iload_n 1, 1) := by decide +kernel
theorem d_RQ_follow_81 : decode c_RQ_follow 81 = .ok (.if_icmp .ne 8, 3) := by decide +kernel
theorem d_RQ_follow_84 : decode c_RQ_follow 84 = .ok (.aload_n 0, 1) := by decide +kernel
theorem d_RQ_follow_85 : decode c_RQ_follow 85 = .ok (.iconst 3, 1) := by decide +kernel
theorem d_RQ_follow_86 : decode c_RQ_follow 86 = .ok (.putfield 15, 3) := by decide +kernel
theorem d_RQ_follow_89 : decode c_RQ_follow 89 = .ok (.return_, 1) := by decide +kernel
theorem d_RQ_goesBefore_0 : decode c_RQ_goesBefore 0 = .ok (.aload_n 0, 1) := by decide +kernel
theorem d_RQ_goesBefore_1 : decode c_RQ_goesBefore 1 = .ok (.getfield 41, 3) := by decide +kernel
theorem d_RQ_goesBefore_4 : decode c_RQ_goesBefore 4 = .ok (.aload_n 1, 1) := by decide +kernel
theorem d_RQ_goesBefore_5 : decode c_RQ_goesBefore 5 = .ok (.getfield 41, 3) := by decide +kernel
theorem d_RQ_goesBefore_8 : decode c_RQ_goesBefore 8 = .ok (.if_icmp .eq 8, 3) := by decide +kernel
theorem d_RQ_goesBefore_11 : decode c_RQ_goesBefore 11 = .ok (.aload_n 0, 1) := by decide +kernel
theorem d_RQ_goesBefore_12 : decode c_RQ_goesBefore 12 = .ok (.getfield 41, 3) := by decide +kernel
theorem d_RQ_goesBefore_15 : decode c_RQ_goesBefore 15 = .ok (.ireturn, 1) := by decide +kernel
theorem d_RQ_goesBefore_16 : decode c_RQ_goesBefore 16 = .ok (.aload_n 0, 1) := by decide +kernel
theorem d_RQ_goesBefore_17 : decode c_RQ_goesBefore 17 = .ok (.getfield 41, 3) := by decide +kernel
theorem d_RQ_goesBefore_20 : decode c_RQ_goesBefore 20 = .ok (.ifCond .ne 31, 3) := by decide +kernel
theorem d_RQ_goesBefore_23 : decode c_RQ_goesBefore 23 = .ok (.aload_n 0, 1) := by decide +kernel
theorem d_RQ_goesBefore_24 : decode c_RQ_goesBefore 24 = .ok (.getfield 56, 3) := by decide +kernel
theorem d_RQ_goesBefore_27 : decode c_RQ_goesBefore 27 = .ok (.aload_n 1, 1) := by decide +kernel
theorem d_RQ_goesBefore_28 : decode c_RQ_goesBefore 28 = .ok (.getfield 56, 3) := by decide +kernel
theorem d_RQ_goesBefore_31 : decode c_RQ_goesBefore 31 = .ok (.if_icmp .eq 20, 3) := by decide +kernel
theorem d_RQ_goesBefore_34 : decode c_RQ_goesBefore 34 = .ok (.aload_n 0, 1) := by decide +kernel
theorem d_RQ_goesBefore_35 : decode c_RQ_goesBefore 35 = .ok (.getfield 56, 3) := by decide +kernel
theorem d_RQ_goesBefore_38 : decode c_RQ_goesBefore 38 = .ok (.aload_n 1, 1) := by decide +kernel
theorem d_RQ_goesBefore_39 : decode c_RQ_goesBefore 39 = .ok (.getfield 56, 3) := by decide +kernel
theorem d_RQ_goesBefore_42 : decode c_RQ_goesBefore 42 = .ok (.if_icmp .ge 7, 3) := by decide +kernel
theorem d_RQ_goesBefore_45 : decode c_RQ_goesBefore 45 = .ok (.iconst 1, 1) := by decide +kernel
theorem d_RQ_goesBefore_46 : decode c_RQ_goesBefore 46 = .ok (.goto 4, 3) := by decide +kernel
theorem d_RQ_goesBefore_49 : decode c_RQ_goesBefore 49 = .ok (.iconst 0, 1) := by decide +kernel
theorem d_RQ_goesBefore_50 : decode c_RQ_goesBefore 50 = .ok (.ireturn, 1) := by decide +kernel
theorem d_RQ_goesBefore_51 : decode c_RQ_goesBefore 51 = .ok (.aload_n 0, 1) := by decide +kernel
theorem d_RQ_goesBefore_52 : decode c_RQ_goesBefore 52 = .ok (.getfield 22, 3) := by decide +kernel
theorem d_RQ_goesBefore_55 : decode c_RQ_goesBefore 55 = .ok (.aload_n 1, 1) := by decide +kernel
theorem d_RQ_goesBefore_56 : decode c_RQ_goesBefore 56 = .ok (.getfield 22, 3) := by decide +kernel
theorem d_RQ_goesBefore_59 : decode c_RQ_goesBefore 59 = .ok (.if_icmp .ge 7, 3) := by decide +kernel
theorem d_RQ_goesBefore_62 : decode c_RQ_goesBefore 62 = .ok (.iconst 1, 1) := by decide +kernel
theorem d_RQ_goesBefore_63 : decode c_RQ_goesBefore 63 = .ok (.goto 4, 3) := by decide +kernel
theorem d_RQ_goesBefore_66 : decode c_RQ_goesBefore 66 = .ok (.iconst 0, 1) := by decide +kernel
theorem d_RQ_goesBefore_67 : decode c_RQ_goesBefore 67 = .ok (.ireturn, 1) := by decide +kernel
theorem d_RQ_isOpen_0 : decode c_RQ_isOpen 0 = .ok (.aload_n 0, 1) := by decide +kernel
theorem d_RQ_isOpen_1 : decode c_RQ_isOpen 1 = .ok (.getfield 15, 3) := by decide +kernel
theorem d_RQ_isOpen_4 : decode c_RQ_isOpen 4 = .ok (.ifCond .eq 11, 3) := by decide +kernel
theorem d_RQ_isOpen_7 : decode c_RQ_isOpen 7 = .ok (.aload_n 0, 1) := by decide +kernel
theorem d_RQ_isOpen_8 : decode c_RQ_isOpen 8 = .ok (.getfield 15, 3) := by decide +kernel
theorem d_RQ_isOpen_11 : decode c_RQ_isOpen 11 = .ok (.iconst 1, 1) := by decide +kernel
theorem d_RQ_isOpen_12 : decode c_RQ_isOpen 12 = .ok (.if_icmp .ne 7, 3) := by decide +kernel
theorem d_RQ_isOpen_15 : decode c_RQ_isOpen 15 = .ok (.iconst 1, 1) := by decide +kernel
theorem d_RQ_isOpen_16 : decode c_RQ_isOpen 16 = .ok (.goto 4, 3) := by decide +kernel
theorem d_RQ_isOpen_19 : decode c_RQ_isOpen 19 = .ok (.iconst 0, 1) := by decide +kernel
theorem d_RQ_isOpen_20 : decode c_RQ_isOpen 20 = .ok (.ireturn, 1) := by decide +kernel
theorem d_RQ_isPlanned_0 : decode c_RQ_isPlanned 0 = .ok (.aload_n 0, 1) := by decide +kernel
theorem d_RQ_isPlanned_1 : decode c_RQ_isPlanned 1 = .ok (.getfield 25, 3) := by decide +kernel
theorem d_RQ_isPlanned_4 : decode c_RQ_isPlanned 4 = .ok (.aload_n 0, 1) := by decide +kernel
theorem d_RQ_isPlanned_5 : decode c_RQ_isPlanned 5 = .ok (.getfield 28, 3) := by decide +kernel
theorem d_RQ_isPlanned_8 : decode c_RQ_isPlanned 8 = .ok (.if_icmp .ge 7, 3) := by decide +kernel
theorem d_RQ_isPlanned_11 : decode c_RQ_isPlanned 11 = .ok (.iconst 1, 1) := by decide +kernel
theorem d_RQ_isPlanned_12 : decode c_RQ_isPlanned 12 = .ok (.goto 4, 3) := by decide +kernel
theorem d_RQ_isPlanned_15 : decode c_RQ_isPlanned 15 = .ok (.iconst 0, 1) := by decide +kernel
theorem d_RQ_isPlanned_16 : decode c_RQ_isPlanned 16 = .ok (.ireturn, 1) := by decide +kernel
theorem d_RQ_isRecording_0 : decode c_RQ_isRecording 0 = .ok (.aload_n 0, 1) := by decide +kernel
theorem d_RQ_isRecording_1 : decode c_RQ_isRecording 1 = .ok (.getfield 15, 3) := by decide +kernel
theorem d_RQ_isRecording_4 : decode c_RQ_isRecording 4 = .ok (.iconst 1, 1) := by decide +kernel
theorem d_RQ_isRecording_5 : decode c_RQ_isRecording 5 = .ok (.if_icmp .eq 11, 3) := by decide +kernel
theorem d_RQ_isRecording_8 : decode c_RQ_isRecording 8 = .ok (.aload_n 0, 1) := by decide +kernel
theorem d_RQ_isRecording_9 : decode c_RQ_isRecording 9 = .ok (.getfield 15, 3) := by decide +kernel
theorem d_RQ_isRecording_12 : decode c_RQ_isRecording 12 = .ok (.iconst 2, 1) := by decide +kernel
theorem d_RQ_isRecording_13 : decode c_RQ_isRecording 13 = .ok (.if_icmp .ne 7, 3) := by decide +kernel
theorem d_RQ_isRecording_16 : decode c_RQ_isRecording 16 = .ok (.iconst 1, 1) := by decide +kernel
theorem d_RQ_isRecording_17 : decode c_RQ_isRecording 17 = .ok (.goto 4, 3) := by decide +kernel
theorem d_RQ_isRecording_20 : decode c_RQ_isRecording 20 = .ok (.iconst 0, 1) := by decide +kernel
theorem d_RQ_isRecording_21 : decode c_RQ_isRecording 21 = .ok (.ireturn, 1) := by decide +kernel
theorem d_RQ_takeStretch_0 : decode c_RQ_takeStretch 0 = .ok (.aload_n 0, 1) := by decide +kernel
theorem d_RQ_takeStretch_1 : decode c_RQ_takeStretch 1 = .ok (.iload_n 1, 1) := by decide +kernel
theorem d_RQ_takeStretch_2 : decode c_RQ_takeStretch 2 = .ok (.putfield 25, 3) := by decide +kernel
theorem d_RQ_takeStretch_5 : decode c_RQ_takeStretch 5 = .ok (.aload_n 0, 1) := by decide +kernel
theorem d_RQ_takeStretch_6 : decode c_RQ_takeStretch 6 = .ok (.iload_n 2, 1) := by decide +kernel
theorem d_RQ_takeStretch_7 : decode c_RQ_takeStretch 7 = .ok (.putfield 28, 3) := by decide +kernel
theorem d_RQ_takeStretch_10 : decode c_RQ_takeStretch 10 = .ok (.return_, 1) := by decide +kernel
theorem d_TT_isChannel_0 : decode c_TT_isChannel 0 = .ok (.iload_n 0, 1) := by decide +kernel
theorem d_TT_isChannel_1 : decode c_TT_isChannel 1 = .ok (.iconst 0, 1) := by decide +kernel
theorem d_TT_isChannel_2 : decode c_TT_isChannel 2 = .ok (.bipush 7, 2) := by decide +kernel
theorem d_TT_isChannel_4 : decode c_TT_isChannel 4 = .ok (.invokestatic 57, 3) := by decide +kernel
theorem d_TT_isChannel_7 : decode c_TT_isChannel 7 = .ok (.ireturn, 1) := by decide +kernel
theorem d_TT_isWithin_0 : decode c_TT_isWithin 0 = .ok (.iload_n 0, 1) := by decide +kernel
theorem d_TT_isWithin_1 : decode c_TT_isWithin 1 = .ok (.iload_n 1, 1) := by decide +kernel
theorem d_TT_isWithin_2 : decode c_TT_isWithin 2 = .ok (.if_icmp .lt 12, 3) := by decide +kernel
theorem d_TT_isWithin_5 : decode c_TT_isWithin 5 = .ok (.iload_n 0, 1) := by decide +kernel
theorem d_TT_isWithin_6 : decode c_TT_isWithin 6 = .ok (.iload_n 2, 1) := by decide +kernel
theorem d_TT_isWithin_7 : decode c_TT_isWithin 7 = .ok (.if_icmp .gt 7, 3) := by decide +kernel
theorem d_TT_isWithin_10 : decode c_TT_isWithin 10 = .ok (.iconst 1, 1) := by decide +kernel
theorem d_TT_isWithin_11 : decode c_TT_isWithin 11 = .ok (.goto 4, 3) := by decide +kernel
theorem d_TT_isWithin_14 : decode c_TT_isWithin 14 = .ok (.iconst 0, 1) := by decide +kernel
theorem d_TT_isWithin_15 : decode c_TT_isWithin 15 = .ok (.ireturn, 1) := by decide +kernel
/-! the class's cells: the fixed ones by cd, the requests and their arrays in a pool -/
abbrev RQF (g : Nat → Int32) (b : Nat) : List Value := [.int (g 0), .int (g 1), .int (g 2), .int (g 3), .int (g 4), .int (g 5), .int (g 6), .ref b, .int (g 8), .int (g 9), .int (g 10), .int (g 11), .int (g 12), .int (g 13), .int (g 14), .int (g 15), .int (g 16)]
def PE (kI : ClassId) (isA : Nat → Bool) (bk : Nat → Nat) (rf ba : Nat → Nat → Int32) (a : Nat) : va_E := if isA a = true then .inl (kI, 6, .inl (ba a)) else .inr (4, RQF (rf a) (bk a))
abbrev CX (cd : Nat → Nat) (kI kQ : ClassId) (sc : Nat → Int32) (ia : Nat → Nat → Int32) (qa : Nat → Nat → Option Nat) : va_W := [(cd 0, .inr (0, [.ref (cd 1), .ref (cd 2), .ref (cd 3), .ref (cd 5), .ref (cd 10), .int (sc 0), .int (sc 1), .int (sc 2)])), (cd 1, .inl (kQ, 40, .inr (.inr (.inr (.inr (qa 0)))))), (cd 2, .inl (kI, 8, .inl (ia 0))), (cd 3, .inr (1, [.ref (cd 4), .int (sc 3)])), (cd 4, .inl (kQ, 12, .inr (.inr (.inr (.inr (qa 1)))))), (cd 5, .inr (2, [.ref (cd 6), .ref (cd 7), .ref (cd 8), .ref (cd 9)])), (cd 6, .inl (kI, 24, .inl (ia 1))), (cd 7, .inl (kI, 24, .inl (ia 2))), (cd 8, .inl (kI, 24, .inl (ia 3))), (cd 9, .inl (kI, 96, .inl (ia 4))), (cd 10, .inr (3, [.ref (cd 11), .int (sc 4), .int (sc 5)])), (cd 11, .inl (kI, 30, .inl (ia 5)))]
abbrev CW (cd : Nat → Nat) (kI kQ : ClassId) (L : List Nat) (isA : Nat → Bool) (bk : Nat → Nat) (sc : Nat → Int32) (ia : Nat → Nat → Int32) (qa : Nat → Nat → Option Nat) (rf ba : Nat → Nat → Int32) : va_W := CX cd kI kQ sc ia qa ++ va_pl L (PE kI isA bk rf ba)
abbrev U5 : Type := (Nat → Int32) × (Nat → Nat → Int32) × (Nat → Nat → Option Nat) × (Nat → Nat → Int32) × (Nat → Nat → Int32)
abbrev cW (cd : Nat → Nat) (kI kQ : ClassId) (L : List Nat) (isA : Nat → Bool) (bk : Nat → Nat) : U5 → va_W := fun u => CW cd kI kQ L isA bk u.1 u.2.1 u.2.2.1 u.2.2.2.1 u.2.2.2.2
abbrev CT (kI kQ : ClassId) : List (ClassId × FieldType) := [(kI, .int), (kQ, .object "TwinTuners$Request")]
section CbA
variable {A : Nat → Prop} {X : va_W} {kI : ClassId} {L : List Nat} {isA : Nat → Bool} {bk : Nat → Nat} {rf ba : Nat → Nat → Int32} {a : Nat}
theorem PE_r (hn : isA a = false) : PE kI isA bk rf ba a = .inr (4, RQF (rf a) (bk a)) := by simp [PE, hn]
theorem PE_a (hn : isA a = true) : PE kI isA bk rf ba a = .inl (kI, 6, .inl (ba a)) := by simp [PE, hn]
theorem pq_at (ha : a ∈ L) (hn : isA a = false) : ∃ k : Nat, (X ++ va_pl L (PE kI isA bk rf ba))[k]? = some (a, .inr (4, RQF (rf a) (bk a))) := by
  obtain ⟨k, hk⟩ := va_pl_get (X := X) (f := PE kI isA bk rf ba) ha
  exact ⟨k, by rw [hk, PE_r hn]⟩
theorem pq_arr (ha : a ∈ L) (hn : isA a = true) : ∃ k : Nat, (X ++ va_pl L (PE kI isA bk rf ba))[k]? = some (a, .inl (kI, 6, .inl (ba a))) := by
  obtain ⟨k, hk⟩ := va_pl_get (X := X) (f := PE kI isA bk rf ba) ha
  exact ⟨k, by rw [hk, PE_a hn]⟩
theorem pq_set {k fi : Nat} {v : Int32} (hD : va_D A (X ++ va_pl L (PE kI isA bk rf ba))) (ha : a ∈ L) (hn : isA a = false) (hk : (X ++ va_pl L (PE kI isA bk rf ba))[k]? = some (a, .inr (4, RQF (rf a) (bk a)))) (hset : (RQF (rf a) (bk a)).set fi (.int v) = RQF (va_up (rf a) fi v) (bk a)) :
    (X ++ va_pl L (PE kI isA bk rf ba)).set k (a, .inr (4, (RQF (rf a) (bk a)).set fi (.int v))) = X ++ va_pl L (PE kI isA bk (va_up rf a (va_up (rf a) fi v)) ba) := by
  rw [va_pl_set hD ha (by rw [hk, PE_r hn]), hset]
  congr 1
  refine va_pl_congr fun b => ?_
  by_cases e : b = a
  · subst e; rw [va_up_self, PE_r hn, va_up_self]
  · rw [va_up_ne _ _ e]; simp only [PE, va_up_ne _ _ e]
theorem pq_seta {k i : Nat} {v : Int32} (hD : va_D A (X ++ va_pl L (PE kI isA bk rf ba))) (ha : a ∈ L) (hn : isA a = true) (hk : (X ++ va_pl L (PE kI isA bk rf ba))[k]? = some (a, .inl (kI, 6, .inl (ba a)))) :
    (X ++ va_pl L (PE kI isA bk rf ba)).set k (a, .inl (kI, 6, .inl (upd (ba a) i v))) = X ++ va_pl L (PE kI isA bk rf (va_up ba a (upd (ba a) i v))) := by
  rw [va_pl_set hD ha (by rw [hk, PE_a hn])]
  congr 1
  refine va_pl_congr fun b => ?_
  by_cases e : b = a
  · subst e; rw [va_up_self, PE_a hn, va_up_self]
  · rw [va_up_ne _ _ e]; simp only [PE, va_up_ne _ _ e]
/-- a request's address -/
def cG (L : List Nat) (isA : Nat → Bool) (o : Option Nat) : Prop := ∃ a : Nat, o = some a ∧ a ∈ L ∧ isA a = false
def cR (L : List Nat) (isA : Nat → Bool) (bk : Nat → Nat) (rf : Nat → Nat → Int32) : Prop := ∀ a : Nat, a ∈ L → isA a = false → (0 ≤ (rf a 1).toInt ∧ (rf a 1).toInt ≤ 7) ∧ (0 ≤ (rf a 14).toInt ∧ (rf a 14).toInt ≤ 6) ∧ bk a ∈ L ∧ isA (bk a) = true
def cO (L : List Nat) (isA : Nat → Bool) (sz : Int32) (od : Nat → Option Nat) : Prop := ∃ M : Nat, M ≤ 12 ∧ sz = nI M ∧ ∀ i : Nat, i < M → cG L isA (od i)
def CI (N : Nat) (L : List Nat) (isA : Nat → Bool) (bk : Nat → Nat) (sc : Nat → Int32) (qa : Nat → Nat → Option Nat) (rf : Nat → Nat → Int32) : Prop :=
  (N ≤ 40 ∧ sc 0 = nI N) ∧ (-1 ≤ (sc 2).toInt ∧ (sc 2).toInt ≤ 7) ∧ cO L isA (sc 3) (qa 1) ∧ (0 ≤ (sc 4).toInt ∧ (sc 4).toInt < 30) ∧ (0 ≤ (sc 5).toInt ∧ (sc 5).toInt ≤ 30) ∧ (∀ i : Nat, i < N → cG L isA (qa 0 i)) ∧ cR L isA bk rf
variable {N : Nat} {sc sc' : Nat → Int32} {qa : Nat → Nat → Option Nat}
theorem cR_up {j : Nat} {v : Int32} (h : cR L isA bk rf) (h1 : j ≠ 1) (h14 : j ≠ 14 ∨ (0 ≤ v.toInt ∧ v.toInt ≤ 6)) : cR L isA bk (va_up rf a (va_up (rf a) j v)) := by
  intro b hb hn
  obtain ⟨q1, q2, q3⟩ := h b hb hn
  by_cases e : b = a
  · subst e
    rw [va_up_self, va_up_ne _ _ (Ne.symm h1)]
    refine ⟨q1, ?_, q3⟩
    by_cases e14 : j = 14
    · subst e14; rw [va_up_self]; exact h14.resolve_left (fun q => q rfl)
    · rw [va_up_ne _ _ (Ne.symm e14)]; exact q2
  · rw [va_up_ne _ _ e]; exact ⟨q1, q2, q3⟩
theorem CI_r {j : Nat} {v : Int32} (h : CI N L isA bk sc qa rf) (h1 : j ≠ 1) (h14 : j ≠ 14 ∨ (0 ≤ v.toInt ∧ v.toInt ≤ 6)) : CI N L isA bk sc qa (va_up rf a (va_up (rf a) j v)) := by
  obtain ⟨a1, a2, a3, a4, a5, a6, a7⟩ := h
  exact ⟨a1, a2, a3, a4, a5, a6, cR_up a7 h1 h14⟩
theorem CI_s1 {v : Int32} (h : CI N L isA bk sc qa rf) : CI N L isA bk (va_up sc 1 v) qa rf := h
theorem CI_s2 {v : Int32} (h : CI N L isA bk sc qa rf) (hv : -1 ≤ v.toInt ∧ v.toInt ≤ 7) : CI N L isA bk (va_up sc 2 v) qa rf := ⟨h.1, hv, h.2.2⟩
theorem CI_s4 {v : Int32} (h : CI N L isA bk sc qa rf) (hv : 0 ≤ v.toInt ∧ v.toInt < 30) : CI N L isA bk (va_up sc 4 v) qa rf := ⟨h.1, h.2.1, h.2.2.1, hv, h.2.2.2.2⟩
theorem CI_s5 {v : Int32} (h : CI N L isA bk sc qa rf) (hv : 0 ≤ v.toInt ∧ v.toInt ≤ 30) : CI N L isA bk (va_up sc 5 v) qa rf := ⟨h.1, h.2.1, h.2.2.1, h.2.2.2.1, hv, h.2.2.2.2.2⟩
theorem CI_s3 {v : Int32} (h : CI N L isA bk sc qa rf) (hv : cO L isA v (qa 1)) : CI N L isA bk (va_up sc 3 v) qa rf := ⟨h.1, h.2.1, hv, h.2.2.2⟩
end CbA
def R_JI : String := "java/lang/Integer"
def R_JM : String := "java/lang/Math"
set_option maxHeartbeats 8000000 in
set_option maxRecDepth 100000 in
theorem k_TT_isWithin (l : Launch) (dC : Nat → ClassId) (dI : Nat → Nat → Nat) (x lo hi : Int32) : Met l y_TT_isWithin w_TT_isWithin ({ frames := 0, cells := 0, slots := 0, locals := 0 }) (rdP (dC, dI) ([]) [] [.int x, .int lo, .int hi]) (rQ vI (fun r => ((lo.toInt ≤ x.toInt ∧ x.toInt ≤ hi.toInt) ∧ r = 1 ∨ ¬ (lo.toInt ≤ x.toInt ∧ x.toInt ≤ hi.toInt) ∧ r = 0))) 0 0 (fun _ => False) := by
  refine Met.ofW (cc := c_TT_isWithin) (maxL := 3) (ret := (some .boolean)) (by decide) rfl ?_
  intro p e s m args below meth c s₁ B hml hv
  obtain ⟨rfl, hP, hK⟩ := hv
  have hx := B.exec
  have hb := B.bytes
  have hr := B.returns
  have ht : ∀ w ∈ tb_, w.before _ s = true := fun w h => atoms_spec (ws := w_TT_isWithin) B.pre w (List.mem_cons_of_mem _ h)
  have hown : s.vm.findClass R_TT = some m.cls := findClass_of_methodNamed B.named
  have hlocks := B.notSynchronized
  have hP : va_P (dC, dI) cls_ ([]) s.heap := hP
  have hl := lv_entry ([.int x, .int lo, .int hi]) (n := 3) (Nat.le_of_ble_eq_true rfl)
  rw [lg_entry_eq]
  generalize (lg_sl ([.int x, .int lo, .int hi]) ++ List.replicate (3 - (lg_sl ([.int x, .int lo, .int hi])).length) Slot.unset).toArray = ls at hl ⊢
  have hl : lv_has ls 3 [(0, .int x), (1, .int lo), (2, .int hi)] := hl
  refine lv_iload_n hx hb d_TT_isWithin_0 rfl (lv_at hl 0 rfl) ?_
  refine lv_iload_n hx hb d_TT_isWithin_1 rfl (lv_at hl 1 rfl) ?_
  refine lv_icmp_lt (tgt := 14) hx hb d_TT_isWithin_2 (by decide) (fun h2_1 => ?_) (fun h2_1 => ?_)
  · have h2_1 := h2_1
    have i2_1 := ti_lt h2_1
    refine lv_iconst (v := 0) hx hb d_TT_isWithin_14 (by decide) ?_
    have hz0 : ((lo.toInt ≤ x.toInt ∧ x.toInt ≤ hi.toInt) ∧ (0 : Int32) = 1 ∨ ¬ (lo.toInt ≤ x.toInt ∧ x.toInt ≤ hi.toInt) ∧ (0 : Int32) = 0) := Or.inr ⟨by omega, rfl⟩
    exact W.zret (v := 0) hx hb hr rfl (fun t ht9 hW => ⟨0, rfl, hz0, ht9⟩) (fun q h => by cases h) d_TT_isWithin_15
  · have h2_1 := h2_1
    have i2_1 := ti_nlt h2_1
    refine lv_iload_n hx hb d_TT_isWithin_5 rfl (lv_at hl 0 rfl) ?_
    refine lv_iload_n hx hb d_TT_isWithin_6 rfl (lv_at hl 2 rfl) ?_
    refine lv_icmp_gt (tgt := 14) hx hb d_TT_isWithin_7 (by decide) (fun h7_2 => ?_) (fun h7_2 => ?_)
    · have h7_2 := h7_2
      have i7_2 := ti_lt h7_2
      refine lv_iconst (v := 0) hx hb d_TT_isWithin_14 (by decide) ?_
      have hz0 : ((lo.toInt ≤ x.toInt ∧ x.toInt ≤ hi.toInt) ∧ (0 : Int32) = 1 ∨ ¬ (lo.toInt ≤ x.toInt ∧ x.toInt ≤ hi.toInt) ∧ (0 : Int32) = 0) := Or.inr ⟨by omega, rfl⟩
      exact W.zret (v := 0) hx hb hr rfl (fun t ht9 hW => ⟨0, rfl, hz0, ht9⟩) (fun q h => by cases h) d_TT_isWithin_15
    · have h7_2 := h7_2
      have i7_2 := ti_nlt h7_2
      refine lv_iconst (v := 1) hx hb d_TT_isWithin_10 (by decide) ?_
      refine lv_goto (tgt := 15) hx hb d_TT_isWithin_11 (by decide) ?_
      have hz0 : ((lo.toInt ≤ x.toInt ∧ x.toInt ≤ hi.toInt) ∧ (1 : Int32) = 1 ∨ ¬ (lo.toInt ≤ x.toInt ∧ x.toInt ≤ hi.toInt) ∧ (1 : Int32) = 0) := Or.inl ⟨⟨by omega, by omega⟩, rfl⟩
      exact W.zret (v := 1) hx hb hr rfl (fun t ht9 hW => ⟨1, rfl, hz0, ht9⟩) (fun q h => by cases h) d_TT_isWithin_15
set_option maxHeartbeats 8000000 in
set_option maxRecDepth 100000 in
theorem k_TT_isChannel (l : Launch) (dC : Nat → ClassId) (dI : Nat → Nat → Nat) (x : Int32) : Met l y_TT_isChannel w_TT_isChannel ({ frames := 1, cells := 0, slots := 0, locals := 22 }) (rdP (dC, dI) ([]) [] [.int x]) (rQ vI (fun r => ((0 ≤ x.toInt ∧ x.toInt ≤ 7) ∧ r = 1 ∨ ¬ (0 ≤ x.toInt ∧ x.toInt ≤ 7) ∧ r = 0))) 0 0 (fun _ => False) := by
  refine Met.ofW (cc := c_TT_isChannel) (maxL := 1) (ret := (some .boolean)) (by decide) rfl ?_
  intro p e s m args below meth c s₁ B hml hv
  obtain ⟨rfl, hP, hK⟩ := hv
  have hx := B.exec
  have hb := B.bytes
  have hr := B.returns
  have ht : ∀ w ∈ tb_, w.before _ s = true := fun w h => atoms_spec (ws := w_TT_isChannel) B.pre w (List.mem_cons_of_mem _ h)
  have hown : s.vm.findClass R_TT = some m.cls := findClass_of_methodNamed B.named
  have hlocks := B.notSynchronized
  have hP : va_P (dC, dI) cls_ ([]) s.heap := hP
  have hl := lv_entry ([.int x]) (n := 1) (Nat.le_of_ble_eq_true rfl)
  rw [lg_entry_eq]
  generalize (lg_sl ([.int x]) ++ List.replicate (1 - (lg_sl ([.int x])).length) Slot.unset).toArray = ls at hl ⊢
  have hl : lv_has ls 1 [(0, .int x)] := hl
  refine lv_iload_n hx hb d_TT_isChannel_0 rfl (lv_at hl 0 rfl) ?_
  refine lv_iconst (v := 0) hx hb d_TT_isChannel_1 (by decide) ?_
  refine lv_bipush (v := 7) hx hb d_TT_isChannel_2 (by decide) ?_
  refine r_call (va_runS (As := [.int x, .int 0, .int 7]) (rest := []) ⟨hx, hb, hml, hown, ht⟩ (k_TT_isWithin l dC dI x ((0 : Int32)) ((7 : Int32))) (va_cwS 3 ht (gS tb_273 tb_226 tb_1 tb_227) rfl rfl rfl (by decide +kernel) ⟨Nat.le_of_ble_eq_true rfl, Nat.le_of_ble_eq_true rfl⟩) ⟨rdP_blind, rd_pre (W0 := []) (tys := []) (fun k q h => by cases h) ⟨hK.1, fun k q h => by cases h⟩⟩ rfl rfl hl.1 rfl (lv_room (Nat.le_of_ble_eq_true rfl)) d_TT_isChannel_4 ⟨Nat.le_of_ble_eq_true rfl, Nat.le_of_ble_eq_true rfl⟩) (fun r1 hu => ?_)
  have hu1_0 := hu
  have hu1_0 : (((0 : Int32).toInt ≤ x.toInt ∧ x.toInt ≤ (7 : Int32).toInt) ∧ r1 = 1 ∨ ¬ ((0 : Int32).toInt ≤ x.toInt ∧ x.toInt ≤ (7 : Int32).toInt) ∧ r1 = 0) := hu1_0
  refine W.eq (g2 := F0 m 7 ls [.int r1]) rfl ?_
  rw [l_0, l_7] at hu1_0; rcases hu1_0 with ⟨hq, rfl⟩ | ⟨hq, rfl⟩
  · have hz0 : ((0 ≤ x.toInt ∧ x.toInt ≤ 7) ∧ (1 : Int32) = 1 ∨ ¬ (0 ≤ x.toInt ∧ x.toInt ≤ 7) ∧ (1 : Int32) = 0) := Or.inl ⟨hq, rfl⟩
    exact W.zret (v := 1) hx hb hr rfl (fun t ht9 hW => ⟨1, rfl, hz0, ht9⟩) (fun q h => by cases h) d_TT_isChannel_7
  · have hz0 : ((0 ≤ x.toInt ∧ x.toInt ≤ 7) ∧ (0 : Int32) = 1 ∨ ¬ (0 ≤ x.toInt ∧ x.toInt ≤ 7) ∧ (0 : Int32) = 0) := Or.inr ⟨hq, rfl⟩
    exact W.zret (v := 0) hx hb hr rfl (fun t ht9 hW => ⟨0, rfl, hz0, ht9⟩) (fun q h => by cases h) d_TT_isChannel_7
set_option maxHeartbeats 8000000 in
set_option maxRecDepth 100000 in
theorem k_JI_bitCount (l : Launch) (dC : Nat → ClassId) (dI : Nat → Nat → Nat) (x : Int32) : Met l y_JI_bitCount w_JI_bitCount ({ frames := 0, cells := 0, slots := 0, locals := 0 }) (rdP (dC, dI) ([]) [] [.int x]) (rQ vI (fun r => True)) 0 0 (fun _ => False) := by
  refine Met.ofW (cc := c_JI_bitCount) (maxL := 1) (ret := (some .int)) (by decide) rfl ?_
  intro p e s m args below meth c s₁ B hml hv
  obtain ⟨rfl, hP, hK⟩ := hv
  have hx := B.exec
  have hb := B.bytes
  have hr := B.returns
  have ht : ∀ w ∈ tb_, w.before _ s = true := fun w h => atoms_spec (ws := w_JI_bitCount) B.pre w (List.mem_cons_of_mem _ h)
  have hown : s.vm.findClass R_JI = some m.cls := findClass_of_methodNamed B.named
  have hlocks := B.notSynchronized
  have hP : va_P (dC, dI) cls_ ([]) s.heap := hP
  have hl := lv_entry ([.int x]) (n := 1) (Nat.le_of_ble_eq_true rfl)
  rw [lg_entry_eq]
  generalize (lg_sl ([.int x]) ++ List.replicate (1 - (lg_sl ([.int x])).length) Slot.unset).toArray = ls at hl ⊢
  have hl : lv_has ls 1 [(0, .int x)] := hl
  refine lv_iload_n hx hb d_JI_bitCount_0 rfl (lv_at hl 0 rfl) ?_
  refine lv_iload_n hx hb d_JI_bitCount_1 rfl (lv_at hl 0 rfl) ?_
  refine lv_iconst (v := 1) hx hb d_JI_bitCount_2 (by decide) ?_
  refine lv_iushr hx hb d_JI_bitCount_3 rfl ?_
  refine lv_topi (fun z1 _ => ?_)
  refine lv_ldcw (v := 1431655765) hx hb hown (ht _ tb_143) d_JI_bitCount_4 ?_
  refine lv_iand hx hb d_JI_bitCount_7 ?_
  refine lv_isub hx hb d_JI_bitCount_8 ?_
  refine lv_istore_n hx hb d_JI_bitCount_9 rfl hl (by decide) rfl (fun ls hl => ?_)
  have hl : lv_has ls 1 [(0, .int (x - (z1 &&& 1431655765)))] := hl
  refine lv_iload_n hx hb d_JI_bitCount_10 rfl (lv_at hl 0 rfl) ?_
  refine lv_ldcw (v := 858993459) hx hb hown (ht _ tb_144) d_JI_bitCount_11 ?_
  refine lv_iand hx hb d_JI_bitCount_14 ?_
  refine lv_iload_n hx hb d_JI_bitCount_15 rfl (lv_at hl 0 rfl) ?_
  refine lv_iconst (v := 2) hx hb d_JI_bitCount_16 (by decide) ?_
  refine lv_iushr hx hb d_JI_bitCount_17 rfl ?_
  refine lv_topi (fun z2 _ => ?_)
  refine lv_ldcw (v := 858993459) hx hb hown (ht _ tb_144) d_JI_bitCount_18 ?_
  refine lv_iand hx hb d_JI_bitCount_21 ?_
  refine lv_iadd hx hb d_JI_bitCount_22 ?_
  refine lv_istore_n hx hb d_JI_bitCount_23 rfl hl (by decide) rfl (fun ls hl => ?_)
  have hl : lv_has ls 1 [(0, .int (((x - (z1 &&& 1431655765)) &&& 858993459) + (z2 &&& 858993459)))] := hl
  refine lv_iload_n hx hb d_JI_bitCount_24 rfl (lv_at hl 0 rfl) ?_
  refine lv_iload_n hx hb d_JI_bitCount_25 rfl (lv_at hl 0 rfl) ?_
  refine lv_iconst (v := 4) hx hb d_JI_bitCount_26 (by decide) ?_
  refine lv_iushr hx hb d_JI_bitCount_27 rfl ?_
  refine lv_topi (fun z3 _ => ?_)
  refine lv_iadd hx hb d_JI_bitCount_28 ?_
  refine lv_ldcw (v := 252645135) hx hb hown (ht _ tb_145) d_JI_bitCount_29 ?_
  refine lv_iand hx hb d_JI_bitCount_32 ?_
  refine lv_istore_n hx hb d_JI_bitCount_33 rfl hl (by decide) rfl (fun ls hl => ?_)
  have hl : lv_has ls 1 [(0, .int (((((x - (z1 &&& 1431655765)) &&& 858993459) + (z2 &&& 858993459)) + z3) &&& 252645135))] := hl
  refine lv_iload_n hx hb d_JI_bitCount_34 rfl (lv_at hl 0 rfl) ?_
  refine lv_iload_n hx hb d_JI_bitCount_35 rfl (lv_at hl 0 rfl) ?_
  refine lv_bipush (v := 8) hx hb d_JI_bitCount_36 (by decide) ?_
  refine lv_iushr hx hb d_JI_bitCount_38 rfl ?_
  refine lv_topi (fun z4 _ => ?_)
  refine lv_iadd hx hb d_JI_bitCount_39 ?_
  refine lv_istore_n hx hb d_JI_bitCount_40 rfl hl (by decide) rfl (fun ls hl => ?_)
  have hl : lv_has ls 1 [(0, .int ((((((x - (z1 &&& 1431655765)) &&& 858993459) + (z2 &&& 858993459)) + z3) &&& 252645135) + z4))] := hl
  refine lv_iload_n hx hb d_JI_bitCount_41 rfl (lv_at hl 0 rfl) ?_
  refine lv_iload_n hx hb d_JI_bitCount_42 rfl (lv_at hl 0 rfl) ?_
  refine lv_bipush (v := 16) hx hb d_JI_bitCount_43 (by decide) ?_
  refine lv_iushr hx hb d_JI_bitCount_45 rfl ?_
  refine lv_topi (fun z5 _ => ?_)
  refine lv_iadd hx hb d_JI_bitCount_46 ?_
  refine lv_istore_n hx hb d_JI_bitCount_47 rfl hl (by decide) rfl (fun ls hl => ?_)
  have hl : lv_has ls 1 [(0, .int (((((((x - (z1 &&& 1431655765)) &&& 858993459) + (z2 &&& 858993459)) + z3) &&& 252645135) + z4) + z5))] := hl
  refine lv_iload_n hx hb d_JI_bitCount_48 rfl (lv_at hl 0 rfl) ?_
  refine lv_bipush (v := 63) hx hb d_JI_bitCount_49 (by decide) ?_
  refine lv_iand hx hb d_JI_bitCount_51 ?_
  exact W.iret (v := (((((((x - (z1 &&& 1431655765)) &&& 858993459) + (z2 &&& 858993459)) + z3) &&& 252645135) + z4) + z5) &&& 63) hx hb hr (fun t ht9 hW => ⟨(((((((x - (z1 &&& 1431655765)) &&& 858993459) + (z2 &&& 858993459)) + z3) &&& 252645135) + z4) + z5) &&& 63, rfl, trivial, ht9⟩) (fun q h => by cases h) d_JI_bitCount_52
set_option maxHeartbeats 8000000 in
set_option maxRecDepth 100000 in
theorem k_RQ_isOpen (l : Launch) (dC : Nat → ClassId) (dI : Nat → Nat → Nat) (cd : Nat → Nat) (kI kQ : ClassId) (L : List Nat) (isA : Nat → Bool) (bk : Nat → Nat) (sc : Nat → Int32) (ia : Nat → Nat → Int32) (qa : Nat → Nat → Option Nat) (rf ba : Nat → Nat → Int32) (N : Nat) (hC : CI N L isA bk sc qa rf) (a : Nat) (ha : a ∈ L) (hn : isA a = false) : Met l y_RQ_isOpen w_RQ_isOpen ({ frames := 0, cells := 0, slots := 0, locals := 0 }) (rdP (dC, dI) (CW cd kI kQ L isA bk sc ia qa rf ba) (CT kI kQ) [.ref a]) (rQ vI (fun r => True)) 0 0 (fun _ => False) := by
  refine Met.ofW (cc := c_RQ_isOpen) (maxL := 1) (ret := (some .boolean)) (by decide) rfl ?_
  intro p e s m args below meth c s₁ B hml hv
  obtain ⟨rfl, hP, hK⟩ := hv
  have hx := B.exec
  have hb := B.bytes
  have hr := B.returns
  have ht : ∀ w ∈ tb_, w.before _ s = true := fun w h => atoms_spec (ws := w_RQ_isOpen) B.pre w (List.mem_cons_of_mem _ h)
  have hown : s.vm.findClass R_RQ = some m.cls := findClass_of_methodNamed B.named
  have hlocks := B.notSynchronized
  have hP : va_P (dC, dI) cls_ (CW cd kI kQ L isA bk sc ia qa rf ba) s.heap := hP
  have hl := lv_entry ([.ref a]) (n := 1) (Nat.le_of_ble_eq_true rfl)
  rw [lg_entry_eq]
  generalize (lg_sl ([.ref a]) ++ List.replicate (1 - (lg_sl ([.ref a])).length) Slot.unset).toArray = ls at hl ⊢
  have hl : lv_has ls 1 [(0, .ref a)] := hl
  have hN := hC.1.1
  refine lv_aload_n hx hb d_RQ_isOpen_0 rfl (lv_at hl 0 rfl) ?_
  obtain ⟨kq, hkq⟩ := pq_at (X := CX cd kI kQ sc ia qa) (kI := kI) (bk := bk) (rf := rf) (ba := ba) ha hn
  refine va_get (D := (dC, dI)) (ci := 4) (v := .int (rf a 8)) (C := R_RQ) (T := F_RQ) (N := 17) hx hb ht in_RQ hown hK hP kq hkq rfl 8 (by decide) (ht _ tb_391) (fun _ h9 => h9) rfl d_RQ_isOpen_1 ?_
  refine lv_if_eq (tgt := 15) hx hb d_RQ_isOpen_4 (by decide) (fun h4_1 => ?_) (fun h4_1 => ?_)
  · have h4_1 := h4_1
    have i4_1 := ti_eq h4_1
    (try rw [l_0] at i4_1)
    refine lv_iconst (v := 1) hx hb d_RQ_isOpen_15 (by decide) ?_
    refine lv_goto (tgt := 20) hx hb d_RQ_isOpen_16 (by decide) ?_
    exact W.zret (v := 1) hx hb hr rfl (fun t ht9 hW => ⟨1, rfl, trivial, ht9⟩) (fun q h => by cases h) d_RQ_isOpen_20
  · have h4_1 := h4_1
    have i4_1 := ti_ne h4_1
    (try rw [l_0] at i4_1)
    refine lv_aload_n hx hb d_RQ_isOpen_7 rfl (lv_at hl 0 rfl) ?_
    obtain ⟨kq, hkq⟩ := pq_at (X := CX cd kI kQ sc ia qa) (kI := kI) (bk := bk) (rf := rf) (ba := ba) ha hn
    refine va_get (D := (dC, dI)) (ci := 4) (v := .int (rf a 8)) (C := R_RQ) (T := F_RQ) (N := 17) hx hb ht in_RQ hown hK hP kq hkq rfl 8 (by decide) (ht _ tb_391) (fun _ h9 => h9) rfl d_RQ_isOpen_8 ?_
    refine lv_iconst (v := 1) hx hb d_RQ_isOpen_11 (by decide) ?_
    refine lv_icmp_ne (tgt := 19) hx hb d_RQ_isOpen_12 (by decide) (fun h12_2 => ?_) (fun h12_2 => ?_)
    · have h12_2 := h12_2
      have i12_2 := ti_ne h12_2
      (try rw [l_1] at i12_2)
      refine lv_iconst (v := 0) hx hb d_RQ_isOpen_19 (by decide) ?_
      exact W.zret (v := 0) hx hb hr rfl (fun t ht9 hW => ⟨0, rfl, trivial, ht9⟩) (fun q h => by cases h) d_RQ_isOpen_20
    · have h12_2 := h12_2
      have i12_2 := ti_eq h12_2
      (try rw [l_1] at i12_2)
      refine lv_iconst (v := 1) hx hb d_RQ_isOpen_15 (by decide) ?_
      refine lv_goto (tgt := 20) hx hb d_RQ_isOpen_16 (by decide) ?_
      exact W.zret (v := 1) hx hb hr rfl (fun t ht9 hW => ⟨1, rfl, trivial, ht9⟩) (fun q h => by cases h) d_RQ_isOpen_20
set_option maxHeartbeats 8000000 in
set_option maxRecDepth 100000 in
theorem k_RQ_isRecording (l : Launch) (dC : Nat → ClassId) (dI : Nat → Nat → Nat) (cd : Nat → Nat) (kI kQ : ClassId) (L : List Nat) (isA : Nat → Bool) (bk : Nat → Nat) (sc : Nat → Int32) (ia : Nat → Nat → Int32) (qa : Nat → Nat → Option Nat) (rf ba : Nat → Nat → Int32) (N : Nat) (hC : CI N L isA bk sc qa rf) (a : Nat) (ha : a ∈ L) (hn : isA a = false) : Met l y_RQ_isRecording w_RQ_isRecording ({ frames := 0, cells := 0, slots := 0, locals := 0 }) (rdP (dC, dI) (CW cd kI kQ L isA bk sc ia qa rf ba) (CT kI kQ) [.ref a]) (rQ vI (fun r => True)) 0 0 (fun _ => False) := by
  refine Met.ofW (cc := c_RQ_isRecording) (maxL := 1) (ret := (some .boolean)) (by decide) rfl ?_
  intro p e s m args below meth c s₁ B hml hv
  obtain ⟨rfl, hP, hK⟩ := hv
  have hx := B.exec
  have hb := B.bytes
  have hr := B.returns
  have ht : ∀ w ∈ tb_, w.before _ s = true := fun w h => atoms_spec (ws := w_RQ_isRecording) B.pre w (List.mem_cons_of_mem _ h)
  have hown : s.vm.findClass R_RQ = some m.cls := findClass_of_methodNamed B.named
  have hlocks := B.notSynchronized
  have hP : va_P (dC, dI) cls_ (CW cd kI kQ L isA bk sc ia qa rf ba) s.heap := hP
  have hl := lv_entry ([.ref a]) (n := 1) (Nat.le_of_ble_eq_true rfl)
  rw [lg_entry_eq]
  generalize (lg_sl ([.ref a]) ++ List.replicate (1 - (lg_sl ([.ref a])).length) Slot.unset).toArray = ls at hl ⊢
  have hl : lv_has ls 1 [(0, .ref a)] := hl
  have hN := hC.1.1
  refine lv_aload_n hx hb d_RQ_isRecording_0 rfl (lv_at hl 0 rfl) ?_
  obtain ⟨kq, hkq⟩ := pq_at (X := CX cd kI kQ sc ia qa) (kI := kI) (bk := bk) (rf := rf) (ba := ba) ha hn
  refine va_get (D := (dC, dI)) (ci := 4) (v := .int (rf a 8)) (C := R_RQ) (T := F_RQ) (N := 17) hx hb ht in_RQ hown hK hP kq hkq rfl 8 (by decide) (ht _ tb_391) (fun _ h9 => h9) rfl d_RQ_isRecording_1 ?_
  refine lv_iconst (v := 1) hx hb d_RQ_isRecording_4 (by decide) ?_
  refine lv_icmp_eq (tgt := 16) hx hb d_RQ_isRecording_5 (by decide) (fun h5_1 => ?_) (fun h5_1 => ?_)
  · have h5_1 := h5_1
    have i5_1 := ti_eq h5_1
    (try rw [l_1] at i5_1)
    refine lv_iconst (v := 1) hx hb d_RQ_isRecording_16 (by decide) ?_
    refine lv_goto (tgt := 21) hx hb d_RQ_isRecording_17 (by decide) ?_
    exact W.zret (v := 1) hx hb hr rfl (fun t ht9 hW => ⟨1, rfl, trivial, ht9⟩) (fun q h => by cases h) d_RQ_isRecording_21
  · have h5_1 := h5_1
    have i5_1 := ti_ne h5_1
    (try rw [l_1] at i5_1)
    refine lv_aload_n hx hb d_RQ_isRecording_8 rfl (lv_at hl 0 rfl) ?_
    obtain ⟨kq, hkq⟩ := pq_at (X := CX cd kI kQ sc ia qa) (kI := kI) (bk := bk) (rf := rf) (ba := ba) ha hn
    refine va_get (D := (dC, dI)) (ci := 4) (v := .int (rf a 8)) (C := R_RQ) (T := F_RQ) (N := 17) hx hb ht in_RQ hown hK hP kq hkq rfl 8 (by decide) (ht _ tb_391) (fun _ h9 => h9) rfl d_RQ_isRecording_9 ?_
    refine lv_iconst (v := 2) hx hb d_RQ_isRecording_12 (by decide) ?_
    refine lv_icmp_ne (tgt := 20) hx hb d_RQ_isRecording_13 (by decide) (fun h13_2 => ?_) (fun h13_2 => ?_)
    · have h13_2 := h13_2
      have i13_2 := ti_ne h13_2
      (try rw [l_2] at i13_2)
      refine lv_iconst (v := 0) hx hb d_RQ_isRecording_20 (by decide) ?_
      exact W.zret (v := 0) hx hb hr rfl (fun t ht9 hW => ⟨0, rfl, trivial, ht9⟩) (fun q h => by cases h) d_RQ_isRecording_21
    · have h13_2 := h13_2
      have i13_2 := ti_eq h13_2
      (try rw [l_2] at i13_2)
      refine lv_iconst (v := 1) hx hb d_RQ_isRecording_16 (by decide) ?_
      refine lv_goto (tgt := 21) hx hb d_RQ_isRecording_17 (by decide) ?_
      exact W.zret (v := 1) hx hb hr rfl (fun t ht9 hW => ⟨1, rfl, trivial, ht9⟩) (fun q h => by cases h) d_RQ_isRecording_21
set_option maxHeartbeats 8000000 in
set_option maxRecDepth 100000 in
theorem k_RQ_isPlanned (l : Launch) (dC : Nat → ClassId) (dI : Nat → Nat → Nat) (cd : Nat → Nat) (kI kQ : ClassId) (L : List Nat) (isA : Nat → Bool) (bk : Nat → Nat) (sc : Nat → Int32) (ia : Nat → Nat → Int32) (qa : Nat → Nat → Option Nat) (rf ba : Nat → Nat → Int32) (N : Nat) (hC : CI N L isA bk sc qa rf) (a : Nat) (ha : a ∈ L) (hn : isA a = false) : Met l y_RQ_isPlanned w_RQ_isPlanned ({ frames := 0, cells := 0, slots := 0, locals := 0 }) (rdP (dC, dI) (CW cd kI kQ L isA bk sc ia qa rf ba) (CT kI kQ) [.ref a]) (rQ vI (fun r => True)) 0 0 (fun _ => False) := by
  refine Met.ofW (cc := c_RQ_isPlanned) (maxL := 1) (ret := (some .boolean)) (by decide) rfl ?_
  intro p e s m args below meth c s₁ B hml hv
  obtain ⟨rfl, hP, hK⟩ := hv
  have hx := B.exec
  have hb := B.bytes
  have hr := B.returns
  have ht : ∀ w ∈ tb_, w.before _ s = true := fun w h => atoms_spec (ws := w_RQ_isPlanned) B.pre w (List.mem_cons_of_mem _ h)
  have hown : s.vm.findClass R_RQ = some m.cls := findClass_of_methodNamed B.named
  have hlocks := B.notSynchronized
  have hP : va_P (dC, dI) cls_ (CW cd kI kQ L isA bk sc ia qa rf ba) s.heap := hP
  have hl := lv_entry ([.ref a]) (n := 1) (Nat.le_of_ble_eq_true rfl)
  rw [lg_entry_eq]
  generalize (lg_sl ([.ref a]) ++ List.replicate (1 - (lg_sl ([.ref a])).length) Slot.unset).toArray = ls at hl ⊢
  have hl : lv_has ls 1 [(0, .ref a)] := hl
  have hN := hC.1.1
  refine lv_aload_n hx hb d_RQ_isPlanned_0 rfl (lv_at hl 0 rfl) ?_
  obtain ⟨kq, hkq⟩ := pq_at (X := CX cd kI kQ sc ia qa) (kI := kI) (bk := bk) (rf := rf) (ba := ba) ha hn
  refine va_get (D := (dC, dI)) (ci := 4) (v := .int (rf a 11)) (C := R_RQ) (T := F_RQ) (N := 17) hx hb ht in_RQ hown hK hP kq hkq rfl 11 (by decide) (ht _ tb_399) (fun _ h9 => h9) rfl d_RQ_isPlanned_1 ?_
  refine lv_aload_n hx hb d_RQ_isPlanned_4 rfl (lv_at hl 0 rfl) ?_
  obtain ⟨kq, hkq⟩ := pq_at (X := CX cd kI kQ sc ia qa) (kI := kI) (bk := bk) (rf := rf) (ba := ba) ha hn
  refine va_get (D := (dC, dI)) (ci := 4) (v := .int (rf a 12)) (C := R_RQ) (T := F_RQ) (N := 17) hx hb ht in_RQ hown hK hP kq hkq rfl 12 (by decide) (ht _ tb_402) (fun _ h9 => h9) rfl d_RQ_isPlanned_5 ?_
  refine lv_icmp_ge (tgt := 15) hx hb d_RQ_isPlanned_8 (by decide) (fun h8_1 => ?_) (fun h8_1 => ?_)
  · have h8_1 := h8_1
    have i8_1 := ti_le h8_1
    refine lv_iconst (v := 0) hx hb d_RQ_isPlanned_15 (by decide) ?_
    exact W.zret (v := 0) hx hb hr rfl (fun t ht9 hW => ⟨0, rfl, trivial, ht9⟩) (fun q h => by cases h) d_RQ_isPlanned_16
  · have h8_1 := h8_1
    have i8_1 := ti_nle h8_1
    refine lv_iconst (v := 1) hx hb d_RQ_isPlanned_11 (by decide) ?_
    refine lv_goto (tgt := 16) hx hb d_RQ_isPlanned_12 (by decide) ?_
    exact W.zret (v := 1) hx hb hr rfl (fun t ht9 hW => ⟨1, rfl, trivial, ht9⟩) (fun q h => by cases h) d_RQ_isPlanned_16
set_option maxHeartbeats 8000000 in
set_option maxRecDepth 100000 in
theorem k_RQ_takeStretch (l : Launch) (dC : Nat → ClassId) (dI : Nat → Nat → Nat) (cd : Nat → Nat) (kI kQ : ClassId) (L : List Nat) (isA : Nat → Bool) (bk : Nat → Nat) (sc : Nat → Int32) (ia : Nat → Nat → Int32) (qa : Nat → Nat → Option Nat) (rf ba : Nat → Nat → Int32) (sz Bd : Nat) (N : Nat) (hC : CI N L isA bk sc qa rf) (a : Nat) (ha : a ∈ L) (hn : isA a = false) (x x2 : Int32) : Met l y_RQ_takeStretch w_RQ_takeStretch ({ frames := 0, cells := 0, slots := 0, locals := 0 }) (frP (dC, dI) (CW cd kI kQ L isA bk sc ia qa rf ba) (CT kI kQ) sz Bd [.ref a, .int x, .int x2]) (tQ (dC, dI) (cW cd kI kQ L isA bk) (va_A (CW cd kI kQ L isA bk sc ia qa rf ba) sz) vN (fun r u => sc = u.1 ∧ ia = u.2.1 ∧ qa = u.2.2.1 ∧ ba = u.2.2.2.2 ∧ CI N L isA bk u.1 u.2.2.1 u.2.2.2.1)) 0 0 (va_A (CW cd kI kQ L isA bk sc ia qa rf ba) sz) := by
  refine Met.ofW (cc := c_RQ_takeStretch) (maxL := 3) (ret := none) (by decide) rfl ?_
  intro p e s m args below meth c s₁ B hml hv
  obtain ⟨rfl, ⟨hsz, hBs⟩, hP, hK, hD0, hV⟩ := hv
  have hx := B.exec
  have hb := B.bytes
  have hr := B.returns
  have ht : ∀ w ∈ tb_, w.before _ s = true := fun w h => atoms_spec (ws := w_RQ_takeStretch) B.pre w (List.mem_cons_of_mem _ h)
  have hown : s.vm.findClass R_RQ = some m.cls := findClass_of_methodNamed B.named
  have hlocks := B.notSynchronized
  subst hsz
  have hD := hD0.self (sz := s.heap.size)
  have hAB : ∀ q, va_A (CW cd kI kQ L isA bk sc ia qa rf ba) s.heap.size q → Bd ≤ q := fr_AB hD0 hBs
  generalize hAe : va_A (CW cd kI kQ L isA bk sc ia qa rf ba) s.heap.size = A at hD hAB ⊢
  have hA : ∀ q : Nat, s.heap.size ≤ q → A q := fun q h => by rw [← hAe]; exact Or.inr h
  have hS : va_S A s.heap s.heap [] := va_S.rf
  have hs : same [] sc sc := same.rf
  have hP : va_P (dC, dI) cls_ (CW cd kI kQ L isA bk sc ia qa rf ba) s.heap := hP
  have hl := lv_entry ([.ref a, .int x, .int x2]) (n := 3) (Nat.le_of_ble_eq_true rfl)
  rw [lg_entry_eq]
  generalize (lg_sl ([.ref a, .int x, .int x2]) ++ List.replicate (3 - (lg_sl ([.ref a, .int x, .int x2])).length) Slot.unset).toArray = ls at hl ⊢
  have hl : lv_has ls 3 [(0, .ref a), (1, .int x), (2, .int x2)] := hl
  have hN := hC.1.1
  refine lv_aload_n hx hb d_RQ_takeStretch_0 rfl (lv_at hl 0 rfl) ?_
  refine lv_iload_n hx hb d_RQ_takeStretch_1 rfl (lv_at hl 1 rfl) ?_
  obtain ⟨kq, hkq⟩ := pq_at (X := CX cd kI kQ sc ia qa) (kI := kI) (bk := bk) (rf := rf) (ba := ba) ha hn
  have hD0 := hD
  refine va_put (D := (dC, dI)) (ci := 4) (v := .int x) (ty := .int) (C := R_RQ) (T := F_RQ) (N := 17) hx hb ht in_RQ t_RQ t_RQ_ok n_RQ hown hK hP hD hS kq hkq rfl 11 (by decide) (ht _ tb_399) (fun _ h9 => h9) rfl (by decide +kernel) rfl rfl (Nat.le_of_ble_eq_true rfl) d_RQ_takeStretch_2 (fun H locs hP hD hS => ?_)
  rw [pq_set hD0 ha hn hkq rfl] at hP hD
  have hP : va_P (dC, dI) cls_ (CW cd kI kQ L isA bk sc ia qa (va_up rf a (va_up (rf a) 11 x)) ba) H := hP
  have hD : va_D A (CW cd kI kQ L isA bk sc ia qa (va_up rf a (va_up (rf a) 11 x)) ba) := hD
  obtain ⟨rf1, erf1⟩ : ∃ q9_, q9_ = va_up rf a (va_up (rf a) 11 x) := ⟨_, rfl⟩
  rw [← erf1] at hP hD
  have hC : CI N L isA bk sc qa rf1 := by rw [erf1]; exact CI_r hC (by decide) (Or.inl (by decide))
  refine lv_aload_n hx hb d_RQ_takeStretch_5 rfl (lv_at hl 0 rfl) ?_
  refine lv_iload_n hx hb d_RQ_takeStretch_6 rfl (lv_at hl 2 rfl) ?_
  obtain ⟨kq, hkq⟩ := pq_at (X := CX cd kI kQ sc ia qa) (kI := kI) (bk := bk) (rf := rf1) (ba := ba) ha hn
  have hD0 := hD
  refine va_put (D := (dC, dI)) (ci := 4) (v := .int x2) (ty := .int) (C := R_RQ) (T := F_RQ) (N := 17) hx hb ht in_RQ t_RQ t_RQ_ok n_RQ hown hK hP hD hS kq hkq rfl 12 (by decide) (ht _ tb_402) (fun _ h9 => h9) rfl (by decide +kernel) rfl rfl (Nat.le_of_ble_eq_true rfl) d_RQ_takeStretch_7 (fun H locs hP hD hS => ?_)
  rw [pq_set hD0 ha hn hkq rfl] at hP hD
  have hP : va_P (dC, dI) cls_ (CW cd kI kQ L isA bk sc ia qa (va_up rf1 a (va_up (rf1 a) 12 x2)) ba) H := hP
  have hD : va_D A (CW cd kI kQ L isA bk sc ia qa (va_up rf1 a (va_up (rf1 a) 12 x2)) ba) := hD
  obtain ⟨rf2, erf2⟩ : ∃ q9_, q9_ = va_up rf1 a (va_up (rf1 a) 12 x2) := ⟨_, rfl⟩
  rw [← erf2] at hP hD
  have hC : CI N L isA bk sc qa rf2 := by rw [erf2]; exact CI_r hC (by decide) (Or.inl (by decide))
  exact W.vret hx hb hr (fun t ht9 hW => ⟨⟨(), (sc, ia, qa, rf2, ba), rfl, ⟨rfl, rfl, rfl, rfl, hC⟩, by rw [ht9]; exact hP, hD⟩, hS.F ht9⟩) hS.2.2 d_RQ_takeStretch_10
set_option maxHeartbeats 8000000 in
set_option maxRecDepth 100000 in
theorem k_RQ_finishAt (l : Launch) (dC : Nat → ClassId) (dI : Nat → Nat → Nat) (cd : Nat → Nat) (kI kQ : ClassId) (L : List Nat) (isA : Nat → Bool) (bk : Nat → Nat) (sc : Nat → Int32) (ia : Nat → Nat → Int32) (qa : Nat → Nat → Option Nat) (rf ba : Nat → Nat → Int32) (sz Bd : Nat) (N : Nat) (hC : CI N L isA bk sc qa rf) (a : Nat) (ha : a ∈ L) (hn : isA a = false) (x : Int32) : Met l y_RQ_finishAt w_RQ_finishAt ({ frames := 0, cells := 0, slots := 0, locals := 0 }) (frP (dC, dI) (CW cd kI kQ L isA bk sc ia qa rf ba) (CT kI kQ) sz Bd [.ref a, .int x]) (tQ (dC, dI) (cW cd kI kQ L isA bk) (va_A (CW cd kI kQ L isA bk sc ia qa rf ba) sz) vN (fun r u => sc = u.1 ∧ ia = u.2.1 ∧ qa = u.2.2.1 ∧ ba = u.2.2.2.2 ∧ CI N L isA bk u.1 u.2.2.1 u.2.2.2.1)) 0 0 (va_A (CW cd kI kQ L isA bk sc ia qa rf ba) sz) := by
  refine Met.ofW (cc := c_RQ_finishAt) (maxL := 2) (ret := none) (by decide) rfl ?_
  intro p e s m args below meth c s₁ B hml hv
  obtain ⟨rfl, ⟨hsz, hBs⟩, hP, hK, hD0, hV⟩ := hv
  have hx := B.exec
  have hb := B.bytes
  have hr := B.returns
  have ht : ∀ w ∈ tb_, w.before _ s = true := fun w h => atoms_spec (ws := w_RQ_finishAt) B.pre w (List.mem_cons_of_mem _ h)
  have hown : s.vm.findClass R_RQ = some m.cls := findClass_of_methodNamed B.named
  have hlocks := B.notSynchronized
  subst hsz
  have hD := hD0.self (sz := s.heap.size)
  have hAB : ∀ q, va_A (CW cd kI kQ L isA bk sc ia qa rf ba) s.heap.size q → Bd ≤ q := fr_AB hD0 hBs
  generalize hAe : va_A (CW cd kI kQ L isA bk sc ia qa rf ba) s.heap.size = A at hD hAB ⊢
  have hA : ∀ q : Nat, s.heap.size ≤ q → A q := fun q h => by rw [← hAe]; exact Or.inr h
  have hS : va_S A s.heap s.heap [] := va_S.rf
  have hs : same [] sc sc := same.rf
  have hP : va_P (dC, dI) cls_ (CW cd kI kQ L isA bk sc ia qa rf ba) s.heap := hP
  have hl := lv_entry ([.ref a, .int x]) (n := 2) (Nat.le_of_ble_eq_true rfl)
  rw [lg_entry_eq]
  generalize (lg_sl ([.ref a, .int x]) ++ List.replicate (2 - (lg_sl ([.ref a, .int x])).length) Slot.unset).toArray = ls at hl ⊢
  have hl : lv_has ls 2 [(0, .ref a), (1, .int x)] := hl
  have hN := hC.1.1
  refine lv_aload_n hx hb d_RQ_finishAt_0 rfl (lv_at hl 0 rfl) ?_
  refine lv_iconst (v := 2) hx hb d_RQ_finishAt_1 (by decide) ?_
  obtain ⟨kq, hkq⟩ := pq_at (X := CX cd kI kQ sc ia qa) (kI := kI) (bk := bk) (rf := rf) (ba := ba) ha hn
  have hD0 := hD
  refine va_put (D := (dC, dI)) (ci := 4) (v := .int 2) (ty := .int) (C := R_RQ) (T := F_RQ) (N := 17) hx hb ht in_RQ t_RQ t_RQ_ok n_RQ hown hK hP hD hS kq hkq rfl 8 (by decide) (ht _ tb_391) (fun _ h9 => h9) rfl (by decide +kernel) rfl rfl (Nat.le_of_ble_eq_true rfl) d_RQ_finishAt_2 (fun H locs hP hD hS => ?_)
  rw [pq_set hD0 ha hn hkq rfl] at hP hD
  have hP : va_P (dC, dI) cls_ (CW cd kI kQ L isA bk sc ia qa (va_up rf a (va_up (rf a) 8 2)) ba) H := hP
  have hD : va_D A (CW cd kI kQ L isA bk sc ia qa (va_up rf a (va_up (rf a) 8 2)) ba) := hD
  obtain ⟨rf1, erf1⟩ : ∃ q9_, q9_ = va_up rf a (va_up (rf a) 8 2) := ⟨_, rfl⟩
  rw [← erf1] at hP hD
  have hC : CI N L isA bk sc qa rf1 := by rw [erf1]; exact CI_r hC (by decide) (Or.inl (by decide))
  refine lv_aload_n hx hb d_RQ_finishAt_5 rfl (lv_at hl 0 rfl) ?_
  refine lv_iload_n hx hb d_RQ_finishAt_6 rfl (lv_at hl 1 rfl) ?_
  obtain ⟨kq, hkq⟩ := pq_at (X := CX cd kI kQ sc ia qa) (kI := kI) (bk := bk) (rf := rf1) (ba := ba) ha hn
  have hD0 := hD
  refine va_put (D := (dC, dI)) (ci := 4) (v := .int x) (ty := .int) (C := R_RQ) (T := F_RQ) (N := 17) hx hb ht in_RQ t_RQ t_RQ_ok n_RQ hown hK hP hD hS kq hkq rfl 10 (by decide) (ht _ tb_396) (fun _ h9 => h9) rfl (by decide +kernel) rfl rfl (Nat.le_of_ble_eq_true rfl) d_RQ_finishAt_7 (fun H locs hP hD hS => ?_)
  rw [pq_set hD0 ha hn hkq rfl] at hP hD
  have hP : va_P (dC, dI) cls_ (CW cd kI kQ L isA bk sc ia qa (va_up rf1 a (va_up (rf1 a) 10 x)) ba) H := hP
  have hD : va_D A (CW cd kI kQ L isA bk sc ia qa (va_up rf1 a (va_up (rf1 a) 10 x)) ba) := hD
  obtain ⟨rf2, erf2⟩ : ∃ q9_, q9_ = va_up rf1 a (va_up (rf1 a) 10 x) := ⟨_, rfl⟩
  rw [← erf2] at hP hD
  have hC : CI N L isA bk sc qa rf2 := by rw [erf2]; exact CI_r hC (by decide) (Or.inl (by decide))
  exact W.vret hx hb hr (fun t ht9 hW => ⟨⟨(), (sc, ia, qa, rf2, ba), rfl, ⟨rfl, rfl, rfl, rfl, hC⟩, by rw [ht9]; exact hP, hD⟩, hS.F ht9⟩) hS.2.2 d_RQ_finishAt_10
set_option maxHeartbeats 8000000 in
set_option maxRecDepth 100000 in
theorem k_RQ_follow (l : Launch) (dC : Nat → ClassId) (dI : Nat → Nat → Nat) (cd : Nat → Nat) (kI kQ : ClassId) (L : List Nat) (isA : Nat → Bool) (bk : Nat → Nat) (sc : Nat → Int32) (ia : Nat → Nat → Int32) (qa : Nat → Nat → Option Nat) (rf ba : Nat → Nat → Int32) (sz Bd : Nat) (N : Nat) (hC : CI N L isA bk sc qa rf) (a : Nat) (ha : a ∈ L) (hn : isA a = false) (x : Int32) : Met l y_RQ_follow w_RQ_follow ({ frames := 1, cells := 0, slots := 0, locals := 20 }) (frP (dC, dI) (CW cd kI kQ L isA bk sc ia qa rf ba) (CT kI kQ) sz Bd [.ref a, .int x]) (tQ (dC, dI) (cW cd kI kQ L isA bk) (va_A (CW cd kI kQ L isA bk sc ia qa rf ba) sz) vN (fun r u => sc = u.1 ∧ ia = u.2.1 ∧ qa = u.2.2.1 ∧ ba = u.2.2.2.2 ∧ CI N L isA bk u.1 u.2.2.1 u.2.2.2.1)) 0 0 (va_A (CW cd kI kQ L isA bk sc ia qa rf ba) sz) := by
  refine Met.ofW (cc := c_RQ_follow) (maxL := 2) (ret := none) (by decide) rfl ?_
  intro p e s m args below meth c s₁ B hml hv
  obtain ⟨rfl, ⟨hsz, hBs⟩, hP, hK, hD0, hV⟩ := hv
  have hx := B.exec
  have hb := B.bytes
  have hr := B.returns
  have ht : ∀ w ∈ tb_, w.before _ s = true := fun w h => atoms_spec (ws := w_RQ_follow) B.pre w (List.mem_cons_of_mem _ h)
  have hown : s.vm.findClass R_RQ = some m.cls := findClass_of_methodNamed B.named
  have hlocks := B.notSynchronized
  subst hsz
  have hD := hD0.self (sz := s.heap.size)
  have hAB : ∀ q, va_A (CW cd kI kQ L isA bk sc ia qa rf ba) s.heap.size q → Bd ≤ q := fr_AB hD0 hBs
  generalize hAe : va_A (CW cd kI kQ L isA bk sc ia qa rf ba) s.heap.size = A at hD hAB ⊢
  have hA : ∀ q : Nat, s.heap.size ≤ q → A q := fun q h => by rw [← hAe]; exact Or.inr h
  have hS : va_S A s.heap s.heap [] := va_S.rf
  have hs : same [] sc sc := same.rf
  have hP : va_P (dC, dI) cls_ (CW cd kI kQ L isA bk sc ia qa rf ba) s.heap := hP
  have hl := lv_entry ([.ref a, .int x]) (n := 2) (Nat.le_of_ble_eq_true rfl)
  rw [lg_entry_eq]
  generalize (lg_sl ([.ref a, .int x]) ++ List.replicate (2 - (lg_sl ([.ref a, .int x])).length) Slot.unset).toArray = ls at hl ⊢
  have hl : lv_has ls 2 [(0, .ref a), (1, .int x)] := hl
  have hN := hC.1.1
  refine lv_aload_n hx hb d_RQ_follow_0 rfl (lv_at hl 0 rfl) ?_
  obtain ⟨kq, hkq⟩ := pq_at (X := CX cd kI kQ sc ia qa) (kI := kI) (bk := bk) (rf := rf) (ba := ba) ha hn
  refine va_get (D := (dC, dI)) (ci := 4) (v := .int (rf a 8)) (C := R_RQ) (T := F_RQ) (N := 17) hx hb ht in_RQ hown hK hP kq hkq rfl 8 (by decide) (ht _ tb_391) (fun _ h9 => h9) rfl d_RQ_follow_1 ?_
  refine lv_iconst (v := 1) hx hb d_RQ_follow_4 (by decide) ?_
  refine lv_icmp_ne (tgt := 19) hx hb d_RQ_follow_5 (by decide) (fun h5_1 => ?_) (fun h5_1 => ?_)
  · have h5_1 := h5_1
    have i5_1 := ti_ne h5_1
    (try rw [l_1] at i5_1)
    refine lv_aload_n hx hb d_RQ_follow_19 rfl (lv_at hl 0 rfl) ?_
    obtain ⟨kq, hkq⟩ := pq_at (X := CX cd kI kQ sc ia qa) (kI := kI) (bk := bk) (rf := rf) (ba := ba) ha hn
    refine va_get (D := (dC, dI)) (ci := 4) (v := .int (rf a 8)) (C := R_RQ) (T := F_RQ) (N := 17) hx hb ht in_RQ hown hK hP kq hkq rfl 8 (by decide) (ht _ tb_391) (fun _ h9 => h9) rfl d_RQ_follow_20 ?_
    refine lv_if_ne (tgt := 62) hx hb d_RQ_follow_23 (by decide) (fun h23_2 => ?_) (fun h23_2 => ?_)
    · have h23_2 := h23_2
      have i23_2 := ti_ne h23_2
      (try rw [l_0] at i23_2)
      refine lv_aload_n hx hb d_RQ_follow_62 rfl (lv_at hl 0 rfl) ?_
      obtain ⟨kq, hkq⟩ := pq_at (X := CX cd kI kQ sc ia qa) (kI := kI) (bk := bk) (rf := rf) (ba := ba) ha hn
      refine va_get (D := (dC, dI)) (ci := 4) (v := .int (rf a 8)) (C := R_RQ) (T := F_RQ) (N := 17) hx hb ht in_RQ hown hK hP kq hkq rfl 8 (by decide) (ht _ tb_391) (fun _ h9 => h9) rfl d_RQ_follow_63 ?_
      refine lv_if_ne (tgt := 89) hx hb d_RQ_follow_66 (by decide) (fun _ => ?_) (fun h9 => absurd h9 (h23_2))
      exact W.vret hx hb hr (fun t ht9 hW => ⟨⟨(), (sc, ia, qa, rf, ba), rfl, ⟨rfl, rfl, rfl, rfl, hC⟩, by rw [ht9]; exact hP, hD⟩, hS.F ht9⟩) hS.2.2 d_RQ_follow_89
    · have h23_2 := h23_2
      have i23_2 := ti_eq h23_2
      (try rw [l_0] at i23_2)
      refine lv_aload_n hx hb d_RQ_follow_26 rfl (lv_at hl 0 rfl) ?_
      obtain ⟨kq, hkq⟩ := pq_at (X := CX cd kI kQ sc ia qa) (kI := kI) (bk := bk) (rf := rf) (ba := ba) ha hn
      refine r_call (va_runV (C := R_RQ) (As := []) (rest := []) ⟨hx, hb, hml, hown, ht⟩ (k_RQ_isPlanned l dC dI cd kI kQ L isA bk sc ia qa rf ba N hC a ha hn) (cwV 0 ht (gV tb_170 tb_159 tb_160 tb_11 tb_161) rfl rfl rfl (by decide +kernel) ⟨Nat.le_of_ble_eq_true rfl, Nat.le_of_ble_eq_true rfl⟩) ⟨rdP_blind, va_recv (q := (R_RQ, F_RQ, 17)) hK hP rfl hkq, rd_pre hP hK⟩ rfl rfl hl.1 rfl (lv_room (Nat.le_of_ble_eq_true rfl)) d_RQ_follow_27 ⟨Nat.le_of_ble_eq_true rfl, Nat.le_of_ble_eq_true rfl⟩) (fun r1 hu => ?_)
      clear hu
      refine W.eq (g2 := F0 m 30 ls [.int r1]) rfl ?_
      refine lv_if_eq (tgt := 62) hx hb d_RQ_follow_30 (by decide) (fun h30_3 => ?_) (fun h30_3 => ?_)
      · have h30_3 := h30_3
        have i30_3 := ti_eq h30_3
        (try rw [l_0] at i30_3)
        refine lv_aload_n hx hb d_RQ_follow_62 rfl (lv_at hl 0 rfl) ?_
        obtain ⟨kq, hkq⟩ := pq_at (X := CX cd kI kQ sc ia qa) (kI := kI) (bk := bk) (rf := rf) (ba := ba) ha hn
        refine va_get (D := (dC, dI)) (ci := 4) (v := .int (rf a 8)) (C := R_RQ) (T := F_RQ) (N := 17) hx hb ht in_RQ hown hK hP kq hkq rfl 8 (by decide) (ht _ tb_391) (fun _ h9 => h9) rfl d_RQ_follow_63 ?_
        refine lv_if_ne (tgt := 89) hx hb d_RQ_follow_66 (by decide) (fun h9 => absurd (h23_2) h9) (fun _ => ?_)
        refine lv_aload_n hx hb d_RQ_follow_69 rfl (lv_at hl 0 rfl) ?_
        obtain ⟨kq, hkq⟩ := pq_at (X := CX cd kI kQ sc ia qa) (kI := kI) (bk := bk) (rf := rf) (ba := ba) ha hn
        refine r_call (va_runV (C := R_RQ) (As := []) (rest := []) ⟨hx, hb, hml, hown, ht⟩ (k_RQ_isPlanned l dC dI cd kI kQ L isA bk sc ia qa rf ba N hC a ha hn) (cwV 0 ht (gV tb_170 tb_159 tb_160 tb_11 tb_161) rfl rfl rfl (by decide +kernel) ⟨Nat.le_of_ble_eq_true rfl, Nat.le_of_ble_eq_true rfl⟩) ⟨rdP_blind, va_recv (q := (R_RQ, F_RQ, 17)) hK hP rfl hkq, rd_pre hP hK⟩ rfl rfl hl.1 rfl (lv_room (Nat.le_of_ble_eq_true rfl)) d_RQ_follow_70 ⟨Nat.le_of_ble_eq_true rfl, Nat.le_of_ble_eq_true rfl⟩) (fun r2 hu => ?_)
        clear hu
        refine W.eq (g2 := F0 m 73 ls [.int r2]) rfl ?_
        refine lv_if_ne (tgt := 89) hx hb d_RQ_follow_73 (by decide) (fun h73_4 => ?_) (fun h73_4 => ?_)
        · have h73_4 := h73_4
          have i73_4 := ti_ne h73_4
          (try rw [l_0] at i73_4)
          exact W.vret hx hb hr (fun t ht9 hW => ⟨⟨(), (sc, ia, qa, rf, ba), rfl, ⟨rfl, rfl, rfl, rfl, hC⟩, by rw [ht9]; exact hP, hD⟩, hS.F ht9⟩) hS.2.2 d_RQ_follow_89
        · have h73_4 := h73_4
          have i73_4 := ti_eq h73_4
          (try rw [l_0] at i73_4)
          refine lv_aload_n hx hb d_RQ_follow_76 rfl (lv_at hl 0 rfl) ?_
          obtain ⟨kq, hkq⟩ := pq_at (X := CX cd kI kQ sc ia qa) (kI := kI) (bk := bk) (rf := rf) (ba := ba) ha hn
          refine va_get (D := (dC, dI)) (ci := 4) (v := .int (rf a 2)) (C := R_RQ) (T := F_RQ) (N := 17) hx hb ht in_RQ hown hK hP kq hkq rfl 2 (by decide) (ht _ tb_377) (fun _ h9 => h9) rfl d_RQ_follow_77 ?_
          refine lv_iload_n hx hb d_RQ_follow_80 rfl (lv_at hl 1 rfl) ?_
          refine lv_icmp_ne (tgt := 89) hx hb d_RQ_follow_81 (by decide) (fun h81_5 => ?_) (fun h81_5 => ?_)
          · have h81_5 := h81_5
            have i81_5 := ti_ne h81_5
            exact W.vret hx hb hr (fun t ht9 hW => ⟨⟨(), (sc, ia, qa, rf, ba), rfl, ⟨rfl, rfl, rfl, rfl, hC⟩, by rw [ht9]; exact hP, hD⟩, hS.F ht9⟩) hS.2.2 d_RQ_follow_89
          · have h81_5 := h81_5
            have i81_5 := ti_eq h81_5
            refine lv_aload_n hx hb d_RQ_follow_84 rfl (lv_at hl 0 rfl) ?_
            refine lv_iconst (v := 3) hx hb d_RQ_follow_85 (by decide) ?_
            obtain ⟨kq, hkq⟩ := pq_at (X := CX cd kI kQ sc ia qa) (kI := kI) (bk := bk) (rf := rf) (ba := ba) ha hn
            have hD0 := hD
            refine va_put (D := (dC, dI)) (ci := 4) (v := .int 3) (ty := .int) (C := R_RQ) (T := F_RQ) (N := 17) hx hb ht in_RQ t_RQ t_RQ_ok n_RQ hown hK hP hD hS kq hkq rfl 8 (by decide) (ht _ tb_391) (fun _ h9 => h9) rfl (by decide +kernel) rfl rfl (Nat.le_of_ble_eq_true rfl) d_RQ_follow_86 (fun H locs hP hD hS => ?_)
            rw [pq_set hD0 ha hn hkq rfl] at hP hD
            have hP : va_P (dC, dI) cls_ (CW cd kI kQ L isA bk sc ia qa (va_up rf a (va_up (rf a) 8 3)) ba) H := hP
            have hD : va_D A (CW cd kI kQ L isA bk sc ia qa (va_up rf a (va_up (rf a) 8 3)) ba) := hD
            obtain ⟨rf3, erf3⟩ : ∃ q9_, q9_ = va_up rf a (va_up (rf a) 8 3) := ⟨_, rfl⟩
            rw [← erf3] at hP hD
            have hC : CI N L isA bk sc qa rf3 := by rw [erf3]; exact CI_r hC (by decide) (Or.inl (by decide))
            exact W.vret hx hb hr (fun t ht9 hW => ⟨⟨(), (sc, ia, qa, rf3, ba), rfl, ⟨rfl, rfl, rfl, rfl, hC⟩, by rw [ht9]; exact hP, hD⟩, hS.F ht9⟩) hS.2.2 d_RQ_follow_89
      · have h30_3 := h30_3
        have i30_3 := ti_ne h30_3
        (try rw [l_0] at i30_3)
        refine lv_aload_n hx hb d_RQ_follow_33 rfl (lv_at hl 0 rfl) ?_
        obtain ⟨kq, hkq⟩ := pq_at (X := CX cd kI kQ sc ia qa) (kI := kI) (bk := bk) (rf := rf) (ba := ba) ha hn
        refine va_get (D := (dC, dI)) (ci := 4) (v := .int (rf a 11)) (C := R_RQ) (T := F_RQ) (N := 17) hx hb ht in_RQ hown hK hP kq hkq rfl 11 (by decide) (ht _ tb_399) (fun _ h9 => h9) rfl d_RQ_follow_34 ?_
        refine lv_iload_n hx hb d_RQ_follow_37 rfl (lv_at hl 1 rfl) ?_
        refine lv_icmp_ne (tgt := 62) hx hb d_RQ_follow_38 (by decide) (fun h38_6 => ?_) (fun h38_6 => ?_)
        · have h38_6 := h38_6
          have i38_6 := ti_ne h38_6
          refine lv_aload_n hx hb d_RQ_follow_62 rfl (lv_at hl 0 rfl) ?_
          obtain ⟨kq, hkq⟩ := pq_at (X := CX cd kI kQ sc ia qa) (kI := kI) (bk := bk) (rf := rf) (ba := ba) ha hn
          refine va_get (D := (dC, dI)) (ci := 4) (v := .int (rf a 8)) (C := R_RQ) (T := F_RQ) (N := 17) hx hb ht in_RQ hown hK hP kq hkq rfl 8 (by decide) (ht _ tb_391) (fun _ h9 => h9) rfl d_RQ_follow_63 ?_
          refine lv_if_ne (tgt := 89) hx hb d_RQ_follow_66 (by decide) (fun h9 => absurd (h23_2) h9) (fun _ => ?_)
          refine lv_aload_n hx hb d_RQ_follow_69 rfl (lv_at hl 0 rfl) ?_
          obtain ⟨kq, hkq⟩ := pq_at (X := CX cd kI kQ sc ia qa) (kI := kI) (bk := bk) (rf := rf) (ba := ba) ha hn
          refine r_call (va_runV (C := R_RQ) (As := []) (rest := []) ⟨hx, hb, hml, hown, ht⟩ (k_RQ_isPlanned l dC dI cd kI kQ L isA bk sc ia qa rf ba N hC a ha hn) (cwV 0 ht (gV tb_170 tb_159 tb_160 tb_11 tb_161) rfl rfl rfl (by decide +kernel) ⟨Nat.le_of_ble_eq_true rfl, Nat.le_of_ble_eq_true rfl⟩) ⟨rdP_blind, va_recv (q := (R_RQ, F_RQ, 17)) hK hP rfl hkq, rd_pre hP hK⟩ rfl rfl hl.1 rfl (lv_room (Nat.le_of_ble_eq_true rfl)) d_RQ_follow_70 ⟨Nat.le_of_ble_eq_true rfl, Nat.le_of_ble_eq_true rfl⟩) (fun r4 hu => ?_)
          clear hu
          refine W.eq (g2 := F0 m 73 ls [.int r4]) rfl ?_
          refine lv_if_ne (tgt := 89) hx hb d_RQ_follow_73 (by decide) (fun h73_7 => ?_) (fun h73_7 => ?_)
          · have h73_7 := h73_7
            have i73_7 := ti_ne h73_7
            (try rw [l_0] at i73_7)
            exact W.vret hx hb hr (fun t ht9 hW => ⟨⟨(), (sc, ia, qa, rf, ba), rfl, ⟨rfl, rfl, rfl, rfl, hC⟩, by rw [ht9]; exact hP, hD⟩, hS.F ht9⟩) hS.2.2 d_RQ_follow_89
          · have h73_7 := h73_7
            have i73_7 := ti_eq h73_7
            (try rw [l_0] at i73_7)
            refine lv_aload_n hx hb d_RQ_follow_76 rfl (lv_at hl 0 rfl) ?_
            obtain ⟨kq, hkq⟩ := pq_at (X := CX cd kI kQ sc ia qa) (kI := kI) (bk := bk) (rf := rf) (ba := ba) ha hn
            refine va_get (D := (dC, dI)) (ci := 4) (v := .int (rf a 2)) (C := R_RQ) (T := F_RQ) (N := 17) hx hb ht in_RQ hown hK hP kq hkq rfl 2 (by decide) (ht _ tb_377) (fun _ h9 => h9) rfl d_RQ_follow_77 ?_
            refine lv_iload_n hx hb d_RQ_follow_80 rfl (lv_at hl 1 rfl) ?_
            refine lv_icmp_ne (tgt := 89) hx hb d_RQ_follow_81 (by decide) (fun h81_8 => ?_) (fun h81_8 => ?_)
            · have h81_8 := h81_8
              have i81_8 := ti_ne h81_8
              exact W.vret hx hb hr (fun t ht9 hW => ⟨⟨(), (sc, ia, qa, rf, ba), rfl, ⟨rfl, rfl, rfl, rfl, hC⟩, by rw [ht9]; exact hP, hD⟩, hS.F ht9⟩) hS.2.2 d_RQ_follow_89
            · have h81_8 := h81_8
              have i81_8 := ti_eq h81_8
              refine lv_aload_n hx hb d_RQ_follow_84 rfl (lv_at hl 0 rfl) ?_
              refine lv_iconst (v := 3) hx hb d_RQ_follow_85 (by decide) ?_
              obtain ⟨kq, hkq⟩ := pq_at (X := CX cd kI kQ sc ia qa) (kI := kI) (bk := bk) (rf := rf) (ba := ba) ha hn
              have hD0 := hD
              refine va_put (D := (dC, dI)) (ci := 4) (v := .int 3) (ty := .int) (C := R_RQ) (T := F_RQ) (N := 17) hx hb ht in_RQ t_RQ t_RQ_ok n_RQ hown hK hP hD hS kq hkq rfl 8 (by decide) (ht _ tb_391) (fun _ h9 => h9) rfl (by decide +kernel) rfl rfl (Nat.le_of_ble_eq_true rfl) d_RQ_follow_86 (fun H locs hP hD hS => ?_)
              rw [pq_set hD0 ha hn hkq rfl] at hP hD
              have hP : va_P (dC, dI) cls_ (CW cd kI kQ L isA bk sc ia qa (va_up rf a (va_up (rf a) 8 3)) ba) H := hP
              have hD : va_D A (CW cd kI kQ L isA bk sc ia qa (va_up rf a (va_up (rf a) 8 3)) ba) := hD
              obtain ⟨rf5, erf5⟩ : ∃ q9_, q9_ = va_up rf a (va_up (rf a) 8 3) := ⟨_, rfl⟩
              rw [← erf5] at hP hD
              have hC : CI N L isA bk sc qa rf5 := by rw [erf5]; exact CI_r hC (by decide) (Or.inl (by decide))
              exact W.vret hx hb hr (fun t ht9 hW => ⟨⟨(), (sc, ia, qa, rf5, ba), rfl, ⟨rfl, rfl, rfl, rfl, hC⟩, by rw [ht9]; exact hP, hD⟩, hS.F ht9⟩) hS.2.2 d_RQ_follow_89
        · have h38_6 := h38_6
          have i38_6 := ti_eq h38_6
          refine lv_aload_n hx hb d_RQ_follow_41 rfl (lv_at hl 0 rfl) ?_
          refine lv_iconst (v := 1) hx hb d_RQ_follow_42 (by decide) ?_
          obtain ⟨kq, hkq⟩ := pq_at (X := CX cd kI kQ sc ia qa) (kI := kI) (bk := bk) (rf := rf) (ba := ba) ha hn
          have hD0 := hD
          refine va_put (D := (dC, dI)) (ci := 4) (v := .int 1) (ty := .int) (C := R_RQ) (T := F_RQ) (N := 17) hx hb ht in_RQ t_RQ t_RQ_ok n_RQ hown hK hP hD hS kq hkq rfl 8 (by decide) (ht _ tb_391) (fun _ h9 => h9) rfl (by decide +kernel) rfl rfl (Nat.le_of_ble_eq_true rfl) d_RQ_follow_43 (fun H locs hP hD hS => ?_)
          rw [pq_set hD0 ha hn hkq rfl] at hP hD
          have hP : va_P (dC, dI) cls_ (CW cd kI kQ L isA bk sc ia qa (va_up rf a (va_up (rf a) 8 1)) ba) H := hP
          have hD : va_D A (CW cd kI kQ L isA bk sc ia qa (va_up rf a (va_up (rf a) 8 1)) ba) := hD
          obtain ⟨rf6, erf6⟩ : ∃ q9_, q9_ = va_up rf a (va_up (rf a) 8 1) := ⟨_, rfl⟩
          rw [← erf6] at hP hD
          have hC : CI N L isA bk sc qa rf6 := by rw [erf6]; exact CI_r hC (by decide) (Or.inl (by decide))
          refine lv_aload_n hx hb d_RQ_follow_46 rfl (lv_at hl 0 rfl) ?_
          refine lv_iload_n hx hb d_RQ_follow_47 rfl (lv_at hl 1 rfl) ?_
          obtain ⟨kq, hkq⟩ := pq_at (X := CX cd kI kQ sc ia qa) (kI := kI) (bk := bk) (rf := rf6) (ba := ba) ha hn
          have hD0 := hD
          refine va_put (D := (dC, dI)) (ci := 4) (v := .int x) (ty := .int) (C := R_RQ) (T := F_RQ) (N := 17) hx hb ht in_RQ t_RQ t_RQ_ok n_RQ hown hK hP hD hS kq hkq rfl 9 (by decide) (ht _ tb_394) (fun _ h9 => h9) rfl (by decide +kernel) rfl rfl (Nat.le_of_ble_eq_true rfl) d_RQ_follow_48 (fun H locs hP hD hS => ?_)
          rw [pq_set hD0 ha hn hkq rfl] at hP hD
          have hP : va_P (dC, dI) cls_ (CW cd kI kQ L isA bk sc ia qa (va_up rf6 a (va_up (rf6 a) 9 x)) ba) H := hP
          have hD : va_D A (CW cd kI kQ L isA bk sc ia qa (va_up rf6 a (va_up (rf6 a) 9 x)) ba) := hD
          obtain ⟨rf7, erf7⟩ : ∃ q9_, q9_ = va_up rf6 a (va_up (rf6 a) 9 x) := ⟨_, rfl⟩
          rw [← erf7] at hP hD
          have hC : CI N L isA bk sc qa rf7 := by rw [erf7]; exact CI_r hC (by decide) (Or.inl (by decide))
          refine lv_aload_n hx hb d_RQ_follow_51 rfl (lv_at hl 0 rfl) ?_
          refine lv_aload_n hx hb d_RQ_follow_52 rfl (lv_at hl 0 rfl) ?_
          obtain ⟨kq, hkq⟩ := pq_at (X := CX cd kI kQ sc ia qa) (kI := kI) (bk := bk) (rf := rf7) (ba := ba) ha hn
          refine va_get (D := (dC, dI)) (ci := 4) (v := .int (rf7 a 12)) (C := R_RQ) (T := F_RQ) (N := 17) hx hb ht in_RQ hown hK hP kq hkq rfl 12 (by decide) (ht _ tb_402) (fun _ h9 => h9) rfl d_RQ_follow_53 ?_
          obtain ⟨kq, hkq⟩ := pq_at (X := CX cd kI kQ sc ia qa) (kI := kI) (bk := bk) (rf := rf7) (ba := ba) ha hn
          have hD0 := hD
          refine va_put (D := (dC, dI)) (ci := 4) (v := .int (rf7 a 12)) (ty := .int) (C := R_RQ) (T := F_RQ) (N := 17) hx hb ht in_RQ t_RQ t_RQ_ok n_RQ hown hK hP hD hS kq hkq rfl 10 (by decide) (ht _ tb_396) (fun _ h9 => h9) rfl (by decide +kernel) rfl rfl (Nat.le_of_ble_eq_true rfl) d_RQ_follow_56 (fun H locs hP hD hS => ?_)
          rw [pq_set hD0 ha hn hkq rfl] at hP hD
          have hP : va_P (dC, dI) cls_ (CW cd kI kQ L isA bk sc ia qa (va_up rf7 a (va_up (rf7 a) 10 (rf7 a 12))) ba) H := hP
          have hD : va_D A (CW cd kI kQ L isA bk sc ia qa (va_up rf7 a (va_up (rf7 a) 10 (rf7 a 12))) ba) := hD
          obtain ⟨rf8, erf8⟩ : ∃ q9_, q9_ = va_up rf7 a (va_up (rf7 a) 10 (rf7 a 12)) := ⟨_, rfl⟩
          rw [← erf8] at hP hD
          have hC : CI N L isA bk sc qa rf8 := by rw [erf8]; exact CI_r hC (by decide) (Or.inl (by decide))
          refine lv_goto (tgt := 89) hx hb d_RQ_follow_59 (by decide) ?_
          exact W.vret hx hb hr (fun t ht9 hW => ⟨⟨(), (sc, ia, qa, rf8, ba), rfl, ⟨rfl, rfl, rfl, rfl, hC⟩, by rw [ht9]; exact hP, hD⟩, hS.F ht9⟩) hS.2.2 d_RQ_follow_89
  · have h5_1 := h5_1
    have i5_1 := ti_eq h5_1
    (try rw [l_1] at i5_1)
    refine lv_aload_n hx hb d_RQ_follow_8 rfl (lv_at hl 0 rfl) ?_
    refine lv_aload_n hx hb d_RQ_follow_9 rfl (lv_at hl 0 rfl) ?_
    obtain ⟨kq, hkq⟩ := pq_at (X := CX cd kI kQ sc ia qa) (kI := kI) (bk := bk) (rf := rf) (ba := ba) ha hn
    refine va_get (D := (dC, dI)) (ci := 4) (v := .int (rf a 12)) (C := R_RQ) (T := F_RQ) (N := 17) hx hb ht in_RQ hown hK hP kq hkq rfl 12 (by decide) (ht _ tb_402) (fun _ h9 => h9) rfl d_RQ_follow_10 ?_
    obtain ⟨kq, hkq⟩ := pq_at (X := CX cd kI kQ sc ia qa) (kI := kI) (bk := bk) (rf := rf) (ba := ba) ha hn
    have hD0 := hD
    refine va_put (D := (dC, dI)) (ci := 4) (v := .int (rf a 12)) (ty := .int) (C := R_RQ) (T := F_RQ) (N := 17) hx hb ht in_RQ t_RQ t_RQ_ok n_RQ hown hK hP hD hS kq hkq rfl 10 (by decide) (ht _ tb_396) (fun _ h9 => h9) rfl (by decide +kernel) rfl rfl (Nat.le_of_ble_eq_true rfl) d_RQ_follow_13 (fun H locs hP hD hS => ?_)
    rw [pq_set hD0 ha hn hkq rfl] at hP hD
    have hP : va_P (dC, dI) cls_ (CW cd kI kQ L isA bk sc ia qa (va_up rf a (va_up (rf a) 10 (rf a 12))) ba) H := hP
    have hD : va_D A (CW cd kI kQ L isA bk sc ia qa (va_up rf a (va_up (rf a) 10 (rf a 12))) ba) := hD
    obtain ⟨rf9, erf9⟩ : ∃ q9_, q9_ = va_up rf a (va_up (rf a) 10 (rf a 12)) := ⟨_, rfl⟩
    rw [← erf9] at hP hD
    have hC : CI N L isA bk sc qa rf9 := by rw [erf9]; exact CI_r hC (by decide) (Or.inl (by decide))
    refine lv_goto (tgt := 89) hx hb d_RQ_follow_16 (by decide) ?_
    exact W.vret hx hb hr (fun t ht9 hW => ⟨⟨(), (sc, ia, qa, rf9, ba), rfl, ⟨rfl, rfl, rfl, rfl, hC⟩, by rw [ht9]; exact hP, hD⟩, hS.F ht9⟩) hS.2.2 d_RQ_follow_89
set_option maxHeartbeats 8000000 in
set_option maxRecDepth 100000 in
theorem k_RQ_goesBefore (l : Launch) (dC : Nat → ClassId) (dI : Nat → Nat → Nat) (cd : Nat → Nat) (kI kQ : ClassId) (L : List Nat) (isA : Nat → Bool) (bk : Nat → Nat) (sc : Nat → Int32) (ia : Nat → Nat → Int32) (qa : Nat → Nat → Option Nat) (rf ba : Nat → Nat → Int32) (N : Nat) (hC : CI N L isA bk sc qa rf) (a : Nat) (haa : a ∈ L) (hna : isA a = false) (b : Nat) (hab : b ∈ L) (hnb : isA b = false) : Met l y_RQ_goesBefore w_RQ_goesBefore ({ frames := 0, cells := 0, slots := 0, locals := 0 }) (rdP (dC, dI) (CW cd kI kQ L isA bk sc ia qa rf ba) (CT kI kQ) [.ref a, .ref b]) (rQ vI (fun r => True)) 0 0 (fun _ => False) := by
  refine Met.ofW (cc := c_RQ_goesBefore) (maxL := 2) (ret := (some .boolean)) (by decide) rfl ?_
  intro p e s m args below meth c s₁ B hml hv
  obtain ⟨rfl, hP, hK⟩ := hv
  have hx := B.exec
  have hb := B.bytes
  have hr := B.returns
  have ht : ∀ w ∈ tb_, w.before _ s = true := fun w h => atoms_spec (ws := w_RQ_goesBefore) B.pre w (List.mem_cons_of_mem _ h)
  have hown : s.vm.findClass R_RQ = some m.cls := findClass_of_methodNamed B.named
  have hlocks := B.notSynchronized
  have hP : va_P (dC, dI) cls_ (CW cd kI kQ L isA bk sc ia qa rf ba) s.heap := hP
  have hl := lv_entry ([.ref a, .ref b]) (n := 2) (Nat.le_of_ble_eq_true rfl)
  rw [lg_entry_eq]
  generalize (lg_sl ([.ref a, .ref b]) ++ List.replicate (2 - (lg_sl ([.ref a, .ref b])).length) Slot.unset).toArray = ls at hl ⊢
  have hl : lv_has ls 2 [(0, .ref a), (1, .ref b)] := hl
  have hN := hC.1.1
  refine lv_aload_n hx hb d_RQ_goesBefore_0 rfl (lv_at hl 0 rfl) ?_
  obtain ⟨kq, hkq⟩ := pq_at (X := CX cd kI kQ sc ia qa) (kI := kI) (bk := bk) (rf := rf) (ba := ba) haa hna
  refine va_get (D := (dC, dI)) (ci := 4) (v := .int (rf a 16)) (C := R_RQ) (T := F_RQ) (N := 17) hx hb ht in_RQ hown hK hP kq hkq rfl 16 (by decide) (ht _ tb_411) (fun _ h9 => h9) rfl d_RQ_goesBefore_1 ?_
  refine lv_aload_n hx hb d_RQ_goesBefore_4 rfl (lv_at hl 1 rfl) ?_
  obtain ⟨kq, hkq⟩ := pq_at (X := CX cd kI kQ sc ia qa) (kI := kI) (bk := bk) (rf := rf) (ba := ba) hab hnb
  refine va_get (D := (dC, dI)) (ci := 4) (v := .int (rf b 16)) (C := R_RQ) (T := F_RQ) (N := 17) hx hb ht in_RQ hown hK hP kq hkq rfl 16 (by decide) (ht _ tb_411) (fun _ h9 => h9) rfl d_RQ_goesBefore_5 ?_
  refine lv_icmp_eq (tgt := 16) hx hb d_RQ_goesBefore_8 (by decide) (fun h8_1 => ?_) (fun h8_1 => ?_)
  · have h8_1 := h8_1
    have i8_1 := ti_eq h8_1
    refine lv_aload_n hx hb d_RQ_goesBefore_16 rfl (lv_at hl 0 rfl) ?_
    obtain ⟨kq, hkq⟩ := pq_at (X := CX cd kI kQ sc ia qa) (kI := kI) (bk := bk) (rf := rf) (ba := ba) haa hna
    refine va_get (D := (dC, dI)) (ci := 4) (v := .int (rf a 16)) (C := R_RQ) (T := F_RQ) (N := 17) hx hb ht in_RQ hown hK hP kq hkq rfl 16 (by decide) (ht _ tb_411) (fun _ h9 => h9) rfl d_RQ_goesBefore_17 ?_
    refine lv_if_ne (tgt := 51) hx hb d_RQ_goesBefore_20 (by decide) (fun h20_2 => ?_) (fun h20_2 => ?_)
    · have h20_2 := h20_2
      have i20_2 := ti_ne h20_2
      (try rw [l_0] at i20_2)
      refine lv_aload_n hx hb d_RQ_goesBefore_51 rfl (lv_at hl 0 rfl) ?_
      obtain ⟨kq, hkq⟩ := pq_at (X := CX cd kI kQ sc ia qa) (kI := kI) (bk := bk) (rf := rf) (ba := ba) haa hna
      refine va_get (D := (dC, dI)) (ci := 4) (v := .int (rf a 10)) (C := R_RQ) (T := F_RQ) (N := 17) hx hb ht in_RQ hown hK hP kq hkq rfl 10 (by decide) (ht _ tb_396) (fun _ h9 => h9) rfl d_RQ_goesBefore_52 ?_
      refine lv_aload_n hx hb d_RQ_goesBefore_55 rfl (lv_at hl 1 rfl) ?_
      obtain ⟨kq, hkq⟩ := pq_at (X := CX cd kI kQ sc ia qa) (kI := kI) (bk := bk) (rf := rf) (ba := ba) hab hnb
      refine va_get (D := (dC, dI)) (ci := 4) (v := .int (rf b 10)) (C := R_RQ) (T := F_RQ) (N := 17) hx hb ht in_RQ hown hK hP kq hkq rfl 10 (by decide) (ht _ tb_396) (fun _ h9 => h9) rfl d_RQ_goesBefore_56 ?_
      refine lv_icmp_ge (tgt := 66) hx hb d_RQ_goesBefore_59 (by decide) (fun h59_3 => ?_) (fun h59_3 => ?_)
      · have h59_3 := h59_3
        have i59_3 := ti_le h59_3
        refine lv_iconst (v := 0) hx hb d_RQ_goesBefore_66 (by decide) ?_
        exact W.zret (v := 0) hx hb hr rfl (fun t ht9 hW => ⟨0, rfl, trivial, ht9⟩) (fun q h => by cases h) d_RQ_goesBefore_67
      · have h59_3 := h59_3
        have i59_3 := ti_nle h59_3
        refine lv_iconst (v := 1) hx hb d_RQ_goesBefore_62 (by decide) ?_
        refine lv_goto (tgt := 67) hx hb d_RQ_goesBefore_63 (by decide) ?_
        exact W.zret (v := 1) hx hb hr rfl (fun t ht9 hW => ⟨1, rfl, trivial, ht9⟩) (fun q h => by cases h) d_RQ_goesBefore_67
    · have h20_2 := h20_2
      have i20_2 := ti_eq h20_2
      (try rw [l_0] at i20_2)
      refine lv_aload_n hx hb d_RQ_goesBefore_23 rfl (lv_at hl 0 rfl) ?_
      obtain ⟨kq, hkq⟩ := pq_at (X := CX cd kI kQ sc ia qa) (kI := kI) (bk := bk) (rf := rf) (ba := ba) haa hna
      refine va_get (D := (dC, dI)) (ci := 4) (v := .int (rf a 4)) (C := R_RQ) (T := F_RQ) (N := 17) hx hb ht in_RQ hown hK hP kq hkq rfl 4 (by decide) (ht _ tb_383) (fun _ h9 => h9) rfl d_RQ_goesBefore_24 ?_
      refine lv_aload_n hx hb d_RQ_goesBefore_27 rfl (lv_at hl 1 rfl) ?_
      obtain ⟨kq, hkq⟩ := pq_at (X := CX cd kI kQ sc ia qa) (kI := kI) (bk := bk) (rf := rf) (ba := ba) hab hnb
      refine va_get (D := (dC, dI)) (ci := 4) (v := .int (rf b 4)) (C := R_RQ) (T := F_RQ) (N := 17) hx hb ht in_RQ hown hK hP kq hkq rfl 4 (by decide) (ht _ tb_383) (fun _ h9 => h9) rfl d_RQ_goesBefore_28 ?_
      refine lv_icmp_eq (tgt := 51) hx hb d_RQ_goesBefore_31 (by decide) (fun h31_4 => ?_) (fun h31_4 => ?_)
      · have h31_4 := h31_4
        have i31_4 := ti_eq h31_4
        refine lv_aload_n hx hb d_RQ_goesBefore_51 rfl (lv_at hl 0 rfl) ?_
        obtain ⟨kq, hkq⟩ := pq_at (X := CX cd kI kQ sc ia qa) (kI := kI) (bk := bk) (rf := rf) (ba := ba) haa hna
        refine va_get (D := (dC, dI)) (ci := 4) (v := .int (rf a 10)) (C := R_RQ) (T := F_RQ) (N := 17) hx hb ht in_RQ hown hK hP kq hkq rfl 10 (by decide) (ht _ tb_396) (fun _ h9 => h9) rfl d_RQ_goesBefore_52 ?_
        refine lv_aload_n hx hb d_RQ_goesBefore_55 rfl (lv_at hl 1 rfl) ?_
        obtain ⟨kq, hkq⟩ := pq_at (X := CX cd kI kQ sc ia qa) (kI := kI) (bk := bk) (rf := rf) (ba := ba) hab hnb
        refine va_get (D := (dC, dI)) (ci := 4) (v := .int (rf b 10)) (C := R_RQ) (T := F_RQ) (N := 17) hx hb ht in_RQ hown hK hP kq hkq rfl 10 (by decide) (ht _ tb_396) (fun _ h9 => h9) rfl d_RQ_goesBefore_56 ?_
        refine lv_icmp_ge (tgt := 66) hx hb d_RQ_goesBefore_59 (by decide) (fun h59_5 => ?_) (fun h59_5 => ?_)
        · have h59_5 := h59_5
          have i59_5 := ti_le h59_5
          refine lv_iconst (v := 0) hx hb d_RQ_goesBefore_66 (by decide) ?_
          exact W.zret (v := 0) hx hb hr rfl (fun t ht9 hW => ⟨0, rfl, trivial, ht9⟩) (fun q h => by cases h) d_RQ_goesBefore_67
        · have h59_5 := h59_5
          have i59_5 := ti_nle h59_5
          refine lv_iconst (v := 1) hx hb d_RQ_goesBefore_62 (by decide) ?_
          refine lv_goto (tgt := 67) hx hb d_RQ_goesBefore_63 (by decide) ?_
          exact W.zret (v := 1) hx hb hr rfl (fun t ht9 hW => ⟨1, rfl, trivial, ht9⟩) (fun q h => by cases h) d_RQ_goesBefore_67
      · have h31_4 := h31_4
        have i31_4 := ti_ne h31_4
        refine lv_aload_n hx hb d_RQ_goesBefore_34 rfl (lv_at hl 0 rfl) ?_
        obtain ⟨kq, hkq⟩ := pq_at (X := CX cd kI kQ sc ia qa) (kI := kI) (bk := bk) (rf := rf) (ba := ba) haa hna
        refine va_get (D := (dC, dI)) (ci := 4) (v := .int (rf a 4)) (C := R_RQ) (T := F_RQ) (N := 17) hx hb ht in_RQ hown hK hP kq hkq rfl 4 (by decide) (ht _ tb_383) (fun _ h9 => h9) rfl d_RQ_goesBefore_35 ?_
        refine lv_aload_n hx hb d_RQ_goesBefore_38 rfl (lv_at hl 1 rfl) ?_
        obtain ⟨kq, hkq⟩ := pq_at (X := CX cd kI kQ sc ia qa) (kI := kI) (bk := bk) (rf := rf) (ba := ba) hab hnb
        refine va_get (D := (dC, dI)) (ci := 4) (v := .int (rf b 4)) (C := R_RQ) (T := F_RQ) (N := 17) hx hb ht in_RQ hown hK hP kq hkq rfl 4 (by decide) (ht _ tb_383) (fun _ h9 => h9) rfl d_RQ_goesBefore_39 ?_
        refine lv_icmp_ge (tgt := 49) hx hb d_RQ_goesBefore_42 (by decide) (fun h42_6 => ?_) (fun h42_6 => ?_)
        · have h42_6 := h42_6
          have i42_6 := ti_le h42_6
          refine lv_iconst (v := 0) hx hb d_RQ_goesBefore_49 (by decide) ?_
          exact W.zret (v := 0) hx hb hr rfl (fun t ht9 hW => ⟨0, rfl, trivial, ht9⟩) (fun q h => by cases h) d_RQ_goesBefore_50
        · have h42_6 := h42_6
          have i42_6 := ti_nle h42_6
          refine lv_iconst (v := 1) hx hb d_RQ_goesBefore_45 (by decide) ?_
          refine lv_goto (tgt := 50) hx hb d_RQ_goesBefore_46 (by decide) ?_
          exact W.zret (v := 1) hx hb hr rfl (fun t ht9 hW => ⟨1, rfl, trivial, ht9⟩) (fun q h => by cases h) d_RQ_goesBefore_50
  · have h8_1 := h8_1
    have i8_1 := ti_ne h8_1
    refine lv_aload_n hx hb d_RQ_goesBefore_11 rfl (lv_at hl 0 rfl) ?_
    obtain ⟨kq, hkq⟩ := pq_at (X := CX cd kI kQ sc ia qa) (kI := kI) (bk := bk) (rf := rf) (ba := ba) haa hna
    refine va_get (D := (dC, dI)) (ci := 4) (v := .int (rf a 16)) (C := R_RQ) (T := F_RQ) (N := 17) hx hb ht in_RQ hown hK hP kq hkq rfl 16 (by decide) (ht _ tb_411) (fun _ h9 => h9) rfl d_RQ_goesBefore_12 ?_
    exact tz_ret (v := rf a 16) hx hb hr (fun t ht9 hW => ⟨(rf a 16) &&& 1, rfl, trivial, ht9⟩) (fun q h => by cases h) d_RQ_goesBefore_15
set_option maxHeartbeats 8000000 in
set_option maxRecDepth 100000 in
theorem k_DK_segmentsOf (l : Launch) (dC : Nat → ClassId) (dI : Nat → Nat → Nat) (cd : Nat → Nat) (kI kQ : ClassId) (L : List Nat) (isA : Nat → Bool) (bk : Nat → Nat) (sc : Nat → Int32) (ia : Nat → Nat → Int32) (qa : Nat → Nat → Option Nat) (rf ba : Nat → Nat → Int32) (N : Nat) (hC : CI N L isA bk sc qa rf) (x : Int32) : Met l y_DK_segmentsOf w_DK_segmentsOf ({ frames := 0, cells := 0, slots := 0, locals := 0 }) (rdP (dC, dI) (CW cd kI kQ L isA bk sc ia qa rf ba) (CT kI kQ) [.ref (cd 5), .int x]) (rQ vI (fun r => True)) 0 0 (fun _ => False) := by
  refine Met.ofW (cc := c_DK_segmentsOf) (maxL := 4) (ret := (some .int)) (by decide) rfl ?_
  intro p e s m args below meth c s₁ B hml hv
  obtain ⟨rfl, hP, hK⟩ := hv
  have hx := B.exec
  have hb := B.bytes
  have hr := B.returns
  have ht : ∀ w ∈ tb_, w.before _ s = true := fun w h => atoms_spec (ws := w_DK_segmentsOf) B.pre w (List.mem_cons_of_mem _ h)
  have hown : s.vm.findClass R_DK = some m.cls := findClass_of_methodNamed B.named
  have hlocks := B.notSynchronized
  have hP : va_P (dC, dI) cls_ (CW cd kI kQ L isA bk sc ia qa rf ba) s.heap := hP
  have hl := lv_entry ([.ref (cd 5), .int x]) (n := 4) (Nat.le_of_ble_eq_true rfl)
  rw [lg_entry_eq]
  generalize (lg_sl ([.ref (cd 5), .int x]) ++ List.replicate (4 - (lg_sl ([.ref (cd 5), .int x])).length) Slot.unset).toArray = ls at hl ⊢
  have hl : lv_has ls 4 [(0, .ref (cd 5)), (1, .int x)] := hl
  have hN := hC.1.1
  refine lv_iconst (v := 0) hx hb d_DK_segmentsOf_0 (by decide) ?_
  refine lv_istore_n hx hb d_DK_segmentsOf_1 rfl hl (by decide) rfl (fun ls hl => ?_)
  have hl : lv_has ls 4 [(2, .int 0), (0, .ref (cd 5)), (1, .int x)] := hl
  refine lv_iconst (v := 0) hx hb d_DK_segmentsOf_2 (by decide) ?_
  refine lv_istore_n hx hb d_DK_segmentsOf_3 rfl hl (by decide) rfl (fun ls hl => ?_)
  have hl : lv_has ls 4 [(3, .int 0), (2, .int 0), (0, .ref (cd 5)), (1, .int x)] := hl
  have J_4 : ∀ (n_4 : Nat) (k : Nat) (q : Int32)  (ls : Array Slot), 24 - k < n_4 → k ≤ 24 → lv_has ls 4 [(3, .int (nI k)), (2, .int q), (1, .int x), (0, .ref (cd 5))] → W p l e (headSpec w_DK_segmentsOf ({ frames := 0, cells := 0, slots := 0, locals := 0 })).room s m (([.ref (cd 5), .int x] : List Value).toArray) below meth c s.heap [] 0 0 (MQ below (rQ vI (fun r => True)) (([.ref (cd 5), .int x] : List Value).toArray) s 0 0 (fun _ => False)) (F0 m 4 ls []) := by
    intro n_4
    induction n_4 with
    | zero => intro k q ls hmu hc4_0 hl; exact absurd hmu (by omega)
    | succ n_4 ih_4 =>
      intro k q ls hmu hc4_0 hl
      refine lv_iload_n hx hb d_DK_segmentsOf_4 rfl (lv_at hl 0 rfl) ?_
      refine lv_bipush (v := 24) hx hb d_DK_segmentsOf_5 (by decide) ?_
      refine lv_icmp_ge (tgt := 29) hx hb d_DK_segmentsOf_7 (by decide) (fun h7_1 => ?_) (fun h7_1 => ?_)
      · have h7_1 := h7_1
        have i7_1 := ti_le h7_1
        (try rw [nI_toInt (show k < 2 ^ 31 by omega)] at i7_1)
        (try rw [l_24] at i7_1)
        refine lv_iload_n hx hb d_DK_segmentsOf_29 rfl (lv_at hl 1 rfl) ?_
        exact W.iret (v := q) hx hb hr (fun t ht9 hW => ⟨q, rfl, trivial, ht9⟩) (fun q h => by cases h) d_DK_segmentsOf_30
      · have h7_1 := h7_1
        have i7_1 := ti_nle h7_1
        (try rw [nI_toInt (show k < 2 ^ 31 by omega)] at i7_1)
        (try rw [l_24] at i7_1)
        refine lv_aload_n hx hb d_DK_segmentsOf_10 rfl (lv_at hl 3 rfl) ?_
        refine va_get (D := (dC, dI)) (ci := 2) (v := .ref (cd 6)) (C := R_DK) (T := F_DK) (N := 4) hx hb ht in_DK hown hK hP 5 rfl rfl 0 (by decide) (ht _ tb_46) (fun _ h9 => h9) rfl d_DK_segmentsOf_11 ?_
        refine lv_iload_n hx hb d_DK_segmentsOf_14 rfl (lv_at hl 0 rfl) ?_
        refine va_iald hx hb hK hP 6 0 rfl rfl (vp_in_nI (show k < 24 by omega) (by decide)) d_DK_segmentsOf_15 ?_
        refine W.eq (g2 := F0 m 16 ls [.int (ia 1 k)]) (by rw [nI_clamp (show k < 2 ^ 31 by omega)]) ?_
        refine lv_iload_n hx hb d_DK_segmentsOf_16 rfl (lv_at hl 2 rfl) ?_
        refine lv_icmp_ne (tgt := 23) hx hb d_DK_segmentsOf_17 (by decide) (fun h17_2 => ?_) (fun h17_2 => ?_)
        · have h17_2 := h17_2
          have i17_2 := ti_ne h17_2
          refine lv_iinc (k := 0) (v := nI (k + 1)) hx hb d_DK_segmentsOf_23 hl rfl ((nI_succ k).symm) (by decide) rfl (fun ls hl => ?_)
          have hl : lv_has ls 4 [(3, .int (nI (k + 1))), (2, .int q), (1, .int x), (0, .ref (cd 5))] := hl
          refine lv_goto (tgt := 4) hx hb d_DK_segmentsOf_26 (by decide) ?_
          exact ih_4 (k + 1) q ls (by omega) (by omega) hl
        · have h17_2 := h17_2
          have i17_2 := ti_eq h17_2
          refine lv_iinc (k := 1) (v := q + 1) hx hb d_DK_segmentsOf_20 hl rfl (rfl) (by decide) rfl (fun ls hl => ?_)
          have hl : lv_has ls 4 [(2, .int (q + 1)), (3, .int (nI k)), (1, .int x), (0, .ref (cd 5))] := hl
          refine lv_iinc (k := 1) (v := nI (k + 1)) hx hb d_DK_segmentsOf_23 hl rfl ((nI_succ k).symm) (by decide) rfl (fun ls hl => ?_)
          have hl : lv_has ls 4 [(3, .int (nI (k + 1))), (2, .int (q + 1)), (1, .int x), (0, .ref (cd 5))] := hl
          refine lv_goto (tgt := 4) hx hb d_DK_segmentsOf_26 (by decide) ?_
          exact ih_4 (k + 1) (q + 1) ls (by omega) (by omega) hl
  have hl := lv_sub hl [0, 1, 3, 2] (l' := [(3, .int 0), (2, .int 0), (1, .int x), (0, .ref (cd 5))]) rfl
  have hl : lv_has ls 4 [(3, .int (nI 0)), (2, .int 0), (1, .int x), (0, .ref (cd 5))] := hl
  exact J_4 ((24 - 0) + 1) 0 0 ls (by omega) (by omega) hl
set_option maxHeartbeats 8000000 in
set_option maxRecDepth 100000 in
theorem k_DK_freeSegments (l : Launch) (dC : Nat → ClassId) (dI : Nat → Nat → Nat) (cd : Nat → Nat) (kI kQ : ClassId) (L : List Nat) (isA : Nat → Bool) (bk : Nat → Nat) (sc : Nat → Int32) (ia : Nat → Nat → Int32) (qa : Nat → Nat → Option Nat) (rf ba : Nat → Nat → Int32) (N : Nat) (hC : CI N L isA bk sc qa rf)  : Met l y_DK_freeSegments w_DK_freeSegments ({ frames := 1, cells := 0, slots := 0, locals := 23 }) (rdP (dC, dI) (CW cd kI kQ L isA bk sc ia qa rf ba) (CT kI kQ) [.ref (cd 5)]) (rQ vI (fun r => True)) 0 0 (fun _ => False) := by
  refine Met.ofW (cc := c_DK_freeSegments) (maxL := 1) (ret := (some .int)) (by decide) rfl ?_
  intro p e s m args below meth c s₁ B hml hv
  obtain ⟨rfl, hP, hK⟩ := hv
  have hx := B.exec
  have hb := B.bytes
  have hr := B.returns
  have ht : ∀ w ∈ tb_, w.before _ s = true := fun w h => atoms_spec (ws := w_DK_freeSegments) B.pre w (List.mem_cons_of_mem _ h)
  have hown : s.vm.findClass R_DK = some m.cls := findClass_of_methodNamed B.named
  have hlocks := B.notSynchronized
  have hP : va_P (dC, dI) cls_ (CW cd kI kQ L isA bk sc ia qa rf ba) s.heap := hP
  have hl := lv_entry ([.ref (cd 5)]) (n := 1) (Nat.le_of_ble_eq_true rfl)
  rw [lg_entry_eq]
  generalize (lg_sl ([.ref (cd 5)]) ++ List.replicate (1 - (lg_sl ([.ref (cd 5)])).length) Slot.unset).toArray = ls at hl ⊢
  have hl : lv_has ls 1 [(0, .ref (cd 5))] := hl
  have hN := hC.1.1
  refine lv_aload_n hx hb d_DK_freeSegments_0 rfl (lv_at hl 0 rfl) ?_
  refine lv_iconst (v := -1) hx hb d_DK_freeSegments_1 (by decide) ?_
  refine r_call (va_runV (C := R_DK) (As := [.int (-1)]) (rest := []) ⟨hx, hb, hml, hown, ht⟩ (k_DK_segmentsOf l dC dI cd kI kQ L isA bk sc ia qa rf ba N hC (-1)) (cwV 1 ht (gV tb_192 tb_193 tb_194 tb_3 tb_195) rfl rfl rfl (by decide +kernel) ⟨Nat.le_of_ble_eq_true rfl, Nat.le_of_ble_eq_true rfl⟩) ⟨rdP_blind, va_recv (q := (R_DK, F_DK, 4)) hK hP rfl (show (CW cd kI kQ L isA bk sc ia qa rf ba : va_W)[5]? = some _ from rfl), rd_pre hP hK⟩ rfl rfl hl.1 rfl (lv_room (Nat.le_of_ble_eq_true rfl)) d_DK_freeSegments_2 ⟨Nat.le_of_ble_eq_true rfl, Nat.le_of_ble_eq_true rfl⟩) (fun r1 hu => ?_)
  clear hu
  refine W.eq (g2 := F0 m 5 ls [.int r1]) rfl ?_
  exact W.iret (v := r1) hx hb hr (fun t ht9 hW => ⟨r1, rfl, trivial, ht9⟩) (fun q h => by cases h) d_DK_freeSegments_5
set_option maxHeartbeats 8000000 in
set_option maxRecDepth 100000 in
theorem k_DK_slotOf (l : Launch) (dC : Nat → ClassId) (dI : Nat → Nat → Nat) (cd : Nat → Nat) (kI kQ : ClassId) (L : List Nat) (isA : Nat → Bool) (bk : Nat → Nat) (sc : Nat → Int32) (ia : Nat → Nat → Int32) (qa : Nat → Nat → Option Nat) (rf ba : Nat → Nat → Int32) (N : Nat) (hC : CI N L isA bk sc qa rf) (x y : Int32) : Met l y_DK_slotOf w_DK_slotOf ({ frames := 0, cells := 0, slots := 0, locals := 0 }) (rdP (dC, dI) (CW cd kI kQ L isA bk sc ia qa rf ba) (CT kI kQ) [.ref (cd 5), .int x, .int y]) (rQ vI (fun r => (r = -1 ∨ ∃ kzz, kzz < 24 ∧ r = nI kzz))) 0 0 (fun _ => False) := by
  refine Met.ofW (cc := c_DK_slotOf) (maxL := 4) (ret := (some .int)) (by decide) rfl ?_
  intro p e s m args below meth c s₁ B hml hv
  obtain ⟨rfl, hP, hK⟩ := hv
  have hx := B.exec
  have hb := B.bytes
  have hr := B.returns
  have ht : ∀ w ∈ tb_, w.before _ s = true := fun w h => atoms_spec (ws := w_DK_slotOf) B.pre w (List.mem_cons_of_mem _ h)
  have hown : s.vm.findClass R_DK = some m.cls := findClass_of_methodNamed B.named
  have hlocks := B.notSynchronized
  have hP : va_P (dC, dI) cls_ (CW cd kI kQ L isA bk sc ia qa rf ba) s.heap := hP
  have hl := lv_entry ([.ref (cd 5), .int x, .int y]) (n := 4) (Nat.le_of_ble_eq_true rfl)
  rw [lg_entry_eq]
  generalize (lg_sl ([.ref (cd 5), .int x, .int y]) ++ List.replicate (4 - (lg_sl ([.ref (cd 5), .int x, .int y])).length) Slot.unset).toArray = ls at hl ⊢
  have hl : lv_has ls 4 [(0, .ref (cd 5)), (1, .int x), (2, .int y)] := hl
  have hN := hC.1.1
  refine lv_iconst (v := 0) hx hb d_DK_slotOf_0 (by decide) ?_
  refine lv_istore_n hx hb d_DK_slotOf_1 rfl hl (by decide) rfl (fun ls hl => ?_)
  have hl : lv_has ls 4 [(3, .int 0), (0, .ref (cd 5)), (1, .int x), (2, .int y)] := hl
  have J_2 : ∀ (n_2 : Nat) (k : Nat)  (ls : Array Slot), 24 - k < n_2 → k ≤ 24 → lv_has ls 4 [(3, .int (nI k)), (2, .int y), (1, .int x), (0, .ref (cd 5))] → W p l e (headSpec w_DK_slotOf ({ frames := 0, cells := 0, slots := 0, locals := 0 })).room s m (([.ref (cd 5), .int x, .int y] : List Value).toArray) below meth c s.heap [] 0 0 (MQ below (rQ vI (fun r => (r = -1 ∨ ∃ kzz, kzz < 24 ∧ r = nI kzz))) (([.ref (cd 5), .int x, .int y] : List Value).toArray) s 0 0 (fun _ => False)) (F0 m 2 ls []) := by
    intro n_2
    induction n_2 with
    | zero => intro k ls hmu hc2_0 hl; exact absurd hmu (by omega)
    | succ n_2 ih_2 =>
      intro k ls hmu hc2_0 hl
      refine lv_iload_n hx hb d_DK_slotOf_2 rfl (lv_at hl 0 rfl) ?_
      refine lv_bipush (v := 24) hx hb d_DK_slotOf_3 (by decide) ?_
      refine lv_icmp_ge (tgt := 36) hx hb d_DK_slotOf_5 (by decide) (fun h5_1 => ?_) (fun h5_1 => ?_)
      · have h5_1 := h5_1
        have i5_1 := ti_le h5_1
        (try rw [nI_toInt (show k < 2 ^ 31 by omega)] at i5_1)
        (try rw [l_24] at i5_1)
        refine lv_iconst (v := -1) hx hb d_DK_slotOf_36 (by decide) ?_
        have hz0 : ((-1 : Int32) = -1 ∨ ∃ kzz, kzz < 24 ∧ (-1 : Int32) = nI kzz) := Or.inl rfl
        exact W.iret (v := -1) hx hb hr (fun t ht9 hW => ⟨-1, rfl, hz0, ht9⟩) (fun q h => by cases h) d_DK_slotOf_37
      · have h5_1 := h5_1
        have i5_1 := ti_nle h5_1
        (try rw [nI_toInt (show k < 2 ^ 31 by omega)] at i5_1)
        (try rw [l_24] at i5_1)
        refine lv_aload_n hx hb d_DK_slotOf_8 rfl (lv_at hl 3 rfl) ?_
        refine va_get (D := (dC, dI)) (ci := 2) (v := .ref (cd 6)) (C := R_DK) (T := F_DK) (N := 4) hx hb ht in_DK hown hK hP 5 rfl rfl 0 (by decide) (ht _ tb_46) (fun _ h9 => h9) rfl d_DK_slotOf_9 ?_
        refine lv_iload_n hx hb d_DK_slotOf_12 rfl (lv_at hl 0 rfl) ?_
        refine va_iald hx hb hK hP 6 0 rfl rfl (vp_in_nI (show k < 24 by omega) (by decide)) d_DK_slotOf_13 ?_
        refine W.eq (g2 := F0 m 14 ls [.int (ia 1 k)]) (by rw [nI_clamp (show k < 2 ^ 31 by omega)]) ?_
        refine lv_iload_n hx hb d_DK_slotOf_14 rfl (lv_at hl 2 rfl) ?_
        refine lv_icmp_ne (tgt := 30) hx hb d_DK_slotOf_15 (by decide) (fun h15_2 => ?_) (fun h15_2 => ?_)
        · have h15_2 := h15_2
          have i15_2 := ti_ne h15_2
          refine lv_iinc (k := 0) (v := nI (k + 1)) hx hb d_DK_slotOf_30 hl rfl ((nI_succ k).symm) (by decide) rfl (fun ls hl => ?_)
          have hl : lv_has ls 4 [(3, .int (nI (k + 1))), (2, .int y), (1, .int x), (0, .ref (cd 5))] := hl
          refine lv_goto (tgt := 2) hx hb d_DK_slotOf_33 (by decide) ?_
          exact ih_2 (k + 1) ls (by omega) (by omega) hl
        · have h15_2 := h15_2
          have i15_2 := ti_eq h15_2
          refine lv_aload_n hx hb d_DK_slotOf_18 rfl (lv_at hl 3 rfl) ?_
          refine va_get (D := (dC, dI)) (ci := 2) (v := .ref (cd 7)) (C := R_DK) (T := F_DK) (N := 4) hx hb ht in_DK hown hK hP 5 rfl rfl 1 (by decide) (ht _ tb_47) (fun _ h9 => h9) rfl d_DK_slotOf_19 ?_
          refine lv_iload_n hx hb d_DK_slotOf_22 rfl (lv_at hl 0 rfl) ?_
          refine va_iald hx hb hK hP 7 0 rfl rfl (vp_in_nI (show k < 24 by omega) (by decide)) d_DK_slotOf_23 ?_
          refine W.eq (g2 := F0 m 24 ls [.int (ia 2 k)]) (by rw [nI_clamp (show k < 2 ^ 31 by omega)]) ?_
          refine lv_iload_n hx hb d_DK_slotOf_24 rfl (lv_at hl 1 rfl) ?_
          refine lv_icmp_ne (tgt := 30) hx hb d_DK_slotOf_25 (by decide) (fun h25_3 => ?_) (fun h25_3 => ?_)
          · have h25_3 := h25_3
            have i25_3 := ti_ne h25_3
            refine lv_iinc (k := 0) (v := nI (k + 1)) hx hb d_DK_slotOf_30 hl rfl ((nI_succ k).symm) (by decide) rfl (fun ls hl => ?_)
            have hl : lv_has ls 4 [(3, .int (nI (k + 1))), (2, .int y), (1, .int x), (0, .ref (cd 5))] := hl
            refine lv_goto (tgt := 2) hx hb d_DK_slotOf_33 (by decide) ?_
            exact ih_2 (k + 1) ls (by omega) (by omega) hl
          · have h25_3 := h25_3
            have i25_3 := ti_eq h25_3
            refine lv_iload_n hx hb d_DK_slotOf_28 rfl (lv_at hl 0 rfl) ?_
            have hz0 : ((nI k : Int32) = -1 ∨ ∃ kzz, kzz < 24 ∧ (nI k : Int32) = nI kzz) := Or.inr ⟨k, by omega, rfl⟩
            exact W.iret (v := nI k) hx hb hr (fun t ht9 hW => ⟨nI k, rfl, hz0, ht9⟩) (fun q h => by cases h) d_DK_slotOf_29
  have hl := lv_sub hl [0, 3, 2, 1] (l' := [(3, .int 0), (2, .int y), (1, .int x), (0, .ref (cd 5))]) rfl
  have hl : lv_has ls 4 [(3, .int (nI 0)), (2, .int y), (1, .int x), (0, .ref (cd 5))] := hl
  exact J_2 ((24 - 0) + 1) 0 ls (by omega) (by omega) hl
set_option maxHeartbeats 8000000 in
set_option maxRecDepth 100000 in
theorem k_DK_take (l : Launch) (dC : Nat → ClassId) (dI : Nat → Nat → Nat) (cd : Nat → Nat) (kI kQ : ClassId) (L : List Nat) (isA : Nat → Bool) (bk : Nat → Nat) (sc : Nat → Int32) (ia : Nat → Nat → Int32) (qa : Nat → Nat → Option Nat) (rf ba : Nat → Nat → Int32) (sz Bd : Nat) (N : Nat) (hC : CI N L isA bk sc qa rf) (x y : Int32) : Met l y_DK_take w_DK_take ({ frames := 0, cells := 0, slots := 0, locals := 0 }) (frP (dC, dI) (CW cd kI kQ L isA bk sc ia qa rf ba) (CT kI kQ) sz Bd [.ref (cd 5), .int x, .int y]) (tQ (dC, dI) (cW cd kI kQ L isA bk) (va_A (CW cd kI kQ L isA bk sc ia qa rf ba) sz) vI (fun r u => sc = u.1 ∧ qa = u.2.2.1 ∧ rf = u.2.2.2.1 ∧ ba = u.2.2.2.2 ∧ CI N L isA bk u.1 u.2.2.1 u.2.2.2.1 ∧ (r = -1 ∨ ∃ kzz, kzz < 24 ∧ r = nI kzz))) 0 0 (va_A (CW cd kI kQ L isA bk sc ia qa rf ba) sz) := by
  refine Met.ofW (cc := c_DK_take) (maxL := 4) (ret := (some .int)) (by decide) rfl ?_
  intro p e s m args below meth c s₁ B hml hv
  obtain ⟨rfl, ⟨hsz, hBs⟩, hP, hK, hD0, hV⟩ := hv
  have hx := B.exec
  have hb := B.bytes
  have hr := B.returns
  have ht : ∀ w ∈ tb_, w.before _ s = true := fun w h => atoms_spec (ws := w_DK_take) B.pre w (List.mem_cons_of_mem _ h)
  have hown : s.vm.findClass R_DK = some m.cls := findClass_of_methodNamed B.named
  have hlocks := B.notSynchronized
  subst hsz
  have hD := hD0.self (sz := s.heap.size)
  have hAB : ∀ q, va_A (CW cd kI kQ L isA bk sc ia qa rf ba) s.heap.size q → Bd ≤ q := fr_AB hD0 hBs
  generalize hAe : va_A (CW cd kI kQ L isA bk sc ia qa rf ba) s.heap.size = A at hD hAB ⊢
  have hA : ∀ q : Nat, s.heap.size ≤ q → A q := fun q h => by rw [← hAe]; exact Or.inr h
  have hS : va_S A s.heap s.heap [] := va_S.rf
  have hs : same [] sc sc := same.rf
  have hP : va_P (dC, dI) cls_ (CW cd kI kQ L isA bk sc ia qa rf ba) s.heap := hP
  have hl := lv_entry ([.ref (cd 5), .int x, .int y]) (n := 4) (Nat.le_of_ble_eq_true rfl)
  rw [lg_entry_eq]
  generalize (lg_sl ([.ref (cd 5), .int x, .int y]) ++ List.replicate (4 - (lg_sl ([.ref (cd 5), .int x, .int y])).length) Slot.unset).toArray = ls at hl ⊢
  have hl : lv_has ls 4 [(0, .ref (cd 5)), (1, .int x), (2, .int y)] := hl
  have hN := hC.1.1
  refine lv_iconst (v := 0) hx hb d_DK_take_0 (by decide) ?_
  refine lv_istore_n hx hb d_DK_take_1 rfl hl (by decide) rfl (fun ls hl => ?_)
  have hl : lv_has ls 4 [(3, .int 0), (0, .ref (cd 5)), (1, .int x), (2, .int y)] := hl
  have J_2 : ∀ (n_2 : Nat) (k : Nat)  (H : Heap) (locs : List Loc) (ls : Array Slot), 24 - k < n_2 → k ≤ 24 → lv_has ls 4 [(3, .int (nI k)), (2, .int y), (1, .int x), (0, .ref (cd 5))] → va_P (dC, dI) cls_ (CW cd kI kQ L isA bk sc ia qa rf ba) H → va_D A (CW cd kI kQ L isA bk sc ia qa rf ba) → va_S A s.heap H locs → W p l e (headSpec w_DK_take ({ frames := 0, cells := 0, slots := 0, locals := 0 })).room s m (([.ref (cd 5), .int x, .int y] : List Value).toArray) below meth c H locs 0 0 (MQ below (tQ (dC, dI) (cW cd kI kQ L isA bk) A vI (fun r u => sc = u.1 ∧ qa = u.2.2.1 ∧ rf = u.2.2.2.1 ∧ ba = u.2.2.2.2 ∧ CI N L isA bk u.1 u.2.2.1 u.2.2.2.1 ∧ (r = -1 ∨ ∃ kzz, kzz < 24 ∧ r = nI kzz))) (([.ref (cd 5), .int x, .int y] : List Value).toArray) s 0 0 A) (F0 m 2 ls []) := by
    intro n_2
    induction n_2 with
    | zero => intro k H locs ls hmu hc2_0 hl hP hD hS; exact absurd hmu (by omega)
    | succ n_2 ih_2 =>
      intro k H locs ls hmu hc2_0 hl hP hD hS
      refine lv_iload_n hx hb d_DK_take_2 rfl (lv_at hl 0 rfl) ?_
      refine lv_bipush (v := 24) hx hb d_DK_take_3 (by decide) ?_
      refine lv_icmp_ge (tgt := 47) hx hb d_DK_take_5 (by decide) (fun h5_1 => ?_) (fun h5_1 => ?_)
      · have h5_1 := h5_1
        have i5_1 := ti_le h5_1
        (try rw [nI_toInt (show k < 2 ^ 31 by omega)] at i5_1)
        (try rw [l_24] at i5_1)
        refine lv_iconst (v := -1) hx hb d_DK_take_47 (by decide) ?_
        have hz0 : ((-1 : Int32) = -1 ∨ ∃ kzz, kzz < 24 ∧ (-1 : Int32) = nI kzz) := Or.inl rfl
        exact W.iret (v := -1) hx hb hr (fun t ht9 hW => ⟨⟨-1, (sc, ia, qa, rf, ba), rfl, ⟨rfl, rfl, rfl, rfl, hC, hz0⟩, by rw [ht9]; exact hP, hD⟩, hS.F ht9⟩) hS.2.2 d_DK_take_48
      · have h5_1 := h5_1
        have i5_1 := ti_nle h5_1
        (try rw [nI_toInt (show k < 2 ^ 31 by omega)] at i5_1)
        (try rw [l_24] at i5_1)
        refine lv_aload_n hx hb d_DK_take_8 rfl (lv_at hl 3 rfl) ?_
        refine va_get (D := (dC, dI)) (ci := 2) (v := .ref (cd 6)) (C := R_DK) (T := F_DK) (N := 4) hx hb ht in_DK hown hK hP 5 rfl rfl 0 (by decide) (ht _ tb_46) (fun _ h9 => h9) rfl d_DK_take_9 ?_
        refine lv_iload_n hx hb d_DK_take_12 rfl (lv_at hl 0 rfl) ?_
        refine va_iald hx hb hK hP 6 0 rfl rfl (vp_in_nI (show k < 24 by omega) (by decide)) d_DK_take_13 ?_
        refine W.eq (g2 := F0 m 14 ls [.int (ia 1 k)]) (by rw [nI_clamp (show k < 2 ^ 31 by omega)]) ?_
        refine lv_iconst (v := -1) hx hb d_DK_take_14 (by decide) ?_
        refine lv_icmp_ne (tgt := 41) hx hb d_DK_take_15 (by decide) (fun h15_2 => ?_) (fun h15_2 => ?_)
        · have h15_2 := h15_2
          have i15_2 := ti_ne h15_2
          (try rw [l_m1] at i15_2)
          refine lv_iinc (k := 0) (v := nI (k + 1)) hx hb d_DK_take_41 hl rfl ((nI_succ k).symm) (by decide) rfl (fun ls hl => ?_)
          have hl : lv_has ls 4 [(3, .int (nI (k + 1))), (2, .int y), (1, .int x), (0, .ref (cd 5))] := hl
          refine lv_goto (tgt := 2) hx hb d_DK_take_44 (by decide) ?_
          exact ih_2 (k + 1) H _ ls (by omega) (by omega) hl hP hD hS
        · have h15_2 := h15_2
          have i15_2 := ti_eq h15_2
          (try rw [l_m1] at i15_2)
          refine lv_aload_n hx hb d_DK_take_18 rfl (lv_at hl 3 rfl) ?_
          refine va_get (D := (dC, dI)) (ci := 2) (v := .ref (cd 6)) (C := R_DK) (T := F_DK) (N := 4) hx hb ht in_DK hown hK hP 5 rfl rfl 0 (by decide) (ht _ tb_46) (fun _ h9 => h9) rfl d_DK_take_19 ?_
          refine lv_iload_n hx hb d_DK_take_22 rfl (lv_at hl 0 rfl) ?_
          refine lv_iload_n hx hb d_DK_take_23 rfl (lv_at hl 2 rfl) ?_
          have hD0 := hD
          refine va_iast hx hb hK hP hD hS 6 0 rfl rfl (vp_in_nI (show k < 24 by omega) (by decide)) d_DK_take_24 (fun H locs hP hD hS => ?_)
          rw [nI_clamp (show k < 2 ^ 31 by omega)] at hP hD
          have hP : va_P (dC, dI) cls_ (CW cd kI kQ L isA bk sc (va_up ia 1 (upd (ia 1) k x)) qa rf ba) H := hP
          have hD : va_D A (CW cd kI kQ L isA bk sc (va_up ia 1 (upd (ia 1) k x)) qa rf ba) := hD
          obtain ⟨ia1, eia1⟩ : ∃ q9_, q9_ = va_up ia 1 (upd (ia 1) k x) := ⟨_, rfl⟩
          rw [← eia1] at hP hD
          refine lv_aload_n hx hb d_DK_take_25 rfl (lv_at hl 3 rfl) ?_
          refine va_get (D := (dC, dI)) (ci := 2) (v := .ref (cd 7)) (C := R_DK) (T := F_DK) (N := 4) hx hb ht in_DK hown hK hP 5 rfl rfl 1 (by decide) (ht _ tb_47) (fun _ h9 => h9) rfl d_DK_take_26 ?_
          refine lv_iload_n hx hb d_DK_take_29 rfl (lv_at hl 0 rfl) ?_
          refine lv_iload_n hx hb d_DK_take_30 rfl (lv_at hl 1 rfl) ?_
          have hD0 := hD
          refine va_iast hx hb hK hP hD hS 7 0 rfl rfl (vp_in_nI (show k < 24 by omega) (by decide)) d_DK_take_31 (fun H locs hP hD hS => ?_)
          rw [nI_clamp (show k < 2 ^ 31 by omega)] at hP hD
          have hP : va_P (dC, dI) cls_ (CW cd kI kQ L isA bk sc (va_up ia1 2 (upd (ia1 2) k y)) qa rf ba) H := hP
          have hD : va_D A (CW cd kI kQ L isA bk sc (va_up ia1 2 (upd (ia1 2) k y)) qa rf ba) := hD
          obtain ⟨ia2, eia2⟩ : ∃ q9_, q9_ = va_up ia1 2 (upd (ia1 2) k y) := ⟨_, rfl⟩
          rw [← eia2] at hP hD
          refine lv_aload_n hx hb d_DK_take_32 rfl (lv_at hl 3 rfl) ?_
          refine va_get (D := (dC, dI)) (ci := 2) (v := .ref (cd 8)) (C := R_DK) (T := F_DK) (N := 4) hx hb ht in_DK hown hK hP 5 rfl rfl 2 (by decide) (ht _ tb_48) (fun _ h9 => h9) rfl d_DK_take_33 ?_
          refine lv_iload_n hx hb d_DK_take_36 rfl (lv_at hl 0 rfl) ?_
          refine lv_iconst (v := 0) hx hb d_DK_take_37 (by decide) ?_
          have hD0 := hD
          refine va_iast hx hb hK hP hD hS 8 0 rfl rfl (vp_in_nI (show k < 24 by omega) (by decide)) d_DK_take_38 (fun H locs hP hD hS => ?_)
          rw [nI_clamp (show k < 2 ^ 31 by omega)] at hP hD
          have hP : va_P (dC, dI) cls_ (CW cd kI kQ L isA bk sc (va_up ia2 3 (upd (ia2 3) k 0)) qa rf ba) H := hP
          have hD : va_D A (CW cd kI kQ L isA bk sc (va_up ia2 3 (upd (ia2 3) k 0)) qa rf ba) := hD
          obtain ⟨ia3, eia3⟩ : ∃ q9_, q9_ = va_up ia2 3 (upd (ia2 3) k 0) := ⟨_, rfl⟩
          rw [← eia3] at hP hD
          refine lv_iload_n hx hb d_DK_take_39 rfl (lv_at hl 0 rfl) ?_
          have hz0 : ((nI k : Int32) = -1 ∨ ∃ kzz, kzz < 24 ∧ (nI k : Int32) = nI kzz) := Or.inr ⟨k, by omega, rfl⟩
          exact W.iret (v := nI k) hx hb hr (fun t ht9 hW => ⟨⟨nI k, (sc, ia3, qa, rf, ba), rfl, ⟨rfl, rfl, rfl, rfl, hC, hz0⟩, by rw [ht9]; exact hP, hD⟩, hS.F ht9⟩) hS.2.2 d_DK_take_40
  have hl := lv_sub hl [0, 3, 2, 1] (l' := [(3, .int 0), (2, .int y), (1, .int x), (0, .ref (cd 5))]) rfl
  have hl : lv_has ls 4 [(3, .int (nI 0)), (2, .int y), (1, .int x), (0, .ref (cd 5))] := hl
  exact J_2 ((24 - 0) + 1) 0 s.heap _ ls (by omega) (by omega) hl hP hD hS
set_option maxHeartbeats 8000000 in
set_option maxRecDepth 100000 in
theorem k_DK_release (l : Launch) (dC : Nat → ClassId) (dI : Nat → Nat → Nat) (cd : Nat → Nat) (kI kQ : ClassId) (L : List Nat) (isA : Nat → Bool) (bk : Nat → Nat) (sc : Nat → Int32) (ia : Nat → Nat → Int32) (qa : Nat → Nat → Option Nat) (rf ba : Nat → Nat → Int32) (sz Bd : Nat) (N : Nat) (hC : CI N L isA bk sc qa rf) (x : Int32) : Met l y_DK_release w_DK_release ({ frames := 0, cells := 0, slots := 0, locals := 0 }) (frP (dC, dI) (CW cd kI kQ L isA bk sc ia qa rf ba) (CT kI kQ) sz Bd [.ref (cd 5), .int x]) (tQ (dC, dI) (cW cd kI kQ L isA bk) (va_A (CW cd kI kQ L isA bk sc ia qa rf ba) sz) vI (fun r u => sc = u.1 ∧ qa = u.2.2.1 ∧ rf = u.2.2.2.1 ∧ ba = u.2.2.2.2 ∧ CI N L isA bk u.1 u.2.2.1 u.2.2.2.1)) 0 0 (va_A (CW cd kI kQ L isA bk sc ia qa rf ba) sz) := by
  refine Met.ofW (cc := c_DK_release) (maxL := 4) (ret := (some .int)) (by decide) rfl ?_
  intro p e s m args below meth c s₁ B hml hv
  obtain ⟨rfl, ⟨hsz, hBs⟩, hP, hK, hD0, hV⟩ := hv
  have hx := B.exec
  have hb := B.bytes
  have hr := B.returns
  have ht : ∀ w ∈ tb_, w.before _ s = true := fun w h => atoms_spec (ws := w_DK_release) B.pre w (List.mem_cons_of_mem _ h)
  have hown : s.vm.findClass R_DK = some m.cls := findClass_of_methodNamed B.named
  have hlocks := B.notSynchronized
  subst hsz
  have hD := hD0.self (sz := s.heap.size)
  have hAB : ∀ q, va_A (CW cd kI kQ L isA bk sc ia qa rf ba) s.heap.size q → Bd ≤ q := fr_AB hD0 hBs
  generalize hAe : va_A (CW cd kI kQ L isA bk sc ia qa rf ba) s.heap.size = A at hD hAB ⊢
  have hA : ∀ q : Nat, s.heap.size ≤ q → A q := fun q h => by rw [← hAe]; exact Or.inr h
  have hS : va_S A s.heap s.heap [] := va_S.rf
  have hs : same [] sc sc := same.rf
  have hP : va_P (dC, dI) cls_ (CW cd kI kQ L isA bk sc ia qa rf ba) s.heap := hP
  have hl := lv_entry ([.ref (cd 5), .int x]) (n := 4) (Nat.le_of_ble_eq_true rfl)
  rw [lg_entry_eq]
  generalize (lg_sl ([.ref (cd 5), .int x]) ++ List.replicate (4 - (lg_sl ([.ref (cd 5), .int x])).length) Slot.unset).toArray = ls at hl ⊢
  have hl : lv_has ls 4 [(0, .ref (cd 5)), (1, .int x)] := hl
  have hN := hC.1.1
  refine lv_iconst (v := 0) hx hb d_DK_release_0 (by decide) ?_
  refine lv_istore_n hx hb d_DK_release_1 rfl hl (by decide) rfl (fun ls hl => ?_)
  have hl : lv_has ls 4 [(2, .int 0), (0, .ref (cd 5)), (1, .int x)] := hl
  refine lv_iconst (v := 0) hx hb d_DK_release_2 (by decide) ?_
  refine lv_istore_n hx hb d_DK_release_3 rfl hl (by decide) rfl (fun ls hl => ?_)
  have hl : lv_has ls 4 [(3, .int 0), (2, .int 0), (0, .ref (cd 5)), (1, .int x)] := hl
  have J_4 : ∀ (n_4 : Nat) (k : Nat) (q : Int32) (ia_4 : Nat → Nat → Int32) (H : Heap) (locs : List Loc) (ls : Array Slot), 24 - k < n_4 → k ≤ 24 → lv_has ls 4 [(3, .int (nI k)), (2, .int q), (1, .int x), (0, .ref (cd 5))] → va_P (dC, dI) cls_ (CW cd kI kQ L isA bk sc ia_4 qa rf ba) H → va_D A (CW cd kI kQ L isA bk sc ia_4 qa rf ba) → va_S A s.heap H locs → W p l e (headSpec w_DK_release ({ frames := 0, cells := 0, slots := 0, locals := 0 })).room s m (([.ref (cd 5), .int x] : List Value).toArray) below meth c H locs 0 0 (MQ below (tQ (dC, dI) (cW cd kI kQ L isA bk) A vI (fun r u => sc = u.1 ∧ qa = u.2.2.1 ∧ rf = u.2.2.2.1 ∧ ba = u.2.2.2.2 ∧ CI N L isA bk u.1 u.2.2.1 u.2.2.2.1)) (([.ref (cd 5), .int x] : List Value).toArray) s 0 0 A) (F0 m 4 ls []) := by
    intro n_4
    induction n_4 with
    | zero => intro k q ia_4 H locs ls hmu hc4_0 hl hP hD hS; exact absurd hmu (by omega)
    | succ n_4 ih_4 =>
      intro k q ia_4 H locs ls hmu hc4_0 hl hP hD hS
      refine lv_iload_n hx hb d_DK_release_4 rfl (lv_at hl 0 rfl) ?_
      refine lv_bipush (v := 24) hx hb d_DK_release_5 (by decide) ?_
      refine lv_icmp_ge (tgt := 36) hx hb d_DK_release_7 (by decide) (fun h7_1 => ?_) (fun h7_1 => ?_)
      · have h7_1 := h7_1
        have i7_1 := ti_le h7_1
        (try rw [nI_toInt (show k < 2 ^ 31 by omega)] at i7_1)
        (try rw [l_24] at i7_1)
        refine lv_iload_n hx hb d_DK_release_36 rfl (lv_at hl 1 rfl) ?_
        exact W.iret (v := q) hx hb hr (fun t ht9 hW => ⟨⟨q, (sc, ia_4, qa, rf, ba), rfl, ⟨rfl, rfl, rfl, rfl, hC⟩, by rw [ht9]; exact hP, hD⟩, hS.F ht9⟩) hS.2.2 d_DK_release_37
      · have h7_1 := h7_1
        have i7_1 := ti_nle h7_1
        (try rw [nI_toInt (show k < 2 ^ 31 by omega)] at i7_1)
        (try rw [l_24] at i7_1)
        refine lv_aload_n hx hb d_DK_release_10 rfl (lv_at hl 3 rfl) ?_
        refine va_get (D := (dC, dI)) (ci := 2) (v := .ref (cd 6)) (C := R_DK) (T := F_DK) (N := 4) hx hb ht in_DK hown hK hP 5 rfl rfl 0 (by decide) (ht _ tb_46) (fun _ h9 => h9) rfl d_DK_release_11 ?_
        refine lv_iload_n hx hb d_DK_release_14 rfl (lv_at hl 0 rfl) ?_
        refine va_iald hx hb hK hP 6 0 rfl rfl (vp_in_nI (show k < 24 by omega) (by decide)) d_DK_release_15 ?_
        refine W.eq (g2 := F0 m 16 ls [.int (ia_4 1 k)]) (by rw [nI_clamp (show k < 2 ^ 31 by omega)]) ?_
        refine lv_iload_n hx hb d_DK_release_16 rfl (lv_at hl 2 rfl) ?_
        refine lv_icmp_ne (tgt := 30) hx hb d_DK_release_17 (by decide) (fun h17_2 => ?_) (fun h17_2 => ?_)
        · have h17_2 := h17_2
          have i17_2 := ti_ne h17_2
          refine lv_iinc (k := 0) (v := nI (k + 1)) hx hb d_DK_release_30 hl rfl ((nI_succ k).symm) (by decide) rfl (fun ls hl => ?_)
          have hl : lv_has ls 4 [(3, .int (nI (k + 1))), (2, .int q), (1, .int x), (0, .ref (cd 5))] := hl
          refine lv_goto (tgt := 4) hx hb d_DK_release_33 (by decide) ?_
          exact ih_4 (k + 1) q ia_4 H _ ls (by omega) (by omega) hl hP hD hS
        · have h17_2 := h17_2
          have i17_2 := ti_eq h17_2
          refine lv_aload_n hx hb d_DK_release_20 rfl (lv_at hl 3 rfl) ?_
          refine va_get (D := (dC, dI)) (ci := 2) (v := .ref (cd 6)) (C := R_DK) (T := F_DK) (N := 4) hx hb ht in_DK hown hK hP 5 rfl rfl 0 (by decide) (ht _ tb_46) (fun _ h9 => h9) rfl d_DK_release_21 ?_
          refine lv_iload_n hx hb d_DK_release_24 rfl (lv_at hl 0 rfl) ?_
          refine lv_iconst (v := -1) hx hb d_DK_release_25 (by decide) ?_
          have hD0 := hD
          refine va_iast hx hb hK hP hD hS 6 0 rfl rfl (vp_in_nI (show k < 24 by omega) (by decide)) d_DK_release_26 (fun H locs hP hD hS => ?_)
          rw [nI_clamp (show k < 2 ^ 31 by omega)] at hP hD
          have hP : va_P (dC, dI) cls_ (CW cd kI kQ L isA bk sc (va_up ia_4 1 (upd (ia_4 1) k (-1))) qa rf ba) H := hP
          have hD : va_D A (CW cd kI kQ L isA bk sc (va_up ia_4 1 (upd (ia_4 1) k (-1))) qa rf ba) := hD
          obtain ⟨ia1, eia1⟩ : ∃ q9_, q9_ = va_up ia_4 1 (upd (ia_4 1) k (-1)) := ⟨_, rfl⟩
          rw [← eia1] at hP hD
          refine lv_iinc (k := 1) (v := q + 1) hx hb d_DK_release_27 hl rfl (rfl) (by decide) rfl (fun ls hl => ?_)
          have hl : lv_has ls 4 [(2, .int (q + 1)), (3, .int (nI k)), (1, .int x), (0, .ref (cd 5))] := hl
          refine lv_iinc (k := 1) (v := nI (k + 1)) hx hb d_DK_release_30 hl rfl ((nI_succ k).symm) (by decide) rfl (fun ls hl => ?_)
          have hl : lv_has ls 4 [(3, .int (nI (k + 1))), (2, .int (q + 1)), (1, .int x), (0, .ref (cd 5))] := hl
          refine lv_goto (tgt := 4) hx hb d_DK_release_33 (by decide) ?_
          exact ih_4 (k + 1) (q + 1) ia1 H _ ls (by omega) (by omega) hl hP hD hS
  have hl := lv_sub hl [0, 1, 3, 2] (l' := [(3, .int 0), (2, .int 0), (1, .int x), (0, .ref (cd 5))]) rfl
  have hl : lv_has ls 4 [(3, .int (nI 0)), (2, .int 0), (1, .int x), (0, .ref (cd 5))] := hl
  exact J_4 ((24 - 0) + 1) 0 0 ia s.heap _ ls (by omega) (by omega) hl hP hD hS
set_option maxHeartbeats 8000000 in
set_option maxRecDepth 100000 in
theorem k_DK_secondsOf (l : Launch) (dC : Nat → ClassId) (dI : Nat → Nat → Nat) (cd : Nat → Nat) (kI kQ : ClassId) (L : List Nat) (isA : Nat → Bool) (bk : Nat → Nat) (sc : Nat → Int32) (ia : Nat → Nat → Int32) (qa : Nat → Nat → Option Nat) (rf ba : Nat → Nat → Int32) (N : Nat) (hC : CI N L isA bk sc qa rf) (x : Int32) : Met l y_DK_secondsOf w_DK_secondsOf ({ frames := 1, cells := 0, slots := 0, locals := 20 }) (rdP (dC, dI) (CW cd kI kQ L isA bk sc ia qa rf ba) (CT kI kQ) [.ref (cd 5), .int x]) (rQ vI (fun r => True)) 0 0 (fun _ => False) := by
  refine Met.ofW (cc := c_DK_secondsOf) (maxL := 4) (ret := (some .int)) (by decide) rfl ?_
  intro p e s m args below meth c s₁ B hml hv
  obtain ⟨rfl, hP, hK⟩ := hv
  have hx := B.exec
  have hb := B.bytes
  have hr := B.returns
  have ht : ∀ w ∈ tb_, w.before _ s = true := fun w h => atoms_spec (ws := w_DK_secondsOf) B.pre w (List.mem_cons_of_mem _ h)
  have hown : s.vm.findClass R_DK = some m.cls := findClass_of_methodNamed B.named
  have hlocks := B.notSynchronized
  have hP : va_P (dC, dI) cls_ (CW cd kI kQ L isA bk sc ia qa rf ba) s.heap := hP
  have hl := lv_entry ([.ref (cd 5), .int x]) (n := 4) (Nat.le_of_ble_eq_true rfl)
  rw [lg_entry_eq]
  generalize (lg_sl ([.ref (cd 5), .int x]) ++ List.replicate (4 - (lg_sl ([.ref (cd 5), .int x])).length) Slot.unset).toArray = ls at hl ⊢
  have hl : lv_has ls 4 [(0, .ref (cd 5)), (1, .int x)] := hl
  have hN := hC.1.1
  refine lv_iconst (v := 0) hx hb d_DK_secondsOf_0 (by decide) ?_
  refine lv_istore_n hx hb d_DK_secondsOf_1 rfl hl (by decide) rfl (fun ls hl => ?_)
  have hl : lv_has ls 4 [(2, .int 0), (0, .ref (cd 5)), (1, .int x)] := hl
  refine lv_iconst (v := 0) hx hb d_DK_secondsOf_2 (by decide) ?_
  refine lv_istore_n hx hb d_DK_secondsOf_3 rfl hl (by decide) rfl (fun ls hl => ?_)
  have hl : lv_has ls 4 [(3, .int 0), (2, .int 0), (0, .ref (cd 5)), (1, .int x)] := hl
  have J_4 : ∀ (n_4 : Nat) (k : Nat) (q : Int32)  (ls : Array Slot), 24 - k < n_4 → k ≤ 24 → lv_has ls 4 [(3, .int (nI k)), (2, .int q), (1, .int x), (0, .ref (cd 5))] → W p l e (headSpec w_DK_secondsOf ({ frames := 1, cells := 0, slots := 0, locals := 20 })).room s m (([.ref (cd 5), .int x] : List Value).toArray) below meth c s.heap [] 0 0 (MQ below (rQ vI (fun r => True)) (([.ref (cd 5), .int x] : List Value).toArray) s 0 0 (fun _ => False)) (F0 m 4 ls []) := by
    intro n_4
    induction n_4 with
    | zero => intro k q ls hmu hc4_0 hl; exact absurd hmu (by omega)
    | succ n_4 ih_4 =>
      intro k q ls hmu hc4_0 hl
      refine lv_iload_n hx hb d_DK_secondsOf_4 rfl (lv_at hl 0 rfl) ?_
      refine lv_bipush (v := 24) hx hb d_DK_secondsOf_5 (by decide) ?_
      refine lv_icmp_ge (tgt := 38) hx hb d_DK_secondsOf_7 (by decide) (fun h7_1 => ?_) (fun h7_1 => ?_)
      · have h7_1 := h7_1
        have i7_1 := ti_le h7_1
        (try rw [nI_toInt (show k < 2 ^ 31 by omega)] at i7_1)
        (try rw [l_24] at i7_1)
        refine lv_iload_n hx hb d_DK_secondsOf_38 rfl (lv_at hl 1 rfl) ?_
        exact W.iret (v := q) hx hb hr (fun t ht9 hW => ⟨q, rfl, trivial, ht9⟩) (fun q h => by cases h) d_DK_secondsOf_39
      · have h7_1 := h7_1
        have i7_1 := ti_nle h7_1
        (try rw [nI_toInt (show k < 2 ^ 31 by omega)] at i7_1)
        (try rw [l_24] at i7_1)
        refine lv_aload_n hx hb d_DK_secondsOf_10 rfl (lv_at hl 3 rfl) ?_
        refine va_get (D := (dC, dI)) (ci := 2) (v := .ref (cd 6)) (C := R_DK) (T := F_DK) (N := 4) hx hb ht in_DK hown hK hP 5 rfl rfl 0 (by decide) (ht _ tb_46) (fun _ h9 => h9) rfl d_DK_secondsOf_11 ?_
        refine lv_iload_n hx hb d_DK_secondsOf_14 rfl (lv_at hl 0 rfl) ?_
        refine va_iald hx hb hK hP 6 0 rfl rfl (vp_in_nI (show k < 24 by omega) (by decide)) d_DK_secondsOf_15 ?_
        refine W.eq (g2 := F0 m 16 ls [.int (ia 1 k)]) (by rw [nI_clamp (show k < 2 ^ 31 by omega)]) ?_
        refine lv_iload_n hx hb d_DK_secondsOf_16 rfl (lv_at hl 2 rfl) ?_
        refine lv_icmp_ne (tgt := 32) hx hb d_DK_secondsOf_17 (by decide) (fun h17_2 => ?_) (fun h17_2 => ?_)
        · have h17_2 := h17_2
          have i17_2 := ti_ne h17_2
          refine lv_iinc (k := 0) (v := nI (k + 1)) hx hb d_DK_secondsOf_32 hl rfl ((nI_succ k).symm) (by decide) rfl (fun ls hl => ?_)
          have hl : lv_has ls 4 [(3, .int (nI (k + 1))), (2, .int q), (1, .int x), (0, .ref (cd 5))] := hl
          refine lv_goto (tgt := 4) hx hb d_DK_secondsOf_35 (by decide) ?_
          exact ih_4 (k + 1) q ls (by omega) (by omega) hl
        · have h17_2 := h17_2
          have i17_2 := ti_eq h17_2
          refine lv_iload_n hx hb d_DK_secondsOf_20 rfl (lv_at hl 1 rfl) ?_
          refine lv_aload_n hx hb d_DK_secondsOf_21 rfl (lv_at hl 3 rfl) ?_
          refine va_get (D := (dC, dI)) (ci := 2) (v := .ref (cd 8)) (C := R_DK) (T := F_DK) (N := 4) hx hb ht in_DK hown hK hP 5 rfl rfl 2 (by decide) (ht _ tb_48) (fun _ h9 => h9) rfl d_DK_secondsOf_22 ?_
          refine lv_iload_n hx hb d_DK_secondsOf_25 rfl (lv_at hl 0 rfl) ?_
          refine va_iald hx hb hK hP 8 0 rfl rfl (vp_in_nI (show k < 24 by omega) (by decide)) d_DK_secondsOf_26 ?_
          refine W.eq (g2 := F0 m 27 ls [.int (ia 3 k), .int q]) (by rw [nI_clamp (show k < 2 ^ 31 by omega)]) ?_
          refine r_call (va_runS (As := [.int (ia 3 k)]) (rest := [.int q]) ⟨hx, hb, hml, hown, ht⟩ (k_JI_bitCount l dC dI (ia 3 k)) (va_cwS 1 ht (gS tb_551 tb_141 tb_13 tb_142) rfl rfl rfl (by decide +kernel) ⟨Nat.le_of_ble_eq_true rfl, Nat.le_of_ble_eq_true rfl⟩) ⟨rdP_blind, rd_pre (W0 := []) (tys := []) (fun k q h => by cases h) ⟨hK.1, fun k q h => by cases h⟩⟩ rfl rfl hl.1 rfl (lv_room (Nat.le_of_ble_eq_true rfl)) d_DK_secondsOf_27 ⟨Nat.le_of_ble_eq_true rfl, Nat.le_of_ble_eq_true rfl⟩) (fun r1 hu => ?_)
          clear hu
          refine W.eq (g2 := F0 m 30 ls [.int r1, .int q]) rfl ?_
          refine lv_iadd hx hb d_DK_secondsOf_30 ?_
          refine lv_istore_n hx hb d_DK_secondsOf_31 rfl hl (by decide) rfl (fun ls hl => ?_)
          have hl : lv_has ls 4 [(2, .int (q + r1)), (3, .int (nI k)), (1, .int x), (0, .ref (cd 5))] := hl
          refine lv_iinc (k := 1) (v := nI (k + 1)) hx hb d_DK_secondsOf_32 hl rfl ((nI_succ k).symm) (by decide) rfl (fun ls hl => ?_)
          have hl : lv_has ls 4 [(3, .int (nI (k + 1))), (2, .int (q + r1)), (1, .int x), (0, .ref (cd 5))] := hl
          refine lv_goto (tgt := 4) hx hb d_DK_secondsOf_35 (by decide) ?_
          exact ih_4 (k + 1) (q + r1) ls (by omega) (by omega) hl
  have hl := lv_sub hl [0, 1, 3, 2] (l' := [(3, .int 0), (2, .int 0), (1, .int x), (0, .ref (cd 5))]) rfl
  have hl : lv_has ls 4 [(3, .int (nI 0)), (2, .int 0), (1, .int x), (0, .ref (cd 5))] := hl
  exact J_4 ((24 - 0) + 1) 0 0 ls (by omega) (by omega) hl
set_option maxHeartbeats 8000000 in
set_option maxRecDepth 100000 in
theorem k_DK_loseSegment (l : Launch) (dC : Nat → ClassId) (dI : Nat → Nat → Nat) (cd : Nat → Nat) (kI kQ : ClassId) (L : List Nat) (isA : Nat → Bool) (bk : Nat → Nat) (sc : Nat → Int32) (ia : Nat → Nat → Int32) (qa : Nat → Nat → Option Nat) (rf ba : Nat → Nat → Int32) (sz Bd : Nat) (N : Nat) (hC : CI N L isA bk sc qa rf) (x y : Int32) : Met l y_DK_loseSegment w_DK_loseSegment ({ frames := 1, cells := 0, slots := 0, locals := 23 }) (frP (dC, dI) (CW cd kI kQ L isA bk sc ia qa rf ba) (CT kI kQ) sz Bd [.ref (cd 5), .int x, .int y]) (tQ (dC, dI) (cW cd kI kQ L isA bk) (va_A (CW cd kI kQ L isA bk sc ia qa rf ba) sz) vI (fun r u => sc = u.1 ∧ qa = u.2.2.1 ∧ rf = u.2.2.2.1 ∧ ba = u.2.2.2.2 ∧ CI N L isA bk u.1 u.2.2.1 u.2.2.2.1)) 0 0 (va_A (CW cd kI kQ L isA bk sc ia qa rf ba) sz) := by
  refine Met.ofW (cc := c_DK_loseSegment) (maxL := 4) (ret := (some .int)) (by decide) rfl ?_
  intro p e s m args below meth c s₁ B hml hv
  obtain ⟨rfl, ⟨hsz, hBs⟩, hP, hK, hD0, hV⟩ := hv
  have hx := B.exec
  have hb := B.bytes
  have hr := B.returns
  have ht : ∀ w ∈ tb_, w.before _ s = true := fun w h => atoms_spec (ws := w_DK_loseSegment) B.pre w (List.mem_cons_of_mem _ h)
  have hown : s.vm.findClass R_DK = some m.cls := findClass_of_methodNamed B.named
  have hlocks := B.notSynchronized
  subst hsz
  have hD := hD0.self (sz := s.heap.size)
  have hAB : ∀ q, va_A (CW cd kI kQ L isA bk sc ia qa rf ba) s.heap.size q → Bd ≤ q := fr_AB hD0 hBs
  generalize hAe : va_A (CW cd kI kQ L isA bk sc ia qa rf ba) s.heap.size = A at hD hAB ⊢
  have hA : ∀ q : Nat, s.heap.size ≤ q → A q := fun q h => by rw [← hAe]; exact Or.inr h
  have hS : va_S A s.heap s.heap [] := va_S.rf
  have hs : same [] sc sc := same.rf
  have hP : va_P (dC, dI) cls_ (CW cd kI kQ L isA bk sc ia qa rf ba) s.heap := hP
  have hl := lv_entry ([.ref (cd 5), .int x, .int y]) (n := 4) (Nat.le_of_ble_eq_true rfl)
  rw [lg_entry_eq]
  generalize (lg_sl ([.ref (cd 5), .int x, .int y]) ++ List.replicate (4 - (lg_sl ([.ref (cd 5), .int x, .int y])).length) Slot.unset).toArray = ls at hl ⊢
  have hl : lv_has ls 4 [(0, .ref (cd 5)), (1, .int x), (2, .int y)] := hl
  have hN := hC.1.1
  refine lv_aload_n hx hb d_DK_loseSegment_0 rfl (lv_at hl 0 rfl) ?_
  refine lv_iload_n hx hb d_DK_loseSegment_1 rfl (lv_at hl 1 rfl) ?_
  refine lv_iload_n hx hb d_DK_loseSegment_2 rfl (lv_at hl 2 rfl) ?_
  refine r_call (va_runV (C := R_DK) (As := [.int x, .int y]) (rest := []) ⟨hx, hb, hml, hown, ht⟩ (k_DK_slotOf l dC dI cd kI kQ L isA bk sc ia qa rf ba N hC x y) (cwV 2 ht (gV tb_538 tb_185 tb_186 tb_3 tb_187) rfl rfl rfl (by decide +kernel) ⟨Nat.le_of_ble_eq_true rfl, Nat.le_of_ble_eq_true rfl⟩) ⟨rdP_blind, va_recv (q := (R_DK, F_DK, 4)) hK hP rfl (show (CW cd kI kQ L isA bk sc ia qa rf ba : va_W)[5]? = some _ from rfl), rd_pre hP hK⟩ rfl rfl hl.1 rfl (lv_room (Nat.le_of_ble_eq_true rfl)) d_DK_loseSegment_3 ⟨Nat.le_of_ble_eq_true rfl, Nat.le_of_ble_eq_true rfl⟩) (fun r1 hu => ?_)
  have hu1_0 := hu
  have hu1_0 : (r1 = -1 ∨ ∃ kzz, kzz < 24 ∧ r1 = nI kzz) := hu1_0
  refine W.eq (g2 := F0 m 6 ls [.int r1]) rfl ?_
  rcases hu1_0 with rfl | ⟨kz, hkz, rfl⟩
  · refine lv_istore_n hx hb d_DK_loseSegment_6 rfl hl (by decide) rfl (fun ls hl => ?_)
    have hl : lv_has ls 4 [(3, .int (-1)), (0, .ref (cd 5)), (1, .int x), (2, .int y)] := hl
    refine lv_iload_n hx hb d_DK_loseSegment_7 rfl (lv_at hl 0 rfl) ?_
    refine lv_iconst (v := -1) hx hb d_DK_loseSegment_8 (by decide) ?_
    refine lv_icmp_ne (tgt := 14) hx hb d_DK_loseSegment_9 (by decide) (fun h9 => absurd (rfl) h9) (fun _ => ?_)
    refine lv_iconst (v := 0) hx hb d_DK_loseSegment_12 (by decide) ?_
    exact W.iret (v := 0) hx hb hr (fun t ht9 hW => ⟨⟨0, (sc, ia, qa, rf, ba), rfl, ⟨rfl, rfl, rfl, rfl, hC⟩, by rw [ht9]; exact hP, hD⟩, hS.F ht9⟩) hS.2.2 d_DK_loseSegment_13
  · refine lv_istore_n hx hb d_DK_loseSegment_6 rfl hl (by decide) rfl (fun ls hl => ?_)
    have hl : lv_has ls 4 [(3, .int (nI kz)), (0, .ref (cd 5)), (1, .int x), (2, .int y)] := hl
    refine lv_iload_n hx hb d_DK_loseSegment_7 rfl (lv_at hl 0 rfl) ?_
    refine lv_iconst (v := -1) hx hb d_DK_loseSegment_8 (by decide) ?_
    refine lv_icmp_ne (tgt := 14) hx hb d_DK_loseSegment_9 (by decide) (fun _ => ?_) (fun h9 => absurd h9 (fun h9 => absurd (ti_eq h9) (by rw [nI_toInt (by omega), l_m1]; omega)))
    refine lv_aload_n hx hb d_DK_loseSegment_14 rfl (lv_at hl 1 rfl) ?_
    refine va_get (D := (dC, dI)) (ci := 2) (v := .ref (cd 6)) (C := R_DK) (T := F_DK) (N := 4) hx hb ht in_DK hown hK hP 5 rfl rfl 0 (by decide) (ht _ tb_46) (fun _ h9 => h9) rfl d_DK_loseSegment_15 ?_
    refine lv_iload_n hx hb d_DK_loseSegment_18 rfl (lv_at hl 0 rfl) ?_
    refine lv_iconst (v := -1) hx hb d_DK_loseSegment_19 (by decide) ?_
    have hD0 := hD
    refine va_iast hx hb hK hP hD hS 6 0 rfl rfl (vp_in_nI (show kz < 24 by omega) (by decide)) d_DK_loseSegment_20 (fun H locs hP hD hS => ?_)
    rw [nI_clamp (show kz < 2 ^ 31 by omega)] at hP hD
    have hP : va_P (dC, dI) cls_ (CW cd kI kQ L isA bk sc (va_up ia 1 (upd (ia 1) kz (-1))) qa rf ba) H := hP
    have hD : va_D A (CW cd kI kQ L isA bk sc (va_up ia 1 (upd (ia 1) kz (-1))) qa rf ba) := hD
    obtain ⟨ia2, eia2⟩ : ∃ q9_, q9_ = va_up ia 1 (upd (ia 1) kz (-1)) := ⟨_, rfl⟩
    rw [← eia2] at hP hD
    refine lv_aload_n hx hb d_DK_loseSegment_21 rfl (lv_at hl 1 rfl) ?_
    refine va_get (D := (dC, dI)) (ci := 2) (v := .ref (cd 8)) (C := R_DK) (T := F_DK) (N := 4) hx hb ht in_DK hown hK hP 5 rfl rfl 2 (by decide) (ht _ tb_48) (fun _ h9 => h9) rfl d_DK_loseSegment_22 ?_
    refine lv_iload_n hx hb d_DK_loseSegment_25 rfl (lv_at hl 0 rfl) ?_
    refine va_iald hx hb hK hP 8 0 rfl rfl (vp_in_nI (show kz < 24 by omega) (by decide)) d_DK_loseSegment_26 ?_
    refine W.eq (g2 := F0 m 27 ls [.int (ia2 3 kz)]) (by rw [nI_clamp (show kz < 2 ^ 31 by omega)]) ?_
    refine r_call (va_runS (As := [.int (ia2 3 kz)]) (rest := []) ⟨hx, hb, hml, hown, ht⟩ (k_JI_bitCount l dC dI (ia2 3 kz)) (va_cwS 1 ht (gS tb_551 tb_141 tb_13 tb_142) rfl rfl rfl (by decide +kernel) ⟨Nat.le_of_ble_eq_true rfl, Nat.le_of_ble_eq_true rfl⟩) ⟨rdP_blind, rd_pre (W0 := []) (tys := []) (fun k q h => by cases h) ⟨hK.1, fun k q h => by cases h⟩⟩ rfl rfl hl.1 rfl (lv_room (Nat.le_of_ble_eq_true rfl)) d_DK_loseSegment_27 ⟨Nat.le_of_ble_eq_true rfl, Nat.le_of_ble_eq_true rfl⟩) (fun r3 hu => ?_)
    clear hu
    refine W.eq (g2 := F0 m 30 ls [.int r3]) rfl ?_
    exact W.iret (v := r3) hx hb hr (fun t ht9 hW => ⟨⟨r3, (sc, ia2, qa, rf, ba), rfl, ⟨rfl, rfl, rfl, rfl, hC⟩, by rw [ht9]; exact hP, hD⟩, hS.F ht9⟩) hS.2.2 d_DK_loseSegment_30
