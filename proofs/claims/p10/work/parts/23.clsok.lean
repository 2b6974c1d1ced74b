abbrev c_TT_openRequests : ByteArray := prog_1_method_28_code
abbrev y_TT_openRequests : MethodName := ⟨"TwinTuners", "openRequests", "()I"⟩
def w_TT_openRequests : List Cond := .code y_TT_openRequests c_TT_openRequests 3 (some .int) :: tb_
abbrev c_TT_isAhead : ByteArray := prog_1_method_25_code
abbrev y_TT_isAhead : MethodName := ⟨"TwinTuners", "isAhead", "(I)Z"⟩
def w_TT_isAhead : List Cond := .code y_TT_isAhead c_TT_isAhead 2 (some .boolean) :: tb_
abbrev c_TT_numbered : ByteArray := prog_1_method_26_code
abbrev y_TT_numbered : MethodName := ⟨"TwinTuners", "numbered", "(I)LTwinTuners$Request;"⟩
def w_TT_numbered : List Cond := .code y_TT_numbered c_TT_numbered 2 (some (.object "TwinTuners$Request")) :: tb_
abbrev c_TT_state : ByteArray := prog_1_method_4_code
abbrev y_TT_state : MethodName := ⟨"TwinTuners", "state", "(I)I"⟩
def w_TT_state : List Cond := .code y_TT_state c_TT_state 2 (some .int) :: tb_
abbrev c_TT_shortBy : ByteArray := prog_1_method_15_code
abbrev y_TT_shortBy : MethodName := ⟨"TwinTuners", "shortBy", "(I)I"⟩
def w_TT_shortBy : List Cond := .code y_TT_shortBy c_TT_shortBy 2 (some .int) :: tb_
abbrev c_TT_planFrom : ByteArray := prog_1_method_5_code
abbrev y_TT_planFrom : MethodName := ⟨"TwinTuners", "planFrom", "(I)I"⟩
def w_TT_planFrom : List Cond := .code y_TT_planFrom c_TT_planFrom 3 (some .int) :: tb_
abbrev c_TT_planTo : ByteArray := prog_1_method_6_code
abbrev y_TT_planTo : MethodName := ⟨"TwinTuners", "planTo", "(I)I"⟩
def w_TT_planTo : List Cond := .code y_TT_planTo c_TT_planTo 3 (some .int) :: tb_
abbrev c_TT_word : ByteArray := prog_1_method_13_code
abbrev y_TT_word : MethodName := ⟨"TwinTuners", "word", "(II)J"⟩
def w_TT_word : List Cond := .code y_TT_word c_TT_word 3 (some .long) :: tb_
abbrev c_TT_recorded : ByteArray := prog_1_method_14_code
abbrev y_TT_recorded : MethodName := ⟨"TwinTuners", "recorded", "(I)I"⟩
def w_TT_recorded : List Cond := .code y_TT_recorded c_TT_recorded 2 (some .int) :: tb_
abbrev c_TT_cancel : ByteArray := prog_1_method_3_code
abbrev y_TT_cancel : MethodName := ⟨"TwinTuners", "cancel", "(I)V"⟩
def w_TT_cancel : List Cond := .code y_TT_cancel c_TT_cancel 3 none :: tb_
abbrev c_TT_recordingNumbered : ByteArray := prog_1_method_27_code
abbrev y_TT_recordingNumbered : MethodName := ⟨"TwinTuners", "recordingNumbered", "(I)LTwinTuners$Request;"⟩
def w_TT_recordingNumbered : List Cond := .code y_TT_recordingNumbered c_TT_recordingNumbered 3 (some (.object "TwinTuners$Request")) :: tb_
abbrev c_TT_protect : ByteArray := prog_1_method_16_code
abbrev y_TT_protect : MethodName := ⟨"TwinTuners", "protect", "(IZ)V"⟩
def w_TT_protect : List Cond := .code y_TT_protect c_TT_protect 3 none :: tb_
abbrev c_TT_seen : ByteArray := prog_1_method_17_code
abbrev y_TT_seen : MethodName := ⟨"TwinTuners", "seen", "(IZ)V"⟩
def w_TT_seen : List Cond := .code y_TT_seen c_TT_seen 3 none :: tb_
abbrev c_TT_erase : ByteArray := prog_1_method_18_code
abbrev y_TT_erase : MethodName := ⟨"TwinTuners", "erase", "(I)I"⟩
def w_TT_erase : List Cond := .code y_TT_erase c_TT_erase 3 (some .int) :: tb_
abbrev c_TT_bookmarkAt : ByteArray := prog_1_method_21_code
abbrev y_TT_bookmarkAt : MethodName := ⟨"TwinTuners", "bookmarkAt", "(II)I"⟩
def w_TT_bookmarkAt : List Cond := .code y_TT_bookmarkAt c_TT_bookmarkAt 4 (some .int) :: tb_
abbrev c_TT_free : ByteArray := prog_1_method_19_code
abbrev y_TT_free : MethodName := ⟨"TwinTuners", "free", "()I"⟩
def w_TT_free : List Cond := .code y_TT_free c_TT_free 1 (some .int) :: tb_
abbrev c_TT_now : ByteArray := prog_1_method_10_code
abbrev y_TT_now : MethodName := ⟨"TwinTuners", "now", "()I"⟩
def w_TT_now : List Cond := .code y_TT_now c_TT_now 1 (some .int) :: tb_
abbrev c_TT_back : ByteArray := prog_1_method_12_code
abbrev y_TT_back : MethodName := ⟨"TwinTuners", "back", "(I)J"⟩
def w_TT_back : List Cond := .code y_TT_back c_TT_back 2 (some .long) :: tb_
abbrev c_TT_air : ByteArray := prog_1_method_7_code
abbrev y_TT_air : MethodName := ⟨"TwinTuners", "air", "(II)V"⟩
def w_TT_air : List Cond := .code y_TT_air c_TT_air 3 none :: tb_
abbrev c_TT_watch : ByteArray := prog_1_method_11_code
abbrev y_TT_watch : MethodName := ⟨"TwinTuners", "watch", "(I)I"⟩
def w_TT_watch : List Cond := .code y_TT_watch c_TT_watch 3 (some .int) :: tb_
abbrev c_TT_ticks : ByteArray := prog_1_method_9_code
abbrev y_TT_ticks : MethodName := ⟨"TwinTuners", "ticks", "(I)I"⟩
def w_TT_ticks : List Cond := .code y_TT_ticks c_TT_ticks 4 (some .int) :: tb_
abbrev c_TT_cut : ByteArray := prog_1_method_22_code
abbrev y_TT_cut : MethodName := ⟨"TwinTuners", "cut", "(I)I"⟩
def w_TT_cut : List Cond := .code y_TT_cut c_TT_cut 5 (some .int) :: tb_
set_option maxRecDepth 100000 in
theorem tb_246 : (.code ⟨"TwinTuners", "now", "()I"⟩ prog_1_method_10_code 1 (some .int) : Cond) ∈ tb_ := tb_w 246 rfl rfl
set_option maxRecDepth 100000 in
theorem tb_250 : (.code ⟨"TwinTuners", "back", "(I)J"⟩ prog_1_method_12_code 2 (some .long) : Cond) ∈ tb_ := tb_w 250 rfl rfl
set_option maxRecDepth 100000 in
theorem tb_251 : (.methodLink "TwinTuners" 133 ⟨"TwinTuners$Rewind", "secondsAgo", "(I)J"⟩ : Cond) ∈ tb_ := tb_w 251 rfl rfl
set_option maxRecDepth 100000 in
theorem tb_252 : (.instanceMethod ⟨"TwinTuners$Rewind", "secondsAgo", "(I)J"⟩ : Cond) ∈ tb_ := tb_w 252 rfl rfl
set_option maxRecDepth 100000 in
theorem tb_253 : (.selects "TwinTuners$Rewind" ⟨"TwinTuners$Rewind", "secondsAgo", "(I)J"⟩ ⟨"TwinTuners$Rewind", "secondsAgo", "(I)J"⟩ : Cond) ∈ tb_ := tb_w 253 rfl rfl
set_option maxRecDepth 100000 in
theorem tb_260 : (.code ⟨"TwinTuners", "free", "()I"⟩ prog_1_method_19_code 1 (some .int) : Cond) ∈ tb_ := tb_w 260 rfl rfl
set_option maxRecDepth 100000 in
theorem tb_270 : (.methodLink "TwinTuners" 50 ⟨"TwinTuners", "isChannel", "(I)Z"⟩ : Cond) ∈ tb_ := tb_w 270 rfl rfl
set_option maxRecDepth 100000 in
theorem tb_271 : (.static ⟨"TwinTuners", "isChannel", "(I)Z"⟩ : Cond) ∈ tb_ := tb_w 271 rfl rfl
set_option maxRecDepth 100000 in
theorem tb_274 : (.methodLink "TwinTuners" 54 ⟨"TwinTuners", "isAhead", "(I)Z"⟩ : Cond) ∈ tb_ := tb_w 274 rfl rfl
set_option maxRecDepth 100000 in
theorem tb_276 : (.instanceMethod ⟨"TwinTuners", "isAhead", "(I)Z"⟩ : Cond) ∈ tb_ := tb_w 276 rfl rfl
set_option maxRecDepth 100000 in
theorem tb_277 : (.code ⟨"TwinTuners", "isAhead", "(I)Z"⟩ prog_1_method_25_code 2 (some .boolean) : Cond) ∈ tb_ := tb_w 277 rfl rfl
set_option maxRecDepth 100000 in
theorem tb_349 : (.code ⟨"TwinTuners", "openRequests", "()I"⟩ prog_1_method_28_code 3 (some .int) : Cond) ∈ tb_ := tb_w 349 rfl rfl
set_option maxRecDepth 100000 in
theorem tb_350 : (.methodLink "TwinTuners" 84 ⟨"TwinTuners$Request", "isOpen", "()Z"⟩ : Cond) ∈ tb_ := tb_w 350 rfl rfl
set_option maxRecDepth 100000 in
theorem tb_379 : (.fieldLink "TwinTuners" 199 "TwinTuners$Request" "start" "I" : Cond) ∈ tb_ := tb_w 379 rfl rfl
set_option maxRecDepth 100000 in
theorem tb_382 : (.fieldLink "TwinTuners" 191 "TwinTuners$Request" "coreEnd" "I" : Cond) ∈ tb_ := tb_w 382 rfl rfl
set_option maxRecDepth 100000 in
theorem tb_390 : (.fieldLink "TwinTuners" 182 "TwinTuners$Request" "bookmarkSeconds" "[I" : Cond) ∈ tb_ := tb_w 390 rfl rfl
set_option maxRecDepth 100000 in
theorem tb_400 : (.fieldLink "TwinTuners" 104 "TwinTuners$Request" "takenFrom" "I" : Cond) ∈ tb_ := tb_w 400 rfl rfl
set_option maxRecDepth 100000 in
theorem tb_403 : (.fieldLink "TwinTuners" 110 "TwinTuners$Request" "takenTo" "I" : Cond) ∈ tb_ := tb_w 403 rfl rfl
set_option maxRecDepth 100000 in
theorem tb_455 : (.code ⟨"TwinTuners", "cancel", "(I)V"⟩ prog_1_method_3_code 3 none : Cond) ∈ tb_ := tb_w 455 rfl rfl
set_option maxRecDepth 100000 in
theorem tb_456 : (.methodLink "TwinTuners" 80 ⟨"TwinTuners", "numbered", "(I)LTwinTuners$Request;"⟩ : Cond) ∈ tb_ := tb_w 456 rfl rfl
set_option maxRecDepth 100000 in
theorem tb_458 : (.instanceMethod ⟨"TwinTuners", "numbered", "(I)LTwinTuners$Request;"⟩ : Cond) ∈ tb_ := tb_w 458 rfl rfl
set_option maxRecDepth 100000 in
theorem tb_459 : (.code ⟨"TwinTuners", "numbered", "(I)LTwinTuners$Request;"⟩ prog_1_method_26_code 2 (some (.object "TwinTuners$Request")) : Cond) ∈ tb_ := tb_w 459 rfl rfl
set_option maxRecDepth 100000 in
theorem tb_477 : (.methodLink "TwinTuners" 93 ⟨"TwinTuners$Request", "finishAt", "(I)V"⟩ : Cond) ∈ tb_ := tb_w 477 rfl rfl
set_option maxRecDepth 100000 in
theorem tb_478 : (.instanceMethod ⟨"TwinTuners$Request", "finishAt", "(I)V"⟩ : Cond) ∈ tb_ := tb_w 478 rfl rfl
set_option maxRecDepth 100000 in
theorem tb_479 : (.selects "TwinTuners$Request" ⟨"TwinTuners$Request", "finishAt", "(I)V"⟩ ⟨"TwinTuners$Request", "finishAt", "(I)V"⟩ : Cond) ∈ tb_ := tb_w 479 rfl rfl
set_option maxRecDepth 100000 in
theorem tb_487 : (.code ⟨"TwinTuners", "state", "(I)I"⟩ prog_1_method_4_code 2 (some .int) : Cond) ∈ tb_ := tb_w 487 rfl rfl
set_option maxRecDepth 100000 in
theorem tb_494 : (.code ⟨"TwinTuners", "planFrom", "(I)I"⟩ prog_1_method_5_code 3 (some .int) : Cond) ∈ tb_ := tb_w 494 rfl rfl
set_option maxRecDepth 100000 in
theorem tb_495 : (.methodLink "TwinTuners" 101 ⟨"TwinTuners$Request", "isPlanned", "()Z"⟩ : Cond) ∈ tb_ := tb_w 495 rfl rfl
set_option maxRecDepth 100000 in
theorem tb_502 : (.code ⟨"TwinTuners", "planTo", "(I)I"⟩ prog_1_method_6_code 3 (some .int) : Cond) ∈ tb_ := tb_w 502 rfl rfl
set_option maxRecDepth 100000 in
theorem tb_509 : (.code ⟨"TwinTuners", "air", "(II)V"⟩ prog_1_method_7_code 3 none : Cond) ∈ tb_ := tb_w 509 rfl rfl
set_option maxRecDepth 100000 in
theorem tb_517 : (.code ⟨"TwinTuners", "ticks", "(I)I"⟩ prog_1_method_9_code 4 (some .int) : Cond) ∈ tb_ := tb_w 517 rfl rfl
set_option maxRecDepth 100000 in
theorem tb_525 : (.code ⟨"TwinTuners", "watch", "(I)I"⟩ prog_1_method_11_code 3 (some .int) : Cond) ∈ tb_ := tb_w 525 rfl rfl
set_option maxRecDepth 100000 in
theorem tb_532 : (.code ⟨"TwinTuners", "word", "(II)J"⟩ prog_1_method_13_code 3 (some .long) : Cond) ∈ tb_ := tb_w 532 rfl rfl
set_option maxRecDepth 100000 in
theorem tb_533 : (.methodLink "TwinTuners" 140 ⟨"TwinTuners$Disk", "wordOf", "(II)J"⟩ : Cond) ∈ tb_ := tb_w 533 rfl rfl
set_option maxRecDepth 100000 in
theorem tb_534 : (.instanceMethod ⟨"TwinTuners$Disk", "wordOf", "(II)J"⟩ : Cond) ∈ tb_ := tb_w 534 rfl rfl
set_option maxRecDepth 100000 in
theorem tb_535 : (.selects "TwinTuners$Disk" ⟨"TwinTuners$Disk", "wordOf", "(II)J"⟩ ⟨"TwinTuners$Disk", "wordOf", "(II)J"⟩ : Cond) ∈ tb_ := tb_w 535 rfl rfl
set_option maxRecDepth 100000 in
theorem tb_546 : (.code ⟨"TwinTuners", "recorded", "(I)I"⟩ prog_1_method_14_code 2 (some .int) : Cond) ∈ tb_ := tb_w 546 rfl rfl
set_option maxRecDepth 100000 in
theorem tb_547 : (.methodLink "TwinTuners" 144 ⟨"TwinTuners$Disk", "secondsOf", "(I)I"⟩ : Cond) ∈ tb_ := tb_w 547 rfl rfl
set_option maxRecDepth 100000 in
theorem tb_548 : (.instanceMethod ⟨"TwinTuners$Disk", "secondsOf", "(I)I"⟩ : Cond) ∈ tb_ := tb_w 548 rfl rfl
set_option maxRecDepth 100000 in
theorem tb_549 : (.selects "TwinTuners$Disk" ⟨"TwinTuners$Disk", "secondsOf", "(I)I"⟩ ⟨"TwinTuners$Disk", "secondsOf", "(I)I"⟩ : Cond) ∈ tb_ := tb_w 549 rfl rfl
set_option maxRecDepth 100000 in
theorem tb_558 : (.code ⟨"TwinTuners", "shortBy", "(I)I"⟩ prog_1_method_15_code 2 (some .int) : Cond) ∈ tb_ := tb_w 558 rfl rfl
set_option maxRecDepth 100000 in
theorem tb_565 : (.code ⟨"TwinTuners", "protect", "(IZ)V"⟩ prog_1_method_16_code 3 none : Cond) ∈ tb_ := tb_w 565 rfl rfl
set_option maxRecDepth 100000 in
theorem tb_566 : (.methodLink "TwinTuners" 150 ⟨"TwinTuners", "recordingNumbered", "(I)LTwinTuners$Request;"⟩ : Cond) ∈ tb_ := tb_w 566 rfl rfl
set_option maxRecDepth 100000 in
theorem tb_568 : (.instanceMethod ⟨"TwinTuners", "recordingNumbered", "(I)LTwinTuners$Request;"⟩ : Cond) ∈ tb_ := tb_w 568 rfl rfl
set_option maxRecDepth 100000 in
theorem tb_569 : (.code ⟨"TwinTuners", "recordingNumbered", "(I)LTwinTuners$Request;"⟩ prog_1_method_27_code 3 (some (.object "TwinTuners$Request")) : Cond) ∈ tb_ := tb_w 569 rfl rfl
set_option maxRecDepth 100000 in
theorem tb_570 : (.methodLink "TwinTuners" 171 ⟨"TwinTuners$Request", "isRecording", "()Z"⟩ : Cond) ∈ tb_ := tb_w 570 rfl rfl
set_option maxRecDepth 100000 in
theorem tb_571 : (.instanceMethod ⟨"TwinTuners$Request", "isRecording", "()Z"⟩ : Cond) ∈ tb_ := tb_w 571 rfl rfl
set_option maxRecDepth 100000 in
theorem tb_572 : (.selects "TwinTuners$Request" ⟨"TwinTuners$Request", "isRecording", "()Z"⟩ ⟨"TwinTuners$Request", "isRecording", "()Z"⟩ : Cond) ∈ tb_ := tb_w 572 rfl rfl
set_option maxRecDepth 100000 in
theorem tb_581 : (.code ⟨"TwinTuners", "seen", "(IZ)V"⟩ prog_1_method_17_code 3 none : Cond) ∈ tb_ := tb_w 581 rfl rfl
set_option maxRecDepth 100000 in
theorem tb_588 : (.code ⟨"TwinTuners", "erase", "(I)I"⟩ prog_1_method_18_code 3 (some .int) : Cond) ∈ tb_ := tb_w 588 rfl rfl
set_option maxRecDepth 100000 in
theorem tb_609 : (.code ⟨"TwinTuners", "bookmarkAt", "(II)I"⟩ prog_1_method_21_code 4 (some .int) : Cond) ∈ tb_ := tb_w 609 rfl rfl
set_option maxRecDepth 100000 in
theorem tb_616 : (.code ⟨"TwinTuners", "cut", "(I)I"⟩ prog_1_method_22_code 5 (some .int) : Cond) ∈ tb_ := tb_w 616 rfl rfl
set_option maxRecDepth 100000 in
theorem tb_618 : (.methodLink "TwinTuners" 187 ⟨"TwinTuners$Disk", "loseSegment", "(II)I"⟩ : Cond) ∈ tb_ := tb_w 618 rfl rfl
set_option maxRecDepth 100000 in
theorem tb_619 : (.instanceMethod ⟨"TwinTuners$Disk", "loseSegment", "(II)I"⟩ : Cond) ∈ tb_ := tb_w 619 rfl rfl
set_option maxRecDepth 100000 in
theorem tb_620 : (.selects "TwinTuners$Disk" ⟨"TwinTuners$Disk", "loseSegment", "(II)I"⟩ ⟨"TwinTuners$Disk", "loseSegment", "(II)I"⟩ : Cond) ∈ tb_ := tb_w 620 rfl rfl
set_option maxRecDepth 100000 in
theorem tb_622 : (.methodLink "TwinTuners" 194 ⟨"java/lang/Math", "max", "(II)I"⟩ : Cond) ∈ tb_ := tb_w 622 rfl rfl
set_option maxRecDepth 100000 in
theorem tb_623 : (.static ⟨"java/lang/Math", "max", "(II)I"⟩ : Cond) ∈ tb_ := tb_w 623 rfl rfl
set_option maxRecDepth 100000 in
theorem tb_624 : (.code ⟨"java/lang/Math", "max", "(II)I"⟩ prog_13_method_65_code 2 (some .int) : Cond) ∈ tb_ := tb_w 624 rfl rfl
theorem ts_17 : (.selects "TwinTuners" ⟨"TwinTuners", "isAhead", "(I)Z"⟩ ⟨"TwinTuners", "isAhead", "(I)Z"⟩ : Cond) ∈ tb_ := ts_w 17 rfl rfl
theorem ts_20 : (.selects "TwinTuners" ⟨"TwinTuners", "numbered", "(I)LTwinTuners$Request;"⟩ ⟨"TwinTuners", "numbered", "(I)LTwinTuners$Request;"⟩ : Cond) ∈ tb_ := ts_w 20 rfl rfl
theorem ts_21 : (.selects "TwinTuners" ⟨"TwinTuners", "recordingNumbered", "(I)LTwinTuners$Request;"⟩ ⟨"TwinTuners", "recordingNumbered", "(I)LTwinTuners$Request;"⟩ : Cond) ∈ tb_ := ts_w 21 rfl rfl
theorem d_TT_air_0 : decode c_TT_air 0 = .ok (.iload_n 1, 1) := by decide +kernel
theorem d_TT_air_1 : decode c_TT_air 1 = .ok (.invokestatic 50, 3) := by decide +kernel
theorem d_TT_air_4 : decode c_TT_air 4 = .ok (.ifCond .ne 13, 3) := by decide +kernel
theorem d_TT_air_17 : decode c_TT_air 17 = .ok (.aload_n 0, 1) := by decide +kernel
theorem d_TT_air_18 : decode c_TT_air 18 = .ok (.getfield 15, 3) := by decide +kernel
theorem d_TT_air_21 : decode c_TT_air 21 = .ok (.iload_n 1, 1) := by decide +kernel
theorem d_TT_air_22 : decode c_TT_air 22 = .ok (.iload_n 2, 1) := by decide +kernel
theorem d_TT_air_23 : decode c_TT_air 23 = .ok (.iastore, 1) := by decide +kernel
theorem d_TT_air_24 : decode c_TT_air 24 = .ok (.return_, 1) := by decide +kernel
theorem d_TT_back_0 : decode c_TT_back 0 = .ok (.aload_n 0, 1) := by decide +kernel
theorem d_TT_back_1 : decode c_TT_back 1 = .ok (.getfield 36, 3) := by decide +kernel
theorem d_TT_back_4 : decode c_TT_back 4 = .ok (.iload_n 1, 1) := by decide +kernel
theorem d_TT_back_5 : decode c_TT_back 5 = .ok (.invokevirtual 133, 3) := by decide +kernel
theorem d_TT_back_8 : decode c_TT_back 8 = .ok (.lreturn, 1) := by decide +kernel
theorem d_TT_bookmarkAt_0 : decode c_TT_bookmarkAt 0 = .ok (.aload_n 0, 1) := by decide +kernel
theorem d_TT_bookmarkAt_1 : decode c_TT_bookmarkAt 1 = .ok (.iload_n 1, 1) := by decide +kernel
theorem d_TT_bookmarkAt_2 : decode c_TT_bookmarkAt 2 = .ok (.invokevirtual 80, 3) := by decide +kernel
theorem d_TT_bookmarkAt_5 : decode c_TT_bookmarkAt 5 = .ok (.astore_n 3, 1) := by decide +kernel
theorem d_TT_bookmarkAt_6 : decode c_TT_bookmarkAt 6 = .ok (.iload_n 2, 1) := by decide +kernel
theorem d_TT_bookmarkAt_7 : decode c_TT_bookmarkAt 7 = .ok (.ifCond .lt 20, 3) := by decide +kernel
theorem d_TT_bookmarkAt_10 : decode c_TT_bookmarkAt 10 = .ok (.iload_n 2, 1) := by decide +kernel
theorem d_TT_bookmarkAt_11 : decode c_TT_bookmarkAt 11 = .ok (.aload_n 3, 1) := by decide +kernel
theorem d_TT_bookmarkAt_12 : decode c_TT_bookmarkAt 12 = .ok (.getfield 174, 3) := by decide +kernel
theorem d_TT_bookmarkAt_15 : decode c_TT_bookmarkAt 15 = .ok (.if_icmp .ge 12, 3) := by decide +kernel
theorem d_TT_bookmarkAt_18 : decode c_TT_bookmarkAt 18 = .ok (.aload_n 3, 1) := by decide +kernel
theorem d_TT_bookmarkAt_19 : decode c_TT_bookmarkAt 19 = .ok (.getfield 182, 3) := by decide +kernel
theorem d_TT_bookmarkAt_22 : decode c_TT_bookmarkAt 22 = .ok (.iload_n 2, 1) := by decide +kernel
theorem d_TT_bookmarkAt_23 : decode c_TT_bookmarkAt 23 = .ok (.iaload, 1) := by decide +kernel
theorem d_TT_bookmarkAt_24 : decode c_TT_bookmarkAt 24 = .ok (.goto 4, 3) := by decide +kernel
theorem d_TT_bookmarkAt_27 : decode c_TT_bookmarkAt 27 = .ok (.iconst (-1), 1) := by decide +kernel
theorem d_TT_bookmarkAt_28 : decode c_TT_bookmarkAt 28 = .ok (.ireturn, 1) := by decide +kernel
theorem d_TT_cancel_0 : decode c_TT_cancel 0 = .ok (.aload_n 0, 1) := by decide +kernel
theorem d_TT_cancel_1 : decode c_TT_cancel 1 = .ok (.iload_n 1, 1) := by decide +kernel
theorem d_TT_cancel_2 : decode c_TT_cancel 2 = .ok (.invokevirtual 80, 3) := by decide +kernel
theorem d_TT_cancel_5 : decode c_TT_cancel 5 = .ok (.astore_n 2, 1) := by decide +kernel
theorem d_TT_cancel_6 : decode c_TT_cancel 6 = .ok (.aload_n 2, 1) := by decide +kernel
theorem d_TT_cancel_7 : decode c_TT_cancel 7 = .ok (.invokevirtual 84, 3) := by decide +kernel
theorem d_TT_cancel_10 : decode c_TT_cancel 10 = .ok (.ifCond .ne 13, 3) := by decide +kernel
theorem d_TT_cancel_23 : decode c_TT_cancel 23 = .ok (.aload_n 2, 1) := by decide +kernel
theorem d_TT_cancel_24 : decode c_TT_cancel 24 = .ok (.getfield 90, 3) := by decide +kernel
theorem d_TT_cancel_27 : decode c_TT_cancel 27 = .ok (.iconst 1, 1) := by decide +kernel
theorem d_TT_cancel_28 : decode c_TT_cancel 28 = .ok (.if_icmp .ne 14, 3) := by decide +kernel
theorem d_TT_cancel_31 : decode c_TT_cancel 31 = .ok (.aload_n 2, 1) := by decide +kernel
theorem d_TT_cancel_32 : decode c_TT_cancel 32 = .ok (.aload_n 0, 1) := by decide +kernel
theorem d_TT_cancel_33 : decode c_TT_cancel 33 = .ok (.getfield 44, 3) := by decide +kernel
theorem d_TT_cancel_36 : decode c_TT_cancel 36 = .ok (.invokevirtual 93, 3) := by decide +kernel
theorem d_TT_cancel_39 : decode c_TT_cancel 39 = .ok (.goto 8, 3) := by decide +kernel
theorem d_TT_cancel_42 : decode c_TT_cancel 42 = .ok (.aload_n 2, 1) := by decide +kernel
theorem d_TT_cancel_43 : decode c_TT_cancel 43 = .ok (.iconst 4, 1) := by decide +kernel
theorem d_TT_cancel_44 : decode c_TT_cancel 44 = .ok (.putfield 90, 3) := by decide +kernel
theorem d_TT_cancel_47 : decode c_TT_cancel 47 = .ok (.return_, 1) := by decide +kernel
theorem d_TT_cut_0 : decode c_TT_cut 0 = .ok (.aload_n 0, 1) := by decide +kernel
theorem d_TT_cut_1 : decode c_TT_cut 1 = .ok (.iload_n 1, 1) := by decide +kernel
theorem d_TT_cut_2 : decode c_TT_cut 2 = .ok (.invokevirtual 54, 3) := by decide +kernel
theorem d_TT_cut_5 : decode c_TT_cut 5 = .ok (.ifCond .ne 13, 3) := by decide +kernel
theorem d_TT_cut_18 : decode c_TT_cut 18 = .ok (.iconst 0, 1) := by decide +kernel
theorem d_TT_cut_19 : decode c_TT_cut 19 = .ok (.istore_n 2, 1) := by decide +kernel
theorem d_TT_cut_20 : decode c_TT_cut 20 = .ok (.iconst 0, 1) := by decide +kernel
theorem d_TT_cut_21 : decode c_TT_cut 21 = .ok (.istore_n 3, 1) := by decide +kernel
theorem d_TT_cut_22 : decode c_TT_cut 22 = .ok (.iload_n 3, 1) := by decide +kernel
theorem d_TT_cut_23 : decode c_TT_cut 23 = .ok (.aload_n 0, 1) := by decide +kernel
theorem d_TT_cut_24 : decode c_TT_cut 24 = .ok (.getfield 40, 3) := by decide +kernel
theorem d_TT_cut_27 : decode c_TT_cut 27 = .ok (.if_icmp .ge 105, 3) := by decide +kernel
theorem d_TT_cut_30 : decode c_TT_cut 30 = .ok (.aload_n 0, 1) := by decide +kernel
theorem d_TT_cut_31 : decode c_TT_cut 31 = .ok (.getfield 11, 3) := by decide +kernel
theorem d_TT_cut_34 : decode c_TT_cut 34 = .ok (.iload_n 3, 1) := by decide +kernel
theorem d_TT_cut_35 : decode c_TT_cut 35 = .ok (.aaload, 1) := by decide +kernel
theorem d_TT_cut_36 : decode c_TT_cut 36 = .ok (.astore 4, 2) := by decide +kernel
theorem d_TT_cut_38 : decode c_TT_cut 38 = .ok (.aload 4, 2) := by decide +kernel
theorem d_TT_cut_40 : decode c_TT_cut 40 = .ok (.getfield 90, 3) := by decide +kernel
theorem d_TT_cut_43 : decode c_TT_cut 43 = .ok (.iconst 1, 1) := by decide +kernel
theorem d_TT_cut_44 : decode c_TT_cut 44 = .ok (.if_icmp .ne 59, 3) := by decide +kernel
theorem d_TT_cut_47 : decode c_TT_cut 47 = .ok (.iload_n 2, 1) := by decide +kernel
theorem d_TT_cut_48 : decode c_TT_cut 48 = .ok (.aload_n 0, 1) := by decide +kernel
theorem d_TT_cut_49 : decode c_TT_cut 49 = .ok (.getfield 29, 3) := by decide +kernel
theorem d_TT_cut_52 : decode c_TT_cut 52 = .ok (.aload 4, 2) := by decide +kernel
theorem d_TT_cut_54 : decode c_TT_cut 54 = .ok (.getfield 137, 3) := by decide +kernel
theorem d_TT_cut_57 : decode c_TT_cut 57 = .ok (.aload_n 0, 1) := by decide +kernel
theorem d_TT_cut_58 : decode c_TT_cut 58 = .ok (.getfield 44, 3) := by decide +kernel
theorem d_TT_cut_61 : decode c_TT_cut 61 = .ok (.aload 4, 2) := by decide +kernel
theorem d_TT_cut_63 : decode c_TT_cut 63 = .ok (.getfield 107, 3) := by decide +kernel
theorem d_TT_cut_66 : decode c_TT_cut 66 = .ok (.isub, 1) := by decide +kernel
theorem d_TT_cut_67 : decode c_TT_cut 67 = .ok (.iconst 4, 1) := by decide +kernel
theorem d_TT_cut_68 : decode c_TT_cut 68 = .ok (.idiv, 1) := by decide +kernel
theorem d_TT_cut_69 : decode c_TT_cut 69 = .ok (.invokevirtual 187, 3) := by decide +kernel
theorem d_TT_cut_72 : decode c_TT_cut 72 = .ok (.iadd, 1) := by decide +kernel
theorem d_TT_cut_73 : decode c_TT_cut 73 = .ok (.istore_n 2, 1) := by decide +kernel
theorem d_TT_cut_74 : decode c_TT_cut 74 = .ok (.aload 4, 2) := by decide +kernel
theorem d_TT_cut_76 : decode c_TT_cut 76 = .ok (.getfield 191, 3) := by decide +kernel
theorem d_TT_cut_79 : decode c_TT_cut 79 = .ok (.iload_n 1, 1) := by decide +kernel
theorem d_TT_cut_80 : decode c_TT_cut 80 = .ok (.if_icmp .gt 46, 3) := by decide +kernel
theorem d_TT_cut_83 : decode c_TT_cut 83 = .ok (.aload 4, 2) := by decide +kernel
theorem d_TT_cut_85 : decode c_TT_cut 85 = .ok (.aload 4, 2) := by decide +kernel
theorem d_TT_cut_87 : decode c_TT_cut 87 = .ok (.getfield 191, 3) := by decide +kernel
theorem d_TT_cut_90 : decode c_TT_cut 90 = .ok (.aload_n 0, 1) := by decide +kernel
theorem d_TT_cut_91 : decode c_TT_cut 91 = .ok (.getfield 44, 3) := by decide +kernel
theorem d_TT_cut_94 : decode c_TT_cut 94 = .ok (.invokestatic 194, 3) := by decide +kernel
theorem d_TT_cut_97 : decode c_TT_cut 97 = .ok (.invokevirtual 93, 3) := by decide +kernel
theorem d_TT_cut_100 : decode c_TT_cut 100 = .ok (.goto 26, 3) := by decide +kernel
theorem d_TT_cut_103 : decode c_TT_cut 103 = .ok (.aload 4, 2) := by decide +kernel
theorem d_TT_cut_105 : decode c_TT_cut 105 = .ok (.getfield 90, 3) := by decide +kernel
theorem d_TT_cut_108 : decode c_TT_cut 108 = .ok (.ifCond .ne 18, 3) := by decide +kernel
theorem d_TT_cut_111 : decode c_TT_cut 111 = .ok (.aload 4, 2) := by decide +kernel
theorem d_TT_cut_113 : decode c_TT_cut 113 = .ok (.getfield 199, 3) := by decide +kernel
theorem d_TT_cut_116 : decode c_TT_cut 116 = .ok (.iload_n 1, 1) := by decide +kernel
theorem d_TT_cut_117 : decode c_TT_cut 117 = .ok (.if_icmp .ge 9, 3) := by decide +kernel
theorem d_TT_cut_120 : decode c_TT_cut 120 = .ok (.aload 4, 2) := by decide +kernel
theorem d_TT_cut_122 : decode c_TT_cut 122 = .ok (.iconst 3, 1) := by decide +kernel
theorem d_TT_cut_123 : decode c_TT_cut 123 = .ok (.putfield 90, 3) := by decide +kernel
theorem d_TT_cut_126 : decode c_TT_cut 126 = .ok (.iinc 3 1, 3) := by decide +kernel
theorem d_TT_cut_129 : decode c_TT_cut 129 = .ok (.goto (-107), 3) := by decide +kernel
theorem d_TT_cut_132 : decode c_TT_cut 132 = .ok (.aload_n 0, 1) := by decide +kernel
theorem d_TT_cut_133 : decode c_TT_cut 133 = .ok (.getfield 36, 3) := by decide +kernel
theorem d_TT_cut_136 : decode c_TT_cut 136 = .ok (.invokevirtual 130, 3) := by decide +kernel
theorem d_TT_cut_139 : decode c_TT_cut 139 = .ok (.aload_n 0, 1) := by decide +kernel
theorem d_TT_cut_140 : decode c_TT_cut 140 = .ok (.iload_n 1, 1) := by decide +kernel
theorem d_TT_cut_141 : decode c_TT_cut 141 = .ok (.putfield 44, 3) := by decide +kernel
theorem d_TT_cut_144 : decode c_TT_cut 144 = .ok (.iload_n 2, 1) := by decide +kernel
theorem d_TT_cut_145 : decode c_TT_cut 145 = .ok (.ireturn, 1) := by decide +kernel
theorem d_TT_erase_0 : decode c_TT_erase 0 = .ok (.aload_n 0, 1) := by decide +kernel
theorem d_TT_erase_1 : decode c_TT_erase 1 = .ok (.iload_n 1, 1) := by decide +kernel
theorem d_TT_erase_2 : decode c_TT_erase 2 = .ok (.invokevirtual 80, 3) := by decide +kernel
theorem d_TT_erase_5 : decode c_TT_erase 5 = .ok (.astore_n 2, 1) := by decide +kernel
theorem d_TT_erase_6 : decode c_TT_erase 6 = .ok (.aload_n 2, 1) := by decide +kernel
theorem d_TT_erase_7 : decode c_TT_erase 7 = .ok (.getfield 90, 3) := by decide +kernel
theorem d_TT_erase_10 : decode c_TT_erase 10 = .ok (.iconst 2, 1) := by decide +kernel
theorem d_TT_erase_11 : decode c_TT_erase 11 = .ok (.if_icmp .eq 13, 3) := by decide +kernel
theorem d_TT_erase_24 : decode c_TT_erase 24 = .ok (.aload_n 0, 1) := by decide +kernel
theorem d_TT_erase_25 : decode c_TT_erase 25 = .ok (.aload_n 2, 1) := by decide +kernel
theorem d_TT_erase_26 : decode c_TT_erase 26 = .ok (.invokevirtual 162, 3) := by decide +kernel
theorem d_TT_erase_29 : decode c_TT_erase 29 = .ok (.ireturn, 1) := by decide +kernel
theorem d_TT_free_0 : decode c_TT_free 0 = .ok (.aload_n 0, 1) := by decide +kernel
theorem d_TT_free_1 : decode c_TT_free 1 = .ok (.getfield 29, 3) := by decide +kernel
theorem d_TT_free_4 : decode c_TT_free 4 = .ok (.invokevirtual 166, 3) := by decide +kernel
theorem d_TT_free_7 : decode c_TT_free 7 = .ok (.ireturn, 1) := by decide +kernel
theorem d_TT_isAhead_0 : decode c_TT_isAhead 0 = .ok (.iload_n 1, 1) := by decide +kernel
theorem d_TT_isAhead_1 : decode c_TT_isAhead 1 = .ok (.aload_n 0, 1) := by decide +kernel
theorem d_TT_isAhead_2 : decode c_TT_isAhead 2 = .ok (.getfield 44, 3) := by decide +kernel
theorem d_TT_isAhead_5 : decode c_TT_isAhead 5 = .ok (.aload_n 0, 1) := by decide +kernel
theorem d_TT_isAhead_6 : decode c_TT_isAhead 6 = .ok (.getfield 44, 3) := by decide +kernel
theorem d_TT_isAhead_9 : decode c_TT_isAhead 9 = .ok (.sipush 1000, 3) := by decide +kernel
theorem d_TT_isAhead_12 : decode c_TT_isAhead 12 = .ok (.iadd, 1) := by decide +kernel
theorem d_TT_isAhead_13 : decode c_TT_isAhead 13 = .ok (.invokestatic 57, 3) := by decide +kernel
theorem d_TT_isAhead_16 : decode c_TT_isAhead 16 = .ok (.ireturn, 1) := by decide +kernel
theorem d_TT_now_0 : decode c_TT_now 0 = .ok (.aload_n 0, 1) := by decide +kernel
theorem d_TT_now_1 : decode c_TT_now 1 = .ok (.getfield 44, 3) := by decide +kernel
theorem d_TT_now_4 : decode c_TT_now 4 = .ok (.ireturn, 1) := by decide +kernel
theorem d_TT_numbered_0 : decode c_TT_numbered 0 = .ok (.iload_n 1, 1) := by decide +kernel
theorem d_TT_numbered_1 : decode c_TT_numbered 1 = .ok (.ifCond .lt 11, 3) := by decide +kernel
theorem d_TT_numbered_4 : decode c_TT_numbered 4 = .ok (.iload_n 1, 1) := by decide +kernel
theorem d_TT_numbered_5 : decode c_TT_numbered 5 = .ok (.aload_n 0, 1) := by decide +kernel
theorem d_TT_numbered_6 : decode c_TT_numbered 6 = .ok (.getfield 40, 3) := by decide +kernel
theorem d_TT_numbered_9 : decode c_TT_numbered 9 = .ok (.if_icmp .lt 13, 3) := by decide +kernel
theorem d_TT_numbered_22 : decode c_TT_numbered 22 = .ok (.aload_n 0, 1) := by decide +kernel
theorem d_TT_numbered_23 : decode c_TT_numbered 23 = .ok (.getfield 11, 3) := by decide +kernel
theorem d_TT_numbered_26 : decode c_TT_numbered 26 = .ok (.iload_n 1, 1) := by decide +kernel
theorem d_TT_numbered_27 : decode c_TT_numbered 27 = .ok (.aaload, 1) := by decide +kernel
theorem d_TT_numbered_28 : decode c_TT_numbered 28 = .ok (.areturn, 1) := by decide +kernel
theorem d_TT_openRequests_0 : decode c_TT_openRequests 0 = .ok (.iconst 0, 1) := by decide +kernel
theorem d_TT_openRequests_1 : decode c_TT_openRequests 1 = .ok (.istore_n 1, 1) := by decide +kernel
theorem d_TT_openRequests_2 : decode c_TT_openRequests 2 = .ok (.iconst 0, 1) := by decide +kernel
theorem d_TT_openRequests_3 : decode c_TT_openRequests 3 = .ok (.istore_n 2, 1) := by decide +kernel
theorem d_TT_openRequests_4 : decode c_TT_openRequests 4 = .ok (.iload_n 2, 1) := by decide +kernel
theorem d_TT_openRequests_5 : decode c_TT_openRequests 5 = .ok (.aload_n 0, 1) := by decide +kernel
theorem d_TT_openRequests_6 : decode c_TT_openRequests 6 = .ok (.getfield 40, 3) := by decide +kernel
theorem d_TT_openRequests_9 : decode c_TT_openRequests 9 = .ok (.if_icmp .ge 24, 3) := by decide +kernel
theorem d_TT_openRequests_12 : decode c_TT_openRequests 12 = .ok (.aload_n 0, 1) := by decide +kernel
theorem d_TT_openRequests_13 : decode c_TT_openRequests 13 = .ok (.getfield 11, 3) := by decide +kernel
theorem d_TT_openRequests_16 : decode c_TT_openRequests 16 = .ok (.iload_n 2, 1) := by decide +kernel
theorem d_TT_openRequests_17 : decode c_TT_openRequests 17 = .ok (.aaload, 1) := by decide +kernel
theorem d_TT_openRequests_18 : decode c_TT_openRequests 18 = .ok (.invokevirtual 84, 3) := by decide +kernel
theorem d_TT_openRequests_21 : decode c_TT_openRequests 21 = .ok (.ifCond .eq 6, 3) := by decide +kernel
theorem d_TT_openRequests_24 : decode c_TT_openRequests 24 = .ok (.iinc 1 1, 3) := by decide +kernel
theorem d_TT_openRequests_27 : decode c_TT_openRequests 27 = .ok (.iinc 2 1, 3) := by decide +kernel
theorem d_TT_openRequests_30 : decode c_TT_openRequests 30 = .ok (.goto (-26), 3) := by decide +kernel
theorem d_TT_openRequests_33 : decode c_TT_openRequests 33 = .ok (.iload_n 1, 1) := by decide +kernel
theorem d_TT_openRequests_34 : decode c_TT_openRequests 34 = .ok (.ireturn, 1) := by decide +kernel
theorem d_TT_planFrom_0 : decode c_TT_planFrom 0 = .ok (.aload_n 0, 1) := by decide +kernel
theorem d_TT_planFrom_1 : decode c_TT_planFrom 1 = .ok (.iload_n 1, 1) := by decide +kernel
theorem d_TT_planFrom_2 : decode c_TT_planFrom 2 = .ok (.invokevirtual 80, 3) := by decide +kernel
theorem d_TT_planFrom_5 : decode c_TT_planFrom 5 = .ok (.astore_n 2, 1) := by decide +kernel
theorem d_TT_planFrom_6 : decode c_TT_planFrom 6 = .ok (.aload_n 2, 1) := by decide +kernel
theorem d_TT_planFrom_7 : decode c_TT_planFrom 7 = .ok (.getfield 90, 3) := by decide +kernel
theorem d_TT_planFrom_10 : decode c_TT_planFrom 10 = .ok (.ifCond .ne 38, 3) := by decide +kernel
theorem d_TT_planFrom_13 : decode c_TT_planFrom 13 = .ok (.aload_n 0, 1) := by decide +kernel
theorem d_TT_planFrom_14 : decode c_TT_planFrom 14 = .ok (.getfield 22, 3) := by decide +kernel
theorem d_TT_planFrom_17 : decode c_TT_planFrom 17 = .ok (.aload_n 0, 1) := by decide +kernel
theorem d_TT_planFrom_18 : decode c_TT_planFrom 18 = .ok (.getfield 11, 3) := by decide +kernel
theorem d_TT_planFrom_21 : decode c_TT_planFrom 21 = .ok (.aload_n 0, 1) := by decide +kernel
theorem d_TT_planFrom_22 : decode c_TT_planFrom 22 = .ok (.getfield 40, 3) := by decide +kernel
theorem d_TT_planFrom_25 : decode c_TT_planFrom 25 = .ok (.aload_n 0, 1) := by decide +kernel
theorem d_TT_planFrom_26 : decode c_TT_planFrom 26 = .ok (.getfield 44, 3) := by decide +kernel
theorem d_TT_planFrom_29 : decode c_TT_planFrom 29 = .ok (.invokevirtual 97, 3) := by decide +kernel
theorem d_TT_planFrom_32 : decode c_TT_planFrom 32 = .ok (.aload_n 2, 1) := by decide +kernel
theorem d_TT_planFrom_33 : decode c_TT_planFrom 33 = .ok (.invokevirtual 101, 3) := by decide +kernel
theorem d_TT_planFrom_36 : decode c_TT_planFrom 36 = .ok (.ifCond .eq 10, 3) := by decide +kernel
theorem d_TT_planFrom_39 : decode c_TT_planFrom 39 = .ok (.aload_n 2, 1) := by decide +kernel
theorem d_TT_planFrom_40 : decode c_TT_planFrom 40 = .ok (.getfield 104, 3) := by decide +kernel
theorem d_TT_planFrom_43 : decode c_TT_planFrom 43 = .ok (.goto 4, 3) := by decide +kernel
theorem d_TT_planFrom_46 : decode c_TT_planFrom 46 = .ok (.iconst (-1), 1) := by decide +kernel
theorem d_TT_planFrom_47 : decode c_TT_planFrom 47 = .ok (.ireturn, 1) := by decide +kernel
theorem d_TT_planFrom_48 : decode c_TT_planFrom 48 = .ok (.aload_n 2, 1) := by decide +kernel
theorem d_TT_planFrom_49 : decode c_TT_planFrom 49 = .ok (.getfield 107, 3) := by decide +kernel
theorem d_TT_planFrom_52 : decode c_TT_planFrom 52 = .ok (.ireturn, 1) := by decide +kernel
theorem d_TT_planTo_0 : decode c_TT_planTo 0 = .ok (.aload_n 0, 1) := by decide +kernel
theorem d_TT_planTo_1 : decode c_TT_planTo 1 = .ok (.iload_n 1, 1) := by decide +kernel
theorem d_TT_planTo_2 : decode c_TT_planTo 2 = .ok (.invokevirtual 80, 3) := by decide +kernel
theorem d_TT_planTo_5 : decode c_TT_planTo 5 = .ok (.astore_n 2, 1) := by decide +kernel
theorem d_TT_planTo_6 : decode c_TT_planTo 6 = .ok (.aload_n 2, 1) := by decide +kernel
theorem d_TT_planTo_7 : decode c_TT_planTo 7 = .ok (.invokevirtual 84, 3) := by decide +kernel
theorem d_TT_planTo_10 : decode c_TT_planTo 10 = .ok (.ifCond .eq 38, 3) := by decide +kernel
theorem d_TT_planTo_13 : decode c_TT_planTo 13 = .ok (.aload_n 0, 1) := by decide +kernel
theorem d_TT_planTo_14 : decode c_TT_planTo 14 = .ok (.getfield 22, 3) := by decide +kernel
theorem d_TT_planTo_17 : decode c_TT_planTo 17 = .ok (.aload_n 0, 1) := by decide +kernel
theorem d_TT_planTo_18 : decode c_TT_planTo 18 = .ok (.getfield 11, 3) := by decide +kernel
theorem d_TT_planTo_21 : decode c_TT_planTo 21 = .ok (.aload_n 0, 1) := by decide +kernel
theorem d_TT_planTo_22 : decode c_TT_planTo 22 = .ok (.getfield 40, 3) := by decide +kernel
theorem d_TT_planTo_25 : decode c_TT_planTo 25 = .ok (.aload_n 0, 1) := by decide +kernel
theorem d_TT_planTo_26 : decode c_TT_planTo 26 = .ok (.getfield 44, 3) := by decide +kernel
theorem d_TT_planTo_29 : decode c_TT_planTo 29 = .ok (.invokevirtual 97, 3) := by decide +kernel
theorem d_TT_planTo_32 : decode c_TT_planTo 32 = .ok (.aload_n 2, 1) := by decide +kernel
theorem d_TT_planTo_33 : decode c_TT_planTo 33 = .ok (.invokevirtual 101, 3) := by decide +kernel
theorem d_TT_planTo_36 : decode c_TT_planTo 36 = .ok (.ifCond .eq 10, 3) := by decide +kernel
theorem d_TT_planTo_39 : decode c_TT_planTo 39 = .ok (.aload_n 2, 1) := by decide +kernel
theorem d_TT_planTo_40 : decode c_TT_planTo 40 = .ok (.getfield 110, 3) := by decide +kernel
theorem d_TT_planTo_43 : decode c_TT_planTo 43 = .ok (.goto 4, 3) := by decide +kernel
theorem d_TT_planTo_46 : decode c_TT_planTo 46 = .ok (.iconst (-1), 1) := by decide +kernel
theorem d_TT_planTo_47 : decode c_TT_planTo 47 = .ok (.ireturn, 1) := by decide +kernel
theorem d_TT_planTo_48 : decode c_TT_planTo 48 = .ok (.aload_n 2, 1) := by decide +kernel
theorem d_TT_planTo_49 : decode c_TT_planTo 49 = .ok (.getfield 113, 3) := by decide +kernel
theorem d_TT_planTo_52 : decode c_TT_planTo 52 = .ok (.ireturn, 1) := by decide +kernel
theorem d_TT_protect_0 : decode c_TT_protect 0 = .ok (.aload_n 0, 1) := by decide +kernel
theorem d_TT_protect_1 : decode c_TT_protect 1 = .ok (.iload_n 1, 1) := by decide +kernel
theorem d_TT_protect_2 : decode c_TT_protect 2 = .ok (.invokevirtual 150, 3) := by decide +kernel
theorem d_TT_protect_5 : decode c_TT_protect 5 = .ok (.iload_n 2, 1) := by decide +kernel
theorem d_TT_protect_6 : decode c_TT_protect 6 = .ok (.putfield 153, 3) := by decide +kernel
theorem d_TT_protect_9 : decode c_TT_protect 9 = .ok (.return_, 1) := by decide +kernel
theorem d_TT_recorded_0 : decode c_TT_recorded 0 = .ok (.aload_n 0, 1) := by decide +kernel
theorem d_TT_recorded_1 : decode c_TT_recorded 1 = .ok (.getfield 29, 3) := by decide +kernel
theorem d_TT_recorded_4 : decode c_TT_recorded 4 = .ok (.aload_n 0, 1) := by decide +kernel
theorem d_TT_recorded_5 : decode c_TT_recorded 5 = .ok (.iload_n 1, 1) := by decide +kernel
theorem d_TT_recorded_6 : decode c_TT_recorded 6 = .ok (.invokevirtual 80, 3) := by decide +kernel
theorem d_TT_recorded_9 : decode c_TT_recorded 9 = .ok (.getfield 137, 3) := by decide +kernel
theorem d_TT_recorded_12 : decode c_TT_recorded 12 = .ok (.invokevirtual 144, 3) := by decide +kernel
theorem d_TT_recorded_15 : decode c_TT_recorded 15 = .ok (.ireturn, 1) := by decide +kernel
theorem d_TT_recordingNumbered_0 : decode c_TT_recordingNumbered 0 = .ok (.aload_n 0, 1) := by decide +kernel
theorem d_TT_recordingNumbered_1 : decode c_TT_recordingNumbered 1 = .ok (.iload_n 1, 1) := by decide +kernel
theorem d_TT_recordingNumbered_2 : decode c_TT_recordingNumbered 2 = .ok (.invokevirtual 80, 3) := by decide +kernel
theorem d_TT_recordingNumbered_5 : decode c_TT_recordingNumbered 5 = .ok (.astore_n 2, 1) := by decide +kernel
theorem d_TT_recordingNumbered_6 : decode c_TT_recordingNumbered 6 = .ok (.aload_n 2, 1) := by decide +kernel
theorem d_TT_recordingNumbered_7 : decode c_TT_recordingNumbered 7 = .ok (.invokevirtual 171, 3) := by decide +kernel
theorem d_TT_recordingNumbered_10 : decode c_TT_recordingNumbered 10 = .ok (.ifCond .ne 13, 3) := by decide +kernel
theorem d_TT_recordingNumbered_23 : decode c_TT_recordingNumbered 23 = .ok (.aload_n 2, 1) := by decide +kernel
theorem d_TT_recordingNumbered_24 : decode c_TT_recordingNumbered 24 = .ok (.areturn, 1) := by decide +kernel
theorem d_TT_seen_0 : decode c_TT_seen 0 = .ok (.aload_n 0, 1) := by decide +kernel
theorem d_TT_seen_1 : decode c_TT_seen 1 = .ok (.iload_n 1, 1) := by decide +kernel
theorem d_TT_seen_2 : decode c_TT_seen 2 = .ok (.invokevirtual 150, 3) := by decide +kernel
theorem d_TT_seen_5 : decode c_TT_seen 5 = .ok (.iload_n 2, 1) := by decide +kernel
theorem d_TT_seen_6 : decode c_TT_seen 6 = .ok (.putfield 157, 3) := by decide +kernel
theorem d_TT_seen_9 : decode c_TT_seen 9 = .ok (.return_, 1) := by decide +kernel
theorem d_TT_shortBy_0 : decode c_TT_shortBy 0 = .ok (.aload_n 0, 1) := by decide +kernel
theorem d_TT_shortBy_1 : decode c_TT_shortBy 1 = .ok (.iload_n 1, 1) := by decide +kernel
theorem d_TT_shortBy_2 : decode c_TT_shortBy 2 = .ok (.invokevirtual 80, 3) := by decide +kernel
theorem d_TT_shortBy_5 : decode c_TT_shortBy 5 = .ok (.getfield 147, 3) := by decide +kernel
theorem d_TT_shortBy_8 : decode c_TT_shortBy 8 = .ok (.ireturn, 1) := by decide +kernel
theorem d_TT_state_0 : decode c_TT_state 0 = .ok (.aload_n 0, 1) := by decide +kernel
theorem d_TT_state_1 : decode c_TT_state 1 = .ok (.iload_n 1, 1) := by decide +kernel
theorem d_TT_state_2 : decode c_TT_state 2 = .ok (.invokevirtual 80, 3) := by decide +kernel
theorem d_TT_state_5 : decode c_TT_state 5 = .ok (.getfield 90, 3) := by decide +kernel
theorem d_TT_state_8 : decode c_TT_state 8 = .ok (.ireturn, 1) := by decide +kernel
theorem d_TT_ticks_0 : decode c_TT_ticks 0 = .ok (.iload_n 1, 1) := by decide +kernel
theorem d_TT_ticks_1 : decode c_TT_ticks 1 = .ok (.iconst 1, 1) := by decide +kernel
theorem d_TT_ticks_2 : decode c_TT_ticks 2 = .ok (.bipush 100, 2) := by decide +kernel
theorem d_TT_ticks_4 : decode c_TT_ticks 4 = .ok (.invokestatic 57, 3) := by decide +kernel
theorem d_TT_ticks_7 : decode c_TT_ticks 7 = .ok (.ifCond .ne 13, 3) := by decide +kernel
theorem d_TT_ticks_20 : decode c_TT_ticks 20 = .ok (.iconst 0, 1) := by decide +kernel
theorem d_TT_ticks_21 : decode c_TT_ticks 21 = .ok (.istore_n 2, 1) := by decide +kernel
theorem d_TT_ticks_22 : decode c_TT_ticks 22 = .ok (.iconst 0, 1) := by decide +kernel
theorem d_TT_ticks_23 : decode c_TT_ticks 23 = .ok (.istore_n 3, 1) := by decide +kernel
theorem d_TT_ticks_24 : decode c_TT_ticks 24 = .ok (.iload_n 3, 1) := by decide +kernel
theorem d_TT_ticks_25 : decode c_TT_ticks 25 = .ok (.iload_n 1, 1) := by decide +kernel
theorem d_TT_ticks_26 : decode c_TT_ticks 26 = .ok (.if_icmp .ge 20, 3) := by decide +kernel
theorem d_TT_ticks_29 : decode c_TT_ticks 29 = .ok (.iload_n 2, 1) := by decide +kernel
theorem d_TT_ticks_30 : decode c_TT_ticks 30 = .ok (.aload_n 0, 1) := by decide +kernel
theorem d_TT_ticks_31 : decode c_TT_ticks 31 = .ok (.aload_n 0, 1) := by decide +kernel
theorem d_TT_ticks_32 : decode c_TT_ticks 32 = .ok (.invokevirtual 121, 3) := by decide +kernel
theorem d_TT_ticks_35 : decode c_TT_ticks 35 = .ok (.invokevirtual 124, 3) := by decide +kernel
theorem d_TT_ticks_38 : decode c_TT_ticks 38 = .ok (.iadd, 1) := by decide +kernel
theorem d_TT_ticks_39 : decode c_TT_ticks 39 = .ok (.istore_n 2, 1) := by decide +kernel
theorem d_TT_ticks_40 : decode c_TT_ticks 40 = .ok (.iinc 3 1, 3) := by decide +kernel
theorem d_TT_ticks_43 : decode c_TT_ticks 43 = .ok (.goto (-19), 3) := by decide +kernel
theorem d_TT_ticks_46 : decode c_TT_ticks 46 = .ok (.iload_n 2, 1) := by decide +kernel
theorem d_TT_ticks_47 : decode c_TT_ticks 47 = .ok (.ireturn, 1) := by decide +kernel
theorem d_TT_watch_0 : decode c_TT_watch 0 = .ok (.iload_n 1, 1) := by decide +kernel
theorem d_TT_watch_1 : decode c_TT_watch 1 = .ok (.iconst (-1), 1) := by decide +kernel
theorem d_TT_watch_2 : decode c_TT_watch 2 = .ok (.if_icmp .eq 20, 3) := by decide +kernel
theorem d_TT_watch_5 : decode c_TT_watch 5 = .ok (.iload_n 1, 1) := by decide +kernel
theorem d_TT_watch_6 : decode c_TT_watch 6 = .ok (.invokestatic 50, 3) := by decide +kernel
theorem d_TT_watch_9 : decode c_TT_watch 9 = .ok (.ifCond .ne 13, 3) := by decide +kernel
theorem d_TT_watch_22 : decode c_TT_watch 22 = .ok (.aload_n 0, 1) := by decide +kernel
theorem d_TT_watch_23 : decode c_TT_watch 23 = .ok (.getfield 47, 3) := by decide +kernel
theorem d_TT_watch_26 : decode c_TT_watch 26 = .ok (.istore_n 2, 1) := by decide +kernel
theorem d_TT_watch_27 : decode c_TT_watch 27 = .ok (.aload_n 0, 1) := by decide +kernel
theorem d_TT_watch_28 : decode c_TT_watch 28 = .ok (.iload_n 1, 1) := by decide +kernel
theorem d_TT_watch_29 : decode c_TT_watch 29 = .ok (.putfield 47, 3) := by decide +kernel
theorem d_TT_watch_32 : decode c_TT_watch 32 = .ok (.aload_n 0, 1) := by decide +kernel
theorem d_TT_watch_33 : decode c_TT_watch 33 = .ok (.getfield 36, 3) := by decide +kernel
theorem d_TT_watch_36 : decode c_TT_watch 36 = .ok (.invokevirtual 130, 3) := by decide +kernel
theorem d_TT_watch_39 : decode c_TT_watch 39 = .ok (.iload_n 2, 1) := by decide +kernel
theorem d_TT_watch_40 : decode c_TT_watch 40 = .ok (.ireturn, 1) := by decide +kernel
theorem d_TT_word_0 : decode c_TT_word 0 = .ok (.aload_n 0, 1) := by decide +kernel
theorem d_TT_word_1 : decode c_TT_word 1 = .ok (.getfield 29, 3) := by decide +kernel
theorem d_TT_word_4 : decode c_TT_word 4 = .ok (.aload_n 0, 1) := by decide +kernel
theorem d_TT_word_5 : decode c_TT_word 5 = .ok (.iload_n 1, 1) := by decide +kernel
theorem d_TT_word_6 : decode c_TT_word 6 = .ok (.invokevirtual 80, 3) := by decide +kernel
theorem d_TT_word_9 : decode c_TT_word 9 = .ok (.getfield 137, 3) := by decide +kernel
theorem d_TT_word_12 : decode c_TT_word 12 = .ok (.iload_n 2, 1) := by decide +kernel
theorem d_TT_word_13 : decode c_TT_word 13 = .ok (.invokevirtual 140, 3) := by decide +kernel
theorem d_TT_word_16 : decode c_TT_word 16 = .ok (.lreturn, 1) := by decide +kernel
/-- the phase of the request in a place -/
def phq (rf : Nat → Nat → Int32) (o : Option Nat) : Int32 := rf (o.getD 0) 8
theorem phq_at {rf : Nat → Nat → Int32} {o : Option Nat} {a : Nat} (h : o = some a) : phq rf o = rf a 8 := by rw [h]; rfl
set_option maxHeartbeats 8000000 in
set_option maxRecDepth 100000 in
theorem k_RQ_isOpen_x (l : Launch) (dC : Nat → ClassId) (dI : Nat → Nat → Nat) (cd : Nat → Nat) (kI kQ : ClassId) (L : List Nat) (isA : Nat → Bool) (bk : Nat → Nat) (sc : Nat → Int32) (ia : Nat → Nat → Int32) (qa : Nat → Nat → Option Nat) (rf ba : Nat → Nat → Int32) (N : Nat) (hC : CI N L isA bk sc qa rf) (a : Nat) (ha : a ∈ L) (hn : isA a = false) : Met l y_RQ_isOpen w_RQ_isOpen ({ frames := 0, cells := 0, slots := 0, locals := 0 }) (rdP (dC, dI) (CW cd kI kQ L isA bk sc ia qa rf ba) (CT kI kQ) [.ref a]) (rQ vI (fun r => ((rf a 8 = 0 ∨ rf a 8 = 1) ∧ r = 1 ∨ ¬ (rf a 8 = 0 ∨ rf a 8 = 1) ∧ r = 0))) 0 0 (fun _ => False) := by
  refine Met.ofW (cc := c_RQ_isOpen) (maxL := 1) (ret := (some .boolean)) (by decide) rfl ?_
  intro p e s m args below meth c s₁ B hml hv
  obtain ⟨rfl, hP, hK⟩ := hv
  have hx := B.exec
  have hb := B.bytes
  have hr := B.returns
  have ht : ∀ w ∈ tb_, w.before _ s = true := fun w h => atoms_spec (ws := w_RQ_isOpen) B.pre w (List.mem_cons_of_mem _ h)
  have hown : s.vm.findClass R_RQ = some m.cls := findClass_of_methodNamed B.named
  have hlocks := B.notSynchronized
  have hP : va_P (dC, dI) cls_ (CW cd kI kQ L isA bk sc ia qa rf ba) s.heap := hP
  have hl := lv_entry ([.ref a]) (n := 1) (Nat.le_of_ble_eq_true rfl)
  rw [lg_entry_eq]
  generalize (lg_sl ([.ref a]) ++ List.replicate (1 - (lg_sl ([.ref a])).length) Slot.unset).toArray = ls at hl ⊢
  have hl : lv_has ls 1 [(0, .ref a)] := hl
  have hN := hC.1.1
  refine lv_aload_n hx hb d_RQ_isOpen_0 rfl (lv_at hl 0 rfl) ?_
  obtain ⟨kq, hkq⟩ := pq_at (X := CX cd kI kQ sc ia qa) (kI := kI) (bk := bk) (rf := rf) (ba := ba) ha hn
  refine va_get (D := (dC, dI)) (ci := 4) (v := .int (rf a 8)) (C := R_RQ) (T := F_RQ) (N := 17) hx hb ht in_RQ hown hK hP kq hkq rfl 8 (by decide) (ht _ tb_391) (fun _ h9 => h9) rfl d_RQ_isOpen_1 ?_
  refine lv_if_eq (tgt := 15) hx hb d_RQ_isOpen_4 (by decide) (fun h4_1 => ?_) (fun h4_1 => ?_)
  · have h4_1 := h4_1
    have i4_1 := ti_eq h4_1
    (try rw [l_0] at i4_1)
    refine lv_iconst (v := 1) hx hb d_RQ_isOpen_15 (by decide) ?_
    refine lv_goto (tgt := 20) hx hb d_RQ_isOpen_16 (by decide) ?_
    have hz0 : ((rf a 8 = 0 ∨ rf a 8 = 1) ∧ (1 : Int32) = 1 ∨ ¬ (rf a 8 = 0 ∨ rf a 8 = 1) ∧ (1 : Int32) = 0) := Or.inl ⟨Or.inl h4_1, rfl⟩
    exact W.zret (v := 1) hx hb hr rfl (fun t ht9 hW => ⟨1, rfl, hz0, ht9⟩) (fun q h => by cases h) d_RQ_isOpen_20
  · have h4_1 := h4_1
    have i4_1 := ti_ne h4_1
    (try rw [l_0] at i4_1)
    refine lv_aload_n hx hb d_RQ_isOpen_7 rfl (lv_at hl 0 rfl) ?_
    obtain ⟨kq, hkq⟩ := pq_at (X := CX cd kI kQ sc ia qa) (kI := kI) (bk := bk) (rf := rf) (ba := ba) ha hn
    refine va_get (D := (dC, dI)) (ci := 4) (v := .int (rf a 8)) (C := R_RQ) (T := F_RQ) (N := 17) hx hb ht in_RQ hown hK hP kq hkq rfl 8 (by decide) (ht _ tb_391) (fun _ h9 => h9) rfl d_RQ_isOpen_8 ?_
    refine lv_iconst (v := 1) hx hb d_RQ_isOpen_11 (by decide) ?_
    refine lv_icmp_ne (tgt := 19) hx hb d_RQ_isOpen_12 (by decide) (fun h12_2 => ?_) (fun h12_2 => ?_)
    · have h12_2 := h12_2
      have i12_2 := ti_ne h12_2
      (try rw [l_1] at i12_2)
      refine lv_iconst (v := 0) hx hb d_RQ_isOpen_19 (by decide) ?_
      have hz0 : ((rf a 8 = 0 ∨ rf a 8 = 1) ∧ (0 : Int32) = 1 ∨ ¬ (rf a 8 = 0 ∨ rf a 8 = 1) ∧ (0 : Int32) = 0) := Or.inr ⟨fun q9 => q9.elim h4_1 h12_2, rfl⟩
      exact W.zret (v := 0) hx hb hr rfl (fun t ht9 hW => ⟨0, rfl, hz0, ht9⟩) (fun q h => by cases h) d_RQ_isOpen_20
    · have h12_2 := h12_2
      have i12_2 := ti_eq h12_2
      (try rw [l_1] at i12_2)
      refine lv_iconst (v := 1) hx hb d_RQ_isOpen_15 (by decide) ?_
      refine lv_goto (tgt := 20) hx hb d_RQ_isOpen_16 (by decide) ?_
      have hz0 : ((rf a 8 = 0 ∨ rf a 8 = 1) ∧ (1 : Int32) = 1 ∨ ¬ (rf a 8 = 0 ∨ rf a 8 = 1) ∧ (1 : Int32) = 0) := Or.inl ⟨Or.inr h12_2, rfl⟩
      exact W.zret (v := 1) hx hb hr rfl (fun t ht9 hW => ⟨1, rfl, hz0, ht9⟩) (fun q h => by cases h) d_RQ_isOpen_20
set_option maxHeartbeats 8000000 in
set_option maxRecDepth 100000 in
theorem k_RQ_isRecording_x (l : Launch) (dC : Nat → ClassId) (dI : Nat → Nat → Nat) (cd : Nat → Nat) (kI kQ : ClassId) (L : List Nat) (isA : Nat → Bool) (bk : Nat → Nat) (sc : Nat → Int32) (ia : Nat → Nat → Int32) (qa : Nat → Nat → Option Nat) (rf ba : Nat → Nat → Int32) (N : Nat) (hC : CI N L isA bk sc qa rf) (a : Nat) (ha : a ∈ L) (hn : isA a = false) : Met l y_RQ_isRecording w_RQ_isRecording ({ frames := 0, cells := 0, slots := 0, locals := 0 }) (rdP (dC, dI) (CW cd kI kQ L isA bk sc ia qa rf ba) (CT kI kQ) [.ref a]) (rQ vI (fun r => ((rf a 8 = 1 ∨ rf a 8 = 2) ∧ r = 1 ∨ ¬ (rf a 8 = 1 ∨ rf a 8 = 2) ∧ r = 0))) 0 0 (fun _ => False) := by
  refine Met.ofW (cc := c_RQ_isRecording) (maxL := 1) (ret := (some .boolean)) (by decide) rfl ?_
  intro p e s m args below meth c s₁ B hml hv
  obtain ⟨rfl, hP, hK⟩ := hv
  have hx := B.exec
  have hb := B.bytes
  have hr := B.returns
  have ht : ∀ w ∈ tb_, w.before _ s = true := fun w h => atoms_spec (ws := w_RQ_isRecording) B.pre w (List.mem_cons_of_mem _ h)
  have hown : s.vm.findClass R_RQ = some m.cls := findClass_of_methodNamed B.named
  have hlocks := B.notSynchronized
  have hP : va_P (dC, dI) cls_ (CW cd kI kQ L isA bk sc ia qa rf ba) s.heap := hP
  have hl := lv_entry ([.ref a]) (n := 1) (Nat.le_of_ble_eq_true rfl)
  rw [lg_entry_eq]
  generalize (lg_sl ([.ref a]) ++ List.replicate (1 - (lg_sl ([.ref a])).length) Slot.unset).toArray = ls at hl ⊢
  have hl : lv_has ls 1 [(0, .ref a)] := hl
  have hN := hC.1.1
  refine lv_aload_n hx hb d_RQ_isRecording_0 rfl (lv_at hl 0 rfl) ?_
  obtain ⟨kq, hkq⟩ := pq_at (X := CX cd kI kQ sc ia qa) (kI := kI) (bk := bk) (rf := rf) (ba := ba) ha hn
  refine va_get (D := (dC, dI)) (ci := 4) (v := .int (rf a 8)) (C := R_RQ) (T := F_RQ) (N := 17) hx hb ht in_RQ hown hK hP kq hkq rfl 8 (by decide) (ht _ tb_391) (fun _ h9 => h9) rfl d_RQ_isRecording_1 ?_
  refine lv_iconst (v := 1) hx hb d_RQ_isRecording_4 (by decide) ?_
  refine lv_icmp_eq (tgt := 16) hx hb d_RQ_isRecording_5 (by decide) (fun h5_1 => ?_) (fun h5_1 => ?_)
  · have h5_1 := h5_1
    have i5_1 := ti_eq h5_1
    (try rw [l_1] at i5_1)
    refine lv_iconst (v := 1) hx hb d_RQ_isRecording_16 (by decide) ?_
    refine lv_goto (tgt := 21) hx hb d_RQ_isRecording_17 (by decide) ?_
    have hz0 : ((rf a 8 = 1 ∨ rf a 8 = 2) ∧ (1 : Int32) = 1 ∨ ¬ (rf a 8 = 1 ∨ rf a 8 = 2) ∧ (1 : Int32) = 0) := Or.inl ⟨Or.inl h5_1, rfl⟩
    exact W.zret (v := 1) hx hb hr rfl (fun t ht9 hW => ⟨1, rfl, hz0, ht9⟩) (fun q h => by cases h) d_RQ_isRecording_21
  · have h5_1 := h5_1
    have i5_1 := ti_ne h5_1
    (try rw [l_1] at i5_1)
    refine lv_aload_n hx hb d_RQ_isRecording_8 rfl (lv_at hl 0 rfl) ?_
    obtain ⟨kq, hkq⟩ := pq_at (X := CX cd kI kQ sc ia qa) (kI := kI) (bk := bk) (rf := rf) (ba := ba) ha hn
    refine va_get (D := (dC, dI)) (ci := 4) (v := .int (rf a 8)) (C := R_RQ) (T := F_RQ) (N := 17) hx hb ht in_RQ hown hK hP kq hkq rfl 8 (by decide) (ht _ tb_391) (fun _ h9 => h9) rfl d_RQ_isRecording_9 ?_
    refine lv_iconst (v := 2) hx hb d_RQ_isRecording_12 (by decide) ?_
    refine lv_icmp_ne (tgt := 20) hx hb d_RQ_isRecording_13 (by decide) (fun h13_2 => ?_) (fun h13_2 => ?_)
    · have h13_2 := h13_2
      have i13_2 := ti_ne h13_2
      (try rw [l_2] at i13_2)
      refine lv_iconst (v := 0) hx hb d_RQ_isRecording_20 (by decide) ?_
      have hz0 : ((rf a 8 = 1 ∨ rf a 8 = 2) ∧ (0 : Int32) = 1 ∨ ¬ (rf a 8 = 1 ∨ rf a 8 = 2) ∧ (0 : Int32) = 0) := Or.inr ⟨fun q9 => q9.elim h5_1 h13_2, rfl⟩
      exact W.zret (v := 0) hx hb hr rfl (fun t ht9 hW => ⟨0, rfl, hz0, ht9⟩) (fun q h => by cases h) d_RQ_isRecording_21
    · have h13_2 := h13_2
      have i13_2 := ti_eq h13_2
      (try rw [l_2] at i13_2)
      refine lv_iconst (v := 1) hx hb d_RQ_isRecording_16 (by decide) ?_
      refine lv_goto (tgt := 21) hx hb d_RQ_isRecording_17 (by decide) ?_
      have hz0 : ((rf a 8 = 1 ∨ rf a 8 = 2) ∧ (1 : Int32) = 1 ∨ ¬ (rf a 8 = 1 ∨ rf a 8 = 2) ∧ (1 : Int32) = 0) := Or.inl ⟨Or.inr h13_2, rfl⟩
      exact W.zret (v := 1) hx hb hr rfl (fun t ht9 hW => ⟨1, rfl, hz0, ht9⟩) (fun q h => by cases h) d_RQ_isRecording_21
set_option maxHeartbeats 8000000 in
set_option maxRecDepth 100000 in
theorem k_TT_openRequests (l : Launch) (dC : Nat → ClassId) (dI : Nat → Nat → Nat) (cd : Nat → Nat) (kI kQ : ClassId) (L : List Nat) (isA : Nat → Bool) (bk : Nat → Nat) (sc : Nat → Int32) (ia : Nat → Nat → Int32) (qa : Nat → Nat → Option Nat) (rf ba : Nat → Nat → Int32) (N : Nat) (hC : CI N L isA bk sc qa rf)  : Met l y_TT_openRequests w_TT_openRequests ({ frames := 1, cells := 0, slots := 0, locals := 20 }) (rdP (dC, dI) (CW cd kI kQ L isA bk sc ia qa rf ba) (CT kI kQ) [.ref (cd 0)]) (rQ vI (fun r => r = nI (oc (fun i => phq rf (qa 0 i)) N))) 0 0 (fun _ => False) := by
  refine Met.ofW (cc := c_TT_openRequests) (maxL := 3) (ret := (some .int)) (by decide) rfl ?_
  intro p e s m args below meth c s₁ B hml hv
  obtain ⟨rfl, hP, hK⟩ := hv
  have hx := B.exec
  have hb := B.bytes
  have hr := B.returns
  have ht : ∀ w ∈ tb_, w.before _ s = true := fun w h => atoms_spec (ws := w_TT_openRequests) B.pre w (List.mem_cons_of_mem _ h)
  have hown : s.vm.findClass R_TT = some m.cls := findClass_of_methodNamed B.named
  have hlocks := B.notSynchronized
  have hP : va_P (dC, dI) cls_ (CW cd kI kQ L isA bk sc ia qa rf ba) s.heap := hP
  have hl := lv_entry ([.ref (cd 0)]) (n := 3) (Nat.le_of_ble_eq_true rfl)
  rw [lg_entry_eq]
  generalize (lg_sl ([.ref (cd 0)]) ++ List.replicate (3 - (lg_sl ([.ref (cd 0)])).length) Slot.unset).toArray = ls at hl ⊢
  have hl : lv_has ls 3 [(0, .ref (cd 0))] := hl
  have hN := hC.1.1
  refine lv_iconst (v := 0) hx hb d_TT_openRequests_0 (by decide) ?_
  refine lv_istore_n hx hb d_TT_openRequests_1 rfl hl (by decide) rfl (fun ls hl => ?_)
  have hl : lv_has ls 3 [(1, .int 0), (0, .ref (cd 0))] := hl
  refine lv_iconst (v := 0) hx hb d_TT_openRequests_2 (by decide) ?_
  refine lv_istore_n hx hb d_TT_openRequests_3 rfl hl (by decide) rfl (fun ls hl => ?_)
  have hl : lv_has ls 3 [(2, .int 0), (1, .int 0), (0, .ref (cd 0))] := hl
  have J_4 : ∀ (n_4 : Nat) (k : Nat)  (ls : Array Slot), N - k < n_4 → k ≤ N → lv_has ls 3 [(2, .int (nI k)), (1, .int (nI (oc (fun i => phq rf (qa 0 i)) k))), (0, .ref (cd 0))] → W p l e (headSpec w_TT_openRequests ({ frames := 1, cells := 0, slots := 0, locals := 20 })).room s m (([.ref (cd 0)] : List Value).toArray) below meth c s.heap [] 0 0 (MQ below (rQ vI (fun r => r = nI (oc (fun i => phq rf (qa 0 i)) N))) (([.ref (cd 0)] : List Value).toArray) s 0 0 (fun _ => False)) (F0 m 4 ls []) := by
    intro n_4
    induction n_4 with
    | zero => intro k ls hmu hc4_0 hl; exact absurd hmu (by omega)
    | succ n_4 ih_4 =>
      intro k ls hmu hc4_0 hl
      refine lv_iload_n hx hb d_TT_openRequests_4 rfl (lv_at hl 0 rfl) ?_
      refine lv_aload_n hx hb d_TT_openRequests_5 rfl (lv_at hl 2 rfl) ?_
      refine va_get (D := (dC, dI)) (ci := 0) (v := .int (sc 0)) (C := R_TT) (T := F_TT) (N := 8) hx hb ht in_TT hown hK hP 0 rfl rfl 5 (by decide) (ht _ tb_80) (fun _ h9 => h9) rfl d_TT_openRequests_6 ?_
      refine W.eq (g2 := F0 m 9 ls [.int (nI N), .int (nI k)]) (by rw [show sc 0 = nI N from hC.1.2]) ?_
      refine lv_icmp_ge (tgt := 33) hx hb d_TT_openRequests_9 (by decide) (fun h9_1 => ?_) (fun h9_1 => ?_)
      · have h9_1 := h9_1
        have i9_1 := ti_le h9_1
        (try rw [nI_toInt (show k < 2 ^ 31 by omega)] at i9_1)
        (try rw [nI_toInt (show N < 2 ^ 31 by omega)] at i9_1)
        refine lv_iload_n hx hb d_TT_openRequests_33 rfl (lv_at hl 1 rfl) ?_
        have hz0 : ((nI (oc (fun i => phq rf (qa 0 i)) k) : Int32)) = nI (oc (fun i => phq rf (qa 0 i)) N) := by rw [show k = N by omega]
        exact W.iret (v := nI (oc (fun i => phq rf (qa 0 i)) k)) hx hb hr (fun t ht9 hW => ⟨nI (oc (fun i => phq rf (qa 0 i)) k), rfl, hz0, ht9⟩) (fun q h => by cases h) d_TT_openRequests_34
      · have h9_1 := h9_1
        have i9_1 := ti_nle h9_1
        (try rw [nI_toInt (show k < 2 ^ 31 by omega)] at i9_1)
        (try rw [nI_toInt (show N < 2 ^ 31 by omega)] at i9_1)
        refine lv_aload_n hx hb d_TT_openRequests_12 rfl (lv_at hl 2 rfl) ?_
        refine va_get (D := (dC, dI)) (ci := 0) (v := .ref (cd 1)) (C := R_TT) (T := F_TT) (N := 8) hx hb ht in_TT hown hK hP 0 rfl rfl 0 (by decide) (ht _ tb_75) (fun _ h9 => h9) rfl d_TT_openRequests_13 ?_
        refine lv_iload_n hx hb d_TT_openRequests_16 rfl (lv_at hl 0 rfl) ?_
        refine va_aldq (C := "TwinTuners$Request") hx hb hK hP 1 1 rfl rfl (vp_in_nI (show k < 40 by omega) (by decide)) d_TT_openRequests_17 ?_
        obtain ⟨a1, ea1, haa1, hna1⟩ := hC.2.2.2.2.2.1 k (by omega)
        refine W.eq (g2 := F0 m 18 ls [.ref a1]) (by rw [nI_clamp (show k < 2 ^ 31 by omega), ea1]; rfl) ?_
        obtain ⟨kq, hkq⟩ := pq_at (X := CX cd kI kQ sc ia qa) (kI := kI) (bk := bk) (rf := rf) (ba := ba) haa1 hna1
        refine r_call (va_runV (C := R_RQ) (As := []) (rest := []) ⟨hx, hb, hml, hown, ht⟩ (k_RQ_isOpen_x l dC dI cd kI kQ L isA bk sc ia qa rf ba N hC a1 haa1 hna1) (cwV 0 ht (gV tb_350 tb_113 tb_114 tb_11 tb_115) rfl rfl rfl (by decide +kernel) ⟨Nat.le_of_ble_eq_true rfl, Nat.le_of_ble_eq_true rfl⟩) ⟨rdP_blind, va_recv (q := (R_RQ, F_RQ, 17)) hK hP rfl hkq, rd_pre hP hK⟩ rfl rfl hl.1 rfl (lv_room (Nat.le_of_ble_eq_true rfl)) d_TT_openRequests_18 ⟨Nat.le_of_ble_eq_true rfl, Nat.le_of_ble_eq_true rfl⟩) (fun r2 hu => ?_)
        have hu2_0 := hu
        have hu2_0 : ((rf a1 8 = 0 ∨ rf a1 8 = 1) ∧ r2 = 1 ∨ ¬ (rf a1 8 = 0 ∨ rf a1 8 = 1) ∧ r2 = 0) := hu2_0
        refine W.eq (g2 := F0 m 21 ls [.int r2]) rfl ?_
        rcases hu2_0 with ⟨hop, rfl⟩ | ⟨hop, rfl⟩
        · refine lv_if_eq (tgt := 27) hx hb d_TT_openRequests_21 (by decide) (fun h9 => absurd h9 (by decide)) (fun _ => ?_)
          refine lv_iinc (k := 1) (v := nI (oc (fun i => phq rf (qa 0 i)) k + 1)) hx hb d_TT_openRequests_24 hl rfl ((nI_succ (oc (fun i => phq rf (qa 0 i)) k)).symm) (by decide) rfl (fun ls hl => ?_)
          have hl : lv_has ls 3 [(1, .int (nI (oc (fun i => phq rf (qa 0 i)) k + 1))), (2, .int (nI k)), (0, .ref (cd 0))] := hl
          have hoc : oc (fun i => phq rf (qa 0 i)) (k + 1) = oc (fun i => phq rf (qa 0 i)) k + (if phq rf (qa 0 k) = 0 ∨ phq rf (qa 0 k) = 1 then 1 else 0) := rfl
          rw [phq_at ea1] at hoc
          rw [if_pos hop] at hoc
          have hl : lv_has ls 3 [(1, .int (nI (oc (fun i => phq rf (qa 0 i)) (k + 1)))), (2, .int (nI k)), (0, .ref (cd 0))] := by rw [hoc]; exact hl
          refine lv_iinc (k := 1) (v := nI (k + 1)) hx hb d_TT_openRequests_27 hl rfl ((nI_succ k).symm) (by decide) rfl (fun ls hl => ?_)
          have hl : lv_has ls 3 [(2, .int (nI (k + 1))), (1, .int (nI (oc (fun i => phq rf (qa 0 i)) (k + 1)))), (0, .ref (cd 0))] := hl
          refine lv_goto (tgt := 4) hx hb d_TT_openRequests_30 (by decide) ?_
          exact ih_4 (k + 1) ls (by omega) (by omega) hl
        · refine lv_if_eq (tgt := 27) hx hb d_TT_openRequests_21 (by decide) (fun _ => ?_) (fun h9 => absurd (by decide) h9)
          have hoc : oc (fun i => phq rf (qa 0 i)) (k + 1) = oc (fun i => phq rf (qa 0 i)) k + (if phq rf (qa 0 k) = 0 ∨ phq rf (qa 0 k) = 1 then 1 else 0) := rfl
          rw [phq_at ea1] at hoc
          rw [if_neg hop, Nat.add_zero] at hoc
          have hl : lv_has ls 3 [(2, .int (nI k)), (1, .int (nI (oc (fun i => phq rf (qa 0 i)) (k + 1)))), (0, .ref (cd 0))] := by rw [hoc]; exact hl
          refine lv_iinc (k := 0) (v := nI (k + 1)) hx hb d_TT_openRequests_27 hl rfl ((nI_succ k).symm) (by decide) rfl (fun ls hl => ?_)
          have hl : lv_has ls 3 [(2, .int (nI (k + 1))), (1, .int (nI (oc (fun i => phq rf (qa 0 i)) (k + 1)))), (0, .ref (cd 0))] := hl
          refine lv_goto (tgt := 4) hx hb d_TT_openRequests_30 (by decide) ?_
          exact ih_4 (k + 1) ls (by omega) (by omega) hl
  have hl := lv_sub hl [0, 1, 2] (l' := [(2, .int 0), (1, .int 0), (0, .ref (cd 0))]) rfl
  have hl : lv_has ls 3 [(2, .int (nI 0)), (1, .int (nI (oc (fun i => phq rf (qa 0 i)) 0))), (0, .ref (cd 0))] := hl
  exact J_4 ((N - 0) + 1) 0 ls (by omega) (by omega) hl
set_option maxHeartbeats 8000000 in
set_option maxRecDepth 100000 in
theorem k_TT_isAhead (l : Launch) (dC : Nat → ClassId) (dI : Nat → Nat → Nat) (cd : Nat → Nat) (kI kQ : ClassId) (L : List Nat) (isA : Nat → Bool) (bk : Nat → Nat) (sc : Nat → Int32) (ia : Nat → Nat → Int32) (qa : Nat → Nat → Option Nat) (rf ba : Nat → Nat → Int32) (N : Nat) (hC : CI N L isA bk sc qa rf) (x : Int32) : Met l y_TT_isAhead w_TT_isAhead ({ frames := 1, cells := 0, slots := 0, locals := 22 }) (rdP (dC, dI) (CW cd kI kQ L isA bk sc ia qa rf ba) (CT kI kQ) [.ref (cd 0), .int x]) (rQ vI (fun r => (((sc 1).toInt ≤ x.toInt ∧ x.toInt ≤ (sc 1 + 1000).toInt) ∧ r = 1 ∨ ¬ ((sc 1).toInt ≤ x.toInt ∧ x.toInt ≤ (sc 1 + 1000).toInt) ∧ r = 0))) 0 0 (fun _ => False) := by
  refine Met.ofW (cc := c_TT_isAhead) (maxL := 2) (ret := (some .boolean)) (by decide) rfl ?_
  intro p e s m args below meth c s₁ B hml hv
  obtain ⟨rfl, hP, hK⟩ := hv
  have hx := B.exec
  have hb := B.bytes
  have hr := B.returns
  have ht : ∀ w ∈ tb_, w.before _ s = true := fun w h => atoms_spec (ws := w_TT_isAhead) B.pre w (List.mem_cons_of_mem _ h)
  have hown : s.vm.findClass R_TT = some m.cls := findClass_of_methodNamed B.named
  have hlocks := B.notSynchronized
  have hP : va_P (dC, dI) cls_ (CW cd kI kQ L isA bk sc ia qa rf ba) s.heap := hP
  have hl := lv_entry ([.ref (cd 0), .int x]) (n := 2) (Nat.le_of_ble_eq_true rfl)
  rw [lg_entry_eq]
  generalize (lg_sl ([.ref (cd 0), .int x]) ++ List.replicate (2 - (lg_sl ([.ref (cd 0), .int x])).length) Slot.unset).toArray = ls at hl ⊢
  have hl : lv_has ls 2 [(0, .ref (cd 0)), (1, .int x)] := hl
  have hN := hC.1.1
  refine lv_iload_n hx hb d_TT_isAhead_0 rfl (lv_at hl 1 rfl) ?_
  refine lv_aload_n hx hb d_TT_isAhead_1 rfl (lv_at hl 0 rfl) ?_
  refine va_get (D := (dC, dI)) (ci := 0) (v := .int (sc 1)) (C := R_TT) (T := F_TT) (N := 8) hx hb ht in_TT hown hK hP 0 rfl rfl 6 (by decide) (ht _ tb_81) (fun _ h9 => h9) rfl d_TT_isAhead_2 ?_
  refine lv_aload_n hx hb d_TT_isAhead_5 rfl (lv_at hl 0 rfl) ?_
  refine va_get (D := (dC, dI)) (ci := 0) (v := .int (sc 1)) (C := R_TT) (T := F_TT) (N := 8) hx hb ht in_TT hown hK hP 0 rfl rfl 6 (by decide) (ht _ tb_81) (fun _ h9 => h9) rfl d_TT_isAhead_6 ?_
  refine lv_sipush (v := 1000) hx hb d_TT_isAhead_9 (by decide) ?_
  refine lv_iadd hx hb d_TT_isAhead_12 ?_
  refine r_call (va_runS (As := [.int x, .int (sc 1), .int ((sc 1) + 1000)]) (rest := []) ⟨hx, hb, hml, hown, ht⟩ (k_TT_isWithin l dC dI x (sc 1) ((sc 1) + 1000)) (va_cwS 3 ht (gS tb_273 tb_226 tb_1 tb_227) rfl rfl rfl (by decide +kernel) ⟨Nat.le_of_ble_eq_true rfl, Nat.le_of_ble_eq_true rfl⟩) ⟨rdP_blind, rd_pre (W0 := []) (tys := []) (fun k q h => by cases h) ⟨hK.1, fun k q h => by cases h⟩⟩ rfl rfl hl.1 rfl (lv_room (Nat.le_of_ble_eq_true rfl)) d_TT_isAhead_13 ⟨Nat.le_of_ble_eq_true rfl, Nat.le_of_ble_eq_true rfl⟩) (fun r1 hu => ?_)
  have hu1_0 := hu
  have hu1_0 : (((sc 1).toInt ≤ x.toInt ∧ x.toInt ≤ ((sc 1) + 1000).toInt) ∧ r1 = 1 ∨ ¬ ((sc 1).toInt ≤ x.toInt ∧ x.toInt ≤ ((sc 1) + 1000).toInt) ∧ r1 = 0) := hu1_0
  refine W.eq (g2 := F0 m 16 ls [.int r1]) rfl ?_
  rcases hu1_0 with ⟨hq, rfl⟩ | ⟨hq, rfl⟩
  · have hz0 : (((sc 1).toInt ≤ x.toInt ∧ x.toInt ≤ (sc 1 + 1000).toInt) ∧ (1 : Int32) = 1 ∨ ¬ ((sc 1).toInt ≤ x.toInt ∧ x.toInt ≤ (sc 1 + 1000).toInt) ∧ (1 : Int32) = 0) := Or.inl ⟨hq, rfl⟩
    exact W.zret (v := 1) hx hb hr rfl (fun t ht9 hW => ⟨1, rfl, hz0, ht9⟩) (fun q h => by cases h) d_TT_isAhead_16
  · have hz0 : (((sc 1).toInt ≤ x.toInt ∧ x.toInt ≤ (sc 1 + 1000).toInt) ∧ (0 : Int32) = 1 ∨ ¬ ((sc 1).toInt ≤ x.toInt ∧ x.toInt ≤ (sc 1 + 1000).toInt) ∧ (0 : Int32) = 0) := Or.inr ⟨hq, rfl⟩
    exact W.zret (v := 0) hx hb hr rfl (fun t ht9 hW => ⟨0, rfl, hz0, ht9⟩) (fun q h => by cases h) d_TT_isAhead_16
set_option maxHeartbeats 8000000 in
set_option maxRecDepth 100000 in
theorem k_TT_numbered_ok (l : Launch) (dC : Nat → ClassId) (dI : Nat → Nat → Nat) (cd : Nat → Nat) (kI kQ : ClassId) (L : List Nat) (isA : Nat → Bool) (bk : Nat → Nat) (sc : Nat → Int32) (ia : Nat → Nat → Int32) (qa : Nat → Nat → Option Nat) (rf ba : Nat → Nat → Int32) (N : Nat) (hC : CI N L isA bk sc qa rf) (j : Nat) (hj : j < N) (a : Nat) (ea : qa 0 j = some a) (ha : a ∈ L) (hn : isA a = false) : Met l y_TT_numbered w_TT_numbered ({ frames := 0, cells := 0, slots := 0, locals := 0 }) (rdP (dC, dI) (CW cd kI kQ L isA bk sc ia qa rf ba) (CT kI kQ) [.ref (cd 0), .int (nI j)]) (rQ vR (fun r => a = r)) 0 0 (fun _ => False) := by
  refine Met.ofW (cc := c_TT_numbered) (maxL := 2) (ret := (some (.object "TwinTuners$Request"))) (by decide) rfl ?_
  intro p e s m args below meth c s₁ B hml hv
  obtain ⟨rfl, hP, hK⟩ := hv
  have hx := B.exec
  have hb := B.bytes
  have hr := B.returns
  have ht : ∀ w ∈ tb_, w.before _ s = true := fun w h => atoms_spec (ws := w_TT_numbered) B.pre w (List.mem_cons_of_mem _ h)
  have hown : s.vm.findClass R_TT = some m.cls := findClass_of_methodNamed B.named
  have hlocks := B.notSynchronized
  have hP : va_P (dC, dI) cls_ (CW cd kI kQ L isA bk sc ia qa rf ba) s.heap := hP
  have hl := lv_entry ([.ref (cd 0), .int (nI j)]) (n := 2) (Nat.le_of_ble_eq_true rfl)
  rw [lg_entry_eq]
  generalize (lg_sl ([.ref (cd 0), .int (nI j)]) ++ List.replicate (2 - (lg_sl ([.ref (cd 0), .int (nI j)])).length) Slot.unset).toArray = ls at hl ⊢
  have hl : lv_has ls 2 [(0, .ref (cd 0)), (1, .int (nI j))] := hl
  have hN := hC.1.1
  refine lv_iload_n hx hb d_TT_numbered_0 rfl (lv_at hl 1 rfl) ?_
  refine lv_if_lt (tgt := 12) hx hb d_TT_numbered_1 (by decide) (fun h1_1 => ?_) (fun h1_1 => ?_)
  · have h1_1 := h1_1
    have i1_1 := ti_lt h1_1
    (try rw [nI_toInt (show j < 2 ^ 31 by omega)] at i1_1)
    (try rw [l_0] at i1_1)
    exact absurd i1_1 (by omega)
  · have h1_1 := h1_1
    have i1_1 := ti_nlt h1_1
    (try rw [nI_toInt (show j < 2 ^ 31 by omega)] at i1_1)
    (try rw [l_0] at i1_1)
    refine lv_iload_n hx hb d_TT_numbered_4 rfl (lv_at hl 1 rfl) ?_
    refine lv_aload_n hx hb d_TT_numbered_5 rfl (lv_at hl 0 rfl) ?_
    refine va_get (D := (dC, dI)) (ci := 0) (v := .int (sc 0)) (C := R_TT) (T := F_TT) (N := 8) hx hb ht in_TT hown hK hP 0 rfl rfl 5 (by decide) (ht _ tb_80) (fun _ h9 => h9) rfl d_TT_numbered_6 ?_
    refine W.eq (g2 := F0 m 9 ls [.int (nI N), .int (nI j)]) (by rw [show sc 0 = nI N from hC.1.2]) ?_
    refine lv_icmp_lt (tgt := 22) hx hb d_TT_numbered_9 (by decide) (fun h9_2 => ?_) (fun h9_2 => ?_)
    · have h9_2 := h9_2
      have i9_2 := ti_lt h9_2
      (try rw [nI_toInt (show j < 2 ^ 31 by omega)] at i9_2)
      (try rw [nI_toInt (show N < 2 ^ 31 by omega)] at i9_2)
      refine lv_aload_n hx hb d_TT_numbered_22 rfl (lv_at hl 0 rfl) ?_
      refine va_get (D := (dC, dI)) (ci := 0) (v := .ref (cd 1)) (C := R_TT) (T := F_TT) (N := 8) hx hb ht in_TT hown hK hP 0 rfl rfl 0 (by decide) (ht _ tb_75) (fun _ h9 => h9) rfl d_TT_numbered_23 ?_
      refine lv_iload_n hx hb d_TT_numbered_26 rfl (lv_at hl 1 rfl) ?_
      refine va_aldq (C := "TwinTuners$Request") hx hb hK hP 1 1 rfl rfl (vp_in_nI (show j < 40 by omega) (by decide)) d_TT_numbered_27 ?_
      obtain ⟨a1, ea1, haa1, hna1⟩ := hC.2.2.2.2.2.1 j (by omega)
      refine W.eq (g2 := F0 m 28 ls [.ref a1]) (by rw [nI_clamp (show j < 2 ^ 31 by omega), ea1]; rfl) ?_
      have hz0 : a = (a1 : Nat) := Option.some.inj (ea.symm.trans ea1)
      exact W.aret (v := .ref a1) hx hb hr (Or.inl ⟨_, rfl⟩) (Or.inr ⟨_, rfl⟩) (fun t ht9 hW => ⟨a1, rfl, hz0, ht9⟩) (fun q h => by cases h) d_TT_numbered_28
    · have h9_2 := h9_2
      have i9_2 := ti_nlt h9_2
      (try rw [nI_toInt (show j < 2 ^ 31 by omega)] at i9_2)
      (try rw [nI_toInt (show N < 2 ^ 31 by omega)] at i9_2)
      exact absurd i9_2 (by omega)
set_option maxHeartbeats 8000000 in
set_option maxRecDepth 100000 in
theorem k_TT_state_ok (l : Launch) (dC : Nat → ClassId) (dI : Nat → Nat → Nat) (cd : Nat → Nat) (kI kQ : ClassId) (L : List Nat) (isA : Nat → Bool) (bk : Nat → Nat) (sc : Nat → Int32) (ia : Nat → Nat → Int32) (qa : Nat → Nat → Option Nat) (rf ba : Nat → Nat → Int32) (N : Nat) (hC : CI N L isA bk sc qa rf) (j : Nat) (hj : j < N) (a : Nat) (ea : qa 0 j = some a) (ha : a ∈ L) (hn : isA a = false) : Met l y_TT_state w_TT_state ({ frames := 1, cells := 0, slots := 0, locals := 21 }) (rdP (dC, dI) (CW cd kI kQ L isA bk sc ia qa rf ba) (CT kI kQ) [.ref (cd 0), .int (nI j)]) (rQ vI (fun r => True)) 0 0 (fun _ => False) := by
  refine Met.ofW (cc := c_TT_state) (maxL := 2) (ret := (some .int)) (by decide) rfl ?_
  intro p e s m args below meth c s₁ B hml hv
  obtain ⟨rfl, hP, hK⟩ := hv
  have hx := B.exec
  have hb := B.bytes
  have hr := B.returns
  have ht : ∀ w ∈ tb_, w.before _ s = true := fun w h => atoms_spec (ws := w_TT_state) B.pre w (List.mem_cons_of_mem _ h)
  have hown : s.vm.findClass R_TT = some m.cls := findClass_of_methodNamed B.named
  have hlocks := B.notSynchronized
  have hP : va_P (dC, dI) cls_ (CW cd kI kQ L isA bk sc ia qa rf ba) s.heap := hP
  have hl := lv_entry ([.ref (cd 0), .int (nI j)]) (n := 2) (Nat.le_of_ble_eq_true rfl)
  rw [lg_entry_eq]
  generalize (lg_sl ([.ref (cd 0), .int (nI j)]) ++ List.replicate (2 - (lg_sl ([.ref (cd 0), .int (nI j)])).length) Slot.unset).toArray = ls at hl ⊢
  have hl : lv_has ls 2 [(0, .ref (cd 0)), (1, .int (nI j))] := hl
  have hN := hC.1.1
  refine lv_aload_n hx hb d_TT_state_0 rfl (lv_at hl 0 rfl) ?_
  refine lv_iload_n hx hb d_TT_state_1 rfl (lv_at hl 1 rfl) ?_
  refine r_call (va_runV (C := R_TT) (As := [.int (nI j)]) (rest := []) ⟨hx, hb, hml, hown, ht⟩ (k_TT_numbered_ok l dC dI cd kI kQ L isA bk sc ia qa rf ba N hC j hj a ea ha hn) (cwV 1 ht (gV tb_456 tb_458 ts_20 tb_1 tb_459) rfl rfl rfl (by decide +kernel) ⟨Nat.le_of_ble_eq_true rfl, Nat.le_of_ble_eq_true rfl⟩) ⟨rdP_blind, va_recv (q := (R_TT, F_TT, 8)) hK hP rfl (show (CW cd kI kQ L isA bk sc ia qa rf ba : va_W)[0]? = some _ from rfl), rd_pre hP hK⟩ rfl rfl hl.1 rfl (lv_room (Nat.le_of_ble_eq_true rfl)) d_TT_state_2 ⟨Nat.le_of_ble_eq_true rfl, Nat.le_of_ble_eq_true rfl⟩) (fun r1 hu => ?_)
  have hu1_0 := hu
  have hu1_0 : a = r1 := hu1_0
  refine W.eq (g2 := F0 m 5 ls [.ref r1]) rfl ?_
  subst hu1_0
  obtain ⟨kq, hkq⟩ := pq_at (X := CX cd kI kQ sc ia qa) (kI := kI) (bk := bk) (rf := rf) (ba := ba) ha hn
  refine va_get (D := (dC, dI)) (ci := 4) (v := .int (rf a 8)) (C := R_RQ) (T := F_RQ) (N := 17) hx hb ht in_RQ hown hK hP kq hkq rfl 8 (by decide) (ht _ tb_392) (fun _ h9 => h9) rfl d_TT_state_5 ?_
  exact W.iret (v := rf a 8) hx hb hr (fun t ht9 hW => ⟨rf a 8, rfl, trivial, ht9⟩) (fun q h => by cases h) d_TT_state_8
set_option maxHeartbeats 8000000 in
set_option maxRecDepth 100000 in
theorem k_TT_shortBy_ok (l : Launch) (dC : Nat → ClassId) (dI : Nat → Nat → Nat) (cd : Nat → Nat) (kI kQ : ClassId) (L : List Nat) (isA : Nat → Bool) (bk : Nat → Nat) (sc : Nat → Int32) (ia : Nat → Nat → Int32) (qa : Nat → Nat → Option Nat) (rf ba : Nat → Nat → Int32) (N : Nat) (hC : CI N L isA bk sc qa rf) (j : Nat) (hj : j < N) (a : Nat) (ea : qa 0 j = some a) (ha : a ∈ L) (hn : isA a = false) : Met l y_TT_shortBy w_TT_shortBy ({ frames := 1, cells := 0, slots := 0, locals := 21 }) (rdP (dC, dI) (CW cd kI kQ L isA bk sc ia qa rf ba) (CT kI kQ) [.ref (cd 0), .int (nI j)]) (rQ vI (fun r => True)) 0 0 (fun _ => False) := by
  refine Met.ofW (cc := c_TT_shortBy) (maxL := 2) (ret := (some .int)) (by decide) rfl ?_
  intro p e s m args below meth c s₁ B hml hv
  obtain ⟨rfl, hP, hK⟩ := hv
  have hx := B.exec
  have hb := B.bytes
  have hr := B.returns
  have ht : ∀ w ∈ tb_, w.before _ s = true := fun w h => atoms_spec (ws := w_TT_shortBy) B.pre w (List.mem_cons_of_mem _ h)
  have hown : s.vm.findClass R_TT = some m.cls := findClass_of_methodNamed B.named
  have hlocks := B.notSynchronized
  have hP : va_P (dC, dI) cls_ (CW cd kI kQ L isA bk sc ia qa rf ba) s.heap := hP
  have hl := lv_entry ([.ref (cd 0), .int (nI j)]) (n := 2) (Nat.le_of_ble_eq_true rfl)
  rw [lg_entry_eq]
  generalize (lg_sl ([.ref (cd 0), .int (nI j)]) ++ List.replicate (2 - (lg_sl ([.ref (cd 0), .int (nI j)])).length) Slot.unset).toArray = ls at hl ⊢
  have hl : lv_has ls 2 [(0, .ref (cd 0)), (1, .int (nI j))] := hl
  have hN := hC.1.1
  refine lv_aload_n hx hb d_TT_shortBy_0 rfl (lv_at hl 0 rfl) ?_
  refine lv_iload_n hx hb d_TT_shortBy_1 rfl (lv_at hl 1 rfl) ?_
  refine r_call (va_runV (C := R_TT) (As := [.int (nI j)]) (rest := []) ⟨hx, hb, hml, hown, ht⟩ (k_TT_numbered_ok l dC dI cd kI kQ L isA bk sc ia qa rf ba N hC j hj a ea ha hn) (cwV 1 ht (gV tb_456 tb_458 ts_20 tb_1 tb_459) rfl rfl rfl (by decide +kernel) ⟨Nat.le_of_ble_eq_true rfl, Nat.le_of_ble_eq_true rfl⟩) ⟨rdP_blind, va_recv (q := (R_TT, F_TT, 8)) hK hP rfl (show (CW cd kI kQ L isA bk sc ia qa rf ba : va_W)[0]? = some _ from rfl), rd_pre hP hK⟩ rfl rfl hl.1 rfl (lv_room (Nat.le_of_ble_eq_true rfl)) d_TT_shortBy_2 ⟨Nat.le_of_ble_eq_true rfl, Nat.le_of_ble_eq_true rfl⟩) (fun r1 hu => ?_)
  have hu1_0 := hu
  have hu1_0 : a = r1 := hu1_0
  refine W.eq (g2 := F0 m 5 ls [.ref r1]) rfl ?_
  subst hu1_0
  obtain ⟨kq, hkq⟩ := pq_at (X := CX cd kI kQ sc ia qa) (kI := kI) (bk := bk) (rf := rf) (ba := ba) ha hn
  refine va_get (D := (dC, dI)) (ci := 4) (v := .int (rf a 13)) (C := R_RQ) (T := F_RQ) (N := 17) hx hb ht in_RQ hown hK hP kq hkq rfl 13 (by decide) (ht _ tb_406) (fun _ h9 => h9) rfl d_TT_shortBy_5 ?_
  exact W.iret (v := rf a 13) hx hb hr (fun t ht9 hW => ⟨rf a 13, rfl, trivial, ht9⟩) (fun q h => by cases h) d_TT_shortBy_8
set_option maxHeartbeats 8000000 in
set_option maxRecDepth 100000 in
theorem k_TT_planFrom_ok (l : Launch) (dC : Nat → ClassId) (dI : Nat → Nat → Nat) (cd : Nat → Nat) (kI kQ : ClassId) (L : List Nat) (isA : Nat → Bool) (bk : Nat → Nat) (sc : Nat → Int32) (ia : Nat → Nat → Int32) (qa : Nat → Nat → Option Nat) (rf ba : Nat → Nat → Int32) (sz Bd : Nat) (N : Nat) (hC : CI N L isA bk sc qa rf) (j : Nat) (hj : j < N) (a : Nat) (ea : qa 0 j = some a) (ha : a ∈ L) (hn : isA a = false) : Met l y_TT_planFrom w_TT_planFrom ({ frames := 6, cells := 0, slots := 0, locals := 140 }) (frP (dC, dI) (CW cd kI kQ L isA bk sc ia qa rf ba) (CT kI kQ) sz Bd [.ref (cd 0), .int (nI j)]) (tQ (dC, dI) (cW cd kI kQ L isA bk) (va_A (CW cd kI kQ L isA bk sc ia qa rf ba) sz) vI (fun r u => same [3] sc u.1 ∧ ia = u.2.1 ∧ ba = u.2.2.2.2 ∧ CI N L isA bk u.1 u.2.2.1 u.2.2.2.1)) 0 0 (va_A (CW cd kI kQ L isA bk sc ia qa rf ba) sz) := by
  refine Met.ofW (cc := c_TT_planFrom) (maxL := 3) (ret := (some .int)) (by decide) rfl ?_
  intro p e s m args below meth c s₁ B hml hv
  obtain ⟨rfl, ⟨hsz, hBs⟩, hP, hK, hD0, hV⟩ := hv
  have hx := B.exec
  have hb := B.bytes
  have hr := B.returns
  have ht : ∀ w ∈ tb_, w.before _ s = true := fun w h => atoms_spec (ws := w_TT_planFrom) B.pre w (List.mem_cons_of_mem _ h)
  have hown : s.vm.findClass R_TT = some m.cls := findClass_of_methodNamed B.named
  have hlocks := B.notSynchronized
  subst hsz
  have hD := hD0.self (sz := s.heap.size)
  have hAB : ∀ q, va_A (CW cd kI kQ L isA bk sc ia qa rf ba) s.heap.size q → Bd ≤ q := fr_AB hD0 hBs
  generalize hAe : va_A (CW cd kI kQ L isA bk sc ia qa rf ba) s.heap.size = A at hD hAB ⊢
  have hA : ∀ q : Nat, s.heap.size ≤ q → A q := fun q h => by rw [← hAe]; exact Or.inr h
  have hS : va_S A s.heap s.heap [] := va_S.rf
  have hs : same [3] sc sc := same.rf
  have hP : va_P (dC, dI) cls_ (CW cd kI kQ L isA bk sc ia qa rf ba) s.heap := hP
  have hl := lv_entry ([.ref (cd 0), .int (nI j)]) (n := 3) (Nat.le_of_ble_eq_true rfl)
  rw [lg_entry_eq]
  generalize (lg_sl ([.ref (cd 0), .int (nI j)]) ++ List.replicate (3 - (lg_sl ([.ref (cd 0), .int (nI j)])).length) Slot.unset).toArray = ls at hl ⊢
  have hl : lv_has ls 3 [(0, .ref (cd 0)), (1, .int (nI j))] := hl
  have hN := hC.1.1
  refine lv_aload_n hx hb d_TT_planFrom_0 rfl (lv_at hl 0 rfl) ?_
  refine lv_iload_n hx hb d_TT_planFrom_1 rfl (lv_at hl 1 rfl) ?_
  refine r_call (va_runV (C := R_TT) (As := [.int (nI j)]) (rest := []) ⟨hx, hb, hml, hown, ht⟩ (k_TT_numbered_ok l dC dI cd kI kQ L isA bk sc ia qa rf ba N hC j hj a ea ha hn) (cwV 1 ht (gV tb_456 tb_458 ts_20 tb_1 tb_459) rfl rfl rfl (by decide +kernel) ⟨Nat.le_of_ble_eq_true rfl, Nat.le_of_ble_eq_true rfl⟩) ⟨rdP_blind, va_recv (q := (R_TT, F_TT, 8)) hK hP rfl (show (CW cd kI kQ L isA bk sc ia qa rf ba : va_W)[0]? = some _ from rfl), rd_pre hP hK⟩ rfl rfl hl.1 rfl (lv_room (Nat.le_of_ble_eq_true rfl)) d_TT_planFrom_2 ⟨Nat.le_of_ble_eq_true rfl, Nat.le_of_ble_eq_true rfl⟩) (fun r1 hu => ?_)
  have hu1_0 := hu
  have hu1_0 : a = r1 := hu1_0
  refine W.eq (g2 := F0 m 5 ls [.ref r1]) rfl ?_
  subst hu1_0
  refine lv_astore_n hx hb d_TT_planFrom_5 rfl hl (by decide) rfl (fun ls hl => ?_)
  have hl : lv_has ls 3 [(2, .ref a), (0, .ref (cd 0)), (1, .int (nI j))] := hl
  refine lv_aload_n hx hb d_TT_planFrom_6 rfl (lv_at hl 0 rfl) ?_
  obtain ⟨kq, hkq⟩ := pq_at (X := CX cd kI kQ sc ia qa) (kI := kI) (bk := bk) (rf := rf) (ba := ba) ha hn
  refine va_get (D := (dC, dI)) (ci := 4) (v := .int (rf a 8)) (C := R_RQ) (T := F_RQ) (N := 17) hx hb ht in_RQ hown hK hP kq hkq rfl 8 (by decide) (ht _ tb_392) (fun _ h9 => h9) rfl d_TT_planFrom_7 ?_
  refine lv_if_ne (tgt := 48) hx hb d_TT_planFrom_10 (by decide) (fun h10_1 => ?_) (fun h10_1 => ?_)
  · have h10_1 := h10_1
    have i10_1 := ti_ne h10_1
    (try rw [l_0] at i10_1)
    refine lv_aload_n hx hb d_TT_planFrom_48 rfl (lv_at hl 0 rfl) ?_
    obtain ⟨kq, hkq⟩ := pq_at (X := CX cd kI kQ sc ia qa) (kI := kI) (bk := bk) (rf := rf) (ba := ba) ha hn
    refine va_get (D := (dC, dI)) (ci := 4) (v := .int (rf a 9)) (C := R_RQ) (T := F_RQ) (N := 17) hx hb ht in_RQ hown hK hP kq hkq rfl 9 (by decide) (ht _ tb_395) (fun _ h9 => h9) rfl d_TT_planFrom_49 ?_
    exact W.iret (v := rf a 9) hx hb hr (fun t ht9 hW => ⟨⟨rf a 9, (sc, ia, qa, rf, ba), rfl, ⟨hs, rfl, rfl, hC⟩, by rw [ht9]; exact hP, hD⟩, hS.F ht9⟩) hS.2.2 d_TT_planFrom_52
  · have h10_1 := h10_1
    have i10_1 := ti_eq h10_1
    (try rw [l_0] at i10_1)
    refine lv_aload_n hx hb d_TT_planFrom_13 rfl (lv_at hl 1 rfl) ?_
    refine va_get (D := (dC, dI)) (ci := 0) (v := .ref (cd 3)) (C := R_TT) (T := F_TT) (N := 8) hx hb ht in_TT hown hK hP 0 rfl rfl 2 (by decide) (ht _ tb_77) (fun _ h9 => h9) rfl d_TT_planFrom_14 ?_
    refine lv_aload_n hx hb d_TT_planFrom_17 rfl (lv_at hl 1 rfl) ?_
    refine va_get (D := (dC, dI)) (ci := 0) (v := .ref (cd 1)) (C := R_TT) (T := F_TT) (N := 8) hx hb ht in_TT hown hK hP 0 rfl rfl 0 (by decide) (ht _ tb_75) (fun _ h9 => h9) rfl d_TT_planFrom_18 ?_
    refine lv_aload_n hx hb d_TT_planFrom_21 rfl (lv_at hl 1 rfl) ?_
    refine va_get (D := (dC, dI)) (ci := 0) (v := .int (sc 0)) (C := R_TT) (T := F_TT) (N := 8) hx hb ht in_TT hown hK hP 0 rfl rfl 5 (by decide) (ht _ tb_80) (fun _ h9 => h9) rfl d_TT_planFrom_22 ?_
    refine W.eq (g2 := F0 m 25 ls [.int (nI N), .ref (cd 1), .ref (cd 3)]) (by rw [show sc 0 = nI N from hC.1.2]) ?_
    refine lv_aload_n hx hb d_TT_planFrom_25 rfl (lv_at hl 1 rfl) ?_
    refine va_get (D := (dC, dI)) (ci := 0) (v := .int (sc 1)) (C := R_TT) (T := F_TT) (N := 8) hx hb ht in_TT hown hK hP 0 rfl rfl 6 (by decide) (ht _ tb_81) (fun _ h9 => h9) rfl d_TT_planFrom_26 ?_
    refine t_call (u0 := (sc, ia, qa, rf, ba)) (va_runV (C := R_PL) (As := [.ref (cd 1), .int (nI N), .int (sc 1)]) (rest := []) ⟨hx, hb, hml, hown, ht⟩ (k_PL_make l dC dI cd kI kQ L isA bk sc ia qa rf ba s.heap.size Bd N hC (sc 1)) (cwV 3 ht (gV tb_108 tb_109 tb_110 tb_2 tb_111) rfl rfl rfl (by decide +kernel) ⟨Nat.le_of_ble_eq_true rfl, Nat.le_of_ble_eq_true rfl⟩) ⟨frP_blind, va_recv (q := (R_PL, F_PL, 2)) hK hP rfl (show (CW cd kI kQ L isA bk sc ia qa rf ba : va_W)[3]? = some _ from rfl), fr_pre hP hK hD hAB hBs hS hV⟩ rfl rfl hl.1 rfl (lv_room (Nat.le_of_ble_eq_true rfl)) d_TT_planFrom_29 ⟨Nat.le_of_ble_eq_true rfl, Nat.le_of_ble_eq_true rfl⟩) hD hS hA (fun r2 u H locs hu hP hD hS => ?_)
    obtain ⟨sc3, ia4, qa5, rf6, ba7⟩ := u
    obtain ⟨hu2_0, hu2_1, hu2_2, hu2_3⟩ := hu
    have hu2_0 : same [3] sc sc3 := hu2_0
    have hu2_1 : ia = ia4 := hu2_1
    have hu2_2 : ba = ba7 := hu2_2
    have hu2_3 : CI N L isA bk sc3 qa5 rf6 := hu2_3
    subst hu2_1
    subst hu2_2
    have hu2_0 : same [3] sc sc3 := hu2_0
    have hP : va_P (dC, dI) cls_ (CW cd kI kQ L isA bk sc3 ia qa5 rf6 ba) H := hP
    have hD : va_D A (CW cd kI kQ L isA bk sc3 ia qa5 rf6 ba) := hD
    have hC : CI N L isA bk sc3 qa5 rf6 := hu2_3
    have hs : same [3] sc sc3 := hs.tr (hu2_0.wk (by decide))
    refine W.eq (g2 := F0 m 32 ls []) rfl ?_
    refine W.cs (cells' := 0) (slots' := 0) rfl rfl ?_
    refine lv_aload_n hx hb d_TT_planFrom_32 rfl (lv_at hl 0 rfl) ?_
    obtain ⟨kq, hkq⟩ := pq_at (X := CX cd kI kQ sc3 ia qa5) (kI := kI) (bk := bk) (rf := rf6) (ba := ba) ha hn
    refine r_call (va_runV (C := R_RQ) (As := []) (rest := []) ⟨hx, hb, hml, hown, ht⟩ (k_RQ_isPlanned l dC dI cd kI kQ L isA bk sc3 ia qa5 rf6 ba N hC a ha hn) (cwV 0 ht (gV tb_495 tb_159 tb_160 tb_11 tb_161) rfl rfl rfl (by decide +kernel) ⟨Nat.le_of_ble_eq_true rfl, Nat.le_of_ble_eq_true rfl⟩) ⟨rdP_blind, va_recv (q := (R_RQ, F_RQ, 17)) hK hP rfl hkq, rd_pre hP hK⟩ rfl rfl hl.1 rfl (lv_room (Nat.le_of_ble_eq_true rfl)) d_TT_planFrom_33 ⟨Nat.le_of_ble_eq_true rfl, Nat.le_of_ble_eq_true rfl⟩) (fun r8 hu => ?_)
    clear hu
    refine W.eq (g2 := F0 m 36 ls [.int r8]) rfl ?_
    refine lv_if_eq (tgt := 46) hx hb d_TT_planFrom_36 (by decide) (fun h36_2 => ?_) (fun h36_2 => ?_)
    · have h36_2 := h36_2
      have i36_2 := ti_eq h36_2
      (try rw [l_0] at i36_2)
      refine lv_iconst (v := -1) hx hb d_TT_planFrom_46 (by decide) ?_
      exact W.iret (v := -1) hx hb hr (fun t ht9 hW => ⟨⟨-1, (sc3, ia, qa5, rf6, ba), rfl, ⟨hs, rfl, rfl, hC⟩, by rw [ht9]; exact hP, hD⟩, hS.F ht9⟩) hS.2.2 d_TT_planFrom_47
    · have h36_2 := h36_2
      have i36_2 := ti_ne h36_2
      (try rw [l_0] at i36_2)
      refine lv_aload_n hx hb d_TT_planFrom_39 rfl (lv_at hl 0 rfl) ?_
      obtain ⟨kq, hkq⟩ := pq_at (X := CX cd kI kQ sc3 ia qa5) (kI := kI) (bk := bk) (rf := rf6) (ba := ba) ha hn
      refine va_get (D := (dC, dI)) (ci := 4) (v := .int (rf6 a 11)) (C := R_RQ) (T := F_RQ) (N := 17) hx hb ht in_RQ hown hK hP kq hkq rfl 11 (by decide) (ht _ tb_400) (fun _ h9 => h9) rfl d_TT_planFrom_40 ?_
      refine lv_goto (tgt := 47) hx hb d_TT_planFrom_43 (by decide) ?_
      exact W.iret (v := rf6 a 11) hx hb hr (fun t ht9 hW => ⟨⟨rf6 a 11, (sc3, ia, qa5, rf6, ba), rfl, ⟨hs, rfl, rfl, hC⟩, by rw [ht9]; exact hP, hD⟩, hS.F ht9⟩) hS.2.2 d_TT_planFrom_47
set_option maxHeartbeats 8000000 in
set_option maxRecDepth 100000 in
theorem k_TT_planTo_ok (l : Launch) (dC : Nat → ClassId) (dI : Nat → Nat → Nat) (cd : Nat → Nat) (kI kQ : ClassId) (L : List Nat) (isA : Nat → Bool) (bk : Nat → Nat) (sc : Nat → Int32) (ia : Nat → Nat → Int32) (qa : Nat → Nat → Option Nat) (rf ba : Nat → Nat → Int32) (sz Bd : Nat) (N : Nat) (hC : CI N L isA bk sc qa rf) (j : Nat) (hj : j < N) (a : Nat) (ea : qa 0 j = some a) (ha : a ∈ L) (hn : isA a = false) : Met l y_TT_planTo w_TT_planTo ({ frames := 6, cells := 0, slots := 0, locals := 140 }) (frP (dC, dI) (CW cd kI kQ L isA bk sc ia qa rf ba) (CT kI kQ) sz Bd [.ref (cd 0), .int (nI j)]) (tQ (dC, dI) (cW cd kI kQ L isA bk) (va_A (CW cd kI kQ L isA bk sc ia qa rf ba) sz) vI (fun r u => same [3] sc u.1 ∧ ia = u.2.1 ∧ ba = u.2.2.2.2 ∧ CI N L isA bk u.1 u.2.2.1 u.2.2.2.1)) 0 0 (va_A (CW cd kI kQ L isA bk sc ia qa rf ba) sz) := by
  refine Met.ofW (cc := c_TT_planTo) (maxL := 3) (ret := (some .int)) (by decide) rfl ?_
  intro p e s m args below meth c s₁ B hml hv
  obtain ⟨rfl, ⟨hsz, hBs⟩, hP, hK, hD0, hV⟩ := hv
  have hx := B.exec
  have hb := B.bytes
  have hr := B.returns
  have ht : ∀ w ∈ tb_, w.before _ s = true := fun w h => atoms_spec (ws := w_TT_planTo) B.pre w (List.mem_cons_of_mem _ h)
  have hown : s.vm.findClass R_TT = some m.cls := findClass_of_methodNamed B.named
  have hlocks := B.notSynchronized
  subst hsz
  have hD := hD0.self (sz := s.heap.size)
  have hAB : ∀ q, va_A (CW cd kI kQ L isA bk sc ia qa rf ba) s.heap.size q → Bd ≤ q := fr_AB hD0 hBs
  generalize hAe : va_A (CW cd kI kQ L isA bk sc ia qa rf ba) s.heap.size = A at hD hAB ⊢
  have hA : ∀ q : Nat, s.heap.size ≤ q → A q := fun q h => by rw [← hAe]; exact Or.inr h
  have hS : va_S A s.heap s.heap [] := va_S.rf
  have hs : same [3] sc sc := same.rf
  have hP : va_P (dC, dI) cls_ (CW cd kI kQ L isA bk sc ia qa rf ba) s.heap := hP
  have hl := lv_entry ([.ref (cd 0), .int (nI j)]) (n := 3) (Nat.le_of_ble_eq_true rfl)
  rw [lg_entry_eq]
  generalize (lg_sl ([.ref (cd 0), .int (nI j)]) ++ List.replicate (3 - (lg_sl ([.ref (cd 0), .int (nI j)])).length) Slot.unset).toArray = ls at hl ⊢
  have hl : lv_has ls 3 [(0, .ref (cd 0)), (1, .int (nI j))] := hl
  have hN := hC.1.1
  refine lv_aload_n hx hb d_TT_planTo_0 rfl (lv_at hl 0 rfl) ?_
  refine lv_iload_n hx hb d_TT_planTo_1 rfl (lv_at hl 1 rfl) ?_
  refine r_call (va_runV (C := R_TT) (As := [.int (nI j)]) (rest := []) ⟨hx, hb, hml, hown, ht⟩ (k_TT_numbered_ok l dC dI cd kI kQ L isA bk sc ia qa rf ba N hC j hj a ea ha hn) (cwV 1 ht (gV tb_456 tb_458 ts_20 tb_1 tb_459) rfl rfl rfl (by decide +kernel) ⟨Nat.le_of_ble_eq_true rfl, Nat.le_of_ble_eq_true rfl⟩) ⟨rdP_blind, va_recv (q := (R_TT, F_TT, 8)) hK hP rfl (show (CW cd kI kQ L isA bk sc ia qa rf ba : va_W)[0]? = some _ from rfl), rd_pre hP hK⟩ rfl rfl hl.1 rfl (lv_room (Nat.le_of_ble_eq_true rfl)) d_TT_planTo_2 ⟨Nat.le_of_ble_eq_true rfl, Nat.le_of_ble_eq_true rfl⟩) (fun r1 hu => ?_)
  have hu1_0 := hu
  have hu1_0 : a = r1 := hu1_0
  refine W.eq (g2 := F0 m 5 ls [.ref r1]) rfl ?_
  subst hu1_0
  refine lv_astore_n hx hb d_TT_planTo_5 rfl hl (by decide) rfl (fun ls hl => ?_)
  have hl : lv_has ls 3 [(2, .ref a), (0, .ref (cd 0)), (1, .int (nI j))] := hl
  refine lv_aload_n hx hb d_TT_planTo_6 rfl (lv_at hl 0 rfl) ?_
  obtain ⟨kq, hkq⟩ := pq_at (X := CX cd kI kQ sc ia qa) (kI := kI) (bk := bk) (rf := rf) (ba := ba) ha hn
  refine r_call (va_runV (C := R_RQ) (As := []) (rest := []) ⟨hx, hb, hml, hown, ht⟩ (k_RQ_isOpen l dC dI cd kI kQ L isA bk sc ia qa rf ba N hC a ha hn) (cwV 0 ht (gV tb_350 tb_113 tb_114 tb_11 tb_115) rfl rfl rfl (by decide +kernel) ⟨Nat.le_of_ble_eq_true rfl, Nat.le_of_ble_eq_true rfl⟩) ⟨rdP_blind, va_recv (q := (R_RQ, F_RQ, 17)) hK hP rfl hkq, rd_pre hP hK⟩ rfl rfl hl.1 rfl (lv_room (Nat.le_of_ble_eq_true rfl)) d_TT_planTo_7 ⟨Nat.le_of_ble_eq_true rfl, Nat.le_of_ble_eq_true rfl⟩) (fun r2 hu => ?_)
  clear hu
  refine W.eq (g2 := F0 m 10 ls [.int r2]) rfl ?_
  refine lv_if_eq (tgt := 48) hx hb d_TT_planTo_10 (by decide) (fun h10_1 => ?_) (fun h10_1 => ?_)
  · have h10_1 := h10_1
    have i10_1 := ti_eq h10_1
    (try rw [l_0] at i10_1)
    refine lv_aload_n hx hb d_TT_planTo_48 rfl (lv_at hl 0 rfl) ?_
    obtain ⟨kq, hkq⟩ := pq_at (X := CX cd kI kQ sc ia qa) (kI := kI) (bk := bk) (rf := rf) (ba := ba) ha hn
    refine va_get (D := (dC, dI)) (ci := 4) (v := .int (rf a 10)) (C := R_RQ) (T := F_RQ) (N := 17) hx hb ht in_RQ hown hK hP kq hkq rfl 10 (by decide) (ht _ tb_398) (fun _ h9 => h9) rfl d_TT_planTo_49 ?_
    exact W.iret (v := rf a 10) hx hb hr (fun t ht9 hW => ⟨⟨rf a 10, (sc, ia, qa, rf, ba), rfl, ⟨hs, rfl, rfl, hC⟩, by rw [ht9]; exact hP, hD⟩, hS.F ht9⟩) hS.2.2 d_TT_planTo_52
  · have h10_1 := h10_1
    have i10_1 := ti_ne h10_1
    (try rw [l_0] at i10_1)
    refine lv_aload_n hx hb d_TT_planTo_13 rfl (lv_at hl 1 rfl) ?_
    refine va_get (D := (dC, dI)) (ci := 0) (v := .ref (cd 3)) (C := R_TT) (T := F_TT) (N := 8) hx hb ht in_TT hown hK hP 0 rfl rfl 2 (by decide) (ht _ tb_77) (fun _ h9 => h9) rfl d_TT_planTo_14 ?_
    refine lv_aload_n hx hb d_TT_planTo_17 rfl (lv_at hl 1 rfl) ?_
    refine va_get (D := (dC, dI)) (ci := 0) (v := .ref (cd 1)) (C := R_TT) (T := F_TT) (N := 8) hx hb ht in_TT hown hK hP 0 rfl rfl 0 (by decide) (ht _ tb_75) (fun _ h9 => h9) rfl d_TT_planTo_18 ?_
    refine lv_aload_n hx hb d_TT_planTo_21 rfl (lv_at hl 1 rfl) ?_
    refine va_get (D := (dC, dI)) (ci := 0) (v := .int (sc 0)) (C := R_TT) (T := F_TT) (N := 8) hx hb ht in_TT hown hK hP 0 rfl rfl 5 (by decide) (ht _ tb_80) (fun _ h9 => h9) rfl d_TT_planTo_22 ?_
    refine W.eq (g2 := F0 m 25 ls [.int (nI N), .ref (cd 1), .ref (cd 3)]) (by rw [show sc 0 = nI N from hC.1.2]) ?_
    refine lv_aload_n hx hb d_TT_planTo_25 rfl (lv_at hl 1 rfl) ?_
    refine va_get (D := (dC, dI)) (ci := 0) (v := .int (sc 1)) (C := R_TT) (T := F_TT) (N := 8) hx hb ht in_TT hown hK hP 0 rfl rfl 6 (by decide) (ht _ tb_81) (fun _ h9 => h9) rfl d_TT_planTo_26 ?_
    refine t_call (u0 := (sc, ia, qa, rf, ba)) (va_runV (C := R_PL) (As := [.ref (cd 1), .int (nI N), .int (sc 1)]) (rest := []) ⟨hx, hb, hml, hown, ht⟩ (k_PL_make l dC dI cd kI kQ L isA bk sc ia qa rf ba s.heap.size Bd N hC (sc 1)) (cwV 3 ht (gV tb_108 tb_109 tb_110 tb_2 tb_111) rfl rfl rfl (by decide +kernel) ⟨Nat.le_of_ble_eq_true rfl, Nat.le_of_ble_eq_true rfl⟩) ⟨frP_blind, va_recv (q := (R_PL, F_PL, 2)) hK hP rfl (show (CW cd kI kQ L isA bk sc ia qa rf ba : va_W)[3]? = some _ from rfl), fr_pre hP hK hD hAB hBs hS hV⟩ rfl rfl hl.1 rfl (lv_room (Nat.le_of_ble_eq_true rfl)) d_TT_planTo_29 ⟨Nat.le_of_ble_eq_true rfl, Nat.le_of_ble_eq_true rfl⟩) hD hS hA (fun r3 u H locs hu hP hD hS => ?_)
    obtain ⟨sc4, ia5, qa6, rf7, ba8⟩ := u
    obtain ⟨hu3_0, hu3_1, hu3_2, hu3_3⟩ := hu
    have hu3_0 : same [3] sc sc4 := hu3_0
    have hu3_1 : ia = ia5 := hu3_1
    have hu3_2 : ba = ba8 := hu3_2
    have hu3_3 : CI N L isA bk sc4 qa6 rf7 := hu3_3
    subst hu3_1
    subst hu3_2
    have hu3_0 : same [3] sc sc4 := hu3_0
    have hP : va_P (dC, dI) cls_ (CW cd kI kQ L isA bk sc4 ia qa6 rf7 ba) H := hP
    have hD : va_D A (CW cd kI kQ L isA bk sc4 ia qa6 rf7 ba) := hD
    have hC : CI N L isA bk sc4 qa6 rf7 := hu3_3
    have hs : same [3] sc sc4 := hs.tr (hu3_0.wk (by decide))
    refine W.eq (g2 := F0 m 32 ls []) rfl ?_
    refine W.cs (cells' := 0) (slots' := 0) rfl rfl ?_
    refine lv_aload_n hx hb d_TT_planTo_32 rfl (lv_at hl 0 rfl) ?_
    obtain ⟨kq, hkq⟩ := pq_at (X := CX cd kI kQ sc4 ia qa6) (kI := kI) (bk := bk) (rf := rf7) (ba := ba) ha hn
    refine r_call (va_runV (C := R_RQ) (As := []) (rest := []) ⟨hx, hb, hml, hown, ht⟩ (k_RQ_isPlanned l dC dI cd kI kQ L isA bk sc4 ia qa6 rf7 ba N hC a ha hn) (cwV 0 ht (gV tb_495 tb_159 tb_160 tb_11 tb_161) rfl rfl rfl (by decide +kernel) ⟨Nat.le_of_ble_eq_true rfl, Nat.le_of_ble_eq_true rfl⟩) ⟨rdP_blind, va_recv (q := (R_RQ, F_RQ, 17)) hK hP rfl hkq, rd_pre hP hK⟩ rfl rfl hl.1 rfl (lv_room (Nat.le_of_ble_eq_true rfl)) d_TT_planTo_33 ⟨Nat.le_of_ble_eq_true rfl, Nat.le_of_ble_eq_true rfl⟩) (fun r9 hu => ?_)
    clear hu
    refine W.eq (g2 := F0 m 36 ls [.int r9]) rfl ?_
    refine lv_if_eq (tgt := 46) hx hb d_TT_planTo_36 (by decide) (fun h36_2 => ?_) (fun h36_2 => ?_)
    · have h36_2 := h36_2
      have i36_2 := ti_eq h36_2
      (try rw [l_0] at i36_2)
      refine lv_iconst (v := -1) hx hb d_TT_planTo_46 (by decide) ?_
      exact W.iret (v := -1) hx hb hr (fun t ht9 hW => ⟨⟨-1, (sc4, ia, qa6, rf7, ba), rfl, ⟨hs, rfl, rfl, hC⟩, by rw [ht9]; exact hP, hD⟩, hS.F ht9⟩) hS.2.2 d_TT_planTo_47
    · have h36_2 := h36_2
      have i36_2 := ti_ne h36_2
      (try rw [l_0] at i36_2)
      refine lv_aload_n hx hb d_TT_planTo_39 rfl (lv_at hl 0 rfl) ?_
      obtain ⟨kq, hkq⟩ := pq_at (X := CX cd kI kQ sc4 ia qa6) (kI := kI) (bk := bk) (rf := rf7) (ba := ba) ha hn
      refine va_get (D := (dC, dI)) (ci := 4) (v := .int (rf7 a 12)) (C := R_RQ) (T := F_RQ) (N := 17) hx hb ht in_RQ hown hK hP kq hkq rfl 12 (by decide) (ht _ tb_403) (fun _ h9 => h9) rfl d_TT_planTo_40 ?_
      refine lv_goto (tgt := 47) hx hb d_TT_planTo_43 (by decide) ?_
      exact W.iret (v := rf7 a 12) hx hb hr (fun t ht9 hW => ⟨⟨rf7 a 12, (sc4, ia, qa6, rf7, ba), rfl, ⟨hs, rfl, rfl, hC⟩, by rw [ht9]; exact hP, hD⟩, hS.F ht9⟩) hS.2.2 d_TT_planTo_47
set_option maxHeartbeats 8000000 in
set_option maxRecDepth 100000 in
theorem k_TT_word_ok (l : Launch) (dC : Nat → ClassId) (dI : Nat → Nat → Nat) (cd : Nat → Nat) (kI kQ : ClassId) (L : List Nat) (isA : Nat → Bool) (bk : Nat → Nat) (sc : Nat → Int32) (ia : Nat → Nat → Int32) (qa : Nat → Nat → Option Nat) (rf ba : Nat → Nat → Int32) (N : Nat) (hC : CI N L isA bk sc qa rf) (j : Nat) (hj : j < N) (a : Nat) (ea : qa 0 j = some a) (ha : a ∈ L) (hn : isA a = false) (x : Int32) : Met l y_TT_word w_TT_word ({ frames := 2, cells := 0, slots := 0, locals := 47 }) (rdP (dC, dI) (CW cd kI kQ L isA bk sc ia qa rf ba) (CT kI kQ) [.ref (cd 0), .int (nI j), .int x]) (rQ vJ (fun r => True)) 0 0 (fun _ => False) := by
  refine Met.ofW (cc := c_TT_word) (maxL := 3) (ret := (some .long)) (by decide) rfl ?_
  intro p e s m args below meth c s₁ B hml hv
  obtain ⟨rfl, hP, hK⟩ := hv
  have hx := B.exec
  have hb := B.bytes
  have hr := B.returns
  have ht : ∀ w ∈ tb_, w.before _ s = true := fun w h => atoms_spec (ws := w_TT_word) B.pre w (List.mem_cons_of_mem _ h)
  have hown : s.vm.findClass R_TT = some m.cls := findClass_of_methodNamed B.named
  have hlocks := B.notSynchronized
  have hP : va_P (dC, dI) cls_ (CW cd kI kQ L isA bk sc ia qa rf ba) s.heap := hP
  have hl := lv_entry ([.ref (cd 0), .int (nI j), .int x]) (n := 3) (Nat.le_of_ble_eq_true rfl)
  rw [lg_entry_eq]
  generalize (lg_sl ([.ref (cd 0), .int (nI j), .int x]) ++ List.replicate (3 - (lg_sl ([.ref (cd 0), .int (nI j), .int x])).length) Slot.unset).toArray = ls at hl ⊢
  have hl : lv_has ls 3 [(0, .ref (cd 0)), (1, .int (nI j)), (2, .int x)] := hl
  have hN := hC.1.1
  refine lv_aload_n hx hb d_TT_word_0 rfl (lv_at hl 0 rfl) ?_
  refine va_get (D := (dC, dI)) (ci := 0) (v := .ref (cd 5)) (C := R_TT) (T := F_TT) (N := 8) hx hb ht in_TT hown hK hP 0 rfl rfl 3 (by decide) (ht _ tb_78) (fun _ h9 => h9) rfl d_TT_word_1 ?_
  refine lv_aload_n hx hb d_TT_word_4 rfl (lv_at hl 0 rfl) ?_
  refine lv_iload_n hx hb d_TT_word_5 rfl (lv_at hl 1 rfl) ?_
  refine r_call (va_runV (C := R_TT) (As := [.int (nI j)]) (rest := [.ref (cd 5)]) ⟨hx, hb, hml, hown, ht⟩ (k_TT_numbered_ok l dC dI cd kI kQ L isA bk sc ia qa rf ba N hC j hj a ea ha hn) (cwV 1 ht (gV tb_456 tb_458 ts_20 tb_1 tb_459) rfl rfl rfl (by decide +kernel) ⟨Nat.le_of_ble_eq_true rfl, Nat.le_of_ble_eq_true rfl⟩) ⟨rdP_blind, va_recv (q := (R_TT, F_TT, 8)) hK hP rfl (show (CW cd kI kQ L isA bk sc ia qa rf ba : va_W)[0]? = some _ from rfl), rd_pre hP hK⟩ rfl rfl hl.1 rfl (lv_room (Nat.le_of_ble_eq_true rfl)) d_TT_word_6 ⟨Nat.le_of_ble_eq_true rfl, Nat.le_of_ble_eq_true rfl⟩) (fun r1 hu => ?_)
  have hu1_0 := hu
  have hu1_0 : a = r1 := hu1_0
  refine W.eq (g2 := F0 m 9 ls [.ref r1, .ref (cd 5)]) rfl ?_
  subst hu1_0
  obtain ⟨kq, hkq⟩ := pq_at (X := CX cd kI kQ sc ia qa) (kI := kI) (bk := bk) (rf := rf) (ba := ba) ha hn
  refine va_get (D := (dC, dI)) (ci := 4) (v := .int (rf a 0)) (C := R_RQ) (T := F_RQ) (N := 17) hx hb ht in_RQ hown hK hP kq hkq rfl 0 (by decide) (ht _ tb_373) (fun _ h9 => h9) rfl d_TT_word_9 ?_
  refine lv_iload_n hx hb d_TT_word_12 rfl (lv_at hl 2 rfl) ?_
  refine r_call (va_runV (C := R_DK) (As := [.int (rf a 0), .int x]) (rest := []) ⟨hx, hb, hml, hown, ht⟩ (k_DK_wordOf l dC dI cd kI kQ L isA bk sc ia qa rf ba N hC (rf a 0) x) (cwV 2 ht (gV tb_533 tb_534 tb_535 tb_3 tb_536) rfl rfl rfl (by decide +kernel) ⟨Nat.le_of_ble_eq_true rfl, Nat.le_of_ble_eq_true rfl⟩) ⟨rdP_blind, va_recv (q := (R_DK, F_DK, 4)) hK hP rfl (show (CW cd kI kQ L isA bk sc ia qa rf ba : va_W)[5]? = some _ from rfl), rd_pre hP hK⟩ rfl rfl hl.1 rfl (lv_room (Nat.le_of_ble_eq_true rfl)) d_TT_word_13 ⟨Nat.le_of_ble_eq_true rfl, Nat.le_of_ble_eq_true rfl⟩) (fun r2 hu => ?_)
  clear hu
  refine W.eq (g2 := F0 m 16 ls [.long r2]) rfl ?_
  exact W.lret (v := r2) hx hb hr (fun t ht9 hW => ⟨r2, rfl, trivial, ht9⟩) (fun q h => by cases h) d_TT_word_16
set_option maxHeartbeats 8000000 in
set_option maxRecDepth 100000 in
theorem k_TT_recorded_ok (l : Launch) (dC : Nat → ClassId) (dI : Nat → Nat → Nat) (cd : Nat → Nat) (kI kQ : ClassId) (L : List Nat) (isA : Nat → Bool) (bk : Nat → Nat) (sc : Nat → Int32) (ia : Nat → Nat → Int32) (qa : Nat → Nat → Option Nat) (rf ba : Nat → Nat → Int32) (N : Nat) (hC : CI N L isA bk sc qa rf) (j : Nat) (hj : j < N) (a : Nat) (ea : qa 0 j = some a) (ha : a ∈ L) (hn : isA a = false) : Met l y_TT_recorded w_TT_recorded ({ frames := 2, cells := 0, slots := 0, locals := 43 }) (rdP (dC, dI) (CW cd kI kQ L isA bk sc ia qa rf ba) (CT kI kQ) [.ref (cd 0), .int (nI j)]) (rQ vI (fun r => True)) 0 0 (fun _ => False) := by
  refine Met.ofW (cc := c_TT_recorded) (maxL := 2) (ret := (some .int)) (by decide) rfl ?_
  intro p e s m args below meth c s₁ B hml hv
  obtain ⟨rfl, hP, hK⟩ := hv
  have hx := B.exec
  have hb := B.bytes
  have hr := B.returns
  have ht : ∀ w ∈ tb_, w.before _ s = true := fun w h => atoms_spec (ws := w_TT_recorded) B.pre w (List.mem_cons_of_mem _ h)
  have hown : s.vm.findClass R_TT = some m.cls := findClass_of_methodNamed B.named
  have hlocks := B.notSynchronized
  have hP : va_P (dC, dI) cls_ (CW cd kI kQ L isA bk sc ia qa rf ba) s.heap := hP
  have hl := lv_entry ([.ref (cd 0), .int (nI j)]) (n := 2) (Nat.le_of_ble_eq_true rfl)
  rw [lg_entry_eq]
  generalize (lg_sl ([.ref (cd 0), .int (nI j)]) ++ List.replicate (2 - (lg_sl ([.ref (cd 0), .int (nI j)])).length) Slot.unset).toArray = ls at hl ⊢
  have hl : lv_has ls 2 [(0, .ref (cd 0)), (1, .int (nI j))] := hl
  have hN := hC.1.1
  refine lv_aload_n hx hb d_TT_recorded_0 rfl (lv_at hl 0 rfl) ?_
  refine va_get (D := (dC, dI)) (ci := 0) (v := .ref (cd 5)) (C := R_TT) (T := F_TT) (N := 8) hx hb ht in_TT hown hK hP 0 rfl rfl 3 (by decide) (ht _ tb_78) (fun _ h9 => h9) rfl d_TT_recorded_1 ?_
  refine lv_aload_n hx hb d_TT_recorded_4 rfl (lv_at hl 0 rfl) ?_
  refine lv_iload_n hx hb d_TT_recorded_5 rfl (lv_at hl 1 rfl) ?_
  refine r_call (va_runV (C := R_TT) (As := [.int (nI j)]) (rest := [.ref (cd 5)]) ⟨hx, hb, hml, hown, ht⟩ (k_TT_numbered_ok l dC dI cd kI kQ L isA bk sc ia qa rf ba N hC j hj a ea ha hn) (cwV 1 ht (gV tb_456 tb_458 ts_20 tb_1 tb_459) rfl rfl rfl (by decide +kernel) ⟨Nat.le_of_ble_eq_true rfl, Nat.le_of_ble_eq_true rfl⟩) ⟨rdP_blind, va_recv (q := (R_TT, F_TT, 8)) hK hP rfl (show (CW cd kI kQ L isA bk sc ia qa rf ba : va_W)[0]? = some _ from rfl), rd_pre hP hK⟩ rfl rfl hl.1 rfl (lv_room (Nat.le_of_ble_eq_true rfl)) d_TT_recorded_6 ⟨Nat.le_of_ble_eq_true rfl, Nat.le_of_ble_eq_true rfl⟩) (fun r1 hu => ?_)
  have hu1_0 := hu
  have hu1_0 : a = r1 := hu1_0
  refine W.eq (g2 := F0 m 9 ls [.ref r1, .ref (cd 5)]) rfl ?_
  subst hu1_0
  obtain ⟨kq, hkq⟩ := pq_at (X := CX cd kI kQ sc ia qa) (kI := kI) (bk := bk) (rf := rf) (ba := ba) ha hn
  refine va_get (D := (dC, dI)) (ci := 4) (v := .int (rf a 0)) (C := R_RQ) (T := F_RQ) (N := 17) hx hb ht in_RQ hown hK hP kq hkq rfl 0 (by decide) (ht _ tb_373) (fun _ h9 => h9) rfl d_TT_recorded_9 ?_
  refine r_call (va_runV (C := R_DK) (As := [.int (rf a 0)]) (rest := []) ⟨hx, hb, hml, hown, ht⟩ (k_DK_secondsOf l dC dI cd kI kQ L isA bk sc ia qa rf ba N hC (rf a 0)) (cwV 1 ht (gV tb_547 tb_548 tb_549 tb_3 tb_550) rfl rfl rfl (by decide +kernel) ⟨Nat.le_of_ble_eq_true rfl, Nat.le_of_ble_eq_true rfl⟩) ⟨rdP_blind, va_recv (q := (R_DK, F_DK, 4)) hK hP rfl (show (CW cd kI kQ L isA bk sc ia qa rf ba : va_W)[5]? = some _ from rfl), rd_pre hP hK⟩ rfl rfl hl.1 rfl (lv_room (Nat.le_of_ble_eq_true rfl)) d_TT_recorded_12 ⟨Nat.le_of_ble_eq_true rfl, Nat.le_of_ble_eq_true rfl⟩) (fun r2 hu => ?_)
  clear hu
  refine W.eq (g2 := F0 m 15 ls [.int r2]) rfl ?_
  exact W.iret (v := r2) hx hb hr (fun t ht9 hW => ⟨r2, rfl, trivial, ht9⟩) (fun q h => by cases h) d_TT_recorded_15
set_option maxHeartbeats 8000000 in
set_option maxRecDepth 100000 in
theorem k_TT_cancel_ok (l : Launch) (dC : Nat → ClassId) (dI : Nat → Nat → Nat) (cd : Nat → Nat) (kI kQ : ClassId) (L : List Nat) (isA : Nat → Bool) (bk : Nat → Nat) (sc : Nat → Int32) (ia : Nat → Nat → Int32) (qa : Nat → Nat → Option Nat) (rf ba : Nat → Nat → Int32) (sz Bd : Nat) (N : Nat) (hC : CI N L isA bk sc qa rf) (j : Nat) (hj : j < N) (a : Nat) (ea : qa 0 j = some a) (ha : a ∈ L) (hn : isA a = false) (hp : rf a 8 = 0 ∨ rf a 8 = 1) : Met l y_TT_cancel w_TT_cancel ({ frames := 1, cells := 0, slots := 0, locals := 21 }) (frP (dC, dI) (CW cd kI kQ L isA bk sc ia qa rf ba) (CT kI kQ) sz Bd [.ref (cd 0), .int (nI j)]) (tQ (dC, dI) (cW cd kI kQ L isA bk) (va_A (CW cd kI kQ L isA bk sc ia qa rf ba) sz) vN (fun r u => sc = u.1 ∧ ia = u.2.1 ∧ qa = u.2.2.1 ∧ ba = u.2.2.2.2 ∧ CI N L isA bk u.1 u.2.2.1 u.2.2.2.1)) 0 0 (va_A (CW cd kI kQ L isA bk sc ia qa rf ba) sz) := by
  refine Met.ofW (cc := c_TT_cancel) (maxL := 3) (ret := none) (by decide) rfl ?_
  intro p e s m args below meth c s₁ B hml hv
  obtain ⟨rfl, ⟨hsz, hBs⟩, hP, hK, hD0, hV⟩ := hv
  have hx := B.exec
  have hb := B.bytes
  have hr := B.returns
  have ht : ∀ w ∈ tb_, w.before _ s = true := fun w h => atoms_spec (ws := w_TT_cancel) B.pre w (List.mem_cons_of_mem _ h)
  have hown : s.vm.findClass R_TT = some m.cls := findClass_of_methodNamed B.named
  have hlocks := B.notSynchronized
  subst hsz
  have hD := hD0.self (sz := s.heap.size)
  have hAB : ∀ q, va_A (CW cd kI kQ L isA bk sc ia qa rf ba) s.heap.size q → Bd ≤ q := fr_AB hD0 hBs
  generalize hAe : va_A (CW cd kI kQ L isA bk sc ia qa rf ba) s.heap.size = A at hD hAB ⊢
  have hA : ∀ q : Nat, s.heap.size ≤ q → A q := fun q h => by rw [← hAe]; exact Or.inr h
  have hS : va_S A s.heap s.heap [] := va_S.rf
  have hs : same [] sc sc := same.rf
  have hP : va_P (dC, dI) cls_ (CW cd kI kQ L isA bk sc ia qa rf ba) s.heap := hP
  have hl := lv_entry ([.ref (cd 0), .int (nI j)]) (n := 3) (Nat.le_of_ble_eq_true rfl)
  rw [lg_entry_eq]
  generalize (lg_sl ([.ref (cd 0), .int (nI j)]) ++ List.replicate (3 - (lg_sl ([.ref (cd 0), .int (nI j)])).length) Slot.unset).toArray = ls at hl ⊢
  have hl : lv_has ls 3 [(0, .ref (cd 0)), (1, .int (nI j))] := hl
  have hN := hC.1.1
  refine lv_aload_n hx hb d_TT_cancel_0 rfl (lv_at hl 0 rfl) ?_
  refine lv_iload_n hx hb d_TT_cancel_1 rfl (lv_at hl 1 rfl) ?_
  refine r_call (va_runV (C := R_TT) (As := [.int (nI j)]) (rest := []) ⟨hx, hb, hml, hown, ht⟩ (k_TT_numbered_ok l dC dI cd kI kQ L isA bk sc ia qa rf ba N hC j hj a ea ha hn) (cwV 1 ht (gV tb_456 tb_458 ts_20 tb_1 tb_459) rfl rfl rfl (by decide +kernel) ⟨Nat.le_of_ble_eq_true rfl, Nat.le_of_ble_eq_true rfl⟩) ⟨rdP_blind, va_recv (q := (R_TT, F_TT, 8)) hK hP rfl (show (CW cd kI kQ L isA bk sc ia qa rf ba : va_W)[0]? = some _ from rfl), rd_pre hP hK⟩ rfl rfl hl.1 rfl (lv_room (Nat.le_of_ble_eq_true rfl)) d_TT_cancel_2 ⟨Nat.le_of_ble_eq_true rfl, Nat.le_of_ble_eq_true rfl⟩) (fun r1 hu => ?_)
  have hu1_0 := hu
  have hu1_0 : a = r1 := hu1_0
  refine W.eq (g2 := F0 m 5 ls [.ref r1]) rfl ?_
  subst hu1_0
  refine lv_astore_n hx hb d_TT_cancel_5 rfl hl (by decide) rfl (fun ls hl => ?_)
  have hl : lv_has ls 3 [(2, .ref a), (0, .ref (cd 0)), (1, .int (nI j))] := hl
  refine lv_aload_n hx hb d_TT_cancel_6 rfl (lv_at hl 0 rfl) ?_
  obtain ⟨kq, hkq⟩ := pq_at (X := CX cd kI kQ sc ia qa) (kI := kI) (bk := bk) (rf := rf) (ba := ba) ha hn
  refine r_call (va_runV (C := R_RQ) (As := []) (rest := []) ⟨hx, hb, hml, hown, ht⟩ (k_RQ_isOpen_x l dC dI cd kI kQ L isA bk sc ia qa rf ba N hC a ha hn) (cwV 0 ht (gV tb_350 tb_113 tb_114 tb_11 tb_115) rfl rfl rfl (by decide +kernel) ⟨Nat.le_of_ble_eq_true rfl, Nat.le_of_ble_eq_true rfl⟩) ⟨rdP_blind, va_recv (q := (R_RQ, F_RQ, 17)) hK hP rfl hkq, rd_pre hP hK⟩ rfl rfl hl.1 rfl (lv_room (Nat.le_of_ble_eq_true rfl)) d_TT_cancel_7 ⟨Nat.le_of_ble_eq_true rfl, Nat.le_of_ble_eq_true rfl⟩) (fun r2 hu => ?_)
  have hu2_0 := hu
  have hu2_0 : ((rf a 8 = 0 ∨ rf a 8 = 1) ∧ r2 = 1 ∨ ¬ (rf a 8 = 0 ∨ rf a 8 = 1) ∧ r2 = 0) := hu2_0
  refine W.eq (g2 := F0 m 10 ls [.int r2]) rfl ?_
  obtain rfl : r2 = 1 := by rcases hu2_0 with ⟨_, q⟩ | ⟨q, _⟩; { exact q }; { exact absurd hp q }
  refine lv_if_ne (tgt := 23) hx hb d_TT_cancel_10 (by decide) (fun _ => ?_) (fun h9 => absurd h9 (by decide))
  refine lv_aload_n hx hb d_TT_cancel_23 rfl (lv_at hl 0 rfl) ?_
  obtain ⟨kq, hkq⟩ := pq_at (X := CX cd kI kQ sc ia qa) (kI := kI) (bk := bk) (rf := rf) (ba := ba) ha hn
  refine va_get (D := (dC, dI)) (ci := 4) (v := .int (rf a 8)) (C := R_RQ) (T := F_RQ) (N := 17) hx hb ht in_RQ hown hK hP kq hkq rfl 8 (by decide) (ht _ tb_392) (fun _ h9 => h9) rfl d_TT_cancel_24 ?_
  refine lv_iconst (v := 1) hx hb d_TT_cancel_27 (by decide) ?_
  refine lv_icmp_ne (tgt := 42) hx hb d_TT_cancel_28 (by decide) (fun h28_1 => ?_) (fun h28_1 => ?_)
  · have h28_1 := h28_1
    have i28_1 := ti_ne h28_1
    (try rw [l_1] at i28_1)
    refine lv_aload_n hx hb d_TT_cancel_42 rfl (lv_at hl 0 rfl) ?_
    refine lv_iconst (v := 4) hx hb d_TT_cancel_43 (by decide) ?_
    obtain ⟨kq, hkq⟩ := pq_at (X := CX cd kI kQ sc ia qa) (kI := kI) (bk := bk) (rf := rf) (ba := ba) ha hn
    have hD0 := hD
    refine va_put (D := (dC, dI)) (ci := 4) (v := .int 4) (ty := .int) (C := R_RQ) (T := F_RQ) (N := 17) hx hb ht in_RQ t_RQ t_RQ_ok n_RQ hown hK hP hD hS kq hkq rfl 8 (by decide) (ht _ tb_392) (fun _ h9 => h9) rfl (by decide +kernel) rfl rfl (Nat.le_of_ble_eq_true rfl) d_TT_cancel_44 (fun H locs hP hD hS => ?_)
    rw [pq_set hD0 ha hn hkq rfl] at hP hD
    have hP : va_P (dC, dI) cls_ (CW cd kI kQ L isA bk sc ia qa (va_up rf a (va_up (rf a) 8 4)) ba) H := hP
    have hD : va_D A (CW cd kI kQ L isA bk sc ia qa (va_up rf a (va_up (rf a) 8 4)) ba) := hD
    obtain ⟨rf3, erf3⟩ : ∃ q9_, q9_ = va_up rf a (va_up (rf a) 8 4) := ⟨_, rfl⟩
    rw [← erf3] at hP hD
    have hC : CI N L isA bk sc qa rf3 := by rw [erf3]; exact CI_r hC (by decide) (Or.inl (by decide))
    exact W.vret hx hb hr (fun t ht9 hW => ⟨⟨(), (sc, ia, qa, rf3, ba), rfl, ⟨rfl, rfl, rfl, rfl, hC⟩, by rw [ht9]; exact hP, hD⟩, hS.F ht9⟩) hS.2.2 d_TT_cancel_47
  · have h28_1 := h28_1
    have i28_1 := ti_eq h28_1
    (try rw [l_1] at i28_1)
    refine lv_aload_n hx hb d_TT_cancel_31 rfl (lv_at hl 0 rfl) ?_
    refine lv_aload_n hx hb d_TT_cancel_32 rfl (lv_at hl 1 rfl) ?_
    refine va_get (D := (dC, dI)) (ci := 0) (v := .int (sc 1)) (C := R_TT) (T := F_TT) (N := 8) hx hb ht in_TT hown hK hP 0 rfl rfl 6 (by decide) (ht _ tb_81) (fun _ h9 => h9) rfl d_TT_cancel_33 ?_
    obtain ⟨kq, hkq⟩ := pq_at (X := CX cd kI kQ sc ia qa) (kI := kI) (bk := bk) (rf := rf) (ba := ba) ha hn
    refine t_call (u0 := (sc, ia, qa, rf, ba)) (va_runV (C := R_RQ) (As := [.int (sc 1)]) (rest := []) ⟨hx, hb, hml, hown, ht⟩ (k_RQ_finishAt l dC dI cd kI kQ L isA bk sc ia qa rf ba s.heap.size Bd N hC a ha hn (sc 1)) (cwV 1 ht (gV tb_477 tb_478 tb_479 tb_11 tb_480) rfl rfl rfl (by decide +kernel) ⟨Nat.le_of_ble_eq_true rfl, Nat.le_of_ble_eq_true rfl⟩) ⟨frP_blind, va_recv (q := (R_RQ, F_RQ, 17)) hK hP rfl hkq, fr_pre hP hK hD hAB hBs hS hV⟩ rfl rfl hl.1 rfl (lv_room (Nat.le_of_ble_eq_true rfl)) d_TT_cancel_36 ⟨Nat.le_of_ble_eq_true rfl, Nat.le_of_ble_eq_true rfl⟩) hD hS hA (fun r4 u H locs hu hP hD hS => ?_)
    obtain ⟨sc5, ia6, qa7, rf8, ba9⟩ := u
    obtain ⟨hu4_0, hu4_1, hu4_2, hu4_3, hu4_4⟩ := hu
    have hu4_0 : sc = sc5 := hu4_0
    have hu4_1 : ia = ia6 := hu4_1
    have hu4_2 : qa = qa7 := hu4_2
    have hu4_3 : ba = ba9 := hu4_3
    have hu4_4 : CI N L isA bk sc5 qa7 rf8 := hu4_4
    subst hu4_0
    subst hu4_1
    subst hu4_2
    subst hu4_3
    have hP : va_P (dC, dI) cls_ (CW cd kI kQ L isA bk sc ia qa rf8 ba) H := hP
    have hD : va_D A (CW cd kI kQ L isA bk sc ia qa rf8 ba) := hD
    have hC : CI N L isA bk sc qa rf8 := hu4_4
    refine W.eq (g2 := F0 m 39 ls []) rfl ?_
    refine W.cs (cells' := 0) (slots' := 0) rfl rfl ?_
    refine lv_goto (tgt := 47) hx hb d_TT_cancel_39 (by decide) ?_
    exact W.vret hx hb hr (fun t ht9 hW => ⟨⟨(), (sc, ia, qa, rf8, ba), rfl, ⟨rfl, rfl, rfl, rfl, hC⟩, by rw [ht9]; exact hP, hD⟩, hS.F ht9⟩) hS.2.2 d_TT_cancel_47
set_option maxHeartbeats 8000000 in
set_option maxRecDepth 100000 in
theorem k_TT_recordingNumbered_ok (l : Launch) (dC : Nat → ClassId) (dI : Nat → Nat → Nat) (cd : Nat → Nat) (kI kQ : ClassId) (L : List Nat) (isA : Nat → Bool) (bk : Nat → Nat) (sc : Nat → Int32) (ia : Nat → Nat → Int32) (qa : Nat → Nat → Option Nat) (rf ba : Nat → Nat → Int32) (N : Nat) (hC : CI N L isA bk sc qa rf) (j : Nat) (hj : j < N) (a : Nat) (ea : qa 0 j = some a) (ha : a ∈ L) (hn : isA a = false) (hp : rf a 8 = 1 ∨ rf a 8 = 2) : Met l y_TT_recordingNumbered w_TT_recordingNumbered ({ frames := 1, cells := 0, slots := 0, locals := 21 }) (rdP (dC, dI) (CW cd kI kQ L isA bk sc ia qa rf ba) (CT kI kQ) [.ref (cd 0), .int (nI j)]) (rQ vR (fun r => a = r)) 0 0 (fun _ => False) := by
  refine Met.ofW (cc := c_TT_recordingNumbered) (maxL := 3) (ret := (some (.object "TwinTuners$Request"))) (by decide) rfl ?_
  intro p e s m args below meth c s₁ B hml hv
  obtain ⟨rfl, hP, hK⟩ := hv
  have hx := B.exec
  have hb := B.bytes
  have hr := B.returns
  have ht : ∀ w ∈ tb_, w.before _ s = true := fun w h => atoms_spec (ws := w_TT_recordingNumbered) B.pre w (List.mem_cons_of_mem _ h)
  have hown : s.vm.findClass R_TT = some m.cls := findClass_of_methodNamed B.named
  have hlocks := B.notSynchronized
  have hP : va_P (dC, dI) cls_ (CW cd kI kQ L isA bk sc ia qa rf ba) s.heap := hP
  have hl := lv_entry ([.ref (cd 0), .int (nI j)]) (n := 3) (Nat.le_of_ble_eq_true rfl)
  rw [lg_entry_eq]
  generalize (lg_sl ([.ref (cd 0), .int (nI j)]) ++ List.replicate (3 - (lg_sl ([.ref (cd 0), .int (nI j)])).length) Slot.unset).toArray = ls at hl ⊢
  have hl : lv_has ls 3 [(0, .ref (cd 0)), (1, .int (nI j))] := hl
  have hN := hC.1.1
  refine lv_aload_n hx hb d_TT_recordingNumbered_0 rfl (lv_at hl 0 rfl) ?_
  refine lv_iload_n hx hb d_TT_recordingNumbered_1 rfl (lv_at hl 1 rfl) ?_
  refine r_call (va_runV (C := R_TT) (As := [.int (nI j)]) (rest := []) ⟨hx, hb, hml, hown, ht⟩ (k_TT_numbered_ok l dC dI cd kI kQ L isA bk sc ia qa rf ba N hC j hj a ea ha hn) (cwV 1 ht (gV tb_456 tb_458 ts_20 tb_1 tb_459) rfl rfl rfl (by decide +kernel) ⟨Nat.le_of_ble_eq_true rfl, Nat.le_of_ble_eq_true rfl⟩) ⟨rdP_blind, va_recv (q := (R_TT, F_TT, 8)) hK hP rfl (show (CW cd kI kQ L isA bk sc ia qa rf ba : va_W)[0]? = some _ from rfl), rd_pre hP hK⟩ rfl rfl hl.1 rfl (lv_room (Nat.le_of_ble_eq_true rfl)) d_TT_recordingNumbered_2 ⟨Nat.le_of_ble_eq_true rfl, Nat.le_of_ble_eq_true rfl⟩) (fun r1 hu => ?_)
  have hu1_0 := hu
  have hu1_0 : a = r1 := hu1_0
  refine W.eq (g2 := F0 m 5 ls [.ref r1]) rfl ?_
  subst hu1_0
  refine lv_astore_n hx hb d_TT_recordingNumbered_5 rfl hl (by decide) rfl (fun ls hl => ?_)
  have hl : lv_has ls 3 [(2, .ref a), (0, .ref (cd 0)), (1, .int (nI j))] := hl
  refine lv_aload_n hx hb d_TT_recordingNumbered_6 rfl (lv_at hl 0 rfl) ?_
  obtain ⟨kq, hkq⟩ := pq_at (X := CX cd kI kQ sc ia qa) (kI := kI) (bk := bk) (rf := rf) (ba := ba) ha hn
  refine r_call (va_runV (C := R_RQ) (As := []) (rest := []) ⟨hx, hb, hml, hown, ht⟩ (k_RQ_isRecording_x l dC dI cd kI kQ L isA bk sc ia qa rf ba N hC a ha hn) (cwV 0 ht (gV tb_570 tb_571 tb_572 tb_11 tb_573) rfl rfl rfl (by decide +kernel) ⟨Nat.le_of_ble_eq_true rfl, Nat.le_of_ble_eq_true rfl⟩) ⟨rdP_blind, va_recv (q := (R_RQ, F_RQ, 17)) hK hP rfl hkq, rd_pre hP hK⟩ rfl rfl hl.1 rfl (lv_room (Nat.le_of_ble_eq_true rfl)) d_TT_recordingNumbered_7 ⟨Nat.le_of_ble_eq_true rfl, Nat.le_of_ble_eq_true rfl⟩) (fun r2 hu => ?_)
  have hu2_0 := hu
  have hu2_0 : ((rf a 8 = 1 ∨ rf a 8 = 2) ∧ r2 = 1 ∨ ¬ (rf a 8 = 1 ∨ rf a 8 = 2) ∧ r2 = 0) := hu2_0
  refine W.eq (g2 := F0 m 10 ls [.int r2]) rfl ?_
  obtain rfl : r2 = 1 := by rcases hu2_0 with ⟨_, q⟩ | ⟨q, _⟩; { exact q }; { exact absurd hp q }
  refine lv_if_ne (tgt := 23) hx hb d_TT_recordingNumbered_10 (by decide) (fun _ => ?_) (fun h9 => absurd h9 (by decide))
  refine lv_aload_n hx hb d_TT_recordingNumbered_23 rfl (lv_at hl 0 rfl) ?_
  have hz0 : a = (a : Nat) := rfl
  exact W.aret (v := .ref a) hx hb hr (Or.inl ⟨_, rfl⟩) (Or.inr ⟨_, rfl⟩) (fun t ht9 hW => ⟨a, rfl, hz0, ht9⟩) (fun q h => by cases h) d_TT_recordingNumbered_24
set_option maxHeartbeats 8000000 in
set_option maxRecDepth 100000 in
theorem k_TT_protect_ok (l : Launch) (dC : Nat → ClassId) (dI : Nat → Nat → Nat) (cd : Nat → Nat) (kI kQ : ClassId) (L : List Nat) (isA : Nat → Bool) (bk : Nat → Nat) (sc : Nat → Int32) (ia : Nat → Nat → Int32) (qa : Nat → Nat → Option Nat) (rf ba : Nat → Nat → Int32) (sz Bd : Nat) (N : Nat) (hC : CI N L isA bk sc qa rf) (j : Nat) (hj : j < N) (a : Nat) (ea : qa 0 j = some a) (ha : a ∈ L) (hn : isA a = false) (y : Int32) (hp : rf a 8 = 1 ∨ rf a 8 = 2) (hy : y = 0 ∨ y = 1) : Met l y_TT_protect w_TT_protect ({ frames := 2, cells := 0, slots := 0, locals := 43 }) (frP (dC, dI) (CW cd kI kQ L isA bk sc ia qa rf ba) (CT kI kQ) sz Bd [.ref (cd 0), .int (nI j), .int y]) (tQ (dC, dI) (cW cd kI kQ L isA bk) (va_A (CW cd kI kQ L isA bk sc ia qa rf ba) sz) vN (fun r u => sc = u.1 ∧ ia = u.2.1 ∧ qa = u.2.2.1 ∧ ba = u.2.2.2.2 ∧ CI N L isA bk u.1 u.2.2.1 u.2.2.2.1)) 0 0 (va_A (CW cd kI kQ L isA bk sc ia qa rf ba) sz) := by
  refine Met.ofW (cc := c_TT_protect) (maxL := 3) (ret := none) (by decide) rfl ?_
  intro p e s m args below meth c s₁ B hml hv
  obtain ⟨rfl, ⟨hsz, hBs⟩, hP, hK, hD0, hV⟩ := hv
  have hx := B.exec
  have hb := B.bytes
  have hr := B.returns
  have ht : ∀ w ∈ tb_, w.before _ s = true := fun w h => atoms_spec (ws := w_TT_protect) B.pre w (List.mem_cons_of_mem _ h)
  have hown : s.vm.findClass R_TT = some m.cls := findClass_of_methodNamed B.named
  have hlocks := B.notSynchronized
  subst hsz
  have hD := hD0.self (sz := s.heap.size)
  have hAB : ∀ q, va_A (CW cd kI kQ L isA bk sc ia qa rf ba) s.heap.size q → Bd ≤ q := fr_AB hD0 hBs
  generalize hAe : va_A (CW cd kI kQ L isA bk sc ia qa rf ba) s.heap.size = A at hD hAB ⊢
  have hA : ∀ q : Nat, s.heap.size ≤ q → A q := fun q h => by rw [← hAe]; exact Or.inr h
  have hS : va_S A s.heap s.heap [] := va_S.rf
  have hs : same [] sc sc := same.rf
  have hP : va_P (dC, dI) cls_ (CW cd kI kQ L isA bk sc ia qa rf ba) s.heap := hP
  have hl := lv_entry ([.ref (cd 0), .int (nI j), .int y]) (n := 3) (Nat.le_of_ble_eq_true rfl)
  rw [lg_entry_eq]
  generalize (lg_sl ([.ref (cd 0), .int (nI j), .int y]) ++ List.replicate (3 - (lg_sl ([.ref (cd 0), .int (nI j), .int y])).length) Slot.unset).toArray = ls at hl ⊢
  have hl : lv_has ls 3 [(0, .ref (cd 0)), (1, .int (nI j)), (2, .int y)] := hl
  have hN := hC.1.1
  refine lv_aload_n hx hb d_TT_protect_0 rfl (lv_at hl 0 rfl) ?_
  refine lv_iload_n hx hb d_TT_protect_1 rfl (lv_at hl 1 rfl) ?_
  refine r_call (va_runV (C := R_TT) (As := [.int (nI j)]) (rest := []) ⟨hx, hb, hml, hown, ht⟩ (k_TT_recordingNumbered_ok l dC dI cd kI kQ L isA bk sc ia qa rf ba N hC j hj a ea ha hn hp) (cwV 1 ht (gV tb_566 tb_568 ts_21 tb_1 tb_569) rfl rfl rfl (by decide +kernel) ⟨Nat.le_of_ble_eq_true rfl, Nat.le_of_ble_eq_true rfl⟩) ⟨rdP_blind, va_recv (q := (R_TT, F_TT, 8)) hK hP rfl (show (CW cd kI kQ L isA bk sc ia qa rf ba : va_W)[0]? = some _ from rfl), rd_pre hP hK⟩ rfl rfl hl.1 rfl (lv_room (Nat.le_of_ble_eq_true rfl)) d_TT_protect_2 ⟨Nat.le_of_ble_eq_true rfl, Nat.le_of_ble_eq_true rfl⟩) (fun r1 hu => ?_)
  have hu1_0 := hu
  have hu1_0 : a = r1 := hu1_0
  refine W.eq (g2 := F0 m 5 ls [.ref r1]) rfl ?_
  subst hu1_0
  refine lv_iload_n hx hb d_TT_protect_5 rfl (lv_at hl 2 rfl) ?_
  obtain ⟨kq, hkq⟩ := pq_at (X := CX cd kI kQ sc ia qa) (kI := kI) (bk := bk) (rf := rf) (ba := ba) ha hn
  have hD0 := hD
  refine va_put (D := (dC, dI)) (ci := 4) (v := .int y) (ty := .boolean) (C := R_RQ) (T := F_RQ) (N := 17) hx hb ht in_RQ t_RQ t_RQ_ok n_RQ hown hK hP hD hS kq hkq rfl 15 (by decide) (ht _ tb_410) (fun _ h9 => h9) rfl (by decide +kernel) (by rcases hy with rfl | rfl <;> rfl) (by rcases hy with rfl | rfl <;> rfl) (Nat.le_of_ble_eq_true rfl) d_TT_protect_6 (fun H locs hP hD hS => ?_)
  rw [pq_set hD0 ha hn hkq rfl] at hP hD
  have hP : va_P (dC, dI) cls_ (CW cd kI kQ L isA bk sc ia qa (va_up rf a (va_up (rf a) 15 y)) ba) H := hP
  have hD : va_D A (CW cd kI kQ L isA bk sc ia qa (va_up rf a (va_up (rf a) 15 y)) ba) := hD
  obtain ⟨rf2, erf2⟩ : ∃ q9_, q9_ = va_up rf a (va_up (rf a) 15 y) := ⟨_, rfl⟩
  rw [← erf2] at hP hD
  have hC : CI N L isA bk sc qa rf2 := by rw [erf2]; exact CI_r hC (by decide) (Or.inl (by decide))
  exact W.vret hx hb hr (fun t ht9 hW => ⟨⟨(), (sc, ia, qa, rf2, ba), rfl, ⟨rfl, rfl, rfl, rfl, hC⟩, by rw [ht9]; exact hP, hD⟩, hS.F ht9⟩) hS.2.2 d_TT_protect_9
set_option maxHeartbeats 8000000 in
set_option maxRecDepth 100000 in
theorem k_TT_seen_ok (l : Launch) (dC : Nat → ClassId) (dI : Nat → Nat → Nat) (cd : Nat → Nat) (kI kQ : ClassId) (L : List Nat) (isA : Nat → Bool) (bk : Nat → Nat) (sc : Nat → Int32) (ia : Nat → Nat → Int32) (qa : Nat → Nat → Option Nat) (rf ba : Nat → Nat → Int32) (sz Bd : Nat) (N : Nat) (hC : CI N L isA bk sc qa rf) (j : Nat) (hj : j < N) (a : Nat) (ea : qa 0 j = some a) (ha : a ∈ L) (hn : isA a = false) (y : Int32) (hp : rf a 8 = 1 ∨ rf a 8 = 2) (hy : y = 0 ∨ y = 1) : Met l y_TT_seen w_TT_seen ({ frames := 2, cells := 0, slots := 0, locals := 43 }) (frP (dC, dI) (CW cd kI kQ L isA bk sc ia qa rf ba) (CT kI kQ) sz Bd [.ref (cd 0), .int (nI j), .int y]) (tQ (dC, dI) (cW cd kI kQ L isA bk) (va_A (CW cd kI kQ L isA bk sc ia qa rf ba) sz) vN (fun r u => sc = u.1 ∧ ia = u.2.1 ∧ qa = u.2.2.1 ∧ ba = u.2.2.2.2 ∧ CI N L isA bk u.1 u.2.2.1 u.2.2.2.1)) 0 0 (va_A (CW cd kI kQ L isA bk sc ia qa rf ba) sz) := by
  refine Met.ofW (cc := c_TT_seen) (maxL := 3) (ret := none) (by decide) rfl ?_
  intro p e s m args below meth c s₁ B hml hv
  obtain ⟨rfl, ⟨hsz, hBs⟩, hP, hK, hD0, hV⟩ := hv
  have hx := B.exec
  have hb := B.bytes
  have hr := B.returns
  have ht : ∀ w ∈ tb_, w.before _ s = true := fun w h => atoms_spec (ws := w_TT_seen) B.pre w (List.mem_cons_of_mem _ h)
  have hown : s.vm.findClass R_TT = some m.cls := findClass_of_methodNamed B.named
  have hlocks := B.notSynchronized
  subst hsz
  have hD := hD0.self (sz := s.heap.size)
  have hAB : ∀ q, va_A (CW cd kI kQ L isA bk sc ia qa rf ba) s.heap.size q → Bd ≤ q := fr_AB hD0 hBs
  generalize hAe : va_A (CW cd kI kQ L isA bk sc ia qa rf ba) s.heap.size = A at hD hAB ⊢
  have hA : ∀ q : Nat, s.heap.size ≤ q → A q := fun q h => by rw [← hAe]; exact Or.inr h
  have hS : va_S A s.heap s.heap [] := va_S.rf
  have hs : same [] sc sc := same.rf
  have hP : va_P (dC, dI) cls_ (CW cd kI kQ L isA bk sc ia qa rf ba) s.heap := hP
  have hl := lv_entry ([.ref (cd 0), .int (nI j), .int y]) (n := 3) (Nat.le_of_ble_eq_true rfl)
  rw [lg_entry_eq]
  generalize (lg_sl ([.ref (cd 0), .int (nI j), .int y]) ++ List.replicate (3 - (lg_sl ([.ref (cd 0), .int (nI j), .int y])).length) Slot.unset).toArray = ls at hl ⊢
  have hl : lv_has ls 3 [(0, .ref (cd 0)), (1, .int (nI j)), (2, .int y)] := hl
  have hN := hC.1.1
  refine lv_aload_n hx hb d_TT_seen_0 rfl (lv_at hl 0 rfl) ?_
  refine lv_iload_n hx hb d_TT_seen_1 rfl (lv_at hl 1 rfl) ?_
  refine r_call (va_runV (C := R_TT) (As := [.int (nI j)]) (rest := []) ⟨hx, hb, hml, hown, ht⟩ (k_TT_recordingNumbered_ok l dC dI cd kI kQ L isA bk sc ia qa rf ba N hC j hj a ea ha hn hp) (cwV 1 ht (gV tb_566 tb_568 ts_21 tb_1 tb_569) rfl rfl rfl (by decide +kernel) ⟨Nat.le_of_ble_eq_true rfl, Nat.le_of_ble_eq_true rfl⟩) ⟨rdP_blind, va_recv (q := (R_TT, F_TT, 8)) hK hP rfl (show (CW cd kI kQ L isA bk sc ia qa rf ba : va_W)[0]? = some _ from rfl), rd_pre hP hK⟩ rfl rfl hl.1 rfl (lv_room (Nat.le_of_ble_eq_true rfl)) d_TT_seen_2 ⟨Nat.le_of_ble_eq_true rfl, Nat.le_of_ble_eq_true rfl⟩) (fun r1 hu => ?_)
  have hu1_0 := hu
  have hu1_0 : a = r1 := hu1_0
  refine W.eq (g2 := F0 m 5 ls [.ref r1]) rfl ?_
  subst hu1_0
  refine lv_iload_n hx hb d_TT_seen_5 rfl (lv_at hl 2 rfl) ?_
  obtain ⟨kq, hkq⟩ := pq_at (X := CX cd kI kQ sc ia qa) (kI := kI) (bk := bk) (rf := rf) (ba := ba) ha hn
  have hD0 := hD
  refine va_put (D := (dC, dI)) (ci := 4) (v := .int y) (ty := .boolean) (C := R_RQ) (T := F_RQ) (N := 17) hx hb ht in_RQ t_RQ t_RQ_ok n_RQ hown hK hP hD hS kq hkq rfl 16 (by decide) (ht _ tb_412) (fun _ h9 => h9) rfl (by decide +kernel) (by rcases hy with rfl | rfl <;> rfl) (by rcases hy with rfl | rfl <;> rfl) (Nat.le_of_ble_eq_true rfl) d_TT_seen_6 (fun H locs hP hD hS => ?_)
  rw [pq_set hD0 ha hn hkq rfl] at hP hD
  have hP : va_P (dC, dI) cls_ (CW cd kI kQ L isA bk sc ia qa (va_up rf a (va_up (rf a) 16 y)) ba) H := hP
  have hD : va_D A (CW cd kI kQ L isA bk sc ia qa (va_up rf a (va_up (rf a) 16 y)) ba) := hD
  obtain ⟨rf2, erf2⟩ : ∃ q9_, q9_ = va_up rf a (va_up (rf a) 16 y) := ⟨_, rfl⟩
  rw [← erf2] at hP hD
  have hC : CI N L isA bk sc qa rf2 := by rw [erf2]; exact CI_r hC (by decide) (Or.inl (by decide))
  exact W.vret hx hb hr (fun t ht9 hW => ⟨⟨(), (sc, ia, qa, rf2, ba), rfl, ⟨rfl, rfl, rfl, rfl, hC⟩, by rw [ht9]; exact hP, hD⟩, hS.F ht9⟩) hS.2.2 d_TT_seen_9
set_option maxHeartbeats 8000000 in
set_option maxRecDepth 100000 in
theorem k_TT_erase_ok (l : Launch) (dC : Nat → ClassId) (dI : Nat → Nat → Nat) (cd : Nat → Nat) (kI kQ : ClassId) (L : List Nat) (isA : Nat → Bool) (bk : Nat → Nat) (sc : Nat → Int32) (ia : Nat → Nat → Int32) (qa : Nat → Nat → Option Nat) (rf ba : Nat → Nat → Int32) (sz Bd : Nat) (N : Nat) (hC : CI N L isA bk sc qa rf) (j : Nat) (hj : j < N) (a : Nat) (ea : qa 0 j = some a) (ha : a ∈ L) (hn : isA a = false) (hp : rf a 8 = 2) : Met l y_TT_erase w_TT_erase ({ frames := 2, cells := 0, slots := 0, locals := 44 }) (frP (dC, dI) (CW cd kI kQ L isA bk sc ia qa rf ba) (CT kI kQ) sz Bd [.ref (cd 0), .int (nI j)]) (tQ (dC, dI) (cW cd kI kQ L isA bk) (va_A (CW cd kI kQ L isA bk sc ia qa rf ba) sz) vI (fun r u => sc = u.1 ∧ qa = u.2.2.1 ∧ ba = u.2.2.2.2 ∧ CI N L isA bk u.1 u.2.2.1 u.2.2.2.1)) 0 0 (va_A (CW cd kI kQ L isA bk sc ia qa rf ba) sz) := by
  refine Met.ofW (cc := c_TT_erase) (maxL := 3) (ret := (some .int)) (by decide) rfl ?_
  intro p e s m args below meth c s₁ B hml hv
  obtain ⟨rfl, ⟨hsz, hBs⟩, hP, hK, hD0, hV⟩ := hv
  have hx := B.exec
  have hb := B.bytes
  have hr := B.returns
  have ht : ∀ w ∈ tb_, w.before _ s = true := fun w h => atoms_spec (ws := w_TT_erase) B.pre w (List.mem_cons_of_mem _ h)
  have hown : s.vm.findClass R_TT = some m.cls := findClass_of_methodNamed B.named
  have hlocks := B.notSynchronized
  subst hsz
  have hD := hD0.self (sz := s.heap.size)
  have hAB : ∀ q, va_A (CW cd kI kQ L isA bk sc ia qa rf ba) s.heap.size q → Bd ≤ q := fr_AB hD0 hBs
  generalize hAe : va_A (CW cd kI kQ L isA bk sc ia qa rf ba) s.heap.size = A at hD hAB ⊢
  have hA : ∀ q : Nat, s.heap.size ≤ q → A q := fun q h => by rw [← hAe]; exact Or.inr h
  have hS : va_S A s.heap s.heap [] := va_S.rf
  have hs : same [] sc sc := same.rf
  have hP : va_P (dC, dI) cls_ (CW cd kI kQ L isA bk sc ia qa rf ba) s.heap := hP
  have hl := lv_entry ([.ref (cd 0), .int (nI j)]) (n := 3) (Nat.le_of_ble_eq_true rfl)
  rw [lg_entry_eq]
  generalize (lg_sl ([.ref (cd 0), .int (nI j)]) ++ List.replicate (3 - (lg_sl ([.ref (cd 0), .int (nI j)])).length) Slot.unset).toArray = ls at hl ⊢
  have hl : lv_has ls 3 [(0, .ref (cd 0)), (1, .int (nI j))] := hl
  have hN := hC.1.1
  refine lv_aload_n hx hb d_TT_erase_0 rfl (lv_at hl 0 rfl) ?_
  refine lv_iload_n hx hb d_TT_erase_1 rfl (lv_at hl 1 rfl) ?_
  refine r_call (va_runV (C := R_TT) (As := [.int (nI j)]) (rest := []) ⟨hx, hb, hml, hown, ht⟩ (k_TT_numbered_ok l dC dI cd kI kQ L isA bk sc ia qa rf ba N hC j hj a ea ha hn) (cwV 1 ht (gV tb_456 tb_458 ts_20 tb_1 tb_459) rfl rfl rfl (by decide +kernel) ⟨Nat.le_of_ble_eq_true rfl, Nat.le_of_ble_eq_true rfl⟩) ⟨rdP_blind, va_recv (q := (R_TT, F_TT, 8)) hK hP rfl (show (CW cd kI kQ L isA bk sc ia qa rf ba : va_W)[0]? = some _ from rfl), rd_pre hP hK⟩ rfl rfl hl.1 rfl (lv_room (Nat.le_of_ble_eq_true rfl)) d_TT_erase_2 ⟨Nat.le_of_ble_eq_true rfl, Nat.le_of_ble_eq_true rfl⟩) (fun r1 hu => ?_)
  have hu1_0 := hu
  have hu1_0 : a = r1 := hu1_0
  refine W.eq (g2 := F0 m 5 ls [.ref r1]) rfl ?_
  subst hu1_0
  refine lv_astore_n hx hb d_TT_erase_5 rfl hl (by decide) rfl (fun ls hl => ?_)
  have hl : lv_has ls 3 [(2, .ref a), (0, .ref (cd 0)), (1, .int (nI j))] := hl
  refine lv_aload_n hx hb d_TT_erase_6 rfl (lv_at hl 0 rfl) ?_
  obtain ⟨kq, hkq⟩ := pq_at (X := CX cd kI kQ sc ia qa) (kI := kI) (bk := bk) (rf := rf) (ba := ba) ha hn
  refine va_get (D := (dC, dI)) (ci := 4) (v := .int (rf a 8)) (C := R_RQ) (T := F_RQ) (N := 17) hx hb ht in_RQ hown hK hP kq hkq rfl 8 (by decide) (ht _ tb_392) (fun _ h9 => h9) rfl d_TT_erase_7 ?_
  refine lv_iconst (v := 2) hx hb d_TT_erase_10 (by decide) ?_
  refine lv_icmp_eq (tgt := 24) hx hb d_TT_erase_11 (by decide) (fun _ => ?_) (fun h9 => absurd (hp) h9)
  refine lv_aload_n hx hb d_TT_erase_24 rfl (lv_at hl 1 rfl) ?_
  refine lv_aload_n hx hb d_TT_erase_25 rfl (lv_at hl 0 rfl) ?_
  refine t_call (u0 := (sc, ia, qa, rf, ba)) (va_runV (C := R_TT) (As := [.ref a]) (rest := []) ⟨hx, hb, hml, hown, ht⟩ (k_TT_wipe l dC dI cd kI kQ L isA bk sc ia qa rf ba s.heap.size Bd N hC a ha hn) (cwV 1 ht (gV tb_209 tb_211 ts_15 tb_1 tb_212) rfl rfl rfl (by decide +kernel) ⟨Nat.le_of_ble_eq_true rfl, Nat.le_of_ble_eq_true rfl⟩) ⟨frP_blind, va_recv (q := (R_TT, F_TT, 8)) hK hP rfl (show (CW cd kI kQ L isA bk sc ia qa rf ba : va_W)[0]? = some _ from rfl), fr_pre hP hK hD hAB hBs hS hV⟩ rfl rfl hl.1 rfl (lv_room (Nat.le_of_ble_eq_true rfl)) d_TT_erase_26 ⟨Nat.le_of_ble_eq_true rfl, Nat.le_of_ble_eq_true rfl⟩) hD hS hA (fun r2 u H locs hu hP hD hS => ?_)
  obtain ⟨sc3, ia4, qa5, rf6, ba7⟩ := u
  obtain ⟨hu2_0, hu2_1, hu2_2, hu2_3⟩ := hu
  have hu2_0 : sc = sc3 := hu2_0
  have hu2_1 : qa = qa5 := hu2_1
  have hu2_2 : ba = ba7 := hu2_2
  have hu2_3 : CI N L isA bk sc3 qa5 rf6 := hu2_3
  subst hu2_0
  subst hu2_1
  subst hu2_2
  have hP : va_P (dC, dI) cls_ (CW cd kI kQ L isA bk sc ia4 qa rf6 ba) H := hP
  have hD : va_D A (CW cd kI kQ L isA bk sc ia4 qa rf6 ba) := hD
  have hC : CI N L isA bk sc qa rf6 := hu2_3
  refine W.eq (g2 := F0 m 29 ls [.int r2]) rfl ?_
  refine W.cs (cells' := 0) (slots' := 0) rfl rfl ?_
  exact W.iret (v := r2) hx hb hr (fun t ht9 hW => ⟨⟨r2, (sc, ia4, qa, rf6, ba), rfl, ⟨rfl, rfl, rfl, hC⟩, by rw [ht9]; exact hP, hD⟩, hS.F ht9⟩) hS.2.2 d_TT_erase_29
set_option maxHeartbeats 8000000 in
set_option maxRecDepth 100000 in
theorem k_TT_bookmarkAt_ok (l : Launch) (dC : Nat → ClassId) (dI : Nat → Nat → Nat) (cd : Nat → Nat) (kI kQ : ClassId) (L : List Nat) (isA : Nat → Bool) (bk : Nat → Nat) (sc : Nat → Int32) (ia : Nat → Nat → Int32) (qa : Nat → Nat → Option Nat) (rf ba : Nat → Nat → Int32) (N : Nat) (hC : CI N L isA bk sc qa rf) (j : Nat) (hj : j < N) (a : Nat) (ea : qa 0 j = some a) (ha : a ∈ L) (hn : isA a = false) (x : Int32) : Met l y_TT_bookmarkAt w_TT_bookmarkAt ({ frames := 1, cells := 0, slots := 0, locals := 21 }) (rdP (dC, dI) (CW cd kI kQ L isA bk sc ia qa rf ba) (CT kI kQ) [.ref (cd 0), .int (nI j), .int x]) (rQ vI (fun r => True)) 0 0 (fun _ => False) := by
  refine Met.ofW (cc := c_TT_bookmarkAt) (maxL := 4) (ret := (some .int)) (by decide) rfl ?_
  intro p e s m args below meth c s₁ B hml hv
  obtain ⟨rfl, hP, hK⟩ := hv
  have hx := B.exec
  have hb := B.bytes
  have hr := B.returns
  have ht : ∀ w ∈ tb_, w.before _ s = true := fun w h => atoms_spec (ws := w_TT_bookmarkAt) B.pre w (List.mem_cons_of_mem _ h)
  have hown : s.vm.findClass R_TT = some m.cls := findClass_of_methodNamed B.named
  have hlocks := B.notSynchronized
  have hP : va_P (dC, dI) cls_ (CW cd kI kQ L isA bk sc ia qa rf ba) s.heap := hP
  have hl := lv_entry ([.ref (cd 0), .int (nI j), .int x]) (n := 4) (Nat.le_of_ble_eq_true rfl)
  rw [lg_entry_eq]
  generalize (lg_sl ([.ref (cd 0), .int (nI j), .int x]) ++ List.replicate (4 - (lg_sl ([.ref (cd 0), .int (nI j), .int x])).length) Slot.unset).toArray = ls at hl ⊢
  have hl : lv_has ls 4 [(0, .ref (cd 0)), (1, .int (nI j)), (2, .int x)] := hl
  have hN := hC.1.1
  refine lv_aload_n hx hb d_TT_bookmarkAt_0 rfl (lv_at hl 0 rfl) ?_
  refine lv_iload_n hx hb d_TT_bookmarkAt_1 rfl (lv_at hl 1 rfl) ?_
  refine r_call (va_runV (C := R_TT) (As := [.int (nI j)]) (rest := []) ⟨hx, hb, hml, hown, ht⟩ (k_TT_numbered_ok l dC dI cd kI kQ L isA bk sc ia qa rf ba N hC j hj a ea ha hn) (cwV 1 ht (gV tb_456 tb_458 ts_20 tb_1 tb_459) rfl rfl rfl (by decide +kernel) ⟨Nat.le_of_ble_eq_true rfl, Nat.le_of_ble_eq_true rfl⟩) ⟨rdP_blind, va_recv (q := (R_TT, F_TT, 8)) hK hP rfl (show (CW cd kI kQ L isA bk sc ia qa rf ba : va_W)[0]? = some _ from rfl), rd_pre hP hK⟩ rfl rfl hl.1 rfl (lv_room (Nat.le_of_ble_eq_true rfl)) d_TT_bookmarkAt_2 ⟨Nat.le_of_ble_eq_true rfl, Nat.le_of_ble_eq_true rfl⟩) (fun r1 hu => ?_)
  have hu1_0 := hu
  have hu1_0 : a = r1 := hu1_0
  refine W.eq (g2 := F0 m 5 ls [.ref r1]) rfl ?_
  subst hu1_0
  refine lv_astore_n hx hb d_TT_bookmarkAt_5 rfl hl (by decide) rfl (fun ls hl => ?_)
  have hl : lv_has ls 4 [(3, .ref a), (0, .ref (cd 0)), (1, .int (nI j)), (2, .int x)] := hl
  refine lv_iload_n hx hb d_TT_bookmarkAt_6 rfl (lv_at hl 3 rfl) ?_
  refine lv_if_lt (tgt := 27) hx hb d_TT_bookmarkAt_7 (by decide) (fun h7_1 => ?_) (fun h7_1 => ?_)
  · have h7_1 := h7_1
    have i7_1 := ti_lt h7_1
    (try rw [l_0] at i7_1)
    refine lv_iconst (v := -1) hx hb d_TT_bookmarkAt_27 (by decide) ?_
    exact W.iret (v := -1) hx hb hr (fun t ht9 hW => ⟨-1, rfl, trivial, ht9⟩) (fun q h => by cases h) d_TT_bookmarkAt_28
  · have h7_1 := h7_1
    have i7_1 := ti_nlt h7_1
    (try rw [l_0] at i7_1)
    refine lv_iload_n hx hb d_TT_bookmarkAt_10 rfl (lv_at hl 3 rfl) ?_
    refine lv_aload_n hx hb d_TT_bookmarkAt_11 rfl (lv_at hl 0 rfl) ?_
    obtain ⟨kq, hkq⟩ := pq_at (X := CX cd kI kQ sc ia qa) (kI := kI) (bk := bk) (rf := rf) (ba := ba) ha hn
    refine va_get (D := (dC, dI)) (ci := 4) (v := .int (rf a 14)) (C := R_RQ) (T := F_RQ) (N := 17) hx hb ht in_RQ hown hK hP kq hkq rfl 14 (by decide) (ht _ tb_408) (fun _ h9 => h9) rfl d_TT_bookmarkAt_12 ?_
    refine lv_icmp_ge (tgt := 27) hx hb d_TT_bookmarkAt_15 (by decide) (fun h15_2 => ?_) (fun h15_2 => ?_)
    · have h15_2 := h15_2
      have i15_2 := ti_le h15_2
      refine lv_iconst (v := -1) hx hb d_TT_bookmarkAt_27 (by decide) ?_
      exact W.iret (v := -1) hx hb hr (fun t ht9 hW => ⟨-1, rfl, trivial, ht9⟩) (fun q h => by cases h) d_TT_bookmarkAt_28
    · have h15_2 := h15_2
      have i15_2 := ti_nle h15_2
      refine lv_aload_n hx hb d_TT_bookmarkAt_18 rfl (lv_at hl 0 rfl) ?_
      obtain ⟨kq, hkq⟩ := pq_at (X := CX cd kI kQ sc ia qa) (kI := kI) (bk := bk) (rf := rf) (ba := ba) ha hn
      refine va_get (D := (dC, dI)) (ci := 4) (v := .ref (bk a)) (C := R_RQ) (T := F_RQ) (N := 17) hx hb ht in_RQ hown hK hP kq hkq rfl 7 (by decide) (ht _ tb_390) (fun _ h9 => h9) rfl d_TT_bookmarkAt_19 ?_
      refine lv_iload_n hx hb d_TT_bookmarkAt_22 rfl (lv_at hl 3 rfl) ?_
      obtain ⟨ka, hka⟩ := pq_arr (X := CX cd kI kQ sc ia qa) (kI := kI) (bk := bk) (rf := rf) (ba := ba) (hC.2.2.2.2.2.2 a ha hn).2.2.1 (hC.2.2.2.2.2.2 a ha hn).2.2.2
      refine va_iald hx hb hK hP ka 0 hka rfl (by have h9 := (hC.2.2.2.2.2.2 a ha hn).2.1; exact in_of (by omega) (by omega)) d_TT_bookmarkAt_23 ?_
      refine lv_goto (tgt := 28) hx hb d_TT_bookmarkAt_24 (by decide) ?_
      exact W.iret (v := ba (bk a) x.toNatClampNeg) hx hb hr (fun t ht9 hW => ⟨ba (bk a) x.toNatClampNeg, rfl, trivial, ht9⟩) (fun q h => by cases h) d_TT_bookmarkAt_28
set_option maxHeartbeats 8000000 in
set_option maxRecDepth 100000 in
theorem k_TT_free (l : Launch) (dC : Nat → ClassId) (dI : Nat → Nat → Nat) (cd : Nat → Nat) (kI kQ : ClassId) (L : List Nat) (isA : Nat → Bool) (bk : Nat → Nat) (sc : Nat → Int32) (ia : Nat → Nat → Int32) (qa : Nat → Nat → Option Nat) (rf ba : Nat → Nat → Int32) (N : Nat) (hC : CI N L isA bk sc qa rf)  : Met l y_TT_free w_TT_free ({ frames := 2, cells := 0, slots := 0, locals := 43 }) (rdP (dC, dI) (CW cd kI kQ L isA bk sc ia qa rf ba) (CT kI kQ) [.ref (cd 0)]) (rQ vI (fun r => True)) 0 0 (fun _ => False) := by
  refine Met.ofW (cc := c_TT_free) (maxL := 1) (ret := (some .int)) (by decide) rfl ?_
  intro p e s m args below meth c s₁ B hml hv
  obtain ⟨rfl, hP, hK⟩ := hv
  have hx := B.exec
  have hb := B.bytes
  have hr := B.returns
  have ht : ∀ w ∈ tb_, w.before _ s = true := fun w h => atoms_spec (ws := w_TT_free) B.pre w (List.mem_cons_of_mem _ h)
  have hown : s.vm.findClass R_TT = some m.cls := findClass_of_methodNamed B.named
  have hlocks := B.notSynchronized
  have hP : va_P (dC, dI) cls_ (CW cd kI kQ L isA bk sc ia qa rf ba) s.heap := hP
  have hl := lv_entry ([.ref (cd 0)]) (n := 1) (Nat.le_of_ble_eq_true rfl)
  rw [lg_entry_eq]
  generalize (lg_sl ([.ref (cd 0)]) ++ List.replicate (1 - (lg_sl ([.ref (cd 0)])).length) Slot.unset).toArray = ls at hl ⊢
  have hl : lv_has ls 1 [(0, .ref (cd 0))] := hl
  have hN := hC.1.1
  refine lv_aload_n hx hb d_TT_free_0 rfl (lv_at hl 0 rfl) ?_
  refine va_get (D := (dC, dI)) (ci := 0) (v := .ref (cd 5)) (C := R_TT) (T := F_TT) (N := 8) hx hb ht in_TT hown hK hP 0 rfl rfl 3 (by decide) (ht _ tb_78) (fun _ h9 => h9) rfl d_TT_free_1 ?_
  refine r_call (va_runV (C := R_DK) (As := []) (rest := []) ⟨hx, hb, hml, hown, ht⟩ (k_DK_freeSegments l dC dI cd kI kQ L isA bk sc ia qa rf ba N hC) (cwV 0 ht (gV tb_188 tb_189 tb_190 tb_3 tb_191) rfl rfl rfl (by decide +kernel) ⟨Nat.le_of_ble_eq_true rfl, Nat.le_of_ble_eq_true rfl⟩) ⟨rdP_blind, va_recv (q := (R_DK, F_DK, 4)) hK hP rfl (show (CW cd kI kQ L isA bk sc ia qa rf ba : va_W)[5]? = some _ from rfl), rd_pre hP hK⟩ rfl rfl hl.1 rfl (lv_room (Nat.le_of_ble_eq_true rfl)) d_TT_free_4 ⟨Nat.le_of_ble_eq_true rfl, Nat.le_of_ble_eq_true rfl⟩) (fun r1 hu => ?_)
  clear hu
  refine W.eq (g2 := F0 m 7 ls [.int r1]) rfl ?_
  exact W.iret (v := r1) hx hb hr (fun t ht9 hW => ⟨r1, rfl, trivial, ht9⟩) (fun q h => by cases h) d_TT_free_7
set_option maxHeartbeats 8000000 in
set_option maxRecDepth 100000 in
theorem k_TT_now (l : Launch) (dC : Nat → ClassId) (dI : Nat → Nat → Nat) (cd : Nat → Nat) (kI kQ : ClassId) (L : List Nat) (isA : Nat → Bool) (bk : Nat → Nat) (sc : Nat → Int32) (ia : Nat → Nat → Int32) (qa : Nat → Nat → Option Nat) (rf ba : Nat → Nat → Int32) (N : Nat) (hC : CI N L isA bk sc qa rf)  : Met l y_TT_now w_TT_now ({ frames := 0, cells := 0, slots := 0, locals := 0 }) (rdP (dC, dI) (CW cd kI kQ L isA bk sc ia qa rf ba) (CT kI kQ) [.ref (cd 0)]) (rQ vI (fun r => r = sc 1)) 0 0 (fun _ => False) := by
  refine Met.ofW (cc := c_TT_now) (maxL := 1) (ret := (some .int)) (by decide) rfl ?_
  intro p e s m args below meth c s₁ B hml hv
  obtain ⟨rfl, hP, hK⟩ := hv
  have hx := B.exec
  have hb := B.bytes
  have hr := B.returns
  have ht : ∀ w ∈ tb_, w.before _ s = true := fun w h => atoms_spec (ws := w_TT_now) B.pre w (List.mem_cons_of_mem _ h)
  have hown : s.vm.findClass R_TT = some m.cls := findClass_of_methodNamed B.named
  have hlocks := B.notSynchronized
  have hP : va_P (dC, dI) cls_ (CW cd kI kQ L isA bk sc ia qa rf ba) s.heap := hP
  have hl := lv_entry ([.ref (cd 0)]) (n := 1) (Nat.le_of_ble_eq_true rfl)
  rw [lg_entry_eq]
  generalize (lg_sl ([.ref (cd 0)]) ++ List.replicate (1 - (lg_sl ([.ref (cd 0)])).length) Slot.unset).toArray = ls at hl ⊢
  have hl : lv_has ls 1 [(0, .ref (cd 0))] := hl
  have hN := hC.1.1
  refine lv_aload_n hx hb d_TT_now_0 rfl (lv_at hl 0 rfl) ?_
  refine va_get (D := (dC, dI)) (ci := 0) (v := .int (sc 1)) (C := R_TT) (T := F_TT) (N := 8) hx hb ht in_TT hown hK hP 0 rfl rfl 6 (by decide) (ht _ tb_81) (fun _ h9 => h9) rfl d_TT_now_1 ?_
  have hz0 : (sc 1 : Int32) = sc 1 := rfl
  exact W.iret (v := sc 1) hx hb hr (fun t ht9 hW => ⟨sc 1, rfl, hz0, ht9⟩) (fun q h => by cases h) d_TT_now_4
set_option maxHeartbeats 8000000 in
set_option maxRecDepth 100000 in
theorem k_TT_back (l : Launch) (dC : Nat → ClassId) (dI : Nat → Nat → Nat) (cd : Nat → Nat) (kI kQ : ClassId) (L : List Nat) (isA : Nat → Bool) (bk : Nat → Nat) (sc : Nat → Int32) (ia : Nat → Nat → Int32) (qa : Nat → Nat → Option Nat) (rf ba : Nat → Nat → Int32) (N : Nat) (hC : CI N L isA bk sc qa rf) (x : Int32) : Met l y_TT_back w_TT_back ({ frames := 1, cells := 0, slots := 0, locals := 21 }) (rdP (dC, dI) (CW cd kI kQ L isA bk sc ia qa rf ba) (CT kI kQ) [.ref (cd 0), .int x]) (rQ vJ (fun r => True)) 0 0 (fun _ => False) := by
  refine Met.ofW (cc := c_TT_back) (maxL := 2) (ret := (some .long)) (by decide) rfl ?_
  intro p e s m args below meth c s₁ B hml hv
  obtain ⟨rfl, hP, hK⟩ := hv
  have hx := B.exec
  have hb := B.bytes
  have hr := B.returns
  have ht : ∀ w ∈ tb_, w.before _ s = true := fun w h => atoms_spec (ws := w_TT_back) B.pre w (List.mem_cons_of_mem _ h)
  have hown : s.vm.findClass R_TT = some m.cls := findClass_of_methodNamed B.named
  have hlocks := B.notSynchronized
  have hP : va_P (dC, dI) cls_ (CW cd kI kQ L isA bk sc ia qa rf ba) s.heap := hP
  have hl := lv_entry ([.ref (cd 0), .int x]) (n := 2) (Nat.le_of_ble_eq_true rfl)
  rw [lg_entry_eq]
  generalize (lg_sl ([.ref (cd 0), .int x]) ++ List.replicate (2 - (lg_sl ([.ref (cd 0), .int x])).length) Slot.unset).toArray = ls at hl ⊢
  have hl : lv_has ls 2 [(0, .ref (cd 0)), (1, .int x)] := hl
  have hN := hC.1.1
  refine lv_aload_n hx hb d_TT_back_0 rfl (lv_at hl 0 rfl) ?_
  refine va_get (D := (dC, dI)) (ci := 0) (v := .ref (cd 10)) (C := R_TT) (T := F_TT) (N := 8) hx hb ht in_TT hown hK hP 0 rfl rfl 4 (by decide) (ht _ tb_79) (fun _ h9 => h9) rfl d_TT_back_1 ?_
  refine lv_iload_n hx hb d_TT_back_4 rfl (lv_at hl 1 rfl) ?_
  refine r_call (va_runV (C := R_RW) (As := [.int x]) (rest := []) ⟨hx, hb, hml, hown, ht⟩ (k_RW_secondsAgo l dC dI cd kI kQ L isA bk sc ia qa rf ba N hC x) (cwV 1 ht (gV tb_251 tb_252 tb_253 tb_4 tb_254) rfl rfl rfl (by decide +kernel) ⟨Nat.le_of_ble_eq_true rfl, Nat.le_of_ble_eq_true rfl⟩) ⟨rdP_blind, va_recv (q := (R_RW, F_RW, 3)) hK hP rfl (show (CW cd kI kQ L isA bk sc ia qa rf ba : va_W)[10]? = some _ from rfl), rd_pre hP hK⟩ rfl rfl hl.1 rfl (lv_room (Nat.le_of_ble_eq_true rfl)) d_TT_back_5 ⟨Nat.le_of_ble_eq_true rfl, Nat.le_of_ble_eq_true rfl⟩) (fun r1 hu => ?_)
  clear hu
  refine W.eq (g2 := F0 m 8 ls [.long r1]) rfl ?_
  exact W.lret (v := r1) hx hb hr (fun t ht9 hW => ⟨r1, rfl, trivial, ht9⟩) (fun q h => by cases h) d_TT_back_8
set_option maxHeartbeats 8000000 in
set_option maxRecDepth 100000 in
theorem k_TT_air_ok (l : Launch) (dC : Nat → ClassId) (dI : Nat → Nat → Nat) (cd : Nat → Nat) (kI kQ : ClassId) (L : List Nat) (isA : Nat → Bool) (bk : Nat → Nat) (sc : Nat → Int32) (ia : Nat → Nat → Int32) (qa : Nat → Nat → Option Nat) (rf ba : Nat → Nat → Int32) (sz Bd : Nat) (N : Nat) (hC : CI N L isA bk sc qa rf) (x y : Int32) (h : 0 ≤ x.toInt ∧ x.toInt ≤ 7) : Met l y_TT_air w_TT_air ({ frames := 2, cells := 0, slots := 0, locals := 42 }) (frP (dC, dI) (CW cd kI kQ L isA bk sc ia qa rf ba) (CT kI kQ) sz Bd [.ref (cd 0), .int x, .int y]) (tQ (dC, dI) (cW cd kI kQ L isA bk) (va_A (CW cd kI kQ L isA bk sc ia qa rf ba) sz) vN (fun r u => sc = u.1 ∧ qa = u.2.2.1 ∧ rf = u.2.2.2.1 ∧ ba = u.2.2.2.2 ∧ CI N L isA bk u.1 u.2.2.1 u.2.2.2.1)) 0 0 (va_A (CW cd kI kQ L isA bk sc ia qa rf ba) sz) := by
  refine Met.ofW (cc := c_TT_air) (maxL := 3) (ret := none) (by decide) rfl ?_
  intro p e s m args below meth c s₁ B hml hv
  obtain ⟨rfl, ⟨hsz, hBs⟩, hP, hK, hD0, hV⟩ := hv
  have hx := B.exec
  have hb := B.bytes
  have hr := B.returns
  have ht : ∀ w ∈ tb_, w.before _ s = true := fun w h => atoms_spec (ws := w_TT_air) B.pre w (List.mem_cons_of_mem _ h)
  have hown : s.vm.findClass R_TT = some m.cls := findClass_of_methodNamed B.named
  have hlocks := B.notSynchronized
  subst hsz
  have hD := hD0.self (sz := s.heap.size)
  have hAB : ∀ q, va_A (CW cd kI kQ L isA bk sc ia qa rf ba) s.heap.size q → Bd ≤ q := fr_AB hD0 hBs
  generalize hAe : va_A (CW cd kI kQ L isA bk sc ia qa rf ba) s.heap.size = A at hD hAB ⊢
  have hA : ∀ q : Nat, s.heap.size ≤ q → A q := fun q h => by rw [← hAe]; exact Or.inr h
  have hS : va_S A s.heap s.heap [] := va_S.rf
  have hs : same [] sc sc := same.rf
  have hP : va_P (dC, dI) cls_ (CW cd kI kQ L isA bk sc ia qa rf ba) s.heap := hP
  have hl := lv_entry ([.ref (cd 0), .int x, .int y]) (n := 3) (Nat.le_of_ble_eq_true rfl)
  rw [lg_entry_eq]
  generalize (lg_sl ([.ref (cd 0), .int x, .int y]) ++ List.replicate (3 - (lg_sl ([.ref (cd 0), .int x, .int y])).length) Slot.unset).toArray = ls at hl ⊢
  have hl : lv_has ls 3 [(0, .ref (cd 0)), (1, .int x), (2, .int y)] := hl
  have hN := hC.1.1
  refine lv_iload_n hx hb d_TT_air_0 rfl (lv_at hl 1 rfl) ?_
  refine r_call (va_runS (As := [.int x]) (rest := []) ⟨hx, hb, hml, hown, ht⟩ (k_TT_isChannel l dC dI x) (va_cwS 1 ht (gS tb_270 tb_271 tb_1 tb_272) rfl rfl rfl (by decide +kernel) ⟨Nat.le_of_ble_eq_true rfl, Nat.le_of_ble_eq_true rfl⟩) ⟨rdP_blind, rd_pre (W0 := []) (tys := []) (fun k q h => by cases h) ⟨hK.1, fun k q h => by cases h⟩⟩ rfl rfl hl.1 rfl (lv_room (Nat.le_of_ble_eq_true rfl)) d_TT_air_1 ⟨Nat.le_of_ble_eq_true rfl, Nat.le_of_ble_eq_true rfl⟩) (fun r1 hu => ?_)
  have hu1_0 := hu
  have hu1_0 : ((0 ≤ x.toInt ∧ x.toInt ≤ 7) ∧ r1 = 1 ∨ ¬ (0 ≤ x.toInt ∧ x.toInt ≤ 7) ∧ r1 = 0) := hu1_0
  refine W.eq (g2 := F0 m 4 ls [.int r1]) rfl ?_
  obtain rfl : r1 = 1 := by rcases hu1_0 with ⟨_, q⟩ | ⟨q, _⟩; { exact q }; { exact absurd h q }
  refine lv_if_ne (tgt := 17) hx hb d_TT_air_4 (by decide) (fun _ => ?_) (fun h9 => absurd h9 (by decide))
  refine lv_aload_n hx hb d_TT_air_17 rfl (lv_at hl 0 rfl) ?_
  refine va_get (D := (dC, dI)) (ci := 0) (v := .ref (cd 2)) (C := R_TT) (T := F_TT) (N := 8) hx hb ht in_TT hown hK hP 0 rfl rfl 1 (by decide) (ht _ tb_76) (fun _ h9 => h9) rfl d_TT_air_18 ?_
  refine lv_iload_n hx hb d_TT_air_21 rfl (lv_at hl 1 rfl) ?_
  refine lv_iload_n hx hb d_TT_air_22 rfl (lv_at hl 2 rfl) ?_
  have hD0 := hD
  refine va_iast hx hb hK hP hD hS 2 0 rfl rfl (in_of h.1 (by omega)) d_TT_air_23 (fun H locs hP hD hS => ?_)
  have hP : va_P (dC, dI) cls_ (CW cd kI kQ L isA bk sc (va_up ia 0 (upd (ia 0) x.toNatClampNeg y)) qa rf ba) H := hP
  have hD : va_D A (CW cd kI kQ L isA bk sc (va_up ia 0 (upd (ia 0) x.toNatClampNeg y)) qa rf ba) := hD
  obtain ⟨ia2, eia2⟩ : ∃ q9_, q9_ = va_up ia 0 (upd (ia 0) x.toNatClampNeg y) := ⟨_, rfl⟩
  rw [← eia2] at hP hD
  exact W.vret hx hb hr (fun t ht9 hW => ⟨⟨(), (sc, ia2, qa, rf, ba), rfl, ⟨rfl, rfl, rfl, rfl, hC⟩, by rw [ht9]; exact hP, hD⟩, hS.F ht9⟩) hS.2.2 d_TT_air_24
set_option maxHeartbeats 8000000 in
set_option maxRecDepth 100000 in
theorem k_TT_watch_ok (l : Launch) (dC : Nat → ClassId) (dI : Nat → Nat → Nat) (cd : Nat → Nat) (kI kQ : ClassId) (L : List Nat) (isA : Nat → Bool) (bk : Nat → Nat) (sc : Nat → Int32) (ia : Nat → Nat → Int32) (qa : Nat → Nat → Option Nat) (rf ba : Nat → Nat → Int32) (sz Bd : Nat) (N : Nat) (hC : CI N L isA bk sc qa rf) (x : Int32) (h : -1 ≤ x.toInt ∧ x.toInt ≤ 7) : Met l y_TT_watch w_TT_watch ({ frames := 2, cells := 0, slots := 0, locals := 42 }) (frP (dC, dI) (CW cd kI kQ L isA bk sc ia qa rf ba) (CT kI kQ) sz Bd [.ref (cd 0), .int x]) (tQ (dC, dI) (cW cd kI kQ L isA bk) (va_A (CW cd kI kQ L isA bk sc ia qa rf ba) sz) vI (fun r u => same [2, 5] sc u.1 ∧ ia = u.2.1 ∧ qa = u.2.2.1 ∧ rf = u.2.2.2.1 ∧ ba = u.2.2.2.2 ∧ CI N L isA bk u.1 u.2.2.1 u.2.2.2.1 ∧ r = sc 2 ∧ u.1 2 = x)) 0 0 (va_A (CW cd kI kQ L isA bk sc ia qa rf ba) sz) := by
  refine Met.ofW (cc := c_TT_watch) (maxL := 3) (ret := (some .int)) (by decide) rfl ?_
  intro p e s m args below meth c s₁ B hml hv
  obtain ⟨rfl, ⟨hsz, hBs⟩, hP, hK, hD0, hV⟩ := hv
  have hx := B.exec
  have hb := B.bytes
  have hr := B.returns
  have ht : ∀ w ∈ tb_, w.before _ s = true := fun w h => atoms_spec (ws := w_TT_watch) B.pre w (List.mem_cons_of_mem _ h)
  have hown : s.vm.findClass R_TT = some m.cls := findClass_of_methodNamed B.named
  have hlocks := B.notSynchronized
  subst hsz
  have hD := hD0.self (sz := s.heap.size)
  have hAB : ∀ q, va_A (CW cd kI kQ L isA bk sc ia qa rf ba) s.heap.size q → Bd ≤ q := fr_AB hD0 hBs
  generalize hAe : va_A (CW cd kI kQ L isA bk sc ia qa rf ba) s.heap.size = A at hD hAB ⊢
  have hA : ∀ q : Nat, s.heap.size ≤ q → A q := fun q h => by rw [← hAe]; exact Or.inr h
  have hS : va_S A s.heap s.heap [] := va_S.rf
  have hs : same [2, 5] sc sc := same.rf
  have hP : va_P (dC, dI) cls_ (CW cd kI kQ L isA bk sc ia qa rf ba) s.heap := hP
  have hl := lv_entry ([.ref (cd 0), .int x]) (n := 3) (Nat.le_of_ble_eq_true rfl)
  rw [lg_entry_eq]
  generalize (lg_sl ([.ref (cd 0), .int x]) ++ List.replicate (3 - (lg_sl ([.ref (cd 0), .int x])).length) Slot.unset).toArray = ls at hl ⊢
  have hl : lv_has ls 3 [(0, .ref (cd 0)), (1, .int x)] := hl
  have hN := hC.1.1
  refine lv_iload_n hx hb d_TT_watch_0 rfl (lv_at hl 1 rfl) ?_
  refine lv_iconst (v := -1) hx hb d_TT_watch_1 (by decide) ?_
  refine lv_icmp_eq (tgt := 22) hx hb d_TT_watch_2 (by decide) (fun h2_1 => ?_) (fun h2_1 => ?_)
  · have h2_1 := h2_1
    have i2_1 := ti_eq h2_1
    (try rw [l_m1] at i2_1)
    refine lv_aload_n hx hb d_TT_watch_22 rfl (lv_at hl 0 rfl) ?_
    refine va_get (D := (dC, dI)) (ci := 0) (v := .int (sc 2)) (C := R_TT) (T := F_TT) (N := 8) hx hb ht in_TT hown hK hP 0 rfl rfl 7 (by decide) (ht _ tb_82) (fun _ h9 => h9) rfl d_TT_watch_23 ?_
    refine lv_istore_n hx hb d_TT_watch_26 rfl hl (by decide) rfl (fun ls hl => ?_)
    have hl : lv_has ls 3 [(2, .int (sc 2)), (0, .ref (cd 0)), (1, .int x)] := hl
    refine lv_aload_n hx hb d_TT_watch_27 rfl (lv_at hl 1 rfl) ?_
    refine lv_iload_n hx hb d_TT_watch_28 rfl (lv_at hl 2 rfl) ?_
    refine va_put (D := (dC, dI)) (ci := 0) (v := .int x) (ty := .int) (C := R_TT) (T := F_TT) (N := 8) hx hb ht in_TT t_TT t_TT_ok n_TT hown hK hP hD hS 0 rfl rfl 7 (by decide) (ht _ tb_82) (fun _ h9 => h9) rfl (by decide +kernel) rfl rfl (Nat.le_of_ble_eq_true rfl) d_TT_watch_29 (fun H locs hP hD hS => ?_)
    have hP : va_P (dC, dI) cls_ (CW cd kI kQ L isA bk (va_up sc 2 x) ia qa rf ba) H := hP
    have hD : va_D A (CW cd kI kQ L isA bk (va_up sc 2 x) ia qa rf ba) := hD
    obtain ⟨sc1, esc1⟩ : ∃ q9_, q9_ = va_up sc 2 x := ⟨_, rfl⟩
    rw [← esc1] at hP hD
    have hs : same [2, 5] sc sc1 := by rw [esc1]; exact hs.up (by decide)
    have hC : CI N L isA bk sc1 qa rf := by rw [esc1]; exact CI_s2 hC h
    refine lv_aload_n hx hb d_TT_watch_32 rfl (lv_at hl 1 rfl) ?_
    refine va_get (D := (dC, dI)) (ci := 0) (v := .ref (cd 10)) (C := R_TT) (T := F_TT) (N := 8) hx hb ht in_TT hown hK hP 0 rfl rfl 4 (by decide) (ht _ tb_79) (fun _ h9 => h9) rfl d_TT_watch_33 ?_
    refine t_call (u0 := (sc1, ia, qa, rf, ba)) (va_runV (C := R_RW) (As := []) (rest := []) ⟨hx, hb, hml, hown, ht⟩ (k_RW_forget l dC dI cd kI kQ L isA bk sc1 ia qa rf ba H.size Bd N hC) (cwV 0 ht (gV tb_239 tb_240 tb_241 tb_4 tb_242) rfl rfl rfl (by decide +kernel) ⟨Nat.le_of_ble_eq_true rfl, Nat.le_of_ble_eq_true rfl⟩) ⟨frP_blind, va_recv (q := (R_RW, F_RW, 3)) hK hP rfl (show (CW cd kI kQ L isA bk sc1 ia qa rf ba : va_W)[10]? = some _ from rfl), fr_pre hP hK hD hAB hBs hS hV⟩ rfl rfl hl.1 rfl (lv_room (Nat.le_of_ble_eq_true rfl)) d_TT_watch_36 ⟨Nat.le_of_ble_eq_true rfl, Nat.le_of_ble_eq_true rfl⟩) hD hS hA (fun r2 u H locs hu hP hD hS => ?_)
    obtain ⟨sc3, ia4, qa5, rf6, ba7⟩ := u
    obtain ⟨hu2_0, hu2_1, hu2_2, hu2_3, hu2_4, hu2_5⟩ := hu
    have hu2_0 : same [5] sc1 sc3 := hu2_0
    have hu2_1 : ia = ia4 := hu2_1
    have hu2_2 : qa = qa5 := hu2_2
    have hu2_3 : rf = rf6 := hu2_3
    have hu2_4 : ba = ba7 := hu2_4
    have hu2_5 : CI N L isA bk sc3 qa5 rf6 := hu2_5
    subst hu2_1
    subst hu2_2
    subst hu2_3
    subst hu2_4
    have hu2_0 : same [5] sc1 sc3 := hu2_0
    have hP : va_P (dC, dI) cls_ (CW cd kI kQ L isA bk sc3 ia qa rf ba) H := hP
    have hD : va_D A (CW cd kI kQ L isA bk sc3 ia qa rf ba) := hD
    have hC : CI N L isA bk sc3 qa rf := hu2_5
    have hs : same [2, 5] sc sc3 := hs.tr (hu2_0.wk (by decide))
    refine W.eq (g2 := F0 m 39 ls []) rfl ?_
    refine W.cs (cells' := 0) (slots' := 0) rfl rfl ?_
    refine lv_iload_n hx hb d_TT_watch_39 rfl (lv_at hl 0 rfl) ?_
    have hz0 : (sc 2 : Int32) = sc 2 := rfl
    have hz1 : sc3 2 = x := ((hu2_0 2 (by decide))).trans (show sc1 2 = x by rw [esc1]; rfl)
    exact W.iret (v := sc 2) hx hb hr (fun t ht9 hW => ⟨⟨sc 2, (sc3, ia, qa, rf, ba), rfl, ⟨hs, rfl, rfl, rfl, rfl, hC, hz0, hz1⟩, by rw [ht9]; exact hP, hD⟩, hS.F ht9⟩) hS.2.2 d_TT_watch_40
  · have h2_1 := h2_1
    have i2_1 := ti_ne h2_1
    (try rw [l_m1] at i2_1)
    refine lv_iload_n hx hb d_TT_watch_5 rfl (lv_at hl 1 rfl) ?_
    refine r_call (va_runS (As := [.int x]) (rest := []) ⟨hx, hb, hml, hown, ht⟩ (k_TT_isChannel l dC dI x) (va_cwS 1 ht (gS tb_270 tb_271 tb_1 tb_272) rfl rfl rfl (by decide +kernel) ⟨Nat.le_of_ble_eq_true rfl, Nat.le_of_ble_eq_true rfl⟩) ⟨rdP_blind, rd_pre (W0 := []) (tys := []) (fun k q h => by cases h) ⟨hK.1, fun k q h => by cases h⟩⟩ rfl rfl hl.1 rfl (lv_room (Nat.le_of_ble_eq_true rfl)) d_TT_watch_6 ⟨Nat.le_of_ble_eq_true rfl, Nat.le_of_ble_eq_true rfl⟩) (fun r8 hu => ?_)
    have hu8_0 := hu
    have hu8_0 : ((0 ≤ x.toInt ∧ x.toInt ≤ 7) ∧ r8 = 1 ∨ ¬ (0 ≤ x.toInt ∧ x.toInt ≤ 7) ∧ r8 = 0) := hu8_0
    refine W.eq (g2 := F0 m 9 ls [.int r8]) rfl ?_
    obtain rfl : r8 = 1 := by rcases hu8_0 with ⟨_, q⟩ | ⟨q, _⟩; { exact q }; { exact absurd (show 0 ≤ x.toInt ∧ x.toInt ≤ 7 by omega) q }
    refine lv_if_ne (tgt := 22) hx hb d_TT_watch_9 (by decide) (fun _ => ?_) (fun h9 => absurd h9 (by decide))
    refine lv_aload_n hx hb d_TT_watch_22 rfl (lv_at hl 0 rfl) ?_
    refine va_get (D := (dC, dI)) (ci := 0) (v := .int (sc 2)) (C := R_TT) (T := F_TT) (N := 8) hx hb ht in_TT hown hK hP 0 rfl rfl 7 (by decide) (ht _ tb_82) (fun _ h9 => h9) rfl d_TT_watch_23 ?_
    refine lv_istore_n hx hb d_TT_watch_26 rfl hl (by decide) rfl (fun ls hl => ?_)
    have hl : lv_has ls 3 [(2, .int (sc 2)), (0, .ref (cd 0)), (1, .int x)] := hl
    refine lv_aload_n hx hb d_TT_watch_27 rfl (lv_at hl 1 rfl) ?_
    refine lv_iload_n hx hb d_TT_watch_28 rfl (lv_at hl 2 rfl) ?_
    refine va_put (D := (dC, dI)) (ci := 0) (v := .int x) (ty := .int) (C := R_TT) (T := F_TT) (N := 8) hx hb ht in_TT t_TT t_TT_ok n_TT hown hK hP hD hS 0 rfl rfl 7 (by decide) (ht _ tb_82) (fun _ h9 => h9) rfl (by decide +kernel) rfl rfl (Nat.le_of_ble_eq_true rfl) d_TT_watch_29 (fun H locs hP hD hS => ?_)
    have hP : va_P (dC, dI) cls_ (CW cd kI kQ L isA bk (va_up sc 2 x) ia qa rf ba) H := hP
    have hD : va_D A (CW cd kI kQ L isA bk (va_up sc 2 x) ia qa rf ba) := hD
    obtain ⟨sc9, esc9⟩ : ∃ q9_, q9_ = va_up sc 2 x := ⟨_, rfl⟩
    rw [← esc9] at hP hD
    have hs : same [2, 5] sc sc9 := by rw [esc9]; exact hs.up (by decide)
    have hC : CI N L isA bk sc9 qa rf := by rw [esc9]; exact CI_s2 hC h
    refine lv_aload_n hx hb d_TT_watch_32 rfl (lv_at hl 1 rfl) ?_
    refine va_get (D := (dC, dI)) (ci := 0) (v := .ref (cd 10)) (C := R_TT) (T := F_TT) (N := 8) hx hb ht in_TT hown hK hP 0 rfl rfl 4 (by decide) (ht _ tb_79) (fun _ h9 => h9) rfl d_TT_watch_33 ?_
    refine t_call (u0 := (sc9, ia, qa, rf, ba)) (va_runV (C := R_RW) (As := []) (rest := []) ⟨hx, hb, hml, hown, ht⟩ (k_RW_forget l dC dI cd kI kQ L isA bk sc9 ia qa rf ba H.size Bd N hC) (cwV 0 ht (gV tb_239 tb_240 tb_241 tb_4 tb_242) rfl rfl rfl (by decide +kernel) ⟨Nat.le_of_ble_eq_true rfl, Nat.le_of_ble_eq_true rfl⟩) ⟨frP_blind, va_recv (q := (R_RW, F_RW, 3)) hK hP rfl (show (CW cd kI kQ L isA bk sc9 ia qa rf ba : va_W)[10]? = some _ from rfl), fr_pre hP hK hD hAB hBs hS hV⟩ rfl rfl hl.1 rfl (lv_room (Nat.le_of_ble_eq_true rfl)) d_TT_watch_36 ⟨Nat.le_of_ble_eq_true rfl, Nat.le_of_ble_eq_true rfl⟩) hD hS hA (fun r10 u H locs hu hP hD hS => ?_)
    obtain ⟨sc11, ia12, qa13, rf14, ba15⟩ := u
    obtain ⟨hu10_0, hu10_1, hu10_2, hu10_3, hu10_4, hu10_5⟩ := hu
    have hu10_0 : same [5] sc9 sc11 := hu10_0
    have hu10_1 : ia = ia12 := hu10_1
    have hu10_2 : qa = qa13 := hu10_2
    have hu10_3 : rf = rf14 := hu10_3
    have hu10_4 : ba = ba15 := hu10_4
    have hu10_5 : CI N L isA bk sc11 qa13 rf14 := hu10_5
    subst hu10_1
    subst hu10_2
    subst hu10_3
    subst hu10_4
    have hu10_0 : same [5] sc9 sc11 := hu10_0
    have hP : va_P (dC, dI) cls_ (CW cd kI kQ L isA bk sc11 ia qa rf ba) H := hP
    have hD : va_D A (CW cd kI kQ L isA bk sc11 ia qa rf ba) := hD
    have hC : CI N L isA bk sc11 qa rf := hu10_5
    have hs : same [2, 5] sc sc11 := hs.tr (hu10_0.wk (by decide))
    refine W.eq (g2 := F0 m 39 ls []) rfl ?_
    refine W.cs (cells' := 0) (slots' := 0) rfl rfl ?_
    refine lv_iload_n hx hb d_TT_watch_39 rfl (lv_at hl 0 rfl) ?_
    have hz0 : (sc 2 : Int32) = sc 2 := rfl
    have hz1 : sc11 2 = x := ((hu10_0 2 (by decide))).trans (show sc9 2 = x by rw [esc9]; rfl)
    exact W.iret (v := sc 2) hx hb hr (fun t ht9 hW => ⟨⟨sc 2, (sc11, ia, qa, rf, ba), rfl, ⟨hs, rfl, rfl, rfl, rfl, hC, hz0, hz1⟩, by rw [ht9]; exact hP, hD⟩, hS.F ht9⟩) hS.2.2 d_TT_watch_40
set_option maxHeartbeats 8000000 in
set_option maxRecDepth 100000 in
theorem k_TT_ticks_ok (l : Launch) (dC : Nat → ClassId) (dI : Nat → Nat → Nat) (cd : Nat → Nat) (kI kQ : ClassId) (L : List Nat) (isA : Nat → Bool) (bk : Nat → Nat) (sc : Nat → Int32) (ia : Nat → Nat → Int32) (qa : Nat → Nat → Option Nat) (rf ba : Nat → Nat → Int32) (sz Bd : Nat) (N : Nat) (hC : CI N L isA bk sc qa rf) (M : Nat) (hM : 1 ≤ M ∧ M ≤ 100) : Met l y_TT_ticks w_TT_ticks ({ frames := 7, cells := 0, slots := 0, locals := 163 }) (frP (dC, dI) (CW cd kI kQ L isA bk sc ia qa rf ba) (CT kI kQ) sz Bd [.ref (cd 0), .int (nI M)]) (tQ (dC, dI) (cW cd kI kQ L isA bk) (va_A (CW cd kI kQ L isA bk sc ia qa rf ba) sz) vI (fun r u => same [1, 3, 4, 5] sc u.1 ∧ ba = u.2.2.2.2 ∧ CI N L isA bk u.1 u.2.2.1 u.2.2.2.1 ∧ u.1 1 = sc 1 + nI M)) 0 0 (va_A (CW cd kI kQ L isA bk sc ia qa rf ba) sz) := by
  refine Met.ofW (cc := c_TT_ticks) (maxL := 4) (ret := (some .int)) (by decide) rfl ?_
  intro p e s m args below meth c s₁ B hml hv
  obtain ⟨rfl, ⟨hsz, hBs⟩, hP, hK, hD0, hV⟩ := hv
  have hx := B.exec
  have hb := B.bytes
  have hr := B.returns
  have ht : ∀ w ∈ tb_, w.before _ s = true := fun w h => atoms_spec (ws := w_TT_ticks) B.pre w (List.mem_cons_of_mem _ h)
  have hown : s.vm.findClass R_TT = some m.cls := findClass_of_methodNamed B.named
  have hlocks := B.notSynchronized
  subst hsz
  have hD := hD0.self (sz := s.heap.size)
  have hAB : ∀ q, va_A (CW cd kI kQ L isA bk sc ia qa rf ba) s.heap.size q → Bd ≤ q := fr_AB hD0 hBs
  generalize hAe : va_A (CW cd kI kQ L isA bk sc ia qa rf ba) s.heap.size = A at hD hAB ⊢
  have hA : ∀ q : Nat, s.heap.size ≤ q → A q := fun q h => by rw [← hAe]; exact Or.inr h
  have hS : va_S A s.heap s.heap [] := va_S.rf
  have hs : same [1, 3, 4, 5] sc sc := same.rf
  have hP : va_P (dC, dI) cls_ (CW cd kI kQ L isA bk sc ia qa rf ba) s.heap := hP
  have hl := lv_entry ([.ref (cd 0), .int (nI M)]) (n := 4) (Nat.le_of_ble_eq_true rfl)
  rw [lg_entry_eq]
  generalize (lg_sl ([.ref (cd 0), .int (nI M)]) ++ List.replicate (4 - (lg_sl ([.ref (cd 0), .int (nI M)])).length) Slot.unset).toArray = ls at hl ⊢
  have hl : lv_has ls 4 [(0, .ref (cd 0)), (1, .int (nI M))] := hl
  have hN := hC.1.1
  refine lv_iload_n hx hb d_TT_ticks_0 rfl (lv_at hl 1 rfl) ?_
  refine lv_iconst (v := 1) hx hb d_TT_ticks_1 (by decide) ?_
  refine lv_bipush (v := 100) hx hb d_TT_ticks_2 (by decide) ?_
  refine r_call (va_runS (As := [.int (nI M), .int 1, .int 100]) (rest := []) ⟨hx, hb, hml, hown, ht⟩ (k_TT_isWithin l dC dI (nI M) ((1 : Int32)) ((100 : Int32))) (va_cwS 3 ht (gS tb_273 tb_226 tb_1 tb_227) rfl rfl rfl (by decide +kernel) ⟨Nat.le_of_ble_eq_true rfl, Nat.le_of_ble_eq_true rfl⟩) ⟨rdP_blind, rd_pre (W0 := []) (tys := []) (fun k q h => by cases h) ⟨hK.1, fun k q h => by cases h⟩⟩ rfl rfl hl.1 rfl (lv_room (Nat.le_of_ble_eq_true rfl)) d_TT_ticks_4 ⟨Nat.le_of_ble_eq_true rfl, Nat.le_of_ble_eq_true rfl⟩) (fun r1 hu => ?_)
  have hu1_0 := hu
  have hu1_0 : (((1 : Int32).toInt ≤ (nI M).toInt ∧ (nI M).toInt ≤ (100 : Int32).toInt) ∧ r1 = 1 ∨ ¬ ((1 : Int32).toInt ≤ (nI M).toInt ∧ (nI M).toInt ≤ (100 : Int32).toInt) ∧ r1 = 0) := hu1_0
  refine W.eq (g2 := F0 m 7 ls [.int r1]) rfl ?_
  obtain rfl : r1 = 1 := by rcases hu1_0 with ⟨_, q⟩ | ⟨q, _⟩; { exact q }; { exact absurd (show (1 : Int32).toInt ≤ (nI M).toInt ∧ (nI M).toInt ≤ (100 : Int32).toInt by rw [l_1, l_100, nI_toInt (by omega)]; omega) q }
  refine lv_if_ne (tgt := 20) hx hb d_TT_ticks_7 (by decide) (fun _ => ?_) (fun h9 => absurd h9 (by decide))
  refine lv_iconst (v := 0) hx hb d_TT_ticks_20 (by decide) ?_
  refine lv_istore_n hx hb d_TT_ticks_21 rfl hl (by decide) rfl (fun ls hl => ?_)
  have hl : lv_has ls 4 [(2, .int 0), (0, .ref (cd 0)), (1, .int (nI M))] := hl
  refine lv_iconst (v := 0) hx hb d_TT_ticks_22 (by decide) ?_
  refine lv_istore_n hx hb d_TT_ticks_23 rfl hl (by decide) rfl (fun ls hl => ?_)
  have hl : lv_has ls 4 [(3, .int 0), (2, .int 0), (0, .ref (cd 0)), (1, .int (nI M))] := hl
  have J_24 : ∀ (n_24 : Nat) (k : Nat) (q : Int32) (sc_24 : Nat → Int32) (ia_24 : Nat → Nat → Int32) (qa_24 : Nat → Nat → Option Nat) (rf_24 : Nat → Nat → Int32) (H : Heap) (locs : List Loc) (ls : Array Slot), M - k < n_24 → k ≤ M → same [1, 3, 4, 5] sc sc_24 → CI N L isA bk sc_24 qa_24 rf_24 → sc_24 1 = sc 1 + nI k → lv_has ls 4 [(3, .int (nI k)), (2, .int q), (1, .int (nI M)), (0, .ref (cd 0))] → va_P (dC, dI) cls_ (CW cd kI kQ L isA bk sc_24 ia_24 qa_24 rf_24 ba) H → va_D A (CW cd kI kQ L isA bk sc_24 ia_24 qa_24 rf_24 ba) → va_S A s.heap H locs → W p l e (headSpec w_TT_ticks ({ frames := 7, cells := 0, slots := 0, locals := 163 })).room s m (([.ref (cd 0), .int (nI M)] : List Value).toArray) below meth c H locs 0 0 (MQ below (tQ (dC, dI) (cW cd kI kQ L isA bk) A vI (fun r u => same [1, 3, 4, 5] sc u.1 ∧ ba = u.2.2.2.2 ∧ CI N L isA bk u.1 u.2.2.1 u.2.2.2.1 ∧ u.1 1 = sc 1 + nI M)) (([.ref (cd 0), .int (nI M)] : List Value).toArray) s 0 0 A) (F0 m 24 ls []) := by
    intro n_24
    induction n_24 with
    | zero => intro k q sc_24 ia_24 qa_24 rf_24 H locs ls hmu hc24_0 hs hC h24 hl hP hD hS; exact absurd hmu (by omega)
    | succ n_24 ih_24 =>
      intro k q sc_24 ia_24 qa_24 rf_24 H locs ls hmu hc24_0 hs hC h24 hl hP hD hS
      refine lv_iload_n hx hb d_TT_ticks_24 rfl (lv_at hl 0 rfl) ?_
      refine lv_iload_n hx hb d_TT_ticks_25 rfl (lv_at hl 2 rfl) ?_
      refine lv_icmp_ge (tgt := 46) hx hb d_TT_ticks_26 (by decide) (fun h26_1 => ?_) (fun h26_1 => ?_)
      · have h26_1 := h26_1
        have i26_1 := ti_le h26_1
        (try rw [nI_toInt (show k < 2 ^ 31 by omega)] at i26_1)
        (try rw [nI_toInt (show M < 2 ^ 31 by omega)] at i26_1)
        refine lv_iload_n hx hb d_TT_ticks_46 rfl (lv_at hl 1 rfl) ?_
        have hz0 : sc_24 1 = sc 1 + nI M := by rw [h24, show k = M by omega]
        exact W.iret (v := q) hx hb hr (fun t ht9 hW => ⟨⟨q, (sc_24, ia_24, qa_24, rf_24, ba), rfl, ⟨hs, rfl, hC, hz0⟩, by rw [ht9]; exact hP, hD⟩, hS.F ht9⟩) hS.2.2 d_TT_ticks_47
      · have h26_1 := h26_1
        have i26_1 := ti_nle h26_1
        (try rw [nI_toInt (show k < 2 ^ 31 by omega)] at i26_1)
        (try rw [nI_toInt (show M < 2 ^ 31 by omega)] at i26_1)
        refine lv_iload_n hx hb d_TT_ticks_29 rfl (lv_at hl 1 rfl) ?_
        refine lv_aload_n hx hb d_TT_ticks_30 rfl (lv_at hl 3 rfl) ?_
        refine lv_aload_n hx hb d_TT_ticks_31 rfl (lv_at hl 3 rfl) ?_
        refine t_call (u0 := (sc_24, ia_24, qa_24, rf_24, ba)) (va_runV (C := R_TT) (As := []) (rest := [.ref (cd 0), .int q]) ⟨hx, hb, hml, hown, ht⟩ (k_TT_tune l dC dI cd kI kQ L isA bk sc_24 ia_24 qa_24 rf_24 ba H.size Bd N hC) (cwV 0 ht (gV tb_104 tb_106 ts_0 tb_1 tb_107) rfl rfl rfl (by decide +kernel) ⟨Nat.le_of_ble_eq_true rfl, Nat.le_of_ble_eq_true rfl⟩) ⟨frP_blind, va_recv (q := (R_TT, F_TT, 8)) hK hP rfl (show (CW cd kI kQ L isA bk sc_24 ia_24 qa_24 rf_24 ba : va_W)[0]? = some _ from rfl), fr_pre hP hK hD hAB hBs hS hV⟩ rfl rfl hl.1 rfl (lv_room (Nat.le_of_ble_eq_true rfl)) d_TT_ticks_32 ⟨Nat.le_of_ble_eq_true rfl, Nat.le_of_ble_eq_true rfl⟩) hD hS hA (fun r2 u H locs hu hP hD hS => ?_)
        obtain ⟨sc3, ia4, qa5, rf6, ba7⟩ := u
        obtain ⟨hu2_0, hu2_1, hu2_2, hu2_3⟩ := hu
        have hu2_0 : same [3] sc_24 sc3 := hu2_0
        have hu2_1 : ia_24 = ia4 := hu2_1
        have hu2_2 : ba = ba7 := hu2_2
        have hu2_3 : CI N L isA bk sc3 qa5 rf6 := hu2_3
        subst hu2_1
        subst hu2_2
        have hu2_0 : same [3] sc_24 sc3 := hu2_0
        have hP : va_P (dC, dI) cls_ (CW cd kI kQ L isA bk sc3 ia_24 qa5 rf6 ba) H := hP
        have hD : va_D A (CW cd kI kQ L isA bk sc3 ia_24 qa5 rf6 ba) := hD
        have hC : CI N L isA bk sc3 qa5 rf6 := hu2_3
        have hs : same [1, 3, 4, 5] sc sc3 := hs.tr (hu2_0.wk (by decide))
        refine W.eq (g2 := F0 m 35 ls [.int r2, .ref (cd 0), .int q]) rfl ?_
        refine W.cs (cells' := 0) (slots' := 0) rfl rfl ?_
        refine t_call (u0 := (sc3, ia_24, qa5, rf6, ba)) (va_runV (C := R_TT) (As := [.int r2]) (rest := [.int q]) ⟨hx, hb, hml, hown, ht⟩ (k_TT_passSecond l dC dI cd kI kQ L isA bk sc3 ia_24 qa5 rf6 ba H.size Bd N hC r2) (cwV 1 ht (gV tb_172 tb_174 ts_10 tb_1 tb_175) rfl rfl rfl (by decide +kernel) ⟨Nat.le_of_ble_eq_true rfl, Nat.le_of_ble_eq_true rfl⟩) ⟨frP_blind, va_recv (q := (R_TT, F_TT, 8)) hK hP rfl (show (CW cd kI kQ L isA bk sc3 ia_24 qa5 rf6 ba : va_W)[0]? = some _ from rfl), fr_pre hP hK hD hAB hBs hS hV⟩ rfl rfl hl.1 rfl (lv_room (Nat.le_of_ble_eq_true rfl)) d_TT_ticks_35 ⟨Nat.le_of_ble_eq_true rfl, Nat.le_of_ble_eq_true rfl⟩) hD hS hA (fun r8 u H locs hu hP hD hS => ?_)
        obtain ⟨sc9, ia10, qa11, rf12, ba13⟩ := u
        obtain ⟨hu8_0, hu8_1, hu8_2, hu8_3, hu8_4⟩ := hu
        have hu8_0 : same [1, 4, 5] sc3 sc9 := hu8_0
        have hu8_1 : qa5 = qa11 := hu8_1
        have hu8_2 : ba = ba13 := hu8_2
        have hu8_3 : CI N L isA bk sc9 qa11 rf12 := hu8_3
        have hu8_4 : sc9 1 = sc3 1 + 1 := hu8_4
        subst hu8_1
        subst hu8_2
        have hu8_4 : sc9 1 = sc3 1 + 1 := hu8_4
        have hu8_0 : same [1, 4, 5] sc3 sc9 := hu8_0
        have hP : va_P (dC, dI) cls_ (CW cd kI kQ L isA bk sc9 ia10 qa5 rf12 ba) H := hP
        have hD : va_D A (CW cd kI kQ L isA bk sc9 ia10 qa5 rf12 ba) := hD
        have hC : CI N L isA bk sc9 qa5 rf12 := hu8_3
        have hs : same [1, 3, 4, 5] sc sc9 := hs.tr (hu8_0.wk (by decide))
        refine W.eq (g2 := F0 m 38 ls [.int r8, .int q]) rfl ?_
        refine W.cs (cells' := 0) (slots' := 0) rfl rfl ?_
        refine lv_iadd hx hb d_TT_ticks_38 ?_
        refine lv_istore_n hx hb d_TT_ticks_39 rfl hl (by decide) rfl (fun ls hl => ?_)
        have hl : lv_has ls 4 [(2, .int (q + r8)), (3, .int (nI k)), (1, .int (nI M)), (0, .ref (cd 0))] := hl
        refine lv_iinc (k := 1) (v := nI (k + 1)) hx hb d_TT_ticks_40 hl rfl ((nI_succ k).symm) (by decide) rfl (fun ls hl => ?_)
        have hl : lv_has ls 4 [(3, .int (nI (k + 1))), (2, .int (q + r8)), (1, .int (nI M)), (0, .ref (cd 0))] := hl
        refine lv_goto (tgt := 24) hx hb d_TT_ticks_43 (by decide) ?_
        exact ih_24 (k + 1) (q + r8) sc9 ia10 qa5 rf12 H _ ls (by omega) (by omega) hs hC (by rw [hu8_4, hu2_0 1 (by decide), h24, nI_succ, Int32.add_assoc]) hl hP hD hS
  have hl := lv_sub hl [0, 1, 3, 2] (l' := [(3, .int 0), (2, .int 0), (1, .int (nI M)), (0, .ref (cd 0))]) rfl
  have hl : lv_has ls 4 [(3, .int (nI 0)), (2, .int 0), (1, .int (nI M)), (0, .ref (cd 0))] := hl
  exact J_24 ((M - 0) + 1) 0 0 sc ia qa rf s.heap _ ls (by omega) (by omega) hs hC ((Int32.add_zero _).symm) hl hP hD hS
set_option maxHeartbeats 8000000 in
set_option maxRecDepth 100000 in
theorem k_TT_cut_ok (l : Launch) (dC : Nat → ClassId) (dI : Nat → Nat → Nat) (cd : Nat → Nat) (kI kQ : ClassId) (L : List Nat) (isA : Nat → Bool) (bk : Nat → Nat) (sc : Nat → Int32) (ia : Nat → Nat → Int32) (qa : Nat → Nat → Option Nat) (rf ba : Nat → Nat → Int32) (sz Bd : Nat) (N : Nat) (hC : CI N L isA bk sc qa rf) (x : Int32) (h : (sc 1).toInt ≤ x.toInt ∧ x.toInt ≤ (sc 1 + 1000).toInt) : Met l y_TT_cut w_TT_cut ({ frames := 2, cells := 0, slots := 0, locals := 46 }) (frP (dC, dI) (CW cd kI kQ L isA bk sc ia qa rf ba) (CT kI kQ) sz Bd [.ref (cd 0), .int x]) (tQ (dC, dI) (cW cd kI kQ L isA bk) (va_A (CW cd kI kQ L isA bk sc ia qa rf ba) sz) vI (fun r u => same [1, 5] sc u.1 ∧ qa = u.2.2.1 ∧ ba = u.2.2.2.2 ∧ CI N L isA bk u.1 u.2.2.1 u.2.2.2.1 ∧ u.1 1 = x)) 0 0 (va_A (CW cd kI kQ L isA bk sc ia qa rf ba) sz) := by
  refine Met.ofW (cc := c_TT_cut) (maxL := 5) (ret := (some .int)) (by decide) rfl ?_
  intro p e s m args below meth c s₁ B hml hv
  obtain ⟨rfl, ⟨hsz, hBs⟩, hP, hK, hD0, hV⟩ := hv
  have hx := B.exec
  have hb := B.bytes
  have hr := B.returns
  have ht : ∀ w ∈ tb_, w.before _ s = true := fun w h => atoms_spec (ws := w_TT_cut) B.pre w (List.mem_cons_of_mem _ h)
  have hown : s.vm.findClass R_TT = some m.cls := findClass_of_methodNamed B.named
  have hlocks := B.notSynchronized
  subst hsz
  have hD := hD0.self (sz := s.heap.size)
  have hAB : ∀ q, va_A (CW cd kI kQ L isA bk sc ia qa rf ba) s.heap.size q → Bd ≤ q := fr_AB hD0 hBs
  generalize hAe : va_A (CW cd kI kQ L isA bk sc ia qa rf ba) s.heap.size = A at hD hAB ⊢
  have hA : ∀ q : Nat, s.heap.size ≤ q → A q := fun q h => by rw [← hAe]; exact Or.inr h
  have hS : va_S A s.heap s.heap [] := va_S.rf
  have hs : same [1, 5] sc sc := same.rf
  have hP : va_P (dC, dI) cls_ (CW cd kI kQ L isA bk sc ia qa rf ba) s.heap := hP
  have hl := lv_entry ([.ref (cd 0), .int x]) (n := 5) (Nat.le_of_ble_eq_true rfl)
  rw [lg_entry_eq]
  generalize (lg_sl ([.ref (cd 0), .int x]) ++ List.replicate (5 - (lg_sl ([.ref (cd 0), .int x])).length) Slot.unset).toArray = ls at hl ⊢
  have hl : lv_has ls 5 [(0, .ref (cd 0)), (1, .int x)] := hl
  have hN := hC.1.1
  refine lv_aload_n hx hb d_TT_cut_0 rfl (lv_at hl 0 rfl) ?_
  refine lv_iload_n hx hb d_TT_cut_1 rfl (lv_at hl 1 rfl) ?_
  refine r_call (va_runV (C := R_TT) (As := [.int x]) (rest := []) ⟨hx, hb, hml, hown, ht⟩ (k_TT_isAhead l dC dI cd kI kQ L isA bk sc ia qa rf ba N hC x) (cwV 1 ht (gV tb_274 tb_276 ts_17 tb_1 tb_277) rfl rfl rfl (by decide +kernel) ⟨Nat.le_of_ble_eq_true rfl, Nat.le_of_ble_eq_true rfl⟩) ⟨rdP_blind, va_recv (q := (R_TT, F_TT, 8)) hK hP rfl (show (CW cd kI kQ L isA bk sc ia qa rf ba : va_W)[0]? = some _ from rfl), rd_pre hP hK⟩ rfl rfl hl.1 rfl (lv_room (Nat.le_of_ble_eq_true rfl)) d_TT_cut_2 ⟨Nat.le_of_ble_eq_true rfl, Nat.le_of_ble_eq_true rfl⟩) (fun r1 hu => ?_)
  have hu1_0 := hu
  have hu1_0 : (((sc 1).toInt ≤ x.toInt ∧ x.toInt ≤ (sc 1 + 1000).toInt) ∧ r1 = 1 ∨ ¬ ((sc 1).toInt ≤ x.toInt ∧ x.toInt ≤ (sc 1 + 1000).toInt) ∧ r1 = 0) := hu1_0
  refine W.eq (g2 := F0 m 5 ls [.int r1]) rfl ?_
  obtain rfl : r1 = 1 := by rcases hu1_0 with ⟨_, q⟩ | ⟨q, _⟩; { exact q }; { exact absurd h q }
  refine lv_if_ne (tgt := 18) hx hb d_TT_cut_5 (by decide) (fun _ => ?_) (fun h9 => absurd h9 (by decide))
  refine lv_iconst (v := 0) hx hb d_TT_cut_18 (by decide) ?_
  refine lv_istore_n hx hb d_TT_cut_19 rfl hl (by decide) rfl (fun ls hl => ?_)
  have hl : lv_has ls 5 [(2, .int 0), (0, .ref (cd 0)), (1, .int x)] := hl
  refine lv_iconst (v := 0) hx hb d_TT_cut_20 (by decide) ?_
  refine lv_istore_n hx hb d_TT_cut_21 rfl hl (by decide) rfl (fun ls hl => ?_)
  have hl : lv_has ls 5 [(3, .int 0), (2, .int 0), (0, .ref (cd 0)), (1, .int x)] := hl
  have J_22 : ∀ (n_22 : Nat) (k : Nat) (q : Int32) (ia_22 : Nat → Nat → Int32) (rf_22 : Nat → Nat → Int32) (H : Heap) (locs : List Loc) (ls : Array Slot), N - k < n_22 → k ≤ N → CI N L isA bk sc qa rf_22 → lv_has ls 5 [(3, .int (nI k)), (2, .int q), (1, .int x), (0, .ref (cd 0))] → va_P (dC, dI) cls_ (CW cd kI kQ L isA bk sc ia_22 qa rf_22 ba) H → va_D A (CW cd kI kQ L isA bk sc ia_22 qa rf_22 ba) → va_S A s.heap H locs → W p l e (headSpec w_TT_cut ({ frames := 2, cells := 0, slots := 0, locals := 46 })).room s m (([.ref (cd 0), .int x] : List Value).toArray) below meth c H locs 0 0 (MQ below (tQ (dC, dI) (cW cd kI kQ L isA bk) A vI (fun r u => same [1, 5] sc u.1 ∧ qa = u.2.2.1 ∧ ba = u.2.2.2.2 ∧ CI N L isA bk u.1 u.2.2.1 u.2.2.2.1 ∧ u.1 1 = x)) (([.ref (cd 0), .int x] : List Value).toArray) s 0 0 A) (F0 m 22 ls []) := by
    intro n_22
    induction n_22 with
    | zero => intro k q ia_22 rf_22 H locs ls hmu hc22_0 hC hl hP hD hS; exact absurd hmu (by omega)
    | succ n_22 ih_22 =>
      intro k q ia_22 rf_22 H locs ls hmu hc22_0 hC hl hP hD hS
      refine lv_iload_n hx hb d_TT_cut_22 rfl (lv_at hl 0 rfl) ?_
      refine lv_aload_n hx hb d_TT_cut_23 rfl (lv_at hl 3 rfl) ?_
      refine va_get (D := (dC, dI)) (ci := 0) (v := .int (sc 0)) (C := R_TT) (T := F_TT) (N := 8) hx hb ht in_TT hown hK hP 0 rfl rfl 5 (by decide) (ht _ tb_80) (fun _ h9 => h9) rfl d_TT_cut_24 ?_
      refine W.eq (g2 := F0 m 27 ls [.int (nI N), .int (nI k)]) (by rw [show sc 0 = nI N from hC.1.2]) ?_
      refine lv_icmp_ge (tgt := 132) hx hb d_TT_cut_27 (by decide) (fun h27_1 => ?_) (fun h27_1 => ?_)
      · have h27_1 := h27_1
        have i27_1 := ti_le h27_1
        (try rw [nI_toInt (show k < 2 ^ 31 by omega)] at i27_1)
        (try rw [nI_toInt (show N < 2 ^ 31 by omega)] at i27_1)
        refine lv_aload_n hx hb d_TT_cut_132 rfl (lv_at hl 3 rfl) ?_
        refine va_get (D := (dC, dI)) (ci := 0) (v := .ref (cd 10)) (C := R_TT) (T := F_TT) (N := 8) hx hb ht in_TT hown hK hP 0 rfl rfl 4 (by decide) (ht _ tb_79) (fun _ h9 => h9) rfl d_TT_cut_133 ?_
        refine t_call (u0 := (sc, ia_22, qa, rf_22, ba)) (va_runV (C := R_RW) (As := []) (rest := []) ⟨hx, hb, hml, hown, ht⟩ (k_RW_forget l dC dI cd kI kQ L isA bk sc ia_22 qa rf_22 ba H.size Bd N hC) (cwV 0 ht (gV tb_239 tb_240 tb_241 tb_4 tb_242) rfl rfl rfl (by decide +kernel) ⟨Nat.le_of_ble_eq_true rfl, Nat.le_of_ble_eq_true rfl⟩) ⟨frP_blind, va_recv (q := (R_RW, F_RW, 3)) hK hP rfl (show (CW cd kI kQ L isA bk sc ia_22 qa rf_22 ba : va_W)[10]? = some _ from rfl), fr_pre hP hK hD hAB hBs hS hV⟩ rfl rfl hl.1 rfl (lv_room (Nat.le_of_ble_eq_true rfl)) d_TT_cut_136 ⟨Nat.le_of_ble_eq_true rfl, Nat.le_of_ble_eq_true rfl⟩) hD hS hA (fun r2 u H locs hu hP hD hS => ?_)
        obtain ⟨sc3, ia4, qa5, rf6, ba7⟩ := u
        obtain ⟨hu2_0, hu2_1, hu2_2, hu2_3, hu2_4, hu2_5⟩ := hu
        have hu2_0 : same [5] sc sc3 := hu2_0
        have hu2_1 : ia_22 = ia4 := hu2_1
        have hu2_2 : qa = qa5 := hu2_2
        have hu2_3 : rf_22 = rf6 := hu2_3
        have hu2_4 : ba = ba7 := hu2_4
        have hu2_5 : CI N L isA bk sc3 qa5 rf6 := hu2_5
        subst hu2_1
        subst hu2_2
        subst hu2_3
        subst hu2_4
        have hu2_0 : same [5] sc sc3 := hu2_0
        have hP : va_P (dC, dI) cls_ (CW cd kI kQ L isA bk sc3 ia_22 qa rf_22 ba) H := hP
        have hD : va_D A (CW cd kI kQ L isA bk sc3 ia_22 qa rf_22 ba) := hD
        have hC : CI N L isA bk sc3 qa rf_22 := hu2_5
        have hs : same [1, 5] sc sc3 := hs.tr (hu2_0.wk (by decide))
        refine W.eq (g2 := F0 m 139 ls []) rfl ?_
        refine W.cs (cells' := 0) (slots' := 0) rfl rfl ?_
        refine lv_aload_n hx hb d_TT_cut_139 rfl (lv_at hl 3 rfl) ?_
        refine lv_iload_n hx hb d_TT_cut_140 rfl (lv_at hl 2 rfl) ?_
        refine va_put (D := (dC, dI)) (ci := 0) (v := .int x) (ty := .int) (C := R_TT) (T := F_TT) (N := 8) hx hb ht in_TT t_TT t_TT_ok n_TT hown hK hP hD hS 0 rfl rfl 6 (by decide) (ht _ tb_81) (fun _ h9 => h9) rfl (by decide +kernel) rfl rfl (Nat.le_of_ble_eq_true rfl) d_TT_cut_141 (fun H locs hP hD hS => ?_)
        have hP : va_P (dC, dI) cls_ (CW cd kI kQ L isA bk (va_up sc3 1 x) ia_22 qa rf_22 ba) H := hP
        have hD : va_D A (CW cd kI kQ L isA bk (va_up sc3 1 x) ia_22 qa rf_22 ba) := hD
        obtain ⟨sc8, esc8⟩ : ∃ q9_, q9_ = va_up sc3 1 x := ⟨_, rfl⟩
        rw [← esc8] at hP hD
        have hs : same [1, 5] sc sc8 := by rw [esc8]; exact hs.up (by decide)
        have hC : CI N L isA bk sc8 qa rf_22 := by rw [esc8]; exact CI_s1 hC
        refine lv_iload_n hx hb d_TT_cut_144 rfl (lv_at hl 1 rfl) ?_
        have hz0 : sc8 1 = x := (show sc8 1 = x by rw [esc8]; rfl)
        exact W.iret (v := q) hx hb hr (fun t ht9 hW => ⟨⟨q, (sc8, ia_22, qa, rf_22, ba), rfl, ⟨hs, rfl, rfl, hC, hz0⟩, by rw [ht9]; exact hP, hD⟩, hS.F ht9⟩) hS.2.2 d_TT_cut_145
      · have h27_1 := h27_1
        have i27_1 := ti_nle h27_1
        (try rw [nI_toInt (show k < 2 ^ 31 by omega)] at i27_1)
        (try rw [nI_toInt (show N < 2 ^ 31 by omega)] at i27_1)
        refine lv_aload_n hx hb d_TT_cut_30 rfl (lv_at hl 3 rfl) ?_
        refine va_get (D := (dC, dI)) (ci := 0) (v := .ref (cd 1)) (C := R_TT) (T := F_TT) (N := 8) hx hb ht in_TT hown hK hP 0 rfl rfl 0 (by decide) (ht _ tb_75) (fun _ h9 => h9) rfl d_TT_cut_31 ?_
        refine lv_iload_n hx hb d_TT_cut_34 rfl (lv_at hl 0 rfl) ?_
        refine va_aldq (C := "TwinTuners$Request") hx hb hK hP 1 1 rfl rfl (vp_in_nI (show k < 40 by omega) (by decide)) d_TT_cut_35 ?_
        obtain ⟨a9, ea9, haa9, hna9⟩ := hC.2.2.2.2.2.1 k (by omega)
        refine W.eq (g2 := F0 m 36 ls [.ref a9]) (by rw [nI_clamp (show k < 2 ^ 31 by omega), ea9]; rfl) ?_
        refine lv_astore hx hb d_TT_cut_36 hl (by decide) rfl (fun ls hl => ?_)
        have hl : lv_has ls 5 [(4, .ref a9), (3, .int (nI k)), (2, .int q), (1, .int x), (0, .ref (cd 0))] := hl
        refine lv_aload hx hb d_TT_cut_38 (lv_at hl 0 rfl) ?_
        obtain ⟨kq, hkq⟩ := pq_at (X := CX cd kI kQ sc ia_22 qa) (kI := kI) (bk := bk) (rf := rf_22) (ba := ba) haa9 hna9
        refine va_get (D := (dC, dI)) (ci := 4) (v := .int (rf_22 a9 8)) (C := R_RQ) (T := F_RQ) (N := 17) hx hb ht in_RQ hown hK hP kq hkq rfl 8 (by decide) (ht _ tb_392) (fun _ h9 => h9) rfl d_TT_cut_40 ?_
        refine lv_iconst (v := 1) hx hb d_TT_cut_43 (by decide) ?_
        refine lv_icmp_ne (tgt := 103) hx hb d_TT_cut_44 (by decide) (fun h44_2 => ?_) (fun h44_2 => ?_)
        · have h44_2 := h44_2
          have i44_2 := ti_ne h44_2
          (try rw [l_1] at i44_2)
          refine lv_aload hx hb d_TT_cut_103 (lv_at hl 0 rfl) ?_
          obtain ⟨kq, hkq⟩ := pq_at (X := CX cd kI kQ sc ia_22 qa) (kI := kI) (bk := bk) (rf := rf_22) (ba := ba) haa9 hna9
          refine va_get (D := (dC, dI)) (ci := 4) (v := .int (rf_22 a9 8)) (C := R_RQ) (T := F_RQ) (N := 17) hx hb ht in_RQ hown hK hP kq hkq rfl 8 (by decide) (ht _ tb_392) (fun _ h9 => h9) rfl d_TT_cut_105 ?_
          refine lv_if_ne (tgt := 126) hx hb d_TT_cut_108 (by decide) (fun h108_3 => ?_) (fun h108_3 => ?_)
          · have h108_3 := h108_3
            have i108_3 := ti_ne h108_3
            (try rw [l_0] at i108_3)
            refine lv_iinc (k := 1) (v := nI (k + 1)) hx hb d_TT_cut_126 hl rfl ((nI_succ k).symm) (by decide) rfl (fun ls hl => ?_)
            have hl : lv_has ls 5 [(3, .int (nI (k + 1))), (4, .ref a9), (2, .int q), (1, .int x), (0, .ref (cd 0))] := hl
            refine lv_goto (tgt := 22) hx hb d_TT_cut_129 (by decide) ?_
            have hl := lv_sub hl [0, 2, 3, 4] (l' := [(3, .int (nI (k + 1))), (2, .int q), (1, .int x), (0, .ref (cd 0))]) rfl
            exact ih_22 (k + 1) q ia_22 rf_22 H _ ls (by omega) (by omega) hC hl hP hD hS
          · have h108_3 := h108_3
            have i108_3 := ti_eq h108_3
            (try rw [l_0] at i108_3)
            refine lv_aload hx hb d_TT_cut_111 (lv_at hl 0 rfl) ?_
            obtain ⟨kq, hkq⟩ := pq_at (X := CX cd kI kQ sc ia_22 qa) (kI := kI) (bk := bk) (rf := rf_22) (ba := ba) haa9 hna9
            refine va_get (D := (dC, dI)) (ci := 4) (v := .int (rf_22 a9 2)) (C := R_RQ) (T := F_RQ) (N := 17) hx hb ht in_RQ hown hK hP kq hkq rfl 2 (by decide) (ht _ tb_379) (fun _ h9 => h9) rfl d_TT_cut_113 ?_
            refine lv_iload_n hx hb d_TT_cut_116 rfl (lv_at hl 3 rfl) ?_
            refine lv_icmp_ge (tgt := 126) hx hb d_TT_cut_117 (by decide) (fun h117_4 => ?_) (fun h117_4 => ?_)
            · have h117_4 := h117_4
              have i117_4 := ti_le h117_4
              refine lv_iinc (k := 1) (v := nI (k + 1)) hx hb d_TT_cut_126 hl rfl ((nI_succ k).symm) (by decide) rfl (fun ls hl => ?_)
              have hl : lv_has ls 5 [(3, .int (nI (k + 1))), (4, .ref a9), (2, .int q), (1, .int x), (0, .ref (cd 0))] := hl
              refine lv_goto (tgt := 22) hx hb d_TT_cut_129 (by decide) ?_
              have hl := lv_sub hl [0, 2, 3, 4] (l' := [(3, .int (nI (k + 1))), (2, .int q), (1, .int x), (0, .ref (cd 0))]) rfl
              exact ih_22 (k + 1) q ia_22 rf_22 H _ ls (by omega) (by omega) hC hl hP hD hS
            · have h117_4 := h117_4
              have i117_4 := ti_nle h117_4
              refine lv_aload hx hb d_TT_cut_120 (lv_at hl 0 rfl) ?_
              refine lv_iconst (v := 3) hx hb d_TT_cut_122 (by decide) ?_
              obtain ⟨kq, hkq⟩ := pq_at (X := CX cd kI kQ sc ia_22 qa) (kI := kI) (bk := bk) (rf := rf_22) (ba := ba) haa9 hna9
              have hD0 := hD
              refine va_put (D := (dC, dI)) (ci := 4) (v := .int 3) (ty := .int) (C := R_RQ) (T := F_RQ) (N := 17) hx hb ht in_RQ t_RQ t_RQ_ok n_RQ hown hK hP hD hS kq hkq rfl 8 (by decide) (ht _ tb_392) (fun _ h9 => h9) rfl (by decide +kernel) rfl rfl (Nat.le_of_ble_eq_true rfl) d_TT_cut_123 (fun H locs hP hD hS => ?_)
              rw [pq_set hD0 haa9 hna9 hkq rfl] at hP hD
              have hP : va_P (dC, dI) cls_ (CW cd kI kQ L isA bk sc ia_22 qa (va_up rf_22 a9 (va_up (rf_22 a9) 8 3)) ba) H := hP
              have hD : va_D A (CW cd kI kQ L isA bk sc ia_22 qa (va_up rf_22 a9 (va_up (rf_22 a9) 8 3)) ba) := hD
              obtain ⟨rf10, erf10⟩ : ∃ q9_, q9_ = va_up rf_22 a9 (va_up (rf_22 a9) 8 3) := ⟨_, rfl⟩
              rw [← erf10] at hP hD
              have hC : CI N L isA bk sc qa rf10 := by rw [erf10]; exact CI_r hC (by decide) (Or.inl (by decide))
              refine lv_iinc (k := 1) (v := nI (k + 1)) hx hb d_TT_cut_126 hl rfl ((nI_succ k).symm) (by decide) rfl (fun ls hl => ?_)
              have hl : lv_has ls 5 [(3, .int (nI (k + 1))), (4, .ref a9), (2, .int q), (1, .int x), (0, .ref (cd 0))] := hl
              refine lv_goto (tgt := 22) hx hb d_TT_cut_129 (by decide) ?_
              have hl := lv_sub hl [0, 2, 3, 4] (l' := [(3, .int (nI (k + 1))), (2, .int q), (1, .int x), (0, .ref (cd 0))]) rfl
              exact ih_22 (k + 1) q ia_22 rf10 H _ ls (by omega) (by omega) hC hl hP hD hS
        · have h44_2 := h44_2
          have i44_2 := ti_eq h44_2
          (try rw [l_1] at i44_2)
          refine lv_iload_n hx hb d_TT_cut_47 rfl (lv_at hl 2 rfl) ?_
          refine lv_aload_n hx hb d_TT_cut_48 rfl (lv_at hl 4 rfl) ?_
          refine va_get (D := (dC, dI)) (ci := 0) (v := .ref (cd 5)) (C := R_TT) (T := F_TT) (N := 8) hx hb ht in_TT hown hK hP 0 rfl rfl 3 (by decide) (ht _ tb_78) (fun _ h9 => h9) rfl d_TT_cut_49 ?_
          refine lv_aload hx hb d_TT_cut_52 (lv_at hl 0 rfl) ?_
          obtain ⟨kq, hkq⟩ := pq_at (X := CX cd kI kQ sc ia_22 qa) (kI := kI) (bk := bk) (rf := rf_22) (ba := ba) haa9 hna9
          refine va_get (D := (dC, dI)) (ci := 4) (v := .int (rf_22 a9 0)) (C := R_RQ) (T := F_RQ) (N := 17) hx hb ht in_RQ hown hK hP kq hkq rfl 0 (by decide) (ht _ tb_373) (fun _ h9 => h9) rfl d_TT_cut_54 ?_
          refine lv_aload_n hx hb d_TT_cut_57 rfl (lv_at hl 4 rfl) ?_
          refine va_get (D := (dC, dI)) (ci := 0) (v := .int (sc 1)) (C := R_TT) (T := F_TT) (N := 8) hx hb ht in_TT hown hK hP 0 rfl rfl 6 (by decide) (ht _ tb_81) (fun _ h9 => h9) rfl d_TT_cut_58 ?_
          refine lv_aload hx hb d_TT_cut_61 (lv_at hl 0 rfl) ?_
          obtain ⟨kq, hkq⟩ := pq_at (X := CX cd kI kQ sc ia_22 qa) (kI := kI) (bk := bk) (rf := rf_22) (ba := ba) haa9 hna9
          refine va_get (D := (dC, dI)) (ci := 4) (v := .int (rf_22 a9 9)) (C := R_RQ) (T := F_RQ) (N := 17) hx hb ht in_RQ hown hK hP kq hkq rfl 9 (by decide) (ht _ tb_395) (fun _ h9 => h9) rfl d_TT_cut_63 ?_
          refine lv_isub hx hb d_TT_cut_66 ?_
          refine lv_iconst (v := 4) hx hb d_TT_cut_67 (by decide) ?_
          refine lv_idiv hx hb d_TT_cut_68 (by decide) ?_
          refine lv_topi (fun z11 _ => ?_)
          refine t_call (u0 := (sc, ia_22, qa, rf_22, ba)) (va_runV (C := R_DK) (As := [.int (rf_22 a9 0), .int z11]) (rest := [.int q]) ⟨hx, hb, hml, hown, ht⟩ (k_DK_loseSegment l dC dI cd kI kQ L isA bk sc ia_22 qa rf_22 ba H.size Bd N hC (rf_22 a9 0) z11) (cwV 2 ht (gV tb_618 tb_619 tb_620 tb_3 tb_621) rfl rfl rfl (by decide +kernel) ⟨Nat.le_of_ble_eq_true rfl, Nat.le_of_ble_eq_true rfl⟩) ⟨frP_blind, va_recv (q := (R_DK, F_DK, 4)) hK hP rfl (show (CW cd kI kQ L isA bk sc ia_22 qa rf_22 ba : va_W)[5]? = some _ from rfl), fr_pre hP hK hD hAB hBs hS hV⟩ rfl rfl hl.1 rfl (lv_room (Nat.le_of_ble_eq_true rfl)) d_TT_cut_69 ⟨Nat.le_of_ble_eq_true rfl, Nat.le_of_ble_eq_true rfl⟩) hD hS hA (fun r12 u H locs hu hP hD hS => ?_)
          obtain ⟨sc13, ia14, qa15, rf16, ba17⟩ := u
          obtain ⟨hu12_0, hu12_1, hu12_2, hu12_3, hu12_4⟩ := hu
          have hu12_0 : sc = sc13 := hu12_0
          have hu12_1 : qa = qa15 := hu12_1
          have hu12_2 : rf_22 = rf16 := hu12_2
          have hu12_3 : ba = ba17 := hu12_3
          have hu12_4 : CI N L isA bk sc13 qa15 rf16 := hu12_4
          subst hu12_0
          subst hu12_1
          subst hu12_2
          subst hu12_3
          have hP : va_P (dC, dI) cls_ (CW cd kI kQ L isA bk sc ia14 qa rf_22 ba) H := hP
          have hD : va_D A (CW cd kI kQ L isA bk sc ia14 qa rf_22 ba) := hD
          have hC : CI N L isA bk sc qa rf_22 := hu12_4
          refine W.eq (g2 := F0 m 72 ls [.int r12, .int q]) rfl ?_
          refine W.cs (cells' := 0) (slots' := 0) rfl rfl ?_
          refine lv_iadd hx hb d_TT_cut_72 ?_
          refine lv_istore_n hx hb d_TT_cut_73 rfl hl (by decide) rfl (fun ls hl => ?_)
          have hl : lv_has ls 5 [(2, .int (q + r12)), (4, .ref a9), (3, .int (nI k)), (1, .int x), (0, .ref (cd 0))] := hl
          refine lv_aload hx hb d_TT_cut_74 (lv_at hl 1 rfl) ?_
          obtain ⟨kq, hkq⟩ := pq_at (X := CX cd kI kQ sc ia14 qa) (kI := kI) (bk := bk) (rf := rf_22) (ba := ba) haa9 hna9
          refine va_get (D := (dC, dI)) (ci := 4) (v := .int (rf_22 a9 3)) (C := R_RQ) (T := F_RQ) (N := 17) hx hb ht in_RQ hown hK hP kq hkq rfl 3 (by decide) (ht _ tb_382) (fun _ h9 => h9) rfl d_TT_cut_76 ?_
          refine lv_iload_n hx hb d_TT_cut_79 rfl (lv_at hl 3 rfl) ?_
          refine lv_icmp_gt (tgt := 126) hx hb d_TT_cut_80 (by decide) (fun h80_5 => ?_) (fun h80_5 => ?_)
          · have h80_5 := h80_5
            have i80_5 := ti_lt h80_5
            refine lv_iinc (k := 2) (v := nI (k + 1)) hx hb d_TT_cut_126 hl rfl ((nI_succ k).symm) (by decide) rfl (fun ls hl => ?_)
            have hl : lv_has ls 5 [(3, .int (nI (k + 1))), (2, .int (q + r12)), (4, .ref a9), (1, .int x), (0, .ref (cd 0))] := hl
            refine lv_goto (tgt := 22) hx hb d_TT_cut_129 (by decide) ?_
            have hl := lv_sub hl [0, 1, 3, 4] (l' := [(3, .int (nI (k + 1))), (2, .int (q + r12)), (1, .int x), (0, .ref (cd 0))]) rfl
            exact ih_22 (k + 1) (q + r12) ia14 rf_22 H _ ls (by omega) (by omega) hC hl hP hD hS
          · have h80_5 := h80_5
            have i80_5 := ti_nlt h80_5
            refine lv_aload hx hb d_TT_cut_83 (lv_at hl 1 rfl) ?_
            refine lv_aload hx hb d_TT_cut_85 (lv_at hl 1 rfl) ?_
            obtain ⟨kq, hkq⟩ := pq_at (X := CX cd kI kQ sc ia14 qa) (kI := kI) (bk := bk) (rf := rf_22) (ba := ba) haa9 hna9
            refine va_get (D := (dC, dI)) (ci := 4) (v := .int (rf_22 a9 3)) (C := R_RQ) (T := F_RQ) (N := 17) hx hb ht in_RQ hown hK hP kq hkq rfl 3 (by decide) (ht _ tb_382) (fun _ h9 => h9) rfl d_TT_cut_87 ?_
            refine lv_aload_n hx hb d_TT_cut_90 rfl (lv_at hl 4 rfl) ?_
            refine va_get (D := (dC, dI)) (ci := 0) (v := .int (sc 1)) (C := R_TT) (T := F_TT) (N := 8) hx hb ht in_TT hown hK hP 0 rfl rfl 6 (by decide) (ht _ tb_81) (fun _ h9 => h9) rfl d_TT_cut_91 ?_
            refine va_mmax hx hb (hml.trans hl.1.symm) hown (ht _ tb_622) (ht _ tb_623) (ht _ tb_14) (show (Cond.code Lib.Math.max.name Lib.Math.max.code 2 (some .int)).before _ s = true from ht _ tb_624) (Nat.le_of_ble_eq_true rfl) (Nat.le_of_ble_eq_true rfl) (Nat.le_of_ble_eq_true rfl) (Nat.le_of_ble_eq_true rfl) d_TT_cut_94 ?_
            refine lv_topi (fun z18 ez18 => ?_)
            obtain ⟨kq, hkq⟩ := pq_at (X := CX cd kI kQ sc ia14 qa) (kI := kI) (bk := bk) (rf := rf_22) (ba := ba) haa9 hna9
            refine t_call (u0 := (sc, ia14, qa, rf_22, ba)) (va_runV (C := R_RQ) (As := [.int z18]) (rest := []) ⟨hx, hb, hml, hown, ht⟩ (k_RQ_finishAt l dC dI cd kI kQ L isA bk sc ia14 qa rf_22 ba H.size Bd N hC a9 haa9 hna9 z18) (cwV 1 ht (gV tb_477 tb_478 tb_479 tb_11 tb_480) rfl rfl rfl (by decide +kernel) ⟨Nat.le_of_ble_eq_true rfl, Nat.le_of_ble_eq_true rfl⟩) ⟨frP_blind, va_recv (q := (R_RQ, F_RQ, 17)) hK hP rfl hkq, fr_pre hP hK hD hAB hBs hS hV⟩ rfl rfl hl.1 rfl (lv_room (Nat.le_of_ble_eq_true rfl)) d_TT_cut_97 ⟨Nat.le_of_ble_eq_true rfl, Nat.le_of_ble_eq_true rfl⟩) hD hS hA (fun r19 u H locs hu hP hD hS => ?_)
            obtain ⟨sc20, ia21, qa22, rf23, ba24⟩ := u
            obtain ⟨hu19_0, hu19_1, hu19_2, hu19_3, hu19_4⟩ := hu
            have hu19_0 : sc = sc20 := hu19_0
            have hu19_1 : ia14 = ia21 := hu19_1
            have hu19_2 : qa = qa22 := hu19_2
            have hu19_3 : ba = ba24 := hu19_3
            have hu19_4 : CI N L isA bk sc20 qa22 rf23 := hu19_4
            subst hu19_0
            subst hu19_1
            subst hu19_2
            subst hu19_3
            have hP : va_P (dC, dI) cls_ (CW cd kI kQ L isA bk sc ia14 qa rf23 ba) H := hP
            have hD : va_D A (CW cd kI kQ L isA bk sc ia14 qa rf23 ba) := hD
            have hC : CI N L isA bk sc qa rf23 := hu19_4
            refine W.eq (g2 := F0 m 100 ls []) rfl ?_
            refine W.cs (cells' := 0) (slots' := 0) rfl rfl ?_
            refine lv_goto (tgt := 126) hx hb d_TT_cut_100 (by decide) ?_
            refine lv_iinc (k := 2) (v := nI (k + 1)) hx hb d_TT_cut_126 hl rfl ((nI_succ k).symm) (by decide) rfl (fun ls hl => ?_)
            have hl : lv_has ls 5 [(3, .int (nI (k + 1))), (2, .int (q + r12)), (4, .ref a9), (1, .int x), (0, .ref (cd 0))] := hl
            refine lv_goto (tgt := 22) hx hb d_TT_cut_129 (by decide) ?_
            have hl := lv_sub hl [0, 1, 3, 4] (l' := [(3, .int (nI (k + 1))), (2, .int (q + r12)), (1, .int x), (0, .ref (cd 0))]) rfl
            exact ih_22 (k + 1) (q + r12) ia14 rf23 H _ ls (by omega) (by omega) hC hl hP hD hS
  have hl := lv_sub hl [0, 1, 3, 2] (l' := [(3, .int 0), (2, .int 0), (1, .int x), (0, .ref (cd 0))]) rfl
  have hl : lv_has ls 5 [(3, .int (nI 0)), (2, .int 0), (1, .int x), (0, .ref (cd 0))] := hl
  exact J_22 ((N - 0) + 1) 0 0 ia rf s.heap _ ls (by omega) (by omega) hC hl hP hD hS
